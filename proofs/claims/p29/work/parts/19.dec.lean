noncomputable def ch_wsX11_age : List (List Cond) := [([.code yX11_age cX11_age 3 (some .int)] : List Cond), wsX11_age_r1, wsX11_age_r2, wsX110, wsX70, wsX20, wsX90, wsX10]
set_option maxRecDepth 20000 in
theorem ch_wsX11_age_flat : ch_wsX11_age.flatten = wsX11_age := by
  simp only [ch_wsX11_age, wsX11_age, List.flatten_cons, List.flatten_nil, List.append_nil, List.nil_append, List.cons_append, List.append_assoc]
set_option maxRecDepth 20000 in
theorem gd_wsX11_age : wsX11_age.all goodWord = true := by decide +kernel
noncomputable def ch_wsX11_worms : List (List Cond) := [([.code yX11_worms cX11_worms 3 (some .int)] : List Cond), wsX11_worms_r1, wsX11_worms_r2, wsX110, wsX70]
set_option maxRecDepth 20000 in
theorem ch_wsX11_worms_flat : ch_wsX11_worms.flatten = wsX11_worms := by
  simp only [ch_wsX11_worms, wsX11_worms, List.flatten_cons, List.flatten_nil, List.append_nil, List.nil_append, List.cons_append, List.append_assoc]
set_option maxRecDepth 20000 in
theorem gd_wsX11_worms : wsX11_worms.all goodWord = true := by decide +kernel
noncomputable def ch_wsX11_led : List (List Cond) := [([.code yX11_led cX11_led 3 (some .int)] : List Cond), wsX11_led_r1, wsX11_led_r2, wsX110, wsX70]
set_option maxRecDepth 20000 in
theorem ch_wsX11_led_flat : ch_wsX11_led.flatten = wsX11_led := by
  simp only [ch_wsX11_led, wsX11_led, List.flatten_cons, List.flatten_nil, List.append_nil, List.nil_append, List.cons_append, List.append_assoc]
set_option maxRecDepth 20000 in
theorem gd_wsX11_led : wsX11_led.all goodWord = true := by decide +kernel
noncomputable def ch_wsX11_orders : List (List Cond) := [([.code yX11_orders cX11_orders 3 (some .int)] : List Cond), wsX11_orders_r1, wsX11_orders_r2, wsX11_orders_r3, wsX11_orders_r4, wsX110, wsX70, wsX50]
set_option maxRecDepth 20000 in
theorem ch_wsX11_orders_flat : ch_wsX11_orders.flatten = wsX11_orders := by
  simp only [ch_wsX11_orders, wsX11_orders, List.flatten_cons, List.flatten_nil, List.append_nil, List.nil_append, List.cons_append, List.append_assoc]
set_option maxRecDepth 20000 in
theorem gd_wsX11_orders : wsX11_orders.all goodWord = true := by decide +kernel
noncomputable def ch_wsX11_side : List (List Cond) := [([.code yX11_side cX11_side 8 (some .int)] : List Cond), wsX11_side_r1, wsX11_side_r2, wsX11_side_r3, wsX11_side_r4, wsX110, wsX70, wsX50]
set_option maxRecDepth 20000 in
theorem ch_wsX11_side_flat : ch_wsX11_side.flatten = wsX11_side := by
  simp only [ch_wsX11_side, wsX11_side, List.flatten_cons, List.flatten_nil, List.append_nil, List.nil_append, List.cons_append, List.append_assoc]
set_option maxRecDepth 20000 in
theorem gd_wsX11_side : wsX11_side.all goodWord = true := by decide +kernel
noncomputable def ch_wsX11_without : List (List Cond) := [([.code yX11_without cX11_without 3 (some .int)] : List Cond), wsX11_without_r1, wsX11_without_r2, wsX11_without_r3, wsX110, wsX70, wsX50]
set_option maxRecDepth 20000 in
theorem ch_wsX11_without_flat : ch_wsX11_without.flatten = wsX11_without := by
  simp only [ch_wsX11_without, wsX11_without, List.flatten_cons, List.flatten_nil, List.append_nil, List.nil_append, List.cons_append, List.append_assoc]
set_option maxRecDepth 20000 in
theorem gd_wsX11_without : wsX11_without.all goodWord = true := by decide +kernel
noncomputable def ch_wsX11_findOrders : List (List Cond) := [([.code yX11_findOrders cX11_findOrders 3 none] : List Cond), wsX11_findOrders_r1, wsX11_findOrders_r2, wsX110, wsX70, wsX50]
set_option maxRecDepth 20000 in
theorem ch_wsX11_findOrders_flat : ch_wsX11_findOrders.flatten = wsX11_findOrders := by
  simp only [ch_wsX11_findOrders, wsX11_findOrders, List.flatten_cons, List.flatten_nil, List.append_nil, List.nil_append, List.cons_append, List.append_assoc]
set_option maxRecDepth 20000 in
theorem gd_wsX11_findOrders : wsX11_findOrders.all goodWord = true := by decide +kernel
noncomputable def ch_wsX11_line : List (List Cond) := [([.code yX11_line cX11_line 3 (some .int)] : List Cond), ([.fieldLink RX11 10 "OlderSkin" "sheets" "LOlderSkin$Sheets;", .fieldLink RX11 26 "OlderSkin" "lines" "LOlderSkin$Lines;", .methodLink RX11 106 yX7_isSheet, .instanceMethod yX7_isSheet, .selects RX7 yX7_isSheet yX7_isSheet, .initialized RX7, .code yX7_isSheet cX7_isSheet 2 (some .boolean), .fieldLink RX7 30 "OlderSkin$Sheets" "count" "I", .static yX11_within, .initialized RX11, .code yX11_within cX11_within 3 (some .boolean), .methodLink RX11 170 yX11_isInk, .static yX11_isInk, .code yX11_isInk cX11_isInk 1 (some .boolean), .methodLink RX11 113 yX11_within, .methodLink RX11 173 yX3_add, .instanceMethod yX3_add, .selects RX3 yX3_add yX3_add, .initialized RX3, .code yX3_add cX3_add 3 (some .int), .fieldLink RX3 36 "OlderSkin$Lines" "count" "I", .fieldLink RX3 9 "OlderSkin$Lines" "sheetOf" "[I", .fieldLink RX3 15 "OlderSkin$Lines" "inkOf" "[I"] : List Cond), wsX110, wsX70, wsX30]
set_option maxRecDepth 20000 in
theorem ch_wsX11_line_flat : ch_wsX11_line.flatten = wsX11_line := by
  simp only [ch_wsX11_line, wsX11_line, List.flatten_cons, List.flatten_nil, List.append_nil, List.nil_append, List.cons_append, List.append_assoc]
set_option maxRecDepth 20000 in
theorem gd_wsX11_line : wsX11_line.all goodWord = true := by decide +kernel
noncomputable def ch_wsX11_mark : List (List Cond) := [([.code yX11_mark cX11_mark 5 (some .int)] : List Cond), wsX11_mark_r1, wsX11_mark_r2, wsX110, wsX30, wsX70]
set_option maxRecDepth 20000 in
theorem ch_wsX11_mark_flat : ch_wsX11_mark.flatten = wsX11_mark := by
  simp only [ch_wsX11_mark, wsX11_mark, List.flatten_cons, List.flatten_nil, List.append_nil, List.nil_append, List.cons_append, List.append_assoc]
set_option maxRecDepth 20000 in
theorem gd_wsX11_mark : wsX11_mark.all goodWord = true := by decide +kernel
noncomputable def ch_wsX11_fight : List (List Cond) := [([.code yX11_fight cX11_fight 4 (some .int)] : List Cond), wsX11_fight_r1, wsX11_fight_r2, wsX11_fight_r3, wsX110, wsX70, wsX30]
set_option maxRecDepth 20000 in
theorem ch_wsX11_fight_flat : ch_wsX11_fight.flatten = wsX11_fight := by
  simp only [ch_wsX11_fight, wsX11_fight, List.flatten_cons, List.flatten_nil, List.append_nil, List.nil_append, List.cons_append, List.append_assoc]
set_option maxRecDepth 20000 in
theorem gd_wsX11_fight : wsX11_fight.all goodWord = true := by decide +kernel
noncomputable def ch_wsX11_inks : List (List Cond) := [([.code yX11_inks cX11_inks 5 (some .int)] : List Cond), wsX11_inks_r1, wsX11_inks_r2, wsX11_inks_r3, wsX11_inks_r4, wsX110, wsX70, wsX30]
set_option maxRecDepth 20000 in
theorem ch_wsX11_inks_flat : ch_wsX11_inks.flatten = wsX11_inks := by
  simp only [ch_wsX11_inks, wsX11_inks, List.flatten_cons, List.flatten_nil, List.append_nil, List.nil_append, List.cons_append, List.append_assoc]
set_option maxRecDepth 20000 in
theorem gd_wsX11_inks : wsX11_inks.all goodWord = true := by decide +kernel
noncomputable def ch_wsX11_findInks : List (List Cond) := [([.code yX11_findInks cX11_findInks 2 none] : List Cond), wsX11_findInks_r1, wsX11_findInks_r2, wsX110, wsX70, wsX30]
set_option maxRecDepth 20000 in
theorem ch_wsX11_findInks_flat : ch_wsX11_findInks.flatten = wsX11_findInks := by
  simp only [ch_wsX11_findInks, wsX11_findInks, List.flatten_cons, List.flatten_nil, List.append_nil, List.nil_append, List.cons_append, List.append_assoc]
set_option maxRecDepth 20000 in
theorem gd_wsX11_findInks : wsX11_findInks.all goodWord = true := by decide +kernel
noncomputable def ch_wsX11_dot : List (List Cond) := [([.code yX11_dot cX11_dot 5 (some .int)] : List Cond), ([.fieldLink RX11 33 "OlderSkin" "dots" "LOlderSkin$Dots;", .methodLink RX11 210 yX11_isDot, .static yX11_isDot, .initialized RX11, .code yX11_isDot cX11_isDot 3 (some .boolean), .methodLink RX11 113 yX11_within, .static yX11_within, .code yX11_within cX11_within 3 (some .boolean), .methodLink RX11 218 yX11_isStuff, .static yX11_isStuff, .code yX11_isStuff cX11_isStuff 1 (some .boolean), .methodLink RX11 213 yX2_add, .instanceMethod yX2_add, .selects RX2 yX2_add yX2_add, .initialized RX2, .code yX2_add cX2_add 4 (some .int), .fieldLink RX2 9 "OlderSkin$Dots" "houses" "[I", .fieldLink RX2 34 "OlderSkin$Dots" "count" "I", .fieldLink RX2 15 "OlderSkin$Dots" "inks" "[I", .fieldLink RX2 18 "OlderSkin$Dots" "stuffs" "[I", .methodLink RX2 41 yX2_isFull, .instanceMethod yX2_isFull, .selects RX2 yX2_isFull yX2_isFull, .code yX2_isFull cX2_isFull 1 (some .boolean)] : List Cond), wsX110, wsX20]
set_option maxRecDepth 20000 in
theorem ch_wsX11_dot_flat : ch_wsX11_dot.flatten = wsX11_dot := by
  simp only [ch_wsX11_dot, wsX11_dot, List.flatten_cons, List.flatten_nil, List.append_nil, List.nil_append, List.cons_append, List.append_assoc]
set_option maxRecDepth 20000 in
theorem gd_wsX11_dot : wsX11_dot.all goodWord = true := by decide +kernel
noncomputable def ch_wsX11_mend : List (List Cond) := [([.code yX11_mend cX11_mend 3 (some .int)] : List Cond), wsX11_mend_r1, wsX11_mend_r2, wsX110, wsX20, wsX90, wsX70, wsX10]
set_option maxRecDepth 20000 in
theorem ch_wsX11_mend_flat : ch_wsX11_mend.flatten = wsX11_mend := by
  simp only [ch_wsX11_mend, wsX11_mend, List.flatten_cons, List.flatten_nil, List.append_nil, List.nil_append, List.cons_append, List.append_assoc]
set_option maxRecDepth 20000 in
theorem gd_wsX11_mend : wsX11_mend.all goodWord = true := by decide +kernel
noncomputable def ch_wsX11_dots : List (List Cond) := [([.code yX11_dots cX11_dots 6 (some .int)] : List Cond), wsX11_dots_r1, wsX11_dots_r2, wsX11_dots_r3, wsX110, wsX80, wsX20]
set_option maxRecDepth 20000 in
theorem ch_wsX11_dots_flat : ch_wsX11_dots.flatten = wsX11_dots := by
  simp only [ch_wsX11_dots, wsX11_dots, List.flatten_cons, List.flatten_nil, List.append_nil, List.nil_append, List.cons_append, List.append_assoc]
set_option maxRecDepth 20000 in
theorem gd_wsX11_dots : wsX11_dots.all goodWord = true := by decide +kernel
noncomputable def ch_wsX11_dotComes : List (List Cond) := [([.code yX11_dotComes cX11_dotComes 6 (some .boolean)] : List Cond), wsX11_dotComes_r1, wsX11_dotComes_r2, wsX110, wsX80, wsX20]
set_option maxRecDepth 20000 in
theorem ch_wsX11_dotComes_flat : ch_wsX11_dotComes.flatten = wsX11_dotComes := by
  simp only [ch_wsX11_dotComes, wsX11_dotComes, List.flatten_cons, List.flatten_nil, List.append_nil, List.nil_append, List.cons_append, List.append_assoc]
set_option maxRecDepth 20000 in
theorem gd_wsX11_dotComes : wsX11_dotComes.all goodWord = true := by decide +kernel
noncomputable def ch_wsX11_odd : List (List Cond) := [([.code yX11_odd cX11_odd 2 (some .int)] : List Cond), ([.fieldLink RX11 33 "OlderSkin" "dots" "LOlderSkin$Dots;", .methodLink RX11 113 yX11_within, .static yX11_within, .initialized RX11, .code yX11_within cX11_within 3 (some .boolean), .methodLink RX11 247 yX2_oddOnes, .instanceMethod yX2_oddOnes, .selects RX2 yX2_oddOnes yX2_oddOnes, .initialized RX2, .code yX2_oddOnes cX2_oddOnes 5 (some .int), .fieldLink RX2 34 "OlderSkin$Dots" "count" "I", .fieldLink RX2 15 "OlderSkin$Dots" "inks" "[I", .fieldLink RX2 18 "OlderSkin$Dots" "stuffs" "[I", .methodLink RX2 45 Lib.Math.max.name, .static Lib.Math.max.name, .initialized "java/lang/Math", .code Lib.Math.max.name Lib.Math.max.code 2 (some .int), .static yX11_asBit, .code yX11_asBit cX11_asBit 1 (some .int)] : List Cond), wsX110, wsX20]
set_option maxRecDepth 20000 in
theorem ch_wsX11_odd_flat : ch_wsX11_odd.flatten = wsX11_odd := by
  simp only [ch_wsX11_odd, wsX11_odd, List.flatten_cons, List.flatten_nil, List.append_nil, List.nil_append, List.cons_append, List.append_assoc]
set_option maxRecDepth 20000 in
theorem gd_wsX11_odd : wsX11_odd.all goodWord = true := by decide +kernel
noncomputable def ch_wsX11_chance : List (List Cond) := [([.code yX11_chance cX11_chance 4 (some .int)] : List Cond), wsX11_chance_r1, wsX11_chance_r2, wsX110, wsX20]
set_option maxRecDepth 20000 in
theorem ch_wsX11_chance_flat : ch_wsX11_chance.flatten = wsX11_chance := by
  simp only [ch_wsX11_chance, wsX11_chance, List.flatten_cons, List.flatten_nil, List.append_nil, List.nil_append, List.cons_append, List.append_assoc]
set_option maxRecDepth 20000 in
theorem gd_wsX11_chance : wsX11_chance.all goodWord = true := by decide +kernel
noncomputable def ch_wsX11_bars : List (List Cond) := [([.code yX11_bars cX11_bars 3 (some .int)] : List Cond), wsX11_bars_r1, wsX11_bars_r2, wsX110, wsX20]
set_option maxRecDepth 20000 in
theorem ch_wsX11_bars_flat : ch_wsX11_bars.flatten = wsX11_bars := by
  simp only [ch_wsX11_bars, wsX11_bars, List.flatten_cons, List.flatten_nil, List.append_nil, List.nil_append, List.cons_append, List.append_assoc]
set_option maxRecDepth 20000 in
theorem gd_wsX11_bars : wsX11_bars.all goodWord = true := by decide +kernel
noncomputable def ch_wsX11_late : List (List Cond) := [([.code yX11_late cX11_late 3 (some .int)] : List Cond), wsX11_late_r1, wsX11_late_r2, wsX110, wsX60]
set_option maxRecDepth 20000 in
theorem ch_wsX11_late_flat : ch_wsX11_late.flatten = wsX11_late := by
  simp only [ch_wsX11_late, wsX11_late, List.flatten_cons, List.flatten_nil, List.append_nil, List.nil_append, List.cons_append, List.append_assoc]
set_option maxRecDepth 20000 in
theorem gd_wsX11_late : wsX11_late.all goodWord = true := by decide +kernel
noncomputable def ch_wsX11_well : List (List Cond) := [([.code yX11_well cX11_well 4 (some .int)] : List Cond), wsX11_well_r1, wsX11_well_r2, wsX110, wsX60]
set_option maxRecDepth 20000 in
theorem ch_wsX11_well_flat : ch_wsX11_well.flatten = wsX11_well := by
  simp only [ch_wsX11_well, wsX11_well, List.flatten_cons, List.flatten_nil, List.append_nil, List.nil_append, List.cons_append, List.append_assoc]
set_option maxRecDepth 20000 in
theorem gd_wsX11_well : wsX11_well.all goodWord = true := by decide +kernel
noncomputable def ch_wsX11_father : List (List Cond) := [([.code yX11_father cX11_father 4 (some .int)] : List Cond), wsX11_father_r1, wsX11_father_r2, wsX110, wsX40]
set_option maxRecDepth 20000 in
theorem ch_wsX11_father_flat : ch_wsX11_father.flatten = wsX11_father := by
  simp only [ch_wsX11_father, wsX11_father, List.flatten_cons, List.flatten_nil, List.append_nil, List.nil_append, List.cons_append, List.append_assoc]
set_option maxRecDepth 20000 in
theorem gd_wsX11_father : wsX11_father.all goodWord = true := by decide +kernel
noncomputable def ch_wsX11_hangs : List (List Cond) := [([.code yX11_hangs cX11_hangs 4 (some .int)] : List Cond), wsX11_hangs_r1, wsX11_hangs_r2, wsX110, wsX40]
set_option maxRecDepth 20000 in
theorem ch_wsX11_hangs_flat : ch_wsX11_hangs.flatten = wsX11_hangs := by
  simp only [ch_wsX11_hangs, wsX11_hangs, List.flatten_cons, List.flatten_nil, List.append_nil, List.nil_append, List.cons_append, List.append_assoc]
set_option maxRecDepth 20000 in
theorem gd_wsX11_hangs : wsX11_hangs.all goodWord = true := by decide +kernel
noncomputable def ch_wsX11_shared : List (List Cond) := [([.code yX11_shared cX11_shared 4 (some .int)] : List Cond), wsX11_shared_r1, wsX11_shared_r2, wsX110, wsX40]
set_option maxRecDepth 20000 in
theorem ch_wsX11_shared_flat : ch_wsX11_shared.flatten = wsX11_shared := by
  simp only [ch_wsX11_shared, wsX11_shared, List.flatten_cons, List.flatten_nil, List.append_nil, List.nil_append, List.cons_append, List.append_assoc]
set_option maxRecDepth 20000 in
theorem gd_wsX11_shared : wsX11_shared.all goodWord = true := by decide +kernel
noncomputable def ch_wsX11_feed : List (List Cond) := [([.code yX11_feed cX11_feed 3 (some .int)] : List Cond), wsX11_feed_r1, wsX11_feed_r2, wsX110, wsX100]
set_option maxRecDepth 20000 in
theorem ch_wsX11_feed_flat : ch_wsX11_feed.flatten = wsX11_feed := by
  simp only [ch_wsX11_feed, wsX11_feed, List.flatten_cons, List.flatten_nil, List.append_nil, List.nil_append, List.cons_append, List.append_assoc]
set_option maxRecDepth 20000 in
theorem gd_wsX11_feed : wsX11_feed.all goodWord = true := by decide +kernel
noncomputable def ch_wsX11_story : List (List Cond) := [([.code yX11_story cX11_story 4 (some .int)] : List Cond), wsX11_story_r1, wsX11_story_r2, wsX11_story_r3, wsX11_story_r4, wsX11_story_r5, wsX11_story_r6, wsX11_story_r7, wsX110, wsX100, wsX90]
set_option maxRecDepth 20000 in
theorem ch_wsX11_story_flat : ch_wsX11_story.flatten = wsX11_story := by
  simp only [ch_wsX11_story, wsX11_story, List.flatten_cons, List.flatten_nil, List.append_nil, List.nil_append, List.cons_append, List.append_assoc]
set_option maxRecDepth 20000 in
theorem gd_wsX11_story : wsX11_story.all goodWord = true := by decide +kernel
noncomputable def ch_wsX11_prior : List (List Cond) := [([.code yX11_prior cX11_prior 3 (some .int)] : List Cond), wsX11_prior_r1, wsX11_prior_r2, wsX110, wsX90, wsX20, wsX70, wsX10]
set_option maxRecDepth 20000 in
theorem ch_wsX11_prior_flat : ch_wsX11_prior.flatten = wsX11_prior := by
  simp only [ch_wsX11_prior, wsX11_prior, List.flatten_cons, List.flatten_nil, List.append_nil, List.nil_append, List.cons_append, List.append_assoc]
set_option maxRecDepth 20000 in
theorem gd_wsX11_prior : wsX11_prior.all goodWord = true := by decide +kernel
noncomputable def ch_wsX11_odds : List (List Cond) := [([.code yX11_odds cX11_odds 3 (some .int)] : List Cond), wsX11_odds_r1, wsX11_odds_r2, wsX11_odds_r3, wsX11_odds_r4, wsX11_odds_r5, wsX11_odds_r6, wsX11_odds_r7, wsX110, wsX90, wsX70, wsX30, wsX20, wsX60]
set_option maxRecDepth 20000 in
theorem ch_wsX11_odds_flat : ch_wsX11_odds.flatten = wsX11_odds := by
  simp only [ch_wsX11_odds, wsX11_odds, List.flatten_cons, List.flatten_nil, List.append_nil, List.nil_append, List.cons_append, List.append_assoc]
set_option maxRecDepth 20000 in
theorem gd_wsX11_odds : wsX11_odds.all goodWord = true := by decide +kernel
noncomputable def ch_wsX11_best : List (List Cond) := [([.code yX11_best cX11_best 1 (some .int)] : List Cond), wsX11_best_r1, wsX11_best_r2, wsX11_best_r3, wsX11_best_r4, wsX11_best_r5, wsX11_best_r6, wsX110, wsX90, wsX70, wsX30, wsX20, wsX60]
set_option maxRecDepth 20000 in
theorem ch_wsX11_best_flat : ch_wsX11_best.flatten = wsX11_best := by
  simp only [ch_wsX11_best, wsX11_best, List.flatten_cons, List.flatten_nil, List.append_nil, List.nil_append, List.cons_append, List.append_assoc]
set_option maxRecDepth 20000 in
theorem gd_wsX11_best : wsX11_best.all goodWord = true := by decide +kernel
noncomputable def ch_wsX11_next : List (List Cond) := [([.code yX11_next cX11_next 9 (some .int)] : List Cond), wsX11_next_r1, wsX11_next_r2, wsX11_next_r3, wsX11_next_r4, wsX11_next_r5, wsX11_next_r6, wsX11_next_r7, wsX11_next_r8, wsX110, wsX90, wsX20, wsX70, wsX30, wsX60]
set_option maxRecDepth 20000 in
theorem ch_wsX11_next_flat : ch_wsX11_next.flatten = wsX11_next := by
  simp only [ch_wsX11_next, wsX11_next, List.flatten_cons, List.flatten_nil, List.append_nil, List.nil_append, List.cons_append, List.append_assoc]
set_option maxRecDepth 20000 in
theorem gd_wsX11_next : wsX11_next.all goodWord = true := by decide +kernel
noncomputable def ch_wsX11_movedBy : List (List Cond) := [([.code yX11_movedBy cX11_movedBy 6 (some .int)] : List Cond), wsX11_movedBy_r1, wsX11_movedBy_r2, wsX11_movedBy_r3, wsX11_movedBy_r4, wsX11_movedBy_r5, wsX11_movedBy_r6, wsX11_movedBy_r7, wsX110, wsX20, wsX70, wsX90, wsX30, wsX60]
set_option maxRecDepth 20000 in
theorem ch_wsX11_movedBy_flat : ch_wsX11_movedBy.flatten = wsX11_movedBy := by
  simp only [ch_wsX11_movedBy, wsX11_movedBy, List.flatten_cons, List.flatten_nil, List.append_nil, List.nil_append, List.cons_append, List.append_assoc]
set_option maxRecDepth 20000 in
theorem gd_wsX11_movedBy : wsX11_movedBy.all goodWord = true := by decide +kernel
noncomputable def ch_wsX11_weighStories : List (List Cond) := [([.code yX11_weighStories cX11_weighStories 3 none] : List Cond), wsX11_weighStories_r1, wsX11_weighStories_r2, wsX11_weighStories_r3, wsX11_weighStories_r4, wsX11_weighStories_r5, wsX11_weighStories_r6, wsX110, wsX70, wsX90, wsX30, wsX20, wsX60]
set_option maxRecDepth 20000 in
theorem ch_wsX11_weighStories_flat : ch_wsX11_weighStories.flatten = wsX11_weighStories := by
  simp only [ch_wsX11_weighStories, wsX11_weighStories, List.flatten_cons, List.flatten_nil, List.append_nil, List.nil_append, List.cons_append, List.append_assoc]
set_option maxRecDepth 20000 in
theorem gd_wsX11_weighStories : wsX11_weighStories.all goodWord = true := by decide +kernel
noncomputable def ch_wsX11_undo : List (List Cond) := [([.code yX11_undo cX11_undo 2 (some .int)] : List Cond), wsX11_undo_r1, wsX11_undo_r2, wsX110, wsX10, wsX20, wsX90, wsX70]
set_option maxRecDepth 20000 in
theorem ch_wsX11_undo_flat : ch_wsX11_undo.flatten = wsX11_undo := by
  simp only [ch_wsX11_undo, wsX11_undo, List.flatten_cons, List.flatten_nil, List.append_nil, List.nil_append, List.cons_append, List.append_assoc]
set_option maxRecDepth 20000 in
theorem gd_wsX11_undo : wsX11_undo.all goodWord = true := by decide +kernel
noncomputable def ch_wsX11_redo : List (List Cond) := [([.code yX11_redo cX11_redo 2 (some .int)] : List Cond), wsX11_redo_r1, wsX11_redo_r2, wsX110, wsX10, wsX20, wsX90, wsX70]
set_option maxRecDepth 20000 in
theorem ch_wsX11_redo_flat : ch_wsX11_redo.flatten = wsX11_redo := by
  simp only [ch_wsX11_redo, wsX11_redo, List.flatten_cons, List.flatten_nil, List.append_nil, List.nil_append, List.cons_append, List.append_assoc]
set_option maxRecDepth 20000 in
theorem gd_wsX11_redo : wsX11_redo.all goodWord = true := by decide +kernel
noncomputable def ch_wsX11_change : List (List Cond) := [([.code yX11_change cX11_change 5 (some .int)] : List Cond), wsX11_change_r1, wsX11_change_r2, wsX110, wsX20, wsX90, wsX70, wsX10]
set_option maxRecDepth 20000 in
theorem ch_wsX11_change_flat : ch_wsX11_change.flatten = wsX11_change := by
  simp only [ch_wsX11_change, wsX11_change, List.flatten_cons, List.flatten_nil, List.append_nil, List.nil_append, List.cons_append, List.append_assoc]
set_option maxRecDepth 20000 in
theorem gd_wsX11_change : wsX11_change.all goodWord = true := by decide +kernel
noncomputable def ch_wsX11_become : List (List Cond) := [([.code yX11_become cX11_become 6 (some .int)] : List Cond), ([.fieldLink RX11 33 "OlderSkin" "dots" "LOlderSkin$Dots;", .fieldLink RX11 395 "OlderSkin$Dots" "stuffs" "[I", .fieldLink RX11 61 "OlderSkin" "stories" "LOlderSkin$Stories;", .fieldLink RX11 398 "OlderSkin$Stories" "priors" "[I", .fieldLink RX11 10 "OlderSkin" "sheets" "LOlderSkin$Sheets;", .fieldLink RX11 401 "OlderSkin$Sheets" "ages" "[I", .methodLink RX11 113 yX11_within, .static yX11_within, .initialized RX11, .code yX11_within cX11_within 3 (some .boolean)] : List Cond), wsX110, wsX20, wsX90, wsX70]
set_option maxRecDepth 20000 in
theorem ch_wsX11_become_flat : ch_wsX11_become.flatten = wsX11_become := by
  simp only [ch_wsX11_become, wsX11_become, List.flatten_cons, List.flatten_nil, List.append_nil, List.nil_append, List.cons_append, List.append_assoc]
set_option maxRecDepth 20000 in
theorem gd_wsX11_become : wsX11_become.all goodWord = true := by decide +kernel
noncomputable def ch_wsX11_act : List (List Cond) := [([.code yX11_act cX11_act 4 (some .int)] : List Cond), wsX11_act_r1, wsX11_act_r2, wsX110, wsX00]
set_option maxRecDepth 20000 in
theorem ch_wsX11_act_flat : ch_wsX11_act.flatten = wsX11_act := by
  simp only [ch_wsX11_act, wsX11_act, List.flatten_cons, List.flatten_nil, List.append_nil, List.nil_append, List.cons_append, List.append_assoc]
set_option maxRecDepth 20000 in
theorem gd_wsX11_act : wsX11_act.all goodWord = true := by decide +kernel
noncomputable def ch_wsX11_keep : List (List Cond) := [([.code yX11_keep cX11_keep 3 (some .int)] : List Cond), wsX11_keep_r1, wsX11_keep_r2, wsX110, wsX00, wsX80]
set_option maxRecDepth 20000 in
theorem ch_wsX11_keep_flat : ch_wsX11_keep.flatten = wsX11_keep := by
  simp only [ch_wsX11_keep, wsX11_keep, List.flatten_cons, List.flatten_nil, List.append_nil, List.nil_append, List.cons_append, List.append_assoc]
set_option maxRecDepth 20000 in
theorem gd_wsX11_keep : wsX11_keep.all goodWord = true := by decide +kernel
noncomputable def ch_wsX11_put : List (List Cond) := [([.code yX11_put cX11_put 6 (some .int)] : List Cond), ([.fieldLink RX11 82 "OlderSkin" "shelves" "LOlderSkin$Shelves;", .fieldLink RX11 240 "OlderSkin$Shelves" "values" "[[J", .methodLink RX11 430 yX8_refusal, .instanceMethod yX8_refusal, .selects RX8 yX8_refusal yX8_refusal, .initialized RX8, .code yX8_refusal cX8_refusal 3 (some .int), .fieldLink RX8 11 "OlderSkin$Shelves" "sorts" "[I", .fieldLink RX8 15 "OlderSkin$Shelves" "lengths" "[I", .methodLink RX8 36 yX8_isShelf, .instanceMethod yX8_isShelf, .selects RX8 yX8_isShelf yX8_isShelf, .code yX8_isShelf cX8_isShelf 2 (some .boolean), .static yX11_within, .initialized RX11, .code yX11_within cX11_within 3 (some .boolean), .methodLink RX8 40 yX8_isBare, .instanceMethod yX8_isBare, .selects RX8 yX8_isBare yX8_isBare, .code yX8_isBare cX8_isBare 2 (some .boolean), .methodLink RX11 433 yX8_lowBits, .instanceMethod yX8_lowBits, .selects RX8 yX8_lowBits yX8_lowBits, .code yX8_lowBits cX8_lowBits 4 (some .long)] : List Cond), wsX110, wsX80]
set_option maxRecDepth 20000 in
theorem ch_wsX11_put_flat : ch_wsX11_put.flatten = wsX11_put := by
  simp only [ch_wsX11_put, wsX11_put, List.flatten_cons, List.flatten_nil, List.append_nil, List.nil_append, List.cons_append, List.append_assoc]
set_option maxRecDepth 20000 in
theorem gd_wsX11_put : wsX11_put.all goodWord = true := by decide +kernel
noncomputable def ch_wsX11_shift : List (List Cond) := [([.code yX11_shift cX11_shift 6 (some .int)] : List Cond), wsX11_shift_r1, wsX11_shift_r2, wsX110, wsX80]
set_option maxRecDepth 20000 in
theorem ch_wsX11_shift_flat : ch_wsX11_shift.flatten = wsX11_shift := by
  simp only [ch_wsX11_shift, wsX11_shift, List.flatten_cons, List.flatten_nil, List.append_nil, List.nil_append, List.cons_append, List.append_assoc]
set_option maxRecDepth 20000 in
theorem gd_wsX11_shift : wsX11_shift.all goodWord = true := by decide +kernel
noncomputable def ch_wsX11_taken : List (List Cond) := [([.code yX11_taken cX11_taken 3 (some .int)] : List Cond), wsX11_taken_r1, wsX11_taken_r2, wsX110, wsX80]
set_option maxRecDepth 20000 in
theorem ch_wsX11_taken_flat : ch_wsX11_taken.flatten = wsX11_taken := by
  simp only [ch_wsX11_taken, wsX11_taken, List.flatten_cons, List.flatten_nil, List.append_nil, List.nil_append, List.cons_append, List.append_assoc]
set_option maxRecDepth 20000 in
theorem gd_wsX11_taken : wsX11_taken.all goodWord = true := by decide +kernel
set_option maxRecDepth 20000 in
theorem ggX11_age_X7_isSheet : GoodIn wsX11_age wsX7_isSheet := gcons (goodIn_g ch_wsX11_age_flat gd_wsX11_age _ [(1, 5)] rfl) (goodIn_app (goodIn_g ch_wsX11_age_flat gd_wsX11_age _ [(1, 6), (1, 7), (1, 8), (1, 9)] rfl) (gchunk ch_wsX11_age_flat gd_wsX11_age 4 rfl))
set_option maxRecDepth 20000 in
theorem gX11_age_X7_isSheet : GoodIn wsX11_age (wsV RX11 106 RX7 yX7_isSheet wsX7_isSheet) := goodIn_app (goodIn_g ch_wsX11_age_flat gd_wsX11_age _ [(1, 1), (1, 2), (1, 3), (1, 4)] rfl) ggX11_age_X7_isSheet
set_option maxRecDepth 20000 in
theorem ggX11_age_X11_isYear : GoodIn wsX11_age wsX11_isYear := goodIn_g ch_wsX11_age_flat gd_wsX11_age _ [(1, 12), (1, 13), (1, 7), (1, 8), (1, 9)] rfl
set_option maxRecDepth 20000 in
theorem gX11_age_X11_isYear : GoodIn wsX11_age (va_wsS RX11 98 yX11_isYear wsX11_isYear) := goodIn_app (goodIn_g ch_wsX11_age_flat gd_wsX11_age _ [(1, 10), (1, 11), (1, 8)] rfl) ggX11_age_X11_isYear
set_option maxRecDepth 20000 in
theorem ggX11_age_X11_change : GoodIn wsX11_age wsX11_change := gcons (goodIn_g ch_wsX11_age_flat gd_wsX11_age _ [(1, 17)] rfl) (goodIn_app (goodIn_app (goodIn_app (goodIn_app (goodIn_app (goodIn_app (goodIn_g ch_wsX11_age_flat gd_wsX11_age _ [(1, 18), (1, 19), (1, 20), (1, 21), (1, 8), (1, 22), (1, 23), (2, 0), (2, 1), (2, 2), (1, 0), (2, 3), (1, 13), (1, 7), (1, 9), (2, 4), (2, 5), (2, 6), (2, 7), (2, 8), (2, 9), (2, 10), (2, 11), (2, 12)] rfl) (goodIn_g ch_wsX11_age_flat gd_wsX11_age _ [(2, 13), (2, 14), (2, 15), (2, 16), (2, 17), (2, 18), (2, 19), (2, 20), (2, 21), (2, 22)] rfl)) (gchunk ch_wsX11_age_flat gd_wsX11_age 3 rfl)) (gchunk ch_wsX11_age_flat gd_wsX11_age 5 rfl)) (gchunk ch_wsX11_age_flat gd_wsX11_age 6 rfl)) (gchunk ch_wsX11_age_flat gd_wsX11_age 4 rfl)) (gchunk ch_wsX11_age_flat gd_wsX11_age 7 rfl))
set_option maxRecDepth 20000 in
theorem gX11_age_X11_change : GoodIn wsX11_age (wsV RX11 109 RX11 yX11_change wsX11_change) := goodIn_app (goodIn_g ch_wsX11_age_flat gd_wsX11_age _ [(1, 14), (1, 15), (1, 16), (1, 8)] rfl) ggX11_age_X11_change
set_option maxRecDepth 20000 in
theorem SX11_age : ∀ p : Nat, gb cX11_age p = segF [[42, 180, 0, 10, 27, 182, 0, 106, 153, 0, 10, 28, 184, 0, 98, 154, 0, 5, 2, 172, 42, 5, 27, 28, 182, 0, 109, 172]] p := seg_gb (S := [[42, 180, 0, 10, 27, 182, 0, 106, 153, 0, 10, 28, 184, 0, 98, 154, 0, 5, 2, 172, 42, 5, 27, 28, 182, 0, 109, 172]]) (by decide +kernel) (by decide +kernel)
set_option maxRecDepth 20000 in
theorem BX11_age_1_0 : ∀ q ∈ ([(0, 42), (4, 27), (11, 28), (18, 2), (19, 172), (20, 42), (21, 5), (22, 27), (23, 28), (27, 172)] : List (Nat × Nat)), gb cX11_age q.1 = some q.2 := seg_1 SX11_age _ (by decide +kernel)
set_option maxRecDepth 20000 in
theorem BX11_age_3_0 : ∀ q ∈ ([(1, 180, 0, 10), (5, 182, 0, 106), (8, 153, 0, 10), (12, 184, 0, 98), (15, 154, 0, 5), (24, 182, 0, 109)] : List (Nat × Nat × Nat × Nat)), gb cX11_age q.1 = some q.2.1 ∧ gb cX11_age (q.1 + 1) = some q.2.2.1 ∧ gb cX11_age (q.1 + 2) = some q.2.2.2 := seg_3 SX11_age _ (by decide +kernel)
theorem dX11_age_0 : decode cX11_age 0 = .ok (.aload_n 0, 1) := dk42 (BX11_age_1_0 (0, 42) (List.mem_of_getElem? (i := 0) rfl))
theorem dX11_age_1 : decode cX11_age 1 = .ok (.getfield 10, 3) := dk180 0 10 (BX11_age_3_0 (1, 180, 0, 10) (List.mem_of_getElem? (i := 0) rfl))
theorem dX11_age_4 : decode cX11_age 4 = .ok (.iload_n 1, 1) := dk27 (BX11_age_1_0 (4, 27) (List.mem_of_getElem? (i := 1) rfl))
theorem dX11_age_5 : decode cX11_age 5 = .ok (.invokevirtual 106, 3) := dk182 0 106 (BX11_age_3_0 (5, 182, 0, 106) (List.mem_of_getElem? (i := 1) rfl))
theorem dX11_age_8 : decode cX11_age 8 = .ok (.ifCond .eq 10, 3) := dk153 0 10 (BX11_age_3_0 (8, 153, 0, 10) (List.mem_of_getElem? (i := 2) rfl))
theorem dX11_age_11 : decode cX11_age 11 = .ok (.iload_n 2, 1) := dk28 (BX11_age_1_0 (11, 28) (List.mem_of_getElem? (i := 2) rfl))
theorem dX11_age_12 : decode cX11_age 12 = .ok (.invokestatic 98, 3) := dk184 0 98 (BX11_age_3_0 (12, 184, 0, 98) (List.mem_of_getElem? (i := 3) rfl))
theorem dX11_age_15 : decode cX11_age 15 = .ok (.ifCond .ne 5, 3) := dk154 0 5 (BX11_age_3_0 (15, 154, 0, 5) (List.mem_of_getElem? (i := 4) rfl))
theorem dX11_age_18 : decode cX11_age 18 = .ok (.iconst (-1), 1) := dk2 (BX11_age_1_0 (18, 2) (List.mem_of_getElem? (i := 3) rfl))
theorem dX11_age_19 : decode cX11_age 19 = .ok (.ireturn, 1) := dk172 (BX11_age_1_0 (19, 172) (List.mem_of_getElem? (i := 4) rfl))
theorem dX11_age_20 : decode cX11_age 20 = .ok (.aload_n 0, 1) := dk42 (BX11_age_1_0 (20, 42) (List.mem_of_getElem? (i := 5) rfl))
theorem dX11_age_21 : decode cX11_age 21 = .ok (.iconst 2, 1) := dk5 (BX11_age_1_0 (21, 5) (List.mem_of_getElem? (i := 6) rfl))
theorem dX11_age_22 : decode cX11_age 22 = .ok (.iload_n 1, 1) := dk27 (BX11_age_1_0 (22, 27) (List.mem_of_getElem? (i := 7) rfl))
theorem dX11_age_23 : decode cX11_age 23 = .ok (.iload_n 2, 1) := dk28 (BX11_age_1_0 (23, 28) (List.mem_of_getElem? (i := 8) rfl))
theorem dX11_age_24 : decode cX11_age 24 = .ok (.invokevirtual 109, 3) := dk182 0 109 (BX11_age_3_0 (24, 182, 0, 109) (List.mem_of_getElem? (i := 5) rfl))
theorem dX11_age_27 : decode cX11_age 27 = .ok (.ireturn, 1) := dk172 (BX11_age_1_0 (27, 172) (List.mem_of_getElem? (i := 9) rfl))
set_option maxRecDepth 20000 in
theorem ggX11_worms_X11_isSlack : GoodIn wsX11_worms wsX11_isSlack := goodIn_g ch_wsX11_worms_flat gd_wsX11_worms _ [(1, 6), (1, 7), (1, 8), (1, 5), (1, 9)] rfl
set_option maxRecDepth 20000 in
theorem gX11_worms_X11_isSlack : GoodIn wsX11_worms (va_wsS RX11 121 yX11_isSlack wsX11_isSlack) := goodIn_app (goodIn_g ch_wsX11_worms_flat gd_wsX11_worms _ [(1, 3), (1, 4), (1, 5)] rfl) ggX11_worms_X11_isSlack
set_option maxRecDepth 20000 in
theorem ggX11_worms_X7_all : GoodIn wsX11_worms wsX7_all := gcons (goodIn_g ch_wsX11_worms_flat gd_wsX11_worms _ [(1, 14)] rfl) (goodIn_app (goodIn_g ch_wsX11_worms_flat gd_wsX11_worms _ [(1, 15)] rfl) (gchunk ch_wsX11_worms_flat gd_wsX11_worms 4 rfl))
set_option maxRecDepth 20000 in
theorem gX11_worms_X7_all : GoodIn wsX11_worms (wsV RX11 124 RX7 yX7_all wsX7_all) := goodIn_app (goodIn_g ch_wsX11_worms_flat gd_wsX11_worms _ [(1, 10), (1, 11), (1, 12), (1, 13)] rfl) ggX11_worms_X7_all
set_option maxRecDepth 20000 in
theorem ggX11_worms_X7_findWorms : GoodIn wsX11_worms wsX7_findWorms := gcons (goodIn_g ch_wsX11_worms_flat gd_wsX11_worms _ [(1, 19)] rfl) (goodIn_app (goodIn_g ch_wsX11_worms_flat gd_wsX11_worms _ [(1, 20), (1, 21), (1, 22), (1, 23), (2, 0), (2, 1), (2, 2)] rfl) (gchunk ch_wsX11_worms_flat gd_wsX11_worms 4 rfl))
set_option maxRecDepth 20000 in
theorem gX11_worms_X7_findWorms : GoodIn wsX11_worms (wsV RX11 127 RX7 yX7_findWorms wsX7_findWorms) := goodIn_app (goodIn_g ch_wsX11_worms_flat gd_wsX11_worms _ [(1, 16), (1, 17), (1, 18), (1, 13)] rfl) ggX11_worms_X7_findWorms
set_option maxRecDepth 20000 in
theorem SX11_worms : ∀ p : Nat, gb cX11_worms p = segF [[27, 184, 0, 121, 153, 0, 8, 28, 2, 162, 0, 5, 2, 172, 42, 180, 0, 10, 27, 42, 180, 0, 10, 182, 0, 124, 182, 0, 127, 28, 2, 160, 0, 11, 42, 180, 0, 10, 180, 0, 131, 172, 28, 42, 180, 0, 10, 180, 0, 131, 162, 0, 15, 42, 180, 0, 10, 180, 0, 135, 28, 46, 167, 0], [4, 2, 172]] p := seg_gb (S := [[27, 184, 0, 121, 153, 0, 8, 28, 2, 162, 0, 5, 2, 172, 42, 180, 0, 10, 27, 42, 180, 0, 10, 182, 0, 124, 182, 0, 127, 28, 2, 160, 0, 11, 42, 180, 0, 10, 180, 0, 131, 172, 28, 42, 180, 0, 10, 180, 0, 131, 162, 0, 15, 42, 180, 0, 10, 180, 0, 135, 28, 46, 167, 0], [4, 2, 172]]) (by decide +kernel) (by decide +kernel)
set_option maxRecDepth 20000 in
theorem BX11_worms_1_0 : ∀ q ∈ ([(0, 27), (7, 28), (8, 2), (12, 2), (13, 172), (14, 42), (18, 27), (19, 42), (29, 28), (30, 2), (34, 42), (41, 172)] : List (Nat × Nat)), gb cX11_worms q.1 = some q.2 := seg_1 SX11_worms _ (by decide +kernel)
set_option maxRecDepth 20000 in
theorem BX11_worms_1_1 : ∀ q ∈ ([(42, 28), (43, 42), (53, 42), (60, 28), (61, 46), (65, 2), (66, 172)] : List (Nat × Nat)), gb cX11_worms q.1 = some q.2 := seg_1 SX11_worms _ (by decide +kernel)
set_option maxRecDepth 20000 in
theorem BX11_worms_3_0 : ∀ q ∈ ([(1, 184, 0, 121), (4, 153, 0, 8), (9, 162, 0, 5), (15, 180, 0, 10), (20, 180, 0, 10), (23, 182, 0, 124), (26, 182, 0, 127), (31, 160, 0, 11), (35, 180, 0, 10), (38, 180, 0, 131), (44, 180, 0, 10), (47, 180, 0, 131)] : List (Nat × Nat × Nat × Nat)), gb cX11_worms q.1 = some q.2.1 ∧ gb cX11_worms (q.1 + 1) = some q.2.2.1 ∧ gb cX11_worms (q.1 + 2) = some q.2.2.2 := seg_3 SX11_worms _ (by decide +kernel)
set_option maxRecDepth 20000 in
theorem BX11_worms_3_1 : ∀ q ∈ ([(50, 162, 0, 15), (54, 180, 0, 10), (57, 180, 0, 135), (62, 167, 0, 4)] : List (Nat × Nat × Nat × Nat)), gb cX11_worms q.1 = some q.2.1 ∧ gb cX11_worms (q.1 + 1) = some q.2.2.1 ∧ gb cX11_worms (q.1 + 2) = some q.2.2.2 := seg_3 SX11_worms _ (by decide +kernel)
theorem dX11_worms_0 : decode cX11_worms 0 = .ok (.iload_n 1, 1) := dk27 (BX11_worms_1_0 (0, 27) (List.mem_of_getElem? (i := 0) rfl))
theorem dX11_worms_1 : decode cX11_worms 1 = .ok (.invokestatic 121, 3) := dk184 0 121 (BX11_worms_3_0 (1, 184, 0, 121) (List.mem_of_getElem? (i := 0) rfl))
theorem dX11_worms_4 : decode cX11_worms 4 = .ok (.ifCond .eq 8, 3) := dk153 0 8 (BX11_worms_3_0 (4, 153, 0, 8) (List.mem_of_getElem? (i := 1) rfl))
theorem dX11_worms_7 : decode cX11_worms 7 = .ok (.iload_n 2, 1) := dk28 (BX11_worms_1_0 (7, 28) (List.mem_of_getElem? (i := 1) rfl))
theorem dX11_worms_8 : decode cX11_worms 8 = .ok (.iconst (-1), 1) := dk2 (BX11_worms_1_0 (8, 2) (List.mem_of_getElem? (i := 2) rfl))
theorem dX11_worms_9 : decode cX11_worms 9 = .ok (.if_icmp .ge 5, 3) := dk162 0 5 (BX11_worms_3_0 (9, 162, 0, 5) (List.mem_of_getElem? (i := 2) rfl))
theorem dX11_worms_12 : decode cX11_worms 12 = .ok (.iconst (-1), 1) := dk2 (BX11_worms_1_0 (12, 2) (List.mem_of_getElem? (i := 3) rfl))
theorem dX11_worms_13 : decode cX11_worms 13 = .ok (.ireturn, 1) := dk172 (BX11_worms_1_0 (13, 172) (List.mem_of_getElem? (i := 4) rfl))
theorem dX11_worms_14 : decode cX11_worms 14 = .ok (.aload_n 0, 1) := dk42 (BX11_worms_1_0 (14, 42) (List.mem_of_getElem? (i := 5) rfl))
theorem dX11_worms_15 : decode cX11_worms 15 = .ok (.getfield 10, 3) := dk180 0 10 (BX11_worms_3_0 (15, 180, 0, 10) (List.mem_of_getElem? (i := 3) rfl))
theorem dX11_worms_18 : decode cX11_worms 18 = .ok (.iload_n 1, 1) := dk27 (BX11_worms_1_0 (18, 27) (List.mem_of_getElem? (i := 6) rfl))
theorem dX11_worms_19 : decode cX11_worms 19 = .ok (.aload_n 0, 1) := dk42 (BX11_worms_1_0 (19, 42) (List.mem_of_getElem? (i := 7) rfl))
theorem dX11_worms_20 : decode cX11_worms 20 = .ok (.getfield 10, 3) := dk180 0 10 (BX11_worms_3_0 (20, 180, 0, 10) (List.mem_of_getElem? (i := 4) rfl))
theorem dX11_worms_23 : decode cX11_worms 23 = .ok (.invokevirtual 124, 3) := dk182 0 124 (BX11_worms_3_0 (23, 182, 0, 124) (List.mem_of_getElem? (i := 5) rfl))
theorem dX11_worms_26 : decode cX11_worms 26 = .ok (.invokevirtual 127, 3) := dk182 0 127 (BX11_worms_3_0 (26, 182, 0, 127) (List.mem_of_getElem? (i := 6) rfl))
theorem dX11_worms_29 : decode cX11_worms 29 = .ok (.iload_n 2, 1) := dk28 (BX11_worms_1_0 (29, 28) (List.mem_of_getElem? (i := 8) rfl))
theorem dX11_worms_30 : decode cX11_worms 30 = .ok (.iconst (-1), 1) := dk2 (BX11_worms_1_0 (30, 2) (List.mem_of_getElem? (i := 9) rfl))
theorem dX11_worms_31 : decode cX11_worms 31 = .ok (.if_icmp .ne 11, 3) := dk160 0 11 (BX11_worms_3_0 (31, 160, 0, 11) (List.mem_of_getElem? (i := 7) rfl))
theorem dX11_worms_34 : decode cX11_worms 34 = .ok (.aload_n 0, 1) := dk42 (BX11_worms_1_0 (34, 42) (List.mem_of_getElem? (i := 10) rfl))
theorem dX11_worms_35 : decode cX11_worms 35 = .ok (.getfield 10, 3) := dk180 0 10 (BX11_worms_3_0 (35, 180, 0, 10) (List.mem_of_getElem? (i := 8) rfl))
theorem dX11_worms_38 : decode cX11_worms 38 = .ok (.getfield 131, 3) := dk180 0 131 (BX11_worms_3_0 (38, 180, 0, 131) (List.mem_of_getElem? (i := 9) rfl))
theorem dX11_worms_41 : decode cX11_worms 41 = .ok (.ireturn, 1) := dk172 (BX11_worms_1_0 (41, 172) (List.mem_of_getElem? (i := 11) rfl))
theorem dX11_worms_42 : decode cX11_worms 42 = .ok (.iload_n 2, 1) := dk28 (BX11_worms_1_1 (42, 28) (List.mem_of_getElem? (i := 0) rfl))
theorem dX11_worms_43 : decode cX11_worms 43 = .ok (.aload_n 0, 1) := dk42 (BX11_worms_1_1 (43, 42) (List.mem_of_getElem? (i := 1) rfl))
theorem dX11_worms_44 : decode cX11_worms 44 = .ok (.getfield 10, 3) := dk180 0 10 (BX11_worms_3_0 (44, 180, 0, 10) (List.mem_of_getElem? (i := 10) rfl))
theorem dX11_worms_47 : decode cX11_worms 47 = .ok (.getfield 131, 3) := dk180 0 131 (BX11_worms_3_0 (47, 180, 0, 131) (List.mem_of_getElem? (i := 11) rfl))
theorem dX11_worms_50 : decode cX11_worms 50 = .ok (.if_icmp .ge 15, 3) := dk162 0 15 (BX11_worms_3_1 (50, 162, 0, 15) (List.mem_of_getElem? (i := 0) rfl))
theorem dX11_worms_53 : decode cX11_worms 53 = .ok (.aload_n 0, 1) := dk42 (BX11_worms_1_1 (53, 42) (List.mem_of_getElem? (i := 2) rfl))
theorem dX11_worms_54 : decode cX11_worms 54 = .ok (.getfield 10, 3) := dk180 0 10 (BX11_worms_3_1 (54, 180, 0, 10) (List.mem_of_getElem? (i := 1) rfl))
theorem dX11_worms_57 : decode cX11_worms 57 = .ok (.getfield 135, 3) := dk180 0 135 (BX11_worms_3_1 (57, 180, 0, 135) (List.mem_of_getElem? (i := 2) rfl))
theorem dX11_worms_60 : decode cX11_worms 60 = .ok (.iload_n 2, 1) := dk28 (BX11_worms_1_1 (60, 28) (List.mem_of_getElem? (i := 3) rfl))
theorem dX11_worms_61 : decode cX11_worms 61 = .ok (.iaload, 1) := dk46 (BX11_worms_1_1 (61, 46) (List.mem_of_getElem? (i := 4) rfl))
theorem dX11_worms_62 : decode cX11_worms 62 = .ok (.goto 4, 3) := dk167 0 4 (BX11_worms_3_1 (62, 167, 0, 4) (List.mem_of_getElem? (i := 3) rfl))
theorem dX11_worms_65 : decode cX11_worms 65 = .ok (.iconst (-1), 1) := dk2 (BX11_worms_1_1 (65, 2) (List.mem_of_getElem? (i := 5) rfl))
theorem dX11_worms_66 : decode cX11_worms 66 = .ok (.ireturn, 1) := dk172 (BX11_worms_1_1 (66, 172) (List.mem_of_getElem? (i := 6) rfl))
set_option maxRecDepth 20000 in
theorem ggX11_led_X7_isHole : GoodIn wsX11_led wsX7_isHole := gcons (goodIn_g ch_wsX11_led_flat gd_wsX11_led _ [(1, 6)] rfl) (goodIn_app (goodIn_g ch_wsX11_led_flat gd_wsX11_led _ [(1, 7), (1, 8), (1, 9), (1, 10)] rfl) (gchunk ch_wsX11_led_flat gd_wsX11_led 4 rfl))
set_option maxRecDepth 20000 in
theorem gX11_led_X7_isHole : GoodIn wsX11_led (wsV RX11 138 RX7 yX7_isHole wsX7_isHole) := goodIn_app (goodIn_g ch_wsX11_led_flat gd_wsX11_led _ [(1, 2), (1, 3), (1, 4), (1, 5)] rfl) ggX11_led_X7_isHole
set_option maxRecDepth 20000 in
theorem ggX11_led_X11_isSlack : GoodIn wsX11_led wsX11_isSlack := goodIn_g ch_wsX11_led_flat gd_wsX11_led _ [(1, 13), (1, 14), (1, 8), (1, 9), (1, 10)] rfl
set_option maxRecDepth 20000 in
theorem gX11_led_X11_isSlack : GoodIn wsX11_led (va_wsS RX11 121 yX11_isSlack wsX11_isSlack) := goodIn_app (goodIn_g ch_wsX11_led_flat gd_wsX11_led _ [(1, 11), (1, 12), (1, 9)] rfl) ggX11_led_X11_isSlack
set_option maxRecDepth 20000 in
theorem ggX11_led_X7_all : GoodIn wsX11_led wsX7_all := gcons (goodIn_g ch_wsX11_led_flat gd_wsX11_led _ [(1, 18)] rfl) (goodIn_app (goodIn_g ch_wsX11_led_flat gd_wsX11_led _ [(1, 19)] rfl) (gchunk ch_wsX11_led_flat gd_wsX11_led 4 rfl))
set_option maxRecDepth 20000 in
theorem gX11_led_X7_all : GoodIn wsX11_led (wsV RX11 124 RX7 yX7_all wsX7_all) := goodIn_app (goodIn_g ch_wsX11_led_flat gd_wsX11_led _ [(1, 15), (1, 16), (1, 17), (1, 5)] rfl) ggX11_led_X7_all
set_option maxRecDepth 20000 in
theorem ggX11_led_X7_findWorms : GoodIn wsX11_led wsX7_findWorms := gcons (goodIn_g ch_wsX11_led_flat gd_wsX11_led _ [(1, 23)] rfl) (goodIn_app (goodIn_g ch_wsX11_led_flat gd_wsX11_led _ [(2, 0), (1, 7), (2, 1), (2, 2), (2, 3), (2, 4), (2, 5)] rfl) (gchunk ch_wsX11_led_flat gd_wsX11_led 4 rfl))
set_option maxRecDepth 20000 in
theorem gX11_led_X7_findWorms : GoodIn wsX11_led (wsV RX11 127 RX7 yX7_findWorms wsX7_findWorms) := goodIn_app (goodIn_g ch_wsX11_led_flat gd_wsX11_led _ [(1, 20), (1, 21), (1, 22), (1, 5)] rfl) ggX11_led_X7_findWorms
set_option maxRecDepth 20000 in
theorem SX11_led : ∀ p : Nat, gb cX11_led p = segF [[42, 180, 0, 10, 27, 182, 0, 138, 153, 0, 10, 28, 184, 0, 121, 154, 0, 5, 2, 172, 42, 180, 0, 10, 28, 42, 180, 0, 10, 182, 0, 124, 182, 0, 127, 42, 180, 0, 10, 180, 0, 141, 27, 46, 172]] p := seg_gb (S := [[42, 180, 0, 10, 27, 182, 0, 138, 153, 0, 10, 28, 184, 0, 121, 154, 0, 5, 2, 172, 42, 180, 0, 10, 28, 42, 180, 0, 10, 182, 0, 124, 182, 0, 127, 42, 180, 0, 10, 180, 0, 141, 27, 46, 172]]) (by decide +kernel) (by decide +kernel)
set_option maxRecDepth 20000 in
theorem BX11_led_1_0 : ∀ q ∈ ([(0, 42), (4, 27), (11, 28), (18, 2), (19, 172), (20, 42), (24, 28), (25, 42), (35, 42), (42, 27), (43, 46), (44, 172)] : List (Nat × Nat)), gb cX11_led q.1 = some q.2 := seg_1 SX11_led _ (by decide +kernel)
set_option maxRecDepth 20000 in
theorem BX11_led_3_0 : ∀ q ∈ ([(1, 180, 0, 10), (5, 182, 0, 138), (8, 153, 0, 10), (12, 184, 0, 121), (15, 154, 0, 5), (21, 180, 0, 10), (26, 180, 0, 10), (29, 182, 0, 124), (32, 182, 0, 127), (36, 180, 0, 10), (39, 180, 0, 141)] : List (Nat × Nat × Nat × Nat)), gb cX11_led q.1 = some q.2.1 ∧ gb cX11_led (q.1 + 1) = some q.2.2.1 ∧ gb cX11_led (q.1 + 2) = some q.2.2.2 := seg_3 SX11_led _ (by decide +kernel)
theorem dX11_led_0 : decode cX11_led 0 = .ok (.aload_n 0, 1) := dk42 (BX11_led_1_0 (0, 42) (List.mem_of_getElem? (i := 0) rfl))
theorem dX11_led_1 : decode cX11_led 1 = .ok (.getfield 10, 3) := dk180 0 10 (BX11_led_3_0 (1, 180, 0, 10) (List.mem_of_getElem? (i := 0) rfl))
theorem dX11_led_4 : decode cX11_led 4 = .ok (.iload_n 1, 1) := dk27 (BX11_led_1_0 (4, 27) (List.mem_of_getElem? (i := 1) rfl))
theorem dX11_led_5 : decode cX11_led 5 = .ok (.invokevirtual 138, 3) := dk182 0 138 (BX11_led_3_0 (5, 182, 0, 138) (List.mem_of_getElem? (i := 1) rfl))
theorem dX11_led_8 : decode cX11_led 8 = .ok (.ifCond .eq 10, 3) := dk153 0 10 (BX11_led_3_0 (8, 153, 0, 10) (List.mem_of_getElem? (i := 2) rfl))
theorem dX11_led_11 : decode cX11_led 11 = .ok (.iload_n 2, 1) := dk28 (BX11_led_1_0 (11, 28) (List.mem_of_getElem? (i := 2) rfl))
theorem dX11_led_12 : decode cX11_led 12 = .ok (.invokestatic 121, 3) := dk184 0 121 (BX11_led_3_0 (12, 184, 0, 121) (List.mem_of_getElem? (i := 3) rfl))
theorem dX11_led_15 : decode cX11_led 15 = .ok (.ifCond .ne 5, 3) := dk154 0 5 (BX11_led_3_0 (15, 154, 0, 5) (List.mem_of_getElem? (i := 4) rfl))
theorem dX11_led_18 : decode cX11_led 18 = .ok (.iconst (-1), 1) := dk2 (BX11_led_1_0 (18, 2) (List.mem_of_getElem? (i := 3) rfl))
theorem dX11_led_19 : decode cX11_led 19 = .ok (.ireturn, 1) := dk172 (BX11_led_1_0 (19, 172) (List.mem_of_getElem? (i := 4) rfl))
theorem dX11_led_20 : decode cX11_led 20 = .ok (.aload_n 0, 1) := dk42 (BX11_led_1_0 (20, 42) (List.mem_of_getElem? (i := 5) rfl))
theorem dX11_led_21 : decode cX11_led 21 = .ok (.getfield 10, 3) := dk180 0 10 (BX11_led_3_0 (21, 180, 0, 10) (List.mem_of_getElem? (i := 5) rfl))
theorem dX11_led_24 : decode cX11_led 24 = .ok (.iload_n 2, 1) := dk28 (BX11_led_1_0 (24, 28) (List.mem_of_getElem? (i := 6) rfl))
theorem dX11_led_25 : decode cX11_led 25 = .ok (.aload_n 0, 1) := dk42 (BX11_led_1_0 (25, 42) (List.mem_of_getElem? (i := 7) rfl))
theorem dX11_led_26 : decode cX11_led 26 = .ok (.getfield 10, 3) := dk180 0 10 (BX11_led_3_0 (26, 180, 0, 10) (List.mem_of_getElem? (i := 6) rfl))
theorem dX11_led_29 : decode cX11_led 29 = .ok (.invokevirtual 124, 3) := dk182 0 124 (BX11_led_3_0 (29, 182, 0, 124) (List.mem_of_getElem? (i := 7) rfl))
theorem dX11_led_32 : decode cX11_led 32 = .ok (.invokevirtual 127, 3) := dk182 0 127 (BX11_led_3_0 (32, 182, 0, 127) (List.mem_of_getElem? (i := 8) rfl))
theorem dX11_led_35 : decode cX11_led 35 = .ok (.aload_n 0, 1) := dk42 (BX11_led_1_0 (35, 42) (List.mem_of_getElem? (i := 8) rfl))
theorem dX11_led_36 : decode cX11_led 36 = .ok (.getfield 10, 3) := dk180 0 10 (BX11_led_3_0 (36, 180, 0, 10) (List.mem_of_getElem? (i := 9) rfl))
theorem dX11_led_39 : decode cX11_led 39 = .ok (.getfield 141, 3) := dk180 0 141 (BX11_led_3_0 (39, 180, 0, 141) (List.mem_of_getElem? (i := 10) rfl))
theorem dX11_led_42 : decode cX11_led 42 = .ok (.iload_n 1, 1) := dk27 (BX11_led_1_0 (42, 27) (List.mem_of_getElem? (i := 9) rfl))
theorem dX11_led_43 : decode cX11_led 43 = .ok (.iaload, 1) := dk46 (BX11_led_1_0 (43, 46) (List.mem_of_getElem? (i := 10) rfl))
theorem dX11_led_44 : decode cX11_led 44 = .ok (.ireturn, 1) := dk172 (BX11_led_1_0 (44, 172) (List.mem_of_getElem? (i := 11) rfl))
set_option maxRecDepth 20000 in
theorem ggX11_orders_X11_isSlack : GoodIn wsX11_orders wsX11_isSlack := goodIn_g ch_wsX11_orders_flat gd_wsX11_orders _ [(1, 6), (1, 7), (1, 8), (1, 5), (1, 9)] rfl
set_option maxRecDepth 20000 in
theorem gX11_orders_X11_isSlack : GoodIn wsX11_orders (va_wsS RX11 121 yX11_isSlack wsX11_isSlack) := goodIn_app (goodIn_g ch_wsX11_orders_flat gd_wsX11_orders _ [(1, 3), (1, 4), (1, 5)] rfl) ggX11_orders_X11_isSlack
set_option maxRecDepth 20000 in
theorem ggX11_orders_X11_isBit : GoodIn wsX11_orders wsX11_isBit := goodIn_g ch_wsX11_orders_flat gd_wsX11_orders _ [(1, 12)] rfl
set_option maxRecDepth 20000 in
theorem gX11_orders_X11_isBit : GoodIn wsX11_orders (va_wsS RX11 144 yX11_isBit wsX11_isBit) := goodIn_app (goodIn_g ch_wsX11_orders_flat gd_wsX11_orders _ [(1, 10), (1, 11), (1, 5)] rfl) ggX11_orders_X11_isBit
set_option maxRecDepth 20000 in
theorem ggX11_orders_X7_all : GoodIn wsX11_orders wsX7_all := gcons (goodIn_g ch_wsX11_orders_flat gd_wsX11_orders _ [(1, 17)] rfl) (goodIn_app (goodIn_g ch_wsX11_orders_flat gd_wsX11_orders _ [(1, 18)] rfl) (gchunk ch_wsX11_orders_flat gd_wsX11_orders 6 rfl))
set_option maxRecDepth 20000 in
theorem gX11_orders_X7_all : GoodIn wsX11_orders (wsV RX11 124 RX7 yX7_all wsX7_all) := goodIn_app (goodIn_g ch_wsX11_orders_flat gd_wsX11_orders _ [(1, 13), (1, 14), (1, 15), (1, 16)] rfl) ggX11_orders_X7_all
set_option maxRecDepth 20000 in
theorem ggX11_orders_X11_findOrders : GoodIn wsX11_orders wsX11_findOrders := gcons (goodIn_g ch_wsX11_orders_flat gd_wsX11_orders _ [(1, 22)] rfl) (goodIn_app (goodIn_app (goodIn_app (goodIn_app (goodIn_g ch_wsX11_orders_flat gd_wsX11_orders _ [(1, 0), (1, 2), (1, 23), (2, 0), (2, 1), (2, 2), (2, 3), (1, 16), (2, 4), (2, 5), (2, 6), (2, 7), (2, 8), (2, 9), (2, 10), (2, 11), (2, 12), (2, 13), (2, 14), (2, 15), (2, 16), (2, 17), (2, 18), (2, 19)] rfl) (goodIn_g ch_wsX11_orders_flat gd_wsX11_orders _ [(2, 20), (2, 21), (2, 22), (2, 23), (3, 0), (3, 1), (3, 2), (3, 3), (3, 4), (3, 5), (3, 6), (3, 7), (3, 8), (1, 5), (3, 9), (3, 10), (3, 11), (3, 12), (3, 13), (3, 14)] rfl)) (gchunk ch_wsX11_orders_flat gd_wsX11_orders 5 rfl)) (gchunk ch_wsX11_orders_flat gd_wsX11_orders 6 rfl)) (gchunk ch_wsX11_orders_flat gd_wsX11_orders 7 rfl))
set_option maxRecDepth 20000 in
theorem gX11_orders_X11_findOrders : GoodIn wsX11_orders (wsV RX11 150 RX11 yX11_findOrders wsX11_findOrders) := goodIn_app (goodIn_g ch_wsX11_orders_flat gd_wsX11_orders _ [(1, 19), (1, 20), (1, 21), (1, 5)] rfl) ggX11_orders_X11_findOrders
set_option maxRecDepth 20000 in
theorem ggX11_orders_X5_howMany : GoodIn wsX11_orders wsX5_howMany := gcons (goodIn_g ch_wsX11_orders_flat gd_wsX11_orders _ [(3, 18)] rfl) (goodIn_app (goodIn_g ch_wsX11_orders_flat gd_wsX11_orders _ [(3, 14)] rfl) (gchunk ch_wsX11_orders_flat gd_wsX11_orders 7 rfl))
set_option maxRecDepth 20000 in
theorem gX11_orders_X5_howMany : GoodIn wsX11_orders (wsV RX11 153 RX5 yX5_howMany wsX5_howMany) := goodIn_app (goodIn_g ch_wsX11_orders_flat gd_wsX11_orders _ [(3, 15), (3, 16), (3, 17), (2, 15)] rfl) ggX11_orders_X5_howMany
set_option maxRecDepth 20000 in
theorem ggX11_orders_X5_firstAsDigits : GoodIn wsX11_orders wsX5_firstAsDigits := gcons (goodIn_g ch_wsX11_orders_flat gd_wsX11_orders _ [(3, 22)] rfl) (goodIn_app (goodIn_g ch_wsX11_orders_flat gd_wsX11_orders _ [(3, 14), (2, 17), (3, 23), (4, 0), (4, 1), (2, 15), (4, 2), (2, 18), (3, 8), (1, 5), (3, 9)] rfl) (gchunk ch_wsX11_orders_flat gd_wsX11_orders 7 rfl))
set_option maxRecDepth 20000 in
theorem gX11_orders_X5_firstAsDigits : GoodIn wsX11_orders (wsV RX11 156 RX5 yX5_firstAsDigits wsX5_firstAsDigits) := goodIn_app (goodIn_g ch_wsX11_orders_flat gd_wsX11_orders _ [(3, 19), (3, 20), (3, 21), (2, 15)] rfl) ggX11_orders_X5_firstAsDigits
set_option maxRecDepth 20000 in
theorem SX11_orders : ∀ p : Nat, gb cX11_orders p = segF [[27, 184, 0, 121, 153, 0, 10, 28, 184, 0, 144, 154, 0, 5, 2, 172, 42, 180, 0, 10, 180, 0, 147, 16, 6, 164, 0, 6, 16, 252, 172, 42, 27, 42, 180, 0, 10, 182, 0, 124, 182, 0, 150, 28, 154, 0, 13, 42, 180, 0, 19, 182, 0, 153, 167, 0, 10, 42, 180, 0, 19, 182, 0, 156], [172]] p := seg_gb (S := [[27, 184, 0, 121, 153, 0, 10, 28, 184, 0, 144, 154, 0, 5, 2, 172, 42, 180, 0, 10, 180, 0, 147, 16, 6, 164, 0, 6, 16, 252, 172, 42, 27, 42, 180, 0, 10, 182, 0, 124, 182, 0, 150, 28, 154, 0, 13, 42, 180, 0, 19, 182, 0, 153, 167, 0, 10, 42, 180, 0, 19, 182, 0, 156], [172]]) (by decide +kernel) (by decide +kernel)
set_option maxRecDepth 20000 in
theorem BX11_orders_1_0 : ∀ q ∈ ([(0, 27), (7, 28), (14, 2), (15, 172), (16, 42), (30, 172), (31, 42), (32, 27), (33, 42), (43, 28), (47, 42), (57, 42)] : List (Nat × Nat)), gb cX11_orders q.1 = some q.2 := seg_1 SX11_orders _ (by decide +kernel)
set_option maxRecDepth 20000 in
theorem BX11_orders_1_1 : ∀ q ∈ ([(64, 172)] : List (Nat × Nat)), gb cX11_orders q.1 = some q.2 := seg_1 SX11_orders _ (by decide +kernel)
set_option maxRecDepth 20000 in
theorem BX11_orders_2_0 : ∀ q ∈ ([(23, 16, 6), (28, 16, 252)] : List (Nat × Nat × Nat)), gb cX11_orders q.1 = some q.2.1 ∧ gb cX11_orders (q.1 + 1) = some q.2.2 := seg_2 SX11_orders _ (by decide +kernel)
set_option maxRecDepth 20000 in
theorem BX11_orders_3_0 : ∀ q ∈ ([(1, 184, 0, 121), (4, 153, 0, 10), (8, 184, 0, 144), (11, 154, 0, 5), (17, 180, 0, 10), (20, 180, 0, 147), (25, 164, 0, 6), (34, 180, 0, 10), (37, 182, 0, 124), (40, 182, 0, 150), (44, 154, 0, 13), (48, 180, 0, 19)] : List (Nat × Nat × Nat × Nat)), gb cX11_orders q.1 = some q.2.1 ∧ gb cX11_orders (q.1 + 1) = some q.2.2.1 ∧ gb cX11_orders (q.1 + 2) = some q.2.2.2 := seg_3 SX11_orders _ (by decide +kernel)
set_option maxRecDepth 20000 in
theorem BX11_orders_3_1 : ∀ q ∈ ([(51, 182, 0, 153), (54, 167, 0, 10), (58, 180, 0, 19), (61, 182, 0, 156)] : List (Nat × Nat × Nat × Nat)), gb cX11_orders q.1 = some q.2.1 ∧ gb cX11_orders (q.1 + 1) = some q.2.2.1 ∧ gb cX11_orders (q.1 + 2) = some q.2.2.2 := seg_3 SX11_orders _ (by decide +kernel)
theorem dX11_orders_0 : decode cX11_orders 0 = .ok (.iload_n 1, 1) := dk27 (BX11_orders_1_0 (0, 27) (List.mem_of_getElem? (i := 0) rfl))
theorem dX11_orders_1 : decode cX11_orders 1 = .ok (.invokestatic 121, 3) := dk184 0 121 (BX11_orders_3_0 (1, 184, 0, 121) (List.mem_of_getElem? (i := 0) rfl))
theorem dX11_orders_4 : decode cX11_orders 4 = .ok (.ifCond .eq 10, 3) := dk153 0 10 (BX11_orders_3_0 (4, 153, 0, 10) (List.mem_of_getElem? (i := 1) rfl))
theorem dX11_orders_7 : decode cX11_orders 7 = .ok (.iload_n 2, 1) := dk28 (BX11_orders_1_0 (7, 28) (List.mem_of_getElem? (i := 1) rfl))
theorem dX11_orders_8 : decode cX11_orders 8 = .ok (.invokestatic 144, 3) := dk184 0 144 (BX11_orders_3_0 (8, 184, 0, 144) (List.mem_of_getElem? (i := 2) rfl))
theorem dX11_orders_11 : decode cX11_orders 11 = .ok (.ifCond .ne 5, 3) := dk154 0 5 (BX11_orders_3_0 (11, 154, 0, 5) (List.mem_of_getElem? (i := 3) rfl))
theorem dX11_orders_14 : decode cX11_orders 14 = .ok (.iconst (-1), 1) := dk2 (BX11_orders_1_0 (14, 2) (List.mem_of_getElem? (i := 2) rfl))
theorem dX11_orders_15 : decode cX11_orders 15 = .ok (.ireturn, 1) := dk172 (BX11_orders_1_0 (15, 172) (List.mem_of_getElem? (i := 3) rfl))
theorem dX11_orders_16 : decode cX11_orders 16 = .ok (.aload_n 0, 1) := dk42 (BX11_orders_1_0 (16, 42) (List.mem_of_getElem? (i := 4) rfl))
theorem dX11_orders_17 : decode cX11_orders 17 = .ok (.getfield 10, 3) := dk180 0 10 (BX11_orders_3_0 (17, 180, 0, 10) (List.mem_of_getElem? (i := 4) rfl))
theorem dX11_orders_20 : decode cX11_orders 20 = .ok (.getfield 147, 3) := dk180 0 147 (BX11_orders_3_0 (20, 180, 0, 147) (List.mem_of_getElem? (i := 5) rfl))
theorem dX11_orders_23 : decode cX11_orders 23 = .ok (.bipush 6, 2) := dk16 6 (BX11_orders_2_0 (23, 16, 6) (List.mem_of_getElem? (i := 0) rfl))
theorem dX11_orders_25 : decode cX11_orders 25 = .ok (.if_icmp .le 6, 3) := dk164 0 6 (BX11_orders_3_0 (25, 164, 0, 6) (List.mem_of_getElem? (i := 6) rfl))
theorem dX11_orders_28 : decode cX11_orders 28 = .ok (.bipush (-4), 2) := dk16 252 (BX11_orders_2_0 (28, 16, 252) (List.mem_of_getElem? (i := 1) rfl))
theorem dX11_orders_30 : decode cX11_orders 30 = .ok (.ireturn, 1) := dk172 (BX11_orders_1_0 (30, 172) (List.mem_of_getElem? (i := 5) rfl))
theorem dX11_orders_31 : decode cX11_orders 31 = .ok (.aload_n 0, 1) := dk42 (BX11_orders_1_0 (31, 42) (List.mem_of_getElem? (i := 6) rfl))
theorem dX11_orders_32 : decode cX11_orders 32 = .ok (.iload_n 1, 1) := dk27 (BX11_orders_1_0 (32, 27) (List.mem_of_getElem? (i := 7) rfl))
theorem dX11_orders_33 : decode cX11_orders 33 = .ok (.aload_n 0, 1) := dk42 (BX11_orders_1_0 (33, 42) (List.mem_of_getElem? (i := 8) rfl))
theorem dX11_orders_34 : decode cX11_orders 34 = .ok (.getfield 10, 3) := dk180 0 10 (BX11_orders_3_0 (34, 180, 0, 10) (List.mem_of_getElem? (i := 7) rfl))
theorem dX11_orders_37 : decode cX11_orders 37 = .ok (.invokevirtual 124, 3) := dk182 0 124 (BX11_orders_3_0 (37, 182, 0, 124) (List.mem_of_getElem? (i := 8) rfl))
theorem dX11_orders_40 : decode cX11_orders 40 = .ok (.invokevirtual 150, 3) := dk182 0 150 (BX11_orders_3_0 (40, 182, 0, 150) (List.mem_of_getElem? (i := 9) rfl))
theorem dX11_orders_43 : decode cX11_orders 43 = .ok (.iload_n 2, 1) := dk28 (BX11_orders_1_0 (43, 28) (List.mem_of_getElem? (i := 9) rfl))
theorem dX11_orders_44 : decode cX11_orders 44 = .ok (.ifCond .ne 13, 3) := dk154 0 13 (BX11_orders_3_0 (44, 154, 0, 13) (List.mem_of_getElem? (i := 10) rfl))
theorem dX11_orders_47 : decode cX11_orders 47 = .ok (.aload_n 0, 1) := dk42 (BX11_orders_1_0 (47, 42) (List.mem_of_getElem? (i := 10) rfl))
theorem dX11_orders_48 : decode cX11_orders 48 = .ok (.getfield 19, 3) := dk180 0 19 (BX11_orders_3_0 (48, 180, 0, 19) (List.mem_of_getElem? (i := 11) rfl))
theorem dX11_orders_51 : decode cX11_orders 51 = .ok (.invokevirtual 153, 3) := dk182 0 153 (BX11_orders_3_1 (51, 182, 0, 153) (List.mem_of_getElem? (i := 0) rfl))
theorem dX11_orders_54 : decode cX11_orders 54 = .ok (.goto 10, 3) := dk167 0 10 (BX11_orders_3_1 (54, 167, 0, 10) (List.mem_of_getElem? (i := 1) rfl))
theorem dX11_orders_57 : decode cX11_orders 57 = .ok (.aload_n 0, 1) := dk42 (BX11_orders_1_0 (57, 42) (List.mem_of_getElem? (i := 11) rfl))
theorem dX11_orders_58 : decode cX11_orders 58 = .ok (.getfield 19, 3) := dk180 0 19 (BX11_orders_3_1 (58, 180, 0, 19) (List.mem_of_getElem? (i := 2) rfl))
theorem dX11_orders_61 : decode cX11_orders 61 = .ok (.invokevirtual 156, 3) := dk182 0 156 (BX11_orders_3_1 (61, 182, 0, 156) (List.mem_of_getElem? (i := 3) rfl))
theorem dX11_orders_64 : decode cX11_orders 64 = .ok (.ireturn, 1) := dk172 (BX11_orders_1_1 (64, 172) (List.mem_of_getElem? (i := 0) rfl))
set_option maxRecDepth 20000 in
theorem ggX11_side_X11_isSlack : GoodIn wsX11_side wsX11_isSlack := goodIn_g ch_wsX11_side_flat gd_wsX11_side _ [(1, 6), (1, 7), (1, 8), (1, 5), (1, 9)] rfl
set_option maxRecDepth 20000 in
theorem gX11_side_X11_isSlack : GoodIn wsX11_side (va_wsS RX11 121 yX11_isSlack wsX11_isSlack) := goodIn_app (goodIn_g ch_wsX11_side_flat gd_wsX11_side _ [(1, 3), (1, 4), (1, 5)] rfl) ggX11_side_X11_isSlack
set_option maxRecDepth 20000 in
theorem ggX11_side_X7_isSheet : GoodIn wsX11_side wsX7_isSheet := gcons (goodIn_g ch_wsX11_side_flat gd_wsX11_side _ [(1, 14)] rfl) (goodIn_app (goodIn_g ch_wsX11_side_flat gd_wsX11_side _ [(1, 15), (1, 8), (1, 5), (1, 9)] rfl) (gchunk ch_wsX11_side_flat gd_wsX11_side 6 rfl))
set_option maxRecDepth 20000 in
theorem gX11_side_X7_isSheet : GoodIn wsX11_side (wsV RX11 106 RX7 yX7_isSheet wsX7_isSheet) := goodIn_app (goodIn_g ch_wsX11_side_flat gd_wsX11_side _ [(1, 10), (1, 11), (1, 12), (1, 13)] rfl) ggX11_side_X7_isSheet
set_option maxRecDepth 20000 in
theorem ggX11_side_X11_isBit : GoodIn wsX11_side wsX11_isBit := goodIn_g ch_wsX11_side_flat gd_wsX11_side _ [(1, 18)] rfl
set_option maxRecDepth 20000 in
theorem gX11_side_X11_isBit : GoodIn wsX11_side (va_wsS RX11 144 yX11_isBit wsX11_isBit) := goodIn_app (goodIn_g ch_wsX11_side_flat gd_wsX11_side _ [(1, 16), (1, 17), (1, 5)] rfl) ggX11_side_X11_isBit
set_option maxRecDepth 20000 in
theorem ggX11_side_X7_all : GoodIn wsX11_side wsX7_all := gcons (goodIn_g ch_wsX11_side_flat gd_wsX11_side _ [(1, 22)] rfl) (goodIn_app (goodIn_g ch_wsX11_side_flat gd_wsX11_side _ [(1, 15)] rfl) (gchunk ch_wsX11_side_flat gd_wsX11_side 6 rfl))
set_option maxRecDepth 20000 in
theorem gX11_side_X7_all : GoodIn wsX11_side (wsV RX11 124 RX7 yX7_all wsX7_all) := goodIn_app (goodIn_g ch_wsX11_side_flat gd_wsX11_side _ [(1, 19), (1, 20), (1, 21), (1, 13)] rfl) ggX11_side_X7_all
set_option maxRecDepth 20000 in
theorem ggX11_side_X11_findOrders : GoodIn wsX11_side wsX11_findOrders := gcons (goodIn_g ch_wsX11_side_flat gd_wsX11_side _ [(2, 2)] rfl) (goodIn_app (goodIn_app (goodIn_app (goodIn_app (goodIn_g ch_wsX11_side_flat gd_wsX11_side _ [(1, 0), (1, 2), (2, 3), (2, 4), (2, 5), (2, 6), (2, 7), (1, 13), (2, 8), (2, 9), (2, 10), (2, 11), (2, 12), (2, 13), (2, 14), (2, 15), (2, 16), (2, 17), (2, 18), (2, 19), (2, 20), (2, 21), (2, 22), (2, 23)] rfl) (goodIn_g ch_wsX11_side_flat gd_wsX11_side _ [(3, 0), (3, 1), (3, 2), (3, 3), (3, 4), (3, 5), (3, 6), (3, 7), (3, 8), (3, 9), (3, 10), (3, 11), (3, 12), (1, 5), (3, 13), (3, 14), (3, 15), (3, 16), (3, 17), (3, 18)] rfl)) (gchunk ch_wsX11_side_flat gd_wsX11_side 5 rfl)) (gchunk ch_wsX11_side_flat gd_wsX11_side 6 rfl)) (gchunk ch_wsX11_side_flat gd_wsX11_side 7 rfl))
set_option maxRecDepth 20000 in
theorem gX11_side_X11_findOrders : GoodIn wsX11_side (wsV RX11 150 RX11 yX11_findOrders wsX11_findOrders) := goodIn_app (goodIn_g ch_wsX11_side_flat gd_wsX11_side _ [(1, 23), (2, 0), (2, 1), (1, 5)] rfl) ggX11_side_X11_findOrders
set_option maxRecDepth 20000 in
theorem ggX11_side_X5_howMany : GoodIn wsX11_side wsX5_howMany := gcons (goodIn_g ch_wsX11_side_flat gd_wsX11_side _ [(3, 22)] rfl) (goodIn_app (goodIn_g ch_wsX11_side_flat gd_wsX11_side _ [(3, 18)] rfl) (gchunk ch_wsX11_side_flat gd_wsX11_side 7 rfl))
set_option maxRecDepth 20000 in
theorem gX11_side_X5_howMany : GoodIn wsX11_side (wsV RX11 153 RX5 yX5_howMany wsX5_howMany) := goodIn_app (goodIn_g ch_wsX11_side_flat gd_wsX11_side _ [(3, 19), (3, 20), (3, 21), (2, 19)] rfl) ggX11_side_X5_howMany
set_option maxRecDepth 20000 in
theorem ggX11_side_X5_sideBySide : GoodIn wsX11_side wsX5_sideBySide := gcons (goodIn_g ch_wsX11_side_flat gd_wsX11_side _ [(4, 2)] rfl) (goodIn_app (goodIn_g ch_wsX11_side_flat gd_wsX11_side _ [(4, 3), (4, 4), (4, 5), (2, 19), (4, 6), (2, 21), (2, 22), (3, 7), (3, 18), (3, 12), (1, 5), (3, 13)] rfl) (gchunk ch_wsX11_side_flat gd_wsX11_side 7 rfl))
set_option maxRecDepth 20000 in
theorem gX11_side_X5_sideBySide : GoodIn wsX11_side (wsV RX11 159 RX5 yX5_sideBySide wsX5_sideBySide) := goodIn_app (goodIn_g ch_wsX11_side_flat gd_wsX11_side _ [(3, 23), (4, 0), (4, 1), (2, 19)] rfl) ggX11_side_X5_sideBySide
set_option maxRecDepth 20000 in
theorem ggX11_side_X11_asBit : GoodIn wsX11_side wsX11_asBit := goodIn_g ch_wsX11_side_flat gd_wsX11_side _ [(4, 9)] rfl
set_option maxRecDepth 20000 in
theorem gX11_side_X11_asBit : GoodIn wsX11_side (va_wsS RX11 162 yX11_asBit wsX11_asBit) := goodIn_app (goodIn_g ch_wsX11_side_flat gd_wsX11_side _ [(4, 7), (4, 8), (1, 5)] rfl) ggX11_side_X11_asBit
set_option maxRecDepth 20000 in
theorem SX11_side : ∀ p : Nat, gb cX11_side p = segF [[28, 16, 10, 108, 54, 4, 28, 16, 10, 112, 54, 5, 27, 184, 0, 121, 153, 0, 41, 42, 180, 0, 10, 21, 4, 182, 0, 106, 153, 0, 29, 42, 180, 0, 10, 21, 5, 182, 0, 106, 153, 0, 17, 21, 4, 21, 5, 159, 0, 10, 29, 184, 0, 144, 154, 0, 5, 2, 172, 42, 180, 0, 10, 180], [0, 147, 16, 6, 164, 0, 6, 16, 252, 172, 42, 27, 42, 180, 0, 10, 182, 0, 124, 182, 0, 150, 42, 180, 0, 19, 182, 0, 153, 54, 6, 21, 6, 154, 0, 6, 16, 254, 172, 42, 180, 0, 19, 21, 4, 21, 5, 182, 0, 159, 54, 7, 29, 154, 0, 18, 21, 7, 21, 6, 160, 0, 7, 4], [167, 0, 17, 3, 167, 0, 13, 21, 7, 158, 0, 7, 4, 167, 0, 4, 3, 184, 0, 162, 172]] p := seg_gb (S := [[28, 16, 10, 108, 54, 4, 28, 16, 10, 112, 54, 5, 27, 184, 0, 121, 153, 0, 41, 42, 180, 0, 10, 21, 4, 182, 0, 106, 153, 0, 29, 42, 180, 0, 10, 21, 5, 182, 0, 106, 153, 0, 17, 21, 4, 21, 5, 159, 0, 10, 29, 184, 0, 144, 154, 0, 5, 2, 172, 42, 180, 0, 10, 180], [0, 147, 16, 6, 164, 0, 6, 16, 252, 172, 42, 27, 42, 180, 0, 10, 182, 0, 124, 182, 0, 150, 42, 180, 0, 19, 182, 0, 153, 54, 6, 21, 6, 154, 0, 6, 16, 254, 172, 42, 180, 0, 19, 21, 4, 21, 5, 182, 0, 159, 54, 7, 29, 154, 0, 18, 21, 7, 21, 6, 160, 0, 7, 4], [167, 0, 17, 3, 167, 0, 13, 21, 7, 158, 0, 7, 4, 167, 0, 4, 3, 184, 0, 162, 172]]) (by decide +kernel) (by decide +kernel)
set_option maxRecDepth 20000 in
theorem BX11_side_1_0 : ∀ q ∈ ([(0, 28), (3, 108), (6, 28), (9, 112), (12, 27), (19, 42), (31, 42), (50, 29), (57, 2), (58, 172), (59, 42), (73, 172)] : List (Nat × Nat)), gb cX11_side q.1 = some q.2 := seg_1 SX11_side _ (by decide +kernel)
set_option maxRecDepth 20000 in
theorem BX11_side_1_1 : ∀ q ∈ ([(74, 42), (75, 27), (76, 42), (86, 42), (102, 172), (103, 42), (116, 29), (127, 4), (131, 3), (140, 4), (144, 3), (148, 172)] : List (Nat × Nat)), gb cX11_side q.1 = some q.2 := seg_1 SX11_side _ (by decide +kernel)
set_option maxRecDepth 20000 in
theorem BX11_side_2_0 : ∀ q ∈ ([(1, 16, 10), (4, 54, 4), (7, 16, 10), (10, 54, 5), (23, 21, 4), (35, 21, 5), (43, 21, 4), (45, 21, 5), (66, 16, 6), (71, 16, 252), (93, 54, 6), (95, 21, 6)] : List (Nat × Nat × Nat)), gb cX11_side q.1 = some q.2.1 ∧ gb cX11_side (q.1 + 1) = some q.2.2 := seg_2 SX11_side _ (by decide +kernel)
set_option maxRecDepth 20000 in
theorem BX11_side_2_1 : ∀ q ∈ ([(100, 16, 254), (107, 21, 4), (109, 21, 5), (114, 54, 7), (120, 21, 7), (122, 21, 6), (135, 21, 7)] : List (Nat × Nat × Nat)), gb cX11_side q.1 = some q.2.1 ∧ gb cX11_side (q.1 + 1) = some q.2.2 := seg_2 SX11_side _ (by decide +kernel)
set_option maxRecDepth 20000 in
theorem BX11_side_3_0 : ∀ q ∈ ([(13, 184, 0, 121), (16, 153, 0, 41), (20, 180, 0, 10), (25, 182, 0, 106), (28, 153, 0, 29), (32, 180, 0, 10), (37, 182, 0, 106), (40, 153, 0, 17), (47, 159, 0, 10), (51, 184, 0, 144), (54, 154, 0, 5), (60, 180, 0, 10)] : List (Nat × Nat × Nat × Nat)), gb cX11_side q.1 = some q.2.1 ∧ gb cX11_side (q.1 + 1) = some q.2.2.1 ∧ gb cX11_side (q.1 + 2) = some q.2.2.2 := seg_3 SX11_side _ (by decide +kernel)
set_option maxRecDepth 20000 in
theorem BX11_side_3_1 : ∀ q ∈ ([(63, 180, 0, 147), (68, 164, 0, 6), (77, 180, 0, 10), (80, 182, 0, 124), (83, 182, 0, 150), (87, 180, 0, 19), (90, 182, 0, 153), (97, 154, 0, 6), (104, 180, 0, 19), (111, 182, 0, 159), (117, 154, 0, 18), (124, 160, 0, 7)] : List (Nat × Nat × Nat × Nat)), gb cX11_side q.1 = some q.2.1 ∧ gb cX11_side (q.1 + 1) = some q.2.2.1 ∧ gb cX11_side (q.1 + 2) = some q.2.2.2 := seg_3 SX11_side _ (by decide +kernel)
set_option maxRecDepth 20000 in
theorem BX11_side_3_2 : ∀ q ∈ ([(128, 167, 0, 17), (132, 167, 0, 13), (137, 158, 0, 7), (141, 167, 0, 4), (145, 184, 0, 162)] : List (Nat × Nat × Nat × Nat)), gb cX11_side q.1 = some q.2.1 ∧ gb cX11_side (q.1 + 1) = some q.2.2.1 ∧ gb cX11_side (q.1 + 2) = some q.2.2.2 := seg_3 SX11_side _ (by decide +kernel)
theorem dX11_side_0 : decode cX11_side 0 = .ok (.iload_n 2, 1) := dk28 (BX11_side_1_0 (0, 28) (List.mem_of_getElem? (i := 0) rfl))
theorem dX11_side_1 : decode cX11_side 1 = .ok (.bipush 10, 2) := dk16 10 (BX11_side_2_0 (1, 16, 10) (List.mem_of_getElem? (i := 0) rfl))
theorem dX11_side_3 : decode cX11_side 3 = .ok (.idiv, 1) := dk108 (BX11_side_1_0 (3, 108) (List.mem_of_getElem? (i := 1) rfl))
theorem dX11_side_4 : decode cX11_side 4 = .ok (.istore 4, 2) := dk54 4 (BX11_side_2_0 (4, 54, 4) (List.mem_of_getElem? (i := 1) rfl))
theorem dX11_side_6 : decode cX11_side 6 = .ok (.iload_n 2, 1) := dk28 (BX11_side_1_0 (6, 28) (List.mem_of_getElem? (i := 2) rfl))
theorem dX11_side_7 : decode cX11_side 7 = .ok (.bipush 10, 2) := dk16 10 (BX11_side_2_0 (7, 16, 10) (List.mem_of_getElem? (i := 2) rfl))
theorem dX11_side_9 : decode cX11_side 9 = .ok (.irem, 1) := dk112 (BX11_side_1_0 (9, 112) (List.mem_of_getElem? (i := 3) rfl))
theorem dX11_side_10 : decode cX11_side 10 = .ok (.istore 5, 2) := dk54 5 (BX11_side_2_0 (10, 54, 5) (List.mem_of_getElem? (i := 3) rfl))
theorem dX11_side_12 : decode cX11_side 12 = .ok (.iload_n 1, 1) := dk27 (BX11_side_1_0 (12, 27) (List.mem_of_getElem? (i := 4) rfl))
theorem dX11_side_13 : decode cX11_side 13 = .ok (.invokestatic 121, 3) := dk184 0 121 (BX11_side_3_0 (13, 184, 0, 121) (List.mem_of_getElem? (i := 0) rfl))
theorem dX11_side_16 : decode cX11_side 16 = .ok (.ifCond .eq 41, 3) := dk153 0 41 (BX11_side_3_0 (16, 153, 0, 41) (List.mem_of_getElem? (i := 1) rfl))
theorem dX11_side_19 : decode cX11_side 19 = .ok (.aload_n 0, 1) := dk42 (BX11_side_1_0 (19, 42) (List.mem_of_getElem? (i := 5) rfl))
theorem dX11_side_20 : decode cX11_side 20 = .ok (.getfield 10, 3) := dk180 0 10 (BX11_side_3_0 (20, 180, 0, 10) (List.mem_of_getElem? (i := 2) rfl))
theorem dX11_side_23 : decode cX11_side 23 = .ok (.iload 4, 2) := dk21 4 (BX11_side_2_0 (23, 21, 4) (List.mem_of_getElem? (i := 4) rfl))
theorem dX11_side_25 : decode cX11_side 25 = .ok (.invokevirtual 106, 3) := dk182 0 106 (BX11_side_3_0 (25, 182, 0, 106) (List.mem_of_getElem? (i := 3) rfl))
theorem dX11_side_28 : decode cX11_side 28 = .ok (.ifCond .eq 29, 3) := dk153 0 29 (BX11_side_3_0 (28, 153, 0, 29) (List.mem_of_getElem? (i := 4) rfl))
theorem dX11_side_31 : decode cX11_side 31 = .ok (.aload_n 0, 1) := dk42 (BX11_side_1_0 (31, 42) (List.mem_of_getElem? (i := 6) rfl))
theorem dX11_side_32 : decode cX11_side 32 = .ok (.getfield 10, 3) := dk180 0 10 (BX11_side_3_0 (32, 180, 0, 10) (List.mem_of_getElem? (i := 5) rfl))
theorem dX11_side_35 : decode cX11_side 35 = .ok (.iload 5, 2) := dk21 5 (BX11_side_2_0 (35, 21, 5) (List.mem_of_getElem? (i := 5) rfl))
theorem dX11_side_37 : decode cX11_side 37 = .ok (.invokevirtual 106, 3) := dk182 0 106 (BX11_side_3_0 (37, 182, 0, 106) (List.mem_of_getElem? (i := 6) rfl))
theorem dX11_side_40 : decode cX11_side 40 = .ok (.ifCond .eq 17, 3) := dk153 0 17 (BX11_side_3_0 (40, 153, 0, 17) (List.mem_of_getElem? (i := 7) rfl))
theorem dX11_side_43 : decode cX11_side 43 = .ok (.iload 4, 2) := dk21 4 (BX11_side_2_0 (43, 21, 4) (List.mem_of_getElem? (i := 6) rfl))
theorem dX11_side_45 : decode cX11_side 45 = .ok (.iload 5, 2) := dk21 5 (BX11_side_2_0 (45, 21, 5) (List.mem_of_getElem? (i := 7) rfl))
theorem dX11_side_47 : decode cX11_side 47 = .ok (.if_icmp .eq 10, 3) := dk159 0 10 (BX11_side_3_0 (47, 159, 0, 10) (List.mem_of_getElem? (i := 8) rfl))
theorem dX11_side_50 : decode cX11_side 50 = .ok (.iload_n 3, 1) := dk29 (BX11_side_1_0 (50, 29) (List.mem_of_getElem? (i := 7) rfl))
theorem dX11_side_51 : decode cX11_side 51 = .ok (.invokestatic 144, 3) := dk184 0 144 (BX11_side_3_0 (51, 184, 0, 144) (List.mem_of_getElem? (i := 9) rfl))
theorem dX11_side_54 : decode cX11_side 54 = .ok (.ifCond .ne 5, 3) := dk154 0 5 (BX11_side_3_0 (54, 154, 0, 5) (List.mem_of_getElem? (i := 10) rfl))
theorem dX11_side_57 : decode cX11_side 57 = .ok (.iconst (-1), 1) := dk2 (BX11_side_1_0 (57, 2) (List.mem_of_getElem? (i := 8) rfl))
theorem dX11_side_58 : decode cX11_side 58 = .ok (.ireturn, 1) := dk172 (BX11_side_1_0 (58, 172) (List.mem_of_getElem? (i := 9) rfl))
theorem dX11_side_59 : decode cX11_side 59 = .ok (.aload_n 0, 1) := dk42 (BX11_side_1_0 (59, 42) (List.mem_of_getElem? (i := 10) rfl))
theorem dX11_side_60 : decode cX11_side 60 = .ok (.getfield 10, 3) := dk180 0 10 (BX11_side_3_0 (60, 180, 0, 10) (List.mem_of_getElem? (i := 11) rfl))
theorem dX11_side_63 : decode cX11_side 63 = .ok (.getfield 147, 3) := dk180 0 147 (BX11_side_3_1 (63, 180, 0, 147) (List.mem_of_getElem? (i := 0) rfl))
theorem dX11_side_66 : decode cX11_side 66 = .ok (.bipush 6, 2) := dk16 6 (BX11_side_2_0 (66, 16, 6) (List.mem_of_getElem? (i := 8) rfl))
theorem dX11_side_68 : decode cX11_side 68 = .ok (.if_icmp .le 6, 3) := dk164 0 6 (BX11_side_3_1 (68, 164, 0, 6) (List.mem_of_getElem? (i := 1) rfl))
theorem dX11_side_71 : decode cX11_side 71 = .ok (.bipush (-4), 2) := dk16 252 (BX11_side_2_0 (71, 16, 252) (List.mem_of_getElem? (i := 9) rfl))
theorem dX11_side_73 : decode cX11_side 73 = .ok (.ireturn, 1) := dk172 (BX11_side_1_0 (73, 172) (List.mem_of_getElem? (i := 11) rfl))
theorem dX11_side_74 : decode cX11_side 74 = .ok (.aload_n 0, 1) := dk42 (BX11_side_1_1 (74, 42) (List.mem_of_getElem? (i := 0) rfl))
theorem dX11_side_75 : decode cX11_side 75 = .ok (.iload_n 1, 1) := dk27 (BX11_side_1_1 (75, 27) (List.mem_of_getElem? (i := 1) rfl))
theorem dX11_side_76 : decode cX11_side 76 = .ok (.aload_n 0, 1) := dk42 (BX11_side_1_1 (76, 42) (List.mem_of_getElem? (i := 2) rfl))
theorem dX11_side_77 : decode cX11_side 77 = .ok (.getfield 10, 3) := dk180 0 10 (BX11_side_3_1 (77, 180, 0, 10) (List.mem_of_getElem? (i := 2) rfl))
theorem dX11_side_80 : decode cX11_side 80 = .ok (.invokevirtual 124, 3) := dk182 0 124 (BX11_side_3_1 (80, 182, 0, 124) (List.mem_of_getElem? (i := 3) rfl))
theorem dX11_side_83 : decode cX11_side 83 = .ok (.invokevirtual 150, 3) := dk182 0 150 (BX11_side_3_1 (83, 182, 0, 150) (List.mem_of_getElem? (i := 4) rfl))
theorem dX11_side_86 : decode cX11_side 86 = .ok (.aload_n 0, 1) := dk42 (BX11_side_1_1 (86, 42) (List.mem_of_getElem? (i := 3) rfl))
theorem dX11_side_87 : decode cX11_side 87 = .ok (.getfield 19, 3) := dk180 0 19 (BX11_side_3_1 (87, 180, 0, 19) (List.mem_of_getElem? (i := 5) rfl))
theorem dX11_side_90 : decode cX11_side 90 = .ok (.invokevirtual 153, 3) := dk182 0 153 (BX11_side_3_1 (90, 182, 0, 153) (List.mem_of_getElem? (i := 6) rfl))
theorem dX11_side_93 : decode cX11_side 93 = .ok (.istore 6, 2) := dk54 6 (BX11_side_2_0 (93, 54, 6) (List.mem_of_getElem? (i := 10) rfl))
theorem dX11_side_95 : decode cX11_side 95 = .ok (.iload 6, 2) := dk21 6 (BX11_side_2_0 (95, 21, 6) (List.mem_of_getElem? (i := 11) rfl))
theorem dX11_side_97 : decode cX11_side 97 = .ok (.ifCond .ne 6, 3) := dk154 0 6 (BX11_side_3_1 (97, 154, 0, 6) (List.mem_of_getElem? (i := 7) rfl))
theorem dX11_side_100 : decode cX11_side 100 = .ok (.bipush (-2), 2) := dk16 254 (BX11_side_2_1 (100, 16, 254) (List.mem_of_getElem? (i := 0) rfl))
theorem dX11_side_102 : decode cX11_side 102 = .ok (.ireturn, 1) := dk172 (BX11_side_1_1 (102, 172) (List.mem_of_getElem? (i := 4) rfl))
theorem dX11_side_103 : decode cX11_side 103 = .ok (.aload_n 0, 1) := dk42 (BX11_side_1_1 (103, 42) (List.mem_of_getElem? (i := 5) rfl))
theorem dX11_side_104 : decode cX11_side 104 = .ok (.getfield 19, 3) := dk180 0 19 (BX11_side_3_1 (104, 180, 0, 19) (List.mem_of_getElem? (i := 8) rfl))
theorem dX11_side_107 : decode cX11_side 107 = .ok (.iload 4, 2) := dk21 4 (BX11_side_2_1 (107, 21, 4) (List.mem_of_getElem? (i := 1) rfl))
theorem dX11_side_109 : decode cX11_side 109 = .ok (.iload 5, 2) := dk21 5 (BX11_side_2_1 (109, 21, 5) (List.mem_of_getElem? (i := 2) rfl))
theorem dX11_side_111 : decode cX11_side 111 = .ok (.invokevirtual 159, 3) := dk182 0 159 (BX11_side_3_1 (111, 182, 0, 159) (List.mem_of_getElem? (i := 9) rfl))
theorem dX11_side_114 : decode cX11_side 114 = .ok (.istore 7, 2) := dk54 7 (BX11_side_2_1 (114, 54, 7) (List.mem_of_getElem? (i := 3) rfl))
theorem dX11_side_116 : decode cX11_side 116 = .ok (.iload_n 3, 1) := dk29 (BX11_side_1_1 (116, 29) (List.mem_of_getElem? (i := 6) rfl))
theorem dX11_side_117 : decode cX11_side 117 = .ok (.ifCond .ne 18, 3) := dk154 0 18 (BX11_side_3_1 (117, 154, 0, 18) (List.mem_of_getElem? (i := 10) rfl))
theorem dX11_side_120 : decode cX11_side 120 = .ok (.iload 7, 2) := dk21 7 (BX11_side_2_1 (120, 21, 7) (List.mem_of_getElem? (i := 4) rfl))
theorem dX11_side_122 : decode cX11_side 122 = .ok (.iload 6, 2) := dk21 6 (BX11_side_2_1 (122, 21, 6) (List.mem_of_getElem? (i := 5) rfl))
theorem dX11_side_124 : decode cX11_side 124 = .ok (.if_icmp .ne 7, 3) := dk160 0 7 (BX11_side_3_1 (124, 160, 0, 7) (List.mem_of_getElem? (i := 11) rfl))
theorem dX11_side_127 : decode cX11_side 127 = .ok (.iconst 1, 1) := dk4 (BX11_side_1_1 (127, 4) (List.mem_of_getElem? (i := 7) rfl))
theorem dX11_side_128 : decode cX11_side 128 = .ok (.goto 17, 3) := dk167 0 17 (BX11_side_3_2 (128, 167, 0, 17) (List.mem_of_getElem? (i := 0) rfl))
theorem dX11_side_131 : decode cX11_side 131 = .ok (.iconst 0, 1) := dk3 (BX11_side_1_1 (131, 3) (List.mem_of_getElem? (i := 8) rfl))
theorem dX11_side_132 : decode cX11_side 132 = .ok (.goto 13, 3) := dk167 0 13 (BX11_side_3_2 (132, 167, 0, 13) (List.mem_of_getElem? (i := 1) rfl))
theorem dX11_side_135 : decode cX11_side 135 = .ok (.iload 7, 2) := dk21 7 (BX11_side_2_1 (135, 21, 7) (List.mem_of_getElem? (i := 6) rfl))
theorem dX11_side_137 : decode cX11_side 137 = .ok (.ifCond .le 7, 3) := dk158 0 7 (BX11_side_3_2 (137, 158, 0, 7) (List.mem_of_getElem? (i := 2) rfl))
theorem dX11_side_140 : decode cX11_side 140 = .ok (.iconst 1, 1) := dk4 (BX11_side_1_1 (140, 4) (List.mem_of_getElem? (i := 9) rfl))
theorem dX11_side_141 : decode cX11_side 141 = .ok (.goto 4, 3) := dk167 0 4 (BX11_side_3_2 (141, 167, 0, 4) (List.mem_of_getElem? (i := 3) rfl))
theorem dX11_side_144 : decode cX11_side 144 = .ok (.iconst 0, 1) := dk3 (BX11_side_1_1 (144, 3) (List.mem_of_getElem? (i := 10) rfl))
theorem dX11_side_145 : decode cX11_side 145 = .ok (.invokestatic 162, 3) := dk184 0 162 (BX11_side_3_2 (145, 184, 0, 162) (List.mem_of_getElem? (i := 4) rfl))
theorem dX11_side_148 : decode cX11_side 148 = .ok (.ireturn, 1) := dk172 (BX11_side_1_1 (148, 172) (List.mem_of_getElem? (i := 11) rfl))
set_option maxRecDepth 20000 in
theorem ggX11_without_X11_isSlack : GoodIn wsX11_without wsX11_isSlack := goodIn_g ch_wsX11_without_flat gd_wsX11_without _ [(1, 6), (1, 7), (1, 8), (1, 5), (1, 9)] rfl
set_option maxRecDepth 20000 in
theorem gX11_without_X11_isSlack : GoodIn wsX11_without (va_wsS RX11 121 yX11_isSlack wsX11_isSlack) := goodIn_app (goodIn_g ch_wsX11_without_flat gd_wsX11_without _ [(1, 3), (1, 4), (1, 5)] rfl) ggX11_without_X11_isSlack
set_option maxRecDepth 20000 in
theorem ggX11_without_X7_isSheet : GoodIn wsX11_without wsX7_isSheet := gcons (goodIn_g ch_wsX11_without_flat gd_wsX11_without _ [(1, 14)] rfl) (goodIn_app (goodIn_g ch_wsX11_without_flat gd_wsX11_without _ [(1, 15), (1, 8), (1, 5), (1, 9)] rfl) (gchunk ch_wsX11_without_flat gd_wsX11_without 5 rfl))
set_option maxRecDepth 20000 in
theorem gX11_without_X7_isSheet : GoodIn wsX11_without (wsV RX11 106 RX7 yX7_isSheet wsX7_isSheet) := goodIn_app (goodIn_g ch_wsX11_without_flat gd_wsX11_without _ [(1, 10), (1, 11), (1, 12), (1, 13)] rfl) ggX11_without_X7_isSheet
set_option maxRecDepth 20000 in
theorem ggX11_without_X7_all : GoodIn wsX11_without wsX7_all := gcons (goodIn_g ch_wsX11_without_flat gd_wsX11_without _ [(1, 19)] rfl) (goodIn_app (goodIn_g ch_wsX11_without_flat gd_wsX11_without _ [(1, 15)] rfl) (gchunk ch_wsX11_without_flat gd_wsX11_without 5 rfl))
set_option maxRecDepth 20000 in
theorem gX11_without_X7_all : GoodIn wsX11_without (wsV RX11 124 RX7 yX7_all wsX7_all) := goodIn_app (goodIn_g ch_wsX11_without_flat gd_wsX11_without _ [(1, 16), (1, 17), (1, 18), (1, 13)] rfl) ggX11_without_X7_all
set_option maxRecDepth 20000 in
theorem ggX11_without_X11_findOrders : GoodIn wsX11_without wsX11_findOrders := gcons (goodIn_g ch_wsX11_without_flat gd_wsX11_without _ [(1, 23)] rfl) (goodIn_app (goodIn_app (goodIn_app (goodIn_app (goodIn_g ch_wsX11_without_flat gd_wsX11_without _ [(1, 0), (1, 2), (2, 0), (2, 1), (2, 2), (2, 3), (2, 4), (1, 13), (2, 5), (2, 6), (2, 7), (2, 8), (2, 9), (2, 10), (2, 11), (2, 12), (2, 13), (2, 14), (2, 15), (2, 16), (2, 17), (2, 18), (2, 19), (2, 20)] rfl) (goodIn_g ch_wsX11_without_flat gd_wsX11_without _ [(2, 21), (2, 22), (2, 23), (3, 0), (3, 1), (3, 2), (3, 3), (3, 4), (3, 5), (3, 6), (3, 7), (3, 8), (3, 9), (1, 5), (3, 10), (3, 11), (3, 12), (3, 13), (3, 14), (3, 15)] rfl)) (gchunk ch_wsX11_without_flat gd_wsX11_without 4 rfl)) (gchunk ch_wsX11_without_flat gd_wsX11_without 5 rfl)) (gchunk ch_wsX11_without_flat gd_wsX11_without 6 rfl))
set_option maxRecDepth 20000 in
theorem gX11_without_X11_findOrders : GoodIn wsX11_without (wsV RX11 150 RX11 yX11_findOrders wsX11_findOrders) := goodIn_app (goodIn_g ch_wsX11_without_flat gd_wsX11_without _ [(1, 20), (1, 21), (1, 22), (1, 5)] rfl) ggX11_without_X11_findOrders
set_option maxRecDepth 20000 in
theorem ggX11_without_X5_howMany : GoodIn wsX11_without wsX5_howMany := gcons (goodIn_g ch_wsX11_without_flat gd_wsX11_without _ [(3, 19)] rfl) (goodIn_app (goodIn_g ch_wsX11_without_flat gd_wsX11_without _ [(3, 15)] rfl) (gchunk ch_wsX11_without_flat gd_wsX11_without 6 rfl))
set_option maxRecDepth 20000 in
theorem gX11_without_X5_howMany : GoodIn wsX11_without (wsV RX11 153 RX5 yX5_howMany wsX5_howMany) := goodIn_app (goodIn_g ch_wsX11_without_flat gd_wsX11_without _ [(3, 16), (3, 17), (3, 18), (2, 16)] rfl) ggX11_without_X5_howMany
set_option maxRecDepth 20000 in
theorem SX11_without : ∀ p : Nat, gb cX11_without p = segF [[27, 184, 0, 121, 153, 0, 14, 42, 180, 0, 10, 28, 182, 0, 106, 154, 0, 5, 2, 172, 42, 180, 0, 10, 180, 0, 147, 4, 100, 16, 6, 164, 0, 6, 16, 252, 172, 42, 27, 42, 180, 0, 10, 182, 0, 124, 4, 28, 120, 2, 130, 126, 182, 0, 150, 42, 180, 0, 19, 182, 0, 153, 172]] p := seg_gb (S := [[27, 184, 0, 121, 153, 0, 14, 42, 180, 0, 10, 28, 182, 0, 106, 154, 0, 5, 2, 172, 42, 180, 0, 10, 180, 0, 147, 4, 100, 16, 6, 164, 0, 6, 16, 252, 172, 42, 27, 42, 180, 0, 10, 182, 0, 124, 4, 28, 120, 2, 130, 126, 182, 0, 150, 42, 180, 0, 19, 182, 0, 153, 172]]) (by decide +kernel) (by decide +kernel)
set_option maxRecDepth 20000 in
theorem BX11_without_1_0 : ∀ q ∈ ([(0, 27), (7, 42), (11, 28), (18, 2), (19, 172), (20, 42), (27, 4), (28, 100), (36, 172), (37, 42), (38, 27), (39, 42)] : List (Nat × Nat)), gb cX11_without q.1 = some q.2 := seg_1 SX11_without _ (by decide +kernel)
set_option maxRecDepth 20000 in
theorem BX11_without_1_1 : ∀ q ∈ ([(46, 4), (47, 28), (48, 120), (49, 2), (50, 130), (51, 126), (55, 42), (62, 172)] : List (Nat × Nat)), gb cX11_without q.1 = some q.2 := seg_1 SX11_without _ (by decide +kernel)
set_option maxRecDepth 20000 in
theorem BX11_without_2_0 : ∀ q ∈ ([(29, 16, 6), (34, 16, 252)] : List (Nat × Nat × Nat)), gb cX11_without q.1 = some q.2.1 ∧ gb cX11_without (q.1 + 1) = some q.2.2 := seg_2 SX11_without _ (by decide +kernel)
set_option maxRecDepth 20000 in
theorem BX11_without_3_0 : ∀ q ∈ ([(1, 184, 0, 121), (4, 153, 0, 14), (8, 180, 0, 10), (12, 182, 0, 106), (15, 154, 0, 5), (21, 180, 0, 10), (24, 180, 0, 147), (31, 164, 0, 6), (40, 180, 0, 10), (43, 182, 0, 124), (52, 182, 0, 150), (56, 180, 0, 19)] : List (Nat × Nat × Nat × Nat)), gb cX11_without q.1 = some q.2.1 ∧ gb cX11_without (q.1 + 1) = some q.2.2.1 ∧ gb cX11_without (q.1 + 2) = some q.2.2.2 := seg_3 SX11_without _ (by decide +kernel)
set_option maxRecDepth 20000 in
theorem BX11_without_3_1 : ∀ q ∈ ([(59, 182, 0, 153)] : List (Nat × Nat × Nat × Nat)), gb cX11_without q.1 = some q.2.1 ∧ gb cX11_without (q.1 + 1) = some q.2.2.1 ∧ gb cX11_without (q.1 + 2) = some q.2.2.2 := seg_3 SX11_without _ (by decide +kernel)
theorem dX11_without_0 : decode cX11_without 0 = .ok (.iload_n 1, 1) := dk27 (BX11_without_1_0 (0, 27) (List.mem_of_getElem? (i := 0) rfl))
theorem dX11_without_1 : decode cX11_without 1 = .ok (.invokestatic 121, 3) := dk184 0 121 (BX11_without_3_0 (1, 184, 0, 121) (List.mem_of_getElem? (i := 0) rfl))
theorem dX11_without_4 : decode cX11_without 4 = .ok (.ifCond .eq 14, 3) := dk153 0 14 (BX11_without_3_0 (4, 153, 0, 14) (List.mem_of_getElem? (i := 1) rfl))
theorem dX11_without_7 : decode cX11_without 7 = .ok (.aload_n 0, 1) := dk42 (BX11_without_1_0 (7, 42) (List.mem_of_getElem? (i := 1) rfl))
theorem dX11_without_8 : decode cX11_without 8 = .ok (.getfield 10, 3) := dk180 0 10 (BX11_without_3_0 (8, 180, 0, 10) (List.mem_of_getElem? (i := 2) rfl))
theorem dX11_without_11 : decode cX11_without 11 = .ok (.iload_n 2, 1) := dk28 (BX11_without_1_0 (11, 28) (List.mem_of_getElem? (i := 2) rfl))
theorem dX11_without_12 : decode cX11_without 12 = .ok (.invokevirtual 106, 3) := dk182 0 106 (BX11_without_3_0 (12, 182, 0, 106) (List.mem_of_getElem? (i := 3) rfl))
theorem dX11_without_15 : decode cX11_without 15 = .ok (.ifCond .ne 5, 3) := dk154 0 5 (BX11_without_3_0 (15, 154, 0, 5) (List.mem_of_getElem? (i := 4) rfl))
theorem dX11_without_18 : decode cX11_without 18 = .ok (.iconst (-1), 1) := dk2 (BX11_without_1_0 (18, 2) (List.mem_of_getElem? (i := 3) rfl))
theorem dX11_without_19 : decode cX11_without 19 = .ok (.ireturn, 1) := dk172 (BX11_without_1_0 (19, 172) (List.mem_of_getElem? (i := 4) rfl))
theorem dX11_without_20 : decode cX11_without 20 = .ok (.aload_n 0, 1) := dk42 (BX11_without_1_0 (20, 42) (List.mem_of_getElem? (i := 5) rfl))
theorem dX11_without_21 : decode cX11_without 21 = .ok (.getfield 10, 3) := dk180 0 10 (BX11_without_3_0 (21, 180, 0, 10) (List.mem_of_getElem? (i := 5) rfl))
theorem dX11_without_24 : decode cX11_without 24 = .ok (.getfield 147, 3) := dk180 0 147 (BX11_without_3_0 (24, 180, 0, 147) (List.mem_of_getElem? (i := 6) rfl))
theorem dX11_without_27 : decode cX11_without 27 = .ok (.iconst 1, 1) := dk4 (BX11_without_1_0 (27, 4) (List.mem_of_getElem? (i := 6) rfl))
theorem dX11_without_28 : decode cX11_without 28 = .ok (.isub, 1) := dk100 (BX11_without_1_0 (28, 100) (List.mem_of_getElem? (i := 7) rfl))
theorem dX11_without_29 : decode cX11_without 29 = .ok (.bipush 6, 2) := dk16 6 (BX11_without_2_0 (29, 16, 6) (List.mem_of_getElem? (i := 0) rfl))
theorem dX11_without_31 : decode cX11_without 31 = .ok (.if_icmp .le 6, 3) := dk164 0 6 (BX11_without_3_0 (31, 164, 0, 6) (List.mem_of_getElem? (i := 7) rfl))
theorem dX11_without_34 : decode cX11_without 34 = .ok (.bipush (-4), 2) := dk16 252 (BX11_without_2_0 (34, 16, 252) (List.mem_of_getElem? (i := 1) rfl))
theorem dX11_without_36 : decode cX11_without 36 = .ok (.ireturn, 1) := dk172 (BX11_without_1_0 (36, 172) (List.mem_of_getElem? (i := 8) rfl))
theorem dX11_without_37 : decode cX11_without 37 = .ok (.aload_n 0, 1) := dk42 (BX11_without_1_0 (37, 42) (List.mem_of_getElem? (i := 9) rfl))
theorem dX11_without_38 : decode cX11_without 38 = .ok (.iload_n 1, 1) := dk27 (BX11_without_1_0 (38, 27) (List.mem_of_getElem? (i := 10) rfl))
theorem dX11_without_39 : decode cX11_without 39 = .ok (.aload_n 0, 1) := dk42 (BX11_without_1_0 (39, 42) (List.mem_of_getElem? (i := 11) rfl))
theorem dX11_without_40 : decode cX11_without 40 = .ok (.getfield 10, 3) := dk180 0 10 (BX11_without_3_0 (40, 180, 0, 10) (List.mem_of_getElem? (i := 8) rfl))
theorem dX11_without_43 : decode cX11_without 43 = .ok (.invokevirtual 124, 3) := dk182 0 124 (BX11_without_3_0 (43, 182, 0, 124) (List.mem_of_getElem? (i := 9) rfl))
theorem dX11_without_46 : decode cX11_without 46 = .ok (.iconst 1, 1) := dk4 (BX11_without_1_1 (46, 4) (List.mem_of_getElem? (i := 0) rfl))
theorem dX11_without_47 : decode cX11_without 47 = .ok (.iload_n 2, 1) := dk28 (BX11_without_1_1 (47, 28) (List.mem_of_getElem? (i := 1) rfl))
theorem dX11_without_48 : decode cX11_without 48 = .ok (.ishl, 1) := dk120 (BX11_without_1_1 (48, 120) (List.mem_of_getElem? (i := 2) rfl))
theorem dX11_without_49 : decode cX11_without 49 = .ok (.iconst (-1), 1) := dk2 (BX11_without_1_1 (49, 2) (List.mem_of_getElem? (i := 3) rfl))
theorem dX11_without_50 : decode cX11_without 50 = .ok (.ixor, 1) := dk130 (BX11_without_1_1 (50, 130) (List.mem_of_getElem? (i := 4) rfl))
theorem dX11_without_51 : decode cX11_without 51 = .ok (.iand, 1) := dk126 (BX11_without_1_1 (51, 126) (List.mem_of_getElem? (i := 5) rfl))
theorem dX11_without_52 : decode cX11_without 52 = .ok (.invokevirtual 150, 3) := dk182 0 150 (BX11_without_3_0 (52, 182, 0, 150) (List.mem_of_getElem? (i := 10) rfl))
theorem dX11_without_55 : decode cX11_without 55 = .ok (.aload_n 0, 1) := dk42 (BX11_without_1_1 (55, 42) (List.mem_of_getElem? (i := 6) rfl))
theorem dX11_without_56 : decode cX11_without 56 = .ok (.getfield 19, 3) := dk180 0 19 (BX11_without_3_0 (56, 180, 0, 19) (List.mem_of_getElem? (i := 11) rfl))
theorem dX11_without_59 : decode cX11_without 59 = .ok (.invokevirtual 153, 3) := dk182 0 153 (BX11_without_3_1 (59, 182, 0, 153) (List.mem_of_getElem? (i := 0) rfl))
theorem dX11_without_62 : decode cX11_without 62 = .ok (.ireturn, 1) := dk172 (BX11_without_1_1 (62, 172) (List.mem_of_getElem? (i := 7) rfl))
set_option maxRecDepth 20000 in
theorem ggX11_findOrders_X7_findWorms : GoodIn wsX11_findOrders wsX7_findWorms := gcons (goodIn_g ch_wsX11_findOrders_flat gd_wsX11_findOrders _ [(1, 8)] rfl) (goodIn_app (goodIn_g ch_wsX11_findOrders_flat gd_wsX11_findOrders _ [(1, 9), (1, 10), (1, 11), (1, 12), (1, 13), (1, 14), (1, 15)] rfl) (gchunk ch_wsX11_findOrders_flat gd_wsX11_findOrders 4 rfl))
set_option maxRecDepth 20000 in
theorem gX11_findOrders_X7_findWorms : GoodIn wsX11_findOrders (wsV RX11 127 RX7 yX7_findWorms wsX7_findWorms) := goodIn_app (goodIn_g ch_wsX11_findOrders_flat gd_wsX11_findOrders _ [(1, 4), (1, 5), (1, 6), (1, 7)] rfl) ggX11_findOrders_X7_findWorms
set_option maxRecDepth 20000 in
theorem ggX11_findOrders_X5_lay : GoodIn wsX11_findOrders wsX5_lay := gcons (goodIn_g ch_wsX11_findOrders_flat gd_wsX11_findOrders _ [(1, 20)] rfl) (goodIn_app (goodIn_g ch_wsX11_findOrders_flat gd_wsX11_findOrders _ [(1, 21), (1, 22), (1, 23), (2, 0), (2, 1), (1, 19), (2, 2), (2, 3), (2, 4), (2, 5), (2, 6), (2, 7), (2, 8), (2, 9), (2, 10), (2, 11), (2, 12), (2, 13), (2, 14), (2, 15), (2, 16), (2, 17), (2, 18), (2, 19)] rfl) (gchunk ch_wsX11_findOrders_flat gd_wsX11_findOrders 5 rfl))
set_option maxRecDepth 20000 in
theorem gX11_findOrders_X5_lay : GoodIn wsX11_findOrders (wsV RX11 166 RX5 yX5_lay wsX5_lay) := goodIn_app (goodIn_g ch_wsX11_findOrders_flat gd_wsX11_findOrders _ [(1, 16), (1, 17), (1, 18), (1, 19)] rfl) ggX11_findOrders_X5_lay
set_option maxRecDepth 20000 in
theorem SX11_findOrders : ∀ p : Nat, gb cX11_findOrders p = segF [[42, 180, 0, 10, 27, 28, 182, 0, 127, 42, 180, 0, 19, 28, 42, 180, 0, 10, 180, 0, 135, 42, 180, 0, 10, 180, 0, 131, 182, 0, 166, 177]] p := seg_gb (S := [[42, 180, 0, 10, 27, 28, 182, 0, 127, 42, 180, 0, 19, 28, 42, 180, 0, 10, 180, 0, 135, 42, 180, 0, 10, 180, 0, 131, 182, 0, 166, 177]]) (by decide +kernel) (by decide +kernel)
set_option maxRecDepth 20000 in
theorem BX11_findOrders_1_0 : ∀ q ∈ ([(0, 42), (4, 27), (5, 28), (9, 42), (13, 28), (14, 42), (21, 42), (31, 177)] : List (Nat × Nat)), gb cX11_findOrders q.1 = some q.2 := seg_1 SX11_findOrders _ (by decide +kernel)
set_option maxRecDepth 20000 in
theorem BX11_findOrders_3_0 : ∀ q ∈ ([(1, 180, 0, 10), (6, 182, 0, 127), (10, 180, 0, 19), (15, 180, 0, 10), (18, 180, 0, 135), (22, 180, 0, 10), (25, 180, 0, 131), (28, 182, 0, 166)] : List (Nat × Nat × Nat × Nat)), gb cX11_findOrders q.1 = some q.2.1 ∧ gb cX11_findOrders (q.1 + 1) = some q.2.2.1 ∧ gb cX11_findOrders (q.1 + 2) = some q.2.2.2 := seg_3 SX11_findOrders _ (by decide +kernel)
theorem dX11_findOrders_0 : decode cX11_findOrders 0 = .ok (.aload_n 0, 1) := dk42 (BX11_findOrders_1_0 (0, 42) (List.mem_of_getElem? (i := 0) rfl))
theorem dX11_findOrders_1 : decode cX11_findOrders 1 = .ok (.getfield 10, 3) := dk180 0 10 (BX11_findOrders_3_0 (1, 180, 0, 10) (List.mem_of_getElem? (i := 0) rfl))
theorem dX11_findOrders_4 : decode cX11_findOrders 4 = .ok (.iload_n 1, 1) := dk27 (BX11_findOrders_1_0 (4, 27) (List.mem_of_getElem? (i := 1) rfl))
theorem dX11_findOrders_5 : decode cX11_findOrders 5 = .ok (.iload_n 2, 1) := dk28 (BX11_findOrders_1_0 (5, 28) (List.mem_of_getElem? (i := 2) rfl))
theorem dX11_findOrders_6 : decode cX11_findOrders 6 = .ok (.invokevirtual 127, 3) := dk182 0 127 (BX11_findOrders_3_0 (6, 182, 0, 127) (List.mem_of_getElem? (i := 1) rfl))
theorem dX11_findOrders_9 : decode cX11_findOrders 9 = .ok (.aload_n 0, 1) := dk42 (BX11_findOrders_1_0 (9, 42) (List.mem_of_getElem? (i := 3) rfl))
theorem dX11_findOrders_10 : decode cX11_findOrders 10 = .ok (.getfield 19, 3) := dk180 0 19 (BX11_findOrders_3_0 (10, 180, 0, 19) (List.mem_of_getElem? (i := 2) rfl))
theorem dX11_findOrders_13 : decode cX11_findOrders 13 = .ok (.iload_n 2, 1) := dk28 (BX11_findOrders_1_0 (13, 28) (List.mem_of_getElem? (i := 4) rfl))
theorem dX11_findOrders_14 : decode cX11_findOrders 14 = .ok (.aload_n 0, 1) := dk42 (BX11_findOrders_1_0 (14, 42) (List.mem_of_getElem? (i := 5) rfl))
theorem dX11_findOrders_15 : decode cX11_findOrders 15 = .ok (.getfield 10, 3) := dk180 0 10 (BX11_findOrders_3_0 (15, 180, 0, 10) (List.mem_of_getElem? (i := 3) rfl))
theorem dX11_findOrders_18 : decode cX11_findOrders 18 = .ok (.getfield 135, 3) := dk180 0 135 (BX11_findOrders_3_0 (18, 180, 0, 135) (List.mem_of_getElem? (i := 4) rfl))
theorem dX11_findOrders_21 : decode cX11_findOrders 21 = .ok (.aload_n 0, 1) := dk42 (BX11_findOrders_1_0 (21, 42) (List.mem_of_getElem? (i := 6) rfl))
theorem dX11_findOrders_22 : decode cX11_findOrders 22 = .ok (.getfield 10, 3) := dk180 0 10 (BX11_findOrders_3_0 (22, 180, 0, 10) (List.mem_of_getElem? (i := 5) rfl))
theorem dX11_findOrders_25 : decode cX11_findOrders 25 = .ok (.getfield 131, 3) := dk180 0 131 (BX11_findOrders_3_0 (25, 180, 0, 131) (List.mem_of_getElem? (i := 6) rfl))
theorem dX11_findOrders_28 : decode cX11_findOrders 28 = .ok (.invokevirtual 166, 3) := dk182 0 166 (BX11_findOrders_3_0 (28, 182, 0, 166) (List.mem_of_getElem? (i := 7) rfl))
theorem dX11_findOrders_31 : decode cX11_findOrders 31 = .ok (.return_, 1) := dk177 (BX11_findOrders_1_0 (31, 177) (List.mem_of_getElem? (i := 7) rfl))
set_option maxRecDepth 20000 in
theorem ggX11_line_X7_isSheet : GoodIn wsX11_line wsX7_isSheet := gcons (goodIn_g ch_wsX11_line_flat gd_wsX11_line _ [(1, 6)] rfl) (goodIn_app (goodIn_g ch_wsX11_line_flat gd_wsX11_line _ [(1, 7), (1, 8), (1, 9), (1, 10)] rfl) (gchunk ch_wsX11_line_flat gd_wsX11_line 3 rfl))
set_option maxRecDepth 20000 in
theorem gX11_line_X7_isSheet : GoodIn wsX11_line (wsV RX11 106 RX7 yX7_isSheet wsX7_isSheet) := goodIn_app (goodIn_g ch_wsX11_line_flat gd_wsX11_line _ [(1, 2), (1, 3), (1, 4), (1, 5)] rfl) ggX11_line_X7_isSheet
set_option maxRecDepth 20000 in
theorem ggX11_line_X11_isInk : GoodIn wsX11_line wsX11_isInk := goodIn_g ch_wsX11_line_flat gd_wsX11_line _ [(1, 13), (1, 14), (1, 8), (1, 9), (1, 10)] rfl
set_option maxRecDepth 20000 in
theorem gX11_line_X11_isInk : GoodIn wsX11_line (va_wsS RX11 170 yX11_isInk wsX11_isInk) := goodIn_app (goodIn_g ch_wsX11_line_flat gd_wsX11_line _ [(1, 11), (1, 12), (1, 9)] rfl) ggX11_line_X11_isInk
set_option maxRecDepth 20000 in
theorem ggX11_line_X3_add : GoodIn wsX11_line wsX3_add := gcons (goodIn_g ch_wsX11_line_flat gd_wsX11_line _ [(1, 19)] rfl) (goodIn_app (goodIn_g ch_wsX11_line_flat gd_wsX11_line _ [(1, 20), (1, 21), (1, 22)] rfl) (gchunk ch_wsX11_line_flat gd_wsX11_line 4 rfl))
set_option maxRecDepth 20000 in
theorem gX11_line_X3_add : GoodIn wsX11_line (wsV RX11 173 RX3 yX3_add wsX3_add) := goodIn_app (goodIn_g ch_wsX11_line_flat gd_wsX11_line _ [(1, 15), (1, 16), (1, 17), (1, 18)] rfl) ggX11_line_X3_add
set_option maxRecDepth 20000 in
theorem SX11_line : ∀ p : Nat, gb cX11_line p = segF [[42, 180, 0, 10, 27, 182, 0, 106, 153, 0, 10, 28, 184, 0, 170, 154, 0, 5, 2, 172, 42, 180, 0, 26, 27, 28, 182, 0, 173, 172]] p := seg_gb (S := [[42, 180, 0, 10, 27, 182, 0, 106, 153, 0, 10, 28, 184, 0, 170, 154, 0, 5, 2, 172, 42, 180, 0, 26, 27, 28, 182, 0, 173, 172]]) (by decide +kernel) (by decide +kernel)
set_option maxRecDepth 20000 in
theorem BX11_line_1_0 : ∀ q ∈ ([(0, 42), (4, 27), (11, 28), (18, 2), (19, 172), (20, 42), (24, 27), (25, 28), (29, 172)] : List (Nat × Nat)), gb cX11_line q.1 = some q.2 := seg_1 SX11_line _ (by decide +kernel)
set_option maxRecDepth 20000 in
theorem BX11_line_3_0 : ∀ q ∈ ([(1, 180, 0, 10), (5, 182, 0, 106), (8, 153, 0, 10), (12, 184, 0, 170), (15, 154, 0, 5), (21, 180, 0, 26), (26, 182, 0, 173)] : List (Nat × Nat × Nat × Nat)), gb cX11_line q.1 = some q.2.1 ∧ gb cX11_line (q.1 + 1) = some q.2.2.1 ∧ gb cX11_line (q.1 + 2) = some q.2.2.2 := seg_3 SX11_line _ (by decide +kernel)
theorem dX11_line_0 : decode cX11_line 0 = .ok (.aload_n 0, 1) := dk42 (BX11_line_1_0 (0, 42) (List.mem_of_getElem? (i := 0) rfl))
theorem dX11_line_1 : decode cX11_line 1 = .ok (.getfield 10, 3) := dk180 0 10 (BX11_line_3_0 (1, 180, 0, 10) (List.mem_of_getElem? (i := 0) rfl))
theorem dX11_line_4 : decode cX11_line 4 = .ok (.iload_n 1, 1) := dk27 (BX11_line_1_0 (4, 27) (List.mem_of_getElem? (i := 1) rfl))
theorem dX11_line_5 : decode cX11_line 5 = .ok (.invokevirtual 106, 3) := dk182 0 106 (BX11_line_3_0 (5, 182, 0, 106) (List.mem_of_getElem? (i := 1) rfl))
theorem dX11_line_8 : decode cX11_line 8 = .ok (.ifCond .eq 10, 3) := dk153 0 10 (BX11_line_3_0 (8, 153, 0, 10) (List.mem_of_getElem? (i := 2) rfl))
theorem dX11_line_11 : decode cX11_line 11 = .ok (.iload_n 2, 1) := dk28 (BX11_line_1_0 (11, 28) (List.mem_of_getElem? (i := 2) rfl))
theorem dX11_line_12 : decode cX11_line 12 = .ok (.invokestatic 170, 3) := dk184 0 170 (BX11_line_3_0 (12, 184, 0, 170) (List.mem_of_getElem? (i := 3) rfl))
theorem dX11_line_15 : decode cX11_line 15 = .ok (.ifCond .ne 5, 3) := dk154 0 5 (BX11_line_3_0 (15, 154, 0, 5) (List.mem_of_getElem? (i := 4) rfl))
theorem dX11_line_18 : decode cX11_line 18 = .ok (.iconst (-1), 1) := dk2 (BX11_line_1_0 (18, 2) (List.mem_of_getElem? (i := 3) rfl))
theorem dX11_line_19 : decode cX11_line 19 = .ok (.ireturn, 1) := dk172 (BX11_line_1_0 (19, 172) (List.mem_of_getElem? (i := 4) rfl))
theorem dX11_line_20 : decode cX11_line 20 = .ok (.aload_n 0, 1) := dk42 (BX11_line_1_0 (20, 42) (List.mem_of_getElem? (i := 5) rfl))
theorem dX11_line_21 : decode cX11_line 21 = .ok (.getfield 26, 3) := dk180 0 26 (BX11_line_3_0 (21, 180, 0, 26) (List.mem_of_getElem? (i := 5) rfl))
theorem dX11_line_24 : decode cX11_line 24 = .ok (.iload_n 1, 1) := dk27 (BX11_line_1_0 (24, 27) (List.mem_of_getElem? (i := 6) rfl))
theorem dX11_line_25 : decode cX11_line 25 = .ok (.iload_n 2, 1) := dk28 (BX11_line_1_0 (25, 28) (List.mem_of_getElem? (i := 7) rfl))
theorem dX11_line_26 : decode cX11_line 26 = .ok (.invokevirtual 173, 3) := dk182 0 173 (BX11_line_3_0 (26, 182, 0, 173) (List.mem_of_getElem? (i := 6) rfl))
theorem dX11_line_29 : decode cX11_line 29 = .ok (.ireturn, 1) := dk172 (BX11_line_1_0 (29, 172) (List.mem_of_getElem? (i := 8) rfl))
set_option maxRecDepth 20000 in
theorem ggX11_mark_X3_isLine : GoodIn wsX11_mark wsX3_isLine := gcons (goodIn_g ch_wsX11_mark_flat gd_wsX11_mark _ [(1, 8)] rfl) (goodIn_app (goodIn_g ch_wsX11_mark_flat gd_wsX11_mark _ [(1, 9), (1, 10), (1, 11), (1, 12)] rfl) (gchunk ch_wsX11_mark_flat gd_wsX11_mark 4 rfl))
set_option maxRecDepth 20000 in
theorem gX11_mark_X3_isLine : GoodIn wsX11_mark (wsV RX11 175 RX3 yX3_isLine wsX3_isLine) := goodIn_app (goodIn_g ch_wsX11_mark_flat gd_wsX11_mark _ [(1, 4), (1, 5), (1, 6), (1, 7)] rfl) ggX11_mark_X3_isLine
set_option maxRecDepth 20000 in
theorem ggX11_mark_X7_isHole : GoodIn wsX11_mark wsX7_isHole := gcons (goodIn_g ch_wsX11_mark_flat gd_wsX11_mark _ [(1, 17)] rfl) (goodIn_app (goodIn_g ch_wsX11_mark_flat gd_wsX11_mark _ [(1, 18), (1, 10), (1, 11), (1, 12)] rfl) (gchunk ch_wsX11_mark_flat gd_wsX11_mark 5 rfl))
set_option maxRecDepth 20000 in
theorem gX11_mark_X7_isHole : GoodIn wsX11_mark (wsV RX11 138 RX7 yX7_isHole wsX7_isHole) := goodIn_app (goodIn_g ch_wsX11_mark_flat gd_wsX11_mark _ [(1, 13), (1, 14), (1, 15), (1, 16)] rfl) ggX11_mark_X7_isHole
set_option maxRecDepth 20000 in
theorem ggX11_mark_X11_isBit : GoodIn wsX11_mark wsX11_isBit := goodIn_g ch_wsX11_mark_flat gd_wsX11_mark _ [(1, 21)] rfl
set_option maxRecDepth 20000 in
theorem gX11_mark_X11_isBit : GoodIn wsX11_mark (va_wsS RX11 144 yX11_isBit wsX11_isBit) := goodIn_app (goodIn_g ch_wsX11_mark_flat gd_wsX11_mark _ [(1, 19), (1, 20), (1, 11)] rfl) ggX11_mark_X11_isBit
set_option maxRecDepth 20000 in
theorem ggX11_mark_X3_tellMark : GoodIn wsX11_mark wsX3_tellMark := gcons (goodIn_g ch_wsX11_mark_flat gd_wsX11_mark _ [(2, 1)] rfl) (goodIn_app (goodIn_g ch_wsX11_mark_flat gd_wsX11_mark _ [(2, 2), (2, 3), (2, 4), (2, 5), (2, 6), (2, 7), (2, 8), (2, 9)] rfl) (gchunk ch_wsX11_mark_flat gd_wsX11_mark 4 rfl))
set_option maxRecDepth 20000 in
theorem gX11_mark_X3_tellMark : GoodIn wsX11_mark (wsV RX11 182 RX3 yX3_tellMark wsX3_tellMark) := goodIn_app (goodIn_g ch_wsX11_mark_flat gd_wsX11_mark _ [(1, 22), (1, 23), (2, 0), (1, 7)] rfl) ggX11_mark_X3_tellMark
set_option maxRecDepth 20000 in
theorem SX11_mark : ∀ p : Nat, gb cX11_mark p = segF [[27, 16, 100, 108, 62, 27, 16, 100, 112, 54, 4, 42, 180, 0, 26, 29, 182, 0, 175, 153, 0, 22, 42, 180, 0, 10, 21, 4, 182, 0, 138, 153, 0, 10, 28, 184, 0, 144, 154, 0, 5, 2, 172, 42, 180, 0, 26, 180, 0, 178, 29, 46, 42, 180, 0, 10, 180, 0, 181, 21, 4, 46, 159, 0], [5, 2, 172, 42, 180, 0, 26, 29, 21, 4, 28, 182, 0, 182, 172]] p := seg_gb (S := [[27, 16, 100, 108, 62, 27, 16, 100, 112, 54, 4, 42, 180, 0, 26, 29, 182, 0, 175, 153, 0, 22, 42, 180, 0, 10, 21, 4, 182, 0, 138, 153, 0, 10, 28, 184, 0, 144, 154, 0, 5, 2, 172, 42, 180, 0, 26, 180, 0, 178, 29, 46, 42, 180, 0, 10, 180, 0, 181, 21, 4, 46, 159, 0], [5, 2, 172, 42, 180, 0, 26, 29, 21, 4, 28, 182, 0, 182, 172]]) (by decide +kernel) (by decide +kernel)
set_option maxRecDepth 20000 in
theorem BX11_mark_1_0 : ∀ q ∈ ([(0, 27), (3, 108), (4, 62), (5, 27), (8, 112), (11, 42), (15, 29), (22, 42), (34, 28), (41, 2), (42, 172), (43, 42)] : List (Nat × Nat)), gb cX11_mark q.1 = some q.2 := seg_1 SX11_mark _ (by decide +kernel)
set_option maxRecDepth 20000 in
theorem BX11_mark_1_1 : ∀ q ∈ ([(50, 29), (51, 46), (52, 42), (61, 46), (65, 2), (66, 172), (67, 42), (71, 29), (74, 28), (78, 172)] : List (Nat × Nat)), gb cX11_mark q.1 = some q.2 := seg_1 SX11_mark _ (by decide +kernel)
set_option maxRecDepth 20000 in
theorem BX11_mark_2_0 : ∀ q ∈ ([(1, 16, 100), (6, 16, 100), (9, 54, 4), (26, 21, 4), (59, 21, 4), (72, 21, 4)] : List (Nat × Nat × Nat)), gb cX11_mark q.1 = some q.2.1 ∧ gb cX11_mark (q.1 + 1) = some q.2.2 := seg_2 SX11_mark _ (by decide +kernel)
set_option maxRecDepth 20000 in
theorem BX11_mark_3_0 : ∀ q ∈ ([(12, 180, 0, 26), (16, 182, 0, 175), (19, 153, 0, 22), (23, 180, 0, 10), (28, 182, 0, 138), (31, 153, 0, 10), (35, 184, 0, 144), (38, 154, 0, 5), (44, 180, 0, 26), (47, 180, 0, 178), (53, 180, 0, 10), (56, 180, 0, 181)] : List (Nat × Nat × Nat × Nat)), gb cX11_mark q.1 = some q.2.1 ∧ gb cX11_mark (q.1 + 1) = some q.2.2.1 ∧ gb cX11_mark (q.1 + 2) = some q.2.2.2 := seg_3 SX11_mark _ (by decide +kernel)
set_option maxRecDepth 20000 in
theorem BX11_mark_3_1 : ∀ q ∈ ([(62, 159, 0, 5), (68, 180, 0, 26), (75, 182, 0, 182)] : List (Nat × Nat × Nat × Nat)), gb cX11_mark q.1 = some q.2.1 ∧ gb cX11_mark (q.1 + 1) = some q.2.2.1 ∧ gb cX11_mark (q.1 + 2) = some q.2.2.2 := seg_3 SX11_mark _ (by decide +kernel)
theorem dX11_mark_0 : decode cX11_mark 0 = .ok (.iload_n 1, 1) := dk27 (BX11_mark_1_0 (0, 27) (List.mem_of_getElem? (i := 0) rfl))
theorem dX11_mark_1 : decode cX11_mark 1 = .ok (.bipush 100, 2) := dk16 100 (BX11_mark_2_0 (1, 16, 100) (List.mem_of_getElem? (i := 0) rfl))
theorem dX11_mark_3 : decode cX11_mark 3 = .ok (.idiv, 1) := dk108 (BX11_mark_1_0 (3, 108) (List.mem_of_getElem? (i := 1) rfl))
theorem dX11_mark_4 : decode cX11_mark 4 = .ok (.istore_n 3, 1) := dk62 (BX11_mark_1_0 (4, 62) (List.mem_of_getElem? (i := 2) rfl))
theorem dX11_mark_5 : decode cX11_mark 5 = .ok (.iload_n 1, 1) := dk27 (BX11_mark_1_0 (5, 27) (List.mem_of_getElem? (i := 3) rfl))
theorem dX11_mark_6 : decode cX11_mark 6 = .ok (.bipush 100, 2) := dk16 100 (BX11_mark_2_0 (6, 16, 100) (List.mem_of_getElem? (i := 1) rfl))
theorem dX11_mark_8 : decode cX11_mark 8 = .ok (.irem, 1) := dk112 (BX11_mark_1_0 (8, 112) (List.mem_of_getElem? (i := 4) rfl))
theorem dX11_mark_9 : decode cX11_mark 9 = .ok (.istore 4, 2) := dk54 4 (BX11_mark_2_0 (9, 54, 4) (List.mem_of_getElem? (i := 2) rfl))
theorem dX11_mark_11 : decode cX11_mark 11 = .ok (.aload_n 0, 1) := dk42 (BX11_mark_1_0 (11, 42) (List.mem_of_getElem? (i := 5) rfl))
theorem dX11_mark_12 : decode cX11_mark 12 = .ok (.getfield 26, 3) := dk180 0 26 (BX11_mark_3_0 (12, 180, 0, 26) (List.mem_of_getElem? (i := 0) rfl))
theorem dX11_mark_15 : decode cX11_mark 15 = .ok (.iload_n 3, 1) := dk29 (BX11_mark_1_0 (15, 29) (List.mem_of_getElem? (i := 6) rfl))
theorem dX11_mark_16 : decode cX11_mark 16 = .ok (.invokevirtual 175, 3) := dk182 0 175 (BX11_mark_3_0 (16, 182, 0, 175) (List.mem_of_getElem? (i := 1) rfl))
theorem dX11_mark_19 : decode cX11_mark 19 = .ok (.ifCond .eq 22, 3) := dk153 0 22 (BX11_mark_3_0 (19, 153, 0, 22) (List.mem_of_getElem? (i := 2) rfl))
theorem dX11_mark_22 : decode cX11_mark 22 = .ok (.aload_n 0, 1) := dk42 (BX11_mark_1_0 (22, 42) (List.mem_of_getElem? (i := 7) rfl))
theorem dX11_mark_23 : decode cX11_mark 23 = .ok (.getfield 10, 3) := dk180 0 10 (BX11_mark_3_0 (23, 180, 0, 10) (List.mem_of_getElem? (i := 3) rfl))
theorem dX11_mark_26 : decode cX11_mark 26 = .ok (.iload 4, 2) := dk21 4 (BX11_mark_2_0 (26, 21, 4) (List.mem_of_getElem? (i := 3) rfl))
theorem dX11_mark_28 : decode cX11_mark 28 = .ok (.invokevirtual 138, 3) := dk182 0 138 (BX11_mark_3_0 (28, 182, 0, 138) (List.mem_of_getElem? (i := 4) rfl))
theorem dX11_mark_31 : decode cX11_mark 31 = .ok (.ifCond .eq 10, 3) := dk153 0 10 (BX11_mark_3_0 (31, 153, 0, 10) (List.mem_of_getElem? (i := 5) rfl))
theorem dX11_mark_34 : decode cX11_mark 34 = .ok (.iload_n 2, 1) := dk28 (BX11_mark_1_0 (34, 28) (List.mem_of_getElem? (i := 8) rfl))
theorem dX11_mark_35 : decode cX11_mark 35 = .ok (.invokestatic 144, 3) := dk184 0 144 (BX11_mark_3_0 (35, 184, 0, 144) (List.mem_of_getElem? (i := 6) rfl))
theorem dX11_mark_38 : decode cX11_mark 38 = .ok (.ifCond .ne 5, 3) := dk154 0 5 (BX11_mark_3_0 (38, 154, 0, 5) (List.mem_of_getElem? (i := 7) rfl))
theorem dX11_mark_41 : decode cX11_mark 41 = .ok (.iconst (-1), 1) := dk2 (BX11_mark_1_0 (41, 2) (List.mem_of_getElem? (i := 9) rfl))
theorem dX11_mark_42 : decode cX11_mark 42 = .ok (.ireturn, 1) := dk172 (BX11_mark_1_0 (42, 172) (List.mem_of_getElem? (i := 10) rfl))
theorem dX11_mark_43 : decode cX11_mark 43 = .ok (.aload_n 0, 1) := dk42 (BX11_mark_1_0 (43, 42) (List.mem_of_getElem? (i := 11) rfl))
theorem dX11_mark_44 : decode cX11_mark 44 = .ok (.getfield 26, 3) := dk180 0 26 (BX11_mark_3_0 (44, 180, 0, 26) (List.mem_of_getElem? (i := 8) rfl))
theorem dX11_mark_47 : decode cX11_mark 47 = .ok (.getfield 178, 3) := dk180 0 178 (BX11_mark_3_0 (47, 180, 0, 178) (List.mem_of_getElem? (i := 9) rfl))
theorem dX11_mark_50 : decode cX11_mark 50 = .ok (.iload_n 3, 1) := dk29 (BX11_mark_1_1 (50, 29) (List.mem_of_getElem? (i := 0) rfl))
theorem dX11_mark_51 : decode cX11_mark 51 = .ok (.iaload, 1) := dk46 (BX11_mark_1_1 (51, 46) (List.mem_of_getElem? (i := 1) rfl))
theorem dX11_mark_52 : decode cX11_mark 52 = .ok (.aload_n 0, 1) := dk42 (BX11_mark_1_1 (52, 42) (List.mem_of_getElem? (i := 2) rfl))
theorem dX11_mark_53 : decode cX11_mark 53 = .ok (.getfield 10, 3) := dk180 0 10 (BX11_mark_3_0 (53, 180, 0, 10) (List.mem_of_getElem? (i := 10) rfl))
theorem dX11_mark_56 : decode cX11_mark 56 = .ok (.getfield 181, 3) := dk180 0 181 (BX11_mark_3_0 (56, 180, 0, 181) (List.mem_of_getElem? (i := 11) rfl))
theorem dX11_mark_59 : decode cX11_mark 59 = .ok (.iload 4, 2) := dk21 4 (BX11_mark_2_0 (59, 21, 4) (List.mem_of_getElem? (i := 4) rfl))
theorem dX11_mark_61 : decode cX11_mark 61 = .ok (.iaload, 1) := dk46 (BX11_mark_1_1 (61, 46) (List.mem_of_getElem? (i := 3) rfl))
theorem dX11_mark_62 : decode cX11_mark 62 = .ok (.if_icmp .eq 5, 3) := dk159 0 5 (BX11_mark_3_1 (62, 159, 0, 5) (List.mem_of_getElem? (i := 0) rfl))
theorem dX11_mark_65 : decode cX11_mark 65 = .ok (.iconst (-1), 1) := dk2 (BX11_mark_1_1 (65, 2) (List.mem_of_getElem? (i := 4) rfl))
theorem dX11_mark_66 : decode cX11_mark 66 = .ok (.ireturn, 1) := dk172 (BX11_mark_1_1 (66, 172) (List.mem_of_getElem? (i := 5) rfl))
theorem dX11_mark_67 : decode cX11_mark 67 = .ok (.aload_n 0, 1) := dk42 (BX11_mark_1_1 (67, 42) (List.mem_of_getElem? (i := 6) rfl))
theorem dX11_mark_68 : decode cX11_mark 68 = .ok (.getfield 26, 3) := dk180 0 26 (BX11_mark_3_1 (68, 180, 0, 26) (List.mem_of_getElem? (i := 1) rfl))
theorem dX11_mark_71 : decode cX11_mark 71 = .ok (.iload_n 3, 1) := dk29 (BX11_mark_1_1 (71, 29) (List.mem_of_getElem? (i := 7) rfl))
theorem dX11_mark_72 : decode cX11_mark 72 = .ok (.iload 4, 2) := dk21 4 (BX11_mark_2_0 (72, 21, 4) (List.mem_of_getElem? (i := 5) rfl))
theorem dX11_mark_74 : decode cX11_mark 74 = .ok (.iload_n 2, 1) := dk28 (BX11_mark_1_1 (74, 28) (List.mem_of_getElem? (i := 8) rfl))
theorem dX11_mark_75 : decode cX11_mark 75 = .ok (.invokevirtual 182, 3) := dk182 0 182 (BX11_mark_3_1 (75, 182, 0, 182) (List.mem_of_getElem? (i := 2) rfl))
theorem dX11_mark_78 : decode cX11_mark 78 = .ok (.ireturn, 1) := dk172 (BX11_mark_1_1 (78, 172) (List.mem_of_getElem? (i := 9) rfl))
set_option maxRecDepth 20000 in
theorem ggX11_fight_X11_isSlack : GoodIn wsX11_fight wsX11_isSlack := goodIn_g ch_wsX11_fight_flat gd_wsX11_fight _ [(1, 6), (1, 7), (1, 8), (1, 5), (1, 9)] rfl
set_option maxRecDepth 20000 in
theorem gX11_fight_X11_isSlack : GoodIn wsX11_fight (va_wsS RX11 121 yX11_isSlack wsX11_isSlack) := goodIn_app (goodIn_g ch_wsX11_fight_flat gd_wsX11_fight _ [(1, 3), (1, 4), (1, 5)] rfl) ggX11_fight_X11_isSlack
set_option maxRecDepth 20000 in
theorem ggX11_fight_X11_isBit : GoodIn wsX11_fight wsX11_isBit := goodIn_g ch_wsX11_fight_flat gd_wsX11_fight _ [(1, 12)] rfl
set_option maxRecDepth 20000 in
theorem gX11_fight_X11_isBit : GoodIn wsX11_fight (va_wsS RX11 144 yX11_isBit wsX11_isBit) := goodIn_app (goodIn_g ch_wsX11_fight_flat gd_wsX11_fight _ [(1, 10), (1, 11), (1, 5)] rfl) ggX11_fight_X11_isBit
set_option maxRecDepth 20000 in
theorem ggX11_fight_X11_findInks : GoodIn wsX11_fight wsX11_findInks := gcons (goodIn_g ch_wsX11_fight_flat gd_wsX11_fight _ [(1, 16)] rfl) (goodIn_app (goodIn_app (goodIn_app (goodIn_app (goodIn_g ch_wsX11_fight_flat gd_wsX11_fight _ [(1, 1), (1, 0), (1, 2), (1, 17), (1, 18), (1, 19), (1, 20), (1, 21), (1, 22), (1, 23), (2, 0), (2, 1), (2, 2), (2, 3), (2, 4), (2, 5), (2, 6), (2, 7), (2, 8), (2, 9), (2, 10), (2, 11), (2, 12), (2, 13)] rfl) (goodIn_g ch_wsX11_fight_flat gd_wsX11_fight _ [(2, 14), (2, 15), (2, 16), (2, 17), (2, 18), (2, 19), (2, 20), (2, 21), (2, 22), (2, 23), (3, 0), (3, 1), (3, 2), (3, 3), (3, 4), (1, 5), (3, 5)] rfl)) (gchunk ch_wsX11_fight_flat gd_wsX11_fight 4 rfl)) (gchunk ch_wsX11_fight_flat gd_wsX11_fight 5 rfl)) (gchunk ch_wsX11_fight_flat gd_wsX11_fight 6 rfl))
set_option maxRecDepth 20000 in
theorem gX11_fight_X11_findInks : GoodIn wsX11_fight (wsV RX11 185 RX11 yX11_findInks wsX11_findInks) := goodIn_app (goodIn_g ch_wsX11_fight_flat gd_wsX11_fight _ [(1, 13), (1, 14), (1, 15), (1, 5)] rfl) ggX11_fight_X11_findInks
set_option maxRecDepth 20000 in
theorem ggX11_fight_X3_firstFighting : GoodIn wsX11_fight wsX3_firstFighting := gcons (goodIn_g ch_wsX11_fight_flat gd_wsX11_fight _ [(3, 9)] rfl) (goodIn_app (goodIn_g ch_wsX11_fight_flat gd_wsX11_fight _ [(3, 10), (3, 11), (3, 12), (3, 13), (2, 14), (3, 14), (2, 19), (2, 22), (2, 23), (2, 20), (2, 17), (2, 21), (3, 4), (1, 5), (3, 5)] rfl) (gchunk ch_wsX11_fight_flat gd_wsX11_fight 6 rfl))
set_option maxRecDepth 20000 in
theorem gX11_fight_X3_firstFighting : GoodIn wsX11_fight (wsV RX11 189 RX3 yX3_firstFighting wsX3_firstFighting) := goodIn_app (goodIn_g ch_wsX11_fight_flat gd_wsX11_fight _ [(3, 6), (3, 7), (3, 8), (2, 14)] rfl) ggX11_fight_X3_firstFighting
set_option maxRecDepth 20000 in
theorem ggX11_fight_X3_foughtWorm : GoodIn wsX11_fight wsX3_foughtWorm := gcons (goodIn_g ch_wsX11_fight_flat gd_wsX11_fight _ [(3, 14)] rfl) (goodIn_app (goodIn_g ch_wsX11_fight_flat gd_wsX11_fight _ [(2, 19), (2, 22), (2, 23), (2, 20), (2, 17), (2, 21), (3, 4), (1, 5), (3, 5)] rfl) (gchunk ch_wsX11_fight_flat gd_wsX11_fight 6 rfl))
set_option maxRecDepth 20000 in
theorem gX11_fight_X3_foughtWorm : GoodIn wsX11_fight (wsV RX11 193 RX3 yX3_foughtWorm wsX3_foughtWorm) := goodIn_app (goodIn_g ch_wsX11_fight_flat gd_wsX11_fight _ [(3, 15), (3, 12), (3, 13), (2, 14)] rfl) ggX11_fight_X3_foughtWorm
set_option maxRecDepth 20000 in
theorem SX11_fight : ∀ p : Nat, gb cX11_fight p = segF [[27, 184, 0, 121, 153, 0, 10, 28, 184, 0, 144, 154, 0, 5, 2, 172, 42, 27, 182, 0, 185, 42, 180, 0, 26, 42, 180, 0, 10, 180, 0, 141, 182, 0, 189, 62, 29, 156, 0, 6, 16, 254, 172, 28, 154, 0, 7, 29, 167, 0, 18, 42, 180, 0, 26, 29, 42, 180, 0, 10, 180, 0, 141, 182], [0, 193, 172]] p := seg_gb (S := [[27, 184, 0, 121, 153, 0, 10, 28, 184, 0, 144, 154, 0, 5, 2, 172, 42, 27, 182, 0, 185, 42, 180, 0, 26, 42, 180, 0, 10, 180, 0, 141, 182, 0, 189, 62, 29, 156, 0, 6, 16, 254, 172, 28, 154, 0, 7, 29, 167, 0, 18, 42, 180, 0, 26, 29, 42, 180, 0, 10, 180, 0, 141, 182], [0, 193, 172]]) (by decide +kernel) (by decide +kernel)
set_option maxRecDepth 20000 in
theorem BX11_fight_1_0 : ∀ q ∈ ([(0, 27), (7, 28), (14, 2), (15, 172), (16, 42), (17, 27), (21, 42), (25, 42), (35, 62), (36, 29), (42, 172), (43, 28)] : List (Nat × Nat)), gb cX11_fight q.1 = some q.2 := seg_1 SX11_fight _ (by decide +kernel)
set_option maxRecDepth 20000 in
theorem BX11_fight_1_1 : ∀ q ∈ ([(47, 29), (51, 42), (55, 29), (56, 42), (66, 172)] : List (Nat × Nat)), gb cX11_fight q.1 = some q.2 := seg_1 SX11_fight _ (by decide +kernel)
set_option maxRecDepth 20000 in
theorem BX11_fight_2_0 : ∀ q ∈ ([(40, 16, 254)] : List (Nat × Nat × Nat)), gb cX11_fight q.1 = some q.2.1 ∧ gb cX11_fight (q.1 + 1) = some q.2.2 := seg_2 SX11_fight _ (by decide +kernel)
set_option maxRecDepth 20000 in
theorem BX11_fight_3_0 : ∀ q ∈ ([(1, 184, 0, 121), (4, 153, 0, 10), (8, 184, 0, 144), (11, 154, 0, 5), (18, 182, 0, 185), (22, 180, 0, 26), (26, 180, 0, 10), (29, 180, 0, 141), (32, 182, 0, 189), (37, 156, 0, 6), (44, 154, 0, 7), (48, 167, 0, 18)] : List (Nat × Nat × Nat × Nat)), gb cX11_fight q.1 = some q.2.1 ∧ gb cX11_fight (q.1 + 1) = some q.2.2.1 ∧ gb cX11_fight (q.1 + 2) = some q.2.2.2 := seg_3 SX11_fight _ (by decide +kernel)
set_option maxRecDepth 20000 in
theorem BX11_fight_3_1 : ∀ q ∈ ([(52, 180, 0, 26), (57, 180, 0, 10), (60, 180, 0, 141), (63, 182, 0, 193)] : List (Nat × Nat × Nat × Nat)), gb cX11_fight q.1 = some q.2.1 ∧ gb cX11_fight (q.1 + 1) = some q.2.2.1 ∧ gb cX11_fight (q.1 + 2) = some q.2.2.2 := seg_3 SX11_fight _ (by decide +kernel)
theorem dX11_fight_0 : decode cX11_fight 0 = .ok (.iload_n 1, 1) := dk27 (BX11_fight_1_0 (0, 27) (List.mem_of_getElem? (i := 0) rfl))
theorem dX11_fight_1 : decode cX11_fight 1 = .ok (.invokestatic 121, 3) := dk184 0 121 (BX11_fight_3_0 (1, 184, 0, 121) (List.mem_of_getElem? (i := 0) rfl))
theorem dX11_fight_4 : decode cX11_fight 4 = .ok (.ifCond .eq 10, 3) := dk153 0 10 (BX11_fight_3_0 (4, 153, 0, 10) (List.mem_of_getElem? (i := 1) rfl))
theorem dX11_fight_7 : decode cX11_fight 7 = .ok (.iload_n 2, 1) := dk28 (BX11_fight_1_0 (7, 28) (List.mem_of_getElem? (i := 1) rfl))
theorem dX11_fight_8 : decode cX11_fight 8 = .ok (.invokestatic 144, 3) := dk184 0 144 (BX11_fight_3_0 (8, 184, 0, 144) (List.mem_of_getElem? (i := 2) rfl))
theorem dX11_fight_11 : decode cX11_fight 11 = .ok (.ifCond .ne 5, 3) := dk154 0 5 (BX11_fight_3_0 (11, 154, 0, 5) (List.mem_of_getElem? (i := 3) rfl))
theorem dX11_fight_14 : decode cX11_fight 14 = .ok (.iconst (-1), 1) := dk2 (BX11_fight_1_0 (14, 2) (List.mem_of_getElem? (i := 2) rfl))
theorem dX11_fight_15 : decode cX11_fight 15 = .ok (.ireturn, 1) := dk172 (BX11_fight_1_0 (15, 172) (List.mem_of_getElem? (i := 3) rfl))
theorem dX11_fight_16 : decode cX11_fight 16 = .ok (.aload_n 0, 1) := dk42 (BX11_fight_1_0 (16, 42) (List.mem_of_getElem? (i := 4) rfl))
theorem dX11_fight_17 : decode cX11_fight 17 = .ok (.iload_n 1, 1) := dk27 (BX11_fight_1_0 (17, 27) (List.mem_of_getElem? (i := 5) rfl))
theorem dX11_fight_18 : decode cX11_fight 18 = .ok (.invokevirtual 185, 3) := dk182 0 185 (BX11_fight_3_0 (18, 182, 0, 185) (List.mem_of_getElem? (i := 4) rfl))
theorem dX11_fight_21 : decode cX11_fight 21 = .ok (.aload_n 0, 1) := dk42 (BX11_fight_1_0 (21, 42) (List.mem_of_getElem? (i := 6) rfl))
theorem dX11_fight_22 : decode cX11_fight 22 = .ok (.getfield 26, 3) := dk180 0 26 (BX11_fight_3_0 (22, 180, 0, 26) (List.mem_of_getElem? (i := 5) rfl))
theorem dX11_fight_25 : decode cX11_fight 25 = .ok (.aload_n 0, 1) := dk42 (BX11_fight_1_0 (25, 42) (List.mem_of_getElem? (i := 7) rfl))
theorem dX11_fight_26 : decode cX11_fight 26 = .ok (.getfield 10, 3) := dk180 0 10 (BX11_fight_3_0 (26, 180, 0, 10) (List.mem_of_getElem? (i := 6) rfl))
theorem dX11_fight_29 : decode cX11_fight 29 = .ok (.getfield 141, 3) := dk180 0 141 (BX11_fight_3_0 (29, 180, 0, 141) (List.mem_of_getElem? (i := 7) rfl))
theorem dX11_fight_32 : decode cX11_fight 32 = .ok (.invokevirtual 189, 3) := dk182 0 189 (BX11_fight_3_0 (32, 182, 0, 189) (List.mem_of_getElem? (i := 8) rfl))
theorem dX11_fight_35 : decode cX11_fight 35 = .ok (.istore_n 3, 1) := dk62 (BX11_fight_1_0 (35, 62) (List.mem_of_getElem? (i := 8) rfl))
theorem dX11_fight_36 : decode cX11_fight 36 = .ok (.iload_n 3, 1) := dk29 (BX11_fight_1_0 (36, 29) (List.mem_of_getElem? (i := 9) rfl))
theorem dX11_fight_37 : decode cX11_fight 37 = .ok (.ifCond .ge 6, 3) := dk156 0 6 (BX11_fight_3_0 (37, 156, 0, 6) (List.mem_of_getElem? (i := 9) rfl))
theorem dX11_fight_40 : decode cX11_fight 40 = .ok (.bipush (-2), 2) := dk16 254 (BX11_fight_2_0 (40, 16, 254) (List.mem_of_getElem? (i := 0) rfl))
theorem dX11_fight_42 : decode cX11_fight 42 = .ok (.ireturn, 1) := dk172 (BX11_fight_1_0 (42, 172) (List.mem_of_getElem? (i := 10) rfl))
theorem dX11_fight_43 : decode cX11_fight 43 = .ok (.iload_n 2, 1) := dk28 (BX11_fight_1_0 (43, 28) (List.mem_of_getElem? (i := 11) rfl))
theorem dX11_fight_44 : decode cX11_fight 44 = .ok (.ifCond .ne 7, 3) := dk154 0 7 (BX11_fight_3_0 (44, 154, 0, 7) (List.mem_of_getElem? (i := 10) rfl))
theorem dX11_fight_47 : decode cX11_fight 47 = .ok (.iload_n 3, 1) := dk29 (BX11_fight_1_1 (47, 29) (List.mem_of_getElem? (i := 0) rfl))
theorem dX11_fight_48 : decode cX11_fight 48 = .ok (.goto 18, 3) := dk167 0 18 (BX11_fight_3_0 (48, 167, 0, 18) (List.mem_of_getElem? (i := 11) rfl))
theorem dX11_fight_51 : decode cX11_fight 51 = .ok (.aload_n 0, 1) := dk42 (BX11_fight_1_1 (51, 42) (List.mem_of_getElem? (i := 1) rfl))
theorem dX11_fight_52 : decode cX11_fight 52 = .ok (.getfield 26, 3) := dk180 0 26 (BX11_fight_3_1 (52, 180, 0, 26) (List.mem_of_getElem? (i := 0) rfl))
theorem dX11_fight_55 : decode cX11_fight 55 = .ok (.iload_n 3, 1) := dk29 (BX11_fight_1_1 (55, 29) (List.mem_of_getElem? (i := 2) rfl))
theorem dX11_fight_56 : decode cX11_fight 56 = .ok (.aload_n 0, 1) := dk42 (BX11_fight_1_1 (56, 42) (List.mem_of_getElem? (i := 3) rfl))
theorem dX11_fight_57 : decode cX11_fight 57 = .ok (.getfield 10, 3) := dk180 0 10 (BX11_fight_3_1 (57, 180, 0, 10) (List.mem_of_getElem? (i := 1) rfl))
theorem dX11_fight_60 : decode cX11_fight 60 = .ok (.getfield 141, 3) := dk180 0 141 (BX11_fight_3_1 (60, 180, 0, 141) (List.mem_of_getElem? (i := 2) rfl))
theorem dX11_fight_63 : decode cX11_fight 63 = .ok (.invokevirtual 193, 3) := dk182 0 193 (BX11_fight_3_1 (63, 182, 0, 193) (List.mem_of_getElem? (i := 3) rfl))
theorem dX11_fight_66 : decode cX11_fight 66 = .ok (.ireturn, 1) := dk172 (BX11_fight_1_1 (66, 172) (List.mem_of_getElem? (i := 4) rfl))
set_option maxRecDepth 20000 in
theorem ggX11_inks_X11_isSlack : GoodIn wsX11_inks wsX11_isSlack := goodIn_g ch_wsX11_inks_flat gd_wsX11_inks _ [(1, 4), (1, 5), (1, 6), (1, 3), (1, 7)] rfl
set_option maxRecDepth 20000 in
theorem gX11_inks_X11_isSlack : GoodIn wsX11_inks (va_wsS RX11 121 yX11_isSlack wsX11_isSlack) := goodIn_app (goodIn_g ch_wsX11_inks_flat gd_wsX11_inks _ [(1, 1), (1, 2), (1, 3)] rfl) ggX11_inks_X11_isSlack
set_option maxRecDepth 20000 in
theorem ggX11_inks_X11_findInks : GoodIn wsX11_inks wsX11_findInks := gcons (goodIn_g ch_wsX11_inks_flat gd_wsX11_inks _ [(1, 11)] rfl) (goodIn_app (goodIn_app (goodIn_app (goodIn_app (goodIn_g ch_wsX11_inks_flat gd_wsX11_inks _ [(1, 12), (1, 0), (1, 13), (1, 14), (1, 15), (1, 16), (1, 17), (1, 18), (1, 19), (1, 20), (1, 21), (1, 22), (1, 23), (2, 0), (2, 1), (2, 2), (2, 3), (2, 4), (2, 5), (2, 6), (2, 7), (2, 8), (2, 9), (2, 10)] rfl) (goodIn_g ch_wsX11_inks_flat gd_wsX11_inks _ [(2, 11), (2, 12), (2, 13), (2, 14), (2, 15), (2, 16), (2, 17), (2, 18), (2, 19), (2, 20), (2, 21), (2, 22), (2, 23), (3, 0), (3, 1), (1, 3), (3, 2)] rfl)) (gchunk ch_wsX11_inks_flat gd_wsX11_inks 5 rfl)) (gchunk ch_wsX11_inks_flat gd_wsX11_inks 6 rfl)) (gchunk ch_wsX11_inks_flat gd_wsX11_inks 7 rfl))
set_option maxRecDepth 20000 in
theorem gX11_inks_X11_findInks : GoodIn wsX11_inks (wsV RX11 185 RX11 yX11_findInks wsX11_findInks) := goodIn_app (goodIn_g ch_wsX11_inks_flat gd_wsX11_inks _ [(1, 8), (1, 9), (1, 10), (1, 3)] rfl) ggX11_inks_X11_findInks
set_option maxRecDepth 20000 in
theorem ggX11_inks_X3_firstInk : GoodIn wsX11_inks wsX3_firstInk := gcons (goodIn_g ch_wsX11_inks_flat gd_wsX11_inks _ [(3, 6)] rfl) (goodIn_app (goodIn_g ch_wsX11_inks_flat gd_wsX11_inks _ [(2, 15), (3, 7), (3, 8), (3, 9), (2, 11), (3, 10), (3, 11), (2, 18)] rfl) (gchunk ch_wsX11_inks_flat gd_wsX11_inks 7 rfl))
set_option maxRecDepth 20000 in
theorem gX11_inks_X3_firstInk : GoodIn wsX11_inks (wsV RX11 197 RX3 yX3_firstInk wsX3_firstInk) := goodIn_app (goodIn_g ch_wsX11_inks_flat gd_wsX11_inks _ [(3, 3), (3, 4), (3, 5), (2, 11)] rfl) ggX11_inks_X3_firstInk
set_option maxRecDepth 20000 in
theorem ggX11_inks_X3_leastRing : GoodIn wsX11_inks wsX3_leastRing := gcons (goodIn_g ch_wsX11_inks_flat gd_wsX11_inks _ [(3, 15)] rfl) (goodIn_app (goodIn_g ch_wsX11_inks_flat gd_wsX11_inks _ [(3, 16), (3, 17), (3, 18), (2, 11), (3, 19), (2, 15), (3, 1), (1, 3), (3, 2)] rfl) (gchunk ch_wsX11_inks_flat gd_wsX11_inks 7 rfl))
set_option maxRecDepth 20000 in
theorem gX11_inks_X3_leastRing : GoodIn wsX11_inks (wsV RX11 200 RX3 yX3_leastRing wsX3_leastRing) := goodIn_app (goodIn_g ch_wsX11_inks_flat gd_wsX11_inks _ [(3, 12), (3, 13), (3, 14), (2, 11)] rfl) ggX11_inks_X3_leastRing
set_option maxRecDepth 20000 in
theorem ggX11_inks_X11_isInk : GoodIn wsX11_inks wsX11_isInk := goodIn_g ch_wsX11_inks_flat gd_wsX11_inks _ [(3, 22), (1, 5), (1, 6), (1, 3), (1, 7)] rfl
set_option maxRecDepth 20000 in
theorem gX11_inks_X11_isInk : GoodIn wsX11_inks (va_wsS RX11 170 yX11_isInk wsX11_isInk) := goodIn_app (goodIn_g ch_wsX11_inks_flat gd_wsX11_inks _ [(3, 20), (3, 21), (1, 3)] rfl) ggX11_inks_X11_isInk
set_option maxRecDepth 20000 in
theorem ggX11_inks_X3_cameAhead : GoodIn wsX11_inks wsX3_cameAhead := gcons (goodIn_g ch_wsX11_inks_flat gd_wsX11_inks _ [(3, 19)] rfl) (goodIn_app (goodIn_g ch_wsX11_inks_flat gd_wsX11_inks _ [(2, 15), (3, 1), (1, 3), (3, 2)] rfl) (gchunk ch_wsX11_inks_flat gd_wsX11_inks 7 rfl))
set_option maxRecDepth 20000 in
theorem gX11_inks_X3_cameAhead : GoodIn wsX11_inks (wsV RX11 203 RX3 yX3_cameAhead wsX3_cameAhead) := goodIn_app (goodIn_g ch_wsX11_inks_flat gd_wsX11_inks _ [(3, 23), (3, 17), (3, 18), (2, 11)] rfl) ggX11_inks_X3_cameAhead
set_option maxRecDepth 20000 in
theorem ggX11_inks_X11_asBit : GoodIn wsX11_inks wsX11_asBit := goodIn_g ch_wsX11_inks_flat gd_wsX11_inks _ [(4, 2)] rfl
set_option maxRecDepth 20000 in
theorem gX11_inks_X11_asBit : GoodIn wsX11_inks (va_wsS RX11 162 yX11_asBit wsX11_asBit) := goodIn_app (goodIn_g ch_wsX11_inks_flat gd_wsX11_inks _ [(4, 0), (4, 1), (1, 3)] rfl) ggX11_inks_X11_asBit
set_option maxRecDepth 20000 in
theorem SX11_inks : ∀ p : Nat, gb cX11_inks p = segF [[27, 184, 0, 121, 154, 0, 5, 2, 172, 42, 27, 182, 0, 185, 28, 2, 160, 0, 11, 42, 180, 0, 26, 182, 0, 197, 172, 28, 16, 254, 160, 0, 11, 42, 180, 0, 26, 182, 0, 200, 172, 28, 16, 10, 108, 62, 28, 16, 10, 112, 54, 4, 29, 184, 0, 170, 153, 0, 17, 21, 4, 184, 0, 170], [153, 0, 9, 29, 21, 4, 160, 0, 5, 2, 172, 42, 180, 0, 26, 29, 21, 4, 182, 0, 203, 184, 0, 162, 172]] p := seg_gb (S := [[27, 184, 0, 121, 154, 0, 5, 2, 172, 42, 27, 182, 0, 185, 28, 2, 160, 0, 11, 42, 180, 0, 26, 182, 0, 197, 172, 28, 16, 254, 160, 0, 11, 42, 180, 0, 26, 182, 0, 200, 172, 28, 16, 10, 108, 62, 28, 16, 10, 112, 54, 4, 29, 184, 0, 170, 153, 0, 17, 21, 4, 184, 0, 170], [153, 0, 9, 29, 21, 4, 160, 0, 5, 2, 172, 42, 180, 0, 26, 29, 21, 4, 182, 0, 203, 184, 0, 162, 172]]) (by decide +kernel) (by decide +kernel)
set_option maxRecDepth 20000 in
theorem BX11_inks_1_0 : ∀ q ∈ ([(0, 27), (7, 2), (8, 172), (9, 42), (10, 27), (14, 28), (15, 2), (19, 42), (26, 172), (27, 28), (33, 42), (40, 172)] : List (Nat × Nat)), gb cX11_inks q.1 = some q.2 := seg_1 SX11_inks _ (by decide +kernel)
set_option maxRecDepth 20000 in
theorem BX11_inks_1_1 : ∀ q ∈ ([(41, 28), (44, 108), (45, 62), (46, 28), (49, 112), (52, 29), (67, 29), (73, 2), (74, 172), (75, 42), (79, 29), (88, 172)] : List (Nat × Nat)), gb cX11_inks q.1 = some q.2 := seg_1 SX11_inks _ (by decide +kernel)
set_option maxRecDepth 20000 in
theorem BX11_inks_2_0 : ∀ q ∈ ([(28, 16, 254), (42, 16, 10), (47, 16, 10), (50, 54, 4), (59, 21, 4), (68, 21, 4), (80, 21, 4)] : List (Nat × Nat × Nat)), gb cX11_inks q.1 = some q.2.1 ∧ gb cX11_inks (q.1 + 1) = some q.2.2 := seg_2 SX11_inks _ (by decide +kernel)
set_option maxRecDepth 20000 in
theorem BX11_inks_3_0 : ∀ q ∈ ([(1, 184, 0, 121), (4, 154, 0, 5), (11, 182, 0, 185), (16, 160, 0, 11), (20, 180, 0, 26), (23, 182, 0, 197), (30, 160, 0, 11), (34, 180, 0, 26), (37, 182, 0, 200), (53, 184, 0, 170), (56, 153, 0, 17), (61, 184, 0, 170)] : List (Nat × Nat × Nat × Nat)), gb cX11_inks q.1 = some q.2.1 ∧ gb cX11_inks (q.1 + 1) = some q.2.2.1 ∧ gb cX11_inks (q.1 + 2) = some q.2.2.2 := seg_3 SX11_inks _ (by decide +kernel)
set_option maxRecDepth 20000 in
theorem BX11_inks_3_1 : ∀ q ∈ ([(64, 153, 0, 9), (70, 160, 0, 5), (76, 180, 0, 26), (82, 182, 0, 203), (85, 184, 0, 162)] : List (Nat × Nat × Nat × Nat)), gb cX11_inks q.1 = some q.2.1 ∧ gb cX11_inks (q.1 + 1) = some q.2.2.1 ∧ gb cX11_inks (q.1 + 2) = some q.2.2.2 := seg_3 SX11_inks _ (by decide +kernel)
theorem dX11_inks_0 : decode cX11_inks 0 = .ok (.iload_n 1, 1) := dk27 (BX11_inks_1_0 (0, 27) (List.mem_of_getElem? (i := 0) rfl))
theorem dX11_inks_1 : decode cX11_inks 1 = .ok (.invokestatic 121, 3) := dk184 0 121 (BX11_inks_3_0 (1, 184, 0, 121) (List.mem_of_getElem? (i := 0) rfl))
theorem dX11_inks_4 : decode cX11_inks 4 = .ok (.ifCond .ne 5, 3) := dk154 0 5 (BX11_inks_3_0 (4, 154, 0, 5) (List.mem_of_getElem? (i := 1) rfl))
theorem dX11_inks_7 : decode cX11_inks 7 = .ok (.iconst (-1), 1) := dk2 (BX11_inks_1_0 (7, 2) (List.mem_of_getElem? (i := 1) rfl))
theorem dX11_inks_8 : decode cX11_inks 8 = .ok (.ireturn, 1) := dk172 (BX11_inks_1_0 (8, 172) (List.mem_of_getElem? (i := 2) rfl))
theorem dX11_inks_9 : decode cX11_inks 9 = .ok (.aload_n 0, 1) := dk42 (BX11_inks_1_0 (9, 42) (List.mem_of_getElem? (i := 3) rfl))
theorem dX11_inks_10 : decode cX11_inks 10 = .ok (.iload_n 1, 1) := dk27 (BX11_inks_1_0 (10, 27) (List.mem_of_getElem? (i := 4) rfl))
theorem dX11_inks_11 : decode cX11_inks 11 = .ok (.invokevirtual 185, 3) := dk182 0 185 (BX11_inks_3_0 (11, 182, 0, 185) (List.mem_of_getElem? (i := 2) rfl))
theorem dX11_inks_14 : decode cX11_inks 14 = .ok (.iload_n 2, 1) := dk28 (BX11_inks_1_0 (14, 28) (List.mem_of_getElem? (i := 5) rfl))
theorem dX11_inks_15 : decode cX11_inks 15 = .ok (.iconst (-1), 1) := dk2 (BX11_inks_1_0 (15, 2) (List.mem_of_getElem? (i := 6) rfl))
theorem dX11_inks_16 : decode cX11_inks 16 = .ok (.if_icmp .ne 11, 3) := dk160 0 11 (BX11_inks_3_0 (16, 160, 0, 11) (List.mem_of_getElem? (i := 3) rfl))
theorem dX11_inks_19 : decode cX11_inks 19 = .ok (.aload_n 0, 1) := dk42 (BX11_inks_1_0 (19, 42) (List.mem_of_getElem? (i := 7) rfl))
theorem dX11_inks_20 : decode cX11_inks 20 = .ok (.getfield 26, 3) := dk180 0 26 (BX11_inks_3_0 (20, 180, 0, 26) (List.mem_of_getElem? (i := 4) rfl))
theorem dX11_inks_23 : decode cX11_inks 23 = .ok (.invokevirtual 197, 3) := dk182 0 197 (BX11_inks_3_0 (23, 182, 0, 197) (List.mem_of_getElem? (i := 5) rfl))
theorem dX11_inks_26 : decode cX11_inks 26 = .ok (.ireturn, 1) := dk172 (BX11_inks_1_0 (26, 172) (List.mem_of_getElem? (i := 8) rfl))
theorem dX11_inks_27 : decode cX11_inks 27 = .ok (.iload_n 2, 1) := dk28 (BX11_inks_1_0 (27, 28) (List.mem_of_getElem? (i := 9) rfl))
theorem dX11_inks_28 : decode cX11_inks 28 = .ok (.bipush (-2), 2) := dk16 254 (BX11_inks_2_0 (28, 16, 254) (List.mem_of_getElem? (i := 0) rfl))
theorem dX11_inks_30 : decode cX11_inks 30 = .ok (.if_icmp .ne 11, 3) := dk160 0 11 (BX11_inks_3_0 (30, 160, 0, 11) (List.mem_of_getElem? (i := 6) rfl))
theorem dX11_inks_33 : decode cX11_inks 33 = .ok (.aload_n 0, 1) := dk42 (BX11_inks_1_0 (33, 42) (List.mem_of_getElem? (i := 10) rfl))
theorem dX11_inks_34 : decode cX11_inks 34 = .ok (.getfield 26, 3) := dk180 0 26 (BX11_inks_3_0 (34, 180, 0, 26) (List.mem_of_getElem? (i := 7) rfl))
theorem dX11_inks_37 : decode cX11_inks 37 = .ok (.invokevirtual 200, 3) := dk182 0 200 (BX11_inks_3_0 (37, 182, 0, 200) (List.mem_of_getElem? (i := 8) rfl))
theorem dX11_inks_40 : decode cX11_inks 40 = .ok (.ireturn, 1) := dk172 (BX11_inks_1_0 (40, 172) (List.mem_of_getElem? (i := 11) rfl))
theorem dX11_inks_41 : decode cX11_inks 41 = .ok (.iload_n 2, 1) := dk28 (BX11_inks_1_1 (41, 28) (List.mem_of_getElem? (i := 0) rfl))
theorem dX11_inks_42 : decode cX11_inks 42 = .ok (.bipush 10, 2) := dk16 10 (BX11_inks_2_0 (42, 16, 10) (List.mem_of_getElem? (i := 1) rfl))
theorem dX11_inks_44 : decode cX11_inks 44 = .ok (.idiv, 1) := dk108 (BX11_inks_1_1 (44, 108) (List.mem_of_getElem? (i := 1) rfl))
theorem dX11_inks_45 : decode cX11_inks 45 = .ok (.istore_n 3, 1) := dk62 (BX11_inks_1_1 (45, 62) (List.mem_of_getElem? (i := 2) rfl))
theorem dX11_inks_46 : decode cX11_inks 46 = .ok (.iload_n 2, 1) := dk28 (BX11_inks_1_1 (46, 28) (List.mem_of_getElem? (i := 3) rfl))
theorem dX11_inks_47 : decode cX11_inks 47 = .ok (.bipush 10, 2) := dk16 10 (BX11_inks_2_0 (47, 16, 10) (List.mem_of_getElem? (i := 2) rfl))
theorem dX11_inks_49 : decode cX11_inks 49 = .ok (.irem, 1) := dk112 (BX11_inks_1_1 (49, 112) (List.mem_of_getElem? (i := 4) rfl))
theorem dX11_inks_50 : decode cX11_inks 50 = .ok (.istore 4, 2) := dk54 4 (BX11_inks_2_0 (50, 54, 4) (List.mem_of_getElem? (i := 3) rfl))
theorem dX11_inks_52 : decode cX11_inks 52 = .ok (.iload_n 3, 1) := dk29 (BX11_inks_1_1 (52, 29) (List.mem_of_getElem? (i := 5) rfl))
theorem dX11_inks_53 : decode cX11_inks 53 = .ok (.invokestatic 170, 3) := dk184 0 170 (BX11_inks_3_0 (53, 184, 0, 170) (List.mem_of_getElem? (i := 9) rfl))
theorem dX11_inks_56 : decode cX11_inks 56 = .ok (.ifCond .eq 17, 3) := dk153 0 17 (BX11_inks_3_0 (56, 153, 0, 17) (List.mem_of_getElem? (i := 10) rfl))
theorem dX11_inks_59 : decode cX11_inks 59 = .ok (.iload 4, 2) := dk21 4 (BX11_inks_2_0 (59, 21, 4) (List.mem_of_getElem? (i := 4) rfl))
theorem dX11_inks_61 : decode cX11_inks 61 = .ok (.invokestatic 170, 3) := dk184 0 170 (BX11_inks_3_0 (61, 184, 0, 170) (List.mem_of_getElem? (i := 11) rfl))
theorem dX11_inks_64 : decode cX11_inks 64 = .ok (.ifCond .eq 9, 3) := dk153 0 9 (BX11_inks_3_1 (64, 153, 0, 9) (List.mem_of_getElem? (i := 0) rfl))
theorem dX11_inks_67 : decode cX11_inks 67 = .ok (.iload_n 3, 1) := dk29 (BX11_inks_1_1 (67, 29) (List.mem_of_getElem? (i := 6) rfl))
theorem dX11_inks_68 : decode cX11_inks 68 = .ok (.iload 4, 2) := dk21 4 (BX11_inks_2_0 (68, 21, 4) (List.mem_of_getElem? (i := 5) rfl))
theorem dX11_inks_70 : decode cX11_inks 70 = .ok (.if_icmp .ne 5, 3) := dk160 0 5 (BX11_inks_3_1 (70, 160, 0, 5) (List.mem_of_getElem? (i := 1) rfl))
theorem dX11_inks_73 : decode cX11_inks 73 = .ok (.iconst (-1), 1) := dk2 (BX11_inks_1_1 (73, 2) (List.mem_of_getElem? (i := 7) rfl))
theorem dX11_inks_74 : decode cX11_inks 74 = .ok (.ireturn, 1) := dk172 (BX11_inks_1_1 (74, 172) (List.mem_of_getElem? (i := 8) rfl))
theorem dX11_inks_75 : decode cX11_inks 75 = .ok (.aload_n 0, 1) := dk42 (BX11_inks_1_1 (75, 42) (List.mem_of_getElem? (i := 9) rfl))
theorem dX11_inks_76 : decode cX11_inks 76 = .ok (.getfield 26, 3) := dk180 0 26 (BX11_inks_3_1 (76, 180, 0, 26) (List.mem_of_getElem? (i := 2) rfl))
theorem dX11_inks_79 : decode cX11_inks 79 = .ok (.iload_n 3, 1) := dk29 (BX11_inks_1_1 (79, 29) (List.mem_of_getElem? (i := 10) rfl))
theorem dX11_inks_80 : decode cX11_inks 80 = .ok (.iload 4, 2) := dk21 4 (BX11_inks_2_0 (80, 21, 4) (List.mem_of_getElem? (i := 6) rfl))
theorem dX11_inks_82 : decode cX11_inks 82 = .ok (.invokevirtual 203, 3) := dk182 0 203 (BX11_inks_3_1 (82, 182, 0, 203) (List.mem_of_getElem? (i := 3) rfl))
theorem dX11_inks_85 : decode cX11_inks 85 = .ok (.invokestatic 162, 3) := dk184 0 162 (BX11_inks_3_1 (85, 184, 0, 162) (List.mem_of_getElem? (i := 4) rfl))
theorem dX11_inks_88 : decode cX11_inks 88 = .ok (.ireturn, 1) := dk172 (BX11_inks_1_1 (88, 172) (List.mem_of_getElem? (i := 11) rfl))
set_option maxRecDepth 20000 in
theorem ggX11_findInks_X7_all : GoodIn wsX11_findInks wsX7_all := gcons (goodIn_g ch_wsX11_findInks_flat gd_wsX11_findInks _ [(1, 8)] rfl) (goodIn_app (goodIn_g ch_wsX11_findInks_flat gd_wsX11_findInks _ [(1, 9)] rfl) (gchunk ch_wsX11_findInks_flat gd_wsX11_findInks 4 rfl))
set_option maxRecDepth 20000 in
theorem gX11_findInks_X7_all : GoodIn wsX11_findInks (wsV RX11 124 RX7 yX7_all wsX7_all) := goodIn_app (goodIn_g ch_wsX11_findInks_flat gd_wsX11_findInks _ [(1, 4), (1, 5), (1, 6), (1, 7)] rfl) ggX11_findInks_X7_all
set_option maxRecDepth 20000 in
theorem ggX11_findInks_X7_findWorms : GoodIn wsX11_findInks wsX7_findWorms := gcons (goodIn_g ch_wsX11_findInks_flat gd_wsX11_findInks _ [(1, 13)] rfl) (goodIn_app (goodIn_g ch_wsX11_findInks_flat gd_wsX11_findInks _ [(1, 14), (1, 15), (1, 16), (1, 17), (1, 18), (1, 19), (1, 20)] rfl) (gchunk ch_wsX11_findInks_flat gd_wsX11_findInks 4 rfl))
set_option maxRecDepth 20000 in
theorem gX11_findInks_X7_findWorms : GoodIn wsX11_findInks (wsV RX11 127 RX7 yX7_findWorms wsX7_findWorms) := goodIn_app (goodIn_g ch_wsX11_findInks_flat gd_wsX11_findInks _ [(1, 10), (1, 11), (1, 12), (1, 7)] rfl) ggX11_findInks_X7_findWorms
set_option maxRecDepth 20000 in
theorem ggX11_findInks_X3_findInks : GoodIn wsX11_findInks wsX3_findInks := gcons (goodIn_g ch_wsX11_findInks_flat gd_wsX11_findInks _ [(2, 1)] rfl) (goodIn_app (goodIn_g ch_wsX11_findInks_flat gd_wsX11_findInks _ [(2, 2), (2, 3), (2, 4), (2, 5), (2, 6), (2, 7), (2, 8), (2, 9), (2, 10), (2, 11), (2, 12), (2, 13), (2, 14), (2, 15), (2, 16)] rfl) (gchunk ch_wsX11_findInks_flat gd_wsX11_findInks 5 rfl))
set_option maxRecDepth 20000 in
theorem gX11_findInks_X3_findInks : GoodIn wsX11_findInks (wsV RX11 207 RX3 yX3_findInks wsX3_findInks) := goodIn_app (goodIn_g ch_wsX11_findInks_flat gd_wsX11_findInks _ [(1, 21), (1, 22), (1, 23), (2, 0)] rfl) ggX11_findInks_X3_findInks
set_option maxRecDepth 20000 in
theorem SX11_findInks : ∀ p : Nat, gb cX11_findInks p = segF [[42, 180, 0, 10, 27, 42, 180, 0, 10, 182, 0, 124, 182, 0, 127, 42, 180, 0, 26, 42, 180, 0, 10, 180, 0, 141, 42, 180, 0, 10, 180, 0, 131, 182, 0, 207, 177]] p := seg_gb (S := [[42, 180, 0, 10, 27, 42, 180, 0, 10, 182, 0, 124, 182, 0, 127, 42, 180, 0, 26, 42, 180, 0, 10, 180, 0, 141, 42, 180, 0, 10, 180, 0, 131, 182, 0, 207, 177]]) (by decide +kernel) (by decide +kernel)
set_option maxRecDepth 20000 in
theorem BX11_findInks_1_0 : ∀ q ∈ ([(0, 42), (4, 27), (5, 42), (15, 42), (19, 42), (26, 42), (36, 177)] : List (Nat × Nat)), gb cX11_findInks q.1 = some q.2 := seg_1 SX11_findInks _ (by decide +kernel)
set_option maxRecDepth 20000 in
theorem BX11_findInks_3_0 : ∀ q ∈ ([(1, 180, 0, 10), (6, 180, 0, 10), (9, 182, 0, 124), (12, 182, 0, 127), (16, 180, 0, 26), (20, 180, 0, 10), (23, 180, 0, 141), (27, 180, 0, 10), (30, 180, 0, 131), (33, 182, 0, 207)] : List (Nat × Nat × Nat × Nat)), gb cX11_findInks q.1 = some q.2.1 ∧ gb cX11_findInks (q.1 + 1) = some q.2.2.1 ∧ gb cX11_findInks (q.1 + 2) = some q.2.2.2 := seg_3 SX11_findInks _ (by decide +kernel)
theorem dX11_findInks_0 : decode cX11_findInks 0 = .ok (.aload_n 0, 1) := dk42 (BX11_findInks_1_0 (0, 42) (List.mem_of_getElem? (i := 0) rfl))
theorem dX11_findInks_1 : decode cX11_findInks 1 = .ok (.getfield 10, 3) := dk180 0 10 (BX11_findInks_3_0 (1, 180, 0, 10) (List.mem_of_getElem? (i := 0) rfl))
theorem dX11_findInks_4 : decode cX11_findInks 4 = .ok (.iload_n 1, 1) := dk27 (BX11_findInks_1_0 (4, 27) (List.mem_of_getElem? (i := 1) rfl))
theorem dX11_findInks_5 : decode cX11_findInks 5 = .ok (.aload_n 0, 1) := dk42 (BX11_findInks_1_0 (5, 42) (List.mem_of_getElem? (i := 2) rfl))
theorem dX11_findInks_6 : decode cX11_findInks 6 = .ok (.getfield 10, 3) := dk180 0 10 (BX11_findInks_3_0 (6, 180, 0, 10) (List.mem_of_getElem? (i := 1) rfl))
theorem dX11_findInks_9 : decode cX11_findInks 9 = .ok (.invokevirtual 124, 3) := dk182 0 124 (BX11_findInks_3_0 (9, 182, 0, 124) (List.mem_of_getElem? (i := 2) rfl))
theorem dX11_findInks_12 : decode cX11_findInks 12 = .ok (.invokevirtual 127, 3) := dk182 0 127 (BX11_findInks_3_0 (12, 182, 0, 127) (List.mem_of_getElem? (i := 3) rfl))
theorem dX11_findInks_15 : decode cX11_findInks 15 = .ok (.aload_n 0, 1) := dk42 (BX11_findInks_1_0 (15, 42) (List.mem_of_getElem? (i := 3) rfl))
theorem dX11_findInks_16 : decode cX11_findInks 16 = .ok (.getfield 26, 3) := dk180 0 26 (BX11_findInks_3_0 (16, 180, 0, 26) (List.mem_of_getElem? (i := 4) rfl))
theorem dX11_findInks_19 : decode cX11_findInks 19 = .ok (.aload_n 0, 1) := dk42 (BX11_findInks_1_0 (19, 42) (List.mem_of_getElem? (i := 4) rfl))
theorem dX11_findInks_20 : decode cX11_findInks 20 = .ok (.getfield 10, 3) := dk180 0 10 (BX11_findInks_3_0 (20, 180, 0, 10) (List.mem_of_getElem? (i := 5) rfl))
theorem dX11_findInks_23 : decode cX11_findInks 23 = .ok (.getfield 141, 3) := dk180 0 141 (BX11_findInks_3_0 (23, 180, 0, 141) (List.mem_of_getElem? (i := 6) rfl))
theorem dX11_findInks_26 : decode cX11_findInks 26 = .ok (.aload_n 0, 1) := dk42 (BX11_findInks_1_0 (26, 42) (List.mem_of_getElem? (i := 5) rfl))
theorem dX11_findInks_27 : decode cX11_findInks 27 = .ok (.getfield 10, 3) := dk180 0 10 (BX11_findInks_3_0 (27, 180, 0, 10) (List.mem_of_getElem? (i := 7) rfl))
theorem dX11_findInks_30 : decode cX11_findInks 30 = .ok (.getfield 131, 3) := dk180 0 131 (BX11_findInks_3_0 (30, 180, 0, 131) (List.mem_of_getElem? (i := 8) rfl))
theorem dX11_findInks_33 : decode cX11_findInks 33 = .ok (.invokevirtual 207, 3) := dk182 0 207 (BX11_findInks_3_0 (33, 182, 0, 207) (List.mem_of_getElem? (i := 9) rfl))
theorem dX11_findInks_36 : decode cX11_findInks 36 = .ok (.return_, 1) := dk177 (BX11_findInks_1_0 (36, 177) (List.mem_of_getElem? (i := 6) rfl))
set_option maxRecDepth 20000 in
theorem ggX11_dot_X11_isDot : GoodIn wsX11_dot wsX11_isDot := goodIn_g ch_wsX11_dot_flat gd_wsX11_dot _ [(1, 4), (1, 5), (1, 6), (1, 3), (1, 7), (1, 8), (1, 9), (1, 10)] rfl
set_option maxRecDepth 20000 in
theorem gX11_dot_X11_isDot : GoodIn wsX11_dot (va_wsS RX11 210 yX11_isDot wsX11_isDot) := goodIn_app (goodIn_g ch_wsX11_dot_flat gd_wsX11_dot _ [(1, 1), (1, 2), (1, 3)] rfl) ggX11_dot_X11_isDot
set_option maxRecDepth 20000 in
theorem ggX11_dot_X2_add : GoodIn wsX11_dot wsX2_add := gcons (goodIn_g ch_wsX11_dot_flat gd_wsX11_dot _ [(1, 15)] rfl) (goodIn_app (goodIn_g ch_wsX11_dot_flat gd_wsX11_dot _ [(1, 16), (1, 17), (1, 18), (1, 19), (1, 20), (1, 21), (1, 22), (1, 14), (1, 23)] rfl) (gchunk ch_wsX11_dot_flat gd_wsX11_dot 3 rfl))
set_option maxRecDepth 20000 in
theorem gX11_dot_X2_add : GoodIn wsX11_dot (wsV RX11 213 RX2 yX2_add wsX2_add) := goodIn_app (goodIn_g ch_wsX11_dot_flat gd_wsX11_dot _ [(1, 11), (1, 12), (1, 13), (1, 14)] rfl) ggX11_dot_X2_add
set_option maxRecDepth 20000 in
theorem SX11_dot : ∀ p : Nat, gb cX11_dot p = segF [[27, 16, 10, 108, 62, 27, 16, 10, 112, 54, 4, 29, 21, 4, 28, 184, 0, 210, 154, 0, 5, 2, 172, 42, 180, 0, 33, 29, 21, 4, 28, 182, 0, 213, 172]] p := seg_gb (S := [[27, 16, 10, 108, 62, 27, 16, 10, 112, 54, 4, 29, 21, 4, 28, 184, 0, 210, 154, 0, 5, 2, 172, 42, 180, 0, 33, 29, 21, 4, 28, 182, 0, 213, 172]]) (by decide +kernel) (by decide +kernel)
set_option maxRecDepth 20000 in
theorem BX11_dot_1_0 : ∀ q ∈ ([(0, 27), (3, 108), (4, 62), (5, 27), (8, 112), (11, 29), (14, 28), (21, 2), (22, 172), (23, 42), (27, 29), (30, 28)] : List (Nat × Nat)), gb cX11_dot q.1 = some q.2 := seg_1 SX11_dot _ (by decide +kernel)
set_option maxRecDepth 20000 in
theorem BX11_dot_1_1 : ∀ q ∈ ([(34, 172)] : List (Nat × Nat)), gb cX11_dot q.1 = some q.2 := seg_1 SX11_dot _ (by decide +kernel)
set_option maxRecDepth 20000 in
theorem BX11_dot_2_0 : ∀ q ∈ ([(1, 16, 10), (6, 16, 10), (9, 54, 4), (12, 21, 4), (28, 21, 4)] : List (Nat × Nat × Nat)), gb cX11_dot q.1 = some q.2.1 ∧ gb cX11_dot (q.1 + 1) = some q.2.2 := seg_2 SX11_dot _ (by decide +kernel)
set_option maxRecDepth 20000 in
theorem BX11_dot_3_0 : ∀ q ∈ ([(15, 184, 0, 210), (18, 154, 0, 5), (24, 180, 0, 33), (31, 182, 0, 213)] : List (Nat × Nat × Nat × Nat)), gb cX11_dot q.1 = some q.2.1 ∧ gb cX11_dot (q.1 + 1) = some q.2.2.1 ∧ gb cX11_dot (q.1 + 2) = some q.2.2.2 := seg_3 SX11_dot _ (by decide +kernel)
theorem dX11_dot_0 : decode cX11_dot 0 = .ok (.iload_n 1, 1) := dk27 (BX11_dot_1_0 (0, 27) (List.mem_of_getElem? (i := 0) rfl))
theorem dX11_dot_1 : decode cX11_dot 1 = .ok (.bipush 10, 2) := dk16 10 (BX11_dot_2_0 (1, 16, 10) (List.mem_of_getElem? (i := 0) rfl))
theorem dX11_dot_3 : decode cX11_dot 3 = .ok (.idiv, 1) := dk108 (BX11_dot_1_0 (3, 108) (List.mem_of_getElem? (i := 1) rfl))
theorem dX11_dot_4 : decode cX11_dot 4 = .ok (.istore_n 3, 1) := dk62 (BX11_dot_1_0 (4, 62) (List.mem_of_getElem? (i := 2) rfl))
theorem dX11_dot_5 : decode cX11_dot 5 = .ok (.iload_n 1, 1) := dk27 (BX11_dot_1_0 (5, 27) (List.mem_of_getElem? (i := 3) rfl))
theorem dX11_dot_6 : decode cX11_dot 6 = .ok (.bipush 10, 2) := dk16 10 (BX11_dot_2_0 (6, 16, 10) (List.mem_of_getElem? (i := 1) rfl))
theorem dX11_dot_8 : decode cX11_dot 8 = .ok (.irem, 1) := dk112 (BX11_dot_1_0 (8, 112) (List.mem_of_getElem? (i := 4) rfl))
theorem dX11_dot_9 : decode cX11_dot 9 = .ok (.istore 4, 2) := dk54 4 (BX11_dot_2_0 (9, 54, 4) (List.mem_of_getElem? (i := 2) rfl))
theorem dX11_dot_11 : decode cX11_dot 11 = .ok (.iload_n 3, 1) := dk29 (BX11_dot_1_0 (11, 29) (List.mem_of_getElem? (i := 5) rfl))
theorem dX11_dot_12 : decode cX11_dot 12 = .ok (.iload 4, 2) := dk21 4 (BX11_dot_2_0 (12, 21, 4) (List.mem_of_getElem? (i := 3) rfl))
theorem dX11_dot_14 : decode cX11_dot 14 = .ok (.iload_n 2, 1) := dk28 (BX11_dot_1_0 (14, 28) (List.mem_of_getElem? (i := 6) rfl))
theorem dX11_dot_15 : decode cX11_dot 15 = .ok (.invokestatic 210, 3) := dk184 0 210 (BX11_dot_3_0 (15, 184, 0, 210) (List.mem_of_getElem? (i := 0) rfl))
theorem dX11_dot_18 : decode cX11_dot 18 = .ok (.ifCond .ne 5, 3) := dk154 0 5 (BX11_dot_3_0 (18, 154, 0, 5) (List.mem_of_getElem? (i := 1) rfl))
theorem dX11_dot_21 : decode cX11_dot 21 = .ok (.iconst (-1), 1) := dk2 (BX11_dot_1_0 (21, 2) (List.mem_of_getElem? (i := 7) rfl))
theorem dX11_dot_22 : decode cX11_dot 22 = .ok (.ireturn, 1) := dk172 (BX11_dot_1_0 (22, 172) (List.mem_of_getElem? (i := 8) rfl))
theorem dX11_dot_23 : decode cX11_dot 23 = .ok (.aload_n 0, 1) := dk42 (BX11_dot_1_0 (23, 42) (List.mem_of_getElem? (i := 9) rfl))
theorem dX11_dot_24 : decode cX11_dot 24 = .ok (.getfield 33, 3) := dk180 0 33 (BX11_dot_3_0 (24, 180, 0, 33) (List.mem_of_getElem? (i := 2) rfl))
theorem dX11_dot_27 : decode cX11_dot 27 = .ok (.iload_n 3, 1) := dk29 (BX11_dot_1_0 (27, 29) (List.mem_of_getElem? (i := 10) rfl))
theorem dX11_dot_28 : decode cX11_dot 28 = .ok (.iload 4, 2) := dk21 4 (BX11_dot_2_0 (28, 21, 4) (List.mem_of_getElem? (i := 4) rfl))
theorem dX11_dot_30 : decode cX11_dot 30 = .ok (.iload_n 2, 1) := dk28 (BX11_dot_1_0 (30, 28) (List.mem_of_getElem? (i := 11) rfl))
theorem dX11_dot_31 : decode cX11_dot 31 = .ok (.invokevirtual 213, 3) := dk182 0 213 (BX11_dot_3_0 (31, 182, 0, 213) (List.mem_of_getElem? (i := 3) rfl))
theorem dX11_dot_34 : decode cX11_dot 34 = .ok (.ireturn, 1) := dk172 (BX11_dot_1_1 (34, 172) (List.mem_of_getElem? (i := 0) rfl))
set_option maxRecDepth 20000 in
theorem ggX11_mend_X2_isOne : GoodIn wsX11_mend wsX2_isOne := gcons (goodIn_g ch_wsX11_mend_flat gd_wsX11_mend _ [(1, 5)] rfl) (goodIn_app (goodIn_g ch_wsX11_mend_flat gd_wsX11_mend _ [(1, 6), (1, 7), (1, 8), (1, 9)] rfl) (gchunk ch_wsX11_mend_flat gd_wsX11_mend 4 rfl))
set_option maxRecDepth 20000 in
theorem gX11_mend_X2_isOne : GoodIn wsX11_mend (wsV RX11 215 RX2 yX2_isOne wsX2_isOne) := goodIn_app (goodIn_g ch_wsX11_mend_flat gd_wsX11_mend _ [(1, 1), (1, 2), (1, 3), (1, 4)] rfl) ggX11_mend_X2_isOne
set_option maxRecDepth 20000 in
theorem ggX11_mend_X11_isStuff : GoodIn wsX11_mend wsX11_isStuff := goodIn_g ch_wsX11_mend_flat gd_wsX11_mend _ [(1, 12), (1, 13), (1, 7), (1, 8), (1, 9)] rfl
set_option maxRecDepth 20000 in
theorem gX11_mend_X11_isStuff : GoodIn wsX11_mend (va_wsS RX11 218 yX11_isStuff wsX11_isStuff) := goodIn_app (goodIn_g ch_wsX11_mend_flat gd_wsX11_mend _ [(1, 10), (1, 11), (1, 8)] rfl) ggX11_mend_X11_isStuff
set_option maxRecDepth 20000 in
theorem ggX11_mend_X11_change : GoodIn wsX11_mend wsX11_change := gcons (goodIn_g ch_wsX11_mend_flat gd_wsX11_mend _ [(1, 17)] rfl) (goodIn_app (goodIn_app (goodIn_app (goodIn_app (goodIn_app (goodIn_app (goodIn_g ch_wsX11_mend_flat gd_wsX11_mend _ [(1, 18), (1, 19), (1, 20), (1, 21), (1, 8), (1, 22), (1, 0), (1, 23), (2, 0), (2, 1), (2, 2), (2, 3), (1, 13), (1, 7), (1, 9), (2, 4), (2, 5), (2, 6), (2, 7), (2, 8), (2, 9), (2, 10), (2, 11), (2, 12)] rfl) (goodIn_g ch_wsX11_mend_flat gd_wsX11_mend _ [(2, 13), (2, 14), (2, 15), (2, 16), (2, 17), (2, 18), (2, 19), (2, 20), (2, 21), (2, 22)] rfl)) (gchunk ch_wsX11_mend_flat gd_wsX11_mend 3 rfl)) (gchunk ch_wsX11_mend_flat gd_wsX11_mend 4 rfl)) (gchunk ch_wsX11_mend_flat gd_wsX11_mend 5 rfl)) (gchunk ch_wsX11_mend_flat gd_wsX11_mend 6 rfl)) (gchunk ch_wsX11_mend_flat gd_wsX11_mend 7 rfl))
set_option maxRecDepth 20000 in
theorem gX11_mend_X11_change : GoodIn wsX11_mend (wsV RX11 109 RX11 yX11_change wsX11_change) := goodIn_app (goodIn_g ch_wsX11_mend_flat gd_wsX11_mend _ [(1, 14), (1, 15), (1, 16), (1, 8)] rfl) ggX11_mend_X11_change
set_option maxRecDepth 20000 in
theorem SX11_mend : ∀ p : Nat, gb cX11_mend p = segF [[42, 180, 0, 33, 27, 182, 0, 215, 153, 0, 10, 28, 184, 0, 218, 154, 0, 5, 2, 172, 42, 3, 27, 28, 182, 0, 109, 172]] p := seg_gb (S := [[42, 180, 0, 33, 27, 182, 0, 215, 153, 0, 10, 28, 184, 0, 218, 154, 0, 5, 2, 172, 42, 3, 27, 28, 182, 0, 109, 172]]) (by decide +kernel) (by decide +kernel)
set_option maxRecDepth 20000 in
theorem BX11_mend_1_0 : ∀ q ∈ ([(0, 42), (4, 27), (11, 28), (18, 2), (19, 172), (20, 42), (21, 3), (22, 27), (23, 28), (27, 172)] : List (Nat × Nat)), gb cX11_mend q.1 = some q.2 := seg_1 SX11_mend _ (by decide +kernel)
set_option maxRecDepth 20000 in
theorem BX11_mend_3_0 : ∀ q ∈ ([(1, 180, 0, 33), (5, 182, 0, 215), (8, 153, 0, 10), (12, 184, 0, 218), (15, 154, 0, 5), (24, 182, 0, 109)] : List (Nat × Nat × Nat × Nat)), gb cX11_mend q.1 = some q.2.1 ∧ gb cX11_mend (q.1 + 1) = some q.2.2.1 ∧ gb cX11_mend (q.1 + 2) = some q.2.2.2 := seg_3 SX11_mend _ (by decide +kernel)
theorem dX11_mend_0 : decode cX11_mend 0 = .ok (.aload_n 0, 1) := dk42 (BX11_mend_1_0 (0, 42) (List.mem_of_getElem? (i := 0) rfl))
theorem dX11_mend_1 : decode cX11_mend 1 = .ok (.getfield 33, 3) := dk180 0 33 (BX11_mend_3_0 (1, 180, 0, 33) (List.mem_of_getElem? (i := 0) rfl))
theorem dX11_mend_4 : decode cX11_mend 4 = .ok (.iload_n 1, 1) := dk27 (BX11_mend_1_0 (4, 27) (List.mem_of_getElem? (i := 1) rfl))
theorem dX11_mend_5 : decode cX11_mend 5 = .ok (.invokevirtual 215, 3) := dk182 0 215 (BX11_mend_3_0 (5, 182, 0, 215) (List.mem_of_getElem? (i := 1) rfl))
theorem dX11_mend_8 : decode cX11_mend 8 = .ok (.ifCond .eq 10, 3) := dk153 0 10 (BX11_mend_3_0 (8, 153, 0, 10) (List.mem_of_getElem? (i := 2) rfl))
theorem dX11_mend_11 : decode cX11_mend 11 = .ok (.iload_n 2, 1) := dk28 (BX11_mend_1_0 (11, 28) (List.mem_of_getElem? (i := 2) rfl))
theorem dX11_mend_12 : decode cX11_mend 12 = .ok (.invokestatic 218, 3) := dk184 0 218 (BX11_mend_3_0 (12, 184, 0, 218) (List.mem_of_getElem? (i := 3) rfl))
theorem dX11_mend_15 : decode cX11_mend 15 = .ok (.ifCond .ne 5, 3) := dk154 0 5 (BX11_mend_3_0 (15, 154, 0, 5) (List.mem_of_getElem? (i := 4) rfl))
theorem dX11_mend_18 : decode cX11_mend 18 = .ok (.iconst (-1), 1) := dk2 (BX11_mend_1_0 (18, 2) (List.mem_of_getElem? (i := 3) rfl))
theorem dX11_mend_19 : decode cX11_mend 19 = .ok (.ireturn, 1) := dk172 (BX11_mend_1_0 (19, 172) (List.mem_of_getElem? (i := 4) rfl))
theorem dX11_mend_20 : decode cX11_mend 20 = .ok (.aload_n 0, 1) := dk42 (BX11_mend_1_0 (20, 42) (List.mem_of_getElem? (i := 5) rfl))
theorem dX11_mend_21 : decode cX11_mend 21 = .ok (.iconst 0, 1) := dk3 (BX11_mend_1_0 (21, 3) (List.mem_of_getElem? (i := 6) rfl))
theorem dX11_mend_22 : decode cX11_mend 22 = .ok (.iload_n 1, 1) := dk27 (BX11_mend_1_0 (22, 27) (List.mem_of_getElem? (i := 7) rfl))
theorem dX11_mend_23 : decode cX11_mend 23 = .ok (.iload_n 2, 1) := dk28 (BX11_mend_1_0 (23, 28) (List.mem_of_getElem? (i := 8) rfl))
theorem dX11_mend_24 : decode cX11_mend 24 = .ok (.invokevirtual 109, 3) := dk182 0 109 (BX11_mend_3_0 (24, 182, 0, 109) (List.mem_of_getElem? (i := 5) rfl))
theorem dX11_mend_27 : decode cX11_mend 27 = .ok (.ireturn, 1) := dk172 (BX11_mend_1_0 (27, 172) (List.mem_of_getElem? (i := 9) rfl))
set_option maxRecDepth 20000 in
theorem ggX11_dots_X8_isShelf : GoodIn wsX11_dots wsX8_isShelf := gcons (goodIn_g ch_wsX11_dots_flat gd_wsX11_dots _ [(1, 5)] rfl) (goodIn_app (goodIn_g ch_wsX11_dots_flat gd_wsX11_dots _ [(1, 6), (1, 7), (1, 8), (1, 9)] rfl) (gchunk ch_wsX11_dots_flat gd_wsX11_dots 5 rfl))
set_option maxRecDepth 20000 in
theorem gX11_dots_X8_isShelf : GoodIn wsX11_dots (wsV RX11 221 RX8 yX8_isShelf wsX8_isShelf) := goodIn_app (goodIn_g ch_wsX11_dots_flat gd_wsX11_dots _ [(1, 1), (1, 2), (1, 3), (1, 4)] rfl) ggX11_dots_X8_isShelf
set_option maxRecDepth 20000 in
theorem ggX11_dots_X11_within : GoodIn wsX11_dots wsX11_within := goodIn_g ch_wsX11_dots_flat gd_wsX11_dots _ [(1, 9)] rfl
set_option maxRecDepth 20000 in
theorem gX11_dots_X11_within : GoodIn wsX11_dots (va_wsS RX11 113 yX11_within wsX11_within) := goodIn_app (goodIn_g ch_wsX11_dots_flat gd_wsX11_dots _ [(1, 10), (1, 7), (1, 8)] rfl) ggX11_dots_X11_within
set_option maxRecDepth 20000 in
theorem ggX11_dots_X8_isBare : GoodIn wsX11_dots wsX8_isBare := gcons (goodIn_g ch_wsX11_dots_flat gd_wsX11_dots _ [(1, 14)] rfl) (goodIn_app (goodIn_g ch_wsX11_dots_flat gd_wsX11_dots _ [(1, 6)] rfl) (gchunk ch_wsX11_dots_flat gd_wsX11_dots 5 rfl))
set_option maxRecDepth 20000 in
theorem gX11_dots_X8_isBare : GoodIn wsX11_dots (wsV RX11 224 RX8 yX8_isBare wsX8_isBare) := goodIn_app (goodIn_g ch_wsX11_dots_flat gd_wsX11_dots _ [(1, 11), (1, 12), (1, 13), (1, 4)] rfl) ggX11_dots_X8_isBare
set_option maxRecDepth 20000 in
theorem ggX11_dots_X8_holdsSort : GoodIn wsX11_dots wsX8_holdsSort := gcons (goodIn_g ch_wsX11_dots_flat gd_wsX11_dots _ [(1, 18)] rfl) (goodIn_app (goodIn_g ch_wsX11_dots_flat gd_wsX11_dots _ [(1, 6)] rfl) (gchunk ch_wsX11_dots_flat gd_wsX11_dots 5 rfl))
set_option maxRecDepth 20000 in
theorem gX11_dots_X8_holdsSort : GoodIn wsX11_dots (wsV RX11 227 RX8 yX8_holdsSort wsX8_holdsSort) := goodIn_app (goodIn_g ch_wsX11_dots_flat gd_wsX11_dots _ [(1, 15), (1, 16), (1, 17), (1, 4)] rfl) ggX11_dots_X8_holdsSort
set_option maxRecDepth 20000 in
theorem ggX11_dots_X11_dotComes : GoodIn wsX11_dots wsX11_dotComes := gcons (goodIn_g ch_wsX11_dots_flat gd_wsX11_dots _ [(1, 22)] rfl) (goodIn_app (goodIn_app (goodIn_app (goodIn_app (goodIn_g ch_wsX11_dots_flat gd_wsX11_dots _ [(1, 23), (1, 0), (2, 0), (2, 1), (2, 2), (2, 3), (2, 4), (2, 5), (2, 6), (2, 7), (2, 8), (2, 9), (2, 10), (1, 4), (2, 11), (2, 12), (2, 13), (2, 14), (1, 8), (2, 15), (1, 10), (1, 7), (1, 9), (2, 16)] rfl) (goodIn_g ch_wsX11_dots_flat gd_wsX11_dots _ [(2, 17), (2, 18), (2, 19), (2, 20), (2, 21), (2, 22), (2, 23), (3, 0), (3, 1)] rfl)) (gchunk ch_wsX11_dots_flat gd_wsX11_dots 4 rfl)) (gchunk ch_wsX11_dots_flat gd_wsX11_dots 5 rfl)) (gchunk ch_wsX11_dots_flat gd_wsX11_dots 6 rfl))
set_option maxRecDepth 20000 in
theorem gX11_dots_X11_dotComes : GoodIn wsX11_dots (wsV RX11 230 RX11 yX11_dotComes wsX11_dotComes) := goodIn_app (goodIn_g ch_wsX11_dots_flat gd_wsX11_dots _ [(1, 19), (1, 20), (1, 21), (1, 8)] rfl) ggX11_dots_X11_dotComes
set_option maxRecDepth 20000 in
theorem SX11_dots : ∀ p : Nat, gb cX11_dots p = segF [[42, 180, 0, 82, 27, 182, 0, 221, 153, 0, 13, 29, 4, 16, 20, 184, 0, 113, 154, 0, 5, 2, 172, 42, 180, 0, 82, 27, 182, 0, 224, 153, 0, 5, 3, 172, 42, 180, 0, 82, 27, 4, 182, 0, 227, 154, 0, 6, 16, 244, 172, 3, 54, 4, 3, 54, 5, 21, 5, 29, 162, 0, 29, 42], [27, 28, 6, 21, 5, 104, 96, 182, 0, 230, 154, 0, 6, 167, 0, 12, 132, 4, 1, 132, 5, 1, 167, 255, 227, 21, 4, 172]] p := seg_gb (S := [[42, 180, 0, 82, 27, 182, 0, 221, 153, 0, 13, 29, 4, 16, 20, 184, 0, 113, 154, 0, 5, 2, 172, 42, 180, 0, 82, 27, 182, 0, 224, 153, 0, 5, 3, 172, 42, 180, 0, 82, 27, 4, 182, 0, 227, 154, 0, 6, 16, 244, 172, 3, 54, 4, 3, 54, 5, 21, 5, 29, 162, 0, 29, 42], [27, 28, 6, 21, 5, 104, 96, 182, 0, 230, 154, 0, 6, 167, 0, 12, 132, 4, 1, 132, 5, 1, 167, 255, 227, 21, 4, 172]]) (by decide +kernel) (by decide +kernel)
set_option maxRecDepth 20000 in
theorem BX11_dots_1_0 : ∀ q ∈ ([(0, 42), (4, 27), (11, 29), (12, 4), (21, 2), (22, 172), (23, 42), (27, 27), (34, 3), (35, 172), (36, 42), (40, 27)] : List (Nat × Nat)), gb cX11_dots q.1 = some q.2 := seg_1 SX11_dots _ (by decide +kernel)
set_option maxRecDepth 20000 in
theorem BX11_dots_1_1 : ∀ q ∈ ([(41, 4), (50, 172), (51, 3), (54, 3), (59, 29), (63, 42), (64, 27), (65, 28), (66, 6), (69, 104), (70, 96), (91, 172)] : List (Nat × Nat)), gb cX11_dots q.1 = some q.2 := seg_1 SX11_dots _ (by decide +kernel)
set_option maxRecDepth 20000 in
theorem BX11_dots_2_0 : ∀ q ∈ ([(13, 16, 20), (48, 16, 244), (52, 54, 4), (55, 54, 5), (57, 21, 5), (67, 21, 5), (89, 21, 4)] : List (Nat × Nat × Nat)), gb cX11_dots q.1 = some q.2.1 ∧ gb cX11_dots (q.1 + 1) = some q.2.2 := seg_2 SX11_dots _ (by decide +kernel)
set_option maxRecDepth 20000 in
theorem BX11_dots_3_0 : ∀ q ∈ ([(1, 180, 0, 82), (5, 182, 0, 221), (8, 153, 0, 13), (15, 184, 0, 113), (18, 154, 0, 5), (24, 180, 0, 82), (28, 182, 0, 224), (31, 153, 0, 5), (37, 180, 0, 82), (42, 182, 0, 227), (45, 154, 0, 6), (60, 162, 0, 29)] : List (Nat × Nat × Nat × Nat)), gb cX11_dots q.1 = some q.2.1 ∧ gb cX11_dots (q.1 + 1) = some q.2.2.1 ∧ gb cX11_dots (q.1 + 2) = some q.2.2.2 := seg_3 SX11_dots _ (by decide +kernel)
set_option maxRecDepth 20000 in
theorem BX11_dots_3_1 : ∀ q ∈ ([(71, 182, 0, 230), (74, 154, 0, 6), (77, 167, 0, 12), (80, 132, 4, 1), (83, 132, 5, 1), (86, 167, 255, 227)] : List (Nat × Nat × Nat × Nat)), gb cX11_dots q.1 = some q.2.1 ∧ gb cX11_dots (q.1 + 1) = some q.2.2.1 ∧ gb cX11_dots (q.1 + 2) = some q.2.2.2 := seg_3 SX11_dots _ (by decide +kernel)
theorem dX11_dots_0 : decode cX11_dots 0 = .ok (.aload_n 0, 1) := dk42 (BX11_dots_1_0 (0, 42) (List.mem_of_getElem? (i := 0) rfl))
theorem dX11_dots_1 : decode cX11_dots 1 = .ok (.getfield 82, 3) := dk180 0 82 (BX11_dots_3_0 (1, 180, 0, 82) (List.mem_of_getElem? (i := 0) rfl))
theorem dX11_dots_4 : decode cX11_dots 4 = .ok (.iload_n 1, 1) := dk27 (BX11_dots_1_0 (4, 27) (List.mem_of_getElem? (i := 1) rfl))
theorem dX11_dots_5 : decode cX11_dots 5 = .ok (.invokevirtual 221, 3) := dk182 0 221 (BX11_dots_3_0 (5, 182, 0, 221) (List.mem_of_getElem? (i := 1) rfl))
theorem dX11_dots_8 : decode cX11_dots 8 = .ok (.ifCond .eq 13, 3) := dk153 0 13 (BX11_dots_3_0 (8, 153, 0, 13) (List.mem_of_getElem? (i := 2) rfl))
theorem dX11_dots_11 : decode cX11_dots 11 = .ok (.iload_n 3, 1) := dk29 (BX11_dots_1_0 (11, 29) (List.mem_of_getElem? (i := 2) rfl))
theorem dX11_dots_12 : decode cX11_dots 12 = .ok (.iconst 1, 1) := dk4 (BX11_dots_1_0 (12, 4) (List.mem_of_getElem? (i := 3) rfl))
theorem dX11_dots_13 : decode cX11_dots 13 = .ok (.bipush 20, 2) := dk16 20 (BX11_dots_2_0 (13, 16, 20) (List.mem_of_getElem? (i := 0) rfl))
theorem dX11_dots_15 : decode cX11_dots 15 = .ok (.invokestatic 113, 3) := dk184 0 113 (BX11_dots_3_0 (15, 184, 0, 113) (List.mem_of_getElem? (i := 3) rfl))
theorem dX11_dots_18 : decode cX11_dots 18 = .ok (.ifCond .ne 5, 3) := dk154 0 5 (BX11_dots_3_0 (18, 154, 0, 5) (List.mem_of_getElem? (i := 4) rfl))
theorem dX11_dots_21 : decode cX11_dots 21 = .ok (.iconst (-1), 1) := dk2 (BX11_dots_1_0 (21, 2) (List.mem_of_getElem? (i := 4) rfl))
theorem dX11_dots_22 : decode cX11_dots 22 = .ok (.ireturn, 1) := dk172 (BX11_dots_1_0 (22, 172) (List.mem_of_getElem? (i := 5) rfl))
theorem dX11_dots_23 : decode cX11_dots 23 = .ok (.aload_n 0, 1) := dk42 (BX11_dots_1_0 (23, 42) (List.mem_of_getElem? (i := 6) rfl))
theorem dX11_dots_24 : decode cX11_dots 24 = .ok (.getfield 82, 3) := dk180 0 82 (BX11_dots_3_0 (24, 180, 0, 82) (List.mem_of_getElem? (i := 5) rfl))
theorem dX11_dots_27 : decode cX11_dots 27 = .ok (.iload_n 1, 1) := dk27 (BX11_dots_1_0 (27, 27) (List.mem_of_getElem? (i := 7) rfl))
theorem dX11_dots_28 : decode cX11_dots 28 = .ok (.invokevirtual 224, 3) := dk182 0 224 (BX11_dots_3_0 (28, 182, 0, 224) (List.mem_of_getElem? (i := 6) rfl))
theorem dX11_dots_31 : decode cX11_dots 31 = .ok (.ifCond .eq 5, 3) := dk153 0 5 (BX11_dots_3_0 (31, 153, 0, 5) (List.mem_of_getElem? (i := 7) rfl))
theorem dX11_dots_34 : decode cX11_dots 34 = .ok (.iconst 0, 1) := dk3 (BX11_dots_1_0 (34, 3) (List.mem_of_getElem? (i := 8) rfl))
theorem dX11_dots_35 : decode cX11_dots 35 = .ok (.ireturn, 1) := dk172 (BX11_dots_1_0 (35, 172) (List.mem_of_getElem? (i := 9) rfl))
theorem dX11_dots_36 : decode cX11_dots 36 = .ok (.aload_n 0, 1) := dk42 (BX11_dots_1_0 (36, 42) (List.mem_of_getElem? (i := 10) rfl))
theorem dX11_dots_37 : decode cX11_dots 37 = .ok (.getfield 82, 3) := dk180 0 82 (BX11_dots_3_0 (37, 180, 0, 82) (List.mem_of_getElem? (i := 8) rfl))
theorem dX11_dots_40 : decode cX11_dots 40 = .ok (.iload_n 1, 1) := dk27 (BX11_dots_1_0 (40, 27) (List.mem_of_getElem? (i := 11) rfl))
theorem dX11_dots_41 : decode cX11_dots 41 = .ok (.iconst 1, 1) := dk4 (BX11_dots_1_1 (41, 4) (List.mem_of_getElem? (i := 0) rfl))
theorem dX11_dots_42 : decode cX11_dots 42 = .ok (.invokevirtual 227, 3) := dk182 0 227 (BX11_dots_3_0 (42, 182, 0, 227) (List.mem_of_getElem? (i := 9) rfl))
theorem dX11_dots_45 : decode cX11_dots 45 = .ok (.ifCond .ne 6, 3) := dk154 0 6 (BX11_dots_3_0 (45, 154, 0, 6) (List.mem_of_getElem? (i := 10) rfl))
theorem dX11_dots_48 : decode cX11_dots 48 = .ok (.bipush (-12), 2) := dk16 244 (BX11_dots_2_0 (48, 16, 244) (List.mem_of_getElem? (i := 1) rfl))
theorem dX11_dots_50 : decode cX11_dots 50 = .ok (.ireturn, 1) := dk172 (BX11_dots_1_1 (50, 172) (List.mem_of_getElem? (i := 1) rfl))
theorem dX11_dots_51 : decode cX11_dots 51 = .ok (.iconst 0, 1) := dk3 (BX11_dots_1_1 (51, 3) (List.mem_of_getElem? (i := 2) rfl))
theorem dX11_dots_52 : decode cX11_dots 52 = .ok (.istore 4, 2) := dk54 4 (BX11_dots_2_0 (52, 54, 4) (List.mem_of_getElem? (i := 2) rfl))
theorem dX11_dots_54 : decode cX11_dots 54 = .ok (.iconst 0, 1) := dk3 (BX11_dots_1_1 (54, 3) (List.mem_of_getElem? (i := 3) rfl))
theorem dX11_dots_55 : decode cX11_dots 55 = .ok (.istore 5, 2) := dk54 5 (BX11_dots_2_0 (55, 54, 5) (List.mem_of_getElem? (i := 3) rfl))
theorem dX11_dots_57 : decode cX11_dots 57 = .ok (.iload 5, 2) := dk21 5 (BX11_dots_2_0 (57, 21, 5) (List.mem_of_getElem? (i := 4) rfl))
theorem dX11_dots_59 : decode cX11_dots 59 = .ok (.iload_n 3, 1) := dk29 (BX11_dots_1_1 (59, 29) (List.mem_of_getElem? (i := 4) rfl))
theorem dX11_dots_60 : decode cX11_dots 60 = .ok (.if_icmp .ge 29, 3) := dk162 0 29 (BX11_dots_3_0 (60, 162, 0, 29) (List.mem_of_getElem? (i := 11) rfl))
theorem dX11_dots_63 : decode cX11_dots 63 = .ok (.aload_n 0, 1) := dk42 (BX11_dots_1_1 (63, 42) (List.mem_of_getElem? (i := 5) rfl))
theorem dX11_dots_64 : decode cX11_dots 64 = .ok (.iload_n 1, 1) := dk27 (BX11_dots_1_1 (64, 27) (List.mem_of_getElem? (i := 6) rfl))
theorem dX11_dots_65 : decode cX11_dots 65 = .ok (.iload_n 2, 1) := dk28 (BX11_dots_1_1 (65, 28) (List.mem_of_getElem? (i := 7) rfl))
theorem dX11_dots_66 : decode cX11_dots 66 = .ok (.iconst 3, 1) := dk6 (BX11_dots_1_1 (66, 6) (List.mem_of_getElem? (i := 8) rfl))
theorem dX11_dots_67 : decode cX11_dots 67 = .ok (.iload 5, 2) := dk21 5 (BX11_dots_2_0 (67, 21, 5) (List.mem_of_getElem? (i := 5) rfl))
theorem dX11_dots_69 : decode cX11_dots 69 = .ok (.imul, 1) := dk104 (BX11_dots_1_1 (69, 104) (List.mem_of_getElem? (i := 9) rfl))
theorem dX11_dots_70 : decode cX11_dots 70 = .ok (.iadd, 1) := dk96 (BX11_dots_1_1 (70, 96) (List.mem_of_getElem? (i := 10) rfl))
theorem dX11_dots_71 : decode cX11_dots 71 = .ok (.invokevirtual 230, 3) := dk182 0 230 (BX11_dots_3_1 (71, 182, 0, 230) (List.mem_of_getElem? (i := 0) rfl))
theorem dX11_dots_74 : decode cX11_dots 74 = .ok (.ifCond .ne 6, 3) := dk154 0 6 (BX11_dots_3_1 (74, 154, 0, 6) (List.mem_of_getElem? (i := 1) rfl))
theorem dX11_dots_77 : decode cX11_dots 77 = .ok (.goto 12, 3) := dk167 0 12 (BX11_dots_3_1 (77, 167, 0, 12) (List.mem_of_getElem? (i := 2) rfl))
theorem dX11_dots_80 : decode cX11_dots 80 = .ok (.iinc 4 1, 3) := dk132 4 1 (BX11_dots_3_1 (80, 132, 4, 1) (List.mem_of_getElem? (i := 3) rfl))
theorem dX11_dots_83 : decode cX11_dots 83 = .ok (.iinc 5 1, 3) := dk132 5 1 (BX11_dots_3_1 (83, 132, 5, 1) (List.mem_of_getElem? (i := 4) rfl))
theorem dX11_dots_86 : decode cX11_dots 86 = .ok (.goto (-29), 3) := dk167 255 227 (BX11_dots_3_1 (86, 167, 255, 227) (List.mem_of_getElem? (i := 5) rfl))
theorem dX11_dots_89 : decode cX11_dots 89 = .ok (.iload 4, 2) := dk21 4 (BX11_dots_2_0 (89, 21, 4) (List.mem_of_getElem? (i := 6) rfl))
theorem dX11_dots_91 : decode cX11_dots 91 = .ok (.ireturn, 1) := dk172 (BX11_dots_1_1 (91, 172) (List.mem_of_getElem? (i := 11) rfl))
set_option maxRecDepth 20000 in
theorem ggX11_dotComes_X2_isFull : GoodIn wsX11_dotComes wsX2_isFull := gcons (goodIn_g ch_wsX11_dotComes_flat gd_wsX11_dotComes _ [(1, 7)] rfl) (goodIn_app (goodIn_g ch_wsX11_dotComes_flat gd_wsX11_dotComes _ [(1, 8), (1, 9)] rfl) (gchunk ch_wsX11_dotComes_flat gd_wsX11_dotComes 5 rfl))
set_option maxRecDepth 20000 in
theorem gX11_dotComes_X2_isFull : GoodIn wsX11_dotComes (wsV RX11 233 RX2 yX2_isFull wsX2_isFull) := goodIn_app (goodIn_g ch_wsX11_dotComes_flat gd_wsX11_dotComes _ [(1, 3), (1, 4), (1, 5), (1, 6)] rfl) ggX11_dotComes_X2_isFull
set_option maxRecDepth 20000 in
theorem ggX11_dotComes_X8_hasPlaces : GoodIn wsX11_dotComes wsX8_hasPlaces := gcons (goodIn_g ch_wsX11_dotComes_flat gd_wsX11_dotComes _ [(1, 14)] rfl) (goodIn_app (goodIn_g ch_wsX11_dotComes_flat gd_wsX11_dotComes _ [(1, 15)] rfl) (gchunk ch_wsX11_dotComes_flat gd_wsX11_dotComes 4 rfl))
set_option maxRecDepth 20000 in
theorem gX11_dotComes_X8_hasPlaces : GoodIn wsX11_dotComes (wsV RX11 237 RX8 yX8_hasPlaces wsX8_hasPlaces) := goodIn_app (goodIn_g ch_wsX11_dotComes_flat gd_wsX11_dotComes _ [(1, 10), (1, 11), (1, 12), (1, 13)] rfl) ggX11_dotComes_X8_hasPlaces
set_option maxRecDepth 20000 in
theorem ggX11_dotComes_X11_isDot : GoodIn wsX11_dotComes wsX11_isDot := goodIn_g ch_wsX11_dotComes_flat gd_wsX11_dotComes _ [(1, 19), (1, 20), (1, 21), (1, 18), (1, 22), (1, 23), (2, 0), (2, 1)] rfl
set_option maxRecDepth 20000 in
theorem gX11_dotComes_X11_isDot : GoodIn wsX11_dotComes (va_wsS RX11 210 yX11_isDot wsX11_isDot) := goodIn_app (goodIn_g ch_wsX11_dotComes_flat gd_wsX11_dotComes _ [(1, 16), (1, 17), (1, 18)] rfl) ggX11_dotComes_X11_isDot
set_option maxRecDepth 20000 in
theorem ggX11_dotComes_X2_add : GoodIn wsX11_dotComes wsX2_add := gcons (goodIn_g ch_wsX11_dotComes_flat gd_wsX11_dotComes _ [(2, 5)] rfl) (goodIn_app (goodIn_g ch_wsX11_dotComes_flat gd_wsX11_dotComes _ [(2, 6), (1, 8), (2, 7), (1, 9), (2, 8), (1, 4), (1, 5), (1, 6), (1, 7)] rfl) (gchunk ch_wsX11_dotComes_flat gd_wsX11_dotComes 5 rfl))
set_option maxRecDepth 20000 in
theorem gX11_dotComes_X2_add : GoodIn wsX11_dotComes (wsV RX11 213 RX2 yX2_add wsX2_add) := goodIn_app (goodIn_g ch_wsX11_dotComes_flat gd_wsX11_dotComes _ [(2, 2), (2, 3), (2, 4), (1, 6)] rfl) ggX11_dotComes_X2_add
set_option maxRecDepth 20000 in
theorem SX11_dotComes : ∀ p : Nat, gb cX11_dotComes p = segF [[42, 180, 0, 33, 182, 0, 233, 154, 0, 16, 42, 180, 0, 82, 27, 28, 6, 182, 0, 237, 154, 0, 5, 3, 172, 42, 180, 0, 82, 180, 0, 240, 27, 50, 28, 47, 136, 62, 42, 180, 0, 82, 180, 0, 240, 27, 50, 28, 4, 96, 47, 136, 54, 4, 42, 180, 0, 82, 180, 0, 240, 27, 50, 28], [5, 96, 47, 136, 54, 5, 29, 21, 4, 21, 5, 184, 0, 210, 154, 0, 5, 3, 172, 42, 180, 0, 33, 29, 21, 4, 21, 5, 182, 0, 213, 87, 4, 172]] p := seg_gb (S := [[42, 180, 0, 33, 182, 0, 233, 154, 0, 16, 42, 180, 0, 82, 27, 28, 6, 182, 0, 237, 154, 0, 5, 3, 172, 42, 180, 0, 82, 180, 0, 240, 27, 50, 28, 47, 136, 62, 42, 180, 0, 82, 180, 0, 240, 27, 50, 28, 4, 96, 47, 136, 54, 4, 42, 180, 0, 82, 180, 0, 240, 27, 50, 28], [5, 96, 47, 136, 54, 5, 29, 21, 4, 21, 5, 184, 0, 210, 154, 0, 5, 3, 172, 42, 180, 0, 33, 29, 21, 4, 21, 5, 182, 0, 213, 87, 4, 172]]) (by decide +kernel) (by decide +kernel)
set_option maxRecDepth 20000 in
theorem BX11_dotComes_1_0 : ∀ q ∈ ([(0, 42), (10, 42), (14, 27), (15, 28), (16, 6), (23, 3), (24, 172), (25, 42), (32, 27), (33, 50), (34, 28), (35, 47)] : List (Nat × Nat)), gb cX11_dotComes q.1 = some q.2 := seg_1 SX11_dotComes _ (by decide +kernel)
set_option maxRecDepth 20000 in
theorem BX11_dotComes_1_1 : ∀ q ∈ ([(36, 136), (37, 62), (38, 42), (45, 27), (46, 50), (47, 28), (48, 4), (49, 96), (50, 47), (51, 136), (54, 42), (61, 27)] : List (Nat × Nat)), gb cX11_dotComes q.1 = some q.2 := seg_1 SX11_dotComes _ (by decide +kernel)
set_option maxRecDepth 20000 in
theorem BX11_dotComes_1_2 : ∀ q ∈ ([(62, 50), (63, 28), (64, 5), (65, 96), (66, 47), (67, 136), (70, 29), (81, 3), (82, 172), (83, 42), (87, 29), (95, 87)] : List (Nat × Nat)), gb cX11_dotComes q.1 = some q.2 := seg_1 SX11_dotComes _ (by decide +kernel)
set_option maxRecDepth 20000 in
theorem BX11_dotComes_1_3 : ∀ q ∈ ([(96, 4), (97, 172)] : List (Nat × Nat)), gb cX11_dotComes q.1 = some q.2 := seg_1 SX11_dotComes _ (by decide +kernel)
set_option maxRecDepth 20000 in
theorem BX11_dotComes_2_0 : ∀ q ∈ ([(52, 54, 4), (68, 54, 5), (71, 21, 4), (73, 21, 5), (88, 21, 4), (90, 21, 5)] : List (Nat × Nat × Nat)), gb cX11_dotComes q.1 = some q.2.1 ∧ gb cX11_dotComes (q.1 + 1) = some q.2.2 := seg_2 SX11_dotComes _ (by decide +kernel)
set_option maxRecDepth 20000 in
theorem BX11_dotComes_3_0 : ∀ q ∈ ([(1, 180, 0, 33), (4, 182, 0, 233), (7, 154, 0, 16), (11, 180, 0, 82), (17, 182, 0, 237), (20, 154, 0, 5), (26, 180, 0, 82), (29, 180, 0, 240), (39, 180, 0, 82), (42, 180, 0, 240), (55, 180, 0, 82), (58, 180, 0, 240)] : List (Nat × Nat × Nat × Nat)), gb cX11_dotComes q.1 = some q.2.1 ∧ gb cX11_dotComes (q.1 + 1) = some q.2.2.1 ∧ gb cX11_dotComes (q.1 + 2) = some q.2.2.2 := seg_3 SX11_dotComes _ (by decide +kernel)
set_option maxRecDepth 20000 in
theorem BX11_dotComes_3_1 : ∀ q ∈ ([(75, 184, 0, 210), (78, 154, 0, 5), (84, 180, 0, 33), (92, 182, 0, 213)] : List (Nat × Nat × Nat × Nat)), gb cX11_dotComes q.1 = some q.2.1 ∧ gb cX11_dotComes (q.1 + 1) = some q.2.2.1 ∧ gb cX11_dotComes (q.1 + 2) = some q.2.2.2 := seg_3 SX11_dotComes _ (by decide +kernel)
theorem dX11_dotComes_0 : decode cX11_dotComes 0 = .ok (.aload_n 0, 1) := dk42 (BX11_dotComes_1_0 (0, 42) (List.mem_of_getElem? (i := 0) rfl))
theorem dX11_dotComes_1 : decode cX11_dotComes 1 = .ok (.getfield 33, 3) := dk180 0 33 (BX11_dotComes_3_0 (1, 180, 0, 33) (List.mem_of_getElem? (i := 0) rfl))
theorem dX11_dotComes_4 : decode cX11_dotComes 4 = .ok (.invokevirtual 233, 3) := dk182 0 233 (BX11_dotComes_3_0 (4, 182, 0, 233) (List.mem_of_getElem? (i := 1) rfl))
theorem dX11_dotComes_7 : decode cX11_dotComes 7 = .ok (.ifCond .ne 16, 3) := dk154 0 16 (BX11_dotComes_3_0 (7, 154, 0, 16) (List.mem_of_getElem? (i := 2) rfl))
theorem dX11_dotComes_10 : decode cX11_dotComes 10 = .ok (.aload_n 0, 1) := dk42 (BX11_dotComes_1_0 (10, 42) (List.mem_of_getElem? (i := 1) rfl))
theorem dX11_dotComes_11 : decode cX11_dotComes 11 = .ok (.getfield 82, 3) := dk180 0 82 (BX11_dotComes_3_0 (11, 180, 0, 82) (List.mem_of_getElem? (i := 3) rfl))
theorem dX11_dotComes_14 : decode cX11_dotComes 14 = .ok (.iload_n 1, 1) := dk27 (BX11_dotComes_1_0 (14, 27) (List.mem_of_getElem? (i := 2) rfl))
theorem dX11_dotComes_15 : decode cX11_dotComes 15 = .ok (.iload_n 2, 1) := dk28 (BX11_dotComes_1_0 (15, 28) (List.mem_of_getElem? (i := 3) rfl))
theorem dX11_dotComes_16 : decode cX11_dotComes 16 = .ok (.iconst 3, 1) := dk6 (BX11_dotComes_1_0 (16, 6) (List.mem_of_getElem? (i := 4) rfl))
theorem dX11_dotComes_17 : decode cX11_dotComes 17 = .ok (.invokevirtual 237, 3) := dk182 0 237 (BX11_dotComes_3_0 (17, 182, 0, 237) (List.mem_of_getElem? (i := 4) rfl))
theorem dX11_dotComes_20 : decode cX11_dotComes 20 = .ok (.ifCond .ne 5, 3) := dk154 0 5 (BX11_dotComes_3_0 (20, 154, 0, 5) (List.mem_of_getElem? (i := 5) rfl))
theorem dX11_dotComes_23 : decode cX11_dotComes 23 = .ok (.iconst 0, 1) := dk3 (BX11_dotComes_1_0 (23, 3) (List.mem_of_getElem? (i := 5) rfl))
theorem dX11_dotComes_24 : decode cX11_dotComes 24 = .ok (.ireturn, 1) := dk172 (BX11_dotComes_1_0 (24, 172) (List.mem_of_getElem? (i := 6) rfl))
theorem dX11_dotComes_25 : decode cX11_dotComes 25 = .ok (.aload_n 0, 1) := dk42 (BX11_dotComes_1_0 (25, 42) (List.mem_of_getElem? (i := 7) rfl))
theorem dX11_dotComes_26 : decode cX11_dotComes 26 = .ok (.getfield 82, 3) := dk180 0 82 (BX11_dotComes_3_0 (26, 180, 0, 82) (List.mem_of_getElem? (i := 6) rfl))
theorem dX11_dotComes_29 : decode cX11_dotComes 29 = .ok (.getfield 240, 3) := dk180 0 240 (BX11_dotComes_3_0 (29, 180, 0, 240) (List.mem_of_getElem? (i := 7) rfl))
theorem dX11_dotComes_32 : decode cX11_dotComes 32 = .ok (.iload_n 1, 1) := dk27 (BX11_dotComes_1_0 (32, 27) (List.mem_of_getElem? (i := 8) rfl))
theorem dX11_dotComes_33 : decode cX11_dotComes 33 = .ok (.aaload, 1) := dk50 (BX11_dotComes_1_0 (33, 50) (List.mem_of_getElem? (i := 9) rfl))
theorem dX11_dotComes_34 : decode cX11_dotComes 34 = .ok (.iload_n 2, 1) := dk28 (BX11_dotComes_1_0 (34, 28) (List.mem_of_getElem? (i := 10) rfl))
theorem dX11_dotComes_35 : decode cX11_dotComes 35 = .ok (.laload, 1) := dk47 (BX11_dotComes_1_0 (35, 47) (List.mem_of_getElem? (i := 11) rfl))
theorem dX11_dotComes_36 : decode cX11_dotComes 36 = .ok (.l2i, 1) := dk136 (BX11_dotComes_1_1 (36, 136) (List.mem_of_getElem? (i := 0) rfl))
theorem dX11_dotComes_37 : decode cX11_dotComes 37 = .ok (.istore_n 3, 1) := dk62 (BX11_dotComes_1_1 (37, 62) (List.mem_of_getElem? (i := 1) rfl))
theorem dX11_dotComes_38 : decode cX11_dotComes 38 = .ok (.aload_n 0, 1) := dk42 (BX11_dotComes_1_1 (38, 42) (List.mem_of_getElem? (i := 2) rfl))
theorem dX11_dotComes_39 : decode cX11_dotComes 39 = .ok (.getfield 82, 3) := dk180 0 82 (BX11_dotComes_3_0 (39, 180, 0, 82) (List.mem_of_getElem? (i := 8) rfl))
theorem dX11_dotComes_42 : decode cX11_dotComes 42 = .ok (.getfield 240, 3) := dk180 0 240 (BX11_dotComes_3_0 (42, 180, 0, 240) (List.mem_of_getElem? (i := 9) rfl))
theorem dX11_dotComes_45 : decode cX11_dotComes 45 = .ok (.iload_n 1, 1) := dk27 (BX11_dotComes_1_1 (45, 27) (List.mem_of_getElem? (i := 3) rfl))
theorem dX11_dotComes_46 : decode cX11_dotComes 46 = .ok (.aaload, 1) := dk50 (BX11_dotComes_1_1 (46, 50) (List.mem_of_getElem? (i := 4) rfl))
theorem dX11_dotComes_47 : decode cX11_dotComes 47 = .ok (.iload_n 2, 1) := dk28 (BX11_dotComes_1_1 (47, 28) (List.mem_of_getElem? (i := 5) rfl))
theorem dX11_dotComes_48 : decode cX11_dotComes 48 = .ok (.iconst 1, 1) := dk4 (BX11_dotComes_1_1 (48, 4) (List.mem_of_getElem? (i := 6) rfl))
theorem dX11_dotComes_49 : decode cX11_dotComes 49 = .ok (.iadd, 1) := dk96 (BX11_dotComes_1_1 (49, 96) (List.mem_of_getElem? (i := 7) rfl))
theorem dX11_dotComes_50 : decode cX11_dotComes 50 = .ok (.laload, 1) := dk47 (BX11_dotComes_1_1 (50, 47) (List.mem_of_getElem? (i := 8) rfl))
theorem dX11_dotComes_51 : decode cX11_dotComes 51 = .ok (.l2i, 1) := dk136 (BX11_dotComes_1_1 (51, 136) (List.mem_of_getElem? (i := 9) rfl))
theorem dX11_dotComes_52 : decode cX11_dotComes 52 = .ok (.istore 4, 2) := dk54 4 (BX11_dotComes_2_0 (52, 54, 4) (List.mem_of_getElem? (i := 0) rfl))
theorem dX11_dotComes_54 : decode cX11_dotComes 54 = .ok (.aload_n 0, 1) := dk42 (BX11_dotComes_1_1 (54, 42) (List.mem_of_getElem? (i := 10) rfl))
theorem dX11_dotComes_55 : decode cX11_dotComes 55 = .ok (.getfield 82, 3) := dk180 0 82 (BX11_dotComes_3_0 (55, 180, 0, 82) (List.mem_of_getElem? (i := 10) rfl))
theorem dX11_dotComes_58 : decode cX11_dotComes 58 = .ok (.getfield 240, 3) := dk180 0 240 (BX11_dotComes_3_0 (58, 180, 0, 240) (List.mem_of_getElem? (i := 11) rfl))
theorem dX11_dotComes_61 : decode cX11_dotComes 61 = .ok (.iload_n 1, 1) := dk27 (BX11_dotComes_1_1 (61, 27) (List.mem_of_getElem? (i := 11) rfl))
theorem dX11_dotComes_62 : decode cX11_dotComes 62 = .ok (.aaload, 1) := dk50 (BX11_dotComes_1_2 (62, 50) (List.mem_of_getElem? (i := 0) rfl))
theorem dX11_dotComes_63 : decode cX11_dotComes 63 = .ok (.iload_n 2, 1) := dk28 (BX11_dotComes_1_2 (63, 28) (List.mem_of_getElem? (i := 1) rfl))
theorem dX11_dotComes_64 : decode cX11_dotComes 64 = .ok (.iconst 2, 1) := dk5 (BX11_dotComes_1_2 (64, 5) (List.mem_of_getElem? (i := 2) rfl))
theorem dX11_dotComes_65 : decode cX11_dotComes 65 = .ok (.iadd, 1) := dk96 (BX11_dotComes_1_2 (65, 96) (List.mem_of_getElem? (i := 3) rfl))
theorem dX11_dotComes_66 : decode cX11_dotComes 66 = .ok (.laload, 1) := dk47 (BX11_dotComes_1_2 (66, 47) (List.mem_of_getElem? (i := 4) rfl))
theorem dX11_dotComes_67 : decode cX11_dotComes 67 = .ok (.l2i, 1) := dk136 (BX11_dotComes_1_2 (67, 136) (List.mem_of_getElem? (i := 5) rfl))
theorem dX11_dotComes_68 : decode cX11_dotComes 68 = .ok (.istore 5, 2) := dk54 5 (BX11_dotComes_2_0 (68, 54, 5) (List.mem_of_getElem? (i := 1) rfl))
theorem dX11_dotComes_70 : decode cX11_dotComes 70 = .ok (.iload_n 3, 1) := dk29 (BX11_dotComes_1_2 (70, 29) (List.mem_of_getElem? (i := 6) rfl))
theorem dX11_dotComes_71 : decode cX11_dotComes 71 = .ok (.iload 4, 2) := dk21 4 (BX11_dotComes_2_0 (71, 21, 4) (List.mem_of_getElem? (i := 2) rfl))
theorem dX11_dotComes_73 : decode cX11_dotComes 73 = .ok (.iload 5, 2) := dk21 5 (BX11_dotComes_2_0 (73, 21, 5) (List.mem_of_getElem? (i := 3) rfl))
theorem dX11_dotComes_75 : decode cX11_dotComes 75 = .ok (.invokestatic 210, 3) := dk184 0 210 (BX11_dotComes_3_1 (75, 184, 0, 210) (List.mem_of_getElem? (i := 0) rfl))
theorem dX11_dotComes_78 : decode cX11_dotComes 78 = .ok (.ifCond .ne 5, 3) := dk154 0 5 (BX11_dotComes_3_1 (78, 154, 0, 5) (List.mem_of_getElem? (i := 1) rfl))
theorem dX11_dotComes_81 : decode cX11_dotComes 81 = .ok (.iconst 0, 1) := dk3 (BX11_dotComes_1_2 (81, 3) (List.mem_of_getElem? (i := 7) rfl))
theorem dX11_dotComes_82 : decode cX11_dotComes 82 = .ok (.ireturn, 1) := dk172 (BX11_dotComes_1_2 (82, 172) (List.mem_of_getElem? (i := 8) rfl))
theorem dX11_dotComes_83 : decode cX11_dotComes 83 = .ok (.aload_n 0, 1) := dk42 (BX11_dotComes_1_2 (83, 42) (List.mem_of_getElem? (i := 9) rfl))
theorem dX11_dotComes_84 : decode cX11_dotComes 84 = .ok (.getfield 33, 3) := dk180 0 33 (BX11_dotComes_3_1 (84, 180, 0, 33) (List.mem_of_getElem? (i := 2) rfl))
theorem dX11_dotComes_87 : decode cX11_dotComes 87 = .ok (.iload_n 3, 1) := dk29 (BX11_dotComes_1_2 (87, 29) (List.mem_of_getElem? (i := 10) rfl))
theorem dX11_dotComes_88 : decode cX11_dotComes 88 = .ok (.iload 4, 2) := dk21 4 (BX11_dotComes_2_0 (88, 21, 4) (List.mem_of_getElem? (i := 4) rfl))
theorem dX11_dotComes_90 : decode cX11_dotComes 90 = .ok (.iload 5, 2) := dk21 5 (BX11_dotComes_2_0 (90, 21, 5) (List.mem_of_getElem? (i := 5) rfl))
theorem dX11_dotComes_92 : decode cX11_dotComes 92 = .ok (.invokevirtual 213, 3) := dk182 0 213 (BX11_dotComes_3_1 (92, 182, 0, 213) (List.mem_of_getElem? (i := 3) rfl))
theorem dX11_dotComes_95 : decode cX11_dotComes 95 = .ok (.pop, 1) := dk87 (BX11_dotComes_1_2 (95, 87) (List.mem_of_getElem? (i := 11) rfl))
theorem dX11_dotComes_96 : decode cX11_dotComes 96 = .ok (.iconst 1, 1) := dk4 (BX11_dotComes_1_3 (96, 4) (List.mem_of_getElem? (i := 0) rfl))
theorem dX11_dotComes_97 : decode cX11_dotComes 97 = .ok (.ireturn, 1) := dk172 (BX11_dotComes_1_3 (97, 172) (List.mem_of_getElem? (i := 1) rfl))
set_option maxRecDepth 20000 in
theorem ggX11_mean_X11_within : GoodIn wsX11_mean wsX11_within := goodIn_r _ [5] rfl (by decide +kernel)
set_option maxRecDepth 20000 in
theorem gX11_mean_X11_within : GoodIn wsX11_mean (va_wsS RX11 113 yX11_within wsX11_within) := goodIn_app (goodIn_r _ [2, 3, 4] rfl (by decide +kernel)) ggX11_mean_X11_within
set_option maxRecDepth 20000 in
theorem ggX11_mean_X2_meanOf : GoodIn wsX11_mean wsX2_meanOf := goodIn_r _ [10, 11, 12, 13, 14, 15, 4, 16, 29, 30, 31, 32, 33, 34, 35, 36] rfl (by decide +kernel)
set_option maxRecDepth 20000 in
theorem gX11_mean_X2_meanOf : GoodIn wsX11_mean (wsV RX11 244 RX2 yX2_meanOf wsX2_meanOf) := goodIn_app (goodIn_r _ [6, 7, 8, 9] rfl (by decide +kernel)) ggX11_mean_X2_meanOf
set_option maxRecDepth 20000 in
theorem SX11_mean : ∀ p : Nat, gb cX11_mean p = segF [[27, 16, 10, 108, 61, 27, 16, 10, 112, 62, 28, 3, 8, 184, 0, 113, 153, 0, 13, 29, 3, 16, 7, 184, 0, 113, 154, 0, 5, 2, 172, 42, 180, 0, 33, 28, 8, 160, 0, 8, 16, 31, 167, 0, 6, 4, 28, 120, 4, 29, 120, 182, 0, 244, 172]] p := seg_gb (S := [[27, 16, 10, 108, 61, 27, 16, 10, 112, 62, 28, 3, 8, 184, 0, 113, 153, 0, 13, 29, 3, 16, 7, 184, 0, 113, 154, 0, 5, 2, 172, 42, 180, 0, 33, 28, 8, 160, 0, 8, 16, 31, 167, 0, 6, 4, 28, 120, 4, 29, 120, 182, 0, 244, 172]]) (by decide +kernel) (by decide +kernel)
set_option maxRecDepth 20000 in
theorem BX11_mean_1_0 : ∀ q ∈ ([(0, 27), (3, 108), (4, 61), (5, 27), (8, 112), (9, 62), (10, 28), (11, 3), (12, 8), (19, 29), (20, 3), (29, 2)] : List (Nat × Nat)), gb cX11_mean q.1 = some q.2 := seg_1 SX11_mean _ (by decide +kernel)
set_option maxRecDepth 20000 in
theorem BX11_mean_1_1 : ∀ q ∈ ([(30, 172), (31, 42), (35, 28), (36, 8), (45, 4), (46, 28), (47, 120), (48, 4), (49, 29), (50, 120), (54, 172)] : List (Nat × Nat)), gb cX11_mean q.1 = some q.2 := seg_1 SX11_mean _ (by decide +kernel)
set_option maxRecDepth 20000 in
theorem BX11_mean_2_0 : ∀ q ∈ ([(1, 16, 10), (6, 16, 10), (21, 16, 7), (40, 16, 31)] : List (Nat × Nat × Nat)), gb cX11_mean q.1 = some q.2.1 ∧ gb cX11_mean (q.1 + 1) = some q.2.2 := seg_2 SX11_mean _ (by decide +kernel)
set_option maxRecDepth 20000 in
theorem BX11_mean_3_0 : ∀ q ∈ ([(13, 184, 0, 113), (16, 153, 0, 13), (23, 184, 0, 113), (26, 154, 0, 5), (32, 180, 0, 33), (37, 160, 0, 8), (42, 167, 0, 6), (51, 182, 0, 244)] : List (Nat × Nat × Nat × Nat)), gb cX11_mean q.1 = some q.2.1 ∧ gb cX11_mean (q.1 + 1) = some q.2.2.1 ∧ gb cX11_mean (q.1 + 2) = some q.2.2.2 := seg_3 SX11_mean _ (by decide +kernel)
theorem dX11_mean_0 : decode cX11_mean 0 = .ok (.iload_n 1, 1) := dk27 (BX11_mean_1_0 (0, 27) (List.mem_of_getElem? (i := 0) rfl))
theorem dX11_mean_1 : decode cX11_mean 1 = .ok (.bipush 10, 2) := dk16 10 (BX11_mean_2_0 (1, 16, 10) (List.mem_of_getElem? (i := 0) rfl))
theorem dX11_mean_3 : decode cX11_mean 3 = .ok (.idiv, 1) := dk108 (BX11_mean_1_0 (3, 108) (List.mem_of_getElem? (i := 1) rfl))
theorem dX11_mean_4 : decode cX11_mean 4 = .ok (.istore_n 2, 1) := dk61 (BX11_mean_1_0 (4, 61) (List.mem_of_getElem? (i := 2) rfl))
theorem dX11_mean_5 : decode cX11_mean 5 = .ok (.iload_n 1, 1) := dk27 (BX11_mean_1_0 (5, 27) (List.mem_of_getElem? (i := 3) rfl))
theorem dX11_mean_6 : decode cX11_mean 6 = .ok (.bipush 10, 2) := dk16 10 (BX11_mean_2_0 (6, 16, 10) (List.mem_of_getElem? (i := 1) rfl))
theorem dX11_mean_8 : decode cX11_mean 8 = .ok (.irem, 1) := dk112 (BX11_mean_1_0 (8, 112) (List.mem_of_getElem? (i := 4) rfl))
theorem dX11_mean_9 : decode cX11_mean 9 = .ok (.istore_n 3, 1) := dk62 (BX11_mean_1_0 (9, 62) (List.mem_of_getElem? (i := 5) rfl))
theorem dX11_mean_10 : decode cX11_mean 10 = .ok (.iload_n 2, 1) := dk28 (BX11_mean_1_0 (10, 28) (List.mem_of_getElem? (i := 6) rfl))
theorem dX11_mean_11 : decode cX11_mean 11 = .ok (.iconst 0, 1) := dk3 (BX11_mean_1_0 (11, 3) (List.mem_of_getElem? (i := 7) rfl))
theorem dX11_mean_12 : decode cX11_mean 12 = .ok (.iconst 5, 1) := dk8 (BX11_mean_1_0 (12, 8) (List.mem_of_getElem? (i := 8) rfl))
theorem dX11_mean_13 : decode cX11_mean 13 = .ok (.invokestatic 113, 3) := dk184 0 113 (BX11_mean_3_0 (13, 184, 0, 113) (List.mem_of_getElem? (i := 0) rfl))
theorem dX11_mean_16 : decode cX11_mean 16 = .ok (.ifCond .eq 13, 3) := dk153 0 13 (BX11_mean_3_0 (16, 153, 0, 13) (List.mem_of_getElem? (i := 1) rfl))
theorem dX11_mean_19 : decode cX11_mean 19 = .ok (.iload_n 3, 1) := dk29 (BX11_mean_1_0 (19, 29) (List.mem_of_getElem? (i := 9) rfl))
theorem dX11_mean_20 : decode cX11_mean 20 = .ok (.iconst 0, 1) := dk3 (BX11_mean_1_0 (20, 3) (List.mem_of_getElem? (i := 10) rfl))
theorem dX11_mean_21 : decode cX11_mean 21 = .ok (.bipush 7, 2) := dk16 7 (BX11_mean_2_0 (21, 16, 7) (List.mem_of_getElem? (i := 2) rfl))
theorem dX11_mean_23 : decode cX11_mean 23 = .ok (.invokestatic 113, 3) := dk184 0 113 (BX11_mean_3_0 (23, 184, 0, 113) (List.mem_of_getElem? (i := 2) rfl))
theorem dX11_mean_26 : decode cX11_mean 26 = .ok (.ifCond .ne 5, 3) := dk154 0 5 (BX11_mean_3_0 (26, 154, 0, 5) (List.mem_of_getElem? (i := 3) rfl))
theorem dX11_mean_29 : decode cX11_mean 29 = .ok (.iconst (-1), 1) := dk2 (BX11_mean_1_0 (29, 2) (List.mem_of_getElem? (i := 11) rfl))
theorem dX11_mean_30 : decode cX11_mean 30 = .ok (.ireturn, 1) := dk172 (BX11_mean_1_1 (30, 172) (List.mem_of_getElem? (i := 0) rfl))
theorem dX11_mean_31 : decode cX11_mean 31 = .ok (.aload_n 0, 1) := dk42 (BX11_mean_1_1 (31, 42) (List.mem_of_getElem? (i := 1) rfl))
theorem dX11_mean_32 : decode cX11_mean 32 = .ok (.getfield 33, 3) := dk180 0 33 (BX11_mean_3_0 (32, 180, 0, 33) (List.mem_of_getElem? (i := 4) rfl))
theorem dX11_mean_35 : decode cX11_mean 35 = .ok (.iload_n 2, 1) := dk28 (BX11_mean_1_1 (35, 28) (List.mem_of_getElem? (i := 2) rfl))
theorem dX11_mean_36 : decode cX11_mean 36 = .ok (.iconst 5, 1) := dk8 (BX11_mean_1_1 (36, 8) (List.mem_of_getElem? (i := 3) rfl))
theorem dX11_mean_37 : decode cX11_mean 37 = .ok (.if_icmp .ne 8, 3) := dk160 0 8 (BX11_mean_3_0 (37, 160, 0, 8) (List.mem_of_getElem? (i := 5) rfl))
theorem dX11_mean_40 : decode cX11_mean 40 = .ok (.bipush 31, 2) := dk16 31 (BX11_mean_2_0 (40, 16, 31) (List.mem_of_getElem? (i := 3) rfl))
theorem dX11_mean_42 : decode cX11_mean 42 = .ok (.goto 6, 3) := dk167 0 6 (BX11_mean_3_0 (42, 167, 0, 6) (List.mem_of_getElem? (i := 6) rfl))
theorem dX11_mean_45 : decode cX11_mean 45 = .ok (.iconst 1, 1) := dk4 (BX11_mean_1_1 (45, 4) (List.mem_of_getElem? (i := 4) rfl))
theorem dX11_mean_46 : decode cX11_mean 46 = .ok (.iload_n 2, 1) := dk28 (BX11_mean_1_1 (46, 28) (List.mem_of_getElem? (i := 5) rfl))
theorem dX11_mean_47 : decode cX11_mean 47 = .ok (.ishl, 1) := dk120 (BX11_mean_1_1 (47, 120) (List.mem_of_getElem? (i := 6) rfl))
theorem dX11_mean_48 : decode cX11_mean 48 = .ok (.iconst 1, 1) := dk4 (BX11_mean_1_1 (48, 4) (List.mem_of_getElem? (i := 7) rfl))
theorem dX11_mean_49 : decode cX11_mean 49 = .ok (.iload_n 3, 1) := dk29 (BX11_mean_1_1 (49, 29) (List.mem_of_getElem? (i := 8) rfl))
theorem dX11_mean_50 : decode cX11_mean 50 = .ok (.ishl, 1) := dk120 (BX11_mean_1_1 (50, 120) (List.mem_of_getElem? (i := 9) rfl))
theorem dX11_mean_51 : decode cX11_mean 51 = .ok (.invokevirtual 244, 3) := dk182 0 244 (BX11_mean_3_0 (51, 182, 0, 244) (List.mem_of_getElem? (i := 7) rfl))
theorem dX11_mean_54 : decode cX11_mean 54 = .ok (.ireturn, 1) := dk172 (BX11_mean_1_1 (54, 172) (List.mem_of_getElem? (i := 10) rfl))
set_option maxRecDepth 20000 in
theorem ggX11_odd_X11_within : GoodIn wsX11_odd wsX11_within := goodIn_g ch_wsX11_odd_flat gd_wsX11_odd _ [(1, 4)] rfl
set_option maxRecDepth 20000 in
theorem gX11_odd_X11_within : GoodIn wsX11_odd (va_wsS RX11 113 yX11_within wsX11_within) := goodIn_app (goodIn_g ch_wsX11_odd_flat gd_wsX11_odd _ [(1, 1), (1, 2), (1, 3)] rfl) ggX11_odd_X11_within
set_option maxRecDepth 20000 in
theorem ggX11_odd_X2_oddOnes : GoodIn wsX11_odd wsX2_oddOnes := gcons (goodIn_g ch_wsX11_odd_flat gd_wsX11_odd _ [(1, 9)] rfl) (goodIn_app (goodIn_g ch_wsX11_odd_flat gd_wsX11_odd _ [(1, 10), (1, 11), (1, 12), (1, 13), (1, 14), (1, 15), (1, 16), (1, 17), (1, 3), (1, 18)] rfl) (gchunk ch_wsX11_odd_flat gd_wsX11_odd 3 rfl))
set_option maxRecDepth 20000 in
theorem gX11_odd_X2_oddOnes : GoodIn wsX11_odd (wsV RX11 247 RX2 yX2_oddOnes wsX2_oddOnes) := goodIn_app (goodIn_g ch_wsX11_odd_flat gd_wsX11_odd _ [(1, 5), (1, 6), (1, 7), (1, 8)] rfl) ggX11_odd_X2_oddOnes
set_option maxRecDepth 20000 in
theorem SX11_odd : ∀ p : Nat, gb cX11_odd p = segF [[27, 3, 16, 6, 184, 0, 113, 154, 0, 5, 2, 172, 42, 180, 0, 33, 27, 182, 0, 247, 172]] p := seg_gb (S := [[27, 3, 16, 6, 184, 0, 113, 154, 0, 5, 2, 172, 42, 180, 0, 33, 27, 182, 0, 247, 172]]) (by decide +kernel) (by decide +kernel)
set_option maxRecDepth 20000 in
theorem BX11_odd_1_0 : ∀ q ∈ ([(0, 27), (1, 3), (10, 2), (11, 172), (12, 42), (16, 27), (20, 172)] : List (Nat × Nat)), gb cX11_odd q.1 = some q.2 := seg_1 SX11_odd _ (by decide +kernel)
set_option maxRecDepth 20000 in
theorem BX11_odd_2_0 : ∀ q ∈ ([(2, 16, 6)] : List (Nat × Nat × Nat)), gb cX11_odd q.1 = some q.2.1 ∧ gb cX11_odd (q.1 + 1) = some q.2.2 := seg_2 SX11_odd _ (by decide +kernel)
set_option maxRecDepth 20000 in
theorem BX11_odd_3_0 : ∀ q ∈ ([(4, 184, 0, 113), (7, 154, 0, 5), (13, 180, 0, 33), (17, 182, 0, 247)] : List (Nat × Nat × Nat × Nat)), gb cX11_odd q.1 = some q.2.1 ∧ gb cX11_odd (q.1 + 1) = some q.2.2.1 ∧ gb cX11_odd (q.1 + 2) = some q.2.2.2 := seg_3 SX11_odd _ (by decide +kernel)
theorem dX11_odd_0 : decode cX11_odd 0 = .ok (.iload_n 1, 1) := dk27 (BX11_odd_1_0 (0, 27) (List.mem_of_getElem? (i := 0) rfl))
theorem dX11_odd_1 : decode cX11_odd 1 = .ok (.iconst 0, 1) := dk3 (BX11_odd_1_0 (1, 3) (List.mem_of_getElem? (i := 1) rfl))
theorem dX11_odd_2 : decode cX11_odd 2 = .ok (.bipush 6, 2) := dk16 6 (BX11_odd_2_0 (2, 16, 6) (List.mem_of_getElem? (i := 0) rfl))
theorem dX11_odd_4 : decode cX11_odd 4 = .ok (.invokestatic 113, 3) := dk184 0 113 (BX11_odd_3_0 (4, 184, 0, 113) (List.mem_of_getElem? (i := 0) rfl))
theorem dX11_odd_7 : decode cX11_odd 7 = .ok (.ifCond .ne 5, 3) := dk154 0 5 (BX11_odd_3_0 (7, 154, 0, 5) (List.mem_of_getElem? (i := 1) rfl))
theorem dX11_odd_10 : decode cX11_odd 10 = .ok (.iconst (-1), 1) := dk2 (BX11_odd_1_0 (10, 2) (List.mem_of_getElem? (i := 2) rfl))
theorem dX11_odd_11 : decode cX11_odd 11 = .ok (.ireturn, 1) := dk172 (BX11_odd_1_0 (11, 172) (List.mem_of_getElem? (i := 3) rfl))
theorem dX11_odd_12 : decode cX11_odd 12 = .ok (.aload_n 0, 1) := dk42 (BX11_odd_1_0 (12, 42) (List.mem_of_getElem? (i := 4) rfl))
theorem dX11_odd_13 : decode cX11_odd 13 = .ok (.getfield 33, 3) := dk180 0 33 (BX11_odd_3_0 (13, 180, 0, 33) (List.mem_of_getElem? (i := 2) rfl))
theorem dX11_odd_16 : decode cX11_odd 16 = .ok (.iload_n 1, 1) := dk27 (BX11_odd_1_0 (16, 27) (List.mem_of_getElem? (i := 5) rfl))
theorem dX11_odd_17 : decode cX11_odd 17 = .ok (.invokevirtual 247, 3) := dk182 0 247 (BX11_odd_3_0 (17, 182, 0, 247) (List.mem_of_getElem? (i := 3) rfl))
theorem dX11_odd_20 : decode cX11_odd 20 = .ok (.ireturn, 1) := dk172 (BX11_odd_1_0 (20, 172) (List.mem_of_getElem? (i := 6) rfl))
set_option maxRecDepth 20000 in
theorem ggX11_chance_X11_within : GoodIn wsX11_chance wsX11_within := goodIn_g ch_wsX11_chance_flat gd_wsX11_chance _ [(1, 4)] rfl
set_option maxRecDepth 20000 in
theorem gX11_chance_X11_within : GoodIn wsX11_chance (va_wsS RX11 113 yX11_within wsX11_within) := goodIn_app (goodIn_g ch_wsX11_chance_flat gd_wsX11_chance _ [(1, 1), (1, 2), (1, 3)] rfl) ggX11_chance_X11_within
set_option maxRecDepth 20000 in
theorem ggX11_chance_X2_howMany : GoodIn wsX11_chance wsX2_howMany := gcons (goodIn_g ch_wsX11_chance_flat gd_wsX11_chance _ [(1, 9)] rfl) (goodIn_app (goodIn_g ch_wsX11_chance_flat gd_wsX11_chance _ [(1, 10), (1, 11), (1, 12), (1, 3), (1, 13)] rfl) (gchunk ch_wsX11_chance_flat gd_wsX11_chance 4 rfl))
set_option maxRecDepth 20000 in
theorem gX11_chance_X2_howMany : GoodIn wsX11_chance (wsV RX11 250 RX2 yX2_howMany wsX2_howMany) := goodIn_app (goodIn_g ch_wsX11_chance_flat gd_wsX11_chance _ [(1, 5), (1, 6), (1, 7), (1, 8)] rfl) ggX11_chance_X2_howMany
set_option maxRecDepth 20000 in
theorem ggX11_chance_X2_byChance : GoodIn wsX11_chance wsX2_byChance := gcons (goodIn_g ch_wsX11_chance_flat gd_wsX11_chance _ [(1, 17)] rfl) (goodIn_app (goodIn_g ch_wsX11_chance_flat gd_wsX11_chance _ [(1, 18), (1, 19), (1, 20), (1, 8), (1, 21), (1, 10), (1, 11), (1, 22), (1, 23), (2, 0), (2, 1), (2, 2), (2, 3), (2, 4), (2, 5), (2, 6), (2, 7), (2, 8), (2, 9), (1, 3), (2, 10), (2, 11), (1, 12), (1, 13)] rfl) (gchunk ch_wsX11_chance_flat gd_wsX11_chance 4 rfl))
set_option maxRecDepth 20000 in
theorem gX11_chance_X2_byChance : GoodIn wsX11_chance (wsV RX11 252 RX2 yX2_byChance wsX2_byChance) := goodIn_app (goodIn_g ch_wsX11_chance_flat gd_wsX11_chance _ [(1, 14), (1, 15), (1, 16), (1, 8)] rfl) ggX11_chance_X2_byChance
set_option maxRecDepth 20000 in
theorem SX11_chance : ∀ p : Nat, gb cX11_chance p = segF [[27, 3, 16, 6, 184, 0, 113, 153, 0, 13, 29, 4, 16, 50, 184, 0, 113, 154, 0, 5, 2, 172, 42, 180, 0, 33, 27, 182, 0, 250, 153, 0, 15, 42, 180, 0, 33, 16, 7, 182, 0, 250, 154, 0, 6, 16, 254, 172, 42, 180, 0, 33, 27, 28, 29, 182, 0, 252, 172]] p := seg_gb (S := [[27, 3, 16, 6, 184, 0, 113, 153, 0, 13, 29, 4, 16, 50, 184, 0, 113, 154, 0, 5, 2, 172, 42, 180, 0, 33, 27, 182, 0, 250, 153, 0, 15, 42, 180, 0, 33, 16, 7, 182, 0, 250, 154, 0, 6, 16, 254, 172, 42, 180, 0, 33, 27, 28, 29, 182, 0, 252, 172]]) (by decide +kernel) (by decide +kernel)
set_option maxRecDepth 20000 in
theorem BX11_chance_1_0 : ∀ q ∈ ([(0, 27), (1, 3), (10, 29), (11, 4), (20, 2), (21, 172), (22, 42), (26, 27), (33, 42), (47, 172), (48, 42), (52, 27)] : List (Nat × Nat)), gb cX11_chance q.1 = some q.2 := seg_1 SX11_chance _ (by decide +kernel)
set_option maxRecDepth 20000 in
theorem BX11_chance_1_1 : ∀ q ∈ ([(53, 28), (54, 29), (58, 172)] : List (Nat × Nat)), gb cX11_chance q.1 = some q.2 := seg_1 SX11_chance _ (by decide +kernel)
set_option maxRecDepth 20000 in
theorem BX11_chance_2_0 : ∀ q ∈ ([(2, 16, 6), (12, 16, 50), (37, 16, 7), (45, 16, 254)] : List (Nat × Nat × Nat)), gb cX11_chance q.1 = some q.2.1 ∧ gb cX11_chance (q.1 + 1) = some q.2.2 := seg_2 SX11_chance _ (by decide +kernel)
set_option maxRecDepth 20000 in
theorem BX11_chance_3_0 : ∀ q ∈ ([(4, 184, 0, 113), (7, 153, 0, 13), (14, 184, 0, 113), (17, 154, 0, 5), (23, 180, 0, 33), (27, 182, 0, 250), (30, 153, 0, 15), (34, 180, 0, 33), (39, 182, 0, 250), (42, 154, 0, 6), (49, 180, 0, 33), (55, 182, 0, 252)] : List (Nat × Nat × Nat × Nat)), gb cX11_chance q.1 = some q.2.1 ∧ gb cX11_chance (q.1 + 1) = some q.2.2.1 ∧ gb cX11_chance (q.1 + 2) = some q.2.2.2 := seg_3 SX11_chance _ (by decide +kernel)
theorem dX11_chance_0 : decode cX11_chance 0 = .ok (.iload_n 1, 1) := dk27 (BX11_chance_1_0 (0, 27) (List.mem_of_getElem? (i := 0) rfl))
theorem dX11_chance_1 : decode cX11_chance 1 = .ok (.iconst 0, 1) := dk3 (BX11_chance_1_0 (1, 3) (List.mem_of_getElem? (i := 1) rfl))
theorem dX11_chance_2 : decode cX11_chance 2 = .ok (.bipush 6, 2) := dk16 6 (BX11_chance_2_0 (2, 16, 6) (List.mem_of_getElem? (i := 0) rfl))
theorem dX11_chance_4 : decode cX11_chance 4 = .ok (.invokestatic 113, 3) := dk184 0 113 (BX11_chance_3_0 (4, 184, 0, 113) (List.mem_of_getElem? (i := 0) rfl))
theorem dX11_chance_7 : decode cX11_chance 7 = .ok (.ifCond .eq 13, 3) := dk153 0 13 (BX11_chance_3_0 (7, 153, 0, 13) (List.mem_of_getElem? (i := 1) rfl))
theorem dX11_chance_10 : decode cX11_chance 10 = .ok (.iload_n 3, 1) := dk29 (BX11_chance_1_0 (10, 29) (List.mem_of_getElem? (i := 2) rfl))
theorem dX11_chance_11 : decode cX11_chance 11 = .ok (.iconst 1, 1) := dk4 (BX11_chance_1_0 (11, 4) (List.mem_of_getElem? (i := 3) rfl))
theorem dX11_chance_12 : decode cX11_chance 12 = .ok (.bipush 50, 2) := dk16 50 (BX11_chance_2_0 (12, 16, 50) (List.mem_of_getElem? (i := 1) rfl))
theorem dX11_chance_14 : decode cX11_chance 14 = .ok (.invokestatic 113, 3) := dk184 0 113 (BX11_chance_3_0 (14, 184, 0, 113) (List.mem_of_getElem? (i := 2) rfl))
theorem dX11_chance_17 : decode cX11_chance 17 = .ok (.ifCond .ne 5, 3) := dk154 0 5 (BX11_chance_3_0 (17, 154, 0, 5) (List.mem_of_getElem? (i := 3) rfl))
theorem dX11_chance_20 : decode cX11_chance 20 = .ok (.iconst (-1), 1) := dk2 (BX11_chance_1_0 (20, 2) (List.mem_of_getElem? (i := 4) rfl))
theorem dX11_chance_21 : decode cX11_chance 21 = .ok (.ireturn, 1) := dk172 (BX11_chance_1_0 (21, 172) (List.mem_of_getElem? (i := 5) rfl))
theorem dX11_chance_22 : decode cX11_chance 22 = .ok (.aload_n 0, 1) := dk42 (BX11_chance_1_0 (22, 42) (List.mem_of_getElem? (i := 6) rfl))
theorem dX11_chance_23 : decode cX11_chance 23 = .ok (.getfield 33, 3) := dk180 0 33 (BX11_chance_3_0 (23, 180, 0, 33) (List.mem_of_getElem? (i := 4) rfl))
theorem dX11_chance_26 : decode cX11_chance 26 = .ok (.iload_n 1, 1) := dk27 (BX11_chance_1_0 (26, 27) (List.mem_of_getElem? (i := 7) rfl))
theorem dX11_chance_27 : decode cX11_chance 27 = .ok (.invokevirtual 250, 3) := dk182 0 250 (BX11_chance_3_0 (27, 182, 0, 250) (List.mem_of_getElem? (i := 5) rfl))
theorem dX11_chance_30 : decode cX11_chance 30 = .ok (.ifCond .eq 15, 3) := dk153 0 15 (BX11_chance_3_0 (30, 153, 0, 15) (List.mem_of_getElem? (i := 6) rfl))
theorem dX11_chance_33 : decode cX11_chance 33 = .ok (.aload_n 0, 1) := dk42 (BX11_chance_1_0 (33, 42) (List.mem_of_getElem? (i := 8) rfl))
theorem dX11_chance_34 : decode cX11_chance 34 = .ok (.getfield 33, 3) := dk180 0 33 (BX11_chance_3_0 (34, 180, 0, 33) (List.mem_of_getElem? (i := 7) rfl))
theorem dX11_chance_37 : decode cX11_chance 37 = .ok (.bipush 7, 2) := dk16 7 (BX11_chance_2_0 (37, 16, 7) (List.mem_of_getElem? (i := 2) rfl))
theorem dX11_chance_39 : decode cX11_chance 39 = .ok (.invokevirtual 250, 3) := dk182 0 250 (BX11_chance_3_0 (39, 182, 0, 250) (List.mem_of_getElem? (i := 8) rfl))
theorem dX11_chance_42 : decode cX11_chance 42 = .ok (.ifCond .ne 6, 3) := dk154 0 6 (BX11_chance_3_0 (42, 154, 0, 6) (List.mem_of_getElem? (i := 9) rfl))
theorem dX11_chance_45 : decode cX11_chance 45 = .ok (.bipush (-2), 2) := dk16 254 (BX11_chance_2_0 (45, 16, 254) (List.mem_of_getElem? (i := 3) rfl))
theorem dX11_chance_47 : decode cX11_chance 47 = .ok (.ireturn, 1) := dk172 (BX11_chance_1_0 (47, 172) (List.mem_of_getElem? (i := 9) rfl))
theorem dX11_chance_48 : decode cX11_chance 48 = .ok (.aload_n 0, 1) := dk42 (BX11_chance_1_0 (48, 42) (List.mem_of_getElem? (i := 10) rfl))
theorem dX11_chance_49 : decode cX11_chance 49 = .ok (.getfield 33, 3) := dk180 0 33 (BX11_chance_3_0 (49, 180, 0, 33) (List.mem_of_getElem? (i := 10) rfl))
theorem dX11_chance_52 : decode cX11_chance 52 = .ok (.iload_n 1, 1) := dk27 (BX11_chance_1_0 (52, 27) (List.mem_of_getElem? (i := 11) rfl))
theorem dX11_chance_53 : decode cX11_chance 53 = .ok (.iload_n 2, 1) := dk28 (BX11_chance_1_1 (53, 28) (List.mem_of_getElem? (i := 0) rfl))
theorem dX11_chance_54 : decode cX11_chance 54 = .ok (.iload_n 3, 1) := dk29 (BX11_chance_1_1 (54, 29) (List.mem_of_getElem? (i := 1) rfl))
theorem dX11_chance_55 : decode cX11_chance 55 = .ok (.invokevirtual 252, 3) := dk182 0 252 (BX11_chance_3_0 (55, 182, 0, 252) (List.mem_of_getElem? (i := 11) rfl))
theorem dX11_chance_58 : decode cX11_chance 58 = .ok (.ireturn, 1) := dk172 (BX11_chance_1_1 (58, 172) (List.mem_of_getElem? (i := 2) rfl))
set_option maxRecDepth 20000 in
theorem ggX11_chosen_X11_within : GoodIn wsX11_chosen wsX11_within := goodIn_r _ [6] rfl (by decide +kernel)
set_option maxRecDepth 20000 in
theorem gX11_chosen_X11_within : GoodIn wsX11_chosen (va_wsS RX11 113 yX11_within wsX11_within) := goodIn_app (goodIn_r _ [3, 4, 5] rfl (by decide +kernel)) ggX11_chosen_X11_within
set_option maxRecDepth 20000 in
theorem ggX11_chosen_X2_meanOf : GoodIn wsX11_chosen wsX2_meanOf := goodIn_r _ [11, 12, 13, 14, 15, 16, 5, 17, 30, 31, 32, 33, 34, 35, 36, 37] rfl (by decide +kernel)
set_option maxRecDepth 20000 in
theorem gX11_chosen_X2_meanOf : GoodIn wsX11_chosen (wsV RX11 244 RX2 yX2_meanOf wsX2_meanOf) := goodIn_app (goodIn_r _ [7, 8, 9, 10] rfl (by decide +kernel)) ggX11_chosen_X2_meanOf
set_option maxRecDepth 20000 in
theorem SX11_chosen : ∀ p : Nat, gb cX11_chosen p = segF [[27, 3, 7, 184, 0, 113, 154, 0, 6, 18, 255, 172, 42, 180, 0, 33, 4, 27, 120, 16, 63, 182, 0, 244, 61, 42, 180, 0, 33, 16, 31, 4, 27, 120, 2, 130, 126, 16, 63, 182, 0, 244, 62, 28, 16, 254, 159, 0, 9, 29, 16, 254, 160, 0, 8, 18, 255, 167, 0, 6, 28, 29, 100, 172]] p := seg_gb (S := [[27, 3, 7, 184, 0, 113, 154, 0, 6, 18, 255, 172, 42, 180, 0, 33, 4, 27, 120, 16, 63, 182, 0, 244, 61, 42, 180, 0, 33, 16, 31, 4, 27, 120, 2, 130, 126, 16, 63, 182, 0, 244, 62, 28, 16, 254, 159, 0, 9, 29, 16, 254, 160, 0, 8, 18, 255, 167, 0, 6, 28, 29, 100, 172]]) (by decide +kernel) (by decide +kernel)
set_option maxRecDepth 20000 in
theorem BX11_chosen_1_0 : ∀ q ∈ ([(0, 27), (1, 3), (2, 7), (11, 172), (12, 42), (16, 4), (17, 27), (18, 120), (24, 61), (25, 42), (31, 4), (32, 27)] : List (Nat × Nat)), gb cX11_chosen q.1 = some q.2 := seg_1 SX11_chosen _ (by decide +kernel)
set_option maxRecDepth 20000 in
theorem BX11_chosen_1_1 : ∀ q ∈ ([(33, 120), (34, 2), (35, 130), (36, 126), (42, 62), (43, 28), (49, 29), (60, 28), (61, 29), (62, 100), (63, 172)] : List (Nat × Nat)), gb cX11_chosen q.1 = some q.2 := seg_1 SX11_chosen _ (by decide +kernel)
set_option maxRecDepth 20000 in
theorem BX11_chosen_2_0 : ∀ q ∈ ([(9, 18, 255), (19, 16, 63), (29, 16, 31), (37, 16, 63), (44, 16, 254), (50, 16, 254), (55, 18, 255)] : List (Nat × Nat × Nat)), gb cX11_chosen q.1 = some q.2.1 ∧ gb cX11_chosen (q.1 + 1) = some q.2.2 := seg_2 SX11_chosen _ (by decide +kernel)
set_option maxRecDepth 20000 in
theorem BX11_chosen_3_0 : ∀ q ∈ ([(3, 184, 0, 113), (6, 154, 0, 6), (13, 180, 0, 33), (21, 182, 0, 244), (26, 180, 0, 33), (39, 182, 0, 244), (46, 159, 0, 9), (52, 160, 0, 8), (57, 167, 0, 6)] : List (Nat × Nat × Nat × Nat)), gb cX11_chosen q.1 = some q.2.1 ∧ gb cX11_chosen (q.1 + 1) = some q.2.2.1 ∧ gb cX11_chosen (q.1 + 2) = some q.2.2.2 := seg_3 SX11_chosen _ (by decide +kernel)
theorem dX11_chosen_0 : decode cX11_chosen 0 = .ok (.iload_n 1, 1) := dk27 (BX11_chosen_1_0 (0, 27) (List.mem_of_getElem? (i := 0) rfl))
theorem dX11_chosen_1 : decode cX11_chosen 1 = .ok (.iconst 0, 1) := dk3 (BX11_chosen_1_0 (1, 3) (List.mem_of_getElem? (i := 1) rfl))
theorem dX11_chosen_2 : decode cX11_chosen 2 = .ok (.iconst 4, 1) := dk7 (BX11_chosen_1_0 (2, 7) (List.mem_of_getElem? (i := 2) rfl))
theorem dX11_chosen_3 : decode cX11_chosen 3 = .ok (.invokestatic 113, 3) := dk184 0 113 (BX11_chosen_3_0 (3, 184, 0, 113) (List.mem_of_getElem? (i := 0) rfl))
theorem dX11_chosen_6 : decode cX11_chosen 6 = .ok (.ifCond .ne 6, 3) := dk154 0 6 (BX11_chosen_3_0 (6, 154, 0, 6) (List.mem_of_getElem? (i := 1) rfl))
theorem dX11_chosen_9 : decode cX11_chosen 9 = .ok (.ldc 255, 2) := dk18 255 (BX11_chosen_2_0 (9, 18, 255) (List.mem_of_getElem? (i := 0) rfl))
theorem dX11_chosen_11 : decode cX11_chosen 11 = .ok (.ireturn, 1) := dk172 (BX11_chosen_1_0 (11, 172) (List.mem_of_getElem? (i := 3) rfl))
theorem dX11_chosen_12 : decode cX11_chosen 12 = .ok (.aload_n 0, 1) := dk42 (BX11_chosen_1_0 (12, 42) (List.mem_of_getElem? (i := 4) rfl))
theorem dX11_chosen_13 : decode cX11_chosen 13 = .ok (.getfield 33, 3) := dk180 0 33 (BX11_chosen_3_0 (13, 180, 0, 33) (List.mem_of_getElem? (i := 2) rfl))
theorem dX11_chosen_16 : decode cX11_chosen 16 = .ok (.iconst 1, 1) := dk4 (BX11_chosen_1_0 (16, 4) (List.mem_of_getElem? (i := 5) rfl))
theorem dX11_chosen_17 : decode cX11_chosen 17 = .ok (.iload_n 1, 1) := dk27 (BX11_chosen_1_0 (17, 27) (List.mem_of_getElem? (i := 6) rfl))
theorem dX11_chosen_18 : decode cX11_chosen 18 = .ok (.ishl, 1) := dk120 (BX11_chosen_1_0 (18, 120) (List.mem_of_getElem? (i := 7) rfl))
theorem dX11_chosen_19 : decode cX11_chosen 19 = .ok (.bipush 63, 2) := dk16 63 (BX11_chosen_2_0 (19, 16, 63) (List.mem_of_getElem? (i := 1) rfl))
theorem dX11_chosen_21 : decode cX11_chosen 21 = .ok (.invokevirtual 244, 3) := dk182 0 244 (BX11_chosen_3_0 (21, 182, 0, 244) (List.mem_of_getElem? (i := 3) rfl))
theorem dX11_chosen_24 : decode cX11_chosen 24 = .ok (.istore_n 2, 1) := dk61 (BX11_chosen_1_0 (24, 61) (List.mem_of_getElem? (i := 8) rfl))
theorem dX11_chosen_25 : decode cX11_chosen 25 = .ok (.aload_n 0, 1) := dk42 (BX11_chosen_1_0 (25, 42) (List.mem_of_getElem? (i := 9) rfl))
theorem dX11_chosen_26 : decode cX11_chosen 26 = .ok (.getfield 33, 3) := dk180 0 33 (BX11_chosen_3_0 (26, 180, 0, 33) (List.mem_of_getElem? (i := 4) rfl))
theorem dX11_chosen_29 : decode cX11_chosen 29 = .ok (.bipush 31, 2) := dk16 31 (BX11_chosen_2_0 (29, 16, 31) (List.mem_of_getElem? (i := 2) rfl))
theorem dX11_chosen_31 : decode cX11_chosen 31 = .ok (.iconst 1, 1) := dk4 (BX11_chosen_1_0 (31, 4) (List.mem_of_getElem? (i := 10) rfl))
theorem dX11_chosen_32 : decode cX11_chosen 32 = .ok (.iload_n 1, 1) := dk27 (BX11_chosen_1_0 (32, 27) (List.mem_of_getElem? (i := 11) rfl))
theorem dX11_chosen_33 : decode cX11_chosen 33 = .ok (.ishl, 1) := dk120 (BX11_chosen_1_1 (33, 120) (List.mem_of_getElem? (i := 0) rfl))
theorem dX11_chosen_34 : decode cX11_chosen 34 = .ok (.iconst (-1), 1) := dk2 (BX11_chosen_1_1 (34, 2) (List.mem_of_getElem? (i := 1) rfl))
theorem dX11_chosen_35 : decode cX11_chosen 35 = .ok (.ixor, 1) := dk130 (BX11_chosen_1_1 (35, 130) (List.mem_of_getElem? (i := 2) rfl))
theorem dX11_chosen_36 : decode cX11_chosen 36 = .ok (.iand, 1) := dk126 (BX11_chosen_1_1 (36, 126) (List.mem_of_getElem? (i := 3) rfl))
theorem dX11_chosen_37 : decode cX11_chosen 37 = .ok (.bipush 63, 2) := dk16 63 (BX11_chosen_2_0 (37, 16, 63) (List.mem_of_getElem? (i := 3) rfl))
theorem dX11_chosen_39 : decode cX11_chosen 39 = .ok (.invokevirtual 244, 3) := dk182 0 244 (BX11_chosen_3_0 (39, 182, 0, 244) (List.mem_of_getElem? (i := 5) rfl))
theorem dX11_chosen_42 : decode cX11_chosen 42 = .ok (.istore_n 3, 1) := dk62 (BX11_chosen_1_1 (42, 62) (List.mem_of_getElem? (i := 4) rfl))
theorem dX11_chosen_43 : decode cX11_chosen 43 = .ok (.iload_n 2, 1) := dk28 (BX11_chosen_1_1 (43, 28) (List.mem_of_getElem? (i := 5) rfl))
theorem dX11_chosen_44 : decode cX11_chosen 44 = .ok (.bipush (-2), 2) := dk16 254 (BX11_chosen_2_0 (44, 16, 254) (List.mem_of_getElem? (i := 4) rfl))
theorem dX11_chosen_46 : decode cX11_chosen 46 = .ok (.if_icmp .eq 9, 3) := dk159 0 9 (BX11_chosen_3_0 (46, 159, 0, 9) (List.mem_of_getElem? (i := 6) rfl))
theorem dX11_chosen_49 : decode cX11_chosen 49 = .ok (.iload_n 3, 1) := dk29 (BX11_chosen_1_1 (49, 29) (List.mem_of_getElem? (i := 6) rfl))
theorem dX11_chosen_50 : decode cX11_chosen 50 = .ok (.bipush (-2), 2) := dk16 254 (BX11_chosen_2_0 (50, 16, 254) (List.mem_of_getElem? (i := 5) rfl))
theorem dX11_chosen_52 : decode cX11_chosen 52 = .ok (.if_icmp .ne 8, 3) := dk160 0 8 (BX11_chosen_3_0 (52, 160, 0, 8) (List.mem_of_getElem? (i := 7) rfl))
theorem dX11_chosen_55 : decode cX11_chosen 55 = .ok (.ldc 255, 2) := dk18 255 (BX11_chosen_2_0 (55, 18, 255) (List.mem_of_getElem? (i := 6) rfl))
theorem dX11_chosen_57 : decode cX11_chosen 57 = .ok (.goto 6, 3) := dk167 0 6 (BX11_chosen_3_0 (57, 167, 0, 6) (List.mem_of_getElem? (i := 8) rfl))
theorem dX11_chosen_60 : decode cX11_chosen 60 = .ok (.iload_n 2, 1) := dk28 (BX11_chosen_1_1 (60, 28) (List.mem_of_getElem? (i := 7) rfl))
theorem dX11_chosen_61 : decode cX11_chosen 61 = .ok (.iload_n 3, 1) := dk29 (BX11_chosen_1_1 (61, 29) (List.mem_of_getElem? (i := 8) rfl))
theorem dX11_chosen_62 : decode cX11_chosen 62 = .ok (.isub, 1) := dk100 (BX11_chosen_1_1 (62, 100) (List.mem_of_getElem? (i := 9) rfl))
theorem dX11_chosen_63 : decode cX11_chosen 63 = .ok (.ireturn, 1) := dk172 (BX11_chosen_1_1 (63, 172) (List.mem_of_getElem? (i := 10) rfl))
set_option maxRecDepth 20000 in
theorem ggX11_made_X11_within : GoodIn wsX11_made wsX11_within := goodIn_r _ [7] rfl (by decide +kernel)
set_option maxRecDepth 20000 in
theorem gX11_made_X11_within : GoodIn wsX11_made (va_wsS RX11 113 yX11_within wsX11_within) := goodIn_app (goodIn_r _ [4, 5, 6] rfl (by decide +kernel)) ggX11_made_X11_within
set_option maxRecDepth 20000 in
theorem ggX11_made_X11_isStuff : GoodIn wsX11_made wsX11_isStuff := goodIn_r _ [10, 4, 5, 6, 7] rfl (by decide +kernel)
set_option maxRecDepth 20000 in
theorem gX11_made_X11_isStuff : GoodIn wsX11_made (va_wsS RX11 218 yX11_isStuff wsX11_isStuff) := goodIn_app (goodIn_r _ [8, 9, 6] rfl (by decide +kernel)) ggX11_made_X11_isStuff
set_option maxRecDepth 20000 in
theorem SX11_made : ∀ p : Nat, gb cX11_made p = segF [[27, 3, 17, 7, 209, 184, 0, 113, 153, 0, 10, 28, 184, 0, 218, 154, 0, 5, 2, 172, 42, 180, 0, 33, 180, 1, 0, 62, 42, 180, 0, 33, 27, 181, 1, 0, 42, 180, 0, 33, 28, 181, 1, 3, 29, 172]] p := seg_gb (S := [[27, 3, 17, 7, 209, 184, 0, 113, 153, 0, 10, 28, 184, 0, 218, 154, 0, 5, 2, 172, 42, 180, 0, 33, 180, 1, 0, 62, 42, 180, 0, 33, 27, 181, 1, 0, 42, 180, 0, 33, 28, 181, 1, 3, 29, 172]]) (by decide +kernel) (by decide +kernel)
set_option maxRecDepth 20000 in
theorem BX11_made_1_0 : ∀ q ∈ ([(0, 27), (1, 3), (11, 28), (18, 2), (19, 172), (20, 42), (27, 62), (28, 42), (32, 27), (36, 42), (40, 28), (44, 29)] : List (Nat × Nat)), gb cX11_made q.1 = some q.2 := seg_1 SX11_made _ (by decide +kernel)
set_option maxRecDepth 20000 in
theorem BX11_made_1_1 : ∀ q ∈ ([(45, 172)] : List (Nat × Nat)), gb cX11_made q.1 = some q.2 := seg_1 SX11_made _ (by decide +kernel)
set_option maxRecDepth 20000 in
theorem BX11_made_3_0 : ∀ q ∈ ([(2, 17, 7, 209), (5, 184, 0, 113), (8, 153, 0, 10), (12, 184, 0, 218), (15, 154, 0, 5), (21, 180, 0, 33), (24, 180, 1, 0), (29, 180, 0, 33), (33, 181, 1, 0), (37, 180, 0, 33), (41, 181, 1, 3)] : List (Nat × Nat × Nat × Nat)), gb cX11_made q.1 = some q.2.1 ∧ gb cX11_made (q.1 + 1) = some q.2.2.1 ∧ gb cX11_made (q.1 + 2) = some q.2.2.2 := seg_3 SX11_made _ (by decide +kernel)
theorem dX11_made_0 : decode cX11_made 0 = .ok (.iload_n 1, 1) := dk27 (BX11_made_1_0 (0, 27) (List.mem_of_getElem? (i := 0) rfl))
theorem dX11_made_1 : decode cX11_made 1 = .ok (.iconst 0, 1) := dk3 (BX11_made_1_0 (1, 3) (List.mem_of_getElem? (i := 1) rfl))
theorem dX11_made_2 : decode cX11_made 2 = .ok (.sipush 2001, 3) := dk17 7 209 (BX11_made_3_0 (2, 17, 7, 209) (List.mem_of_getElem? (i := 0) rfl))
theorem dX11_made_5 : decode cX11_made 5 = .ok (.invokestatic 113, 3) := dk184 0 113 (BX11_made_3_0 (5, 184, 0, 113) (List.mem_of_getElem? (i := 1) rfl))
theorem dX11_made_8 : decode cX11_made 8 = .ok (.ifCond .eq 10, 3) := dk153 0 10 (BX11_made_3_0 (8, 153, 0, 10) (List.mem_of_getElem? (i := 2) rfl))
theorem dX11_made_11 : decode cX11_made 11 = .ok (.iload_n 2, 1) := dk28 (BX11_made_1_0 (11, 28) (List.mem_of_getElem? (i := 2) rfl))
theorem dX11_made_12 : decode cX11_made 12 = .ok (.invokestatic 218, 3) := dk184 0 218 (BX11_made_3_0 (12, 184, 0, 218) (List.mem_of_getElem? (i := 3) rfl))
theorem dX11_made_15 : decode cX11_made 15 = .ok (.ifCond .ne 5, 3) := dk154 0 5 (BX11_made_3_0 (15, 154, 0, 5) (List.mem_of_getElem? (i := 4) rfl))
theorem dX11_made_18 : decode cX11_made 18 = .ok (.iconst (-1), 1) := dk2 (BX11_made_1_0 (18, 2) (List.mem_of_getElem? (i := 3) rfl))
theorem dX11_made_19 : decode cX11_made 19 = .ok (.ireturn, 1) := dk172 (BX11_made_1_0 (19, 172) (List.mem_of_getElem? (i := 4) rfl))
theorem dX11_made_20 : decode cX11_made 20 = .ok (.aload_n 0, 1) := dk42 (BX11_made_1_0 (20, 42) (List.mem_of_getElem? (i := 5) rfl))
theorem dX11_made_21 : decode cX11_made 21 = .ok (.getfield 33, 3) := dk180 0 33 (BX11_made_3_0 (21, 180, 0, 33) (List.mem_of_getElem? (i := 5) rfl))
theorem dX11_made_24 : decode cX11_made 24 = .ok (.getfield 256, 3) := dk180 1 0 (BX11_made_3_0 (24, 180, 1, 0) (List.mem_of_getElem? (i := 6) rfl))
theorem dX11_made_27 : decode cX11_made 27 = .ok (.istore_n 3, 1) := dk62 (BX11_made_1_0 (27, 62) (List.mem_of_getElem? (i := 6) rfl))
theorem dX11_made_28 : decode cX11_made 28 = .ok (.aload_n 0, 1) := dk42 (BX11_made_1_0 (28, 42) (List.mem_of_getElem? (i := 7) rfl))
theorem dX11_made_29 : decode cX11_made 29 = .ok (.getfield 33, 3) := dk180 0 33 (BX11_made_3_0 (29, 180, 0, 33) (List.mem_of_getElem? (i := 7) rfl))
theorem dX11_made_32 : decode cX11_made 32 = .ok (.iload_n 1, 1) := dk27 (BX11_made_1_0 (32, 27) (List.mem_of_getElem? (i := 8) rfl))
theorem dX11_made_33 : decode cX11_made 33 = .ok (.putfield 256, 3) := dk181 1 0 (BX11_made_3_0 (33, 181, 1, 0) (List.mem_of_getElem? (i := 8) rfl))
theorem dX11_made_36 : decode cX11_made 36 = .ok (.aload_n 0, 1) := dk42 (BX11_made_1_0 (36, 42) (List.mem_of_getElem? (i := 9) rfl))
theorem dX11_made_37 : decode cX11_made 37 = .ok (.getfield 33, 3) := dk180 0 33 (BX11_made_3_0 (37, 180, 0, 33) (List.mem_of_getElem? (i := 9) rfl))
theorem dX11_made_40 : decode cX11_made 40 = .ok (.iload_n 2, 1) := dk28 (BX11_made_1_0 (40, 28) (List.mem_of_getElem? (i := 10) rfl))
theorem dX11_made_41 : decode cX11_made 41 = .ok (.putfield 259, 3) := dk181 1 3 (BX11_made_3_0 (41, 181, 1, 3) (List.mem_of_getElem? (i := 10) rfl))
theorem dX11_made_44 : decode cX11_made 44 = .ok (.iload_n 3, 1) := dk29 (BX11_made_1_0 (44, 29) (List.mem_of_getElem? (i := 11) rfl))
theorem dX11_made_45 : decode cX11_made 45 = .ok (.ireturn, 1) := dk172 (BX11_made_1_1 (45, 172) (List.mem_of_getElem? (i := 0) rfl))
set_option maxRecDepth 20000 in
theorem ggX11_bars_X11_isInk : GoodIn wsX11_bars wsX11_isInk := goodIn_g ch_wsX11_bars_flat gd_wsX11_bars _ [(1, 4), (1, 5), (1, 6), (1, 3), (1, 7)] rfl
set_option maxRecDepth 20000 in
theorem gX11_bars_X11_isInk : GoodIn wsX11_bars (va_wsS RX11 170 yX11_isInk wsX11_isInk) := goodIn_app (goodIn_g ch_wsX11_bars_flat gd_wsX11_bars _ [(1, 1), (1, 2), (1, 3)] rfl) ggX11_bars_X11_isInk
set_option maxRecDepth 20000 in
theorem ggX11_bars_X11_isYear : GoodIn wsX11_bars wsX11_isYear := goodIn_g ch_wsX11_bars_flat gd_wsX11_bars _ [(1, 10), (1, 5), (1, 6), (1, 3), (1, 7)] rfl
set_option maxRecDepth 20000 in
theorem gX11_bars_X11_isYear : GoodIn wsX11_bars (va_wsS RX11 98 yX11_isYear wsX11_isYear) := goodIn_app (goodIn_g ch_wsX11_bars_flat gd_wsX11_bars _ [(1, 8), (1, 9), (1, 3)] rfl) ggX11_bars_X11_isYear
set_option maxRecDepth 20000 in
theorem ggX11_bars_X2_inkBars : GoodIn wsX11_bars wsX2_inkBars := gcons (goodIn_g ch_wsX11_bars_flat gd_wsX11_bars _ [(1, 15)] rfl) (goodIn_app (goodIn_g ch_wsX11_bars_flat gd_wsX11_bars _ [(1, 16), (1, 17), (1, 18), (1, 19), (1, 20), (1, 14), (1, 21), (1, 22), (1, 23), (2, 0), (2, 1), (2, 2), (1, 3), (2, 3)] rfl) (gchunk ch_wsX11_bars_flat gd_wsX11_bars 4 rfl))
set_option maxRecDepth 20000 in
theorem gX11_bars_X2_inkBars : GoodIn wsX11_bars (wsV RX11 262 RX2 yX2_inkBars wsX2_inkBars) := goodIn_app (goodIn_g ch_wsX11_bars_flat gd_wsX11_bars _ [(1, 11), (1, 12), (1, 13), (1, 14)] rfl) ggX11_bars_X2_inkBars
set_option maxRecDepth 20000 in
theorem ggX11_bars_X11_asBit : GoodIn wsX11_bars wsX11_asBit := goodIn_g ch_wsX11_bars_flat gd_wsX11_bars _ [(2, 6)] rfl
set_option maxRecDepth 20000 in
theorem gX11_bars_X11_asBit : GoodIn wsX11_bars (va_wsS RX11 162 yX11_asBit wsX11_asBit) := goodIn_app (goodIn_g ch_wsX11_bars_flat gd_wsX11_bars _ [(2, 4), (2, 5), (1, 3)] rfl) ggX11_bars_X11_asBit
set_option maxRecDepth 20000 in
theorem SX11_bars : ∀ p : Nat, gb cX11_bars p = segF [[27, 184, 0, 170, 153, 0, 10, 28, 184, 0, 98, 154, 0, 5, 2, 172, 42, 180, 0, 33, 27, 28, 182, 1, 6, 184, 0, 162, 172]] p := seg_gb (S := [[27, 184, 0, 170, 153, 0, 10, 28, 184, 0, 98, 154, 0, 5, 2, 172, 42, 180, 0, 33, 27, 28, 182, 1, 6, 184, 0, 162, 172]]) (by decide +kernel) (by decide +kernel)
set_option maxRecDepth 20000 in
theorem BX11_bars_1_0 : ∀ q ∈ ([(0, 27), (7, 28), (14, 2), (15, 172), (16, 42), (20, 27), (21, 28), (28, 172)] : List (Nat × Nat)), gb cX11_bars q.1 = some q.2 := seg_1 SX11_bars _ (by decide +kernel)
set_option maxRecDepth 20000 in
theorem BX11_bars_3_0 : ∀ q ∈ ([(1, 184, 0, 170), (4, 153, 0, 10), (8, 184, 0, 98), (11, 154, 0, 5), (17, 180, 0, 33), (22, 182, 1, 6), (25, 184, 0, 162)] : List (Nat × Nat × Nat × Nat)), gb cX11_bars q.1 = some q.2.1 ∧ gb cX11_bars (q.1 + 1) = some q.2.2.1 ∧ gb cX11_bars (q.1 + 2) = some q.2.2.2 := seg_3 SX11_bars _ (by decide +kernel)
theorem dX11_bars_0 : decode cX11_bars 0 = .ok (.iload_n 1, 1) := dk27 (BX11_bars_1_0 (0, 27) (List.mem_of_getElem? (i := 0) rfl))
theorem dX11_bars_1 : decode cX11_bars 1 = .ok (.invokestatic 170, 3) := dk184 0 170 (BX11_bars_3_0 (1, 184, 0, 170) (List.mem_of_getElem? (i := 0) rfl))
theorem dX11_bars_4 : decode cX11_bars 4 = .ok (.ifCond .eq 10, 3) := dk153 0 10 (BX11_bars_3_0 (4, 153, 0, 10) (List.mem_of_getElem? (i := 1) rfl))
theorem dX11_bars_7 : decode cX11_bars 7 = .ok (.iload_n 2, 1) := dk28 (BX11_bars_1_0 (7, 28) (List.mem_of_getElem? (i := 1) rfl))
theorem dX11_bars_8 : decode cX11_bars 8 = .ok (.invokestatic 98, 3) := dk184 0 98 (BX11_bars_3_0 (8, 184, 0, 98) (List.mem_of_getElem? (i := 2) rfl))
theorem dX11_bars_11 : decode cX11_bars 11 = .ok (.ifCond .ne 5, 3) := dk154 0 5 (BX11_bars_3_0 (11, 154, 0, 5) (List.mem_of_getElem? (i := 3) rfl))
theorem dX11_bars_14 : decode cX11_bars 14 = .ok (.iconst (-1), 1) := dk2 (BX11_bars_1_0 (14, 2) (List.mem_of_getElem? (i := 2) rfl))
theorem dX11_bars_15 : decode cX11_bars 15 = .ok (.ireturn, 1) := dk172 (BX11_bars_1_0 (15, 172) (List.mem_of_getElem? (i := 3) rfl))
theorem dX11_bars_16 : decode cX11_bars 16 = .ok (.aload_n 0, 1) := dk42 (BX11_bars_1_0 (16, 42) (List.mem_of_getElem? (i := 4) rfl))
theorem dX11_bars_17 : decode cX11_bars 17 = .ok (.getfield 33, 3) := dk180 0 33 (BX11_bars_3_0 (17, 180, 0, 33) (List.mem_of_getElem? (i := 4) rfl))
theorem dX11_bars_20 : decode cX11_bars 20 = .ok (.iload_n 1, 1) := dk27 (BX11_bars_1_0 (20, 27) (List.mem_of_getElem? (i := 5) rfl))
theorem dX11_bars_21 : decode cX11_bars 21 = .ok (.iload_n 2, 1) := dk28 (BX11_bars_1_0 (21, 28) (List.mem_of_getElem? (i := 6) rfl))
theorem dX11_bars_22 : decode cX11_bars 22 = .ok (.invokevirtual 262, 3) := dk182 1 6 (BX11_bars_3_0 (22, 182, 1, 6) (List.mem_of_getElem? (i := 5) rfl))
theorem dX11_bars_25 : decode cX11_bars 25 = .ok (.invokestatic 162, 3) := dk184 0 162 (BX11_bars_3_0 (25, 184, 0, 162) (List.mem_of_getElem? (i := 6) rfl))
theorem dX11_bars_28 : decode cX11_bars 28 = .ok (.ireturn, 1) := dk172 (BX11_bars_1_0 (28, 172) (List.mem_of_getElem? (i := 7) rfl))
set_option maxRecDepth 20000 in
theorem ggX11_place_X11_isYear : GoodIn wsX11_place wsX11_isYear := goodIn_r _ [5, 6, 7, 4, 8] rfl (by decide +kernel)
set_option maxRecDepth 20000 in
theorem gX11_place_X11_isYear : GoodIn wsX11_place (va_wsS RX11 98 yX11_isYear wsX11_isYear) := goodIn_app (goodIn_r _ [2, 3, 4] rfl (by decide +kernel)) ggX11_place_X11_isYear
set_option maxRecDepth 20000 in
theorem ggX11_place_X11_within : GoodIn wsX11_place wsX11_within := goodIn_r _ [8] rfl (by decide +kernel)
set_option maxRecDepth 20000 in
theorem gX11_place_X11_within : GoodIn wsX11_place (va_wsS RX11 113 yX11_within wsX11_within) := goodIn_app (goodIn_r _ [6, 7, 4] rfl (by decide +kernel)) ggX11_place_X11_within
set_option maxRecDepth 20000 in
theorem ggX11_place_X6_add : GoodIn wsX11_place wsX6_add := goodIn_r _ [13, 14, 15, 16, 17, 30, 31, 32, 33] rfl (by decide +kernel)
set_option maxRecDepth 20000 in
theorem gX11_place_X6_add : GoodIn wsX11_place (wsV RX11 265 RX6 yX6_add wsX6_add) := goodIn_app (goodIn_r _ [9, 10, 11, 12] rfl (by decide +kernel)) ggX11_place_X6_add
set_option maxRecDepth 20000 in
theorem SX11_place : ∀ p : Nat, gb cX11_place p = segF [[27, 184, 0, 98, 153, 0, 25, 28, 3, 17, 39, 15, 184, 0, 113, 153, 0, 14, 29, 3, 17, 39, 15, 184, 0, 113, 154, 0, 5, 2, 172, 42, 180, 0, 40, 27, 28, 29, 182, 1, 9, 172]] p := seg_gb (S := [[27, 184, 0, 98, 153, 0, 25, 28, 3, 17, 39, 15, 184, 0, 113, 153, 0, 14, 29, 3, 17, 39, 15, 184, 0, 113, 154, 0, 5, 2, 172, 42, 180, 0, 40, 27, 28, 29, 182, 1, 9, 172]]) (by decide +kernel) (by decide +kernel)
set_option maxRecDepth 20000 in
theorem BX11_place_1_0 : ∀ q ∈ ([(0, 27), (7, 28), (8, 3), (18, 29), (19, 3), (29, 2), (30, 172), (31, 42), (35, 27), (36, 28), (37, 29), (41, 172)] : List (Nat × Nat)), gb cX11_place q.1 = some q.2 := seg_1 SX11_place _ (by decide +kernel)
set_option maxRecDepth 20000 in
theorem BX11_place_3_0 : ∀ q ∈ ([(1, 184, 0, 98), (4, 153, 0, 25), (9, 17, 39, 15), (12, 184, 0, 113), (15, 153, 0, 14), (20, 17, 39, 15), (23, 184, 0, 113), (26, 154, 0, 5), (32, 180, 0, 40), (38, 182, 1, 9)] : List (Nat × Nat × Nat × Nat)), gb cX11_place q.1 = some q.2.1 ∧ gb cX11_place (q.1 + 1) = some q.2.2.1 ∧ gb cX11_place (q.1 + 2) = some q.2.2.2 := seg_3 SX11_place _ (by decide +kernel)
theorem dX11_place_0 : decode cX11_place 0 = .ok (.iload_n 1, 1) := dk27 (BX11_place_1_0 (0, 27) (List.mem_of_getElem? (i := 0) rfl))
theorem dX11_place_1 : decode cX11_place 1 = .ok (.invokestatic 98, 3) := dk184 0 98 (BX11_place_3_0 (1, 184, 0, 98) (List.mem_of_getElem? (i := 0) rfl))
theorem dX11_place_4 : decode cX11_place 4 = .ok (.ifCond .eq 25, 3) := dk153 0 25 (BX11_place_3_0 (4, 153, 0, 25) (List.mem_of_getElem? (i := 1) rfl))
theorem dX11_place_7 : decode cX11_place 7 = .ok (.iload_n 2, 1) := dk28 (BX11_place_1_0 (7, 28) (List.mem_of_getElem? (i := 1) rfl))
theorem dX11_place_8 : decode cX11_place 8 = .ok (.iconst 0, 1) := dk3 (BX11_place_1_0 (8, 3) (List.mem_of_getElem? (i := 2) rfl))
theorem dX11_place_9 : decode cX11_place 9 = .ok (.sipush 9999, 3) := dk17 39 15 (BX11_place_3_0 (9, 17, 39, 15) (List.mem_of_getElem? (i := 2) rfl))
theorem dX11_place_12 : decode cX11_place 12 = .ok (.invokestatic 113, 3) := dk184 0 113 (BX11_place_3_0 (12, 184, 0, 113) (List.mem_of_getElem? (i := 3) rfl))
theorem dX11_place_15 : decode cX11_place 15 = .ok (.ifCond .eq 14, 3) := dk153 0 14 (BX11_place_3_0 (15, 153, 0, 14) (List.mem_of_getElem? (i := 4) rfl))
theorem dX11_place_18 : decode cX11_place 18 = .ok (.iload_n 3, 1) := dk29 (BX11_place_1_0 (18, 29) (List.mem_of_getElem? (i := 3) rfl))
theorem dX11_place_19 : decode cX11_place 19 = .ok (.iconst 0, 1) := dk3 (BX11_place_1_0 (19, 3) (List.mem_of_getElem? (i := 4) rfl))
theorem dX11_place_20 : decode cX11_place 20 = .ok (.sipush 9999, 3) := dk17 39 15 (BX11_place_3_0 (20, 17, 39, 15) (List.mem_of_getElem? (i := 5) rfl))
theorem dX11_place_23 : decode cX11_place 23 = .ok (.invokestatic 113, 3) := dk184 0 113 (BX11_place_3_0 (23, 184, 0, 113) (List.mem_of_getElem? (i := 6) rfl))
theorem dX11_place_26 : decode cX11_place 26 = .ok (.ifCond .ne 5, 3) := dk154 0 5 (BX11_place_3_0 (26, 154, 0, 5) (List.mem_of_getElem? (i := 7) rfl))
theorem dX11_place_29 : decode cX11_place 29 = .ok (.iconst (-1), 1) := dk2 (BX11_place_1_0 (29, 2) (List.mem_of_getElem? (i := 5) rfl))
theorem dX11_place_30 : decode cX11_place 30 = .ok (.ireturn, 1) := dk172 (BX11_place_1_0 (30, 172) (List.mem_of_getElem? (i := 6) rfl))
theorem dX11_place_31 : decode cX11_place 31 = .ok (.aload_n 0, 1) := dk42 (BX11_place_1_0 (31, 42) (List.mem_of_getElem? (i := 7) rfl))
theorem dX11_place_32 : decode cX11_place 32 = .ok (.getfield 40, 3) := dk180 0 40 (BX11_place_3_0 (32, 180, 0, 40) (List.mem_of_getElem? (i := 8) rfl))
theorem dX11_place_35 : decode cX11_place 35 = .ok (.iload_n 1, 1) := dk27 (BX11_place_1_0 (35, 27) (List.mem_of_getElem? (i := 8) rfl))
theorem dX11_place_36 : decode cX11_place 36 = .ok (.iload_n 2, 1) := dk28 (BX11_place_1_0 (36, 28) (List.mem_of_getElem? (i := 9) rfl))
theorem dX11_place_37 : decode cX11_place 37 = .ok (.iload_n 3, 1) := dk29 (BX11_place_1_0 (37, 29) (List.mem_of_getElem? (i := 10) rfl))
theorem dX11_place_38 : decode cX11_place 38 = .ok (.invokevirtual 265, 3) := dk182 1 9 (BX11_place_3_0 (38, 182, 1, 9) (List.mem_of_getElem? (i := 9) rfl))
theorem dX11_place_41 : decode cX11_place 41 = .ok (.ireturn, 1) := dk172 (BX11_place_1_0 (41, 172) (List.mem_of_getElem? (i := 11) rfl))
set_option maxRecDepth 20000 in
theorem ggX11_late_X11_isYear : GoodIn wsX11_late wsX11_isYear := goodIn_g ch_wsX11_late_flat gd_wsX11_late _ [(1, 4), (1, 5), (1, 6), (1, 3), (1, 7)] rfl
set_option maxRecDepth 20000 in
theorem gX11_late_X11_isYear : GoodIn wsX11_late (va_wsS RX11 98 yX11_isYear wsX11_isYear) := goodIn_app (goodIn_g ch_wsX11_late_flat gd_wsX11_late _ [(1, 1), (1, 2), (1, 3)] rfl) ggX11_late_X11_isYear
set_option maxRecDepth 20000 in
theorem ggX11_late_X11_isBit : GoodIn wsX11_late wsX11_isBit := goodIn_g ch_wsX11_late_flat gd_wsX11_late _ [(1, 10)] rfl
set_option maxRecDepth 20000 in
theorem gX11_late_X11_isBit : GoodIn wsX11_late (va_wsS RX11 144 yX11_isBit wsX11_isBit) := goodIn_app (goodIn_g ch_wsX11_late_flat gd_wsX11_late _ [(1, 8), (1, 9), (1, 3)] rfl) ggX11_late_X11_isBit
set_option maxRecDepth 20000 in
theorem ggX11_late_X6_lateOnes : GoodIn wsX11_late wsX6_lateOnes := gcons (goodIn_g ch_wsX11_late_flat gd_wsX11_late _ [(1, 15)] rfl) (goodIn_app (goodIn_g ch_wsX11_late_flat gd_wsX11_late _ [(1, 16), (1, 17), (1, 18), (1, 3), (1, 19)] rfl) (gchunk ch_wsX11_late_flat gd_wsX11_late 4 rfl))
set_option maxRecDepth 20000 in
theorem gX11_late_X6_lateOnes : GoodIn wsX11_late (wsV RX11 266 RX6 yX6_lateOnes wsX6_lateOnes) := goodIn_app (goodIn_g ch_wsX11_late_flat gd_wsX11_late _ [(1, 11), (1, 12), (1, 13), (1, 14)] rfl) ggX11_late_X6_lateOnes
set_option maxRecDepth 20000 in
theorem ggX11_late_X6_lateOff : GoodIn wsX11_late wsX6_lateOff := gcons (goodIn_g ch_wsX11_late_flat gd_wsX11_late _ [(1, 23)] rfl) (goodIn_app (goodIn_g ch_wsX11_late_flat gd_wsX11_late _ [(1, 16), (1, 17), (2, 0), (2, 1), (2, 2), (2, 3), (1, 14), (2, 4), (2, 5), (2, 6), (2, 7), (2, 8), (2, 9)] rfl) (gchunk ch_wsX11_late_flat gd_wsX11_late 4 rfl))
set_option maxRecDepth 20000 in
theorem gX11_late_X6_lateOff : GoodIn wsX11_late (wsV RX11 269 RX6 yX6_lateOff wsX6_lateOff) := goodIn_app (goodIn_g ch_wsX11_late_flat gd_wsX11_late _ [(1, 20), (1, 21), (1, 22), (1, 14)] rfl) ggX11_late_X6_lateOff
set_option maxRecDepth 20000 in
theorem SX11_late : ∀ p : Nat, gb cX11_late p = segF [[27, 184, 0, 98, 153, 0, 10, 28, 184, 0, 144, 154, 0, 5, 2, 172, 28, 154, 0, 14, 42, 180, 0, 40, 27, 182, 1, 10, 167, 0, 11, 42, 180, 0, 40, 27, 182, 1, 13, 172]] p := seg_gb (S := [[27, 184, 0, 98, 153, 0, 10, 28, 184, 0, 144, 154, 0, 5, 2, 172, 28, 154, 0, 14, 42, 180, 0, 40, 27, 182, 1, 10, 167, 0, 11, 42, 180, 0, 40, 27, 182, 1, 13, 172]]) (by decide +kernel) (by decide +kernel)
set_option maxRecDepth 20000 in
theorem BX11_late_1_0 : ∀ q ∈ ([(0, 27), (7, 28), (14, 2), (15, 172), (16, 28), (20, 42), (24, 27), (31, 42), (35, 27), (39, 172)] : List (Nat × Nat)), gb cX11_late q.1 = some q.2 := seg_1 SX11_late _ (by decide +kernel)
set_option maxRecDepth 20000 in
theorem BX11_late_3_0 : ∀ q ∈ ([(1, 184, 0, 98), (4, 153, 0, 10), (8, 184, 0, 144), (11, 154, 0, 5), (17, 154, 0, 14), (21, 180, 0, 40), (25, 182, 1, 10), (28, 167, 0, 11), (32, 180, 0, 40), (36, 182, 1, 13)] : List (Nat × Nat × Nat × Nat)), gb cX11_late q.1 = some q.2.1 ∧ gb cX11_late (q.1 + 1) = some q.2.2.1 ∧ gb cX11_late (q.1 + 2) = some q.2.2.2 := seg_3 SX11_late _ (by decide +kernel)
theorem dX11_late_0 : decode cX11_late 0 = .ok (.iload_n 1, 1) := dk27 (BX11_late_1_0 (0, 27) (List.mem_of_getElem? (i := 0) rfl))
theorem dX11_late_1 : decode cX11_late 1 = .ok (.invokestatic 98, 3) := dk184 0 98 (BX11_late_3_0 (1, 184, 0, 98) (List.mem_of_getElem? (i := 0) rfl))
theorem dX11_late_4 : decode cX11_late 4 = .ok (.ifCond .eq 10, 3) := dk153 0 10 (BX11_late_3_0 (4, 153, 0, 10) (List.mem_of_getElem? (i := 1) rfl))
theorem dX11_late_7 : decode cX11_late 7 = .ok (.iload_n 2, 1) := dk28 (BX11_late_1_0 (7, 28) (List.mem_of_getElem? (i := 1) rfl))
theorem dX11_late_8 : decode cX11_late 8 = .ok (.invokestatic 144, 3) := dk184 0 144 (BX11_late_3_0 (8, 184, 0, 144) (List.mem_of_getElem? (i := 2) rfl))
theorem dX11_late_11 : decode cX11_late 11 = .ok (.ifCond .ne 5, 3) := dk154 0 5 (BX11_late_3_0 (11, 154, 0, 5) (List.mem_of_getElem? (i := 3) rfl))
theorem dX11_late_14 : decode cX11_late 14 = .ok (.iconst (-1), 1) := dk2 (BX11_late_1_0 (14, 2) (List.mem_of_getElem? (i := 2) rfl))
theorem dX11_late_15 : decode cX11_late 15 = .ok (.ireturn, 1) := dk172 (BX11_late_1_0 (15, 172) (List.mem_of_getElem? (i := 3) rfl))
theorem dX11_late_16 : decode cX11_late 16 = .ok (.iload_n 2, 1) := dk28 (BX11_late_1_0 (16, 28) (List.mem_of_getElem? (i := 4) rfl))
theorem dX11_late_17 : decode cX11_late 17 = .ok (.ifCond .ne 14, 3) := dk154 0 14 (BX11_late_3_0 (17, 154, 0, 14) (List.mem_of_getElem? (i := 4) rfl))
theorem dX11_late_20 : decode cX11_late 20 = .ok (.aload_n 0, 1) := dk42 (BX11_late_1_0 (20, 42) (List.mem_of_getElem? (i := 5) rfl))
theorem dX11_late_21 : decode cX11_late 21 = .ok (.getfield 40, 3) := dk180 0 40 (BX11_late_3_0 (21, 180, 0, 40) (List.mem_of_getElem? (i := 5) rfl))
theorem dX11_late_24 : decode cX11_late 24 = .ok (.iload_n 1, 1) := dk27 (BX11_late_1_0 (24, 27) (List.mem_of_getElem? (i := 6) rfl))
theorem dX11_late_25 : decode cX11_late 25 = .ok (.invokevirtual 266, 3) := dk182 1 10 (BX11_late_3_0 (25, 182, 1, 10) (List.mem_of_getElem? (i := 6) rfl))
theorem dX11_late_28 : decode cX11_late 28 = .ok (.goto 11, 3) := dk167 0 11 (BX11_late_3_0 (28, 167, 0, 11) (List.mem_of_getElem? (i := 7) rfl))
theorem dX11_late_31 : decode cX11_late 31 = .ok (.aload_n 0, 1) := dk42 (BX11_late_1_0 (31, 42) (List.mem_of_getElem? (i := 7) rfl))
theorem dX11_late_32 : decode cX11_late 32 = .ok (.getfield 40, 3) := dk180 0 40 (BX11_late_3_0 (32, 180, 0, 40) (List.mem_of_getElem? (i := 8) rfl))
theorem dX11_late_35 : decode cX11_late 35 = .ok (.iload_n 1, 1) := dk27 (BX11_late_1_0 (35, 27) (List.mem_of_getElem? (i := 8) rfl))
theorem dX11_late_36 : decode cX11_late 36 = .ok (.invokevirtual 269, 3) := dk182 1 13 (BX11_late_3_0 (36, 182, 1, 13) (List.mem_of_getElem? (i := 9) rfl))
theorem dX11_late_39 : decode cX11_late 39 = .ok (.ireturn, 1) := dk172 (BX11_late_1_0 (39, 172) (List.mem_of_getElem? (i := 9) rfl))
set_option maxRecDepth 20000 in
theorem ggX11_well_X11_isYear : GoodIn wsX11_well wsX11_isYear := goodIn_g ch_wsX11_well_flat gd_wsX11_well _ [(1, 4), (1, 5), (1, 6), (1, 3), (1, 7)] rfl
set_option maxRecDepth 20000 in
theorem gX11_well_X11_isYear : GoodIn wsX11_well (va_wsS RX11 98 yX11_isYear wsX11_isYear) := goodIn_app (goodIn_g ch_wsX11_well_flat gd_wsX11_well _ [(1, 1), (1, 2), (1, 3)] rfl) ggX11_well_X11_isYear
set_option maxRecDepth 20000 in
theorem ggX11_well_X11_within : GoodIn wsX11_well wsX11_within := goodIn_g ch_wsX11_well_flat gd_wsX11_well _ [(1, 7)] rfl
set_option maxRecDepth 20000 in
theorem gX11_well_X11_within : GoodIn wsX11_well (va_wsS RX11 113 yX11_within wsX11_within) := goodIn_app (goodIn_g ch_wsX11_well_flat gd_wsX11_well _ [(1, 5), (1, 6), (1, 3)] rfl) ggX11_well_X11_within
set_option maxRecDepth 20000 in
theorem ggX11_well_X6_lateOnes : GoodIn wsX11_well wsX6_lateOnes := gcons (goodIn_g ch_wsX11_well_flat gd_wsX11_well _ [(1, 12)] rfl) (goodIn_app (goodIn_g ch_wsX11_well_flat gd_wsX11_well _ [(1, 13), (1, 14), (1, 15), (1, 3), (1, 16)] rfl) (gchunk ch_wsX11_well_flat gd_wsX11_well 4 rfl))
set_option maxRecDepth 20000 in
theorem gX11_well_X6_lateOnes : GoodIn wsX11_well (wsV RX11 266 RX6 yX6_lateOnes wsX6_lateOnes) := goodIn_app (goodIn_g ch_wsX11_well_flat gd_wsX11_well _ [(1, 8), (1, 9), (1, 10), (1, 11)] rfl) ggX11_well_X6_lateOnes
set_option maxRecDepth 20000 in
theorem ggX11_well_X6_guessedAsWell : GoodIn wsX11_well wsX6_guessedAsWell := gcons (goodIn_g ch_wsX11_well_flat gd_wsX11_well _ [(1, 20)] rfl) (goodIn_app (goodIn_g ch_wsX11_well_flat gd_wsX11_well _ [(1, 13), (1, 14), (1, 21), (1, 22), (1, 23), (1, 11), (2, 0), (2, 1), (2, 2), (2, 3), (2, 4), (2, 5), (2, 6), (2, 7), (2, 8), (2, 9), (2, 10), (2, 11), (1, 3), (2, 12), (2, 13), (1, 15), (1, 16)] rfl) (gchunk ch_wsX11_well_flat gd_wsX11_well 4 rfl))
set_option maxRecDepth 20000 in
theorem gX11_well_X6_guessedAsWell : GoodIn wsX11_well (wsV RX11 272 RX6 yX6_guessedAsWell wsX6_guessedAsWell) := goodIn_app (goodIn_g ch_wsX11_well_flat gd_wsX11_well _ [(1, 17), (1, 18), (1, 19), (1, 11)] rfl) ggX11_well_X6_guessedAsWell
set_option maxRecDepth 20000 in
theorem SX11_well : ∀ p : Nat, gb cX11_well p = segF [[27, 184, 0, 98, 153, 0, 13, 29, 4, 16, 50, 184, 0, 113, 154, 0, 5, 2, 172, 42, 180, 0, 40, 27, 182, 1, 10, 154, 0, 6, 16, 254, 172, 42, 180, 0, 40, 27, 28, 29, 182, 1, 16, 172]] p := seg_gb (S := [[27, 184, 0, 98, 153, 0, 13, 29, 4, 16, 50, 184, 0, 113, 154, 0, 5, 2, 172, 42, 180, 0, 40, 27, 182, 1, 10, 154, 0, 6, 16, 254, 172, 42, 180, 0, 40, 27, 28, 29, 182, 1, 16, 172]]) (by decide +kernel) (by decide +kernel)
set_option maxRecDepth 20000 in
theorem BX11_well_1_0 : ∀ q ∈ ([(0, 27), (7, 29), (8, 4), (17, 2), (18, 172), (19, 42), (23, 27), (32, 172), (33, 42), (37, 27), (38, 28), (39, 29)] : List (Nat × Nat)), gb cX11_well q.1 = some q.2 := seg_1 SX11_well _ (by decide +kernel)
set_option maxRecDepth 20000 in
theorem BX11_well_1_1 : ∀ q ∈ ([(43, 172)] : List (Nat × Nat)), gb cX11_well q.1 = some q.2 := seg_1 SX11_well _ (by decide +kernel)
set_option maxRecDepth 20000 in
theorem BX11_well_2_0 : ∀ q ∈ ([(9, 16, 50), (30, 16, 254)] : List (Nat × Nat × Nat)), gb cX11_well q.1 = some q.2.1 ∧ gb cX11_well (q.1 + 1) = some q.2.2 := seg_2 SX11_well _ (by decide +kernel)
set_option maxRecDepth 20000 in
theorem BX11_well_3_0 : ∀ q ∈ ([(1, 184, 0, 98), (4, 153, 0, 13), (11, 184, 0, 113), (14, 154, 0, 5), (20, 180, 0, 40), (24, 182, 1, 10), (27, 154, 0, 6), (34, 180, 0, 40), (40, 182, 1, 16)] : List (Nat × Nat × Nat × Nat)), gb cX11_well q.1 = some q.2.1 ∧ gb cX11_well (q.1 + 1) = some q.2.2.1 ∧ gb cX11_well (q.1 + 2) = some q.2.2.2 := seg_3 SX11_well _ (by decide +kernel)
theorem dX11_well_0 : decode cX11_well 0 = .ok (.iload_n 1, 1) := dk27 (BX11_well_1_0 (0, 27) (List.mem_of_getElem? (i := 0) rfl))
theorem dX11_well_1 : decode cX11_well 1 = .ok (.invokestatic 98, 3) := dk184 0 98 (BX11_well_3_0 (1, 184, 0, 98) (List.mem_of_getElem? (i := 0) rfl))
theorem dX11_well_4 : decode cX11_well 4 = .ok (.ifCond .eq 13, 3) := dk153 0 13 (BX11_well_3_0 (4, 153, 0, 13) (List.mem_of_getElem? (i := 1) rfl))
theorem dX11_well_7 : decode cX11_well 7 = .ok (.iload_n 3, 1) := dk29 (BX11_well_1_0 (7, 29) (List.mem_of_getElem? (i := 1) rfl))
theorem dX11_well_8 : decode cX11_well 8 = .ok (.iconst 1, 1) := dk4 (BX11_well_1_0 (8, 4) (List.mem_of_getElem? (i := 2) rfl))
theorem dX11_well_9 : decode cX11_well 9 = .ok (.bipush 50, 2) := dk16 50 (BX11_well_2_0 (9, 16, 50) (List.mem_of_getElem? (i := 0) rfl))
theorem dX11_well_11 : decode cX11_well 11 = .ok (.invokestatic 113, 3) := dk184 0 113 (BX11_well_3_0 (11, 184, 0, 113) (List.mem_of_getElem? (i := 2) rfl))
theorem dX11_well_14 : decode cX11_well 14 = .ok (.ifCond .ne 5, 3) := dk154 0 5 (BX11_well_3_0 (14, 154, 0, 5) (List.mem_of_getElem? (i := 3) rfl))
theorem dX11_well_17 : decode cX11_well 17 = .ok (.iconst (-1), 1) := dk2 (BX11_well_1_0 (17, 2) (List.mem_of_getElem? (i := 3) rfl))
theorem dX11_well_18 : decode cX11_well 18 = .ok (.ireturn, 1) := dk172 (BX11_well_1_0 (18, 172) (List.mem_of_getElem? (i := 4) rfl))
theorem dX11_well_19 : decode cX11_well 19 = .ok (.aload_n 0, 1) := dk42 (BX11_well_1_0 (19, 42) (List.mem_of_getElem? (i := 5) rfl))
theorem dX11_well_20 : decode cX11_well 20 = .ok (.getfield 40, 3) := dk180 0 40 (BX11_well_3_0 (20, 180, 0, 40) (List.mem_of_getElem? (i := 4) rfl))
theorem dX11_well_23 : decode cX11_well 23 = .ok (.iload_n 1, 1) := dk27 (BX11_well_1_0 (23, 27) (List.mem_of_getElem? (i := 6) rfl))
theorem dX11_well_24 : decode cX11_well 24 = .ok (.invokevirtual 266, 3) := dk182 1 10 (BX11_well_3_0 (24, 182, 1, 10) (List.mem_of_getElem? (i := 5) rfl))
theorem dX11_well_27 : decode cX11_well 27 = .ok (.ifCond .ne 6, 3) := dk154 0 6 (BX11_well_3_0 (27, 154, 0, 6) (List.mem_of_getElem? (i := 6) rfl))
theorem dX11_well_30 : decode cX11_well 30 = .ok (.bipush (-2), 2) := dk16 254 (BX11_well_2_0 (30, 16, 254) (List.mem_of_getElem? (i := 1) rfl))
theorem dX11_well_32 : decode cX11_well 32 = .ok (.ireturn, 1) := dk172 (BX11_well_1_0 (32, 172) (List.mem_of_getElem? (i := 7) rfl))
theorem dX11_well_33 : decode cX11_well 33 = .ok (.aload_n 0, 1) := dk42 (BX11_well_1_0 (33, 42) (List.mem_of_getElem? (i := 8) rfl))
theorem dX11_well_34 : decode cX11_well 34 = .ok (.getfield 40, 3) := dk180 0 40 (BX11_well_3_0 (34, 180, 0, 40) (List.mem_of_getElem? (i := 7) rfl))
theorem dX11_well_37 : decode cX11_well 37 = .ok (.iload_n 1, 1) := dk27 (BX11_well_1_0 (37, 27) (List.mem_of_getElem? (i := 9) rfl))
theorem dX11_well_38 : decode cX11_well 38 = .ok (.iload_n 2, 1) := dk28 (BX11_well_1_0 (38, 28) (List.mem_of_getElem? (i := 10) rfl))
theorem dX11_well_39 : decode cX11_well 39 = .ok (.iload_n 3, 1) := dk29 (BX11_well_1_0 (39, 29) (List.mem_of_getElem? (i := 11) rfl))
theorem dX11_well_40 : decode cX11_well 40 = .ok (.invokevirtual 272, 3) := dk182 1 16 (BX11_well_3_0 (40, 182, 1, 16) (List.mem_of_getElem? (i := 8) rfl))
theorem dX11_well_43 : decode cX11_well 43 = .ok (.ireturn, 1) := dk172 (BX11_well_1_1 (43, 172) (List.mem_of_getElem? (i := 0) rfl))
set_option maxRecDepth 20000 in
theorem ggX11_map_X11_isYear : GoodIn wsX11_map wsX11_isYear := goodIn_r _ [6, 7, 8, 5, 9] rfl (by decide +kernel)
set_option maxRecDepth 20000 in
theorem gX11_map_X11_isYear : GoodIn wsX11_map (va_wsS RX11 98 yX11_isYear wsX11_isYear) := goodIn_app (goodIn_r _ [3, 4, 5] rfl (by decide +kernel)) ggX11_map_X11_isYear
set_option maxRecDepth 20000 in
theorem ggX11_map_X11_within : GoodIn wsX11_map wsX11_within := goodIn_r _ [9] rfl (by decide +kernel)
set_option maxRecDepth 20000 in
theorem gX11_map_X11_within : GoodIn wsX11_map (va_wsS RX11 113 yX11_within wsX11_within) := goodIn_app (goodIn_r _ [7, 8, 5] rfl (by decide +kernel)) ggX11_map_X11_within
set_option maxRecDepth 20000 in
theorem ggX11_map_X4_add : GoodIn wsX11_map wsX4_add := goodIn_r _ [14, 15, 16, 17, 30, 31, 32] rfl (by decide +kernel)
set_option maxRecDepth 20000 in
theorem gX11_map_X4_add : GoodIn wsX11_map (wsV RX11 276 RX4 yX4_add wsX4_add) := goodIn_app (goodIn_r _ [10, 11, 12, 13] rfl (by decide +kernel)) ggX11_map_X4_add
set_option maxRecDepth 20000 in
theorem SX11_map : ∀ p : Nat, gb cX11_map p = segF [[27, 184, 0, 98, 153, 0, 14, 28, 3, 19, 1, 19, 184, 0, 113, 154, 0, 5, 2, 172, 42, 180, 0, 47, 27, 28, 182, 1, 20, 172]] p := seg_gb (S := [[27, 184, 0, 98, 153, 0, 14, 28, 3, 19, 1, 19, 184, 0, 113, 154, 0, 5, 2, 172, 42, 180, 0, 47, 27, 28, 182, 1, 20, 172]]) (by decide +kernel) (by decide +kernel)
set_option maxRecDepth 20000 in
theorem BX11_map_1_0 : ∀ q ∈ ([(0, 27), (7, 28), (8, 3), (18, 2), (19, 172), (20, 42), (24, 27), (25, 28), (29, 172)] : List (Nat × Nat)), gb cX11_map q.1 = some q.2 := seg_1 SX11_map _ (by decide +kernel)
set_option maxRecDepth 20000 in
theorem BX11_map_3_0 : ∀ q ∈ ([(1, 184, 0, 98), (4, 153, 0, 14), (9, 19, 1, 19), (12, 184, 0, 113), (15, 154, 0, 5), (21, 180, 0, 47), (26, 182, 1, 20)] : List (Nat × Nat × Nat × Nat)), gb cX11_map q.1 = some q.2.1 ∧ gb cX11_map (q.1 + 1) = some q.2.2.1 ∧ gb cX11_map (q.1 + 2) = some q.2.2.2 := seg_3 SX11_map _ (by decide +kernel)
theorem dX11_map_0 : decode cX11_map 0 = .ok (.iload_n 1, 1) := dk27 (BX11_map_1_0 (0, 27) (List.mem_of_getElem? (i := 0) rfl))
theorem dX11_map_1 : decode cX11_map 1 = .ok (.invokestatic 98, 3) := dk184 0 98 (BX11_map_3_0 (1, 184, 0, 98) (List.mem_of_getElem? (i := 0) rfl))
theorem dX11_map_4 : decode cX11_map 4 = .ok (.ifCond .eq 14, 3) := dk153 0 14 (BX11_map_3_0 (4, 153, 0, 14) (List.mem_of_getElem? (i := 1) rfl))
theorem dX11_map_7 : decode cX11_map 7 = .ok (.iload_n 2, 1) := dk28 (BX11_map_1_0 (7, 28) (List.mem_of_getElem? (i := 1) rfl))
theorem dX11_map_8 : decode cX11_map 8 = .ok (.iconst 0, 1) := dk3 (BX11_map_1_0 (8, 3) (List.mem_of_getElem? (i := 2) rfl))
theorem dX11_map_9 : decode cX11_map 9 = .ok (.ldc_w 275, 3) := dk19 1 19 (BX11_map_3_0 (9, 19, 1, 19) (List.mem_of_getElem? (i := 2) rfl))
theorem dX11_map_12 : decode cX11_map 12 = .ok (.invokestatic 113, 3) := dk184 0 113 (BX11_map_3_0 (12, 184, 0, 113) (List.mem_of_getElem? (i := 3) rfl))
theorem dX11_map_15 : decode cX11_map 15 = .ok (.ifCond .ne 5, 3) := dk154 0 5 (BX11_map_3_0 (15, 154, 0, 5) (List.mem_of_getElem? (i := 4) rfl))
theorem dX11_map_18 : decode cX11_map 18 = .ok (.iconst (-1), 1) := dk2 (BX11_map_1_0 (18, 2) (List.mem_of_getElem? (i := 3) rfl))
theorem dX11_map_19 : decode cX11_map 19 = .ok (.ireturn, 1) := dk172 (BX11_map_1_0 (19, 172) (List.mem_of_getElem? (i := 4) rfl))
theorem dX11_map_20 : decode cX11_map 20 = .ok (.aload_n 0, 1) := dk42 (BX11_map_1_0 (20, 42) (List.mem_of_getElem? (i := 5) rfl))
theorem dX11_map_21 : decode cX11_map 21 = .ok (.getfield 47, 3) := dk180 0 47 (BX11_map_3_0 (21, 180, 0, 47) (List.mem_of_getElem? (i := 5) rfl))
theorem dX11_map_24 : decode cX11_map 24 = .ok (.iload_n 1, 1) := dk27 (BX11_map_1_0 (24, 27) (List.mem_of_getElem? (i := 6) rfl))
theorem dX11_map_25 : decode cX11_map 25 = .ok (.iload_n 2, 1) := dk28 (BX11_map_1_0 (25, 28) (List.mem_of_getElem? (i := 7) rfl))
theorem dX11_map_26 : decode cX11_map 26 = .ok (.invokevirtual 276, 3) := dk182 1 20 (BX11_map_3_0 (26, 182, 1, 20) (List.mem_of_getElem? (i := 6) rfl))
theorem dX11_map_29 : decode cX11_map 29 = .ok (.ireturn, 1) := dk172 (BX11_map_1_0 (29, 172) (List.mem_of_getElem? (i := 8) rfl))
set_option maxRecDepth 20000 in
theorem ggX11_father_X4_isMap : GoodIn wsX11_father wsX4_isMap := gcons (goodIn_g ch_wsX11_father_flat gd_wsX11_father _ [(1, 5)] rfl) (goodIn_app (goodIn_g ch_wsX11_father_flat gd_wsX11_father _ [(1, 6), (1, 7), (1, 8), (1, 9)] rfl) (gchunk ch_wsX11_father_flat gd_wsX11_father 4 rfl))
set_option maxRecDepth 20000 in
theorem gX11_father_X4_isMap : GoodIn wsX11_father (wsV RX11 277 RX4 yX4_isMap wsX4_isMap) := goodIn_app (goodIn_g ch_wsX11_father_flat gd_wsX11_father _ [(1, 1), (1, 2), (1, 3), (1, 4)] rfl) ggX11_father_X4_isMap
set_option maxRecDepth 20000 in
theorem ggX11_father_X11_isBit : GoodIn wsX11_father wsX11_isBit := goodIn_g ch_wsX11_father_flat gd_wsX11_father _ [(1, 12)] rfl
set_option maxRecDepth 20000 in
theorem gX11_father_X11_isBit : GoodIn wsX11_father (va_wsS RX11 144 yX11_isBit wsX11_isBit) := goodIn_app (goodIn_g ch_wsX11_father_flat gd_wsX11_father _ [(1, 10), (1, 11), (1, 8)] rfl) ggX11_father_X11_isBit
set_option maxRecDepth 20000 in
theorem ggX11_father_X4_fatherOf : GoodIn wsX11_father wsX4_fatherOf := gcons (goodIn_g ch_wsX11_father_flat gd_wsX11_father _ [(1, 16)] rfl) (goodIn_app (goodIn_g ch_wsX11_father_flat gd_wsX11_father _ [(1, 6), (1, 17), (1, 18), (1, 19), (1, 20), (1, 4), (1, 21), (1, 22), (1, 23), (2, 0), (2, 1), (2, 2), (2, 3), (2, 4), (2, 5), (2, 6), (2, 7), (2, 8), (2, 9)] rfl) (gchunk ch_wsX11_father_flat gd_wsX11_father 4 rfl))
set_option maxRecDepth 20000 in
theorem gX11_father_X4_fatherOf : GoodIn wsX11_father (wsV RX11 280 RX4 yX4_fatherOf wsX4_fatherOf) := goodIn_app (goodIn_g ch_wsX11_father_flat gd_wsX11_father _ [(1, 13), (1, 14), (1, 15), (1, 4)] rfl) ggX11_father_X4_fatherOf
set_option maxRecDepth 20000 in
theorem ggX11_father_X4_apart : GoodIn wsX11_father wsX4_apart := gcons (goodIn_g ch_wsX11_father_flat gd_wsX11_father _ [(2, 1)] rfl) (goodIn_app (goodIn_g ch_wsX11_father_flat gd_wsX11_father _ [(2, 2), (2, 3), (2, 4), (2, 5), (2, 6), (2, 7), (2, 8), (2, 9)] rfl) (gchunk ch_wsX11_father_flat gd_wsX11_father 4 rfl))
set_option maxRecDepth 20000 in
theorem gX11_father_X4_apart : GoodIn wsX11_father (wsV RX11 283 RX4 yX4_apart wsX4_apart) := goodIn_app (goodIn_g ch_wsX11_father_flat gd_wsX11_father _ [(2, 10), (1, 23), (2, 0), (1, 4)] rfl) ggX11_father_X4_apart
set_option maxRecDepth 20000 in
theorem SX11_father : ∀ p : Nat, gb cX11_father p = segF [[42, 180, 0, 47, 27, 182, 1, 21, 153, 0, 10, 28, 184, 0, 144, 154, 0, 5, 2, 172, 42, 180, 0, 47, 27, 182, 1, 24, 62, 29, 156, 0, 6, 16, 254, 172, 28, 154, 0, 7, 29, 167, 0, 12, 42, 180, 0, 47, 27, 29, 182, 1, 27, 172]] p := seg_gb (S := [[42, 180, 0, 47, 27, 182, 1, 21, 153, 0, 10, 28, 184, 0, 144, 154, 0, 5, 2, 172, 42, 180, 0, 47, 27, 182, 1, 24, 62, 29, 156, 0, 6, 16, 254, 172, 28, 154, 0, 7, 29, 167, 0, 12, 42, 180, 0, 47, 27, 29, 182, 1, 27, 172]]) (by decide +kernel) (by decide +kernel)
set_option maxRecDepth 20000 in
theorem BX11_father_1_0 : ∀ q ∈ ([(0, 42), (4, 27), (11, 28), (18, 2), (19, 172), (20, 42), (24, 27), (28, 62), (29, 29), (35, 172), (36, 28), (40, 29)] : List (Nat × Nat)), gb cX11_father q.1 = some q.2 := seg_1 SX11_father _ (by decide +kernel)
set_option maxRecDepth 20000 in
theorem BX11_father_1_1 : ∀ q ∈ ([(44, 42), (48, 27), (49, 29), (53, 172)] : List (Nat × Nat)), gb cX11_father q.1 = some q.2 := seg_1 SX11_father _ (by decide +kernel)
set_option maxRecDepth 20000 in
theorem BX11_father_2_0 : ∀ q ∈ ([(33, 16, 254)] : List (Nat × Nat × Nat)), gb cX11_father q.1 = some q.2.1 ∧ gb cX11_father (q.1 + 1) = some q.2.2 := seg_2 SX11_father _ (by decide +kernel)
set_option maxRecDepth 20000 in
theorem BX11_father_3_0 : ∀ q ∈ ([(1, 180, 0, 47), (5, 182, 1, 21), (8, 153, 0, 10), (12, 184, 0, 144), (15, 154, 0, 5), (21, 180, 0, 47), (25, 182, 1, 24), (30, 156, 0, 6), (37, 154, 0, 7), (41, 167, 0, 12), (45, 180, 0, 47), (50, 182, 1, 27)] : List (Nat × Nat × Nat × Nat)), gb cX11_father q.1 = some q.2.1 ∧ gb cX11_father (q.1 + 1) = some q.2.2.1 ∧ gb cX11_father (q.1 + 2) = some q.2.2.2 := seg_3 SX11_father _ (by decide +kernel)
theorem dX11_father_0 : decode cX11_father 0 = .ok (.aload_n 0, 1) := dk42 (BX11_father_1_0 (0, 42) (List.mem_of_getElem? (i := 0) rfl))
theorem dX11_father_1 : decode cX11_father 1 = .ok (.getfield 47, 3) := dk180 0 47 (BX11_father_3_0 (1, 180, 0, 47) (List.mem_of_getElem? (i := 0) rfl))
theorem dX11_father_4 : decode cX11_father 4 = .ok (.iload_n 1, 1) := dk27 (BX11_father_1_0 (4, 27) (List.mem_of_getElem? (i := 1) rfl))
theorem dX11_father_5 : decode cX11_father 5 = .ok (.invokevirtual 277, 3) := dk182 1 21 (BX11_father_3_0 (5, 182, 1, 21) (List.mem_of_getElem? (i := 1) rfl))
theorem dX11_father_8 : decode cX11_father 8 = .ok (.ifCond .eq 10, 3) := dk153 0 10 (BX11_father_3_0 (8, 153, 0, 10) (List.mem_of_getElem? (i := 2) rfl))
theorem dX11_father_11 : decode cX11_father 11 = .ok (.iload_n 2, 1) := dk28 (BX11_father_1_0 (11, 28) (List.mem_of_getElem? (i := 2) rfl))
theorem dX11_father_12 : decode cX11_father 12 = .ok (.invokestatic 144, 3) := dk184 0 144 (BX11_father_3_0 (12, 184, 0, 144) (List.mem_of_getElem? (i := 3) rfl))
theorem dX11_father_15 : decode cX11_father 15 = .ok (.ifCond .ne 5, 3) := dk154 0 5 (BX11_father_3_0 (15, 154, 0, 5) (List.mem_of_getElem? (i := 4) rfl))
theorem dX11_father_18 : decode cX11_father 18 = .ok (.iconst (-1), 1) := dk2 (BX11_father_1_0 (18, 2) (List.mem_of_getElem? (i := 3) rfl))
theorem dX11_father_19 : decode cX11_father 19 = .ok (.ireturn, 1) := dk172 (BX11_father_1_0 (19, 172) (List.mem_of_getElem? (i := 4) rfl))
theorem dX11_father_20 : decode cX11_father 20 = .ok (.aload_n 0, 1) := dk42 (BX11_father_1_0 (20, 42) (List.mem_of_getElem? (i := 5) rfl))
theorem dX11_father_21 : decode cX11_father 21 = .ok (.getfield 47, 3) := dk180 0 47 (BX11_father_3_0 (21, 180, 0, 47) (List.mem_of_getElem? (i := 5) rfl))
theorem dX11_father_24 : decode cX11_father 24 = .ok (.iload_n 1, 1) := dk27 (BX11_father_1_0 (24, 27) (List.mem_of_getElem? (i := 6) rfl))
theorem dX11_father_25 : decode cX11_father 25 = .ok (.invokevirtual 280, 3) := dk182 1 24 (BX11_father_3_0 (25, 182, 1, 24) (List.mem_of_getElem? (i := 6) rfl))
theorem dX11_father_28 : decode cX11_father 28 = .ok (.istore_n 3, 1) := dk62 (BX11_father_1_0 (28, 62) (List.mem_of_getElem? (i := 7) rfl))
theorem dX11_father_29 : decode cX11_father 29 = .ok (.iload_n 3, 1) := dk29 (BX11_father_1_0 (29, 29) (List.mem_of_getElem? (i := 8) rfl))
theorem dX11_father_30 : decode cX11_father 30 = .ok (.ifCond .ge 6, 3) := dk156 0 6 (BX11_father_3_0 (30, 156, 0, 6) (List.mem_of_getElem? (i := 7) rfl))
theorem dX11_father_33 : decode cX11_father 33 = .ok (.bipush (-2), 2) := dk16 254 (BX11_father_2_0 (33, 16, 254) (List.mem_of_getElem? (i := 0) rfl))
theorem dX11_father_35 : decode cX11_father 35 = .ok (.ireturn, 1) := dk172 (BX11_father_1_0 (35, 172) (List.mem_of_getElem? (i := 9) rfl))
theorem dX11_father_36 : decode cX11_father 36 = .ok (.iload_n 2, 1) := dk28 (BX11_father_1_0 (36, 28) (List.mem_of_getElem? (i := 10) rfl))
theorem dX11_father_37 : decode cX11_father 37 = .ok (.ifCond .ne 7, 3) := dk154 0 7 (BX11_father_3_0 (37, 154, 0, 7) (List.mem_of_getElem? (i := 8) rfl))
theorem dX11_father_40 : decode cX11_father 40 = .ok (.iload_n 3, 1) := dk29 (BX11_father_1_0 (40, 29) (List.mem_of_getElem? (i := 11) rfl))
theorem dX11_father_41 : decode cX11_father 41 = .ok (.goto 12, 3) := dk167 0 12 (BX11_father_3_0 (41, 167, 0, 12) (List.mem_of_getElem? (i := 9) rfl))
theorem dX11_father_44 : decode cX11_father 44 = .ok (.aload_n 0, 1) := dk42 (BX11_father_1_1 (44, 42) (List.mem_of_getElem? (i := 0) rfl))
theorem dX11_father_45 : decode cX11_father 45 = .ok (.getfield 47, 3) := dk180 0 47 (BX11_father_3_0 (45, 180, 0, 47) (List.mem_of_getElem? (i := 10) rfl))
theorem dX11_father_48 : decode cX11_father 48 = .ok (.iload_n 1, 1) := dk27 (BX11_father_1_1 (48, 27) (List.mem_of_getElem? (i := 1) rfl))
theorem dX11_father_49 : decode cX11_father 49 = .ok (.iload_n 3, 1) := dk29 (BX11_father_1_1 (49, 29) (List.mem_of_getElem? (i := 2) rfl))
theorem dX11_father_50 : decode cX11_father 50 = .ok (.invokevirtual 283, 3) := dk182 1 27 (BX11_father_3_0 (50, 182, 1, 27) (List.mem_of_getElem? (i := 11) rfl))
theorem dX11_father_53 : decode cX11_father 53 = .ok (.ireturn, 1) := dk172 (BX11_father_1_1 (53, 172) (List.mem_of_getElem? (i := 3) rfl))
set_option maxRecDepth 20000 in
theorem ggX11_hangs_X4_isMap : GoodIn wsX11_hangs wsX4_isMap := gcons (goodIn_g ch_wsX11_hangs_flat gd_wsX11_hangs _ [(1, 5)] rfl) (goodIn_app (goodIn_g ch_wsX11_hangs_flat gd_wsX11_hangs _ [(1, 6), (1, 7), (1, 8), (1, 9)] rfl) (gchunk ch_wsX11_hangs_flat gd_wsX11_hangs 4 rfl))
set_option maxRecDepth 20000 in
theorem gX11_hangs_X4_isMap : GoodIn wsX11_hangs (wsV RX11 277 RX4 yX4_isMap wsX4_isMap) := goodIn_app (goodIn_g ch_wsX11_hangs_flat gd_wsX11_hangs _ [(1, 1), (1, 2), (1, 3), (1, 4)] rfl) ggX11_hangs_X4_isMap
set_option maxRecDepth 20000 in
theorem ggX11_hangs_X4_leadsTo : GoodIn wsX11_hangs wsX4_leadsTo := gcons (goodIn_g ch_wsX11_hangs_flat gd_wsX11_hangs _ [(1, 13)] rfl) (goodIn_app (goodIn_g ch_wsX11_hangs_flat gd_wsX11_hangs _ [(1, 6), (1, 14), (1, 15), (1, 16), (1, 4), (1, 17), (1, 18), (1, 19), (1, 20), (1, 21), (1, 22), (1, 23), (2, 0), (2, 1), (2, 2), (2, 3), (2, 4), (2, 5), (2, 6), (2, 7), (2, 8), (2, 9), (2, 10)] rfl) (gchunk ch_wsX11_hangs_flat gd_wsX11_hangs 4 rfl))
set_option maxRecDepth 20000 in
theorem gX11_hangs_X4_leadsTo : GoodIn wsX11_hangs (wsV RX11 286 RX4 yX4_leadsTo wsX4_leadsTo) := goodIn_app (goodIn_g ch_wsX11_hangs_flat gd_wsX11_hangs _ [(1, 10), (1, 11), (1, 12), (1, 4)] rfl) ggX11_hangs_X4_leadsTo
set_option maxRecDepth 20000 in
theorem ggX11_hangs_X11_asBit : GoodIn wsX11_hangs wsX11_asBit := goodIn_g ch_wsX11_hangs_flat gd_wsX11_hangs _ [(2, 13)] rfl
set_option maxRecDepth 20000 in
theorem gX11_hangs_X11_asBit : GoodIn wsX11_hangs (va_wsS RX11 162 yX11_asBit wsX11_asBit) := goodIn_app (goodIn_g ch_wsX11_hangs_flat gd_wsX11_hangs _ [(2, 11), (2, 12), (1, 8)] rfl) ggX11_hangs_X11_asBit
set_option maxRecDepth 20000 in
theorem SX11_hangs : ∀ p : Nat, gb cX11_hangs p = segF [[27, 16, 10, 108, 61, 27, 16, 10, 112, 62, 42, 180, 0, 47, 28, 182, 1, 21, 153, 0, 14, 42, 180, 0, 47, 29, 182, 1, 21, 154, 0, 5, 2, 172, 42, 180, 0, 47, 28, 29, 182, 1, 30, 184, 0, 162, 172]] p := seg_gb (S := [[27, 16, 10, 108, 61, 27, 16, 10, 112, 62, 42, 180, 0, 47, 28, 182, 1, 21, 153, 0, 14, 42, 180, 0, 47, 29, 182, 1, 21, 154, 0, 5, 2, 172, 42, 180, 0, 47, 28, 29, 182, 1, 30, 184, 0, 162, 172]]) (by decide +kernel) (by decide +kernel)
set_option maxRecDepth 20000 in
theorem BX11_hangs_1_0 : ∀ q ∈ ([(0, 27), (3, 108), (4, 61), (5, 27), (8, 112), (9, 62), (10, 42), (14, 28), (21, 42), (25, 29), (32, 2), (33, 172)] : List (Nat × Nat)), gb cX11_hangs q.1 = some q.2 := seg_1 SX11_hangs _ (by decide +kernel)
set_option maxRecDepth 20000 in
theorem BX11_hangs_1_1 : ∀ q ∈ ([(34, 42), (38, 28), (39, 29), (46, 172)] : List (Nat × Nat)), gb cX11_hangs q.1 = some q.2 := seg_1 SX11_hangs _ (by decide +kernel)
set_option maxRecDepth 20000 in
theorem BX11_hangs_2_0 : ∀ q ∈ ([(1, 16, 10), (6, 16, 10)] : List (Nat × Nat × Nat)), gb cX11_hangs q.1 = some q.2.1 ∧ gb cX11_hangs (q.1 + 1) = some q.2.2 := seg_2 SX11_hangs _ (by decide +kernel)
set_option maxRecDepth 20000 in
theorem BX11_hangs_3_0 : ∀ q ∈ ([(11, 180, 0, 47), (15, 182, 1, 21), (18, 153, 0, 14), (22, 180, 0, 47), (26, 182, 1, 21), (29, 154, 0, 5), (35, 180, 0, 47), (40, 182, 1, 30), (43, 184, 0, 162)] : List (Nat × Nat × Nat × Nat)), gb cX11_hangs q.1 = some q.2.1 ∧ gb cX11_hangs (q.1 + 1) = some q.2.2.1 ∧ gb cX11_hangs (q.1 + 2) = some q.2.2.2 := seg_3 SX11_hangs _ (by decide +kernel)
theorem dX11_hangs_0 : decode cX11_hangs 0 = .ok (.iload_n 1, 1) := dk27 (BX11_hangs_1_0 (0, 27) (List.mem_of_getElem? (i := 0) rfl))
theorem dX11_hangs_1 : decode cX11_hangs 1 = .ok (.bipush 10, 2) := dk16 10 (BX11_hangs_2_0 (1, 16, 10) (List.mem_of_getElem? (i := 0) rfl))
theorem dX11_hangs_3 : decode cX11_hangs 3 = .ok (.idiv, 1) := dk108 (BX11_hangs_1_0 (3, 108) (List.mem_of_getElem? (i := 1) rfl))
theorem dX11_hangs_4 : decode cX11_hangs 4 = .ok (.istore_n 2, 1) := dk61 (BX11_hangs_1_0 (4, 61) (List.mem_of_getElem? (i := 2) rfl))
theorem dX11_hangs_5 : decode cX11_hangs 5 = .ok (.iload_n 1, 1) := dk27 (BX11_hangs_1_0 (5, 27) (List.mem_of_getElem? (i := 3) rfl))
theorem dX11_hangs_6 : decode cX11_hangs 6 = .ok (.bipush 10, 2) := dk16 10 (BX11_hangs_2_0 (6, 16, 10) (List.mem_of_getElem? (i := 1) rfl))
theorem dX11_hangs_8 : decode cX11_hangs 8 = .ok (.irem, 1) := dk112 (BX11_hangs_1_0 (8, 112) (List.mem_of_getElem? (i := 4) rfl))
theorem dX11_hangs_9 : decode cX11_hangs 9 = .ok (.istore_n 3, 1) := dk62 (BX11_hangs_1_0 (9, 62) (List.mem_of_getElem? (i := 5) rfl))
theorem dX11_hangs_10 : decode cX11_hangs 10 = .ok (.aload_n 0, 1) := dk42 (BX11_hangs_1_0 (10, 42) (List.mem_of_getElem? (i := 6) rfl))
theorem dX11_hangs_11 : decode cX11_hangs 11 = .ok (.getfield 47, 3) := dk180 0 47 (BX11_hangs_3_0 (11, 180, 0, 47) (List.mem_of_getElem? (i := 0) rfl))
theorem dX11_hangs_14 : decode cX11_hangs 14 = .ok (.iload_n 2, 1) := dk28 (BX11_hangs_1_0 (14, 28) (List.mem_of_getElem? (i := 7) rfl))
theorem dX11_hangs_15 : decode cX11_hangs 15 = .ok (.invokevirtual 277, 3) := dk182 1 21 (BX11_hangs_3_0 (15, 182, 1, 21) (List.mem_of_getElem? (i := 1) rfl))
theorem dX11_hangs_18 : decode cX11_hangs 18 = .ok (.ifCond .eq 14, 3) := dk153 0 14 (BX11_hangs_3_0 (18, 153, 0, 14) (List.mem_of_getElem? (i := 2) rfl))
theorem dX11_hangs_21 : decode cX11_hangs 21 = .ok (.aload_n 0, 1) := dk42 (BX11_hangs_1_0 (21, 42) (List.mem_of_getElem? (i := 8) rfl))
theorem dX11_hangs_22 : decode cX11_hangs 22 = .ok (.getfield 47, 3) := dk180 0 47 (BX11_hangs_3_0 (22, 180, 0, 47) (List.mem_of_getElem? (i := 3) rfl))
theorem dX11_hangs_25 : decode cX11_hangs 25 = .ok (.iload_n 3, 1) := dk29 (BX11_hangs_1_0 (25, 29) (List.mem_of_getElem? (i := 9) rfl))
theorem dX11_hangs_26 : decode cX11_hangs 26 = .ok (.invokevirtual 277, 3) := dk182 1 21 (BX11_hangs_3_0 (26, 182, 1, 21) (List.mem_of_getElem? (i := 4) rfl))
theorem dX11_hangs_29 : decode cX11_hangs 29 = .ok (.ifCond .ne 5, 3) := dk154 0 5 (BX11_hangs_3_0 (29, 154, 0, 5) (List.mem_of_getElem? (i := 5) rfl))
theorem dX11_hangs_32 : decode cX11_hangs 32 = .ok (.iconst (-1), 1) := dk2 (BX11_hangs_1_0 (32, 2) (List.mem_of_getElem? (i := 10) rfl))
theorem dX11_hangs_33 : decode cX11_hangs 33 = .ok (.ireturn, 1) := dk172 (BX11_hangs_1_0 (33, 172) (List.mem_of_getElem? (i := 11) rfl))
theorem dX11_hangs_34 : decode cX11_hangs 34 = .ok (.aload_n 0, 1) := dk42 (BX11_hangs_1_1 (34, 42) (List.mem_of_getElem? (i := 0) rfl))
theorem dX11_hangs_35 : decode cX11_hangs 35 = .ok (.getfield 47, 3) := dk180 0 47 (BX11_hangs_3_0 (35, 180, 0, 47) (List.mem_of_getElem? (i := 6) rfl))
theorem dX11_hangs_38 : decode cX11_hangs 38 = .ok (.iload_n 2, 1) := dk28 (BX11_hangs_1_1 (38, 28) (List.mem_of_getElem? (i := 1) rfl))
theorem dX11_hangs_39 : decode cX11_hangs 39 = .ok (.iload_n 3, 1) := dk29 (BX11_hangs_1_1 (39, 29) (List.mem_of_getElem? (i := 2) rfl))
theorem dX11_hangs_40 : decode cX11_hangs 40 = .ok (.invokevirtual 286, 3) := dk182 1 30 (BX11_hangs_3_0 (40, 182, 1, 30) (List.mem_of_getElem? (i := 7) rfl))
theorem dX11_hangs_43 : decode cX11_hangs 43 = .ok (.invokestatic 162, 3) := dk184 0 162 (BX11_hangs_3_0 (43, 184, 0, 162) (List.mem_of_getElem? (i := 8) rfl))
theorem dX11_hangs_46 : decode cX11_hangs 46 = .ok (.ireturn, 1) := dk172 (BX11_hangs_1_1 (46, 172) (List.mem_of_getElem? (i := 3) rfl))
set_option maxRecDepth 20000 in
theorem ggX11_shared_X4_tree : GoodIn wsX11_shared wsX4_tree := gcons (goodIn_g ch_wsX11_shared_flat gd_wsX11_shared _ [(1, 5)] rfl) (goodIn_app (goodIn_g ch_wsX11_shared_flat gd_wsX11_shared _ [(1, 6), (1, 7), (1, 8), (1, 9), (1, 4), (1, 10), (1, 11), (1, 12), (1, 13), (1, 14), (1, 15), (1, 16), (1, 17), (1, 18), (1, 19), (1, 20), (1, 21), (1, 22), (1, 23), (2, 0), (2, 1), (2, 2), (2, 3)] rfl) (gchunk ch_wsX11_shared_flat gd_wsX11_shared 4 rfl))
set_option maxRecDepth 20000 in
theorem gX11_shared_X4_tree : GoodIn wsX11_shared (wsV RX11 289 RX4 yX4_tree wsX4_tree) := goodIn_app (goodIn_g ch_wsX11_shared_flat gd_wsX11_shared _ [(1, 1), (1, 2), (1, 3), (1, 4)] rfl) ggX11_shared_X4_tree
set_option maxRecDepth 20000 in
theorem ggX11_shared_X4_isMap : GoodIn wsX11_shared wsX4_isMap := gcons (goodIn_g ch_wsX11_shared_flat gd_wsX11_shared _ [(2, 7)] rfl) (goodIn_app (goodIn_g ch_wsX11_shared_flat gd_wsX11_shared _ [(1, 6), (2, 8), (2, 9), (2, 10)] rfl) (gchunk ch_wsX11_shared_flat gd_wsX11_shared 4 rfl))
set_option maxRecDepth 20000 in
theorem gX11_shared_X4_isMap : GoodIn wsX11_shared (wsV RX11 277 RX4 yX4_isMap wsX4_isMap) := goodIn_app (goodIn_g ch_wsX11_shared_flat gd_wsX11_shared _ [(2, 4), (2, 5), (2, 6), (1, 4)] rfl) ggX11_shared_X4_isMap
set_option maxRecDepth 20000 in
theorem ggX11_shared_X4_sharedSlips : GoodIn wsX11_shared wsX4_sharedSlips := gcons (goodIn_g ch_wsX11_shared_flat gd_wsX11_shared _ [(2, 14)] rfl) (goodIn_app (goodIn_g ch_wsX11_shared_flat gd_wsX11_shared _ [(1, 20), (1, 6)] rfl) (gchunk ch_wsX11_shared_flat gd_wsX11_shared 4 rfl))
set_option maxRecDepth 20000 in
theorem gX11_shared_X4_sharedSlips : GoodIn wsX11_shared (wsV RX11 292 RX4 yX4_sharedSlips wsX4_sharedSlips) := goodIn_app (goodIn_g ch_wsX11_shared_flat gd_wsX11_shared _ [(2, 11), (2, 12), (2, 13), (1, 4)] rfl) ggX11_shared_X4_sharedSlips
set_option maxRecDepth 20000 in
theorem SX11_shared : ∀ p : Nat, gb cX11_shared p = segF [[27, 2, 160, 0, 11, 42, 180, 0, 47, 182, 1, 33, 172, 27, 16, 10, 108, 61, 27, 16, 10, 112, 62, 42, 180, 0, 47, 28, 182, 1, 21, 153, 0, 19, 42, 180, 0, 47, 29, 182, 1, 21, 153, 0, 8, 28, 29, 160, 0, 5, 2, 172, 42, 180, 0, 47, 28, 29, 182, 1, 36, 172]] p := seg_gb (S := [[27, 2, 160, 0, 11, 42, 180, 0, 47, 182, 1, 33, 172, 27, 16, 10, 108, 61, 27, 16, 10, 112, 62, 42, 180, 0, 47, 28, 182, 1, 21, 153, 0, 19, 42, 180, 0, 47, 29, 182, 1, 21, 153, 0, 8, 28, 29, 160, 0, 5, 2, 172, 42, 180, 0, 47, 28, 29, 182, 1, 36, 172]]) (by decide +kernel) (by decide +kernel)
set_option maxRecDepth 20000 in
theorem BX11_shared_1_0 : ∀ q ∈ ([(0, 27), (1, 2), (5, 42), (12, 172), (13, 27), (16, 108), (17, 61), (18, 27), (21, 112), (22, 62), (23, 42), (27, 28)] : List (Nat × Nat)), gb cX11_shared q.1 = some q.2 := seg_1 SX11_shared _ (by decide +kernel)
set_option maxRecDepth 20000 in
theorem BX11_shared_1_1 : ∀ q ∈ ([(34, 42), (38, 29), (45, 28), (46, 29), (50, 2), (51, 172), (52, 42), (56, 28), (57, 29), (61, 172)] : List (Nat × Nat)), gb cX11_shared q.1 = some q.2 := seg_1 SX11_shared _ (by decide +kernel)
set_option maxRecDepth 20000 in
theorem BX11_shared_2_0 : ∀ q ∈ ([(14, 16, 10), (19, 16, 10)] : List (Nat × Nat × Nat)), gb cX11_shared q.1 = some q.2.1 ∧ gb cX11_shared (q.1 + 1) = some q.2.2 := seg_2 SX11_shared _ (by decide +kernel)
set_option maxRecDepth 20000 in
theorem BX11_shared_3_0 : ∀ q ∈ ([(2, 160, 0, 11), (6, 180, 0, 47), (9, 182, 1, 33), (24, 180, 0, 47), (28, 182, 1, 21), (31, 153, 0, 19), (35, 180, 0, 47), (39, 182, 1, 21), (42, 153, 0, 8), (47, 160, 0, 5), (53, 180, 0, 47), (58, 182, 1, 36)] : List (Nat × Nat × Nat × Nat)), gb cX11_shared q.1 = some q.2.1 ∧ gb cX11_shared (q.1 + 1) = some q.2.2.1 ∧ gb cX11_shared (q.1 + 2) = some q.2.2.2 := seg_3 SX11_shared _ (by decide +kernel)
theorem dX11_shared_0 : decode cX11_shared 0 = .ok (.iload_n 1, 1) := dk27 (BX11_shared_1_0 (0, 27) (List.mem_of_getElem? (i := 0) rfl))
theorem dX11_shared_1 : decode cX11_shared 1 = .ok (.iconst (-1), 1) := dk2 (BX11_shared_1_0 (1, 2) (List.mem_of_getElem? (i := 1) rfl))
theorem dX11_shared_2 : decode cX11_shared 2 = .ok (.if_icmp .ne 11, 3) := dk160 0 11 (BX11_shared_3_0 (2, 160, 0, 11) (List.mem_of_getElem? (i := 0) rfl))
theorem dX11_shared_5 : decode cX11_shared 5 = .ok (.aload_n 0, 1) := dk42 (BX11_shared_1_0 (5, 42) (List.mem_of_getElem? (i := 2) rfl))
theorem dX11_shared_6 : decode cX11_shared 6 = .ok (.getfield 47, 3) := dk180 0 47 (BX11_shared_3_0 (6, 180, 0, 47) (List.mem_of_getElem? (i := 1) rfl))
theorem dX11_shared_9 : decode cX11_shared 9 = .ok (.invokevirtual 289, 3) := dk182 1 33 (BX11_shared_3_0 (9, 182, 1, 33) (List.mem_of_getElem? (i := 2) rfl))
theorem dX11_shared_12 : decode cX11_shared 12 = .ok (.ireturn, 1) := dk172 (BX11_shared_1_0 (12, 172) (List.mem_of_getElem? (i := 3) rfl))
theorem dX11_shared_13 : decode cX11_shared 13 = .ok (.iload_n 1, 1) := dk27 (BX11_shared_1_0 (13, 27) (List.mem_of_getElem? (i := 4) rfl))
theorem dX11_shared_14 : decode cX11_shared 14 = .ok (.bipush 10, 2) := dk16 10 (BX11_shared_2_0 (14, 16, 10) (List.mem_of_getElem? (i := 0) rfl))
theorem dX11_shared_16 : decode cX11_shared 16 = .ok (.idiv, 1) := dk108 (BX11_shared_1_0 (16, 108) (List.mem_of_getElem? (i := 5) rfl))
theorem dX11_shared_17 : decode cX11_shared 17 = .ok (.istore_n 2, 1) := dk61 (BX11_shared_1_0 (17, 61) (List.mem_of_getElem? (i := 6) rfl))
theorem dX11_shared_18 : decode cX11_shared 18 = .ok (.iload_n 1, 1) := dk27 (BX11_shared_1_0 (18, 27) (List.mem_of_getElem? (i := 7) rfl))
theorem dX11_shared_19 : decode cX11_shared 19 = .ok (.bipush 10, 2) := dk16 10 (BX11_shared_2_0 (19, 16, 10) (List.mem_of_getElem? (i := 1) rfl))
theorem dX11_shared_21 : decode cX11_shared 21 = .ok (.irem, 1) := dk112 (BX11_shared_1_0 (21, 112) (List.mem_of_getElem? (i := 8) rfl))
theorem dX11_shared_22 : decode cX11_shared 22 = .ok (.istore_n 3, 1) := dk62 (BX11_shared_1_0 (22, 62) (List.mem_of_getElem? (i := 9) rfl))
theorem dX11_shared_23 : decode cX11_shared 23 = .ok (.aload_n 0, 1) := dk42 (BX11_shared_1_0 (23, 42) (List.mem_of_getElem? (i := 10) rfl))
theorem dX11_shared_24 : decode cX11_shared 24 = .ok (.getfield 47, 3) := dk180 0 47 (BX11_shared_3_0 (24, 180, 0, 47) (List.mem_of_getElem? (i := 3) rfl))
theorem dX11_shared_27 : decode cX11_shared 27 = .ok (.iload_n 2, 1) := dk28 (BX11_shared_1_0 (27, 28) (List.mem_of_getElem? (i := 11) rfl))
theorem dX11_shared_28 : decode cX11_shared 28 = .ok (.invokevirtual 277, 3) := dk182 1 21 (BX11_shared_3_0 (28, 182, 1, 21) (List.mem_of_getElem? (i := 4) rfl))
theorem dX11_shared_31 : decode cX11_shared 31 = .ok (.ifCond .eq 19, 3) := dk153 0 19 (BX11_shared_3_0 (31, 153, 0, 19) (List.mem_of_getElem? (i := 5) rfl))
theorem dX11_shared_34 : decode cX11_shared 34 = .ok (.aload_n 0, 1) := dk42 (BX11_shared_1_1 (34, 42) (List.mem_of_getElem? (i := 0) rfl))
theorem dX11_shared_35 : decode cX11_shared 35 = .ok (.getfield 47, 3) := dk180 0 47 (BX11_shared_3_0 (35, 180, 0, 47) (List.mem_of_getElem? (i := 6) rfl))
theorem dX11_shared_38 : decode cX11_shared 38 = .ok (.iload_n 3, 1) := dk29 (BX11_shared_1_1 (38, 29) (List.mem_of_getElem? (i := 1) rfl))
theorem dX11_shared_39 : decode cX11_shared 39 = .ok (.invokevirtual 277, 3) := dk182 1 21 (BX11_shared_3_0 (39, 182, 1, 21) (List.mem_of_getElem? (i := 7) rfl))
theorem dX11_shared_42 : decode cX11_shared 42 = .ok (.ifCond .eq 8, 3) := dk153 0 8 (BX11_shared_3_0 (42, 153, 0, 8) (List.mem_of_getElem? (i := 8) rfl))
theorem dX11_shared_45 : decode cX11_shared 45 = .ok (.iload_n 2, 1) := dk28 (BX11_shared_1_1 (45, 28) (List.mem_of_getElem? (i := 2) rfl))
theorem dX11_shared_46 : decode cX11_shared 46 = .ok (.iload_n 3, 1) := dk29 (BX11_shared_1_1 (46, 29) (List.mem_of_getElem? (i := 3) rfl))
theorem dX11_shared_47 : decode cX11_shared 47 = .ok (.if_icmp .ne 5, 3) := dk160 0 5 (BX11_shared_3_0 (47, 160, 0, 5) (List.mem_of_getElem? (i := 9) rfl))
theorem dX11_shared_50 : decode cX11_shared 50 = .ok (.iconst (-1), 1) := dk2 (BX11_shared_1_1 (50, 2) (List.mem_of_getElem? (i := 4) rfl))
theorem dX11_shared_51 : decode cX11_shared 51 = .ok (.ireturn, 1) := dk172 (BX11_shared_1_1 (51, 172) (List.mem_of_getElem? (i := 5) rfl))
theorem dX11_shared_52 : decode cX11_shared 52 = .ok (.aload_n 0, 1) := dk42 (BX11_shared_1_1 (52, 42) (List.mem_of_getElem? (i := 6) rfl))
theorem dX11_shared_53 : decode cX11_shared 53 = .ok (.getfield 47, 3) := dk180 0 47 (BX11_shared_3_0 (53, 180, 0, 47) (List.mem_of_getElem? (i := 10) rfl))
theorem dX11_shared_56 : decode cX11_shared 56 = .ok (.iload_n 2, 1) := dk28 (BX11_shared_1_1 (56, 28) (List.mem_of_getElem? (i := 7) rfl))
theorem dX11_shared_57 : decode cX11_shared 57 = .ok (.iload_n 3, 1) := dk29 (BX11_shared_1_1 (57, 29) (List.mem_of_getElem? (i := 8) rfl))
theorem dX11_shared_58 : decode cX11_shared 58 = .ok (.invokevirtual 292, 3) := dk182 1 36 (BX11_shared_3_0 (58, 182, 1, 36) (List.mem_of_getElem? (i := 11) rfl))
theorem dX11_shared_61 : decode cX11_shared 61 = .ok (.ireturn, 1) := dk172 (BX11_shared_1_1 (61, 172) (List.mem_of_getElem? (i := 9) rfl))
set_option maxRecDepth 20000 in
theorem ggX11_feed_X11_within : GoodIn wsX11_feed wsX11_within := goodIn_g ch_wsX11_feed_flat gd_wsX11_feed _ [(1, 4)] rfl
set_option maxRecDepth 20000 in
theorem gX11_feed_X11_within : GoodIn wsX11_feed (va_wsS RX11 113 yX11_within wsX11_within) := goodIn_app (goodIn_g ch_wsX11_feed_flat gd_wsX11_feed _ [(1, 1), (1, 2), (1, 3)] rfl) ggX11_feed_X11_within
set_option maxRecDepth 20000 in
theorem ggX11_feed_X10_take : GoodIn wsX11_feed wsX10_take := gcons (goodIn_g ch_wsX11_feed_flat gd_wsX11_feed _ [(1, 9)] rfl) (goodIn_app (goodIn_g ch_wsX11_feed_flat gd_wsX11_feed _ [(1, 10), (1, 11), (1, 12), (1, 13), (1, 14), (1, 15), (1, 16), (1, 17), (1, 18), (1, 19), (1, 20), (1, 21), (1, 22), (1, 23), (2, 0), (2, 1), (2, 2), (2, 3), (2, 4), (2, 5), (2, 6)] rfl) (gchunk ch_wsX11_feed_flat gd_wsX11_feed 4 rfl))
set_option maxRecDepth 20000 in
theorem gX11_feed_X10_take : GoodIn wsX11_feed (wsV RX11 295 RX10 yX10_take wsX10_take) := goodIn_app (goodIn_g ch_wsX11_feed_flat gd_wsX11_feed _ [(1, 5), (1, 6), (1, 7), (1, 8)] rfl) ggX11_feed_X10_take
set_option maxRecDepth 20000 in
theorem SX11_feed : ∀ p : Nat, gb cX11_feed p = segF [[27, 4, 7, 184, 0, 113, 154, 0, 5, 2, 172, 42, 180, 0, 54, 27, 28, 182, 1, 39, 172]] p := seg_gb (S := [[27, 4, 7, 184, 0, 113, 154, 0, 5, 2, 172, 42, 180, 0, 54, 27, 28, 182, 1, 39, 172]]) (by decide +kernel) (by decide +kernel)
set_option maxRecDepth 20000 in
theorem BX11_feed_1_0 : ∀ q ∈ ([(0, 27), (1, 4), (2, 7), (9, 2), (10, 172), (11, 42), (15, 27), (16, 28), (20, 172)] : List (Nat × Nat)), gb cX11_feed q.1 = some q.2 := seg_1 SX11_feed _ (by decide +kernel)
set_option maxRecDepth 20000 in
theorem BX11_feed_3_0 : ∀ q ∈ ([(3, 184, 0, 113), (6, 154, 0, 5), (12, 180, 0, 54), (17, 182, 1, 39)] : List (Nat × Nat × Nat × Nat)), gb cX11_feed q.1 = some q.2.1 ∧ gb cX11_feed (q.1 + 1) = some q.2.2.1 ∧ gb cX11_feed (q.1 + 2) = some q.2.2.2 := seg_3 SX11_feed _ (by decide +kernel)
theorem dX11_feed_0 : decode cX11_feed 0 = .ok (.iload_n 1, 1) := dk27 (BX11_feed_1_0 (0, 27) (List.mem_of_getElem? (i := 0) rfl))
theorem dX11_feed_1 : decode cX11_feed 1 = .ok (.iconst 1, 1) := dk4 (BX11_feed_1_0 (1, 4) (List.mem_of_getElem? (i := 1) rfl))
theorem dX11_feed_2 : decode cX11_feed 2 = .ok (.iconst 4, 1) := dk7 (BX11_feed_1_0 (2, 7) (List.mem_of_getElem? (i := 2) rfl))
theorem dX11_feed_3 : decode cX11_feed 3 = .ok (.invokestatic 113, 3) := dk184 0 113 (BX11_feed_3_0 (3, 184, 0, 113) (List.mem_of_getElem? (i := 0) rfl))
theorem dX11_feed_6 : decode cX11_feed 6 = .ok (.ifCond .ne 5, 3) := dk154 0 5 (BX11_feed_3_0 (6, 154, 0, 5) (List.mem_of_getElem? (i := 1) rfl))
theorem dX11_feed_9 : decode cX11_feed 9 = .ok (.iconst (-1), 1) := dk2 (BX11_feed_1_0 (9, 2) (List.mem_of_getElem? (i := 3) rfl))
theorem dX11_feed_10 : decode cX11_feed 10 = .ok (.ireturn, 1) := dk172 (BX11_feed_1_0 (10, 172) (List.mem_of_getElem? (i := 4) rfl))
theorem dX11_feed_11 : decode cX11_feed 11 = .ok (.aload_n 0, 1) := dk42 (BX11_feed_1_0 (11, 42) (List.mem_of_getElem? (i := 5) rfl))
theorem dX11_feed_12 : decode cX11_feed 12 = .ok (.getfield 54, 3) := dk180 0 54 (BX11_feed_3_0 (12, 180, 0, 54) (List.mem_of_getElem? (i := 2) rfl))
theorem dX11_feed_15 : decode cX11_feed 15 = .ok (.iload_n 1, 1) := dk27 (BX11_feed_1_0 (15, 27) (List.mem_of_getElem? (i := 6) rfl))
theorem dX11_feed_16 : decode cX11_feed 16 = .ok (.iload_n 2, 1) := dk28 (BX11_feed_1_0 (16, 28) (List.mem_of_getElem? (i := 7) rfl))
theorem dX11_feed_17 : decode cX11_feed 17 = .ok (.invokevirtual 295, 3) := dk182 1 39 (BX11_feed_3_0 (17, 182, 1, 39) (List.mem_of_getElem? (i := 3) rfl))
theorem dX11_feed_20 : decode cX11_feed 20 = .ok (.ireturn, 1) := dk172 (BX11_feed_1_0 (20, 172) (List.mem_of_getElem? (i := 8) rfl))
set_option maxRecDepth 20000 in
theorem ggX11_story_X11_isYear : GoodIn wsX11_story wsX11_isYear := goodIn_g ch_wsX11_story_flat gd_wsX11_story _ [(1, 9), (1, 10), (1, 11), (1, 8), (1, 12)] rfl
set_option maxRecDepth 20000 in
theorem gX11_story_X11_isYear : GoodIn wsX11_story (va_wsS RX11 98 yX11_isYear wsX11_isYear) := goodIn_app (goodIn_g ch_wsX11_story_flat gd_wsX11_story _ [(1, 6), (1, 7), (1, 8)] rfl) ggX11_story_X11_isYear
set_option maxRecDepth 20000 in
theorem ggX11_story_X11_isPrior : GoodIn wsX11_story wsX11_isPrior := goodIn_g ch_wsX11_story_flat gd_wsX11_story _ [(1, 15), (1, 10), (1, 11), (1, 8), (1, 12)] rfl
set_option maxRecDepth 20000 in
theorem gX11_story_X11_isPrior : GoodIn wsX11_story (va_wsS RX11 298 yX11_isPrior wsX11_isPrior) := goodIn_app (goodIn_g ch_wsX11_story_flat gd_wsX11_story _ [(1, 13), (1, 14), (1, 8)] rfl) ggX11_story_X11_isPrior
set_option maxRecDepth 20000 in
theorem ggX11_story_X9_isFull : GoodIn wsX11_story wsX9_isFull := gcons (goodIn_g ch_wsX11_story_flat gd_wsX11_story _ [(1, 20)] rfl) (goodIn_app (goodIn_g ch_wsX11_story_flat gd_wsX11_story _ [(1, 21), (1, 22)] rfl) (gchunk ch_wsX11_story_flat gd_wsX11_story 10 rfl))
set_option maxRecDepth 20000 in
theorem gX11_story_X9_isFull : GoodIn wsX11_story (wsV RX11 301 RX9 yX9_isFull wsX9_isFull) := goodIn_app (goodIn_g ch_wsX11_story_flat gd_wsX11_story _ [(1, 16), (1, 17), (1, 18), (1, 19)] rfl) ggX11_story_X9_isFull
set_option maxRecDepth 20000 in
theorem ggX11_story_X10_read : GoodIn wsX11_story wsX10_read := gcons (goodIn_g ch_wsX11_story_flat gd_wsX11_story _ [(2, 3)] rfl) (goodIn_app (goodIn_app (goodIn_g ch_wsX11_story_flat gd_wsX11_story _ [(2, 4), (2, 5), (2, 6), (2, 7), (2, 8), (2, 9), (2, 10), (2, 11), (2, 2), (2, 12), (2, 13), (2, 14), (2, 15), (2, 16), (2, 17), (2, 18), (2, 19), (2, 20), (2, 21), (2, 22), (2, 23), (3, 0), (3, 1), (3, 2)] rfl) (goodIn_app (goodIn_g ch_wsX11_story_flat gd_wsX11_story _ [(3, 3), (3, 4), (3, 5), (3, 6), (3, 7), (3, 8), (3, 9), (3, 10), (3, 11), (3, 12), (3, 13), (3, 14), (3, 15), (3, 16), (3, 17), (3, 18), (3, 19), (3, 20), (3, 21), (3, 22), (3, 23), (4, 0), (4, 1), (4, 2)] rfl) (goodIn_app (goodIn_g ch_wsX11_story_flat gd_wsX11_story _ [(4, 3), (4, 4), (4, 5), (4, 6), (4, 7), (4, 8), (4, 9), (4, 10), (4, 11), (4, 12), (4, 13), (4, 14), (4, 15), (4, 16), (4, 17), (4, 18), (4, 19), (4, 20), (4, 21), (4, 22), (4, 23), (5, 0), (5, 1), (5, 2)] rfl) (goodIn_app (goodIn_g ch_wsX11_story_flat gd_wsX11_story _ [(5, 3), (5, 4), (5, 5), (5, 6), (5, 7), (5, 8), (5, 9), (5, 10), (5, 11), (5, 12), (5, 13), (5, 14), (5, 15), (5, 16), (5, 17), (5, 18), (5, 19), (5, 20), (5, 21), (5, 22), (5, 23), (6, 0), (6, 1), (6, 2)] rfl) (goodIn_app (goodIn_g ch_wsX11_story_flat gd_wsX11_story _ [(6, 3), (6, 4), (6, 5), (6, 6), (6, 7), (6, 8), (6, 9), (6, 10), (6, 11), (6, 12), (6, 13), (6, 14), (6, 15), (6, 16), (6, 17), (6, 18), (6, 19), (6, 20), (6, 21), (6, 22), (6, 23), (7, 0), (7, 1), (7, 2)] rfl) (goodIn_g ch_wsX11_story_flat gd_wsX11_story _ [(7, 3), (7, 4), (7, 5), (7, 6), (7, 7), (7, 8), (7, 9), (7, 10), (7, 11), (7, 12)] rfl)))))) (gchunk ch_wsX11_story_flat gd_wsX11_story 9 rfl))
set_option maxRecDepth 20000 in
theorem gX11_story_X10_read : GoodIn wsX11_story (wsV RX11 302 RX10 yX10_read wsX10_read) := goodIn_app (goodIn_g ch_wsX11_story_flat gd_wsX11_story _ [(1, 23), (2, 0), (2, 1), (2, 2)] rfl) ggX11_story_X10_read
set_option maxRecDepth 20000 in
theorem ggX11_story_X9_add : GoodIn wsX11_story wsX9_add := gcons (goodIn_g ch_wsX11_story_flat gd_wsX11_story _ [(7, 16)] rfl) (goodIn_app (goodIn_g ch_wsX11_story_flat gd_wsX11_story _ [(1, 22), (1, 21), (7, 17), (7, 18), (7, 19), (7, 20), (1, 17), (1, 18), (1, 19), (1, 20)] rfl) (gchunk ch_wsX11_story_flat gd_wsX11_story 10 rfl))
set_option maxRecDepth 20000 in
theorem gX11_story_X9_add : GoodIn wsX11_story (wsV RX11 315 RX9 yX9_add wsX9_add) := goodIn_app (goodIn_g ch_wsX11_story_flat gd_wsX11_story _ [(7, 13), (7, 14), (7, 15), (1, 19)] rfl) ggX11_story_X9_add
set_option maxRecDepth 20000 in
theorem SX11_story : ∀ p : Nat, gb cX11_story p = segF [[27, 184, 0, 98, 153, 0, 10, 28, 184, 1, 42, 154, 0, 5, 2, 172, 42, 180, 0, 61, 182, 1, 45, 153, 0, 6, 16, 253, 172, 42, 180, 0, 54, 182, 1, 46, 62, 42, 180, 0, 54, 3, 181, 1, 49, 29, 154, 0, 14, 16, 156, 42, 180, 0, 54, 180, 1, 50, 100, 172, 42, 180, 0, 61], [27, 28, 42, 180, 0, 54, 180, 1, 53, 42, 180, 0, 54, 180, 1, 56, 182, 1, 59, 172]] p := seg_gb (S := [[27, 184, 0, 98, 153, 0, 10, 28, 184, 1, 42, 154, 0, 5, 2, 172, 42, 180, 0, 61, 182, 1, 45, 153, 0, 6, 16, 253, 172, 42, 180, 0, 54, 182, 1, 46, 62, 42, 180, 0, 54, 3, 181, 1, 49, 29, 154, 0, 14, 16, 156, 42, 180, 0, 54, 180, 1, 50, 100, 172, 42, 180, 0, 61], [27, 28, 42, 180, 0, 54, 180, 1, 53, 42, 180, 0, 54, 180, 1, 56, 182, 1, 59, 172]]) (by decide +kernel) (by decide +kernel)
set_option maxRecDepth 20000 in
theorem BX11_story_1_0 : ∀ q ∈ ([(0, 27), (7, 28), (14, 2), (15, 172), (16, 42), (28, 172), (29, 42), (36, 62), (37, 42), (41, 3), (45, 29), (51, 42)] : List (Nat × Nat)), gb cX11_story q.1 = some q.2 := seg_1 SX11_story _ (by decide +kernel)
set_option maxRecDepth 20000 in
theorem BX11_story_1_1 : ∀ q ∈ ([(58, 100), (59, 172), (60, 42), (64, 27), (65, 28), (66, 42), (73, 42), (83, 172)] : List (Nat × Nat)), gb cX11_story q.1 = some q.2 := seg_1 SX11_story _ (by decide +kernel)
set_option maxRecDepth 20000 in
theorem BX11_story_2_0 : ∀ q ∈ ([(26, 16, 253), (49, 16, 156)] : List (Nat × Nat × Nat)), gb cX11_story q.1 = some q.2.1 ∧ gb cX11_story (q.1 + 1) = some q.2.2 := seg_2 SX11_story _ (by decide +kernel)
set_option maxRecDepth 20000 in
theorem BX11_story_3_0 : ∀ q ∈ ([(1, 184, 0, 98), (4, 153, 0, 10), (8, 184, 1, 42), (11, 154, 0, 5), (17, 180, 0, 61), (20, 182, 1, 45), (23, 153, 0, 6), (30, 180, 0, 54), (33, 182, 1, 46), (38, 180, 0, 54), (42, 181, 1, 49), (46, 154, 0, 14)] : List (Nat × Nat × Nat × Nat)), gb cX11_story q.1 = some q.2.1 ∧ gb cX11_story (q.1 + 1) = some q.2.2.1 ∧ gb cX11_story (q.1 + 2) = some q.2.2.2 := seg_3 SX11_story _ (by decide +kernel)
set_option maxRecDepth 20000 in
theorem BX11_story_3_1 : ∀ q ∈ ([(52, 180, 0, 54), (55, 180, 1, 50), (61, 180, 0, 61), (67, 180, 0, 54), (70, 180, 1, 53), (74, 180, 0, 54), (77, 180, 1, 56), (80, 182, 1, 59)] : List (Nat × Nat × Nat × Nat)), gb cX11_story q.1 = some q.2.1 ∧ gb cX11_story (q.1 + 1) = some q.2.2.1 ∧ gb cX11_story (q.1 + 2) = some q.2.2.2 := seg_3 SX11_story _ (by decide +kernel)
theorem dX11_story_0 : decode cX11_story 0 = .ok (.iload_n 1, 1) := dk27 (BX11_story_1_0 (0, 27) (List.mem_of_getElem? (i := 0) rfl))
theorem dX11_story_1 : decode cX11_story 1 = .ok (.invokestatic 98, 3) := dk184 0 98 (BX11_story_3_0 (1, 184, 0, 98) (List.mem_of_getElem? (i := 0) rfl))
theorem dX11_story_4 : decode cX11_story 4 = .ok (.ifCond .eq 10, 3) := dk153 0 10 (BX11_story_3_0 (4, 153, 0, 10) (List.mem_of_getElem? (i := 1) rfl))
theorem dX11_story_7 : decode cX11_story 7 = .ok (.iload_n 2, 1) := dk28 (BX11_story_1_0 (7, 28) (List.mem_of_getElem? (i := 1) rfl))
theorem dX11_story_8 : decode cX11_story 8 = .ok (.invokestatic 298, 3) := dk184 1 42 (BX11_story_3_0 (8, 184, 1, 42) (List.mem_of_getElem? (i := 2) rfl))
theorem dX11_story_11 : decode cX11_story 11 = .ok (.ifCond .ne 5, 3) := dk154 0 5 (BX11_story_3_0 (11, 154, 0, 5) (List.mem_of_getElem? (i := 3) rfl))
theorem dX11_story_14 : decode cX11_story 14 = .ok (.iconst (-1), 1) := dk2 (BX11_story_1_0 (14, 2) (List.mem_of_getElem? (i := 2) rfl))
theorem dX11_story_15 : decode cX11_story 15 = .ok (.ireturn, 1) := dk172 (BX11_story_1_0 (15, 172) (List.mem_of_getElem? (i := 3) rfl))
theorem dX11_story_16 : decode cX11_story 16 = .ok (.aload_n 0, 1) := dk42 (BX11_story_1_0 (16, 42) (List.mem_of_getElem? (i := 4) rfl))
theorem dX11_story_17 : decode cX11_story 17 = .ok (.getfield 61, 3) := dk180 0 61 (BX11_story_3_0 (17, 180, 0, 61) (List.mem_of_getElem? (i := 4) rfl))
theorem dX11_story_20 : decode cX11_story 20 = .ok (.invokevirtual 301, 3) := dk182 1 45 (BX11_story_3_0 (20, 182, 1, 45) (List.mem_of_getElem? (i := 5) rfl))
theorem dX11_story_23 : decode cX11_story 23 = .ok (.ifCond .eq 6, 3) := dk153 0 6 (BX11_story_3_0 (23, 153, 0, 6) (List.mem_of_getElem? (i := 6) rfl))
theorem dX11_story_26 : decode cX11_story 26 = .ok (.bipush (-3), 2) := dk16 253 (BX11_story_2_0 (26, 16, 253) (List.mem_of_getElem? (i := 0) rfl))
theorem dX11_story_28 : decode cX11_story 28 = .ok (.ireturn, 1) := dk172 (BX11_story_1_0 (28, 172) (List.mem_of_getElem? (i := 5) rfl))
theorem dX11_story_29 : decode cX11_story 29 = .ok (.aload_n 0, 1) := dk42 (BX11_story_1_0 (29, 42) (List.mem_of_getElem? (i := 6) rfl))
theorem dX11_story_30 : decode cX11_story 30 = .ok (.getfield 54, 3) := dk180 0 54 (BX11_story_3_0 (30, 180, 0, 54) (List.mem_of_getElem? (i := 7) rfl))
theorem dX11_story_33 : decode cX11_story 33 = .ok (.invokevirtual 302, 3) := dk182 1 46 (BX11_story_3_0 (33, 182, 1, 46) (List.mem_of_getElem? (i := 8) rfl))
theorem dX11_story_36 : decode cX11_story 36 = .ok (.istore_n 3, 1) := dk62 (BX11_story_1_0 (36, 62) (List.mem_of_getElem? (i := 7) rfl))
theorem dX11_story_37 : decode cX11_story 37 = .ok (.aload_n 0, 1) := dk42 (BX11_story_1_0 (37, 42) (List.mem_of_getElem? (i := 8) rfl))
theorem dX11_story_38 : decode cX11_story 38 = .ok (.getfield 54, 3) := dk180 0 54 (BX11_story_3_0 (38, 180, 0, 54) (List.mem_of_getElem? (i := 9) rfl))
theorem dX11_story_41 : decode cX11_story 41 = .ok (.iconst 0, 1) := dk3 (BX11_story_1_0 (41, 3) (List.mem_of_getElem? (i := 9) rfl))
theorem dX11_story_42 : decode cX11_story 42 = .ok (.putfield 305, 3) := dk181 1 49 (BX11_story_3_0 (42, 181, 1, 49) (List.mem_of_getElem? (i := 10) rfl))
theorem dX11_story_45 : decode cX11_story 45 = .ok (.iload_n 3, 1) := dk29 (BX11_story_1_0 (45, 29) (List.mem_of_getElem? (i := 10) rfl))
theorem dX11_story_46 : decode cX11_story 46 = .ok (.ifCond .ne 14, 3) := dk154 0 14 (BX11_story_3_0 (46, 154, 0, 14) (List.mem_of_getElem? (i := 11) rfl))
theorem dX11_story_49 : decode cX11_story 49 = .ok (.bipush (-100), 2) := dk16 156 (BX11_story_2_0 (49, 16, 156) (List.mem_of_getElem? (i := 1) rfl))
theorem dX11_story_51 : decode cX11_story 51 = .ok (.aload_n 0, 1) := dk42 (BX11_story_1_0 (51, 42) (List.mem_of_getElem? (i := 11) rfl))
theorem dX11_story_52 : decode cX11_story 52 = .ok (.getfield 54, 3) := dk180 0 54 (BX11_story_3_1 (52, 180, 0, 54) (List.mem_of_getElem? (i := 0) rfl))
theorem dX11_story_55 : decode cX11_story 55 = .ok (.getfield 306, 3) := dk180 1 50 (BX11_story_3_1 (55, 180, 1, 50) (List.mem_of_getElem? (i := 1) rfl))
theorem dX11_story_58 : decode cX11_story 58 = .ok (.isub, 1) := dk100 (BX11_story_1_1 (58, 100) (List.mem_of_getElem? (i := 0) rfl))
theorem dX11_story_59 : decode cX11_story 59 = .ok (.ireturn, 1) := dk172 (BX11_story_1_1 (59, 172) (List.mem_of_getElem? (i := 1) rfl))
theorem dX11_story_60 : decode cX11_story 60 = .ok (.aload_n 0, 1) := dk42 (BX11_story_1_1 (60, 42) (List.mem_of_getElem? (i := 2) rfl))
theorem dX11_story_61 : decode cX11_story 61 = .ok (.getfield 61, 3) := dk180 0 61 (BX11_story_3_1 (61, 180, 0, 61) (List.mem_of_getElem? (i := 2) rfl))
theorem dX11_story_64 : decode cX11_story 64 = .ok (.iload_n 1, 1) := dk27 (BX11_story_1_1 (64, 27) (List.mem_of_getElem? (i := 3) rfl))
theorem dX11_story_65 : decode cX11_story 65 = .ok (.iload_n 2, 1) := dk28 (BX11_story_1_1 (65, 28) (List.mem_of_getElem? (i := 4) rfl))
theorem dX11_story_66 : decode cX11_story 66 = .ok (.aload_n 0, 1) := dk42 (BX11_story_1_1 (66, 42) (List.mem_of_getElem? (i := 5) rfl))
theorem dX11_story_67 : decode cX11_story 67 = .ok (.getfield 54, 3) := dk180 0 54 (BX11_story_3_1 (67, 180, 0, 54) (List.mem_of_getElem? (i := 3) rfl))
theorem dX11_story_70 : decode cX11_story 70 = .ok (.getfield 309, 3) := dk180 1 53 (BX11_story_3_1 (70, 180, 1, 53) (List.mem_of_getElem? (i := 4) rfl))
theorem dX11_story_73 : decode cX11_story 73 = .ok (.aload_n 0, 1) := dk42 (BX11_story_1_1 (73, 42) (List.mem_of_getElem? (i := 6) rfl))
theorem dX11_story_74 : decode cX11_story 74 = .ok (.getfield 54, 3) := dk180 0 54 (BX11_story_3_1 (74, 180, 0, 54) (List.mem_of_getElem? (i := 5) rfl))
theorem dX11_story_77 : decode cX11_story 77 = .ok (.getfield 312, 3) := dk180 1 56 (BX11_story_3_1 (77, 180, 1, 56) (List.mem_of_getElem? (i := 6) rfl))
theorem dX11_story_80 : decode cX11_story 80 = .ok (.invokevirtual 315, 3) := dk182 1 59 (BX11_story_3_1 (80, 182, 1, 59) (List.mem_of_getElem? (i := 7) rfl))
theorem dX11_story_83 : decode cX11_story 83 = .ok (.ireturn, 1) := dk172 (BX11_story_1_1 (83, 172) (List.mem_of_getElem? (i := 7) rfl))
set_option maxRecDepth 20000 in
theorem ggX11_prior_X9_isStory : GoodIn wsX11_prior wsX9_isStory := gcons (goodIn_g ch_wsX11_prior_flat gd_wsX11_prior _ [(1, 5)] rfl) (goodIn_app (goodIn_g ch_wsX11_prior_flat gd_wsX11_prior _ [(1, 6), (1, 7), (1, 8), (1, 9)] rfl) (gchunk ch_wsX11_prior_flat gd_wsX11_prior 4 rfl))
set_option maxRecDepth 20000 in
theorem gX11_prior_X9_isStory : GoodIn wsX11_prior (wsV RX11 318 RX9 yX9_isStory wsX9_isStory) := goodIn_app (goodIn_g ch_wsX11_prior_flat gd_wsX11_prior _ [(1, 1), (1, 2), (1, 3), (1, 4)] rfl) ggX11_prior_X9_isStory
set_option maxRecDepth 20000 in
theorem ggX11_prior_X11_isPrior : GoodIn wsX11_prior wsX11_isPrior := goodIn_g ch_wsX11_prior_flat gd_wsX11_prior _ [(1, 12), (1, 13), (1, 7), (1, 8), (1, 9)] rfl
set_option maxRecDepth 20000 in
theorem gX11_prior_X11_isPrior : GoodIn wsX11_prior (va_wsS RX11 298 yX11_isPrior wsX11_isPrior) := goodIn_app (goodIn_g ch_wsX11_prior_flat gd_wsX11_prior _ [(1, 10), (1, 11), (1, 8)] rfl) ggX11_prior_X11_isPrior
set_option maxRecDepth 20000 in
theorem ggX11_prior_X11_change : GoodIn wsX11_prior wsX11_change := gcons (goodIn_g ch_wsX11_prior_flat gd_wsX11_prior _ [(1, 17)] rfl) (goodIn_app (goodIn_app (goodIn_app (goodIn_app (goodIn_app (goodIn_app (goodIn_g ch_wsX11_prior_flat gd_wsX11_prior _ [(1, 18), (1, 19), (1, 20), (1, 21), (1, 8), (1, 22), (1, 23), (2, 0), (1, 0), (2, 1), (2, 2), (2, 3), (1, 13), (1, 7), (1, 9), (2, 4), (2, 5), (2, 6), (2, 7), (2, 8), (2, 9), (2, 10), (2, 11), (2, 12)] rfl) (goodIn_g ch_wsX11_prior_flat gd_wsX11_prior _ [(2, 13), (2, 14), (2, 15), (2, 16), (2, 17), (2, 18), (2, 19), (2, 20), (2, 21), (2, 22)] rfl)) (gchunk ch_wsX11_prior_flat gd_wsX11_prior 3 rfl)) (gchunk ch_wsX11_prior_flat gd_wsX11_prior 5 rfl)) (gchunk ch_wsX11_prior_flat gd_wsX11_prior 4 rfl)) (gchunk ch_wsX11_prior_flat gd_wsX11_prior 6 rfl)) (gchunk ch_wsX11_prior_flat gd_wsX11_prior 7 rfl))
set_option maxRecDepth 20000 in
theorem gX11_prior_X11_change : GoodIn wsX11_prior (wsV RX11 109 RX11 yX11_change wsX11_change) := goodIn_app (goodIn_g ch_wsX11_prior_flat gd_wsX11_prior _ [(1, 14), (1, 15), (1, 16), (1, 8)] rfl) ggX11_prior_X11_change
set_option maxRecDepth 20000 in
theorem SX11_prior : ∀ p : Nat, gb cX11_prior p = segF [[42, 180, 0, 61, 27, 182, 1, 62, 153, 0, 10, 28, 184, 1, 42, 154, 0, 5, 2, 172, 42, 4, 27, 28, 182, 0, 109, 172]] p := seg_gb (S := [[42, 180, 0, 61, 27, 182, 1, 62, 153, 0, 10, 28, 184, 1, 42, 154, 0, 5, 2, 172, 42, 4, 27, 28, 182, 0, 109, 172]]) (by decide +kernel) (by decide +kernel)
set_option maxRecDepth 20000 in
theorem BX11_prior_1_0 : ∀ q ∈ ([(0, 42), (4, 27), (11, 28), (18, 2), (19, 172), (20, 42), (21, 4), (22, 27), (23, 28), (27, 172)] : List (Nat × Nat)), gb cX11_prior q.1 = some q.2 := seg_1 SX11_prior _ (by decide +kernel)
set_option maxRecDepth 20000 in
theorem BX11_prior_3_0 : ∀ q ∈ ([(1, 180, 0, 61), (5, 182, 1, 62), (8, 153, 0, 10), (12, 184, 1, 42), (15, 154, 0, 5), (24, 182, 0, 109)] : List (Nat × Nat × Nat × Nat)), gb cX11_prior q.1 = some q.2.1 ∧ gb cX11_prior (q.1 + 1) = some q.2.2.1 ∧ gb cX11_prior (q.1 + 2) = some q.2.2.2 := seg_3 SX11_prior _ (by decide +kernel)
theorem dX11_prior_0 : decode cX11_prior 0 = .ok (.aload_n 0, 1) := dk42 (BX11_prior_1_0 (0, 42) (List.mem_of_getElem? (i := 0) rfl))
theorem dX11_prior_1 : decode cX11_prior 1 = .ok (.getfield 61, 3) := dk180 0 61 (BX11_prior_3_0 (1, 180, 0, 61) (List.mem_of_getElem? (i := 0) rfl))
theorem dX11_prior_4 : decode cX11_prior 4 = .ok (.iload_n 1, 1) := dk27 (BX11_prior_1_0 (4, 27) (List.mem_of_getElem? (i := 1) rfl))
theorem dX11_prior_5 : decode cX11_prior 5 = .ok (.invokevirtual 318, 3) := dk182 1 62 (BX11_prior_3_0 (5, 182, 1, 62) (List.mem_of_getElem? (i := 1) rfl))
theorem dX11_prior_8 : decode cX11_prior 8 = .ok (.ifCond .eq 10, 3) := dk153 0 10 (BX11_prior_3_0 (8, 153, 0, 10) (List.mem_of_getElem? (i := 2) rfl))
theorem dX11_prior_11 : decode cX11_prior 11 = .ok (.iload_n 2, 1) := dk28 (BX11_prior_1_0 (11, 28) (List.mem_of_getElem? (i := 2) rfl))
theorem dX11_prior_12 : decode cX11_prior 12 = .ok (.invokestatic 298, 3) := dk184 1 42 (BX11_prior_3_0 (12, 184, 1, 42) (List.mem_of_getElem? (i := 3) rfl))
theorem dX11_prior_15 : decode cX11_prior 15 = .ok (.ifCond .ne 5, 3) := dk154 0 5 (BX11_prior_3_0 (15, 154, 0, 5) (List.mem_of_getElem? (i := 4) rfl))
theorem dX11_prior_18 : decode cX11_prior 18 = .ok (.iconst (-1), 1) := dk2 (BX11_prior_1_0 (18, 2) (List.mem_of_getElem? (i := 3) rfl))
theorem dX11_prior_19 : decode cX11_prior 19 = .ok (.ireturn, 1) := dk172 (BX11_prior_1_0 (19, 172) (List.mem_of_getElem? (i := 4) rfl))
theorem dX11_prior_20 : decode cX11_prior 20 = .ok (.aload_n 0, 1) := dk42 (BX11_prior_1_0 (20, 42) (List.mem_of_getElem? (i := 5) rfl))
theorem dX11_prior_21 : decode cX11_prior 21 = .ok (.iconst 1, 1) := dk4 (BX11_prior_1_0 (21, 4) (List.mem_of_getElem? (i := 6) rfl))
theorem dX11_prior_22 : decode cX11_prior 22 = .ok (.iload_n 1, 1) := dk27 (BX11_prior_1_0 (22, 27) (List.mem_of_getElem? (i := 7) rfl))
theorem dX11_prior_23 : decode cX11_prior 23 = .ok (.iload_n 2, 1) := dk28 (BX11_prior_1_0 (23, 28) (List.mem_of_getElem? (i := 8) rfl))
theorem dX11_prior_24 : decode cX11_prior 24 = .ok (.invokevirtual 109, 3) := dk182 0 109 (BX11_prior_3_0 (24, 182, 0, 109) (List.mem_of_getElem? (i := 5) rfl))
theorem dX11_prior_27 : decode cX11_prior 27 = .ok (.ireturn, 1) := dk172 (BX11_prior_1_0 (27, 172) (List.mem_of_getElem? (i := 9) rfl))
set_option maxRecDepth 20000 in
theorem ggX11_odds_X9_isStory : GoodIn wsX11_odds wsX9_isStory := gcons (goodIn_g ch_wsX11_odds_flat gd_wsX11_odds _ [(1, 6)] rfl) (goodIn_app (goodIn_g ch_wsX11_odds_flat gd_wsX11_odds _ [(1, 7), (1, 8), (1, 9), (1, 10)] rfl) (gchunk ch_wsX11_odds_flat gd_wsX11_odds 9 rfl))
set_option maxRecDepth 20000 in
theorem gX11_odds_X9_isStory : GoodIn wsX11_odds (wsV RX11 318 RX9 yX9_isStory wsX9_isStory) := goodIn_app (goodIn_g ch_wsX11_odds_flat gd_wsX11_odds _ [(1, 2), (1, 3), (1, 4), (1, 5)] rfl) ggX11_odds_X9_isStory
set_option maxRecDepth 20000 in
theorem ggX11_odds_X11_isBit : GoodIn wsX11_odds wsX11_isBit := goodIn_g ch_wsX11_odds_flat gd_wsX11_odds _ [(1, 13)] rfl
set_option maxRecDepth 20000 in
theorem gX11_odds_X11_isBit : GoodIn wsX11_odds (va_wsS RX11 144 yX11_isBit wsX11_isBit) := goodIn_app (goodIn_g ch_wsX11_odds_flat gd_wsX11_odds _ [(1, 11), (1, 12), (1, 9)] rfl) ggX11_odds_X11_isBit
set_option maxRecDepth 20000 in
theorem ggX11_odds_X11_weighStories : GoodIn wsX11_odds wsX11_weighStories := gcons (goodIn_g ch_wsX11_odds_flat gd_wsX11_odds _ [(1, 17)] rfl) (goodIn_app (goodIn_app (goodIn_app (goodIn_app (goodIn_app (goodIn_app (goodIn_app (goodIn_g ch_wsX11_odds_flat gd_wsX11_odds _ [(1, 18), (1, 19), (1, 20), (1, 21), (1, 22), (1, 23), (2, 0), (2, 1), (2, 2), (1, 0), (2, 3), (2, 4), (2, 5), (2, 6), (2, 7), (2, 8), (1, 9), (2, 9), (2, 10), (2, 11), (2, 12), (2, 13), (2, 14), (2, 15)] rfl) (goodIn_app (goodIn_g ch_wsX11_odds_flat gd_wsX11_odds _ [(2, 16), (2, 17), (2, 18), (2, 19), (2, 20), (2, 21), (2, 22), (2, 23), (3, 0), (3, 1), (3, 2), (3, 3), (3, 4), (3, 5), (3, 6), (3, 7), (3, 8), (3, 9), (3, 10), (3, 11), (3, 12), (3, 13), (3, 14), (3, 15)] rfl) (goodIn_app (goodIn_g ch_wsX11_odds_flat gd_wsX11_odds _ [(3, 16), (3, 17), (3, 18), (3, 19), (3, 20), (3, 21), (3, 22), (3, 23), (4, 0), (4, 1), (4, 2), (4, 3), (4, 4), (4, 5), (4, 6), (4, 7), (4, 8), (4, 9), (4, 10), (4, 11), (4, 12), (4, 13), (4, 14), (4, 15)] rfl) (goodIn_app (goodIn_g ch_wsX11_odds_flat gd_wsX11_odds _ [(4, 16), (4, 17), (4, 18), (4, 19), (4, 20), (4, 21), (4, 22), (4, 23), (5, 0), (5, 1), (5, 2), (5, 3), (5, 4), (5, 5), (5, 6), (5, 7), (5, 8), (5, 9), (5, 10), (5, 11), (5, 12), (5, 13), (5, 14), (5, 15)] rfl) (goodIn_app (goodIn_g ch_wsX11_odds_flat gd_wsX11_odds _ [(5, 16), (5, 17), (5, 18), (5, 19), (5, 20), (5, 21), (5, 22), (5, 23), (6, 0), (6, 1), (6, 2), (1, 5), (6, 3), (6, 4), (6, 5), (6, 6), (6, 7), (6, 8), (6, 9), (6, 10), (6, 11), (6, 12), (6, 13), (6, 14)] rfl) (goodIn_g ch_wsX11_odds_flat gd_wsX11_odds _ [(6, 15), (6, 16), (6, 17), (6, 18), (6, 19), (6, 20), (6, 21), (6, 22)] rfl)))))) (gchunk ch_wsX11_odds_flat gd_wsX11_odds 8 rfl)) (gchunk ch_wsX11_odds_flat gd_wsX11_odds 10 rfl)) (gchunk ch_wsX11_odds_flat gd_wsX11_odds 9 rfl)) (gchunk ch_wsX11_odds_flat gd_wsX11_odds 11 rfl)) (gchunk ch_wsX11_odds_flat gd_wsX11_odds 12 rfl)) (gchunk ch_wsX11_odds_flat gd_wsX11_odds 13 rfl))
set_option maxRecDepth 20000 in
theorem gX11_odds_X11_weighStories : GoodIn wsX11_odds (wsV RX11 321 RX11 yX11_weighStories wsX11_weighStories) := goodIn_app (goodIn_g ch_wsX11_odds_flat gd_wsX11_odds _ [(1, 14), (1, 15), (1, 16), (1, 9)] rfl) ggX11_odds_X11_weighStories
set_option maxRecDepth 20000 in
theorem ggX11_odds_X9_oddsOf : GoodIn wsX11_odds wsX9_oddsOf := gcons (goodIn_g ch_wsX11_odds_flat gd_wsX11_odds _ [(7, 2)] rfl) (goodIn_app (goodIn_g ch_wsX11_odds_flat gd_wsX11_odds _ [(1, 7), (7, 3), (6, 4)] rfl) (gchunk ch_wsX11_odds_flat gd_wsX11_odds 9 rfl))
set_option maxRecDepth 20000 in
theorem gX11_odds_X9_oddsOf : GoodIn wsX11_odds (wsV RX11 327 RX9 yX9_oddsOf wsX9_oddsOf) := goodIn_app (goodIn_g ch_wsX11_odds_flat gd_wsX11_odds _ [(6, 23), (7, 0), (7, 1), (1, 5)] rfl) ggX11_odds_X9_oddsOf
set_option maxRecDepth 20000 in
theorem SX11_odds : ∀ p : Nat, gb cX11_odds p = segF [[42, 180, 0, 61, 27, 182, 1, 62, 153, 0, 10, 28, 184, 0, 144, 154, 0, 5, 2, 172, 42, 182, 1, 65, 28, 154, 0, 15, 42, 180, 0, 61, 180, 1, 68, 27, 46, 167, 0, 11, 42, 180, 0, 61, 27, 182, 1, 71, 172]] p := seg_gb (S := [[42, 180, 0, 61, 27, 182, 1, 62, 153, 0, 10, 28, 184, 0, 144, 154, 0, 5, 2, 172, 42, 182, 1, 65, 28, 154, 0, 15, 42, 180, 0, 61, 180, 1, 68, 27, 46, 167, 0, 11, 42, 180, 0, 61, 27, 182, 1, 71, 172]]) (by decide +kernel) (by decide +kernel)
set_option maxRecDepth 20000 in
theorem BX11_odds_1_0 : ∀ q ∈ ([(0, 42), (4, 27), (11, 28), (18, 2), (19, 172), (20, 42), (24, 28), (28, 42), (35, 27), (36, 46), (40, 42), (44, 27)] : List (Nat × Nat)), gb cX11_odds q.1 = some q.2 := seg_1 SX11_odds _ (by decide +kernel)
set_option maxRecDepth 20000 in
theorem BX11_odds_1_1 : ∀ q ∈ ([(48, 172)] : List (Nat × Nat)), gb cX11_odds q.1 = some q.2 := seg_1 SX11_odds _ (by decide +kernel)
set_option maxRecDepth 20000 in
theorem BX11_odds_3_0 : ∀ q ∈ ([(1, 180, 0, 61), (5, 182, 1, 62), (8, 153, 0, 10), (12, 184, 0, 144), (15, 154, 0, 5), (21, 182, 1, 65), (25, 154, 0, 15), (29, 180, 0, 61), (32, 180, 1, 68), (37, 167, 0, 11), (41, 180, 0, 61), (45, 182, 1, 71)] : List (Nat × Nat × Nat × Nat)), gb cX11_odds q.1 = some q.2.1 ∧ gb cX11_odds (q.1 + 1) = some q.2.2.1 ∧ gb cX11_odds (q.1 + 2) = some q.2.2.2 := seg_3 SX11_odds _ (by decide +kernel)
theorem dX11_odds_0 : decode cX11_odds 0 = .ok (.aload_n 0, 1) := dk42 (BX11_odds_1_0 (0, 42) (List.mem_of_getElem? (i := 0) rfl))
theorem dX11_odds_1 : decode cX11_odds 1 = .ok (.getfield 61, 3) := dk180 0 61 (BX11_odds_3_0 (1, 180, 0, 61) (List.mem_of_getElem? (i := 0) rfl))
theorem dX11_odds_4 : decode cX11_odds 4 = .ok (.iload_n 1, 1) := dk27 (BX11_odds_1_0 (4, 27) (List.mem_of_getElem? (i := 1) rfl))
theorem dX11_odds_5 : decode cX11_odds 5 = .ok (.invokevirtual 318, 3) := dk182 1 62 (BX11_odds_3_0 (5, 182, 1, 62) (List.mem_of_getElem? (i := 1) rfl))
theorem dX11_odds_8 : decode cX11_odds 8 = .ok (.ifCond .eq 10, 3) := dk153 0 10 (BX11_odds_3_0 (8, 153, 0, 10) (List.mem_of_getElem? (i := 2) rfl))
theorem dX11_odds_11 : decode cX11_odds 11 = .ok (.iload_n 2, 1) := dk28 (BX11_odds_1_0 (11, 28) (List.mem_of_getElem? (i := 2) rfl))
theorem dX11_odds_12 : decode cX11_odds 12 = .ok (.invokestatic 144, 3) := dk184 0 144 (BX11_odds_3_0 (12, 184, 0, 144) (List.mem_of_getElem? (i := 3) rfl))
theorem dX11_odds_15 : decode cX11_odds 15 = .ok (.ifCond .ne 5, 3) := dk154 0 5 (BX11_odds_3_0 (15, 154, 0, 5) (List.mem_of_getElem? (i := 4) rfl))
theorem dX11_odds_18 : decode cX11_odds 18 = .ok (.iconst (-1), 1) := dk2 (BX11_odds_1_0 (18, 2) (List.mem_of_getElem? (i := 3) rfl))
theorem dX11_odds_19 : decode cX11_odds 19 = .ok (.ireturn, 1) := dk172 (BX11_odds_1_0 (19, 172) (List.mem_of_getElem? (i := 4) rfl))
theorem dX11_odds_20 : decode cX11_odds 20 = .ok (.aload_n 0, 1) := dk42 (BX11_odds_1_0 (20, 42) (List.mem_of_getElem? (i := 5) rfl))
theorem dX11_odds_21 : decode cX11_odds 21 = .ok (.invokevirtual 321, 3) := dk182 1 65 (BX11_odds_3_0 (21, 182, 1, 65) (List.mem_of_getElem? (i := 5) rfl))
theorem dX11_odds_24 : decode cX11_odds 24 = .ok (.iload_n 2, 1) := dk28 (BX11_odds_1_0 (24, 28) (List.mem_of_getElem? (i := 6) rfl))
theorem dX11_odds_25 : decode cX11_odds 25 = .ok (.ifCond .ne 15, 3) := dk154 0 15 (BX11_odds_3_0 (25, 154, 0, 15) (List.mem_of_getElem? (i := 6) rfl))
theorem dX11_odds_28 : decode cX11_odds 28 = .ok (.aload_n 0, 1) := dk42 (BX11_odds_1_0 (28, 42) (List.mem_of_getElem? (i := 7) rfl))
theorem dX11_odds_29 : decode cX11_odds 29 = .ok (.getfield 61, 3) := dk180 0 61 (BX11_odds_3_0 (29, 180, 0, 61) (List.mem_of_getElem? (i := 7) rfl))
theorem dX11_odds_32 : decode cX11_odds 32 = .ok (.getfield 324, 3) := dk180 1 68 (BX11_odds_3_0 (32, 180, 1, 68) (List.mem_of_getElem? (i := 8) rfl))
theorem dX11_odds_35 : decode cX11_odds 35 = .ok (.iload_n 1, 1) := dk27 (BX11_odds_1_0 (35, 27) (List.mem_of_getElem? (i := 8) rfl))
theorem dX11_odds_36 : decode cX11_odds 36 = .ok (.iaload, 1) := dk46 (BX11_odds_1_0 (36, 46) (List.mem_of_getElem? (i := 9) rfl))
theorem dX11_odds_37 : decode cX11_odds 37 = .ok (.goto 11, 3) := dk167 0 11 (BX11_odds_3_0 (37, 167, 0, 11) (List.mem_of_getElem? (i := 9) rfl))
theorem dX11_odds_40 : decode cX11_odds 40 = .ok (.aload_n 0, 1) := dk42 (BX11_odds_1_0 (40, 42) (List.mem_of_getElem? (i := 10) rfl))
theorem dX11_odds_41 : decode cX11_odds 41 = .ok (.getfield 61, 3) := dk180 0 61 (BX11_odds_3_0 (41, 180, 0, 61) (List.mem_of_getElem? (i := 10) rfl))
theorem dX11_odds_44 : decode cX11_odds 44 = .ok (.iload_n 1, 1) := dk27 (BX11_odds_1_0 (44, 27) (List.mem_of_getElem? (i := 11) rfl))
theorem dX11_odds_45 : decode cX11_odds 45 = .ok (.invokevirtual 327, 3) := dk182 1 71 (BX11_odds_3_0 (45, 182, 1, 71) (List.mem_of_getElem? (i := 11) rfl))
theorem dX11_odds_48 : decode cX11_odds 48 = .ok (.ireturn, 1) := dk172 (BX11_odds_1_1 (48, 172) (List.mem_of_getElem? (i := 0) rfl))
set_option maxRecDepth 20000 in
theorem ggX11_best_X11_weighStories : GoodIn wsX11_best wsX11_weighStories := gcons (goodIn_g ch_wsX11_best_flat gd_wsX11_best _ [(1, 6)] rfl) (goodIn_app (goodIn_app (goodIn_app (goodIn_app (goodIn_app (goodIn_app (goodIn_app (goodIn_g ch_wsX11_best_flat gd_wsX11_best _ [(1, 7), (1, 8), (1, 9), (1, 10), (1, 11), (1, 12), (1, 13), (1, 14), (1, 15), (1, 0), (1, 1), (1, 16), (1, 17), (1, 18), (1, 19), (1, 20), (1, 5), (1, 21), (1, 22), (1, 23), (2, 0), (2, 1), (2, 2), (2, 3)] rfl) (goodIn_app (goodIn_g ch_wsX11_best_flat gd_wsX11_best _ [(2, 4), (2, 5), (2, 6), (2, 7), (2, 8), (2, 9), (2, 10), (2, 11), (2, 12), (2, 13), (2, 14), (2, 15), (2, 16), (2, 17), (2, 18), (2, 19), (2, 20), (2, 21), (2, 22), (2, 23), (3, 0), (3, 1), (3, 2), (3, 3)] rfl) (goodIn_app (goodIn_g ch_wsX11_best_flat gd_wsX11_best _ [(3, 4), (3, 5), (3, 6), (3, 7), (3, 8), (3, 9), (3, 10), (3, 11), (3, 12), (3, 13), (3, 14), (3, 15), (3, 16), (3, 17), (3, 18), (3, 19), (3, 20), (3, 21), (3, 22), (3, 23), (4, 0), (4, 1), (4, 2), (4, 3)] rfl) (goodIn_app (goodIn_g ch_wsX11_best_flat gd_wsX11_best _ [(4, 4), (4, 5), (4, 6), (4, 7), (4, 8), (4, 9), (4, 10), (4, 11), (4, 12), (4, 13), (4, 14), (4, 15), (4, 16), (4, 17), (4, 18), (4, 19), (4, 20), (4, 21), (4, 22), (4, 23), (5, 0), (5, 1), (5, 2), (5, 3)] rfl) (goodIn_app (goodIn_g ch_wsX11_best_flat gd_wsX11_best _ [(5, 4), (5, 5), (5, 6), (5, 7), (5, 8), (5, 9), (5, 10), (5, 11), (5, 12), (5, 13), (5, 14), (5, 15), (5, 16), (5, 17), (5, 18), (5, 19), (5, 20), (5, 21), (5, 22), (5, 23), (6, 0), (6, 1), (6, 2), (6, 3)] rfl) (goodIn_g ch_wsX11_best_flat gd_wsX11_best _ [(6, 4), (6, 5), (6, 6), (6, 7), (6, 8), (6, 9), (6, 10), (6, 11)] rfl)))))) (gchunk ch_wsX11_best_flat gd_wsX11_best 7 rfl)) (gchunk ch_wsX11_best_flat gd_wsX11_best 9 rfl)) (gchunk ch_wsX11_best_flat gd_wsX11_best 8 rfl)) (gchunk ch_wsX11_best_flat gd_wsX11_best 10 rfl)) (gchunk ch_wsX11_best_flat gd_wsX11_best 11 rfl)) (gchunk ch_wsX11_best_flat gd_wsX11_best 12 rfl))
set_option maxRecDepth 20000 in
theorem gX11_best_X11_weighStories : GoodIn wsX11_best (wsV RX11 321 RX11 yX11_weighStories wsX11_weighStories) := goodIn_app (goodIn_g ch_wsX11_best_flat gd_wsX11_best _ [(1, 2), (1, 3), (1, 4), (1, 5)] rfl) ggX11_best_X11_weighStories
set_option maxRecDepth 20000 in
theorem ggX11_best_X9_bestOne : GoodIn wsX11_best wsX9_bestOne := gcons (goodIn_g ch_wsX11_best_flat gd_wsX11_best _ [(6, 15)] rfl) (goodIn_app (goodIn_g ch_wsX11_best_flat gd_wsX11_best _ [(6, 16), (6, 17), (5, 17)] rfl) (gchunk ch_wsX11_best_flat gd_wsX11_best 8 rfl))
set_option maxRecDepth 20000 in
theorem gX11_best_X9_bestOne : GoodIn wsX11_best (wsV RX11 331 RX9 yX9_bestOne wsX9_bestOne) := goodIn_app (goodIn_g ch_wsX11_best_flat gd_wsX11_best _ [(6, 12), (6, 13), (6, 14), (5, 15)] rfl) ggX11_best_X9_bestOne
set_option maxRecDepth 20000 in
theorem SX11_best : ∀ p : Nat, gb cX11_best p = segF [[42, 180, 0, 61, 180, 1, 74, 154, 0, 6, 16, 251, 172, 42, 182, 1, 65, 42, 180, 0, 61, 182, 1, 75, 172]] p := seg_gb (S := [[42, 180, 0, 61, 180, 1, 74, 154, 0, 6, 16, 251, 172, 42, 182, 1, 65, 42, 180, 0, 61, 182, 1, 75, 172]]) (by decide +kernel) (by decide +kernel)
set_option maxRecDepth 20000 in
theorem BX11_best_1_0 : ∀ q ∈ ([(0, 42), (12, 172), (13, 42), (17, 42), (24, 172)] : List (Nat × Nat)), gb cX11_best q.1 = some q.2 := seg_1 SX11_best _ (by decide +kernel)
set_option maxRecDepth 20000 in
theorem BX11_best_2_0 : ∀ q ∈ ([(10, 16, 251)] : List (Nat × Nat × Nat)), gb cX11_best q.1 = some q.2.1 ∧ gb cX11_best (q.1 + 1) = some q.2.2 := seg_2 SX11_best _ (by decide +kernel)
set_option maxRecDepth 20000 in
theorem BX11_best_3_0 : ∀ q ∈ ([(1, 180, 0, 61), (4, 180, 1, 74), (7, 154, 0, 6), (14, 182, 1, 65), (18, 180, 0, 61), (21, 182, 1, 75)] : List (Nat × Nat × Nat × Nat)), gb cX11_best q.1 = some q.2.1 ∧ gb cX11_best (q.1 + 1) = some q.2.2.1 ∧ gb cX11_best (q.1 + 2) = some q.2.2.2 := seg_3 SX11_best _ (by decide +kernel)
theorem dX11_best_0 : decode cX11_best 0 = .ok (.aload_n 0, 1) := dk42 (BX11_best_1_0 (0, 42) (List.mem_of_getElem? (i := 0) rfl))
theorem dX11_best_1 : decode cX11_best 1 = .ok (.getfield 61, 3) := dk180 0 61 (BX11_best_3_0 (1, 180, 0, 61) (List.mem_of_getElem? (i := 0) rfl))
theorem dX11_best_4 : decode cX11_best 4 = .ok (.getfield 330, 3) := dk180 1 74 (BX11_best_3_0 (4, 180, 1, 74) (List.mem_of_getElem? (i := 1) rfl))
theorem dX11_best_7 : decode cX11_best 7 = .ok (.ifCond .ne 6, 3) := dk154 0 6 (BX11_best_3_0 (7, 154, 0, 6) (List.mem_of_getElem? (i := 2) rfl))
theorem dX11_best_10 : decode cX11_best 10 = .ok (.bipush (-5), 2) := dk16 251 (BX11_best_2_0 (10, 16, 251) (List.mem_of_getElem? (i := 0) rfl))
theorem dX11_best_12 : decode cX11_best 12 = .ok (.ireturn, 1) := dk172 (BX11_best_1_0 (12, 172) (List.mem_of_getElem? (i := 1) rfl))
theorem dX11_best_13 : decode cX11_best 13 = .ok (.aload_n 0, 1) := dk42 (BX11_best_1_0 (13, 42) (List.mem_of_getElem? (i := 2) rfl))
theorem dX11_best_14 : decode cX11_best 14 = .ok (.invokevirtual 321, 3) := dk182 1 65 (BX11_best_3_0 (14, 182, 1, 65) (List.mem_of_getElem? (i := 3) rfl))
theorem dX11_best_17 : decode cX11_best 17 = .ok (.aload_n 0, 1) := dk42 (BX11_best_1_0 (17, 42) (List.mem_of_getElem? (i := 3) rfl))
theorem dX11_best_18 : decode cX11_best 18 = .ok (.getfield 61, 3) := dk180 0 61 (BX11_best_3_0 (18, 180, 0, 61) (List.mem_of_getElem? (i := 4) rfl))
theorem dX11_best_21 : decode cX11_best 21 = .ok (.invokevirtual 331, 3) := dk182 1 75 (BX11_best_3_0 (21, 182, 1, 75) (List.mem_of_getElem? (i := 5) rfl))
theorem dX11_best_24 : decode cX11_best 24 = .ok (.ireturn, 1) := dk172 (BX11_best_1_0 (24, 172) (List.mem_of_getElem? (i := 4) rfl))
set_option maxRecDepth 20000 in
theorem ggX11_next_X11_isStuff : GoodIn wsX11_next wsX11_isStuff := goodIn_g ch_wsX11_next_flat gd_wsX11_next _ [(1, 10), (1, 11), (1, 12), (1, 9), (1, 13)] rfl
set_option maxRecDepth 20000 in
theorem gX11_next_X11_isStuff : GoodIn wsX11_next (va_wsS RX11 218 yX11_isStuff wsX11_isStuff) := goodIn_app (goodIn_g ch_wsX11_next_flat gd_wsX11_next _ [(1, 7), (1, 8), (1, 9)] rfl) ggX11_next_X11_isStuff
set_option maxRecDepth 20000 in
theorem ggX11_next_X11_isBit : GoodIn wsX11_next wsX11_isBit := goodIn_g ch_wsX11_next_flat gd_wsX11_next _ [(1, 16)] rfl
set_option maxRecDepth 20000 in
theorem gX11_next_X11_isBit : GoodIn wsX11_next (va_wsS RX11 144 yX11_isBit wsX11_isBit) := goodIn_app (goodIn_g ch_wsX11_next_flat gd_wsX11_next _ [(1, 14), (1, 15), (1, 9)] rfl) ggX11_next_X11_isBit
set_option maxRecDepth 20000 in
theorem ggX11_next_X2_isFull : GoodIn wsX11_next wsX2_isFull := gcons (goodIn_g ch_wsX11_next_flat gd_wsX11_next _ [(1, 21)] rfl) (goodIn_app (goodIn_g ch_wsX11_next_flat gd_wsX11_next _ [(1, 22), (1, 23)] rfl) (gchunk ch_wsX11_next_flat gd_wsX11_next 11 rfl))
set_option maxRecDepth 20000 in
theorem gX11_next_X2_isFull : GoodIn wsX11_next (wsV RX11 233 RX2 yX2_isFull wsX2_isFull) := goodIn_app (goodIn_g ch_wsX11_next_flat gd_wsX11_next _ [(1, 17), (1, 18), (1, 19), (1, 20)] rfl) ggX11_next_X2_isFull
set_option maxRecDepth 20000 in
theorem ggX11_next_X11_weighStories : GoodIn wsX11_next wsX11_weighStories := gcons (goodIn_g ch_wsX11_next_flat gd_wsX11_next _ [(2, 3)] rfl) (goodIn_app (goodIn_app (goodIn_app (goodIn_app (goodIn_app (goodIn_app (goodIn_app (goodIn_g ch_wsX11_next_flat gd_wsX11_next _ [(2, 4), (2, 5), (1, 2), (1, 3), (1, 4), (1, 5), (1, 6), (2, 6), (2, 7), (1, 0), (1, 1), (2, 8), (2, 9), (2, 10), (2, 11), (2, 12), (1, 9), (2, 13), (2, 14), (2, 15), (2, 16), (2, 17), (2, 18), (2, 19)] rfl) (goodIn_app (goodIn_g ch_wsX11_next_flat gd_wsX11_next _ [(2, 20), (2, 21), (2, 22), (2, 23), (3, 0), (3, 1), (3, 2), (3, 3), (3, 4), (3, 5), (3, 6), (3, 7), (3, 8), (3, 9), (3, 10), (3, 11), (3, 12), (3, 13), (3, 14), (3, 15), (3, 16), (3, 17), (3, 18), (3, 19)] rfl) (goodIn_app (goodIn_g ch_wsX11_next_flat gd_wsX11_next _ [(3, 20), (3, 21), (3, 22), (3, 23), (4, 0), (4, 1), (4, 2), (4, 3), (4, 4), (4, 5), (4, 6), (4, 7), (4, 8), (4, 9), (4, 10), (4, 11), (1, 20), (4, 12), (1, 22), (4, 13), (4, 14), (1, 23), (4, 15), (4, 16)] rfl) (goodIn_app (goodIn_g ch_wsX11_next_flat gd_wsX11_next _ [(4, 17), (4, 18), (4, 19), (4, 20), (4, 21), (4, 22), (4, 23), (5, 0), (5, 1), (5, 2), (5, 3), (5, 4), (5, 5), (5, 6), (5, 7), (5, 8), (5, 9), (5, 10), (5, 11), (5, 12), (5, 13), (5, 14), (5, 15), (5, 16)] rfl) (goodIn_app (goodIn_g ch_wsX11_next_flat gd_wsX11_next _ [(5, 17), (5, 18), (5, 19), (5, 20), (5, 21), (5, 22), (5, 23), (6, 0), (6, 1), (6, 2), (6, 3), (6, 4), (6, 5), (6, 6), (6, 7), (6, 8), (6, 9), (6, 10), (6, 11), (6, 12), (6, 13), (6, 14), (6, 15), (6, 16)] rfl) (goodIn_g ch_wsX11_next_flat gd_wsX11_next _ [(6, 17), (6, 18), (6, 19), (6, 20), (6, 21), (6, 22), (6, 23), (7, 0)] rfl)))))) (gchunk ch_wsX11_next_flat gd_wsX11_next 9 rfl)) (gchunk ch_wsX11_next_flat gd_wsX11_next 12 rfl)) (gchunk ch_wsX11_next_flat gd_wsX11_next 10 rfl)) (gchunk ch_wsX11_next_flat gd_wsX11_next 13 rfl)) (gchunk ch_wsX11_next_flat gd_wsX11_next 11 rfl)) (gchunk ch_wsX11_next_flat gd_wsX11_next 14 rfl))
set_option maxRecDepth 20000 in
theorem gX11_next_X11_weighStories : GoodIn wsX11_next (wsV RX11 321 RX11 yX11_weighStories wsX11_weighStories) := goodIn_app (goodIn_g ch_wsX11_next_flat gd_wsX11_next _ [(2, 0), (2, 1), (2, 2), (1, 9)] rfl) ggX11_next_X11_weighStories
set_option maxRecDepth 20000 in
theorem ggX11_next_X9_bestOne : GoodIn wsX11_next wsX9_bestOne := gcons (goodIn_g ch_wsX11_next_flat gd_wsX11_next _ [(7, 4)] rfl) (goodIn_app (goodIn_g ch_wsX11_next_flat gd_wsX11_next _ [(7, 5), (7, 6), (6, 6)] rfl) (gchunk ch_wsX11_next_flat gd_wsX11_next 10 rfl))
set_option maxRecDepth 20000 in
theorem gX11_next_X9_bestOne : GoodIn wsX11_next (wsV RX11 331 RX9 yX9_bestOne wsX9_bestOne) := goodIn_app (goodIn_g ch_wsX11_next_flat gd_wsX11_next _ [(7, 1), (7, 2), (7, 3), (6, 4)] rfl) ggX11_next_X9_bestOne
set_option maxRecDepth 20000 in
theorem ggX11_next_X9_oddsOf : GoodIn wsX11_next wsX9_oddsOf := gcons (goodIn_g ch_wsX11_next_flat gd_wsX11_next _ [(7, 10)] rfl) (goodIn_app (goodIn_g ch_wsX11_next_flat gd_wsX11_next _ [(7, 5), (7, 6), (6, 6)] rfl) (gchunk ch_wsX11_next_flat gd_wsX11_next 10 rfl))
set_option maxRecDepth 20000 in
theorem gX11_next_X9_oddsOf : GoodIn wsX11_next (wsV RX11 327 RX9 yX9_oddsOf wsX9_oddsOf) := goodIn_app (goodIn_g ch_wsX11_next_flat gd_wsX11_next _ [(7, 7), (7, 8), (7, 9), (6, 4)] rfl) ggX11_next_X9_oddsOf
set_option maxRecDepth 20000 in
theorem ggX11_next_X11_movedBy : GoodIn wsX11_next wsX11_movedBy := gcons (goodIn_g ch_wsX11_next_flat gd_wsX11_next _ [(7, 14)] rfl) (goodIn_app (goodIn_app (goodIn_app (goodIn_app (goodIn_app (goodIn_app (goodIn_app (goodIn_g ch_wsX11_next_flat gd_wsX11_next _ [(1, 2), (1, 0), (7, 15), (7, 16), (1, 5), (7, 17), (7, 18), (7, 19), (7, 20), (1, 20), (7, 21), (4, 13), (1, 22), (4, 14), (1, 23), (7, 22), (1, 18), (1, 19), (1, 21), (2, 0), (2, 1), (2, 2), (1, 9), (2, 3)] rfl) (goodIn_app (goodIn_g ch_wsX11_next_flat gd_wsX11_next _ [(2, 4), (2, 5), (1, 3), (1, 4), (1, 6), (2, 6), (2, 7), (1, 1), (2, 8), (2, 9), (2, 10), (2, 11), (2, 12), (2, 13), (2, 14), (2, 15), (2, 16), (2, 17), (2, 18), (2, 19), (2, 20), (2, 21), (2, 22), (2, 23)] rfl) (goodIn_app (goodIn_g ch_wsX11_next_flat gd_wsX11_next _ [(3, 0), (3, 1), (3, 2), (3, 3), (3, 4), (3, 5), (3, 6), (3, 7), (3, 8), (3, 9), (3, 10), (3, 11), (3, 12), (3, 13), (3, 14), (3, 15), (3, 16), (3, 17), (3, 18), (3, 19), (3, 20), (3, 21), (3, 22), (3, 23)] rfl) (goodIn_app (goodIn_g ch_wsX11_next_flat gd_wsX11_next _ [(4, 0), (4, 1), (4, 2), (4, 3), (4, 4), (4, 5), (4, 6), (4, 7), (4, 8), (4, 9), (4, 10), (4, 11), (4, 12), (4, 15), (4, 16), (4, 17), (4, 18), (4, 19), (4, 20), (4, 21), (4, 22), (4, 23), (5, 0), (5, 1)] rfl) (goodIn_app (goodIn_g ch_wsX11_next_flat gd_wsX11_next _ [(5, 2), (5, 3), (5, 4), (5, 5), (5, 6), (5, 7), (5, 8), (5, 9), (5, 10), (5, 11), (5, 12), (5, 13), (5, 14), (5, 15), (5, 16), (5, 17), (5, 18), (5, 19), (5, 20), (5, 21), (5, 22), (5, 23), (6, 0), (6, 1)] rfl) (goodIn_app (goodIn_g ch_wsX11_next_flat gd_wsX11_next _ [(6, 2), (6, 3), (6, 4), (6, 5), (6, 6), (6, 7), (6, 8), (6, 9), (6, 10), (6, 11), (6, 12), (6, 13), (6, 14), (6, 15), (6, 16), (6, 17), (6, 18), (6, 19), (6, 20), (6, 21), (6, 22), (6, 23), (7, 0), (7, 23)] rfl) (goodIn_g ch_wsX11_next_flat gd_wsX11_next _ [(8, 0), (8, 1), (8, 2), (8, 3), (7, 7), (7, 8), (7, 9), (7, 10), (7, 5), (7, 6)] rfl))))))) (gchunk ch_wsX11_next_flat gd_wsX11_next 9 rfl)) (gchunk ch_wsX11_next_flat gd_wsX11_next 11 rfl)) (gchunk ch_wsX11_next_flat gd_wsX11_next 12 rfl)) (gchunk ch_wsX11_next_flat gd_wsX11_next 10 rfl)) (gchunk ch_wsX11_next_flat gd_wsX11_next 13 rfl)) (gchunk ch_wsX11_next_flat gd_wsX11_next 14 rfl))
set_option maxRecDepth 20000 in
theorem gX11_next_X11_movedBy : GoodIn wsX11_next (wsV RX11 334 RX11 yX11_movedBy wsX11_movedBy) := goodIn_app (goodIn_g ch_wsX11_next_flat gd_wsX11_next _ [(7, 11), (7, 12), (7, 13), (1, 9)] rfl) ggX11_next_X11_movedBy
set_option maxRecDepth 20000 in
theorem SX11_next : ∀ p : Nat, gb cX11_next p = segF [[27, 184, 0, 218, 153, 0, 10, 28, 184, 0, 144, 154, 0, 5, 2, 172, 42, 180, 0, 61, 180, 1, 74, 153, 0, 13, 42, 180, 0, 33, 182, 0, 233, 153, 0, 6, 16, 251, 172, 42, 182, 1, 65, 42, 180, 0, 61, 182, 1, 75, 62, 42, 180, 0, 61, 29, 182, 1, 71, 54, 4, 21, 4, 16], [254, 160, 0, 6, 16, 254, 172, 3, 54, 5, 2, 54, 6, 3, 54, 7, 21, 7, 16, 7, 163, 0, 49, 42, 21, 7, 3, 29, 21, 4, 182, 1, 78, 42, 21, 7, 27, 29, 21, 4, 182, 1, 78, 184, 1, 82, 54, 8, 21, 8, 21, 6, 164, 0, 11, 21, 7, 54, 5, 21, 8, 54, 6, 132], [7, 1, 167, 255, 206, 28, 154, 0, 8, 21, 5, 167, 0, 5, 21, 6, 172]] p := seg_gb (S := [[27, 184, 0, 218, 153, 0, 10, 28, 184, 0, 144, 154, 0, 5, 2, 172, 42, 180, 0, 61, 180, 1, 74, 153, 0, 13, 42, 180, 0, 33, 182, 0, 233, 153, 0, 6, 16, 251, 172, 42, 182, 1, 65, 42, 180, 0, 61, 182, 1, 75, 62, 42, 180, 0, 61, 29, 182, 1, 71, 54, 4, 21, 4, 16], [254, 160, 0, 6, 16, 254, 172, 3, 54, 5, 2, 54, 6, 3, 54, 7, 21, 7, 16, 7, 163, 0, 49, 42, 21, 7, 3, 29, 21, 4, 182, 1, 78, 42, 21, 7, 27, 29, 21, 4, 182, 1, 78, 184, 1, 82, 54, 8, 21, 8, 21, 6, 164, 0, 11, 21, 7, 54, 5, 21, 8, 54, 6, 132], [7, 1, 167, 255, 206, 28, 154, 0, 8, 21, 5, 167, 0, 5, 21, 6, 172]]) (by decide +kernel) (by decide +kernel)
set_option maxRecDepth 20000 in
theorem BX11_next_1_0 : ∀ q ∈ ([(0, 27), (7, 28), (14, 2), (15, 172), (16, 42), (26, 42), (38, 172), (39, 42), (43, 42), (50, 62), (51, 42), (55, 29)] : List (Nat × Nat)), gb cX11_next q.1 = some q.2 := seg_1 SX11_next _ (by decide +kernel)
set_option maxRecDepth 20000 in
theorem BX11_next_1_1 : ∀ q ∈ ([(70, 172), (71, 3), (74, 2), (77, 3), (87, 42), (90, 3), (91, 29), (97, 42), (100, 27), (101, 29), (133, 28), (144, 172)] : List (Nat × Nat)), gb cX11_next q.1 = some q.2 := seg_1 SX11_next _ (by decide +kernel)
set_option maxRecDepth 20000 in
theorem BX11_next_2_0 : ∀ q ∈ ([(36, 16, 251), (59, 54, 4), (61, 21, 4), (63, 16, 254), (68, 16, 254), (72, 54, 5), (75, 54, 6), (78, 54, 7), (80, 21, 7), (82, 16, 7), (88, 21, 7), (92, 21, 4)] : List (Nat × Nat × Nat)), gb cX11_next q.1 = some q.2.1 ∧ gb cX11_next (q.1 + 1) = some q.2.2 := seg_2 SX11_next _ (by decide +kernel)
set_option maxRecDepth 20000 in
theorem BX11_next_2_1 : ∀ q ∈ ([(98, 21, 7), (102, 21, 4), (110, 54, 8), (112, 21, 8), (114, 21, 6), (119, 21, 7), (121, 54, 5), (123, 21, 8), (125, 54, 6), (137, 21, 5), (142, 21, 6)] : List (Nat × Nat × Nat)), gb cX11_next q.1 = some q.2.1 ∧ gb cX11_next (q.1 + 1) = some q.2.2 := seg_2 SX11_next _ (by decide +kernel)
set_option maxRecDepth 20000 in
theorem BX11_next_3_0 : ∀ q ∈ ([(1, 184, 0, 218), (4, 153, 0, 10), (8, 184, 0, 144), (11, 154, 0, 5), (17, 180, 0, 61), (20, 180, 1, 74), (23, 153, 0, 13), (27, 180, 0, 33), (30, 182, 0, 233), (33, 153, 0, 6), (40, 182, 1, 65), (44, 180, 0, 61)] : List (Nat × Nat × Nat × Nat)), gb cX11_next q.1 = some q.2.1 ∧ gb cX11_next (q.1 + 1) = some q.2.2.1 ∧ gb cX11_next (q.1 + 2) = some q.2.2.2 := seg_3 SX11_next _ (by decide +kernel)
set_option maxRecDepth 20000 in
theorem BX11_next_3_1 : ∀ q ∈ ([(47, 182, 1, 75), (52, 180, 0, 61), (56, 182, 1, 71), (65, 160, 0, 6), (84, 163, 0, 49), (94, 182, 1, 78), (104, 182, 1, 78), (107, 184, 1, 82), (116, 164, 0, 11), (127, 132, 7, 1), (130, 167, 255, 206), (134, 154, 0, 8)] : List (Nat × Nat × Nat × Nat)), gb cX11_next q.1 = some q.2.1 ∧ gb cX11_next (q.1 + 1) = some q.2.2.1 ∧ gb cX11_next (q.1 + 2) = some q.2.2.2 := seg_3 SX11_next _ (by decide +kernel)
set_option maxRecDepth 20000 in
theorem BX11_next_3_2 : ∀ q ∈ ([(139, 167, 0, 5)] : List (Nat × Nat × Nat × Nat)), gb cX11_next q.1 = some q.2.1 ∧ gb cX11_next (q.1 + 1) = some q.2.2.1 ∧ gb cX11_next (q.1 + 2) = some q.2.2.2 := seg_3 SX11_next _ (by decide +kernel)
theorem dX11_next_0 : decode cX11_next 0 = .ok (.iload_n 1, 1) := dk27 (BX11_next_1_0 (0, 27) (List.mem_of_getElem? (i := 0) rfl))
theorem dX11_next_1 : decode cX11_next 1 = .ok (.invokestatic 218, 3) := dk184 0 218 (BX11_next_3_0 (1, 184, 0, 218) (List.mem_of_getElem? (i := 0) rfl))
theorem dX11_next_4 : decode cX11_next 4 = .ok (.ifCond .eq 10, 3) := dk153 0 10 (BX11_next_3_0 (4, 153, 0, 10) (List.mem_of_getElem? (i := 1) rfl))
theorem dX11_next_7 : decode cX11_next 7 = .ok (.iload_n 2, 1) := dk28 (BX11_next_1_0 (7, 28) (List.mem_of_getElem? (i := 1) rfl))
theorem dX11_next_8 : decode cX11_next 8 = .ok (.invokestatic 144, 3) := dk184 0 144 (BX11_next_3_0 (8, 184, 0, 144) (List.mem_of_getElem? (i := 2) rfl))
theorem dX11_next_11 : decode cX11_next 11 = .ok (.ifCond .ne 5, 3) := dk154 0 5 (BX11_next_3_0 (11, 154, 0, 5) (List.mem_of_getElem? (i := 3) rfl))
theorem dX11_next_14 : decode cX11_next 14 = .ok (.iconst (-1), 1) := dk2 (BX11_next_1_0 (14, 2) (List.mem_of_getElem? (i := 2) rfl))
theorem dX11_next_15 : decode cX11_next 15 = .ok (.ireturn, 1) := dk172 (BX11_next_1_0 (15, 172) (List.mem_of_getElem? (i := 3) rfl))
theorem dX11_next_16 : decode cX11_next 16 = .ok (.aload_n 0, 1) := dk42 (BX11_next_1_0 (16, 42) (List.mem_of_getElem? (i := 4) rfl))
theorem dX11_next_17 : decode cX11_next 17 = .ok (.getfield 61, 3) := dk180 0 61 (BX11_next_3_0 (17, 180, 0, 61) (List.mem_of_getElem? (i := 4) rfl))
theorem dX11_next_20 : decode cX11_next 20 = .ok (.getfield 330, 3) := dk180 1 74 (BX11_next_3_0 (20, 180, 1, 74) (List.mem_of_getElem? (i := 5) rfl))
theorem dX11_next_23 : decode cX11_next 23 = .ok (.ifCond .eq 13, 3) := dk153 0 13 (BX11_next_3_0 (23, 153, 0, 13) (List.mem_of_getElem? (i := 6) rfl))
theorem dX11_next_26 : decode cX11_next 26 = .ok (.aload_n 0, 1) := dk42 (BX11_next_1_0 (26, 42) (List.mem_of_getElem? (i := 5) rfl))
theorem dX11_next_27 : decode cX11_next 27 = .ok (.getfield 33, 3) := dk180 0 33 (BX11_next_3_0 (27, 180, 0, 33) (List.mem_of_getElem? (i := 7) rfl))
theorem dX11_next_30 : decode cX11_next 30 = .ok (.invokevirtual 233, 3) := dk182 0 233 (BX11_next_3_0 (30, 182, 0, 233) (List.mem_of_getElem? (i := 8) rfl))
theorem dX11_next_33 : decode cX11_next 33 = .ok (.ifCond .eq 6, 3) := dk153 0 6 (BX11_next_3_0 (33, 153, 0, 6) (List.mem_of_getElem? (i := 9) rfl))
theorem dX11_next_36 : decode cX11_next 36 = .ok (.bipush (-5), 2) := dk16 251 (BX11_next_2_0 (36, 16, 251) (List.mem_of_getElem? (i := 0) rfl))
theorem dX11_next_38 : decode cX11_next 38 = .ok (.ireturn, 1) := dk172 (BX11_next_1_0 (38, 172) (List.mem_of_getElem? (i := 6) rfl))
theorem dX11_next_39 : decode cX11_next 39 = .ok (.aload_n 0, 1) := dk42 (BX11_next_1_0 (39, 42) (List.mem_of_getElem? (i := 7) rfl))
theorem dX11_next_40 : decode cX11_next 40 = .ok (.invokevirtual 321, 3) := dk182 1 65 (BX11_next_3_0 (40, 182, 1, 65) (List.mem_of_getElem? (i := 10) rfl))
theorem dX11_next_43 : decode cX11_next 43 = .ok (.aload_n 0, 1) := dk42 (BX11_next_1_0 (43, 42) (List.mem_of_getElem? (i := 8) rfl))
theorem dX11_next_44 : decode cX11_next 44 = .ok (.getfield 61, 3) := dk180 0 61 (BX11_next_3_0 (44, 180, 0, 61) (List.mem_of_getElem? (i := 11) rfl))
theorem dX11_next_47 : decode cX11_next 47 = .ok (.invokevirtual 331, 3) := dk182 1 75 (BX11_next_3_1 (47, 182, 1, 75) (List.mem_of_getElem? (i := 0) rfl))
theorem dX11_next_50 : decode cX11_next 50 = .ok (.istore_n 3, 1) := dk62 (BX11_next_1_0 (50, 62) (List.mem_of_getElem? (i := 9) rfl))
theorem dX11_next_51 : decode cX11_next 51 = .ok (.aload_n 0, 1) := dk42 (BX11_next_1_0 (51, 42) (List.mem_of_getElem? (i := 10) rfl))
theorem dX11_next_52 : decode cX11_next 52 = .ok (.getfield 61, 3) := dk180 0 61 (BX11_next_3_1 (52, 180, 0, 61) (List.mem_of_getElem? (i := 1) rfl))
theorem dX11_next_55 : decode cX11_next 55 = .ok (.iload_n 3, 1) := dk29 (BX11_next_1_0 (55, 29) (List.mem_of_getElem? (i := 11) rfl))
theorem dX11_next_56 : decode cX11_next 56 = .ok (.invokevirtual 327, 3) := dk182 1 71 (BX11_next_3_1 (56, 182, 1, 71) (List.mem_of_getElem? (i := 2) rfl))
theorem dX11_next_59 : decode cX11_next 59 = .ok (.istore 4, 2) := dk54 4 (BX11_next_2_0 (59, 54, 4) (List.mem_of_getElem? (i := 1) rfl))
theorem dX11_next_61 : decode cX11_next 61 = .ok (.iload 4, 2) := dk21 4 (BX11_next_2_0 (61, 21, 4) (List.mem_of_getElem? (i := 2) rfl))
theorem dX11_next_63 : decode cX11_next 63 = .ok (.bipush (-2), 2) := dk16 254 (BX11_next_2_0 (63, 16, 254) (List.mem_of_getElem? (i := 3) rfl))
theorem dX11_next_65 : decode cX11_next 65 = .ok (.if_icmp .ne 6, 3) := dk160 0 6 (BX11_next_3_1 (65, 160, 0, 6) (List.mem_of_getElem? (i := 3) rfl))
theorem dX11_next_68 : decode cX11_next 68 = .ok (.bipush (-2), 2) := dk16 254 (BX11_next_2_0 (68, 16, 254) (List.mem_of_getElem? (i := 4) rfl))
theorem dX11_next_70 : decode cX11_next 70 = .ok (.ireturn, 1) := dk172 (BX11_next_1_1 (70, 172) (List.mem_of_getElem? (i := 0) rfl))
theorem dX11_next_71 : decode cX11_next 71 = .ok (.iconst 0, 1) := dk3 (BX11_next_1_1 (71, 3) (List.mem_of_getElem? (i := 1) rfl))
theorem dX11_next_72 : decode cX11_next 72 = .ok (.istore 5, 2) := dk54 5 (BX11_next_2_0 (72, 54, 5) (List.mem_of_getElem? (i := 5) rfl))
theorem dX11_next_74 : decode cX11_next 74 = .ok (.iconst (-1), 1) := dk2 (BX11_next_1_1 (74, 2) (List.mem_of_getElem? (i := 2) rfl))
theorem dX11_next_75 : decode cX11_next 75 = .ok (.istore 6, 2) := dk54 6 (BX11_next_2_0 (75, 54, 6) (List.mem_of_getElem? (i := 6) rfl))
theorem dX11_next_77 : decode cX11_next 77 = .ok (.iconst 0, 1) := dk3 (BX11_next_1_1 (77, 3) (List.mem_of_getElem? (i := 3) rfl))
theorem dX11_next_78 : decode cX11_next 78 = .ok (.istore 7, 2) := dk54 7 (BX11_next_2_0 (78, 54, 7) (List.mem_of_getElem? (i := 7) rfl))
theorem dX11_next_80 : decode cX11_next 80 = .ok (.iload 7, 2) := dk21 7 (BX11_next_2_0 (80, 21, 7) (List.mem_of_getElem? (i := 8) rfl))
theorem dX11_next_82 : decode cX11_next 82 = .ok (.bipush 7, 2) := dk16 7 (BX11_next_2_0 (82, 16, 7) (List.mem_of_getElem? (i := 9) rfl))
theorem dX11_next_84 : decode cX11_next 84 = .ok (.if_icmp .gt 49, 3) := dk163 0 49 (BX11_next_3_1 (84, 163, 0, 49) (List.mem_of_getElem? (i := 4) rfl))
theorem dX11_next_87 : decode cX11_next 87 = .ok (.aload_n 0, 1) := dk42 (BX11_next_1_1 (87, 42) (List.mem_of_getElem? (i := 4) rfl))
theorem dX11_next_88 : decode cX11_next 88 = .ok (.iload 7, 2) := dk21 7 (BX11_next_2_0 (88, 21, 7) (List.mem_of_getElem? (i := 10) rfl))
theorem dX11_next_90 : decode cX11_next 90 = .ok (.iconst 0, 1) := dk3 (BX11_next_1_1 (90, 3) (List.mem_of_getElem? (i := 5) rfl))
theorem dX11_next_91 : decode cX11_next 91 = .ok (.iload_n 3, 1) := dk29 (BX11_next_1_1 (91, 29) (List.mem_of_getElem? (i := 6) rfl))
theorem dX11_next_92 : decode cX11_next 92 = .ok (.iload 4, 2) := dk21 4 (BX11_next_2_0 (92, 21, 4) (List.mem_of_getElem? (i := 11) rfl))
theorem dX11_next_94 : decode cX11_next 94 = .ok (.invokevirtual 334, 3) := dk182 1 78 (BX11_next_3_1 (94, 182, 1, 78) (List.mem_of_getElem? (i := 5) rfl))
theorem dX11_next_97 : decode cX11_next 97 = .ok (.aload_n 0, 1) := dk42 (BX11_next_1_1 (97, 42) (List.mem_of_getElem? (i := 7) rfl))
theorem dX11_next_98 : decode cX11_next 98 = .ok (.iload 7, 2) := dk21 7 (BX11_next_2_1 (98, 21, 7) (List.mem_of_getElem? (i := 0) rfl))
theorem dX11_next_100 : decode cX11_next 100 = .ok (.iload_n 1, 1) := dk27 (BX11_next_1_1 (100, 27) (List.mem_of_getElem? (i := 8) rfl))
theorem dX11_next_101 : decode cX11_next 101 = .ok (.iload_n 3, 1) := dk29 (BX11_next_1_1 (101, 29) (List.mem_of_getElem? (i := 9) rfl))
theorem dX11_next_102 : decode cX11_next 102 = .ok (.iload 4, 2) := dk21 4 (BX11_next_2_1 (102, 21, 4) (List.mem_of_getElem? (i := 1) rfl))
theorem dX11_next_104 : decode cX11_next 104 = .ok (.invokevirtual 334, 3) := dk182 1 78 (BX11_next_3_1 (104, 182, 1, 78) (List.mem_of_getElem? (i := 6) rfl))
theorem dX11_next_107 : decode cX11_next 107 = .ok (.invokestatic 338, 3) := dk184 1 82 (BX11_next_3_1 (107, 184, 1, 82) (List.mem_of_getElem? (i := 7) rfl))
theorem dX11_next_110 : decode cX11_next 110 = .ok (.istore 8, 2) := dk54 8 (BX11_next_2_1 (110, 54, 8) (List.mem_of_getElem? (i := 2) rfl))
theorem dX11_next_112 : decode cX11_next 112 = .ok (.iload 8, 2) := dk21 8 (BX11_next_2_1 (112, 21, 8) (List.mem_of_getElem? (i := 3) rfl))
theorem dX11_next_114 : decode cX11_next 114 = .ok (.iload 6, 2) := dk21 6 (BX11_next_2_1 (114, 21, 6) (List.mem_of_getElem? (i := 4) rfl))
theorem dX11_next_116 : decode cX11_next 116 = .ok (.if_icmp .le 11, 3) := dk164 0 11 (BX11_next_3_1 (116, 164, 0, 11) (List.mem_of_getElem? (i := 8) rfl))
theorem dX11_next_119 : decode cX11_next 119 = .ok (.iload 7, 2) := dk21 7 (BX11_next_2_1 (119, 21, 7) (List.mem_of_getElem? (i := 5) rfl))
theorem dX11_next_121 : decode cX11_next 121 = .ok (.istore 5, 2) := dk54 5 (BX11_next_2_1 (121, 54, 5) (List.mem_of_getElem? (i := 6) rfl))
theorem dX11_next_123 : decode cX11_next 123 = .ok (.iload 8, 2) := dk21 8 (BX11_next_2_1 (123, 21, 8) (List.mem_of_getElem? (i := 7) rfl))
theorem dX11_next_125 : decode cX11_next 125 = .ok (.istore 6, 2) := dk54 6 (BX11_next_2_1 (125, 54, 6) (List.mem_of_getElem? (i := 8) rfl))
theorem dX11_next_127 : decode cX11_next 127 = .ok (.iinc 7 1, 3) := dk132 7 1 (BX11_next_3_1 (127, 132, 7, 1) (List.mem_of_getElem? (i := 9) rfl))
theorem dX11_next_130 : decode cX11_next 130 = .ok (.goto (-50), 3) := dk167 255 206 (BX11_next_3_1 (130, 167, 255, 206) (List.mem_of_getElem? (i := 10) rfl))
theorem dX11_next_133 : decode cX11_next 133 = .ok (.iload_n 2, 1) := dk28 (BX11_next_1_1 (133, 28) (List.mem_of_getElem? (i := 10) rfl))
theorem dX11_next_134 : decode cX11_next 134 = .ok (.ifCond .ne 8, 3) := dk154 0 8 (BX11_next_3_1 (134, 154, 0, 8) (List.mem_of_getElem? (i := 11) rfl))
theorem dX11_next_137 : decode cX11_next 137 = .ok (.iload 5, 2) := dk21 5 (BX11_next_2_1 (137, 21, 5) (List.mem_of_getElem? (i := 9) rfl))
theorem dX11_next_139 : decode cX11_next 139 = .ok (.goto 5, 3) := dk167 0 5 (BX11_next_3_2 (139, 167, 0, 5) (List.mem_of_getElem? (i := 0) rfl))
theorem dX11_next_142 : decode cX11_next 142 = .ok (.iload 6, 2) := dk21 6 (BX11_next_2_1 (142, 21, 6) (List.mem_of_getElem? (i := 10) rfl))
theorem dX11_next_144 : decode cX11_next 144 = .ok (.ireturn, 1) := dk172 (BX11_next_1_1 (144, 172) (List.mem_of_getElem? (i := 11) rfl))
set_option maxRecDepth 20000 in
theorem ggX11_movedBy_X2_add : GoodIn wsX11_movedBy wsX2_add := gcons (goodIn_g ch_wsX11_movedBy_flat gd_wsX11_movedBy _ [(1, 10)] rfl) (goodIn_app (goodIn_g ch_wsX11_movedBy_flat gd_wsX11_movedBy _ [(1, 11), (1, 12), (1, 13), (1, 14), (1, 15), (1, 16), (1, 17), (1, 9), (1, 18)] rfl) (gchunk ch_wsX11_movedBy_flat gd_wsX11_movedBy 9 rfl))
set_option maxRecDepth 20000 in
theorem gX11_movedBy_X2_add : GoodIn wsX11_movedBy (wsV RX11 213 RX2 yX2_add wsX2_add) := goodIn_app (goodIn_g ch_wsX11_movedBy_flat gd_wsX11_movedBy _ [(1, 6), (1, 7), (1, 8), (1, 9)] rfl) ggX11_movedBy_X2_add
set_option maxRecDepth 20000 in
theorem ggX11_movedBy_X11_weighStories : GoodIn wsX11_movedBy wsX11_weighStories := gcons (goodIn_g ch_wsX11_movedBy_flat gd_wsX11_movedBy _ [(1, 23)] rfl) (goodIn_app (goodIn_app (goodIn_app (goodIn_app (goodIn_app (goodIn_app (goodIn_app (goodIn_g ch_wsX11_movedBy_flat gd_wsX11_movedBy _ [(2, 0), (2, 1), (1, 0), (2, 2), (2, 3), (1, 4), (2, 4), (2, 5), (2, 6), (1, 1), (2, 7), (2, 8), (2, 9), (2, 10), (2, 11), (2, 12), (1, 22), (2, 13), (2, 14), (2, 15), (2, 16), (2, 17), (2, 18), (2, 19)] rfl) (goodIn_app (goodIn_g ch_wsX11_movedBy_flat gd_wsX11_movedBy _ [(2, 20), (2, 21), (2, 22), (2, 23), (3, 0), (3, 1), (3, 2), (3, 3), (3, 4), (3, 5), (3, 6), (3, 7), (3, 8), (3, 9), (3, 10), (3, 11), (3, 12), (3, 13), (3, 14), (3, 15), (3, 16), (3, 17), (3, 18), (3, 19)] rfl) (goodIn_app (goodIn_g ch_wsX11_movedBy_flat gd_wsX11_movedBy _ [(3, 20), (3, 21), (3, 22), (3, 23), (4, 0), (4, 1), (4, 2), (4, 3), (4, 4), (4, 5), (4, 6), (4, 7), (4, 8), (4, 9), (4, 10), (4, 11), (1, 9), (4, 12), (1, 12), (1, 11), (1, 13), (1, 14), (4, 13), (4, 14)] rfl) (goodIn_app (goodIn_g ch_wsX11_movedBy_flat gd_wsX11_movedBy _ [(4, 15), (4, 16), (4, 17), (4, 18), (4, 19), (4, 20), (4, 21), (4, 22), (4, 23), (5, 0), (5, 1), (5, 2), (5, 3), (5, 4), (5, 5), (5, 6), (5, 7), (5, 8), (5, 9), (5, 10), (5, 11), (5, 12), (5, 13), (5, 14)] rfl) (goodIn_app (goodIn_g ch_wsX11_movedBy_flat gd_wsX11_movedBy _ [(5, 15), (5, 16), (5, 17), (5, 18), (5, 19), (5, 20), (5, 21), (5, 22), (5, 23), (6, 0), (6, 1), (6, 2), (6, 3), (6, 4), (6, 5), (6, 6), (6, 7), (6, 8), (6, 9), (6, 10), (6, 11), (6, 12), (6, 13), (6, 14)] rfl) (goodIn_g ch_wsX11_movedBy_flat gd_wsX11_movedBy _ [(6, 15), (6, 16), (6, 17), (6, 18), (6, 19), (6, 20), (6, 21), (6, 22)] rfl)))))) (gchunk ch_wsX11_movedBy_flat gd_wsX11_movedBy 8 rfl)) (gchunk ch_wsX11_movedBy_flat gd_wsX11_movedBy 10 rfl)) (gchunk ch_wsX11_movedBy_flat gd_wsX11_movedBy 11 rfl)) (gchunk ch_wsX11_movedBy_flat gd_wsX11_movedBy 12 rfl)) (gchunk ch_wsX11_movedBy_flat gd_wsX11_movedBy 9 rfl)) (gchunk ch_wsX11_movedBy_flat gd_wsX11_movedBy 13 rfl))
set_option maxRecDepth 20000 in
theorem gX11_movedBy_X11_weighStories : GoodIn wsX11_movedBy (wsV RX11 321 RX11 yX11_weighStories wsX11_weighStories) := goodIn_app (goodIn_g ch_wsX11_movedBy_flat gd_wsX11_movedBy _ [(1, 19), (1, 20), (1, 21), (1, 22)] rfl) ggX11_movedBy_X11_weighStories
set_option maxRecDepth 20000 in
theorem ggX11_movedBy_X2_dropLast : GoodIn wsX11_movedBy wsX2_dropLast := gcons (goodIn_g ch_wsX11_movedBy_flat gd_wsX11_movedBy _ [(7, 2)] rfl) (goodIn_app (goodIn_g ch_wsX11_movedBy_flat gd_wsX11_movedBy _ [(1, 12), (7, 3), (2, 3), (1, 4), (2, 4)] rfl) (gchunk ch_wsX11_movedBy_flat gd_wsX11_movedBy 9 rfl))
set_option maxRecDepth 20000 in
theorem gX11_movedBy_X2_dropLast : GoodIn wsX11_movedBy (wsV RX11 343 RX2 yX2_dropLast wsX2_dropLast) := goodIn_app (goodIn_g ch_wsX11_movedBy_flat gd_wsX11_movedBy _ [(6, 23), (7, 0), (7, 1), (1, 9)] rfl) ggX11_movedBy_X2_dropLast
set_option maxRecDepth 20000 in
theorem ggX11_movedBy_X9_oddsOf : GoodIn wsX11_movedBy wsX9_oddsOf := gcons (goodIn_g ch_wsX11_movedBy_flat gd_wsX11_movedBy _ [(7, 7)] rfl) (goodIn_app (goodIn_g ch_wsX11_movedBy_flat gd_wsX11_movedBy _ [(7, 8), (7, 9), (6, 4)] rfl) (gchunk ch_wsX11_movedBy_flat gd_wsX11_movedBy 11 rfl))
set_option maxRecDepth 20000 in
theorem gX11_movedBy_X9_oddsOf : GoodIn wsX11_movedBy (wsV RX11 327 RX9 yX9_oddsOf wsX9_oddsOf) := goodIn_app (goodIn_g ch_wsX11_movedBy_flat gd_wsX11_movedBy _ [(7, 4), (7, 5), (7, 6), (6, 2)] rfl) ggX11_movedBy_X9_oddsOf
set_option maxRecDepth 20000 in
theorem SX11_movedBy : ∀ p : Nat, gb cX11_movedBy p = segF [[42, 180, 0, 33, 3, 27, 28, 182, 0, 213, 87, 42, 182, 1, 65, 42, 180, 0, 33, 182, 1, 87, 42, 180, 0, 61, 29, 182, 1, 71, 54, 5, 21, 5, 16, 254, 160, 0, 7, 3, 167, 0, 5, 21, 5, 21, 4, 100, 184, 1, 90, 172]] p := seg_gb (S := [[42, 180, 0, 33, 3, 27, 28, 182, 0, 213, 87, 42, 182, 1, 65, 42, 180, 0, 33, 182, 1, 87, 42, 180, 0, 61, 29, 182, 1, 71, 54, 5, 21, 5, 16, 254, 160, 0, 7, 3, 167, 0, 5, 21, 5, 21, 4, 100, 184, 1, 90, 172]]) (by decide +kernel) (by decide +kernel)
set_option maxRecDepth 20000 in
theorem BX11_movedBy_1_0 : ∀ q ∈ ([(0, 42), (4, 3), (5, 27), (6, 28), (10, 87), (11, 42), (15, 42), (22, 42), (26, 29), (39, 3), (47, 100), (51, 172)] : List (Nat × Nat)), gb cX11_movedBy q.1 = some q.2 := seg_1 SX11_movedBy _ (by decide +kernel)
set_option maxRecDepth 20000 in
theorem BX11_movedBy_2_0 : ∀ q ∈ ([(30, 54, 5), (32, 21, 5), (34, 16, 254), (43, 21, 5), (45, 21, 4)] : List (Nat × Nat × Nat)), gb cX11_movedBy q.1 = some q.2.1 ∧ gb cX11_movedBy (q.1 + 1) = some q.2.2 := seg_2 SX11_movedBy _ (by decide +kernel)
set_option maxRecDepth 20000 in
theorem BX11_movedBy_3_0 : ∀ q ∈ ([(1, 180, 0, 33), (7, 182, 0, 213), (12, 182, 1, 65), (16, 180, 0, 33), (19, 182, 1, 87), (23, 180, 0, 61), (27, 182, 1, 71), (36, 160, 0, 7), (40, 167, 0, 5), (48, 184, 1, 90)] : List (Nat × Nat × Nat × Nat)), gb cX11_movedBy q.1 = some q.2.1 ∧ gb cX11_movedBy (q.1 + 1) = some q.2.2.1 ∧ gb cX11_movedBy (q.1 + 2) = some q.2.2.2 := seg_3 SX11_movedBy _ (by decide +kernel)
theorem dX11_movedBy_0 : decode cX11_movedBy 0 = .ok (.aload_n 0, 1) := dk42 (BX11_movedBy_1_0 (0, 42) (List.mem_of_getElem? (i := 0) rfl))
theorem dX11_movedBy_1 : decode cX11_movedBy 1 = .ok (.getfield 33, 3) := dk180 0 33 (BX11_movedBy_3_0 (1, 180, 0, 33) (List.mem_of_getElem? (i := 0) rfl))
theorem dX11_movedBy_4 : decode cX11_movedBy 4 = .ok (.iconst 0, 1) := dk3 (BX11_movedBy_1_0 (4, 3) (List.mem_of_getElem? (i := 1) rfl))
theorem dX11_movedBy_5 : decode cX11_movedBy 5 = .ok (.iload_n 1, 1) := dk27 (BX11_movedBy_1_0 (5, 27) (List.mem_of_getElem? (i := 2) rfl))
theorem dX11_movedBy_6 : decode cX11_movedBy 6 = .ok (.iload_n 2, 1) := dk28 (BX11_movedBy_1_0 (6, 28) (List.mem_of_getElem? (i := 3) rfl))
theorem dX11_movedBy_7 : decode cX11_movedBy 7 = .ok (.invokevirtual 213, 3) := dk182 0 213 (BX11_movedBy_3_0 (7, 182, 0, 213) (List.mem_of_getElem? (i := 1) rfl))
theorem dX11_movedBy_10 : decode cX11_movedBy 10 = .ok (.pop, 1) := dk87 (BX11_movedBy_1_0 (10, 87) (List.mem_of_getElem? (i := 4) rfl))
theorem dX11_movedBy_11 : decode cX11_movedBy 11 = .ok (.aload_n 0, 1) := dk42 (BX11_movedBy_1_0 (11, 42) (List.mem_of_getElem? (i := 5) rfl))
theorem dX11_movedBy_12 : decode cX11_movedBy 12 = .ok (.invokevirtual 321, 3) := dk182 1 65 (BX11_movedBy_3_0 (12, 182, 1, 65) (List.mem_of_getElem? (i := 2) rfl))
theorem dX11_movedBy_15 : decode cX11_movedBy 15 = .ok (.aload_n 0, 1) := dk42 (BX11_movedBy_1_0 (15, 42) (List.mem_of_getElem? (i := 6) rfl))
theorem dX11_movedBy_16 : decode cX11_movedBy 16 = .ok (.getfield 33, 3) := dk180 0 33 (BX11_movedBy_3_0 (16, 180, 0, 33) (List.mem_of_getElem? (i := 3) rfl))
theorem dX11_movedBy_19 : decode cX11_movedBy 19 = .ok (.invokevirtual 343, 3) := dk182 1 87 (BX11_movedBy_3_0 (19, 182, 1, 87) (List.mem_of_getElem? (i := 4) rfl))
theorem dX11_movedBy_22 : decode cX11_movedBy 22 = .ok (.aload_n 0, 1) := dk42 (BX11_movedBy_1_0 (22, 42) (List.mem_of_getElem? (i := 7) rfl))
theorem dX11_movedBy_23 : decode cX11_movedBy 23 = .ok (.getfield 61, 3) := dk180 0 61 (BX11_movedBy_3_0 (23, 180, 0, 61) (List.mem_of_getElem? (i := 5) rfl))
theorem dX11_movedBy_26 : decode cX11_movedBy 26 = .ok (.iload_n 3, 1) := dk29 (BX11_movedBy_1_0 (26, 29) (List.mem_of_getElem? (i := 8) rfl))
theorem dX11_movedBy_27 : decode cX11_movedBy 27 = .ok (.invokevirtual 327, 3) := dk182 1 71 (BX11_movedBy_3_0 (27, 182, 1, 71) (List.mem_of_getElem? (i := 6) rfl))
theorem dX11_movedBy_30 : decode cX11_movedBy 30 = .ok (.istore 5, 2) := dk54 5 (BX11_movedBy_2_0 (30, 54, 5) (List.mem_of_getElem? (i := 0) rfl))
theorem dX11_movedBy_32 : decode cX11_movedBy 32 = .ok (.iload 5, 2) := dk21 5 (BX11_movedBy_2_0 (32, 21, 5) (List.mem_of_getElem? (i := 1) rfl))
theorem dX11_movedBy_34 : decode cX11_movedBy 34 = .ok (.bipush (-2), 2) := dk16 254 (BX11_movedBy_2_0 (34, 16, 254) (List.mem_of_getElem? (i := 2) rfl))
theorem dX11_movedBy_36 : decode cX11_movedBy 36 = .ok (.if_icmp .ne 7, 3) := dk160 0 7 (BX11_movedBy_3_0 (36, 160, 0, 7) (List.mem_of_getElem? (i := 7) rfl))
theorem dX11_movedBy_39 : decode cX11_movedBy 39 = .ok (.iconst 0, 1) := dk3 (BX11_movedBy_1_0 (39, 3) (List.mem_of_getElem? (i := 9) rfl))
theorem dX11_movedBy_40 : decode cX11_movedBy 40 = .ok (.goto 5, 3) := dk167 0 5 (BX11_movedBy_3_0 (40, 167, 0, 5) (List.mem_of_getElem? (i := 8) rfl))
theorem dX11_movedBy_43 : decode cX11_movedBy 43 = .ok (.iload 5, 2) := dk21 5 (BX11_movedBy_2_0 (43, 21, 5) (List.mem_of_getElem? (i := 3) rfl))
theorem dX11_movedBy_45 : decode cX11_movedBy 45 = .ok (.iload 4, 2) := dk21 4 (BX11_movedBy_2_0 (45, 21, 4) (List.mem_of_getElem? (i := 4) rfl))
theorem dX11_movedBy_47 : decode cX11_movedBy 47 = .ok (.isub, 1) := dk100 (BX11_movedBy_1_0 (47, 100) (List.mem_of_getElem? (i := 10) rfl))
theorem dX11_movedBy_48 : decode cX11_movedBy 48 = .ok (.invokestatic 346, 3) := dk184 1 90 (BX11_movedBy_3_0 (48, 184, 1, 90) (List.mem_of_getElem? (i := 9) rfl))
theorem dX11_movedBy_51 : decode cX11_movedBy 51 = .ok (.ireturn, 1) := dk172 (BX11_movedBy_1_0 (51, 172) (List.mem_of_getElem? (i := 11) rfl))
set_option maxRecDepth 20000 in
theorem ggX11_weighStories_X11_findInks : GoodIn wsX11_weighStories wsX11_findInks := gcons (goodIn_g ch_wsX11_weighStories_flat gd_wsX11_weighStories _ [(1, 17)] rfl) (goodIn_app (goodIn_app (goodIn_app (goodIn_app (goodIn_g ch_wsX11_weighStories_flat gd_wsX11_weighStories _ [(1, 7), (1, 1), (1, 8), (1, 18), (1, 19), (1, 20), (1, 21), (1, 22), (1, 23), (2, 0), (2, 1), (2, 2), (2, 3), (2, 4), (2, 5), (2, 6), (2, 7), (2, 8), (2, 9), (2, 10), (2, 11), (2, 12), (2, 13), (2, 14)] rfl) (goodIn_g ch_wsX11_weighStories_flat gd_wsX11_weighStories _ [(2, 15), (2, 16), (2, 17), (2, 18), (2, 19), (2, 20), (2, 21), (2, 22), (2, 23), (3, 0), (3, 1), (3, 2), (3, 3), (3, 4), (3, 5), (1, 16), (3, 6)] rfl)) (gchunk ch_wsX11_weighStories_flat gd_wsX11_weighStories 7 rfl)) (gchunk ch_wsX11_weighStories_flat gd_wsX11_weighStories 8 rfl)) (gchunk ch_wsX11_weighStories_flat gd_wsX11_weighStories 10 rfl))
set_option maxRecDepth 20000 in
theorem gX11_weighStories_X11_findInks : GoodIn wsX11_weighStories (wsV RX11 185 RX11 yX11_findInks wsX11_findInks) := goodIn_app (goodIn_g ch_wsX11_weighStories_flat gd_wsX11_weighStories _ [(1, 13), (1, 14), (1, 15), (1, 16)] rfl) ggX11_weighStories_X11_findInks
set_option maxRecDepth 20000 in
theorem ggX11_weighStories_X3_marksThatAre : GoodIn wsX11_weighStories wsX3_marksThatAre := gcons (goodIn_g ch_wsX11_weighStories_flat gd_wsX11_weighStories _ [(3, 10)] rfl) (goodIn_app (goodIn_g ch_wsX11_weighStories_flat gd_wsX11_weighStories _ [(2, 20), (3, 0), (3, 11), (1, 16), (3, 12)] rfl) (gchunk ch_wsX11_weighStories_flat gd_wsX11_weighStories 10 rfl))
set_option maxRecDepth 20000 in
theorem gX11_weighStories_X3_marksThatAre : GoodIn wsX11_weighStories (wsV RX11 349 RX3 yX3_marksThatAre wsX3_marksThatAre) := goodIn_app (goodIn_g ch_wsX11_weighStories_flat gd_wsX11_weighStories _ [(3, 7), (3, 8), (3, 9), (2, 15)] rfl) ggX11_weighStories_X3_marksThatAre
set_option maxRecDepth 20000 in
theorem ggX11_weighStories_X2_meanOf : GoodIn wsX11_weighStories wsX2_meanOf := gcons (goodIn_g ch_wsX11_weighStories_flat gd_wsX11_weighStories _ [(3, 17)] rfl) (goodIn_app (goodIn_g ch_wsX11_weighStories_flat gd_wsX11_weighStories _ [(3, 18), (3, 19), (3, 20), (3, 21), (3, 5), (1, 16), (3, 6)] rfl) (gchunk ch_wsX11_weighStories_flat gd_wsX11_weighStories 11 rfl))
set_option maxRecDepth 20000 in
theorem gX11_weighStories_X2_meanOf : GoodIn wsX11_weighStories (wsV RX11 244 RX2 yX2_meanOf wsX2_meanOf) := goodIn_app (goodIn_g ch_wsX11_weighStories_flat gd_wsX11_weighStories _ [(3, 13), (3, 14), (3, 15), (3, 16)] rfl) ggX11_weighStories_X2_meanOf
set_option maxRecDepth 20000 in
theorem ggX11_weighStories_X3_firstFighting : GoodIn wsX11_weighStories wsX3_firstFighting := gcons (goodIn_g ch_wsX11_weighStories_flat gd_wsX11_weighStories _ [(4, 1)] rfl) (goodIn_app (goodIn_g ch_wsX11_weighStories_flat gd_wsX11_weighStories _ [(4, 2), (4, 3), (4, 4), (4, 5), (2, 15), (4, 6), (2, 20), (2, 23), (3, 0), (2, 21), (2, 18), (2, 22), (3, 5), (1, 16), (3, 6)] rfl) (gchunk ch_wsX11_weighStories_flat gd_wsX11_weighStories 10 rfl))
set_option maxRecDepth 20000 in
theorem gX11_weighStories_X3_firstFighting : GoodIn wsX11_weighStories (wsV RX11 189 RX3 yX3_firstFighting wsX3_firstFighting) := goodIn_app (goodIn_g ch_wsX11_weighStories_flat gd_wsX11_weighStories _ [(3, 22), (3, 23), (4, 0), (2, 15)] rfl) ggX11_weighStories_X3_firstFighting
set_option maxRecDepth 20000 in
theorem ggX11_weighStories_X11_asBit : GoodIn wsX11_weighStories wsX11_asBit := goodIn_g ch_wsX11_weighStories_flat gd_wsX11_weighStories _ [(3, 12)] rfl
set_option maxRecDepth 20000 in
theorem gX11_weighStories_X11_asBit : GoodIn wsX11_weighStories (va_wsS RX11 162 yX11_asBit wsX11_asBit) := goodIn_app (goodIn_g ch_wsX11_weighStories_flat gd_wsX11_weighStories _ [(4, 7), (3, 11), (1, 16)] rfl) ggX11_weighStories_X11_asBit
set_option maxRecDepth 20000 in
theorem ggX11_weighStories_X6_lateOnes : GoodIn wsX11_weighStories wsX6_lateOnes := gcons (goodIn_g ch_wsX11_weighStories_flat gd_wsX11_weighStories _ [(4, 12)] rfl) (goodIn_app (goodIn_g ch_wsX11_weighStories_flat gd_wsX11_weighStories _ [(4, 13), (4, 14), (3, 11), (1, 16), (3, 12)] rfl) (gchunk ch_wsX11_weighStories_flat gd_wsX11_weighStories 12 rfl))
set_option maxRecDepth 20000 in
theorem gX11_weighStories_X6_lateOnes : GoodIn wsX11_weighStories (wsV RX11 266 RX6 yX6_lateOnes wsX6_lateOnes) := goodIn_app (goodIn_g ch_wsX11_weighStories_flat gd_wsX11_weighStories _ [(4, 8), (4, 9), (4, 10), (4, 11)] rfl) ggX11_weighStories_X6_lateOnes
set_option maxRecDepth 20000 in
theorem ggX11_weighStories_X2_someInkBars : GoodIn wsX11_weighStories wsX2_someInkBars := gcons (goodIn_g ch_wsX11_weighStories_flat gd_wsX11_weighStories _ [(4, 18)] rfl) (goodIn_app (goodIn_g ch_wsX11_weighStories_flat gd_wsX11_weighStories _ [(4, 19), (4, 20), (4, 21), (3, 16), (4, 22), (4, 23), (5, 0), (5, 1), (3, 14), (3, 15), (3, 17), (3, 18), (3, 19), (3, 20), (3, 21), (3, 5), (1, 16), (3, 6)] rfl) (gchunk ch_wsX11_weighStories_flat gd_wsX11_weighStories 11 rfl))
set_option maxRecDepth 20000 in
theorem gX11_weighStories_X2_someInkBars : GoodIn wsX11_weighStories (wsV RX11 355 RX2 yX2_someInkBars wsX2_someInkBars) := goodIn_app (goodIn_g ch_wsX11_weighStories_flat gd_wsX11_weighStories _ [(4, 15), (4, 16), (4, 17), (3, 16)] rfl) ggX11_weighStories_X2_someInkBars
set_option maxRecDepth 20000 in
theorem ggX11_weighStories_X7_youngest : GoodIn wsX11_weighStories wsX7_youngest := gcons (goodIn_g ch_wsX11_weighStories_flat gd_wsX11_weighStories _ [(5, 5)] rfl) (goodIn_app (goodIn_g ch_wsX11_weighStories_flat gd_wsX11_weighStories _ [(2, 0), (5, 6), (5, 7), (1, 4), (1, 5), (1, 6)] rfl) (gchunk ch_wsX11_weighStories_flat gd_wsX11_weighStories 8 rfl))
set_option maxRecDepth 20000 in
theorem gX11_weighStories_X7_youngest : GoodIn wsX11_weighStories (wsV RX11 358 RX7 yX7_youngest wsX7_youngest) := goodIn_app (goodIn_g ch_wsX11_weighStories_flat gd_wsX11_weighStories _ [(5, 2), (5, 3), (5, 4), (1, 22)] rfl) ggX11_weighStories_X7_youngest
set_option maxRecDepth 20000 in
theorem ggX11_weighStories_X9_weigh : GoodIn wsX11_weighStories wsX9_weigh := gcons (goodIn_g ch_wsX11_weighStories_flat gd_wsX11_weighStories _ [(5, 12)] rfl) (goodIn_app (goodIn_app (goodIn_g ch_wsX11_weighStories_flat gd_wsX11_weighStories _ [(5, 13), (5, 14), (5, 15), (5, 16), (5, 17), (1, 5), (5, 18), (5, 19), (1, 4), (1, 6), (5, 20), (5, 21), (5, 22), (5, 11), (5, 23), (6, 0), (6, 1), (6, 2), (6, 3), (6, 4), (3, 11), (1, 16), (3, 12), (6, 5)] rfl) (goodIn_g ch_wsX11_weighStories_flat gd_wsX11_weighStories _ [(6, 6), (6, 7)] rfl)) (gchunk ch_wsX11_weighStories_flat gd_wsX11_weighStories 9 rfl))
set_option maxRecDepth 20000 in
theorem gX11_weighStories_X9_weigh : GoodIn wsX11_weighStories (wsV RX11 361 RX9 yX9_weigh wsX9_weigh) := goodIn_app (goodIn_g ch_wsX11_weighStories_flat gd_wsX11_weighStories _ [(5, 8), (5, 9), (5, 10), (5, 11)] rfl) ggX11_weighStories_X9_weigh
set_option maxRecDepth 20000 in
theorem SX11_weighStories : ∀ p : Nat, gb cX11_weighStories p = segF [[42, 8, 182, 0, 185, 42, 180, 0, 94, 3, 42, 180, 0, 26, 4, 182, 1, 93, 79, 42, 180, 0, 94, 4, 42, 180, 0, 26, 3, 182, 1, 93, 79, 42, 180, 0, 94, 5, 42, 180, 0, 33, 16, 31, 16, 63, 182, 0, 244, 3, 184, 1, 82, 79, 42, 180, 0, 94, 6, 42, 180, 0, 33, 16], [31, 17, 0, 128, 182, 0, 244, 3, 184, 1, 82, 79, 42, 180, 0, 94, 16, 6, 42, 180, 0, 26, 42, 180, 0, 10, 180, 0, 141, 182, 0, 189, 155, 0, 7, 4, 167, 0, 4, 3, 184, 0, 162, 79, 3, 60, 27, 42, 180, 0, 61, 180, 1, 74, 162, 0, 82, 42, 180, 0, 61, 180, 1, 96], [27, 46, 61, 42, 180, 0, 94, 7, 42, 180, 0, 40, 28, 182, 1, 10, 79, 42, 180, 0, 94, 8, 42, 180, 0, 33, 28, 182, 1, 99, 184, 0, 162, 79, 42, 180, 0, 94, 16, 7, 42, 180, 0, 10, 182, 1, 102, 28, 100, 3, 184, 1, 82, 79, 42, 180, 0, 61, 27, 42, 180, 0, 94, 182], [1, 105, 132, 1, 1, 167, 255, 169, 177]] p := seg_gb (S := [[42, 8, 182, 0, 185, 42, 180, 0, 94, 3, 42, 180, 0, 26, 4, 182, 1, 93, 79, 42, 180, 0, 94, 4, 42, 180, 0, 26, 3, 182, 1, 93, 79, 42, 180, 0, 94, 5, 42, 180, 0, 33, 16, 31, 16, 63, 182, 0, 244, 3, 184, 1, 82, 79, 42, 180, 0, 94, 6, 42, 180, 0, 33, 16], [31, 17, 0, 128, 182, 0, 244, 3, 184, 1, 82, 79, 42, 180, 0, 94, 16, 6, 42, 180, 0, 26, 42, 180, 0, 10, 180, 0, 141, 182, 0, 189, 155, 0, 7, 4, 167, 0, 4, 3, 184, 0, 162, 79, 3, 60, 27, 42, 180, 0, 61, 180, 1, 74, 162, 0, 82, 42, 180, 0, 61, 180, 1, 96], [27, 46, 61, 42, 180, 0, 94, 7, 42, 180, 0, 40, 28, 182, 1, 10, 79, 42, 180, 0, 94, 8, 42, 180, 0, 33, 28, 182, 1, 99, 184, 0, 162, 79, 42, 180, 0, 94, 16, 7, 42, 180, 0, 10, 182, 1, 102, 28, 100, 3, 184, 1, 82, 79, 42, 180, 0, 61, 27, 42, 180, 0, 94, 182], [1, 105, 132, 1, 1, 167, 255, 169, 177]]) (by decide +kernel) (by decide +kernel)
set_option maxRecDepth 20000 in
theorem BX11_weighStories_1_0 : ∀ q ∈ ([(0, 42), (1, 8), (5, 42), (9, 3), (10, 42), (14, 4), (18, 79), (19, 42), (23, 4), (24, 42), (28, 3), (32, 79)] : List (Nat × Nat)), gb cX11_weighStories q.1 = some q.2 := seg_1 SX11_weighStories _ (by decide +kernel)
set_option maxRecDepth 20000 in
theorem BX11_weighStories_1_1 : ∀ q ∈ ([(33, 42), (37, 5), (38, 42), (49, 3), (53, 79), (54, 42), (58, 6), (59, 42), (71, 3), (75, 79), (76, 42), (82, 42)] : List (Nat × Nat)), gb cX11_weighStories q.1 = some q.2 := seg_1 SX11_weighStories _ (by decide +kernel)
set_option maxRecDepth 20000 in
theorem BX11_weighStories_1_2 : ∀ q ∈ ([(86, 42), (99, 4), (103, 3), (107, 79), (108, 3), (109, 60), (110, 27), (111, 42), (121, 42), (128, 27), (129, 46), (130, 61)] : List (Nat × Nat)), gb cX11_weighStories q.1 = some q.2 := seg_1 SX11_weighStories _ (by decide +kernel)
set_option maxRecDepth 20000 in
theorem BX11_weighStories_1_3 : ∀ q ∈ ([(131, 42), (135, 7), (136, 42), (140, 28), (144, 79), (145, 42), (149, 8), (150, 42), (154, 28), (161, 79), (162, 42), (168, 42)] : List (Nat × Nat)), gb cX11_weighStories q.1 = some q.2 := seg_1 SX11_weighStories _ (by decide +kernel)
set_option maxRecDepth 20000 in
theorem BX11_weighStories_1_4 : ∀ q ∈ ([(175, 28), (176, 100), (177, 3), (181, 79), (182, 42), (186, 27), (187, 42), (200, 177)] : List (Nat × Nat)), gb cX11_weighStories q.1 = some q.2 := seg_1 SX11_weighStories _ (by decide +kernel)
set_option maxRecDepth 20000 in
theorem BX11_weighStories_2_0 : ∀ q ∈ ([(42, 16, 31), (44, 16, 63), (63, 16, 31), (80, 16, 6), (166, 16, 7)] : List (Nat × Nat × Nat)), gb cX11_weighStories q.1 = some q.2.1 ∧ gb cX11_weighStories (q.1 + 1) = some q.2.2 := seg_2 SX11_weighStories _ (by decide +kernel)
set_option maxRecDepth 20000 in
theorem BX11_weighStories_3_0 : ∀ q ∈ ([(2, 182, 0, 185), (6, 180, 0, 94), (11, 180, 0, 26), (15, 182, 1, 93), (20, 180, 0, 94), (25, 180, 0, 26), (29, 182, 1, 93), (34, 180, 0, 94), (39, 180, 0, 33), (46, 182, 0, 244), (50, 184, 1, 82), (55, 180, 0, 94)] : List (Nat × Nat × Nat × Nat)), gb cX11_weighStories q.1 = some q.2.1 ∧ gb cX11_weighStories (q.1 + 1) = some q.2.2.1 ∧ gb cX11_weighStories (q.1 + 2) = some q.2.2.2 := seg_3 SX11_weighStories _ (by decide +kernel)
set_option maxRecDepth 20000 in
theorem BX11_weighStories_3_1 : ∀ q ∈ ([(60, 180, 0, 33), (65, 17, 0, 128), (68, 182, 0, 244), (72, 184, 1, 82), (77, 180, 0, 94), (83, 180, 0, 26), (87, 180, 0, 10), (90, 180, 0, 141), (93, 182, 0, 189), (96, 155, 0, 7), (100, 167, 0, 4), (104, 184, 0, 162)] : List (Nat × Nat × Nat × Nat)), gb cX11_weighStories q.1 = some q.2.1 ∧ gb cX11_weighStories (q.1 + 1) = some q.2.2.1 ∧ gb cX11_weighStories (q.1 + 2) = some q.2.2.2 := seg_3 SX11_weighStories _ (by decide +kernel)
set_option maxRecDepth 20000 in
theorem BX11_weighStories_3_2 : ∀ q ∈ ([(112, 180, 0, 61), (115, 180, 1, 74), (118, 162, 0, 82), (122, 180, 0, 61), (125, 180, 1, 96), (132, 180, 0, 94), (137, 180, 0, 40), (141, 182, 1, 10), (146, 180, 0, 94), (151, 180, 0, 33), (155, 182, 1, 99), (158, 184, 0, 162)] : List (Nat × Nat × Nat × Nat)), gb cX11_weighStories q.1 = some q.2.1 ∧ gb cX11_weighStories (q.1 + 1) = some q.2.2.1 ∧ gb cX11_weighStories (q.1 + 2) = some q.2.2.2 := seg_3 SX11_weighStories _ (by decide +kernel)
set_option maxRecDepth 20000 in
theorem BX11_weighStories_3_3 : ∀ q ∈ ([(163, 180, 0, 94), (169, 180, 0, 10), (172, 182, 1, 102), (178, 184, 1, 82), (183, 180, 0, 61), (188, 180, 0, 94), (191, 182, 1, 105), (194, 132, 1, 1), (197, 167, 255, 169)] : List (Nat × Nat × Nat × Nat)), gb cX11_weighStories q.1 = some q.2.1 ∧ gb cX11_weighStories (q.1 + 1) = some q.2.2.1 ∧ gb cX11_weighStories (q.1 + 2) = some q.2.2.2 := seg_3 SX11_weighStories _ (by decide +kernel)
theorem dX11_weighStories_0 : decode cX11_weighStories 0 = .ok (.aload_n 0, 1) := dk42 (BX11_weighStories_1_0 (0, 42) (List.mem_of_getElem? (i := 0) rfl))
theorem dX11_weighStories_1 : decode cX11_weighStories 1 = .ok (.iconst 5, 1) := dk8 (BX11_weighStories_1_0 (1, 8) (List.mem_of_getElem? (i := 1) rfl))
theorem dX11_weighStories_2 : decode cX11_weighStories 2 = .ok (.invokevirtual 185, 3) := dk182 0 185 (BX11_weighStories_3_0 (2, 182, 0, 185) (List.mem_of_getElem? (i := 0) rfl))
theorem dX11_weighStories_5 : decode cX11_weighStories 5 = .ok (.aload_n 0, 1) := dk42 (BX11_weighStories_1_0 (5, 42) (List.mem_of_getElem? (i := 2) rfl))
theorem dX11_weighStories_6 : decode cX11_weighStories 6 = .ok (.getfield 94, 3) := dk180 0 94 (BX11_weighStories_3_0 (6, 180, 0, 94) (List.mem_of_getElem? (i := 1) rfl))
theorem dX11_weighStories_9 : decode cX11_weighStories 9 = .ok (.iconst 0, 1) := dk3 (BX11_weighStories_1_0 (9, 3) (List.mem_of_getElem? (i := 3) rfl))
theorem dX11_weighStories_10 : decode cX11_weighStories 10 = .ok (.aload_n 0, 1) := dk42 (BX11_weighStories_1_0 (10, 42) (List.mem_of_getElem? (i := 4) rfl))
theorem dX11_weighStories_11 : decode cX11_weighStories 11 = .ok (.getfield 26, 3) := dk180 0 26 (BX11_weighStories_3_0 (11, 180, 0, 26) (List.mem_of_getElem? (i := 2) rfl))
theorem dX11_weighStories_14 : decode cX11_weighStories 14 = .ok (.iconst 1, 1) := dk4 (BX11_weighStories_1_0 (14, 4) (List.mem_of_getElem? (i := 5) rfl))
theorem dX11_weighStories_15 : decode cX11_weighStories 15 = .ok (.invokevirtual 349, 3) := dk182 1 93 (BX11_weighStories_3_0 (15, 182, 1, 93) (List.mem_of_getElem? (i := 3) rfl))
theorem dX11_weighStories_18 : decode cX11_weighStories 18 = .ok (.iastore, 1) := dk79 (BX11_weighStories_1_0 (18, 79) (List.mem_of_getElem? (i := 6) rfl))
theorem dX11_weighStories_19 : decode cX11_weighStories 19 = .ok (.aload_n 0, 1) := dk42 (BX11_weighStories_1_0 (19, 42) (List.mem_of_getElem? (i := 7) rfl))
theorem dX11_weighStories_20 : decode cX11_weighStories 20 = .ok (.getfield 94, 3) := dk180 0 94 (BX11_weighStories_3_0 (20, 180, 0, 94) (List.mem_of_getElem? (i := 4) rfl))
theorem dX11_weighStories_23 : decode cX11_weighStories 23 = .ok (.iconst 1, 1) := dk4 (BX11_weighStories_1_0 (23, 4) (List.mem_of_getElem? (i := 8) rfl))
theorem dX11_weighStories_24 : decode cX11_weighStories 24 = .ok (.aload_n 0, 1) := dk42 (BX11_weighStories_1_0 (24, 42) (List.mem_of_getElem? (i := 9) rfl))
theorem dX11_weighStories_25 : decode cX11_weighStories 25 = .ok (.getfield 26, 3) := dk180 0 26 (BX11_weighStories_3_0 (25, 180, 0, 26) (List.mem_of_getElem? (i := 5) rfl))
theorem dX11_weighStories_28 : decode cX11_weighStories 28 = .ok (.iconst 0, 1) := dk3 (BX11_weighStories_1_0 (28, 3) (List.mem_of_getElem? (i := 10) rfl))
theorem dX11_weighStories_29 : decode cX11_weighStories 29 = .ok (.invokevirtual 349, 3) := dk182 1 93 (BX11_weighStories_3_0 (29, 182, 1, 93) (List.mem_of_getElem? (i := 6) rfl))
theorem dX11_weighStories_32 : decode cX11_weighStories 32 = .ok (.iastore, 1) := dk79 (BX11_weighStories_1_0 (32, 79) (List.mem_of_getElem? (i := 11) rfl))
theorem dX11_weighStories_33 : decode cX11_weighStories 33 = .ok (.aload_n 0, 1) := dk42 (BX11_weighStories_1_1 (33, 42) (List.mem_of_getElem? (i := 0) rfl))
theorem dX11_weighStories_34 : decode cX11_weighStories 34 = .ok (.getfield 94, 3) := dk180 0 94 (BX11_weighStories_3_0 (34, 180, 0, 94) (List.mem_of_getElem? (i := 7) rfl))
theorem dX11_weighStories_37 : decode cX11_weighStories 37 = .ok (.iconst 2, 1) := dk5 (BX11_weighStories_1_1 (37, 5) (List.mem_of_getElem? (i := 1) rfl))
theorem dX11_weighStories_38 : decode cX11_weighStories 38 = .ok (.aload_n 0, 1) := dk42 (BX11_weighStories_1_1 (38, 42) (List.mem_of_getElem? (i := 2) rfl))
theorem dX11_weighStories_39 : decode cX11_weighStories 39 = .ok (.getfield 33, 3) := dk180 0 33 (BX11_weighStories_3_0 (39, 180, 0, 33) (List.mem_of_getElem? (i := 8) rfl))
theorem dX11_weighStories_42 : decode cX11_weighStories 42 = .ok (.bipush 31, 2) := dk16 31 (BX11_weighStories_2_0 (42, 16, 31) (List.mem_of_getElem? (i := 0) rfl))
theorem dX11_weighStories_44 : decode cX11_weighStories 44 = .ok (.bipush 63, 2) := dk16 63 (BX11_weighStories_2_0 (44, 16, 63) (List.mem_of_getElem? (i := 1) rfl))
theorem dX11_weighStories_46 : decode cX11_weighStories 46 = .ok (.invokevirtual 244, 3) := dk182 0 244 (BX11_weighStories_3_0 (46, 182, 0, 244) (List.mem_of_getElem? (i := 9) rfl))
theorem dX11_weighStories_49 : decode cX11_weighStories 49 = .ok (.iconst 0, 1) := dk3 (BX11_weighStories_1_1 (49, 3) (List.mem_of_getElem? (i := 3) rfl))
theorem dX11_weighStories_50 : decode cX11_weighStories 50 = .ok (.invokestatic 338, 3) := dk184 1 82 (BX11_weighStories_3_0 (50, 184, 1, 82) (List.mem_of_getElem? (i := 10) rfl))
theorem dX11_weighStories_53 : decode cX11_weighStories 53 = .ok (.iastore, 1) := dk79 (BX11_weighStories_1_1 (53, 79) (List.mem_of_getElem? (i := 4) rfl))
theorem dX11_weighStories_54 : decode cX11_weighStories 54 = .ok (.aload_n 0, 1) := dk42 (BX11_weighStories_1_1 (54, 42) (List.mem_of_getElem? (i := 5) rfl))
theorem dX11_weighStories_55 : decode cX11_weighStories 55 = .ok (.getfield 94, 3) := dk180 0 94 (BX11_weighStories_3_0 (55, 180, 0, 94) (List.mem_of_getElem? (i := 11) rfl))
theorem dX11_weighStories_58 : decode cX11_weighStories 58 = .ok (.iconst 3, 1) := dk6 (BX11_weighStories_1_1 (58, 6) (List.mem_of_getElem? (i := 6) rfl))
theorem dX11_weighStories_59 : decode cX11_weighStories 59 = .ok (.aload_n 0, 1) := dk42 (BX11_weighStories_1_1 (59, 42) (List.mem_of_getElem? (i := 7) rfl))
theorem dX11_weighStories_60 : decode cX11_weighStories 60 = .ok (.getfield 33, 3) := dk180 0 33 (BX11_weighStories_3_1 (60, 180, 0, 33) (List.mem_of_getElem? (i := 0) rfl))
theorem dX11_weighStories_63 : decode cX11_weighStories 63 = .ok (.bipush 31, 2) := dk16 31 (BX11_weighStories_2_0 (63, 16, 31) (List.mem_of_getElem? (i := 2) rfl))
theorem dX11_weighStories_65 : decode cX11_weighStories 65 = .ok (.sipush 128, 3) := dk17 0 128 (BX11_weighStories_3_1 (65, 17, 0, 128) (List.mem_of_getElem? (i := 1) rfl))
theorem dX11_weighStories_68 : decode cX11_weighStories 68 = .ok (.invokevirtual 244, 3) := dk182 0 244 (BX11_weighStories_3_1 (68, 182, 0, 244) (List.mem_of_getElem? (i := 2) rfl))
theorem dX11_weighStories_71 : decode cX11_weighStories 71 = .ok (.iconst 0, 1) := dk3 (BX11_weighStories_1_1 (71, 3) (List.mem_of_getElem? (i := 8) rfl))
theorem dX11_weighStories_72 : decode cX11_weighStories 72 = .ok (.invokestatic 338, 3) := dk184 1 82 (BX11_weighStories_3_1 (72, 184, 1, 82) (List.mem_of_getElem? (i := 3) rfl))
theorem dX11_weighStories_75 : decode cX11_weighStories 75 = .ok (.iastore, 1) := dk79 (BX11_weighStories_1_1 (75, 79) (List.mem_of_getElem? (i := 9) rfl))
theorem dX11_weighStories_76 : decode cX11_weighStories 76 = .ok (.aload_n 0, 1) := dk42 (BX11_weighStories_1_1 (76, 42) (List.mem_of_getElem? (i := 10) rfl))
theorem dX11_weighStories_77 : decode cX11_weighStories 77 = .ok (.getfield 94, 3) := dk180 0 94 (BX11_weighStories_3_1 (77, 180, 0, 94) (List.mem_of_getElem? (i := 4) rfl))
theorem dX11_weighStories_80 : decode cX11_weighStories 80 = .ok (.bipush 6, 2) := dk16 6 (BX11_weighStories_2_0 (80, 16, 6) (List.mem_of_getElem? (i := 3) rfl))
theorem dX11_weighStories_82 : decode cX11_weighStories 82 = .ok (.aload_n 0, 1) := dk42 (BX11_weighStories_1_1 (82, 42) (List.mem_of_getElem? (i := 11) rfl))
theorem dX11_weighStories_83 : decode cX11_weighStories 83 = .ok (.getfield 26, 3) := dk180 0 26 (BX11_weighStories_3_1 (83, 180, 0, 26) (List.mem_of_getElem? (i := 5) rfl))
theorem dX11_weighStories_86 : decode cX11_weighStories 86 = .ok (.aload_n 0, 1) := dk42 (BX11_weighStories_1_2 (86, 42) (List.mem_of_getElem? (i := 0) rfl))
theorem dX11_weighStories_87 : decode cX11_weighStories 87 = .ok (.getfield 10, 3) := dk180 0 10 (BX11_weighStories_3_1 (87, 180, 0, 10) (List.mem_of_getElem? (i := 6) rfl))
theorem dX11_weighStories_90 : decode cX11_weighStories 90 = .ok (.getfield 141, 3) := dk180 0 141 (BX11_weighStories_3_1 (90, 180, 0, 141) (List.mem_of_getElem? (i := 7) rfl))
theorem dX11_weighStories_93 : decode cX11_weighStories 93 = .ok (.invokevirtual 189, 3) := dk182 0 189 (BX11_weighStories_3_1 (93, 182, 0, 189) (List.mem_of_getElem? (i := 8) rfl))
theorem dX11_weighStories_96 : decode cX11_weighStories 96 = .ok (.ifCond .lt 7, 3) := dk155 0 7 (BX11_weighStories_3_1 (96, 155, 0, 7) (List.mem_of_getElem? (i := 9) rfl))
theorem dX11_weighStories_99 : decode cX11_weighStories 99 = .ok (.iconst 1, 1) := dk4 (BX11_weighStories_1_2 (99, 4) (List.mem_of_getElem? (i := 1) rfl))
theorem dX11_weighStories_100 : decode cX11_weighStories 100 = .ok (.goto 4, 3) := dk167 0 4 (BX11_weighStories_3_1 (100, 167, 0, 4) (List.mem_of_getElem? (i := 10) rfl))
theorem dX11_weighStories_103 : decode cX11_weighStories 103 = .ok (.iconst 0, 1) := dk3 (BX11_weighStories_1_2 (103, 3) (List.mem_of_getElem? (i := 2) rfl))
theorem dX11_weighStories_104 : decode cX11_weighStories 104 = .ok (.invokestatic 162, 3) := dk184 0 162 (BX11_weighStories_3_1 (104, 184, 0, 162) (List.mem_of_getElem? (i := 11) rfl))
theorem dX11_weighStories_107 : decode cX11_weighStories 107 = .ok (.iastore, 1) := dk79 (BX11_weighStories_1_2 (107, 79) (List.mem_of_getElem? (i := 3) rfl))
theorem dX11_weighStories_108 : decode cX11_weighStories 108 = .ok (.iconst 0, 1) := dk3 (BX11_weighStories_1_2 (108, 3) (List.mem_of_getElem? (i := 4) rfl))
theorem dX11_weighStories_109 : decode cX11_weighStories 109 = .ok (.istore_n 1, 1) := dk60 (BX11_weighStories_1_2 (109, 60) (List.mem_of_getElem? (i := 5) rfl))
theorem dX11_weighStories_110 : decode cX11_weighStories 110 = .ok (.iload_n 1, 1) := dk27 (BX11_weighStories_1_2 (110, 27) (List.mem_of_getElem? (i := 6) rfl))
theorem dX11_weighStories_111 : decode cX11_weighStories 111 = .ok (.aload_n 0, 1) := dk42 (BX11_weighStories_1_2 (111, 42) (List.mem_of_getElem? (i := 7) rfl))
theorem dX11_weighStories_112 : decode cX11_weighStories 112 = .ok (.getfield 61, 3) := dk180 0 61 (BX11_weighStories_3_2 (112, 180, 0, 61) (List.mem_of_getElem? (i := 0) rfl))
theorem dX11_weighStories_115 : decode cX11_weighStories 115 = .ok (.getfield 330, 3) := dk180 1 74 (BX11_weighStories_3_2 (115, 180, 1, 74) (List.mem_of_getElem? (i := 1) rfl))
theorem dX11_weighStories_118 : decode cX11_weighStories 118 = .ok (.if_icmp .ge 82, 3) := dk162 0 82 (BX11_weighStories_3_2 (118, 162, 0, 82) (List.mem_of_getElem? (i := 2) rfl))
theorem dX11_weighStories_121 : decode cX11_weighStories 121 = .ok (.aload_n 0, 1) := dk42 (BX11_weighStories_1_2 (121, 42) (List.mem_of_getElem? (i := 8) rfl))
theorem dX11_weighStories_122 : decode cX11_weighStories 122 = .ok (.getfield 61, 3) := dk180 0 61 (BX11_weighStories_3_2 (122, 180, 0, 61) (List.mem_of_getElem? (i := 3) rfl))
theorem dX11_weighStories_125 : decode cX11_weighStories 125 = .ok (.getfield 352, 3) := dk180 1 96 (BX11_weighStories_3_2 (125, 180, 1, 96) (List.mem_of_getElem? (i := 4) rfl))
theorem dX11_weighStories_128 : decode cX11_weighStories 128 = .ok (.iload_n 1, 1) := dk27 (BX11_weighStories_1_2 (128, 27) (List.mem_of_getElem? (i := 9) rfl))
theorem dX11_weighStories_129 : decode cX11_weighStories 129 = .ok (.iaload, 1) := dk46 (BX11_weighStories_1_2 (129, 46) (List.mem_of_getElem? (i := 10) rfl))
theorem dX11_weighStories_130 : decode cX11_weighStories 130 = .ok (.istore_n 2, 1) := dk61 (BX11_weighStories_1_2 (130, 61) (List.mem_of_getElem? (i := 11) rfl))
theorem dX11_weighStories_131 : decode cX11_weighStories 131 = .ok (.aload_n 0, 1) := dk42 (BX11_weighStories_1_3 (131, 42) (List.mem_of_getElem? (i := 0) rfl))
theorem dX11_weighStories_132 : decode cX11_weighStories 132 = .ok (.getfield 94, 3) := dk180 0 94 (BX11_weighStories_3_2 (132, 180, 0, 94) (List.mem_of_getElem? (i := 5) rfl))
theorem dX11_weighStories_135 : decode cX11_weighStories 135 = .ok (.iconst 4, 1) := dk7 (BX11_weighStories_1_3 (135, 7) (List.mem_of_getElem? (i := 1) rfl))
theorem dX11_weighStories_136 : decode cX11_weighStories 136 = .ok (.aload_n 0, 1) := dk42 (BX11_weighStories_1_3 (136, 42) (List.mem_of_getElem? (i := 2) rfl))
theorem dX11_weighStories_137 : decode cX11_weighStories 137 = .ok (.getfield 40, 3) := dk180 0 40 (BX11_weighStories_3_2 (137, 180, 0, 40) (List.mem_of_getElem? (i := 6) rfl))
theorem dX11_weighStories_140 : decode cX11_weighStories 140 = .ok (.iload_n 2, 1) := dk28 (BX11_weighStories_1_3 (140, 28) (List.mem_of_getElem? (i := 3) rfl))
theorem dX11_weighStories_141 : decode cX11_weighStories 141 = .ok (.invokevirtual 266, 3) := dk182 1 10 (BX11_weighStories_3_2 (141, 182, 1, 10) (List.mem_of_getElem? (i := 7) rfl))
theorem dX11_weighStories_144 : decode cX11_weighStories 144 = .ok (.iastore, 1) := dk79 (BX11_weighStories_1_3 (144, 79) (List.mem_of_getElem? (i := 4) rfl))
theorem dX11_weighStories_145 : decode cX11_weighStories 145 = .ok (.aload_n 0, 1) := dk42 (BX11_weighStories_1_3 (145, 42) (List.mem_of_getElem? (i := 5) rfl))
theorem dX11_weighStories_146 : decode cX11_weighStories 146 = .ok (.getfield 94, 3) := dk180 0 94 (BX11_weighStories_3_2 (146, 180, 0, 94) (List.mem_of_getElem? (i := 8) rfl))
theorem dX11_weighStories_149 : decode cX11_weighStories 149 = .ok (.iconst 5, 1) := dk8 (BX11_weighStories_1_3 (149, 8) (List.mem_of_getElem? (i := 6) rfl))
theorem dX11_weighStories_150 : decode cX11_weighStories 150 = .ok (.aload_n 0, 1) := dk42 (BX11_weighStories_1_3 (150, 42) (List.mem_of_getElem? (i := 7) rfl))
theorem dX11_weighStories_151 : decode cX11_weighStories 151 = .ok (.getfield 33, 3) := dk180 0 33 (BX11_weighStories_3_2 (151, 180, 0, 33) (List.mem_of_getElem? (i := 9) rfl))
theorem dX11_weighStories_154 : decode cX11_weighStories 154 = .ok (.iload_n 2, 1) := dk28 (BX11_weighStories_1_3 (154, 28) (List.mem_of_getElem? (i := 8) rfl))
theorem dX11_weighStories_155 : decode cX11_weighStories 155 = .ok (.invokevirtual 355, 3) := dk182 1 99 (BX11_weighStories_3_2 (155, 182, 1, 99) (List.mem_of_getElem? (i := 10) rfl))
theorem dX11_weighStories_158 : decode cX11_weighStories 158 = .ok (.invokestatic 162, 3) := dk184 0 162 (BX11_weighStories_3_2 (158, 184, 0, 162) (List.mem_of_getElem? (i := 11) rfl))
theorem dX11_weighStories_161 : decode cX11_weighStories 161 = .ok (.iastore, 1) := dk79 (BX11_weighStories_1_3 (161, 79) (List.mem_of_getElem? (i := 9) rfl))
theorem dX11_weighStories_162 : decode cX11_weighStories 162 = .ok (.aload_n 0, 1) := dk42 (BX11_weighStories_1_3 (162, 42) (List.mem_of_getElem? (i := 10) rfl))
theorem dX11_weighStories_163 : decode cX11_weighStories 163 = .ok (.getfield 94, 3) := dk180 0 94 (BX11_weighStories_3_3 (163, 180, 0, 94) (List.mem_of_getElem? (i := 0) rfl))
theorem dX11_weighStories_166 : decode cX11_weighStories 166 = .ok (.bipush 7, 2) := dk16 7 (BX11_weighStories_2_0 (166, 16, 7) (List.mem_of_getElem? (i := 4) rfl))
theorem dX11_weighStories_168 : decode cX11_weighStories 168 = .ok (.aload_n 0, 1) := dk42 (BX11_weighStories_1_3 (168, 42) (List.mem_of_getElem? (i := 11) rfl))
theorem dX11_weighStories_169 : decode cX11_weighStories 169 = .ok (.getfield 10, 3) := dk180 0 10 (BX11_weighStories_3_3 (169, 180, 0, 10) (List.mem_of_getElem? (i := 1) rfl))
theorem dX11_weighStories_172 : decode cX11_weighStories 172 = .ok (.invokevirtual 358, 3) := dk182 1 102 (BX11_weighStories_3_3 (172, 182, 1, 102) (List.mem_of_getElem? (i := 2) rfl))
theorem dX11_weighStories_175 : decode cX11_weighStories 175 = .ok (.iload_n 2, 1) := dk28 (BX11_weighStories_1_4 (175, 28) (List.mem_of_getElem? (i := 0) rfl))
theorem dX11_weighStories_176 : decode cX11_weighStories 176 = .ok (.isub, 1) := dk100 (BX11_weighStories_1_4 (176, 100) (List.mem_of_getElem? (i := 1) rfl))
theorem dX11_weighStories_177 : decode cX11_weighStories 177 = .ok (.iconst 0, 1) := dk3 (BX11_weighStories_1_4 (177, 3) (List.mem_of_getElem? (i := 2) rfl))
theorem dX11_weighStories_178 : decode cX11_weighStories 178 = .ok (.invokestatic 338, 3) := dk184 1 82 (BX11_weighStories_3_3 (178, 184, 1, 82) (List.mem_of_getElem? (i := 3) rfl))
theorem dX11_weighStories_181 : decode cX11_weighStories 181 = .ok (.iastore, 1) := dk79 (BX11_weighStories_1_4 (181, 79) (List.mem_of_getElem? (i := 3) rfl))
theorem dX11_weighStories_182 : decode cX11_weighStories 182 = .ok (.aload_n 0, 1) := dk42 (BX11_weighStories_1_4 (182, 42) (List.mem_of_getElem? (i := 4) rfl))
theorem dX11_weighStories_183 : decode cX11_weighStories 183 = .ok (.getfield 61, 3) := dk180 0 61 (BX11_weighStories_3_3 (183, 180, 0, 61) (List.mem_of_getElem? (i := 4) rfl))
theorem dX11_weighStories_186 : decode cX11_weighStories 186 = .ok (.iload_n 1, 1) := dk27 (BX11_weighStories_1_4 (186, 27) (List.mem_of_getElem? (i := 5) rfl))
theorem dX11_weighStories_187 : decode cX11_weighStories 187 = .ok (.aload_n 0, 1) := dk42 (BX11_weighStories_1_4 (187, 42) (List.mem_of_getElem? (i := 6) rfl))
theorem dX11_weighStories_188 : decode cX11_weighStories 188 = .ok (.getfield 94, 3) := dk180 0 94 (BX11_weighStories_3_3 (188, 180, 0, 94) (List.mem_of_getElem? (i := 5) rfl))
theorem dX11_weighStories_191 : decode cX11_weighStories 191 = .ok (.invokevirtual 361, 3) := dk182 1 105 (BX11_weighStories_3_3 (191, 182, 1, 105) (List.mem_of_getElem? (i := 6) rfl))
theorem dX11_weighStories_194 : decode cX11_weighStories 194 = .ok (.iinc 1 1, 3) := dk132 1 1 (BX11_weighStories_3_3 (194, 132, 1, 1) (List.mem_of_getElem? (i := 7) rfl))
theorem dX11_weighStories_197 : decode cX11_weighStories 197 = .ok (.goto (-87), 3) := dk167 255 169 (BX11_weighStories_3_3 (197, 167, 255, 169) (List.mem_of_getElem? (i := 8) rfl))
theorem dX11_weighStories_200 : decode cX11_weighStories 200 = .ok (.return_, 1) := dk177 (BX11_weighStories_1_4 (200, 177) (List.mem_of_getElem? (i := 7) rfl))
set_option maxRecDepth 20000 in
theorem ggX11_undo_X1_stepBack : GoodIn wsX11_undo wsX1_stepBack := gcons (goodIn_g ch_wsX11_undo_flat gd_wsX11_undo _ [(1, 9)] rfl) (goodIn_app (goodIn_g ch_wsX11_undo_flat gd_wsX11_undo _ [(1, 10), (1, 11), (1, 12), (1, 13), (1, 14)] rfl) (gchunk ch_wsX11_undo_flat gd_wsX11_undo 4 rfl))
set_option maxRecDepth 20000 in
theorem gX11_undo_X1_stepBack : GoodIn wsX11_undo (wsV RX11 368 RX1 yX1_stepBack wsX1_stepBack) := goodIn_app (goodIn_g ch_wsX11_undo_flat gd_wsX11_undo _ [(1, 5), (1, 6), (1, 7), (1, 8)] rfl) ggX11_undo_X1_stepBack
set_option maxRecDepth 20000 in
theorem ggX11_undo_X11_become : GoodIn wsX11_undo wsX11_become := gcons (goodIn_g ch_wsX11_undo_flat gd_wsX11_undo _ [(1, 19)] rfl) (goodIn_app (goodIn_app (goodIn_app (goodIn_app (goodIn_g ch_wsX11_undo_flat gd_wsX11_undo _ [(1, 20), (1, 21), (1, 22), (1, 23), (2, 0), (2, 1), (2, 2), (2, 3), (1, 18), (2, 4)] rfl) (gchunk ch_wsX11_undo_flat gd_wsX11_undo 3 rfl)) (gchunk ch_wsX11_undo_flat gd_wsX11_undo 5 rfl)) (gchunk ch_wsX11_undo_flat gd_wsX11_undo 6 rfl)) (gchunk ch_wsX11_undo_flat gd_wsX11_undo 7 rfl))
set_option maxRecDepth 20000 in
theorem gX11_undo_X11_become : GoodIn wsX11_undo (wsV RX11 380 RX11 yX11_become wsX11_become) := goodIn_app (goodIn_g ch_wsX11_undo_flat gd_wsX11_undo _ [(1, 15), (1, 16), (1, 17), (1, 18)] rfl) ggX11_undo_X11_become
set_option maxRecDepth 20000 in
theorem SX11_undo : ∀ p : Nat, gb cX11_undo p = segF [[42, 180, 0, 68, 180, 1, 109, 154, 0, 6, 16, 251, 172, 42, 180, 0, 68, 182, 1, 112, 60, 42, 42, 180, 0, 68, 180, 1, 115, 27, 46, 42, 180, 0, 68, 180, 1, 118, 27, 46, 42, 180, 0, 68, 180, 1, 121, 27, 46, 182, 1, 124, 87, 42, 180, 0, 68, 180, 1, 109, 172]] p := seg_gb (S := [[42, 180, 0, 68, 180, 1, 109, 154, 0, 6, 16, 251, 172, 42, 180, 0, 68, 182, 1, 112, 60, 42, 42, 180, 0, 68, 180, 1, 115, 27, 46, 42, 180, 0, 68, 180, 1, 118, 27, 46, 42, 180, 0, 68, 180, 1, 121, 27, 46, 182, 1, 124, 87, 42, 180, 0, 68, 180, 1, 109, 172]]) (by decide +kernel) (by decide +kernel)
set_option maxRecDepth 20000 in
theorem BX11_undo_1_0 : ∀ q ∈ ([(0, 42), (12, 172), (13, 42), (20, 60), (21, 42), (22, 42), (29, 27), (30, 46), (31, 42), (38, 27), (39, 46), (40, 42)] : List (Nat × Nat)), gb cX11_undo q.1 = some q.2 := seg_1 SX11_undo _ (by decide +kernel)
set_option maxRecDepth 20000 in
theorem BX11_undo_1_1 : ∀ q ∈ ([(47, 27), (48, 46), (52, 87), (53, 42), (60, 172)] : List (Nat × Nat)), gb cX11_undo q.1 = some q.2 := seg_1 SX11_undo _ (by decide +kernel)
set_option maxRecDepth 20000 in
theorem BX11_undo_2_0 : ∀ q ∈ ([(10, 16, 251)] : List (Nat × Nat × Nat)), gb cX11_undo q.1 = some q.2.1 ∧ gb cX11_undo (q.1 + 1) = some q.2.2 := seg_2 SX11_undo _ (by decide +kernel)
set_option maxRecDepth 20000 in
theorem BX11_undo_3_0 : ∀ q ∈ ([(1, 180, 0, 68), (4, 180, 1, 109), (7, 154, 0, 6), (14, 180, 0, 68), (17, 182, 1, 112), (23, 180, 0, 68), (26, 180, 1, 115), (32, 180, 0, 68), (35, 180, 1, 118), (41, 180, 0, 68), (44, 180, 1, 121), (49, 182, 1, 124)] : List (Nat × Nat × Nat × Nat)), gb cX11_undo q.1 = some q.2.1 ∧ gb cX11_undo (q.1 + 1) = some q.2.2.1 ∧ gb cX11_undo (q.1 + 2) = some q.2.2.2 := seg_3 SX11_undo _ (by decide +kernel)
set_option maxRecDepth 20000 in
theorem BX11_undo_3_1 : ∀ q ∈ ([(54, 180, 0, 68), (57, 180, 1, 109)] : List (Nat × Nat × Nat × Nat)), gb cX11_undo q.1 = some q.2.1 ∧ gb cX11_undo (q.1 + 1) = some q.2.2.1 ∧ gb cX11_undo (q.1 + 2) = some q.2.2.2 := seg_3 SX11_undo _ (by decide +kernel)
theorem dX11_undo_0 : decode cX11_undo 0 = .ok (.aload_n 0, 1) := dk42 (BX11_undo_1_0 (0, 42) (List.mem_of_getElem? (i := 0) rfl))
theorem dX11_undo_1 : decode cX11_undo 1 = .ok (.getfield 68, 3) := dk180 0 68 (BX11_undo_3_0 (1, 180, 0, 68) (List.mem_of_getElem? (i := 0) rfl))
theorem dX11_undo_4 : decode cX11_undo 4 = .ok (.getfield 365, 3) := dk180 1 109 (BX11_undo_3_0 (4, 180, 1, 109) (List.mem_of_getElem? (i := 1) rfl))
theorem dX11_undo_7 : decode cX11_undo 7 = .ok (.ifCond .ne 6, 3) := dk154 0 6 (BX11_undo_3_0 (7, 154, 0, 6) (List.mem_of_getElem? (i := 2) rfl))
theorem dX11_undo_10 : decode cX11_undo 10 = .ok (.bipush (-5), 2) := dk16 251 (BX11_undo_2_0 (10, 16, 251) (List.mem_of_getElem? (i := 0) rfl))
theorem dX11_undo_12 : decode cX11_undo 12 = .ok (.ireturn, 1) := dk172 (BX11_undo_1_0 (12, 172) (List.mem_of_getElem? (i := 1) rfl))
theorem dX11_undo_13 : decode cX11_undo 13 = .ok (.aload_n 0, 1) := dk42 (BX11_undo_1_0 (13, 42) (List.mem_of_getElem? (i := 2) rfl))
theorem dX11_undo_14 : decode cX11_undo 14 = .ok (.getfield 68, 3) := dk180 0 68 (BX11_undo_3_0 (14, 180, 0, 68) (List.mem_of_getElem? (i := 3) rfl))
theorem dX11_undo_17 : decode cX11_undo 17 = .ok (.invokevirtual 368, 3) := dk182 1 112 (BX11_undo_3_0 (17, 182, 1, 112) (List.mem_of_getElem? (i := 4) rfl))
theorem dX11_undo_20 : decode cX11_undo 20 = .ok (.istore_n 1, 1) := dk60 (BX11_undo_1_0 (20, 60) (List.mem_of_getElem? (i := 3) rfl))
theorem dX11_undo_21 : decode cX11_undo 21 = .ok (.aload_n 0, 1) := dk42 (BX11_undo_1_0 (21, 42) (List.mem_of_getElem? (i := 4) rfl))
theorem dX11_undo_22 : decode cX11_undo 22 = .ok (.aload_n 0, 1) := dk42 (BX11_undo_1_0 (22, 42) (List.mem_of_getElem? (i := 5) rfl))
theorem dX11_undo_23 : decode cX11_undo 23 = .ok (.getfield 68, 3) := dk180 0 68 (BX11_undo_3_0 (23, 180, 0, 68) (List.mem_of_getElem? (i := 5) rfl))
theorem dX11_undo_26 : decode cX11_undo 26 = .ok (.getfield 371, 3) := dk180 1 115 (BX11_undo_3_0 (26, 180, 1, 115) (List.mem_of_getElem? (i := 6) rfl))
theorem dX11_undo_29 : decode cX11_undo 29 = .ok (.iload_n 1, 1) := dk27 (BX11_undo_1_0 (29, 27) (List.mem_of_getElem? (i := 6) rfl))
theorem dX11_undo_30 : decode cX11_undo 30 = .ok (.iaload, 1) := dk46 (BX11_undo_1_0 (30, 46) (List.mem_of_getElem? (i := 7) rfl))
theorem dX11_undo_31 : decode cX11_undo 31 = .ok (.aload_n 0, 1) := dk42 (BX11_undo_1_0 (31, 42) (List.mem_of_getElem? (i := 8) rfl))
theorem dX11_undo_32 : decode cX11_undo 32 = .ok (.getfield 68, 3) := dk180 0 68 (BX11_undo_3_0 (32, 180, 0, 68) (List.mem_of_getElem? (i := 7) rfl))
theorem dX11_undo_35 : decode cX11_undo 35 = .ok (.getfield 374, 3) := dk180 1 118 (BX11_undo_3_0 (35, 180, 1, 118) (List.mem_of_getElem? (i := 8) rfl))
theorem dX11_undo_38 : decode cX11_undo 38 = .ok (.iload_n 1, 1) := dk27 (BX11_undo_1_0 (38, 27) (List.mem_of_getElem? (i := 9) rfl))
theorem dX11_undo_39 : decode cX11_undo 39 = .ok (.iaload, 1) := dk46 (BX11_undo_1_0 (39, 46) (List.mem_of_getElem? (i := 10) rfl))
theorem dX11_undo_40 : decode cX11_undo 40 = .ok (.aload_n 0, 1) := dk42 (BX11_undo_1_0 (40, 42) (List.mem_of_getElem? (i := 11) rfl))
theorem dX11_undo_41 : decode cX11_undo 41 = .ok (.getfield 68, 3) := dk180 0 68 (BX11_undo_3_0 (41, 180, 0, 68) (List.mem_of_getElem? (i := 9) rfl))
theorem dX11_undo_44 : decode cX11_undo 44 = .ok (.getfield 377, 3) := dk180 1 121 (BX11_undo_3_0 (44, 180, 1, 121) (List.mem_of_getElem? (i := 10) rfl))
theorem dX11_undo_47 : decode cX11_undo 47 = .ok (.iload_n 1, 1) := dk27 (BX11_undo_1_1 (47, 27) (List.mem_of_getElem? (i := 0) rfl))
theorem dX11_undo_48 : decode cX11_undo 48 = .ok (.iaload, 1) := dk46 (BX11_undo_1_1 (48, 46) (List.mem_of_getElem? (i := 1) rfl))
theorem dX11_undo_49 : decode cX11_undo 49 = .ok (.invokevirtual 380, 3) := dk182 1 124 (BX11_undo_3_0 (49, 182, 1, 124) (List.mem_of_getElem? (i := 11) rfl))
theorem dX11_undo_52 : decode cX11_undo 52 = .ok (.pop, 1) := dk87 (BX11_undo_1_1 (52, 87) (List.mem_of_getElem? (i := 2) rfl))
theorem dX11_undo_53 : decode cX11_undo 53 = .ok (.aload_n 0, 1) := dk42 (BX11_undo_1_1 (53, 42) (List.mem_of_getElem? (i := 3) rfl))
theorem dX11_undo_54 : decode cX11_undo 54 = .ok (.getfield 68, 3) := dk180 0 68 (BX11_undo_3_1 (54, 180, 0, 68) (List.mem_of_getElem? (i := 0) rfl))
theorem dX11_undo_57 : decode cX11_undo 57 = .ok (.getfield 365, 3) := dk180 1 109 (BX11_undo_3_1 (57, 180, 1, 109) (List.mem_of_getElem? (i := 1) rfl))
theorem dX11_undo_60 : decode cX11_undo 60 = .ok (.ireturn, 1) := dk172 (BX11_undo_1_1 (60, 172) (List.mem_of_getElem? (i := 4) rfl))
set_option maxRecDepth 20000 in
theorem ggX11_redo_X1_stepOn : GoodIn wsX11_redo wsX1_stepOn := gcons (goodIn_g ch_wsX11_redo_flat gd_wsX11_redo _ [(1, 10)] rfl) (goodIn_app (goodIn_g ch_wsX11_redo_flat gd_wsX11_redo _ [(1, 11), (1, 12), (1, 13), (1, 14), (1, 15), (1, 16)] rfl) (gchunk ch_wsX11_redo_flat gd_wsX11_redo 4 rfl))
set_option maxRecDepth 20000 in
theorem gX11_redo_X1_stepOn : GoodIn wsX11_redo (wsV RX11 386 RX1 yX1_stepOn wsX1_stepOn) := goodIn_app (goodIn_g ch_wsX11_redo_flat gd_wsX11_redo _ [(1, 6), (1, 7), (1, 8), (1, 9)] rfl) ggX11_redo_X1_stepOn
set_option maxRecDepth 20000 in
theorem ggX11_redo_X11_become : GoodIn wsX11_redo wsX11_become := gcons (goodIn_g ch_wsX11_redo_flat gd_wsX11_redo _ [(1, 21)] rfl) (goodIn_app (goodIn_app (goodIn_app (goodIn_app (goodIn_g ch_wsX11_redo_flat gd_wsX11_redo _ [(1, 22), (1, 23), (2, 0), (2, 1), (2, 2), (2, 3), (2, 4), (2, 5), (1, 20), (2, 6)] rfl) (gchunk ch_wsX11_redo_flat gd_wsX11_redo 3 rfl)) (gchunk ch_wsX11_redo_flat gd_wsX11_redo 5 rfl)) (gchunk ch_wsX11_redo_flat gd_wsX11_redo 6 rfl)) (gchunk ch_wsX11_redo_flat gd_wsX11_redo 7 rfl))
set_option maxRecDepth 20000 in
theorem gX11_redo_X11_become : GoodIn wsX11_redo (wsV RX11 380 RX11 yX11_become wsX11_become) := goodIn_app (goodIn_g ch_wsX11_redo_flat gd_wsX11_redo _ [(1, 17), (1, 18), (1, 19), (1, 20)] rfl) ggX11_redo_X11_become
set_option maxRecDepth 20000 in
theorem SX11_redo : ∀ p : Nat, gb cX11_redo p = segF [[42, 180, 0, 68, 180, 1, 109, 42, 180, 0, 68, 180, 1, 127, 160, 0, 6, 16, 251, 172, 42, 180, 0, 68, 182, 1, 130, 60, 42, 42, 180, 0, 68, 180, 1, 115, 27, 46, 42, 180, 0, 68, 180, 1, 118, 27, 46, 42, 180, 0, 68, 180, 1, 133, 27, 46, 182, 1, 124, 87, 42, 180, 0, 68], [180, 1, 127, 42, 180, 0, 68, 180, 1, 109, 100, 172]] p := seg_gb (S := [[42, 180, 0, 68, 180, 1, 109, 42, 180, 0, 68, 180, 1, 127, 160, 0, 6, 16, 251, 172, 42, 180, 0, 68, 182, 1, 130, 60, 42, 42, 180, 0, 68, 180, 1, 115, 27, 46, 42, 180, 0, 68, 180, 1, 118, 27, 46, 42, 180, 0, 68, 180, 1, 133, 27, 46, 182, 1, 124, 87, 42, 180, 0, 68], [180, 1, 127, 42, 180, 0, 68, 180, 1, 109, 100, 172]]) (by decide +kernel) (by decide +kernel)
set_option maxRecDepth 20000 in
theorem BX11_redo_1_0 : ∀ q ∈ ([(0, 42), (7, 42), (19, 172), (20, 42), (27, 60), (28, 42), (29, 42), (36, 27), (37, 46), (38, 42), (45, 27), (46, 46)] : List (Nat × Nat)), gb cX11_redo q.1 = some q.2 := seg_1 SX11_redo _ (by decide +kernel)
set_option maxRecDepth 20000 in
theorem BX11_redo_1_1 : ∀ q ∈ ([(47, 42), (54, 27), (55, 46), (59, 87), (60, 42), (67, 42), (74, 100), (75, 172)] : List (Nat × Nat)), gb cX11_redo q.1 = some q.2 := seg_1 SX11_redo _ (by decide +kernel)
set_option maxRecDepth 20000 in
theorem BX11_redo_2_0 : ∀ q ∈ ([(17, 16, 251)] : List (Nat × Nat × Nat)), gb cX11_redo q.1 = some q.2.1 ∧ gb cX11_redo (q.1 + 1) = some q.2.2 := seg_2 SX11_redo _ (by decide +kernel)
set_option maxRecDepth 20000 in
theorem BX11_redo_3_0 : ∀ q ∈ ([(1, 180, 0, 68), (4, 180, 1, 109), (8, 180, 0, 68), (11, 180, 1, 127), (14, 160, 0, 6), (21, 180, 0, 68), (24, 182, 1, 130), (30, 180, 0, 68), (33, 180, 1, 115), (39, 180, 0, 68), (42, 180, 1, 118), (48, 180, 0, 68)] : List (Nat × Nat × Nat × Nat)), gb cX11_redo q.1 = some q.2.1 ∧ gb cX11_redo (q.1 + 1) = some q.2.2.1 ∧ gb cX11_redo (q.1 + 2) = some q.2.2.2 := seg_3 SX11_redo _ (by decide +kernel)
set_option maxRecDepth 20000 in
theorem BX11_redo_3_1 : ∀ q ∈ ([(51, 180, 1, 133), (56, 182, 1, 124), (61, 180, 0, 68), (64, 180, 1, 127), (68, 180, 0, 68), (71, 180, 1, 109)] : List (Nat × Nat × Nat × Nat)), gb cX11_redo q.1 = some q.2.1 ∧ gb cX11_redo (q.1 + 1) = some q.2.2.1 ∧ gb cX11_redo (q.1 + 2) = some q.2.2.2 := seg_3 SX11_redo _ (by decide +kernel)
theorem dX11_redo_0 : decode cX11_redo 0 = .ok (.aload_n 0, 1) := dk42 (BX11_redo_1_0 (0, 42) (List.mem_of_getElem? (i := 0) rfl))
theorem dX11_redo_1 : decode cX11_redo 1 = .ok (.getfield 68, 3) := dk180 0 68 (BX11_redo_3_0 (1, 180, 0, 68) (List.mem_of_getElem? (i := 0) rfl))
theorem dX11_redo_4 : decode cX11_redo 4 = .ok (.getfield 365, 3) := dk180 1 109 (BX11_redo_3_0 (4, 180, 1, 109) (List.mem_of_getElem? (i := 1) rfl))
theorem dX11_redo_7 : decode cX11_redo 7 = .ok (.aload_n 0, 1) := dk42 (BX11_redo_1_0 (7, 42) (List.mem_of_getElem? (i := 1) rfl))
theorem dX11_redo_8 : decode cX11_redo 8 = .ok (.getfield 68, 3) := dk180 0 68 (BX11_redo_3_0 (8, 180, 0, 68) (List.mem_of_getElem? (i := 2) rfl))
theorem dX11_redo_11 : decode cX11_redo 11 = .ok (.getfield 383, 3) := dk180 1 127 (BX11_redo_3_0 (11, 180, 1, 127) (List.mem_of_getElem? (i := 3) rfl))
theorem dX11_redo_14 : decode cX11_redo 14 = .ok (.if_icmp .ne 6, 3) := dk160 0 6 (BX11_redo_3_0 (14, 160, 0, 6) (List.mem_of_getElem? (i := 4) rfl))
theorem dX11_redo_17 : decode cX11_redo 17 = .ok (.bipush (-5), 2) := dk16 251 (BX11_redo_2_0 (17, 16, 251) (List.mem_of_getElem? (i := 0) rfl))
theorem dX11_redo_19 : decode cX11_redo 19 = .ok (.ireturn, 1) := dk172 (BX11_redo_1_0 (19, 172) (List.mem_of_getElem? (i := 2) rfl))
theorem dX11_redo_20 : decode cX11_redo 20 = .ok (.aload_n 0, 1) := dk42 (BX11_redo_1_0 (20, 42) (List.mem_of_getElem? (i := 3) rfl))
theorem dX11_redo_21 : decode cX11_redo 21 = .ok (.getfield 68, 3) := dk180 0 68 (BX11_redo_3_0 (21, 180, 0, 68) (List.mem_of_getElem? (i := 5) rfl))
theorem dX11_redo_24 : decode cX11_redo 24 = .ok (.invokevirtual 386, 3) := dk182 1 130 (BX11_redo_3_0 (24, 182, 1, 130) (List.mem_of_getElem? (i := 6) rfl))
theorem dX11_redo_27 : decode cX11_redo 27 = .ok (.istore_n 1, 1) := dk60 (BX11_redo_1_0 (27, 60) (List.mem_of_getElem? (i := 4) rfl))
theorem dX11_redo_28 : decode cX11_redo 28 = .ok (.aload_n 0, 1) := dk42 (BX11_redo_1_0 (28, 42) (List.mem_of_getElem? (i := 5) rfl))
theorem dX11_redo_29 : decode cX11_redo 29 = .ok (.aload_n 0, 1) := dk42 (BX11_redo_1_0 (29, 42) (List.mem_of_getElem? (i := 6) rfl))
theorem dX11_redo_30 : decode cX11_redo 30 = .ok (.getfield 68, 3) := dk180 0 68 (BX11_redo_3_0 (30, 180, 0, 68) (List.mem_of_getElem? (i := 7) rfl))
theorem dX11_redo_33 : decode cX11_redo 33 = .ok (.getfield 371, 3) := dk180 1 115 (BX11_redo_3_0 (33, 180, 1, 115) (List.mem_of_getElem? (i := 8) rfl))
theorem dX11_redo_36 : decode cX11_redo 36 = .ok (.iload_n 1, 1) := dk27 (BX11_redo_1_0 (36, 27) (List.mem_of_getElem? (i := 7) rfl))
theorem dX11_redo_37 : decode cX11_redo 37 = .ok (.iaload, 1) := dk46 (BX11_redo_1_0 (37, 46) (List.mem_of_getElem? (i := 8) rfl))
theorem dX11_redo_38 : decode cX11_redo 38 = .ok (.aload_n 0, 1) := dk42 (BX11_redo_1_0 (38, 42) (List.mem_of_getElem? (i := 9) rfl))
theorem dX11_redo_39 : decode cX11_redo 39 = .ok (.getfield 68, 3) := dk180 0 68 (BX11_redo_3_0 (39, 180, 0, 68) (List.mem_of_getElem? (i := 9) rfl))
theorem dX11_redo_42 : decode cX11_redo 42 = .ok (.getfield 374, 3) := dk180 1 118 (BX11_redo_3_0 (42, 180, 1, 118) (List.mem_of_getElem? (i := 10) rfl))
theorem dX11_redo_45 : decode cX11_redo 45 = .ok (.iload_n 1, 1) := dk27 (BX11_redo_1_0 (45, 27) (List.mem_of_getElem? (i := 10) rfl))
theorem dX11_redo_46 : decode cX11_redo 46 = .ok (.iaload, 1) := dk46 (BX11_redo_1_0 (46, 46) (List.mem_of_getElem? (i := 11) rfl))
theorem dX11_redo_47 : decode cX11_redo 47 = .ok (.aload_n 0, 1) := dk42 (BX11_redo_1_1 (47, 42) (List.mem_of_getElem? (i := 0) rfl))
theorem dX11_redo_48 : decode cX11_redo 48 = .ok (.getfield 68, 3) := dk180 0 68 (BX11_redo_3_0 (48, 180, 0, 68) (List.mem_of_getElem? (i := 11) rfl))
theorem dX11_redo_51 : decode cX11_redo 51 = .ok (.getfield 389, 3) := dk180 1 133 (BX11_redo_3_1 (51, 180, 1, 133) (List.mem_of_getElem? (i := 0) rfl))
theorem dX11_redo_54 : decode cX11_redo 54 = .ok (.iload_n 1, 1) := dk27 (BX11_redo_1_1 (54, 27) (List.mem_of_getElem? (i := 1) rfl))
theorem dX11_redo_55 : decode cX11_redo 55 = .ok (.iaload, 1) := dk46 (BX11_redo_1_1 (55, 46) (List.mem_of_getElem? (i := 2) rfl))
theorem dX11_redo_56 : decode cX11_redo 56 = .ok (.invokevirtual 380, 3) := dk182 1 124 (BX11_redo_3_1 (56, 182, 1, 124) (List.mem_of_getElem? (i := 1) rfl))
theorem dX11_redo_59 : decode cX11_redo 59 = .ok (.pop, 1) := dk87 (BX11_redo_1_1 (59, 87) (List.mem_of_getElem? (i := 3) rfl))
theorem dX11_redo_60 : decode cX11_redo 60 = .ok (.aload_n 0, 1) := dk42 (BX11_redo_1_1 (60, 42) (List.mem_of_getElem? (i := 4) rfl))
theorem dX11_redo_61 : decode cX11_redo 61 = .ok (.getfield 68, 3) := dk180 0 68 (BX11_redo_3_1 (61, 180, 0, 68) (List.mem_of_getElem? (i := 2) rfl))
theorem dX11_redo_64 : decode cX11_redo 64 = .ok (.getfield 383, 3) := dk180 1 127 (BX11_redo_3_1 (64, 180, 1, 127) (List.mem_of_getElem? (i := 3) rfl))
theorem dX11_redo_67 : decode cX11_redo 67 = .ok (.aload_n 0, 1) := dk42 (BX11_redo_1_1 (67, 42) (List.mem_of_getElem? (i := 5) rfl))
theorem dX11_redo_68 : decode cX11_redo 68 = .ok (.getfield 68, 3) := dk180 0 68 (BX11_redo_3_1 (68, 180, 0, 68) (List.mem_of_getElem? (i := 4) rfl))
theorem dX11_redo_71 : decode cX11_redo 71 = .ok (.getfield 365, 3) := dk180 1 109 (BX11_redo_3_1 (71, 180, 1, 109) (List.mem_of_getElem? (i := 5) rfl))
theorem dX11_redo_74 : decode cX11_redo 74 = .ok (.isub, 1) := dk100 (BX11_redo_1_1 (74, 100) (List.mem_of_getElem? (i := 6) rfl))
theorem dX11_redo_75 : decode cX11_redo 75 = .ok (.ireturn, 1) := dk172 (BX11_redo_1_1 (75, 172) (List.mem_of_getElem? (i := 7) rfl))
set_option maxRecDepth 20000 in
theorem ggX11_change_X11_become : GoodIn wsX11_change wsX11_become := gcons (goodIn_g ch_wsX11_change_flat gd_wsX11_change _ [(1, 5)] rfl) (goodIn_app (goodIn_app (goodIn_app (goodIn_app (goodIn_g ch_wsX11_change_flat gd_wsX11_change _ [(1, 6), (1, 7), (1, 8), (1, 9), (1, 10), (1, 11), (1, 12), (1, 13), (1, 4), (1, 14)] rfl) (gchunk ch_wsX11_change_flat gd_wsX11_change 3 rfl)) (gchunk ch_wsX11_change_flat gd_wsX11_change 4 rfl)) (gchunk ch_wsX11_change_flat gd_wsX11_change 5 rfl)) (gchunk ch_wsX11_change_flat gd_wsX11_change 6 rfl))
set_option maxRecDepth 20000 in
theorem gX11_change_X11_become : GoodIn wsX11_change (wsV RX11 380 RX11 yX11_become wsX11_become) := goodIn_app (goodIn_g ch_wsX11_change_flat gd_wsX11_change _ [(1, 1), (1, 2), (1, 3), (1, 4)] rfl) ggX11_change_X11_become
set_option maxRecDepth 20000 in
theorem ggX11_change_X1_add : GoodIn wsX11_change wsX1_add := gcons (goodIn_g ch_wsX11_change_flat gd_wsX11_change _ [(1, 19)] rfl) (goodIn_app (goodIn_g ch_wsX11_change_flat gd_wsX11_change _ [(1, 20), (1, 21), (1, 22), (1, 23), (2, 0), (2, 1), (2, 2), (2, 3), (2, 4), (1, 18), (2, 5), (2, 6), (2, 7), (2, 8), (2, 9)] rfl) (gchunk ch_wsX11_change_flat gd_wsX11_change 7 rfl))
set_option maxRecDepth 20000 in
theorem gX11_change_X1_add : GoodIn wsX11_change (wsV RX11 392 RX1 yX1_add wsX1_add) := goodIn_app (goodIn_g ch_wsX11_change_flat gd_wsX11_change _ [(1, 15), (1, 16), (1, 17), (1, 18)] rfl) ggX11_change_X1_add
set_option maxRecDepth 20000 in
theorem SX11_change : ∀ p : Nat, gb cX11_change p = segF [[42, 27, 28, 29, 182, 1, 124, 54, 4, 21, 4, 29, 159, 0, 15, 42, 180, 0, 68, 27, 28, 21, 4, 29, 182, 1, 136, 21, 4, 172]] p := seg_gb (S := [[42, 27, 28, 29, 182, 1, 124, 54, 4, 21, 4, 29, 159, 0, 15, 42, 180, 0, 68, 27, 28, 21, 4, 29, 182, 1, 136, 21, 4, 172]]) (by decide +kernel) (by decide +kernel)
set_option maxRecDepth 20000 in
theorem BX11_change_1_0 : ∀ q ∈ ([(0, 42), (1, 27), (2, 28), (3, 29), (11, 29), (15, 42), (19, 27), (20, 28), (23, 29), (29, 172)] : List (Nat × Nat)), gb cX11_change q.1 = some q.2 := seg_1 SX11_change _ (by decide +kernel)
set_option maxRecDepth 20000 in
theorem BX11_change_2_0 : ∀ q ∈ ([(7, 54, 4), (9, 21, 4), (21, 21, 4), (27, 21, 4)] : List (Nat × Nat × Nat)), gb cX11_change q.1 = some q.2.1 ∧ gb cX11_change (q.1 + 1) = some q.2.2 := seg_2 SX11_change _ (by decide +kernel)
set_option maxRecDepth 20000 in
theorem BX11_change_3_0 : ∀ q ∈ ([(4, 182, 1, 124), (12, 159, 0, 15), (16, 180, 0, 68), (24, 182, 1, 136)] : List (Nat × Nat × Nat × Nat)), gb cX11_change q.1 = some q.2.1 ∧ gb cX11_change (q.1 + 1) = some q.2.2.1 ∧ gb cX11_change (q.1 + 2) = some q.2.2.2 := seg_3 SX11_change _ (by decide +kernel)
theorem dX11_change_0 : decode cX11_change 0 = .ok (.aload_n 0, 1) := dk42 (BX11_change_1_0 (0, 42) (List.mem_of_getElem? (i := 0) rfl))
theorem dX11_change_1 : decode cX11_change 1 = .ok (.iload_n 1, 1) := dk27 (BX11_change_1_0 (1, 27) (List.mem_of_getElem? (i := 1) rfl))
theorem dX11_change_2 : decode cX11_change 2 = .ok (.iload_n 2, 1) := dk28 (BX11_change_1_0 (2, 28) (List.mem_of_getElem? (i := 2) rfl))
theorem dX11_change_3 : decode cX11_change 3 = .ok (.iload_n 3, 1) := dk29 (BX11_change_1_0 (3, 29) (List.mem_of_getElem? (i := 3) rfl))
theorem dX11_change_4 : decode cX11_change 4 = .ok (.invokevirtual 380, 3) := dk182 1 124 (BX11_change_3_0 (4, 182, 1, 124) (List.mem_of_getElem? (i := 0) rfl))
theorem dX11_change_7 : decode cX11_change 7 = .ok (.istore 4, 2) := dk54 4 (BX11_change_2_0 (7, 54, 4) (List.mem_of_getElem? (i := 0) rfl))
theorem dX11_change_9 : decode cX11_change 9 = .ok (.iload 4, 2) := dk21 4 (BX11_change_2_0 (9, 21, 4) (List.mem_of_getElem? (i := 1) rfl))
theorem dX11_change_11 : decode cX11_change 11 = .ok (.iload_n 3, 1) := dk29 (BX11_change_1_0 (11, 29) (List.mem_of_getElem? (i := 4) rfl))
theorem dX11_change_12 : decode cX11_change 12 = .ok (.if_icmp .eq 15, 3) := dk159 0 15 (BX11_change_3_0 (12, 159, 0, 15) (List.mem_of_getElem? (i := 1) rfl))
theorem dX11_change_15 : decode cX11_change 15 = .ok (.aload_n 0, 1) := dk42 (BX11_change_1_0 (15, 42) (List.mem_of_getElem? (i := 5) rfl))
theorem dX11_change_16 : decode cX11_change 16 = .ok (.getfield 68, 3) := dk180 0 68 (BX11_change_3_0 (16, 180, 0, 68) (List.mem_of_getElem? (i := 2) rfl))
theorem dX11_change_19 : decode cX11_change 19 = .ok (.iload_n 1, 1) := dk27 (BX11_change_1_0 (19, 27) (List.mem_of_getElem? (i := 6) rfl))
theorem dX11_change_20 : decode cX11_change 20 = .ok (.iload_n 2, 1) := dk28 (BX11_change_1_0 (20, 28) (List.mem_of_getElem? (i := 7) rfl))
theorem dX11_change_21 : decode cX11_change 21 = .ok (.iload 4, 2) := dk21 4 (BX11_change_2_0 (21, 21, 4) (List.mem_of_getElem? (i := 2) rfl))
theorem dX11_change_23 : decode cX11_change 23 = .ok (.iload_n 3, 1) := dk29 (BX11_change_1_0 (23, 29) (List.mem_of_getElem? (i := 8) rfl))
theorem dX11_change_24 : decode cX11_change 24 = .ok (.invokevirtual 392, 3) := dk182 1 136 (BX11_change_3_0 (24, 182, 1, 136) (List.mem_of_getElem? (i := 3) rfl))
theorem dX11_change_27 : decode cX11_change 27 = .ok (.iload 4, 2) := dk21 4 (BX11_change_2_0 (27, 21, 4) (List.mem_of_getElem? (i := 3) rfl))
theorem dX11_change_29 : decode cX11_change 29 = .ok (.ireturn, 1) := dk172 (BX11_change_1_0 (29, 172) (List.mem_of_getElem? (i := 9) rfl))
set_option maxRecDepth 20000 in
theorem ggX11_become_X11_within : GoodIn wsX11_become wsX11_within := goodIn_g ch_wsX11_become_flat gd_wsX11_become _ [(1, 9)] rfl
set_option maxRecDepth 20000 in
theorem gX11_become_X11_within : GoodIn wsX11_become (va_wsS RX11 113 yX11_within wsX11_within) := goodIn_app (goodIn_g ch_wsX11_become_flat gd_wsX11_become _ [(1, 6), (1, 7), (1, 8)] rfl) ggX11_become_X11_within
set_option maxRecDepth 20000 in
theorem SX11_become : ∀ p : Nat, gb cX11_become p = segF [[27, 154, 0, 13, 42, 180, 0, 33, 180, 1, 139, 167, 0, 25, 27, 4, 160, 0, 13, 42, 180, 0, 61, 180, 1, 142, 167, 0, 10, 42, 180, 0, 10, 180, 1, 145, 58, 4, 28, 3, 25, 4, 190, 4, 100, 184, 0, 113, 154, 0, 5, 29, 172, 25, 4, 28, 46, 54, 5, 25, 4, 28, 29, 79], [21, 5, 172]] p := seg_gb (S := [[27, 154, 0, 13, 42, 180, 0, 33, 180, 1, 139, 167, 0, 25, 27, 4, 160, 0, 13, 42, 180, 0, 61, 180, 1, 142, 167, 0, 10, 42, 180, 0, 10, 180, 1, 145, 58, 4, 28, 3, 25, 4, 190, 4, 100, 184, 0, 113, 154, 0, 5, 29, 172, 25, 4, 28, 46, 54, 5, 25, 4, 28, 29, 79], [21, 5, 172]]) (by decide +kernel) (by decide +kernel)
set_option maxRecDepth 20000 in
theorem BX11_become_1_0 : ∀ q ∈ ([(0, 27), (4, 42), (14, 27), (15, 4), (19, 42), (29, 42), (38, 28), (39, 3), (42, 190), (43, 4), (44, 100), (51, 29)] : List (Nat × Nat)), gb cX11_become q.1 = some q.2 := seg_1 SX11_become _ (by decide +kernel)
set_option maxRecDepth 20000 in
theorem BX11_become_1_1 : ∀ q ∈ ([(52, 172), (55, 28), (56, 46), (61, 28), (62, 29), (63, 79), (66, 172)] : List (Nat × Nat)), gb cX11_become q.1 = some q.2 := seg_1 SX11_become _ (by decide +kernel)
set_option maxRecDepth 20000 in
theorem BX11_become_2_0 : ∀ q ∈ ([(36, 58, 4), (40, 25, 4), (53, 25, 4), (57, 54, 5), (59, 25, 4), (64, 21, 5)] : List (Nat × Nat × Nat)), gb cX11_become q.1 = some q.2.1 ∧ gb cX11_become (q.1 + 1) = some q.2.2 := seg_2 SX11_become _ (by decide +kernel)
set_option maxRecDepth 20000 in
theorem BX11_become_3_0 : ∀ q ∈ ([(1, 154, 0, 13), (5, 180, 0, 33), (8, 180, 1, 139), (11, 167, 0, 25), (16, 160, 0, 13), (20, 180, 0, 61), (23, 180, 1, 142), (26, 167, 0, 10), (30, 180, 0, 10), (33, 180, 1, 145), (45, 184, 0, 113), (48, 154, 0, 5)] : List (Nat × Nat × Nat × Nat)), gb cX11_become q.1 = some q.2.1 ∧ gb cX11_become (q.1 + 1) = some q.2.2.1 ∧ gb cX11_become (q.1 + 2) = some q.2.2.2 := seg_3 SX11_become _ (by decide +kernel)
theorem dX11_become_0 : decode cX11_become 0 = .ok (.iload_n 1, 1) := dk27 (BX11_become_1_0 (0, 27) (List.mem_of_getElem? (i := 0) rfl))
theorem dX11_become_1 : decode cX11_become 1 = .ok (.ifCond .ne 13, 3) := dk154 0 13 (BX11_become_3_0 (1, 154, 0, 13) (List.mem_of_getElem? (i := 0) rfl))
theorem dX11_become_4 : decode cX11_become 4 = .ok (.aload_n 0, 1) := dk42 (BX11_become_1_0 (4, 42) (List.mem_of_getElem? (i := 1) rfl))
theorem dX11_become_5 : decode cX11_become 5 = .ok (.getfield 33, 3) := dk180 0 33 (BX11_become_3_0 (5, 180, 0, 33) (List.mem_of_getElem? (i := 1) rfl))
theorem dX11_become_8 : decode cX11_become 8 = .ok (.getfield 395, 3) := dk180 1 139 (BX11_become_3_0 (8, 180, 1, 139) (List.mem_of_getElem? (i := 2) rfl))
theorem dX11_become_11 : decode cX11_become 11 = .ok (.goto 25, 3) := dk167 0 25 (BX11_become_3_0 (11, 167, 0, 25) (List.mem_of_getElem? (i := 3) rfl))
theorem dX11_become_14 : decode cX11_become 14 = .ok (.iload_n 1, 1) := dk27 (BX11_become_1_0 (14, 27) (List.mem_of_getElem? (i := 2) rfl))
theorem dX11_become_15 : decode cX11_become 15 = .ok (.iconst 1, 1) := dk4 (BX11_become_1_0 (15, 4) (List.mem_of_getElem? (i := 3) rfl))
theorem dX11_become_16 : decode cX11_become 16 = .ok (.if_icmp .ne 13, 3) := dk160 0 13 (BX11_become_3_0 (16, 160, 0, 13) (List.mem_of_getElem? (i := 4) rfl))
theorem dX11_become_19 : decode cX11_become 19 = .ok (.aload_n 0, 1) := dk42 (BX11_become_1_0 (19, 42) (List.mem_of_getElem? (i := 4) rfl))
theorem dX11_become_20 : decode cX11_become 20 = .ok (.getfield 61, 3) := dk180 0 61 (BX11_become_3_0 (20, 180, 0, 61) (List.mem_of_getElem? (i := 5) rfl))
theorem dX11_become_23 : decode cX11_become 23 = .ok (.getfield 398, 3) := dk180 1 142 (BX11_become_3_0 (23, 180, 1, 142) (List.mem_of_getElem? (i := 6) rfl))
theorem dX11_become_26 : decode cX11_become 26 = .ok (.goto 10, 3) := dk167 0 10 (BX11_become_3_0 (26, 167, 0, 10) (List.mem_of_getElem? (i := 7) rfl))
theorem dX11_become_29 : decode cX11_become 29 = .ok (.aload_n 0, 1) := dk42 (BX11_become_1_0 (29, 42) (List.mem_of_getElem? (i := 5) rfl))
theorem dX11_become_30 : decode cX11_become 30 = .ok (.getfield 10, 3) := dk180 0 10 (BX11_become_3_0 (30, 180, 0, 10) (List.mem_of_getElem? (i := 8) rfl))
theorem dX11_become_33 : decode cX11_become 33 = .ok (.getfield 401, 3) := dk180 1 145 (BX11_become_3_0 (33, 180, 1, 145) (List.mem_of_getElem? (i := 9) rfl))
theorem dX11_become_36 : decode cX11_become 36 = .ok (.astore 4, 2) := dk58 4 (BX11_become_2_0 (36, 58, 4) (List.mem_of_getElem? (i := 0) rfl))
theorem dX11_become_38 : decode cX11_become 38 = .ok (.iload_n 2, 1) := dk28 (BX11_become_1_0 (38, 28) (List.mem_of_getElem? (i := 6) rfl))
theorem dX11_become_39 : decode cX11_become 39 = .ok (.iconst 0, 1) := dk3 (BX11_become_1_0 (39, 3) (List.mem_of_getElem? (i := 7) rfl))
theorem dX11_become_40 : decode cX11_become 40 = .ok (.aload 4, 2) := dk25 4 (BX11_become_2_0 (40, 25, 4) (List.mem_of_getElem? (i := 1) rfl))
theorem dX11_become_42 : decode cX11_become 42 = .ok (.arraylength, 1) := dk190 (BX11_become_1_0 (42, 190) (List.mem_of_getElem? (i := 8) rfl))
theorem dX11_become_43 : decode cX11_become 43 = .ok (.iconst 1, 1) := dk4 (BX11_become_1_0 (43, 4) (List.mem_of_getElem? (i := 9) rfl))
theorem dX11_become_44 : decode cX11_become 44 = .ok (.isub, 1) := dk100 (BX11_become_1_0 (44, 100) (List.mem_of_getElem? (i := 10) rfl))
theorem dX11_become_45 : decode cX11_become 45 = .ok (.invokestatic 113, 3) := dk184 0 113 (BX11_become_3_0 (45, 184, 0, 113) (List.mem_of_getElem? (i := 10) rfl))
theorem dX11_become_48 : decode cX11_become 48 = .ok (.ifCond .ne 5, 3) := dk154 0 5 (BX11_become_3_0 (48, 154, 0, 5) (List.mem_of_getElem? (i := 11) rfl))
theorem dX11_become_51 : decode cX11_become 51 = .ok (.iload_n 3, 1) := dk29 (BX11_become_1_0 (51, 29) (List.mem_of_getElem? (i := 11) rfl))
theorem dX11_become_52 : decode cX11_become 52 = .ok (.ireturn, 1) := dk172 (BX11_become_1_1 (52, 172) (List.mem_of_getElem? (i := 0) rfl))
theorem dX11_become_53 : decode cX11_become 53 = .ok (.aload 4, 2) := dk25 4 (BX11_become_2_0 (53, 25, 4) (List.mem_of_getElem? (i := 2) rfl))
theorem dX11_become_55 : decode cX11_become 55 = .ok (.iload_n 2, 1) := dk28 (BX11_become_1_1 (55, 28) (List.mem_of_getElem? (i := 1) rfl))
theorem dX11_become_56 : decode cX11_become 56 = .ok (.iaload, 1) := dk46 (BX11_become_1_1 (56, 46) (List.mem_of_getElem? (i := 2) rfl))
theorem dX11_become_57 : decode cX11_become 57 = .ok (.istore 5, 2) := dk54 5 (BX11_become_2_0 (57, 54, 5) (List.mem_of_getElem? (i := 3) rfl))
theorem dX11_become_59 : decode cX11_become 59 = .ok (.aload 4, 2) := dk25 4 (BX11_become_2_0 (59, 25, 4) (List.mem_of_getElem? (i := 4) rfl))
theorem dX11_become_61 : decode cX11_become 61 = .ok (.iload_n 2, 1) := dk28 (BX11_become_1_1 (61, 28) (List.mem_of_getElem? (i := 3) rfl))
theorem dX11_become_62 : decode cX11_become 62 = .ok (.iload_n 3, 1) := dk29 (BX11_become_1_1 (62, 29) (List.mem_of_getElem? (i := 4) rfl))
theorem dX11_become_63 : decode cX11_become 63 = .ok (.iastore, 1) := dk79 (BX11_become_1_1 (63, 79) (List.mem_of_getElem? (i := 5) rfl))
theorem dX11_become_64 : decode cX11_become 64 = .ok (.iload 5, 2) := dk21 5 (BX11_become_2_0 (64, 21, 5) (List.mem_of_getElem? (i := 5) rfl))
theorem dX11_become_66 : decode cX11_become 66 = .ok (.ireturn, 1) := dk172 (BX11_become_1_1 (66, 172) (List.mem_of_getElem? (i := 6) rfl))
set_option maxRecDepth 20000 in
theorem ggX11_body_X11_within : GoodIn wsX11_body wsX11_within := goodIn_r _ [5] rfl (by decide +kernel)
set_option maxRecDepth 20000 in
theorem gX11_body_X11_within : GoodIn wsX11_body (va_wsS RX11 113 yX11_within wsX11_within) := goodIn_app (goodIn_r _ [2, 3, 4] rfl (by decide +kernel)) ggX11_body_X11_within
set_option maxRecDepth 20000 in
theorem ggX11_body_X0_add : GoodIn wsX11_body wsX0_add := goodIn_r _ [10, 11, 12, 25, 26, 27, 28, 29] rfl (by decide +kernel)
set_option maxRecDepth 20000 in
theorem gX11_body_X0_add : GoodIn wsX11_body (wsV RX11 404 RX0 yX0_add wsX0_add) := goodIn_app (goodIn_r _ [6, 7, 8, 9] rfl (by decide +kernel)) ggX11_body_X0_add
set_option maxRecDepth 20000 in
theorem SX11_body : ∀ p : Nat, gb cX11_body p = segF [[27, 3, 16, 7, 184, 0, 113, 154, 0, 5, 2, 172, 42, 180, 0, 75, 27, 182, 1, 148, 172]] p := seg_gb (S := [[27, 3, 16, 7, 184, 0, 113, 154, 0, 5, 2, 172, 42, 180, 0, 75, 27, 182, 1, 148, 172]]) (by decide +kernel) (by decide +kernel)
set_option maxRecDepth 20000 in
theorem BX11_body_1_0 : ∀ q ∈ ([(0, 27), (1, 3), (10, 2), (11, 172), (12, 42), (16, 27), (20, 172)] : List (Nat × Nat)), gb cX11_body q.1 = some q.2 := seg_1 SX11_body _ (by decide +kernel)
set_option maxRecDepth 20000 in
theorem BX11_body_2_0 : ∀ q ∈ ([(2, 16, 7)] : List (Nat × Nat × Nat)), gb cX11_body q.1 = some q.2.1 ∧ gb cX11_body (q.1 + 1) = some q.2.2 := seg_2 SX11_body _ (by decide +kernel)
set_option maxRecDepth 20000 in
theorem BX11_body_3_0 : ∀ q ∈ ([(4, 184, 0, 113), (7, 154, 0, 5), (13, 180, 0, 75), (17, 182, 1, 148)] : List (Nat × Nat × Nat × Nat)), gb cX11_body q.1 = some q.2.1 ∧ gb cX11_body (q.1 + 1) = some q.2.2.1 ∧ gb cX11_body (q.1 + 2) = some q.2.2.2 := seg_3 SX11_body _ (by decide +kernel)
theorem dX11_body_0 : decode cX11_body 0 = .ok (.iload_n 1, 1) := dk27 (BX11_body_1_0 (0, 27) (List.mem_of_getElem? (i := 0) rfl))
theorem dX11_body_1 : decode cX11_body 1 = .ok (.iconst 0, 1) := dk3 (BX11_body_1_0 (1, 3) (List.mem_of_getElem? (i := 1) rfl))
theorem dX11_body_2 : decode cX11_body 2 = .ok (.bipush 7, 2) := dk16 7 (BX11_body_2_0 (2, 16, 7) (List.mem_of_getElem? (i := 0) rfl))
theorem dX11_body_4 : decode cX11_body 4 = .ok (.invokestatic 113, 3) := dk184 0 113 (BX11_body_3_0 (4, 184, 0, 113) (List.mem_of_getElem? (i := 0) rfl))
theorem dX11_body_7 : decode cX11_body 7 = .ok (.ifCond .ne 5, 3) := dk154 0 5 (BX11_body_3_0 (7, 154, 0, 5) (List.mem_of_getElem? (i := 1) rfl))
theorem dX11_body_10 : decode cX11_body 10 = .ok (.iconst (-1), 1) := dk2 (BX11_body_1_0 (10, 2) (List.mem_of_getElem? (i := 2) rfl))
theorem dX11_body_11 : decode cX11_body 11 = .ok (.ireturn, 1) := dk172 (BX11_body_1_0 (11, 172) (List.mem_of_getElem? (i := 3) rfl))
theorem dX11_body_12 : decode cX11_body 12 = .ok (.aload_n 0, 1) := dk42 (BX11_body_1_0 (12, 42) (List.mem_of_getElem? (i := 4) rfl))
theorem dX11_body_13 : decode cX11_body 13 = .ok (.getfield 75, 3) := dk180 0 75 (BX11_body_3_0 (13, 180, 0, 75) (List.mem_of_getElem? (i := 2) rfl))
theorem dX11_body_16 : decode cX11_body 16 = .ok (.iload_n 1, 1) := dk27 (BX11_body_1_0 (16, 27) (List.mem_of_getElem? (i := 5) rfl))
theorem dX11_body_17 : decode cX11_body 17 = .ok (.invokevirtual 404, 3) := dk182 1 148 (BX11_body_3_0 (17, 182, 1, 148) (List.mem_of_getElem? (i := 3) rfl))
theorem dX11_body_20 : decode cX11_body 20 = .ok (.ireturn, 1) := dk172 (BX11_body_1_0 (20, 172) (List.mem_of_getElem? (i := 6) rfl))
set_option maxRecDepth 20000 in
theorem ggX11_act_X0_start : GoodIn wsX11_act wsX0_start := gcons (goodIn_g ch_wsX11_act_flat gd_wsX11_act _ [(1, 5)] rfl) (goodIn_app (goodIn_app (goodIn_g ch_wsX11_act_flat gd_wsX11_act _ [(1, 6), (1, 7), (1, 8), (1, 9), (1, 10), (1, 4), (1, 11), (1, 12), (1, 13), (1, 14), (1, 15), (1, 16), (1, 17), (1, 18), (1, 19), (1, 20), (1, 21), (1, 22), (1, 23), (2, 0), (2, 1), (2, 2), (2, 3), (2, 4)] rfl) (goodIn_g ch_wsX11_act_flat gd_wsX11_act _ [(2, 5), (2, 6), (2, 7)] rfl)) (gchunk ch_wsX11_act_flat gd_wsX11_act 4 rfl))
set_option maxRecDepth 20000 in
theorem gX11_act_X0_start : GoodIn wsX11_act (wsV RX11 405 RX0 yX0_start wsX0_start) := goodIn_app (goodIn_g ch_wsX11_act_flat gd_wsX11_act _ [(1, 1), (1, 2), (1, 3), (1, 4)] rfl) ggX11_act_X0_start
set_option maxRecDepth 20000 in
theorem SX11_act : ∀ p : Nat, gb cX11_act p = segF [[42, 180, 0, 75, 27, 28, 29, 182, 1, 149, 172]] p := seg_gb (S := [[42, 180, 0, 75, 27, 28, 29, 182, 1, 149, 172]]) (by decide +kernel) (by decide +kernel)
set_option maxRecDepth 20000 in
theorem BX11_act_1_0 : ∀ q ∈ ([(0, 42), (4, 27), (5, 28), (6, 29), (10, 172)] : List (Nat × Nat)), gb cX11_act q.1 = some q.2 := seg_1 SX11_act _ (by decide +kernel)
set_option maxRecDepth 20000 in
theorem BX11_act_3_0 : ∀ q ∈ ([(1, 180, 0, 75), (7, 182, 1, 149)] : List (Nat × Nat × Nat × Nat)), gb cX11_act q.1 = some q.2.1 ∧ gb cX11_act (q.1 + 1) = some q.2.2.1 ∧ gb cX11_act (q.1 + 2) = some q.2.2.2 := seg_3 SX11_act _ (by decide +kernel)
theorem dX11_act_0 : decode cX11_act 0 = .ok (.aload_n 0, 1) := dk42 (BX11_act_1_0 (0, 42) (List.mem_of_getElem? (i := 0) rfl))
theorem dX11_act_1 : decode cX11_act 1 = .ok (.getfield 75, 3) := dk180 0 75 (BX11_act_3_0 (1, 180, 0, 75) (List.mem_of_getElem? (i := 0) rfl))
theorem dX11_act_4 : decode cX11_act 4 = .ok (.iload_n 1, 1) := dk27 (BX11_act_1_0 (4, 27) (List.mem_of_getElem? (i := 1) rfl))
theorem dX11_act_5 : decode cX11_act 5 = .ok (.iload_n 2, 1) := dk28 (BX11_act_1_0 (5, 28) (List.mem_of_getElem? (i := 2) rfl))
theorem dX11_act_6 : decode cX11_act 6 = .ok (.iload_n 3, 1) := dk29 (BX11_act_1_0 (6, 29) (List.mem_of_getElem? (i := 3) rfl))
theorem dX11_act_7 : decode cX11_act 7 = .ok (.invokevirtual 405, 3) := dk182 1 149 (BX11_act_3_0 (7, 182, 1, 149) (List.mem_of_getElem? (i := 1) rfl))
theorem dX11_act_10 : decode cX11_act 10 = .ok (.ireturn, 1) := dk172 (BX11_act_1_0 (10, 172) (List.mem_of_getElem? (i := 4) rfl))
set_option maxRecDepth 20000 in
theorem ggX11_trace_X0_traced : GoodIn wsX11_trace wsX0_traced := goodIn_r _ [7, 8, 9, 10, 11, 12, 13, 30, 31, 32, 33, 34] rfl (by decide +kernel)
set_option maxRecDepth 20000 in
theorem gX11_trace_X0_traced : GoodIn wsX11_trace (wsV RX11 408 RX0 yX0_traced wsX0_traced) := goodIn_app (goodIn_r _ [3, 4, 5, 6] rfl (by decide +kernel)) ggX11_trace_X0_traced
set_option maxRecDepth 20000 in
theorem ggX11_trace_X11_within : GoodIn wsX11_trace wsX11_within := goodIn_r _ [17] rfl (by decide +kernel)
set_option maxRecDepth 20000 in
theorem gX11_trace_X11_within : GoodIn wsX11_trace (va_wsS RX11 113 yX11_within wsX11_within) := goodIn_app (goodIn_r _ [14, 15, 16] rfl (by decide +kernel)) ggX11_trace_X11_within
set_option maxRecDepth 20000 in
theorem SX11_trace : ∀ p : Nat, gb cX11_trace p = segF [[27, 3, 42, 180, 0, 75, 182, 1, 152, 4, 100, 184, 0, 113, 153, 0, 15, 42, 180, 0, 75, 180, 1, 155, 27, 46, 167, 0, 4, 2, 172]] p := seg_gb (S := [[27, 3, 42, 180, 0, 75, 182, 1, 152, 4, 100, 184, 0, 113, 153, 0, 15, 42, 180, 0, 75, 180, 1, 155, 27, 46, 167, 0, 4, 2, 172]]) (by decide +kernel) (by decide +kernel)
set_option maxRecDepth 20000 in
theorem BX11_trace_1_0 : ∀ q ∈ ([(0, 27), (1, 3), (2, 42), (9, 4), (10, 100), (17, 42), (24, 27), (25, 46), (29, 2), (30, 172)] : List (Nat × Nat)), gb cX11_trace q.1 = some q.2 := seg_1 SX11_trace _ (by decide +kernel)
set_option maxRecDepth 20000 in
theorem BX11_trace_3_0 : ∀ q ∈ ([(3, 180, 0, 75), (6, 182, 1, 152), (11, 184, 0, 113), (14, 153, 0, 15), (18, 180, 0, 75), (21, 180, 1, 155), (26, 167, 0, 4)] : List (Nat × Nat × Nat × Nat)), gb cX11_trace q.1 = some q.2.1 ∧ gb cX11_trace (q.1 + 1) = some q.2.2.1 ∧ gb cX11_trace (q.1 + 2) = some q.2.2.2 := seg_3 SX11_trace _ (by decide +kernel)
theorem dX11_trace_0 : decode cX11_trace 0 = .ok (.iload_n 1, 1) := dk27 (BX11_trace_1_0 (0, 27) (List.mem_of_getElem? (i := 0) rfl))
theorem dX11_trace_1 : decode cX11_trace 1 = .ok (.iconst 0, 1) := dk3 (BX11_trace_1_0 (1, 3) (List.mem_of_getElem? (i := 1) rfl))
theorem dX11_trace_2 : decode cX11_trace 2 = .ok (.aload_n 0, 1) := dk42 (BX11_trace_1_0 (2, 42) (List.mem_of_getElem? (i := 2) rfl))
theorem dX11_trace_3 : decode cX11_trace 3 = .ok (.getfield 75, 3) := dk180 0 75 (BX11_trace_3_0 (3, 180, 0, 75) (List.mem_of_getElem? (i := 0) rfl))
theorem dX11_trace_6 : decode cX11_trace 6 = .ok (.invokevirtual 408, 3) := dk182 1 152 (BX11_trace_3_0 (6, 182, 1, 152) (List.mem_of_getElem? (i := 1) rfl))
theorem dX11_trace_9 : decode cX11_trace 9 = .ok (.iconst 1, 1) := dk4 (BX11_trace_1_0 (9, 4) (List.mem_of_getElem? (i := 3) rfl))
theorem dX11_trace_10 : decode cX11_trace 10 = .ok (.isub, 1) := dk100 (BX11_trace_1_0 (10, 100) (List.mem_of_getElem? (i := 4) rfl))
theorem dX11_trace_11 : decode cX11_trace 11 = .ok (.invokestatic 113, 3) := dk184 0 113 (BX11_trace_3_0 (11, 184, 0, 113) (List.mem_of_getElem? (i := 2) rfl))
theorem dX11_trace_14 : decode cX11_trace 14 = .ok (.ifCond .eq 15, 3) := dk153 0 15 (BX11_trace_3_0 (14, 153, 0, 15) (List.mem_of_getElem? (i := 3) rfl))
theorem dX11_trace_17 : decode cX11_trace 17 = .ok (.aload_n 0, 1) := dk42 (BX11_trace_1_0 (17, 42) (List.mem_of_getElem? (i := 5) rfl))
theorem dX11_trace_18 : decode cX11_trace 18 = .ok (.getfield 75, 3) := dk180 0 75 (BX11_trace_3_0 (18, 180, 0, 75) (List.mem_of_getElem? (i := 4) rfl))
theorem dX11_trace_21 : decode cX11_trace 21 = .ok (.getfield 411, 3) := dk180 1 155 (BX11_trace_3_0 (21, 180, 1, 155) (List.mem_of_getElem? (i := 5) rfl))
theorem dX11_trace_24 : decode cX11_trace 24 = .ok (.iload_n 1, 1) := dk27 (BX11_trace_1_0 (24, 27) (List.mem_of_getElem? (i := 6) rfl))
theorem dX11_trace_25 : decode cX11_trace 25 = .ok (.iaload, 1) := dk46 (BX11_trace_1_0 (25, 46) (List.mem_of_getElem? (i := 7) rfl))
theorem dX11_trace_26 : decode cX11_trace 26 = .ok (.goto 4, 3) := dk167 0 4 (BX11_trace_3_0 (26, 167, 0, 4) (List.mem_of_getElem? (i := 6) rfl))
theorem dX11_trace_29 : decode cX11_trace 29 = .ok (.iconst (-1), 1) := dk2 (BX11_trace_1_0 (29, 2) (List.mem_of_getElem? (i := 8) rfl))
theorem dX11_trace_30 : decode cX11_trace 30 = .ok (.ireturn, 1) := dk172 (BX11_trace_1_0 (30, 172) (List.mem_of_getElem? (i := 9) rfl))
set_option maxRecDepth 20000 in
theorem ggX11_keep_X8_isShelf : GoodIn wsX11_keep wsX8_isShelf := gcons (goodIn_g ch_wsX11_keep_flat gd_wsX11_keep _ [(1, 7)] rfl) (goodIn_app (goodIn_g ch_wsX11_keep_flat gd_wsX11_keep _ [(1, 8), (1, 9), (1, 10), (1, 11)] rfl) (gchunk ch_wsX11_keep_flat gd_wsX11_keep 5 rfl))
set_option maxRecDepth 20000 in
theorem gX11_keep_X8_isShelf : GoodIn wsX11_keep (wsV RX11 221 RX8 yX8_isShelf wsX8_isShelf) := goodIn_app (goodIn_g ch_wsX11_keep_flat gd_wsX11_keep _ [(1, 3), (1, 4), (1, 5), (1, 6)] rfl) ggX11_keep_X8_isShelf
set_option maxRecDepth 20000 in
theorem ggX11_keep_X0_isBody : GoodIn wsX11_keep wsX0_isBody := gcons (goodIn_g ch_wsX11_keep_flat gd_wsX11_keep _ [(1, 16)] rfl) (goodIn_app (goodIn_g ch_wsX11_keep_flat gd_wsX11_keep _ [(1, 17), (1, 9), (1, 10), (1, 11)] rfl) (gchunk ch_wsX11_keep_flat gd_wsX11_keep 4 rfl))
set_option maxRecDepth 20000 in
theorem gX11_keep_X0_isBody : GoodIn wsX11_keep (wsV RX11 414 RX0 yX0_isBody wsX0_isBody) := goodIn_app (goodIn_g ch_wsX11_keep_flat gd_wsX11_keep _ [(1, 12), (1, 13), (1, 14), (1, 15)] rfl) ggX11_keep_X0_isBody
set_option maxRecDepth 20000 in
theorem ggX11_keep_X8_clear : GoodIn wsX11_keep wsX8_clear := gcons (goodIn_g ch_wsX11_keep_flat gd_wsX11_keep _ [(1, 21)] rfl) (goodIn_app (goodIn_g ch_wsX11_keep_flat gd_wsX11_keep _ [(1, 8)] rfl) (gchunk ch_wsX11_keep_flat gd_wsX11_keep 5 rfl))
set_option maxRecDepth 20000 in
theorem gX11_keep_X8_clear : GoodIn wsX11_keep (wsV RX11 417 RX8 yX8_clear wsX8_clear) := goodIn_app (goodIn_g ch_wsX11_keep_flat gd_wsX11_keep _ [(1, 18), (1, 19), (1, 20), (1, 6)] rfl) ggX11_keep_X8_clear
set_option maxRecDepth 20000 in
theorem ggX11_keep_X8_layBody : GoodIn wsX11_keep wsX8_layBody := gcons (goodIn_g ch_wsX11_keep_flat gd_wsX11_keep _ [(2, 1)] rfl) (goodIn_app (goodIn_g ch_wsX11_keep_flat gd_wsX11_keep _ [(1, 8), (2, 2)] rfl) (gchunk ch_wsX11_keep_flat gd_wsX11_keep 5 rfl))
set_option maxRecDepth 20000 in
theorem gX11_keep_X8_layBody : GoodIn wsX11_keep (wsV RX11 423 RX8 yX8_layBody wsX8_layBody) := goodIn_app (goodIn_g ch_wsX11_keep_flat gd_wsX11_keep _ [(1, 22), (1, 23), (2, 0), (1, 6)] rfl) ggX11_keep_X8_layBody
set_option maxRecDepth 20000 in
theorem SX11_keep : ∀ p : Nat, gb cX11_keep p = segF [[42, 180, 0, 82, 27, 182, 0, 221, 153, 0, 19, 28, 2, 159, 0, 16, 42, 180, 0, 75, 28, 182, 1, 158, 154, 0, 5, 2, 172, 28, 2, 160, 0, 14, 42, 180, 0, 82, 27, 182, 1, 161, 167, 0, 20, 42, 180, 0, 82, 27, 42, 180, 0, 75, 180, 1, 164, 28, 46, 182, 1, 167, 4, 172]] p := seg_gb (S := [[42, 180, 0, 82, 27, 182, 0, 221, 153, 0, 19, 28, 2, 159, 0, 16, 42, 180, 0, 75, 28, 182, 1, 158, 154, 0, 5, 2, 172, 28, 2, 160, 0, 14, 42, 180, 0, 82, 27, 182, 1, 161, 167, 0, 20, 42, 180, 0, 82, 27, 42, 180, 0, 75, 180, 1, 164, 28, 46, 182, 1, 167, 4, 172]]) (by decide +kernel) (by decide +kernel)
set_option maxRecDepth 20000 in
theorem BX11_keep_1_0 : ∀ q ∈ ([(0, 42), (4, 27), (11, 28), (12, 2), (16, 42), (20, 28), (27, 2), (28, 172), (29, 28), (30, 2), (34, 42), (38, 27)] : List (Nat × Nat)), gb cX11_keep q.1 = some q.2 := seg_1 SX11_keep _ (by decide +kernel)
set_option maxRecDepth 20000 in
theorem BX11_keep_1_1 : ∀ q ∈ ([(45, 42), (49, 27), (50, 42), (57, 28), (58, 46), (62, 4), (63, 172)] : List (Nat × Nat)), gb cX11_keep q.1 = some q.2 := seg_1 SX11_keep _ (by decide +kernel)
set_option maxRecDepth 20000 in
theorem BX11_keep_3_0 : ∀ q ∈ ([(1, 180, 0, 82), (5, 182, 0, 221), (8, 153, 0, 19), (13, 159, 0, 16), (17, 180, 0, 75), (21, 182, 1, 158), (24, 154, 0, 5), (31, 160, 0, 14), (35, 180, 0, 82), (39, 182, 1, 161), (42, 167, 0, 20), (46, 180, 0, 82)] : List (Nat × Nat × Nat × Nat)), gb cX11_keep q.1 = some q.2.1 ∧ gb cX11_keep (q.1 + 1) = some q.2.2.1 ∧ gb cX11_keep (q.1 + 2) = some q.2.2.2 := seg_3 SX11_keep _ (by decide +kernel)
set_option maxRecDepth 20000 in
theorem BX11_keep_3_1 : ∀ q ∈ ([(51, 180, 0, 75), (54, 180, 1, 164), (59, 182, 1, 167)] : List (Nat × Nat × Nat × Nat)), gb cX11_keep q.1 = some q.2.1 ∧ gb cX11_keep (q.1 + 1) = some q.2.2.1 ∧ gb cX11_keep (q.1 + 2) = some q.2.2.2 := seg_3 SX11_keep _ (by decide +kernel)
theorem dX11_keep_0 : decode cX11_keep 0 = .ok (.aload_n 0, 1) := dk42 (BX11_keep_1_0 (0, 42) (List.mem_of_getElem? (i := 0) rfl))
theorem dX11_keep_1 : decode cX11_keep 1 = .ok (.getfield 82, 3) := dk180 0 82 (BX11_keep_3_0 (1, 180, 0, 82) (List.mem_of_getElem? (i := 0) rfl))
theorem dX11_keep_4 : decode cX11_keep 4 = .ok (.iload_n 1, 1) := dk27 (BX11_keep_1_0 (4, 27) (List.mem_of_getElem? (i := 1) rfl))
theorem dX11_keep_5 : decode cX11_keep 5 = .ok (.invokevirtual 221, 3) := dk182 0 221 (BX11_keep_3_0 (5, 182, 0, 221) (List.mem_of_getElem? (i := 1) rfl))
theorem dX11_keep_8 : decode cX11_keep 8 = .ok (.ifCond .eq 19, 3) := dk153 0 19 (BX11_keep_3_0 (8, 153, 0, 19) (List.mem_of_getElem? (i := 2) rfl))
theorem dX11_keep_11 : decode cX11_keep 11 = .ok (.iload_n 2, 1) := dk28 (BX11_keep_1_0 (11, 28) (List.mem_of_getElem? (i := 2) rfl))
theorem dX11_keep_12 : decode cX11_keep 12 = .ok (.iconst (-1), 1) := dk2 (BX11_keep_1_0 (12, 2) (List.mem_of_getElem? (i := 3) rfl))
theorem dX11_keep_13 : decode cX11_keep 13 = .ok (.if_icmp .eq 16, 3) := dk159 0 16 (BX11_keep_3_0 (13, 159, 0, 16) (List.mem_of_getElem? (i := 3) rfl))
theorem dX11_keep_16 : decode cX11_keep 16 = .ok (.aload_n 0, 1) := dk42 (BX11_keep_1_0 (16, 42) (List.mem_of_getElem? (i := 4) rfl))
theorem dX11_keep_17 : decode cX11_keep 17 = .ok (.getfield 75, 3) := dk180 0 75 (BX11_keep_3_0 (17, 180, 0, 75) (List.mem_of_getElem? (i := 4) rfl))
theorem dX11_keep_20 : decode cX11_keep 20 = .ok (.iload_n 2, 1) := dk28 (BX11_keep_1_0 (20, 28) (List.mem_of_getElem? (i := 5) rfl))
theorem dX11_keep_21 : decode cX11_keep 21 = .ok (.invokevirtual 414, 3) := dk182 1 158 (BX11_keep_3_0 (21, 182, 1, 158) (List.mem_of_getElem? (i := 5) rfl))
theorem dX11_keep_24 : decode cX11_keep 24 = .ok (.ifCond .ne 5, 3) := dk154 0 5 (BX11_keep_3_0 (24, 154, 0, 5) (List.mem_of_getElem? (i := 6) rfl))
theorem dX11_keep_27 : decode cX11_keep 27 = .ok (.iconst (-1), 1) := dk2 (BX11_keep_1_0 (27, 2) (List.mem_of_getElem? (i := 6) rfl))
theorem dX11_keep_28 : decode cX11_keep 28 = .ok (.ireturn, 1) := dk172 (BX11_keep_1_0 (28, 172) (List.mem_of_getElem? (i := 7) rfl))
theorem dX11_keep_29 : decode cX11_keep 29 = .ok (.iload_n 2, 1) := dk28 (BX11_keep_1_0 (29, 28) (List.mem_of_getElem? (i := 8) rfl))
theorem dX11_keep_30 : decode cX11_keep 30 = .ok (.iconst (-1), 1) := dk2 (BX11_keep_1_0 (30, 2) (List.mem_of_getElem? (i := 9) rfl))
theorem dX11_keep_31 : decode cX11_keep 31 = .ok (.if_icmp .ne 14, 3) := dk160 0 14 (BX11_keep_3_0 (31, 160, 0, 14) (List.mem_of_getElem? (i := 7) rfl))
theorem dX11_keep_34 : decode cX11_keep 34 = .ok (.aload_n 0, 1) := dk42 (BX11_keep_1_0 (34, 42) (List.mem_of_getElem? (i := 10) rfl))
theorem dX11_keep_35 : decode cX11_keep 35 = .ok (.getfield 82, 3) := dk180 0 82 (BX11_keep_3_0 (35, 180, 0, 82) (List.mem_of_getElem? (i := 8) rfl))
theorem dX11_keep_38 : decode cX11_keep 38 = .ok (.iload_n 1, 1) := dk27 (BX11_keep_1_0 (38, 27) (List.mem_of_getElem? (i := 11) rfl))
theorem dX11_keep_39 : decode cX11_keep 39 = .ok (.invokevirtual 417, 3) := dk182 1 161 (BX11_keep_3_0 (39, 182, 1, 161) (List.mem_of_getElem? (i := 9) rfl))
theorem dX11_keep_42 : decode cX11_keep 42 = .ok (.goto 20, 3) := dk167 0 20 (BX11_keep_3_0 (42, 167, 0, 20) (List.mem_of_getElem? (i := 10) rfl))
theorem dX11_keep_45 : decode cX11_keep 45 = .ok (.aload_n 0, 1) := dk42 (BX11_keep_1_1 (45, 42) (List.mem_of_getElem? (i := 0) rfl))
theorem dX11_keep_46 : decode cX11_keep 46 = .ok (.getfield 82, 3) := dk180 0 82 (BX11_keep_3_0 (46, 180, 0, 82) (List.mem_of_getElem? (i := 11) rfl))
theorem dX11_keep_49 : decode cX11_keep 49 = .ok (.iload_n 1, 1) := dk27 (BX11_keep_1_1 (49, 27) (List.mem_of_getElem? (i := 1) rfl))
theorem dX11_keep_50 : decode cX11_keep 50 = .ok (.aload_n 0, 1) := dk42 (BX11_keep_1_1 (50, 42) (List.mem_of_getElem? (i := 2) rfl))
theorem dX11_keep_51 : decode cX11_keep 51 = .ok (.getfield 75, 3) := dk180 0 75 (BX11_keep_3_1 (51, 180, 0, 75) (List.mem_of_getElem? (i := 0) rfl))
theorem dX11_keep_54 : decode cX11_keep 54 = .ok (.getfield 420, 3) := dk180 1 164 (BX11_keep_3_1 (54, 180, 1, 164) (List.mem_of_getElem? (i := 1) rfl))
theorem dX11_keep_57 : decode cX11_keep 57 = .ok (.iload_n 2, 1) := dk28 (BX11_keep_1_1 (57, 28) (List.mem_of_getElem? (i := 3) rfl))
theorem dX11_keep_58 : decode cX11_keep 58 = .ok (.iaload, 1) := dk46 (BX11_keep_1_1 (58, 46) (List.mem_of_getElem? (i := 4) rfl))
theorem dX11_keep_59 : decode cX11_keep 59 = .ok (.invokevirtual 423, 3) := dk182 1 167 (BX11_keep_3_1 (59, 182, 1, 167) (List.mem_of_getElem? (i := 2) rfl))
theorem dX11_keep_62 : decode cX11_keep 62 = .ok (.iconst 1, 1) := dk4 (BX11_keep_1_1 (62, 4) (List.mem_of_getElem? (i := 5) rfl))
theorem dX11_keep_63 : decode cX11_keep 63 = .ok (.ireturn, 1) := dk172 (BX11_keep_1_1 (63, 172) (List.mem_of_getElem? (i := 6) rfl))
set_option maxRecDepth 20000 in
theorem ggX11_row_X8_isShelf : GoodIn wsX11_row wsX8_isShelf := goodIn_r _ [6, 7, 8, 9, 10, 34, 35, 36, 37] rfl (by decide +kernel)
set_option maxRecDepth 20000 in
theorem gX11_row_X8_isShelf : GoodIn wsX11_row (wsV RX11 221 RX8 yX8_isShelf wsX8_isShelf) := goodIn_app (goodIn_r _ [2, 3, 4, 5] rfl (by decide +kernel)) ggX11_row_X8_isShelf
set_option maxRecDepth 20000 in
theorem ggX11_row_X11_within : GoodIn wsX11_row wsX11_within := goodIn_r _ [10] rfl (by decide +kernel)
set_option maxRecDepth 20000 in
theorem gX11_row_X11_within : GoodIn wsX11_row (va_wsS RX11 113 yX11_within wsX11_within) := goodIn_app (goodIn_r _ [11, 8, 9] rfl (by decide +kernel)) ggX11_row_X11_within
set_option maxRecDepth 20000 in
theorem ggX11_row_X8_layRow : GoodIn wsX11_row wsX8_layRow := goodIn_r _ [15, 7, 16, 17, 18, 19, 20, 21, 34, 35, 36, 37] rfl (by decide +kernel)
set_option maxRecDepth 20000 in
theorem gX11_row_X8_layRow : GoodIn wsX11_row (wsV RX11 426 RX8 yX8_layRow wsX8_layRow) := goodIn_app (goodIn_r _ [12, 13, 14, 5] rfl (by decide +kernel)) ggX11_row_X8_layRow
set_option maxRecDepth 20000 in
theorem SX11_row : ∀ p : Nat, gb cX11_row p = segF [[42, 180, 0, 82, 27, 182, 0, 221, 153, 0, 18, 28, 3, 7, 184, 0, 113, 153, 0, 9, 29, 16, 60, 164, 0, 5, 2, 172, 29, 156, 0, 6, 16, 242, 172, 42, 180, 0, 82, 27, 28, 29, 182, 1, 170, 4, 172]] p := seg_gb (S := [[42, 180, 0, 82, 27, 182, 0, 221, 153, 0, 18, 28, 3, 7, 184, 0, 113, 153, 0, 9, 29, 16, 60, 164, 0, 5, 2, 172, 29, 156, 0, 6, 16, 242, 172, 42, 180, 0, 82, 27, 28, 29, 182, 1, 170, 4, 172]]) (by decide +kernel) (by decide +kernel)
set_option maxRecDepth 20000 in
theorem BX11_row_1_0 : ∀ q ∈ ([(0, 42), (4, 27), (11, 28), (12, 3), (13, 7), (20, 29), (26, 2), (27, 172), (28, 29), (34, 172), (35, 42), (39, 27)] : List (Nat × Nat)), gb cX11_row q.1 = some q.2 := seg_1 SX11_row _ (by decide +kernel)
set_option maxRecDepth 20000 in
theorem BX11_row_1_1 : ∀ q ∈ ([(40, 28), (41, 29), (45, 4), (46, 172)] : List (Nat × Nat)), gb cX11_row q.1 = some q.2 := seg_1 SX11_row _ (by decide +kernel)
set_option maxRecDepth 20000 in
theorem BX11_row_2_0 : ∀ q ∈ ([(21, 16, 60), (32, 16, 242)] : List (Nat × Nat × Nat)), gb cX11_row q.1 = some q.2.1 ∧ gb cX11_row (q.1 + 1) = some q.2.2 := seg_2 SX11_row _ (by decide +kernel)
set_option maxRecDepth 20000 in
theorem BX11_row_3_0 : ∀ q ∈ ([(1, 180, 0, 82), (5, 182, 0, 221), (8, 153, 0, 18), (14, 184, 0, 113), (17, 153, 0, 9), (23, 164, 0, 5), (29, 156, 0, 6), (36, 180, 0, 82), (42, 182, 1, 170)] : List (Nat × Nat × Nat × Nat)), gb cX11_row q.1 = some q.2.1 ∧ gb cX11_row (q.1 + 1) = some q.2.2.1 ∧ gb cX11_row (q.1 + 2) = some q.2.2.2 := seg_3 SX11_row _ (by decide +kernel)
theorem dX11_row_0 : decode cX11_row 0 = .ok (.aload_n 0, 1) := dk42 (BX11_row_1_0 (0, 42) (List.mem_of_getElem? (i := 0) rfl))
theorem dX11_row_1 : decode cX11_row 1 = .ok (.getfield 82, 3) := dk180 0 82 (BX11_row_3_0 (1, 180, 0, 82) (List.mem_of_getElem? (i := 0) rfl))
theorem dX11_row_4 : decode cX11_row 4 = .ok (.iload_n 1, 1) := dk27 (BX11_row_1_0 (4, 27) (List.mem_of_getElem? (i := 1) rfl))
theorem dX11_row_5 : decode cX11_row 5 = .ok (.invokevirtual 221, 3) := dk182 0 221 (BX11_row_3_0 (5, 182, 0, 221) (List.mem_of_getElem? (i := 1) rfl))
theorem dX11_row_8 : decode cX11_row 8 = .ok (.ifCond .eq 18, 3) := dk153 0 18 (BX11_row_3_0 (8, 153, 0, 18) (List.mem_of_getElem? (i := 2) rfl))
theorem dX11_row_11 : decode cX11_row 11 = .ok (.iload_n 2, 1) := dk28 (BX11_row_1_0 (11, 28) (List.mem_of_getElem? (i := 2) rfl))
theorem dX11_row_12 : decode cX11_row 12 = .ok (.iconst 0, 1) := dk3 (BX11_row_1_0 (12, 3) (List.mem_of_getElem? (i := 3) rfl))
theorem dX11_row_13 : decode cX11_row 13 = .ok (.iconst 4, 1) := dk7 (BX11_row_1_0 (13, 7) (List.mem_of_getElem? (i := 4) rfl))
theorem dX11_row_14 : decode cX11_row 14 = .ok (.invokestatic 113, 3) := dk184 0 113 (BX11_row_3_0 (14, 184, 0, 113) (List.mem_of_getElem? (i := 3) rfl))
theorem dX11_row_17 : decode cX11_row 17 = .ok (.ifCond .eq 9, 3) := dk153 0 9 (BX11_row_3_0 (17, 153, 0, 9) (List.mem_of_getElem? (i := 4) rfl))
theorem dX11_row_20 : decode cX11_row 20 = .ok (.iload_n 3, 1) := dk29 (BX11_row_1_0 (20, 29) (List.mem_of_getElem? (i := 5) rfl))
theorem dX11_row_21 : decode cX11_row 21 = .ok (.bipush 60, 2) := dk16 60 (BX11_row_2_0 (21, 16, 60) (List.mem_of_getElem? (i := 0) rfl))
theorem dX11_row_23 : decode cX11_row 23 = .ok (.if_icmp .le 5, 3) := dk164 0 5 (BX11_row_3_0 (23, 164, 0, 5) (List.mem_of_getElem? (i := 5) rfl))
theorem dX11_row_26 : decode cX11_row 26 = .ok (.iconst (-1), 1) := dk2 (BX11_row_1_0 (26, 2) (List.mem_of_getElem? (i := 6) rfl))
theorem dX11_row_27 : decode cX11_row 27 = .ok (.ireturn, 1) := dk172 (BX11_row_1_0 (27, 172) (List.mem_of_getElem? (i := 7) rfl))
theorem dX11_row_28 : decode cX11_row 28 = .ok (.iload_n 3, 1) := dk29 (BX11_row_1_0 (28, 29) (List.mem_of_getElem? (i := 8) rfl))
theorem dX11_row_29 : decode cX11_row 29 = .ok (.ifCond .ge 6, 3) := dk156 0 6 (BX11_row_3_0 (29, 156, 0, 6) (List.mem_of_getElem? (i := 6) rfl))
theorem dX11_row_32 : decode cX11_row 32 = .ok (.bipush (-14), 2) := dk16 242 (BX11_row_2_0 (32, 16, 242) (List.mem_of_getElem? (i := 1) rfl))
theorem dX11_row_34 : decode cX11_row 34 = .ok (.ireturn, 1) := dk172 (BX11_row_1_0 (34, 172) (List.mem_of_getElem? (i := 9) rfl))
theorem dX11_row_35 : decode cX11_row 35 = .ok (.aload_n 0, 1) := dk42 (BX11_row_1_0 (35, 42) (List.mem_of_getElem? (i := 10) rfl))
theorem dX11_row_36 : decode cX11_row 36 = .ok (.getfield 82, 3) := dk180 0 82 (BX11_row_3_0 (36, 180, 0, 82) (List.mem_of_getElem? (i := 7) rfl))
theorem dX11_row_39 : decode cX11_row 39 = .ok (.iload_n 1, 1) := dk27 (BX11_row_1_0 (39, 27) (List.mem_of_getElem? (i := 11) rfl))
theorem dX11_row_40 : decode cX11_row 40 = .ok (.iload_n 2, 1) := dk28 (BX11_row_1_1 (40, 28) (List.mem_of_getElem? (i := 0) rfl))
theorem dX11_row_41 : decode cX11_row 41 = .ok (.iload_n 3, 1) := dk29 (BX11_row_1_1 (41, 29) (List.mem_of_getElem? (i := 1) rfl))
theorem dX11_row_42 : decode cX11_row 42 = .ok (.invokevirtual 426, 3) := dk182 1 170 (BX11_row_3_0 (42, 182, 1, 170) (List.mem_of_getElem? (i := 8) rfl))
theorem dX11_row_45 : decode cX11_row 45 = .ok (.iconst 1, 1) := dk4 (BX11_row_1_1 (45, 4) (List.mem_of_getElem? (i := 2) rfl))
theorem dX11_row_46 : decode cX11_row 46 = .ok (.ireturn, 1) := dk172 (BX11_row_1_1 (46, 172) (List.mem_of_getElem? (i := 3) rfl))
set_option maxRecDepth 20000 in
theorem ggX11_put_X8_refusal : GoodIn wsX11_put wsX8_refusal := gcons (goodIn_g ch_wsX11_put_flat gd_wsX11_put _ [(1, 6)] rfl) (goodIn_app (goodIn_g ch_wsX11_put_flat gd_wsX11_put _ [(1, 7), (1, 8), (1, 9), (1, 10), (1, 11), (1, 5), (1, 12), (1, 13), (1, 14), (1, 15), (1, 16), (1, 17), (1, 18), (1, 19)] rfl) (gchunk ch_wsX11_put_flat gd_wsX11_put 3 rfl))
set_option maxRecDepth 20000 in
theorem gX11_put_X8_refusal : GoodIn wsX11_put (wsV RX11 430 RX8 yX8_refusal wsX8_refusal) := goodIn_app (goodIn_g ch_wsX11_put_flat gd_wsX11_put _ [(1, 2), (1, 3), (1, 4), (1, 5)] rfl) ggX11_put_X8_refusal
set_option maxRecDepth 20000 in
theorem ggX11_put_X8_lowBits : GoodIn wsX11_put wsX8_lowBits := gcons (goodIn_g ch_wsX11_put_flat gd_wsX11_put _ [(1, 23)] rfl) (goodIn_app (goodIn_g ch_wsX11_put_flat gd_wsX11_put _ [(1, 7)] rfl) (gchunk ch_wsX11_put_flat gd_wsX11_put 3 rfl))
set_option maxRecDepth 20000 in
theorem gX11_put_X8_lowBits : GoodIn wsX11_put (wsV RX11 433 RX8 yX8_lowBits wsX8_lowBits) := goodIn_app (goodIn_g ch_wsX11_put_flat gd_wsX11_put _ [(1, 20), (1, 21), (1, 22), (1, 5)] rfl) ggX11_put_X8_lowBits
set_option maxRecDepth 20000 in
theorem SX11_put : ∀ p : Nat, gb cX11_put p = segF [[42, 180, 0, 82, 27, 28, 182, 1, 174, 54, 5, 21, 5, 153, 0, 6, 21, 5, 172, 42, 180, 0, 82, 180, 0, 240, 27, 50, 28, 42, 180, 0, 82, 27, 33, 182, 1, 177, 80, 4, 172]] p := seg_gb (S := [[42, 180, 0, 82, 27, 28, 182, 1, 174, 54, 5, 21, 5, 153, 0, 6, 21, 5, 172, 42, 180, 0, 82, 180, 0, 240, 27, 50, 28, 42, 180, 0, 82, 27, 33, 182, 1, 177, 80, 4, 172]]) (by decide +kernel) (by decide +kernel)
set_option maxRecDepth 20000 in
theorem BX11_put_1_0 : ∀ q ∈ ([(0, 42), (4, 27), (5, 28), (18, 172), (19, 42), (26, 27), (27, 50), (28, 28), (29, 42), (33, 27), (34, 33), (38, 80)] : List (Nat × Nat)), gb cX11_put q.1 = some q.2 := seg_1 SX11_put _ (by decide +kernel)
set_option maxRecDepth 20000 in
theorem BX11_put_1_1 : ∀ q ∈ ([(39, 4), (40, 172)] : List (Nat × Nat)), gb cX11_put q.1 = some q.2 := seg_1 SX11_put _ (by decide +kernel)
set_option maxRecDepth 20000 in
theorem BX11_put_2_0 : ∀ q ∈ ([(9, 54, 5), (11, 21, 5), (16, 21, 5)] : List (Nat × Nat × Nat)), gb cX11_put q.1 = some q.2.1 ∧ gb cX11_put (q.1 + 1) = some q.2.2 := seg_2 SX11_put _ (by decide +kernel)
set_option maxRecDepth 20000 in
theorem BX11_put_3_0 : ∀ q ∈ ([(1, 180, 0, 82), (6, 182, 1, 174), (13, 153, 0, 6), (20, 180, 0, 82), (23, 180, 0, 240), (30, 180, 0, 82), (35, 182, 1, 177)] : List (Nat × Nat × Nat × Nat)), gb cX11_put q.1 = some q.2.1 ∧ gb cX11_put (q.1 + 1) = some q.2.2.1 ∧ gb cX11_put (q.1 + 2) = some q.2.2.2 := seg_3 SX11_put _ (by decide +kernel)
theorem dX11_put_0 : decode cX11_put 0 = .ok (.aload_n 0, 1) := dk42 (BX11_put_1_0 (0, 42) (List.mem_of_getElem? (i := 0) rfl))
theorem dX11_put_1 : decode cX11_put 1 = .ok (.getfield 82, 3) := dk180 0 82 (BX11_put_3_0 (1, 180, 0, 82) (List.mem_of_getElem? (i := 0) rfl))
theorem dX11_put_4 : decode cX11_put 4 = .ok (.iload_n 1, 1) := dk27 (BX11_put_1_0 (4, 27) (List.mem_of_getElem? (i := 1) rfl))
theorem dX11_put_5 : decode cX11_put 5 = .ok (.iload_n 2, 1) := dk28 (BX11_put_1_0 (5, 28) (List.mem_of_getElem? (i := 2) rfl))
theorem dX11_put_6 : decode cX11_put 6 = .ok (.invokevirtual 430, 3) := dk182 1 174 (BX11_put_3_0 (6, 182, 1, 174) (List.mem_of_getElem? (i := 1) rfl))
theorem dX11_put_9 : decode cX11_put 9 = .ok (.istore 5, 2) := dk54 5 (BX11_put_2_0 (9, 54, 5) (List.mem_of_getElem? (i := 0) rfl))
theorem dX11_put_11 : decode cX11_put 11 = .ok (.iload 5, 2) := dk21 5 (BX11_put_2_0 (11, 21, 5) (List.mem_of_getElem? (i := 1) rfl))
theorem dX11_put_13 : decode cX11_put 13 = .ok (.ifCond .eq 6, 3) := dk153 0 6 (BX11_put_3_0 (13, 153, 0, 6) (List.mem_of_getElem? (i := 2) rfl))
theorem dX11_put_16 : decode cX11_put 16 = .ok (.iload 5, 2) := dk21 5 (BX11_put_2_0 (16, 21, 5) (List.mem_of_getElem? (i := 2) rfl))
theorem dX11_put_18 : decode cX11_put 18 = .ok (.ireturn, 1) := dk172 (BX11_put_1_0 (18, 172) (List.mem_of_getElem? (i := 3) rfl))
theorem dX11_put_19 : decode cX11_put 19 = .ok (.aload_n 0, 1) := dk42 (BX11_put_1_0 (19, 42) (List.mem_of_getElem? (i := 4) rfl))
theorem dX11_put_20 : decode cX11_put 20 = .ok (.getfield 82, 3) := dk180 0 82 (BX11_put_3_0 (20, 180, 0, 82) (List.mem_of_getElem? (i := 3) rfl))
theorem dX11_put_23 : decode cX11_put 23 = .ok (.getfield 240, 3) := dk180 0 240 (BX11_put_3_0 (23, 180, 0, 240) (List.mem_of_getElem? (i := 4) rfl))
theorem dX11_put_26 : decode cX11_put 26 = .ok (.iload_n 1, 1) := dk27 (BX11_put_1_0 (26, 27) (List.mem_of_getElem? (i := 5) rfl))
theorem dX11_put_27 : decode cX11_put 27 = .ok (.aaload, 1) := dk50 (BX11_put_1_0 (27, 50) (List.mem_of_getElem? (i := 6) rfl))
theorem dX11_put_28 : decode cX11_put 28 = .ok (.iload_n 2, 1) := dk28 (BX11_put_1_0 (28, 28) (List.mem_of_getElem? (i := 7) rfl))
theorem dX11_put_29 : decode cX11_put 29 = .ok (.aload_n 0, 1) := dk42 (BX11_put_1_0 (29, 42) (List.mem_of_getElem? (i := 8) rfl))
theorem dX11_put_30 : decode cX11_put 30 = .ok (.getfield 82, 3) := dk180 0 82 (BX11_put_3_0 (30, 180, 0, 82) (List.mem_of_getElem? (i := 5) rfl))
theorem dX11_put_33 : decode cX11_put 33 = .ok (.iload_n 1, 1) := dk27 (BX11_put_1_0 (33, 27) (List.mem_of_getElem? (i := 9) rfl))
theorem dX11_put_34 : decode cX11_put 34 = .ok (.lload_n 3, 1) := dk33 (BX11_put_1_0 (34, 33) (List.mem_of_getElem? (i := 10) rfl))
theorem dX11_put_35 : decode cX11_put 35 = .ok (.invokevirtual 433, 3) := dk182 1 177 (BX11_put_3_0 (35, 182, 1, 177) (List.mem_of_getElem? (i := 6) rfl))
theorem dX11_put_38 : decode cX11_put 38 = .ok (.lastore, 1) := dk80 (BX11_put_1_0 (38, 80) (List.mem_of_getElem? (i := 11) rfl))
theorem dX11_put_39 : decode cX11_put 39 = .ok (.iconst 1, 1) := dk4 (BX11_put_1_1 (39, 4) (List.mem_of_getElem? (i := 0) rfl))
theorem dX11_put_40 : decode cX11_put 40 = .ok (.ireturn, 1) := dk172 (BX11_put_1_1 (40, 172) (List.mem_of_getElem? (i := 1) rfl))
set_option maxRecDepth 20000 in
theorem ggX11_element_X8_refusal : GoodIn wsX11_element wsX8_refusal := goodIn_r _ [8, 9, 10, 11, 12, 13, 7, 14, 15, 16, 17, 18, 19, 20, 21, 34, 35, 36, 37] rfl (by decide +kernel)
set_option maxRecDepth 20000 in
theorem gX11_element_X8_refusal : GoodIn wsX11_element (wsV RX11 430 RX8 yX8_refusal wsX8_refusal) := goodIn_app (goodIn_r _ [4, 5, 6, 7] rfl (by decide +kernel)) ggX11_element_X8_refusal
set_option maxRecDepth 20000 in
theorem SX11_element : ∀ p : Nat, gb cX11_element p = segF [[42, 180, 0, 82, 27, 28, 182, 1, 174, 153, 0, 9, 20, 1, 183, 167, 0, 14, 42, 180, 0, 82, 180, 0, 240, 27, 50, 28, 47, 173]] p := seg_gb (S := [[42, 180, 0, 82, 27, 28, 182, 1, 174, 153, 0, 9, 20, 1, 183, 167, 0, 14, 42, 180, 0, 82, 180, 0, 240, 27, 50, 28, 47, 173]]) (by decide +kernel) (by decide +kernel)
set_option maxRecDepth 20000 in
theorem BX11_element_1_0 : ∀ q ∈ ([(0, 42), (4, 27), (5, 28), (18, 42), (25, 27), (26, 50), (27, 28), (28, 47), (29, 173)] : List (Nat × Nat)), gb cX11_element q.1 = some q.2 := seg_1 SX11_element _ (by decide +kernel)
set_option maxRecDepth 20000 in
theorem BX11_element_3_0 : ∀ q ∈ ([(1, 180, 0, 82), (6, 182, 1, 174), (9, 153, 0, 9), (12, 20, 1, 183), (15, 167, 0, 14), (19, 180, 0, 82), (22, 180, 0, 240)] : List (Nat × Nat × Nat × Nat)), gb cX11_element q.1 = some q.2.1 ∧ gb cX11_element (q.1 + 1) = some q.2.2.1 ∧ gb cX11_element (q.1 + 2) = some q.2.2.2 := seg_3 SX11_element _ (by decide +kernel)
theorem dX11_element_0 : decode cX11_element 0 = .ok (.aload_n 0, 1) := dk42 (BX11_element_1_0 (0, 42) (List.mem_of_getElem? (i := 0) rfl))
theorem dX11_element_1 : decode cX11_element 1 = .ok (.getfield 82, 3) := dk180 0 82 (BX11_element_3_0 (1, 180, 0, 82) (List.mem_of_getElem? (i := 0) rfl))
theorem dX11_element_4 : decode cX11_element 4 = .ok (.iload_n 1, 1) := dk27 (BX11_element_1_0 (4, 27) (List.mem_of_getElem? (i := 1) rfl))
theorem dX11_element_5 : decode cX11_element 5 = .ok (.iload_n 2, 1) := dk28 (BX11_element_1_0 (5, 28) (List.mem_of_getElem? (i := 2) rfl))
theorem dX11_element_6 : decode cX11_element 6 = .ok (.invokevirtual 430, 3) := dk182 1 174 (BX11_element_3_0 (6, 182, 1, 174) (List.mem_of_getElem? (i := 1) rfl))
theorem dX11_element_9 : decode cX11_element 9 = .ok (.ifCond .eq 9, 3) := dk153 0 9 (BX11_element_3_0 (9, 153, 0, 9) (List.mem_of_getElem? (i := 2) rfl))
theorem dX11_element_12 : decode cX11_element 12 = .ok (.ldc2_w 439, 3) := dk20 1 183 (BX11_element_3_0 (12, 20, 1, 183) (List.mem_of_getElem? (i := 3) rfl))
theorem dX11_element_15 : decode cX11_element 15 = .ok (.goto 14, 3) := dk167 0 14 (BX11_element_3_0 (15, 167, 0, 14) (List.mem_of_getElem? (i := 4) rfl))
theorem dX11_element_18 : decode cX11_element 18 = .ok (.aload_n 0, 1) := dk42 (BX11_element_1_0 (18, 42) (List.mem_of_getElem? (i := 3) rfl))
theorem dX11_element_19 : decode cX11_element 19 = .ok (.getfield 82, 3) := dk180 0 82 (BX11_element_3_0 (19, 180, 0, 82) (List.mem_of_getElem? (i := 5) rfl))
theorem dX11_element_22 : decode cX11_element 22 = .ok (.getfield 240, 3) := dk180 0 240 (BX11_element_3_0 (22, 180, 0, 240) (List.mem_of_getElem? (i := 6) rfl))
theorem dX11_element_25 : decode cX11_element 25 = .ok (.iload_n 1, 1) := dk27 (BX11_element_1_0 (25, 27) (List.mem_of_getElem? (i := 4) rfl))
theorem dX11_element_26 : decode cX11_element 26 = .ok (.aaload, 1) := dk50 (BX11_element_1_0 (26, 50) (List.mem_of_getElem? (i := 5) rfl))
theorem dX11_element_27 : decode cX11_element 27 = .ok (.iload_n 2, 1) := dk28 (BX11_element_1_0 (27, 28) (List.mem_of_getElem? (i := 6) rfl))
theorem dX11_element_28 : decode cX11_element 28 = .ok (.laload, 1) := dk47 (BX11_element_1_0 (28, 47) (List.mem_of_getElem? (i := 7) rfl))
theorem dX11_element_29 : decode cX11_element 29 = .ok (.lreturn, 1) := dk173 (BX11_element_1_0 (29, 173) (List.mem_of_getElem? (i := 8) rfl))
set_option maxRecDepth 20000 in
theorem ggX11_shift_X8_isShelf : GoodIn wsX11_shift wsX8_isShelf := gcons (goodIn_g ch_wsX11_shift_flat gd_wsX11_shift _ [(1, 10)] rfl) (goodIn_app (goodIn_g ch_wsX11_shift_flat gd_wsX11_shift _ [(1, 11), (1, 12), (1, 13), (1, 14)] rfl) (gchunk ch_wsX11_shift_flat gd_wsX11_shift 4 rfl))
set_option maxRecDepth 20000 in
theorem gX11_shift_X8_isShelf : GoodIn wsX11_shift (wsV RX11 221 RX8 yX8_isShelf wsX8_isShelf) := goodIn_app (goodIn_g ch_wsX11_shift_flat gd_wsX11_shift _ [(1, 6), (1, 7), (1, 8), (1, 9)] rfl) ggX11_shift_X8_isShelf
set_option maxRecDepth 20000 in
theorem ggX11_shift_X8_isBare : GoodIn wsX11_shift wsX8_isBare := gcons (goodIn_g ch_wsX11_shift_flat gd_wsX11_shift _ [(1, 18)] rfl) (goodIn_app (goodIn_g ch_wsX11_shift_flat gd_wsX11_shift _ [(1, 11)] rfl) (gchunk ch_wsX11_shift_flat gd_wsX11_shift 4 rfl))
set_option maxRecDepth 20000 in
theorem gX11_shift_X8_isBare : GoodIn wsX11_shift (wsV RX11 224 RX8 yX8_isBare wsX8_isBare) := goodIn_app (goodIn_g ch_wsX11_shift_flat gd_wsX11_shift _ [(1, 15), (1, 16), (1, 17), (1, 9)] rfl) ggX11_shift_X8_isBare
set_option maxRecDepth 20000 in
theorem ggX11_shift_X8_areAlikeRows : GoodIn wsX11_shift wsX8_areAlikeRows := gcons (goodIn_g ch_wsX11_shift_flat gd_wsX11_shift _ [(1, 22)] rfl) (goodIn_app (goodIn_g ch_wsX11_shift_flat gd_wsX11_shift _ [(1, 11)] rfl) (gchunk ch_wsX11_shift_flat gd_wsX11_shift 4 rfl))
set_option maxRecDepth 20000 in
theorem gX11_shift_X8_areAlikeRows : GoodIn wsX11_shift (wsV RX11 441 RX8 yX8_areAlikeRows wsX8_areAlikeRows) := goodIn_app (goodIn_g ch_wsX11_shift_flat gd_wsX11_shift _ [(1, 19), (1, 20), (1, 21), (1, 9)] rfl) ggX11_shift_X8_areAlikeRows
set_option maxRecDepth 20000 in
theorem ggX11_shift_X8_hasPlaces : GoodIn wsX11_shift wsX8_hasPlaces := gcons (goodIn_g ch_wsX11_shift_flat gd_wsX11_shift _ [(2, 2)] rfl) (goodIn_app (goodIn_g ch_wsX11_shift_flat gd_wsX11_shift _ [(2, 3)] rfl) (gchunk ch_wsX11_shift_flat gd_wsX11_shift 4 rfl))
set_option maxRecDepth 20000 in
theorem gX11_shift_X8_hasPlaces : GoodIn wsX11_shift (wsV RX11 237 RX8 yX8_hasPlaces wsX8_hasPlaces) := goodIn_app (goodIn_g ch_wsX11_shift_flat gd_wsX11_shift _ [(1, 23), (2, 0), (2, 1), (1, 9)] rfl) ggX11_shift_X8_hasPlaces
set_option maxRecDepth 20000 in
theorem SX11_shift : ∀ p : Nat, gb cX11_shift p = segF [[42, 180, 0, 82, 27, 182, 0, 221, 153, 0, 14, 42, 180, 0, 82, 29, 182, 0, 221, 154, 0, 5, 2, 172, 42, 180, 0, 82, 27, 182, 0, 224, 154, 0, 14, 42, 180, 0, 82, 29, 182, 0, 224, 153, 0, 6, 16, 245, 172, 42, 180, 0, 82, 27, 29, 182, 1, 185, 154, 0, 6, 16, 244, 172], [42, 180, 0, 82, 27, 28, 21, 5, 182, 0, 237, 153, 0, 18, 42, 180, 0, 82, 29, 21, 4, 21, 5, 182, 0, 237, 154, 0, 6, 16, 243, 172, 42, 180, 0, 82, 180, 0, 240, 27, 50, 28, 42, 180, 0, 82, 180, 0, 240, 29, 50, 21, 4, 21, 5, 184, 1, 188, 21, 5, 172]] p := seg_gb (S := [[42, 180, 0, 82, 27, 182, 0, 221, 153, 0, 14, 42, 180, 0, 82, 29, 182, 0, 221, 154, 0, 5, 2, 172, 42, 180, 0, 82, 27, 182, 0, 224, 154, 0, 14, 42, 180, 0, 82, 29, 182, 0, 224, 153, 0, 6, 16, 245, 172, 42, 180, 0, 82, 27, 29, 182, 1, 185, 154, 0, 6, 16, 244, 172], [42, 180, 0, 82, 27, 28, 21, 5, 182, 0, 237, 153, 0, 18, 42, 180, 0, 82, 29, 21, 4, 21, 5, 182, 0, 237, 154, 0, 6, 16, 243, 172, 42, 180, 0, 82, 180, 0, 240, 27, 50, 28, 42, 180, 0, 82, 180, 0, 240, 29, 50, 21, 4, 21, 5, 184, 1, 188, 21, 5, 172]]) (by decide +kernel) (by decide +kernel)
set_option maxRecDepth 20000 in
theorem BX11_shift_1_0 : ∀ q ∈ ([(0, 42), (4, 27), (11, 42), (15, 29), (22, 2), (23, 172), (24, 42), (28, 27), (35, 42), (39, 29), (48, 172), (49, 42)] : List (Nat × Nat)), gb cX11_shift q.1 = some q.2 := seg_1 SX11_shift _ (by decide +kernel)
set_option maxRecDepth 20000 in
theorem BX11_shift_1_1 : ∀ q ∈ ([(53, 27), (54, 29), (63, 172), (64, 42), (68, 27), (69, 28), (78, 42), (82, 29), (95, 172), (96, 42), (103, 27), (104, 50)] : List (Nat × Nat)), gb cX11_shift q.1 = some q.2 := seg_1 SX11_shift _ (by decide +kernel)
set_option maxRecDepth 20000 in
theorem BX11_shift_1_2 : ∀ q ∈ ([(105, 28), (106, 42), (113, 29), (114, 50), (124, 172)] : List (Nat × Nat)), gb cX11_shift q.1 = some q.2 := seg_1 SX11_shift _ (by decide +kernel)
set_option maxRecDepth 20000 in
theorem BX11_shift_2_0 : ∀ q ∈ ([(46, 16, 245), (61, 16, 244), (70, 21, 5), (83, 21, 4), (85, 21, 5), (93, 16, 243), (115, 21, 4), (117, 21, 5), (122, 21, 5)] : List (Nat × Nat × Nat)), gb cX11_shift q.1 = some q.2.1 ∧ gb cX11_shift (q.1 + 1) = some q.2.2 := seg_2 SX11_shift _ (by decide +kernel)
set_option maxRecDepth 20000 in
theorem BX11_shift_3_0 : ∀ q ∈ ([(1, 180, 0, 82), (5, 182, 0, 221), (8, 153, 0, 14), (12, 180, 0, 82), (16, 182, 0, 221), (19, 154, 0, 5), (25, 180, 0, 82), (29, 182, 0, 224), (32, 154, 0, 14), (36, 180, 0, 82), (40, 182, 0, 224), (43, 153, 0, 6)] : List (Nat × Nat × Nat × Nat)), gb cX11_shift q.1 = some q.2.1 ∧ gb cX11_shift (q.1 + 1) = some q.2.2.1 ∧ gb cX11_shift (q.1 + 2) = some q.2.2.2 := seg_3 SX11_shift _ (by decide +kernel)
set_option maxRecDepth 20000 in
theorem BX11_shift_3_1 : ∀ q ∈ ([(50, 180, 0, 82), (55, 182, 1, 185), (58, 154, 0, 6), (65, 180, 0, 82), (72, 182, 0, 237), (75, 153, 0, 18), (79, 180, 0, 82), (87, 182, 0, 237), (90, 154, 0, 6), (97, 180, 0, 82), (100, 180, 0, 240), (107, 180, 0, 82)] : List (Nat × Nat × Nat × Nat)), gb cX11_shift q.1 = some q.2.1 ∧ gb cX11_shift (q.1 + 1) = some q.2.2.1 ∧ gb cX11_shift (q.1 + 2) = some q.2.2.2 := seg_3 SX11_shift _ (by decide +kernel)
set_option maxRecDepth 20000 in
theorem BX11_shift_3_2 : ∀ q ∈ ([(110, 180, 0, 240), (119, 184, 1, 188)] : List (Nat × Nat × Nat × Nat)), gb cX11_shift q.1 = some q.2.1 ∧ gb cX11_shift (q.1 + 1) = some q.2.2.1 ∧ gb cX11_shift (q.1 + 2) = some q.2.2.2 := seg_3 SX11_shift _ (by decide +kernel)
theorem dX11_shift_0 : decode cX11_shift 0 = .ok (.aload_n 0, 1) := dk42 (BX11_shift_1_0 (0, 42) (List.mem_of_getElem? (i := 0) rfl))
theorem dX11_shift_1 : decode cX11_shift 1 = .ok (.getfield 82, 3) := dk180 0 82 (BX11_shift_3_0 (1, 180, 0, 82) (List.mem_of_getElem? (i := 0) rfl))
theorem dX11_shift_4 : decode cX11_shift 4 = .ok (.iload_n 1, 1) := dk27 (BX11_shift_1_0 (4, 27) (List.mem_of_getElem? (i := 1) rfl))
theorem dX11_shift_5 : decode cX11_shift 5 = .ok (.invokevirtual 221, 3) := dk182 0 221 (BX11_shift_3_0 (5, 182, 0, 221) (List.mem_of_getElem? (i := 1) rfl))
theorem dX11_shift_8 : decode cX11_shift 8 = .ok (.ifCond .eq 14, 3) := dk153 0 14 (BX11_shift_3_0 (8, 153, 0, 14) (List.mem_of_getElem? (i := 2) rfl))
theorem dX11_shift_11 : decode cX11_shift 11 = .ok (.aload_n 0, 1) := dk42 (BX11_shift_1_0 (11, 42) (List.mem_of_getElem? (i := 2) rfl))
theorem dX11_shift_12 : decode cX11_shift 12 = .ok (.getfield 82, 3) := dk180 0 82 (BX11_shift_3_0 (12, 180, 0, 82) (List.mem_of_getElem? (i := 3) rfl))
theorem dX11_shift_15 : decode cX11_shift 15 = .ok (.iload_n 3, 1) := dk29 (BX11_shift_1_0 (15, 29) (List.mem_of_getElem? (i := 3) rfl))
theorem dX11_shift_16 : decode cX11_shift 16 = .ok (.invokevirtual 221, 3) := dk182 0 221 (BX11_shift_3_0 (16, 182, 0, 221) (List.mem_of_getElem? (i := 4) rfl))
theorem dX11_shift_19 : decode cX11_shift 19 = .ok (.ifCond .ne 5, 3) := dk154 0 5 (BX11_shift_3_0 (19, 154, 0, 5) (List.mem_of_getElem? (i := 5) rfl))
theorem dX11_shift_22 : decode cX11_shift 22 = .ok (.iconst (-1), 1) := dk2 (BX11_shift_1_0 (22, 2) (List.mem_of_getElem? (i := 4) rfl))
theorem dX11_shift_23 : decode cX11_shift 23 = .ok (.ireturn, 1) := dk172 (BX11_shift_1_0 (23, 172) (List.mem_of_getElem? (i := 5) rfl))
theorem dX11_shift_24 : decode cX11_shift 24 = .ok (.aload_n 0, 1) := dk42 (BX11_shift_1_0 (24, 42) (List.mem_of_getElem? (i := 6) rfl))
theorem dX11_shift_25 : decode cX11_shift 25 = .ok (.getfield 82, 3) := dk180 0 82 (BX11_shift_3_0 (25, 180, 0, 82) (List.mem_of_getElem? (i := 6) rfl))
theorem dX11_shift_28 : decode cX11_shift 28 = .ok (.iload_n 1, 1) := dk27 (BX11_shift_1_0 (28, 27) (List.mem_of_getElem? (i := 7) rfl))
theorem dX11_shift_29 : decode cX11_shift 29 = .ok (.invokevirtual 224, 3) := dk182 0 224 (BX11_shift_3_0 (29, 182, 0, 224) (List.mem_of_getElem? (i := 7) rfl))
theorem dX11_shift_32 : decode cX11_shift 32 = .ok (.ifCond .ne 14, 3) := dk154 0 14 (BX11_shift_3_0 (32, 154, 0, 14) (List.mem_of_getElem? (i := 8) rfl))
theorem dX11_shift_35 : decode cX11_shift 35 = .ok (.aload_n 0, 1) := dk42 (BX11_shift_1_0 (35, 42) (List.mem_of_getElem? (i := 8) rfl))
theorem dX11_shift_36 : decode cX11_shift 36 = .ok (.getfield 82, 3) := dk180 0 82 (BX11_shift_3_0 (36, 180, 0, 82) (List.mem_of_getElem? (i := 9) rfl))
theorem dX11_shift_39 : decode cX11_shift 39 = .ok (.iload_n 3, 1) := dk29 (BX11_shift_1_0 (39, 29) (List.mem_of_getElem? (i := 9) rfl))
theorem dX11_shift_40 : decode cX11_shift 40 = .ok (.invokevirtual 224, 3) := dk182 0 224 (BX11_shift_3_0 (40, 182, 0, 224) (List.mem_of_getElem? (i := 10) rfl))
theorem dX11_shift_43 : decode cX11_shift 43 = .ok (.ifCond .eq 6, 3) := dk153 0 6 (BX11_shift_3_0 (43, 153, 0, 6) (List.mem_of_getElem? (i := 11) rfl))
theorem dX11_shift_46 : decode cX11_shift 46 = .ok (.bipush (-11), 2) := dk16 245 (BX11_shift_2_0 (46, 16, 245) (List.mem_of_getElem? (i := 0) rfl))
theorem dX11_shift_48 : decode cX11_shift 48 = .ok (.ireturn, 1) := dk172 (BX11_shift_1_0 (48, 172) (List.mem_of_getElem? (i := 10) rfl))
theorem dX11_shift_49 : decode cX11_shift 49 = .ok (.aload_n 0, 1) := dk42 (BX11_shift_1_0 (49, 42) (List.mem_of_getElem? (i := 11) rfl))
theorem dX11_shift_50 : decode cX11_shift 50 = .ok (.getfield 82, 3) := dk180 0 82 (BX11_shift_3_1 (50, 180, 0, 82) (List.mem_of_getElem? (i := 0) rfl))
theorem dX11_shift_53 : decode cX11_shift 53 = .ok (.iload_n 1, 1) := dk27 (BX11_shift_1_1 (53, 27) (List.mem_of_getElem? (i := 0) rfl))
theorem dX11_shift_54 : decode cX11_shift 54 = .ok (.iload_n 3, 1) := dk29 (BX11_shift_1_1 (54, 29) (List.mem_of_getElem? (i := 1) rfl))
theorem dX11_shift_55 : decode cX11_shift 55 = .ok (.invokevirtual 441, 3) := dk182 1 185 (BX11_shift_3_1 (55, 182, 1, 185) (List.mem_of_getElem? (i := 1) rfl))
theorem dX11_shift_58 : decode cX11_shift 58 = .ok (.ifCond .ne 6, 3) := dk154 0 6 (BX11_shift_3_1 (58, 154, 0, 6) (List.mem_of_getElem? (i := 2) rfl))
theorem dX11_shift_61 : decode cX11_shift 61 = .ok (.bipush (-12), 2) := dk16 244 (BX11_shift_2_0 (61, 16, 244) (List.mem_of_getElem? (i := 1) rfl))
theorem dX11_shift_63 : decode cX11_shift 63 = .ok (.ireturn, 1) := dk172 (BX11_shift_1_1 (63, 172) (List.mem_of_getElem? (i := 2) rfl))
theorem dX11_shift_64 : decode cX11_shift 64 = .ok (.aload_n 0, 1) := dk42 (BX11_shift_1_1 (64, 42) (List.mem_of_getElem? (i := 3) rfl))
theorem dX11_shift_65 : decode cX11_shift 65 = .ok (.getfield 82, 3) := dk180 0 82 (BX11_shift_3_1 (65, 180, 0, 82) (List.mem_of_getElem? (i := 3) rfl))
theorem dX11_shift_68 : decode cX11_shift 68 = .ok (.iload_n 1, 1) := dk27 (BX11_shift_1_1 (68, 27) (List.mem_of_getElem? (i := 4) rfl))
theorem dX11_shift_69 : decode cX11_shift 69 = .ok (.iload_n 2, 1) := dk28 (BX11_shift_1_1 (69, 28) (List.mem_of_getElem? (i := 5) rfl))
theorem dX11_shift_70 : decode cX11_shift 70 = .ok (.iload 5, 2) := dk21 5 (BX11_shift_2_0 (70, 21, 5) (List.mem_of_getElem? (i := 2) rfl))
theorem dX11_shift_72 : decode cX11_shift 72 = .ok (.invokevirtual 237, 3) := dk182 0 237 (BX11_shift_3_1 (72, 182, 0, 237) (List.mem_of_getElem? (i := 4) rfl))
theorem dX11_shift_75 : decode cX11_shift 75 = .ok (.ifCond .eq 18, 3) := dk153 0 18 (BX11_shift_3_1 (75, 153, 0, 18) (List.mem_of_getElem? (i := 5) rfl))
theorem dX11_shift_78 : decode cX11_shift 78 = .ok (.aload_n 0, 1) := dk42 (BX11_shift_1_1 (78, 42) (List.mem_of_getElem? (i := 6) rfl))
theorem dX11_shift_79 : decode cX11_shift 79 = .ok (.getfield 82, 3) := dk180 0 82 (BX11_shift_3_1 (79, 180, 0, 82) (List.mem_of_getElem? (i := 6) rfl))
theorem dX11_shift_82 : decode cX11_shift 82 = .ok (.iload_n 3, 1) := dk29 (BX11_shift_1_1 (82, 29) (List.mem_of_getElem? (i := 7) rfl))
theorem dX11_shift_83 : decode cX11_shift 83 = .ok (.iload 4, 2) := dk21 4 (BX11_shift_2_0 (83, 21, 4) (List.mem_of_getElem? (i := 3) rfl))
theorem dX11_shift_85 : decode cX11_shift 85 = .ok (.iload 5, 2) := dk21 5 (BX11_shift_2_0 (85, 21, 5) (List.mem_of_getElem? (i := 4) rfl))
theorem dX11_shift_87 : decode cX11_shift 87 = .ok (.invokevirtual 237, 3) := dk182 0 237 (BX11_shift_3_1 (87, 182, 0, 237) (List.mem_of_getElem? (i := 7) rfl))
theorem dX11_shift_90 : decode cX11_shift 90 = .ok (.ifCond .ne 6, 3) := dk154 0 6 (BX11_shift_3_1 (90, 154, 0, 6) (List.mem_of_getElem? (i := 8) rfl))
theorem dX11_shift_93 : decode cX11_shift 93 = .ok (.bipush (-13), 2) := dk16 243 (BX11_shift_2_0 (93, 16, 243) (List.mem_of_getElem? (i := 5) rfl))
theorem dX11_shift_95 : decode cX11_shift 95 = .ok (.ireturn, 1) := dk172 (BX11_shift_1_1 (95, 172) (List.mem_of_getElem? (i := 8) rfl))
theorem dX11_shift_96 : decode cX11_shift 96 = .ok (.aload_n 0, 1) := dk42 (BX11_shift_1_1 (96, 42) (List.mem_of_getElem? (i := 9) rfl))
theorem dX11_shift_97 : decode cX11_shift 97 = .ok (.getfield 82, 3) := dk180 0 82 (BX11_shift_3_1 (97, 180, 0, 82) (List.mem_of_getElem? (i := 9) rfl))
theorem dX11_shift_100 : decode cX11_shift 100 = .ok (.getfield 240, 3) := dk180 0 240 (BX11_shift_3_1 (100, 180, 0, 240) (List.mem_of_getElem? (i := 10) rfl))
theorem dX11_shift_103 : decode cX11_shift 103 = .ok (.iload_n 1, 1) := dk27 (BX11_shift_1_1 (103, 27) (List.mem_of_getElem? (i := 10) rfl))
theorem dX11_shift_104 : decode cX11_shift 104 = .ok (.aaload, 1) := dk50 (BX11_shift_1_1 (104, 50) (List.mem_of_getElem? (i := 11) rfl))
theorem dX11_shift_105 : decode cX11_shift 105 = .ok (.iload_n 2, 1) := dk28 (BX11_shift_1_2 (105, 28) (List.mem_of_getElem? (i := 0) rfl))
theorem dX11_shift_106 : decode cX11_shift 106 = .ok (.aload_n 0, 1) := dk42 (BX11_shift_1_2 (106, 42) (List.mem_of_getElem? (i := 1) rfl))
theorem dX11_shift_107 : decode cX11_shift 107 = .ok (.getfield 82, 3) := dk180 0 82 (BX11_shift_3_1 (107, 180, 0, 82) (List.mem_of_getElem? (i := 11) rfl))
theorem dX11_shift_110 : decode cX11_shift 110 = .ok (.getfield 240, 3) := dk180 0 240 (BX11_shift_3_2 (110, 180, 0, 240) (List.mem_of_getElem? (i := 0) rfl))
theorem dX11_shift_113 : decode cX11_shift 113 = .ok (.iload_n 3, 1) := dk29 (BX11_shift_1_2 (113, 29) (List.mem_of_getElem? (i := 2) rfl))
theorem dX11_shift_114 : decode cX11_shift 114 = .ok (.aaload, 1) := dk50 (BX11_shift_1_2 (114, 50) (List.mem_of_getElem? (i := 3) rfl))
theorem dX11_shift_115 : decode cX11_shift 115 = .ok (.iload 4, 2) := dk21 4 (BX11_shift_2_0 (115, 21, 4) (List.mem_of_getElem? (i := 6) rfl))
theorem dX11_shift_117 : decode cX11_shift 117 = .ok (.iload 5, 2) := dk21 5 (BX11_shift_2_0 (117, 21, 5) (List.mem_of_getElem? (i := 7) rfl))
theorem dX11_shift_119 : decode cX11_shift 119 = .ok (.invokestatic 444, 3) := dk184 1 188 (BX11_shift_3_2 (119, 184, 1, 188) (List.mem_of_getElem? (i := 1) rfl))
theorem dX11_shift_122 : decode cX11_shift 122 = .ok (.iload 5, 2) := dk21 5 (BX11_shift_2_0 (122, 21, 5) (List.mem_of_getElem? (i := 8) rfl))
theorem dX11_shift_124 : decode cX11_shift 124 = .ok (.ireturn, 1) := dk172 (BX11_shift_1_2 (124, 172) (List.mem_of_getElem? (i := 4) rfl))
set_option maxRecDepth 20000 in
theorem ggX11_taken_X8_isShelf : GoodIn wsX11_taken wsX8_isShelf := gcons (goodIn_g ch_wsX11_taken_flat gd_wsX11_taken _ [(1, 7)] rfl) (goodIn_app (goodIn_g ch_wsX11_taken_flat gd_wsX11_taken _ [(1, 8), (1, 9), (1, 10), (1, 11)] rfl) (gchunk ch_wsX11_taken_flat gd_wsX11_taken 4 rfl))
set_option maxRecDepth 20000 in
theorem gX11_taken_X8_isShelf : GoodIn wsX11_taken (wsV RX11 221 RX8 yX8_isShelf wsX8_isShelf) := goodIn_app (goodIn_g ch_wsX11_taken_flat gd_wsX11_taken _ [(1, 3), (1, 4), (1, 5), (1, 6)] rfl) ggX11_taken_X8_isShelf
set_option maxRecDepth 20000 in
theorem ggX11_taken_X11_within : GoodIn wsX11_taken wsX11_within := goodIn_g ch_wsX11_taken_flat gd_wsX11_taken _ [(1, 11)] rfl
set_option maxRecDepth 20000 in
theorem gX11_taken_X11_within : GoodIn wsX11_taken (va_wsS RX11 113 yX11_within wsX11_within) := goodIn_app (goodIn_g ch_wsX11_taken_flat gd_wsX11_taken _ [(1, 12), (1, 9), (1, 10)] rfl) ggX11_taken_X11_within
set_option maxRecDepth 20000 in
theorem ggX11_taken_X8_isBare : GoodIn wsX11_taken wsX8_isBare := gcons (goodIn_g ch_wsX11_taken_flat gd_wsX11_taken _ [(1, 16)] rfl) (goodIn_app (goodIn_g ch_wsX11_taken_flat gd_wsX11_taken _ [(1, 8)] rfl) (gchunk ch_wsX11_taken_flat gd_wsX11_taken 4 rfl))
set_option maxRecDepth 20000 in
theorem gX11_taken_X8_isBare : GoodIn wsX11_taken (wsV RX11 224 RX8 yX8_isBare wsX8_isBare) := goodIn_app (goodIn_g ch_wsX11_taken_flat gd_wsX11_taken _ [(1, 13), (1, 14), (1, 15), (1, 6)] rfl) ggX11_taken_X8_isBare
set_option maxRecDepth 20000 in
theorem ggX11_taken_X8_holdsSort : GoodIn wsX11_taken wsX8_holdsSort := gcons (goodIn_g ch_wsX11_taken_flat gd_wsX11_taken _ [(1, 20)] rfl) (goodIn_app (goodIn_g ch_wsX11_taken_flat gd_wsX11_taken _ [(1, 8)] rfl) (gchunk ch_wsX11_taken_flat gd_wsX11_taken 4 rfl))
set_option maxRecDepth 20000 in
theorem gX11_taken_X8_holdsSort : GoodIn wsX11_taken (wsV RX11 227 RX8 yX8_holdsSort wsX8_holdsSort) := goodIn_app (goodIn_g ch_wsX11_taken_flat gd_wsX11_taken _ [(1, 17), (1, 18), (1, 19), (1, 6)] rfl) ggX11_taken_X8_holdsSort
set_option maxRecDepth 20000 in
theorem ggX11_taken_X0_isUnder : GoodIn wsX11_taken wsX0_isUnder := goodIn_g ch_wsX11_taken_flat gd_wsX11_taken _ [(2, 1), (2, 2)] rfl
set_option maxRecDepth 20000 in
theorem gX11_taken_X0_isUnder : GoodIn wsX11_taken (wsV RX11 453 RX0 yX0_isUnder wsX0_isUnder) := goodIn_app (goodIn_g ch_wsX11_taken_flat gd_wsX11_taken _ [(1, 21), (1, 22), (1, 23), (2, 0)] rfl) ggX11_taken_X0_isUnder
set_option maxRecDepth 20000 in
theorem SX11_taken : ∀ p : Nat, gb cX11_taken p = segF [[42, 180, 0, 82, 27, 182, 0, 221, 153, 0, 13, 28, 3, 16, 7, 184, 0, 113, 154, 0, 5, 2, 172, 42, 180, 0, 82, 27, 182, 0, 224, 153, 0, 6, 16, 245, 172, 42, 180, 0, 82, 27, 8, 182, 0, 227, 153, 0, 23, 42, 180, 0, 75, 42, 180, 0, 82, 180, 1, 194, 27, 46, 28, 182], [1, 197, 154, 0, 6, 16, 244, 172, 42, 180, 0, 82, 180, 1, 194, 27, 46, 172]] p := seg_gb (S := [[42, 180, 0, 82, 27, 182, 0, 221, 153, 0, 13, 28, 3, 16, 7, 184, 0, 113, 154, 0, 5, 2, 172, 42, 180, 0, 82, 27, 182, 0, 224, 153, 0, 6, 16, 245, 172, 42, 180, 0, 82, 27, 8, 182, 0, 227, 153, 0, 23, 42, 180, 0, 75, 42, 180, 0, 82, 180, 1, 194, 27, 46, 28, 182], [1, 197, 154, 0, 6, 16, 244, 172, 42, 180, 0, 82, 180, 1, 194, 27, 46, 172]]) (by decide +kernel) (by decide +kernel)
set_option maxRecDepth 20000 in
theorem BX11_taken_1_0 : ∀ q ∈ ([(0, 42), (4, 27), (11, 28), (12, 3), (21, 2), (22, 172), (23, 42), (27, 27), (36, 172), (37, 42), (41, 27), (42, 8)] : List (Nat × Nat)), gb cX11_taken q.1 = some q.2 := seg_1 SX11_taken _ (by decide +kernel)
set_option maxRecDepth 20000 in
theorem BX11_taken_1_1 : ∀ q ∈ ([(49, 42), (53, 42), (60, 27), (61, 46), (62, 28), (71, 172), (72, 42), (79, 27), (80, 46), (81, 172)] : List (Nat × Nat)), gb cX11_taken q.1 = some q.2 := seg_1 SX11_taken _ (by decide +kernel)
set_option maxRecDepth 20000 in
theorem BX11_taken_2_0 : ∀ q ∈ ([(13, 16, 7), (34, 16, 245), (69, 16, 244)] : List (Nat × Nat × Nat)), gb cX11_taken q.1 = some q.2.1 ∧ gb cX11_taken (q.1 + 1) = some q.2.2 := seg_2 SX11_taken _ (by decide +kernel)
set_option maxRecDepth 20000 in
theorem BX11_taken_3_0 : ∀ q ∈ ([(1, 180, 0, 82), (5, 182, 0, 221), (8, 153, 0, 13), (15, 184, 0, 113), (18, 154, 0, 5), (24, 180, 0, 82), (28, 182, 0, 224), (31, 153, 0, 6), (38, 180, 0, 82), (43, 182, 0, 227), (46, 153, 0, 23), (50, 180, 0, 75)] : List (Nat × Nat × Nat × Nat)), gb cX11_taken q.1 = some q.2.1 ∧ gb cX11_taken (q.1 + 1) = some q.2.2.1 ∧ gb cX11_taken (q.1 + 2) = some q.2.2.2 := seg_3 SX11_taken _ (by decide +kernel)
set_option maxRecDepth 20000 in
theorem BX11_taken_3_1 : ∀ q ∈ ([(54, 180, 0, 82), (57, 180, 1, 194), (63, 182, 1, 197), (66, 154, 0, 6), (73, 180, 0, 82), (76, 180, 1, 194)] : List (Nat × Nat × Nat × Nat)), gb cX11_taken q.1 = some q.2.1 ∧ gb cX11_taken (q.1 + 1) = some q.2.2.1 ∧ gb cX11_taken (q.1 + 2) = some q.2.2.2 := seg_3 SX11_taken _ (by decide +kernel)
theorem dX11_taken_0 : decode cX11_taken 0 = .ok (.aload_n 0, 1) := dk42 (BX11_taken_1_0 (0, 42) (List.mem_of_getElem? (i := 0) rfl))
theorem dX11_taken_1 : decode cX11_taken 1 = .ok (.getfield 82, 3) := dk180 0 82 (BX11_taken_3_0 (1, 180, 0, 82) (List.mem_of_getElem? (i := 0) rfl))
theorem dX11_taken_4 : decode cX11_taken 4 = .ok (.iload_n 1, 1) := dk27 (BX11_taken_1_0 (4, 27) (List.mem_of_getElem? (i := 1) rfl))
theorem dX11_taken_5 : decode cX11_taken 5 = .ok (.invokevirtual 221, 3) := dk182 0 221 (BX11_taken_3_0 (5, 182, 0, 221) (List.mem_of_getElem? (i := 1) rfl))
theorem dX11_taken_8 : decode cX11_taken 8 = .ok (.ifCond .eq 13, 3) := dk153 0 13 (BX11_taken_3_0 (8, 153, 0, 13) (List.mem_of_getElem? (i := 2) rfl))
theorem dX11_taken_11 : decode cX11_taken 11 = .ok (.iload_n 2, 1) := dk28 (BX11_taken_1_0 (11, 28) (List.mem_of_getElem? (i := 2) rfl))
theorem dX11_taken_12 : decode cX11_taken 12 = .ok (.iconst 0, 1) := dk3 (BX11_taken_1_0 (12, 3) (List.mem_of_getElem? (i := 3) rfl))
theorem dX11_taken_13 : decode cX11_taken 13 = .ok (.bipush 7, 2) := dk16 7 (BX11_taken_2_0 (13, 16, 7) (List.mem_of_getElem? (i := 0) rfl))
theorem dX11_taken_15 : decode cX11_taken 15 = .ok (.invokestatic 113, 3) := dk184 0 113 (BX11_taken_3_0 (15, 184, 0, 113) (List.mem_of_getElem? (i := 3) rfl))
theorem dX11_taken_18 : decode cX11_taken 18 = .ok (.ifCond .ne 5, 3) := dk154 0 5 (BX11_taken_3_0 (18, 154, 0, 5) (List.mem_of_getElem? (i := 4) rfl))
theorem dX11_taken_21 : decode cX11_taken 21 = .ok (.iconst (-1), 1) := dk2 (BX11_taken_1_0 (21, 2) (List.mem_of_getElem? (i := 4) rfl))
theorem dX11_taken_22 : decode cX11_taken 22 = .ok (.ireturn, 1) := dk172 (BX11_taken_1_0 (22, 172) (List.mem_of_getElem? (i := 5) rfl))
theorem dX11_taken_23 : decode cX11_taken 23 = .ok (.aload_n 0, 1) := dk42 (BX11_taken_1_0 (23, 42) (List.mem_of_getElem? (i := 6) rfl))
theorem dX11_taken_24 : decode cX11_taken 24 = .ok (.getfield 82, 3) := dk180 0 82 (BX11_taken_3_0 (24, 180, 0, 82) (List.mem_of_getElem? (i := 5) rfl))
theorem dX11_taken_27 : decode cX11_taken 27 = .ok (.iload_n 1, 1) := dk27 (BX11_taken_1_0 (27, 27) (List.mem_of_getElem? (i := 7) rfl))
theorem dX11_taken_28 : decode cX11_taken 28 = .ok (.invokevirtual 224, 3) := dk182 0 224 (BX11_taken_3_0 (28, 182, 0, 224) (List.mem_of_getElem? (i := 6) rfl))
theorem dX11_taken_31 : decode cX11_taken 31 = .ok (.ifCond .eq 6, 3) := dk153 0 6 (BX11_taken_3_0 (31, 153, 0, 6) (List.mem_of_getElem? (i := 7) rfl))
theorem dX11_taken_34 : decode cX11_taken 34 = .ok (.bipush (-11), 2) := dk16 245 (BX11_taken_2_0 (34, 16, 245) (List.mem_of_getElem? (i := 1) rfl))
theorem dX11_taken_36 : decode cX11_taken 36 = .ok (.ireturn, 1) := dk172 (BX11_taken_1_0 (36, 172) (List.mem_of_getElem? (i := 8) rfl))
theorem dX11_taken_37 : decode cX11_taken 37 = .ok (.aload_n 0, 1) := dk42 (BX11_taken_1_0 (37, 42) (List.mem_of_getElem? (i := 9) rfl))
theorem dX11_taken_38 : decode cX11_taken 38 = .ok (.getfield 82, 3) := dk180 0 82 (BX11_taken_3_0 (38, 180, 0, 82) (List.mem_of_getElem? (i := 8) rfl))
theorem dX11_taken_41 : decode cX11_taken 41 = .ok (.iload_n 1, 1) := dk27 (BX11_taken_1_0 (41, 27) (List.mem_of_getElem? (i := 10) rfl))
theorem dX11_taken_42 : decode cX11_taken 42 = .ok (.iconst 5, 1) := dk8 (BX11_taken_1_0 (42, 8) (List.mem_of_getElem? (i := 11) rfl))
theorem dX11_taken_43 : decode cX11_taken 43 = .ok (.invokevirtual 227, 3) := dk182 0 227 (BX11_taken_3_0 (43, 182, 0, 227) (List.mem_of_getElem? (i := 9) rfl))
theorem dX11_taken_46 : decode cX11_taken 46 = .ok (.ifCond .eq 23, 3) := dk153 0 23 (BX11_taken_3_0 (46, 153, 0, 23) (List.mem_of_getElem? (i := 10) rfl))
theorem dX11_taken_49 : decode cX11_taken 49 = .ok (.aload_n 0, 1) := dk42 (BX11_taken_1_1 (49, 42) (List.mem_of_getElem? (i := 0) rfl))
theorem dX11_taken_50 : decode cX11_taken 50 = .ok (.getfield 75, 3) := dk180 0 75 (BX11_taken_3_0 (50, 180, 0, 75) (List.mem_of_getElem? (i := 11) rfl))
theorem dX11_taken_53 : decode cX11_taken 53 = .ok (.aload_n 0, 1) := dk42 (BX11_taken_1_1 (53, 42) (List.mem_of_getElem? (i := 1) rfl))
theorem dX11_taken_54 : decode cX11_taken 54 = .ok (.getfield 82, 3) := dk180 0 82 (BX11_taken_3_1 (54, 180, 0, 82) (List.mem_of_getElem? (i := 0) rfl))
theorem dX11_taken_57 : decode cX11_taken 57 = .ok (.getfield 450, 3) := dk180 1 194 (BX11_taken_3_1 (57, 180, 1, 194) (List.mem_of_getElem? (i := 1) rfl))
theorem dX11_taken_60 : decode cX11_taken 60 = .ok (.iload_n 1, 1) := dk27 (BX11_taken_1_1 (60, 27) (List.mem_of_getElem? (i := 2) rfl))
theorem dX11_taken_61 : decode cX11_taken 61 = .ok (.iaload, 1) := dk46 (BX11_taken_1_1 (61, 46) (List.mem_of_getElem? (i := 3) rfl))
theorem dX11_taken_62 : decode cX11_taken 62 = .ok (.iload_n 2, 1) := dk28 (BX11_taken_1_1 (62, 28) (List.mem_of_getElem? (i := 4) rfl))
theorem dX11_taken_63 : decode cX11_taken 63 = .ok (.invokevirtual 453, 3) := dk182 1 197 (BX11_taken_3_1 (63, 182, 1, 197) (List.mem_of_getElem? (i := 2) rfl))
theorem dX11_taken_66 : decode cX11_taken 66 = .ok (.ifCond .ne 6, 3) := dk154 0 6 (BX11_taken_3_1 (66, 154, 0, 6) (List.mem_of_getElem? (i := 3) rfl))
theorem dX11_taken_69 : decode cX11_taken 69 = .ok (.bipush (-12), 2) := dk16 244 (BX11_taken_2_0 (69, 16, 244) (List.mem_of_getElem? (i := 2) rfl))
theorem dX11_taken_71 : decode cX11_taken 71 = .ok (.ireturn, 1) := dk172 (BX11_taken_1_1 (71, 172) (List.mem_of_getElem? (i := 5) rfl))
theorem dX11_taken_72 : decode cX11_taken 72 = .ok (.aload_n 0, 1) := dk42 (BX11_taken_1_1 (72, 42) (List.mem_of_getElem? (i := 6) rfl))
theorem dX11_taken_73 : decode cX11_taken 73 = .ok (.getfield 82, 3) := dk180 0 82 (BX11_taken_3_1 (73, 180, 0, 82) (List.mem_of_getElem? (i := 4) rfl))
theorem dX11_taken_76 : decode cX11_taken 76 = .ok (.getfield 450, 3) := dk180 1 194 (BX11_taken_3_1 (76, 180, 1, 194) (List.mem_of_getElem? (i := 5) rfl))
theorem dX11_taken_79 : decode cX11_taken 79 = .ok (.iload_n 1, 1) := dk27 (BX11_taken_1_1 (79, 27) (List.mem_of_getElem? (i := 7) rfl))
theorem dX11_taken_80 : decode cX11_taken 80 = .ok (.iaload, 1) := dk46 (BX11_taken_1_1 (80, 46) (List.mem_of_getElem? (i := 8) rfl))
theorem dX11_taken_81 : decode cX11_taken 81 = .ok (.ireturn, 1) := dk172 (BX11_taken_1_1 (81, 172) (List.mem_of_getElem? (i := 9) rfl))
set_option maxRecDepth 20000 in
theorem SX11_count : ∀ p : Nat, gb cX11_count p = segF [[27, 170, 0, 0, 0, 0, 0, 159, 0, 0, 0, 0, 0, 0, 0, 11, 0, 0, 0, 63, 0, 0, 0, 71, 0, 0, 0, 79, 0, 0, 0, 87, 0, 0, 0, 95, 0, 0, 0, 103, 0, 0, 0, 111, 0, 0, 0, 119, 0, 0, 0, 127, 0, 0, 0, 135, 0, 0, 0, 143, 0, 0, 0, 151], [42, 180, 0, 10, 180, 0, 147, 172, 42, 180, 0, 10, 180, 1, 200, 172, 42, 180, 0, 26, 180, 1, 203, 172, 42, 180, 0, 26, 180, 1, 204, 172, 42, 180, 0, 33, 180, 1, 207, 172, 42, 180, 0, 40, 180, 1, 208, 172, 42, 180, 0, 47, 180, 1, 209, 172, 42, 180, 0, 54, 180, 1, 49, 172], [42, 180, 0, 61, 180, 1, 74, 172, 42, 180, 0, 68, 180, 1, 109, 172, 42, 180, 0, 75, 180, 1, 210, 172, 42, 180, 0, 75, 180, 1, 211, 172, 2, 172]] p := seg_gb (S := [[27, 170, 0, 0, 0, 0, 0, 159, 0, 0, 0, 0, 0, 0, 0, 11, 0, 0, 0, 63, 0, 0, 0, 71, 0, 0, 0, 79, 0, 0, 0, 87, 0, 0, 0, 95, 0, 0, 0, 103, 0, 0, 0, 111, 0, 0, 0, 119, 0, 0, 0, 127, 0, 0, 0, 135, 0, 0, 0, 143, 0, 0, 0, 151], [42, 180, 0, 10, 180, 0, 147, 172, 42, 180, 0, 10, 180, 1, 200, 172, 42, 180, 0, 26, 180, 1, 203, 172, 42, 180, 0, 26, 180, 1, 204, 172, 42, 180, 0, 33, 180, 1, 207, 172, 42, 180, 0, 40, 180, 1, 208, 172, 42, 180, 0, 47, 180, 1, 209, 172, 42, 180, 0, 54, 180, 1, 49, 172], [42, 180, 0, 61, 180, 1, 74, 172, 42, 180, 0, 68, 180, 1, 109, 172, 42, 180, 0, 75, 180, 1, 210, 172, 42, 180, 0, 75, 180, 1, 211, 172, 2, 172]]) (by decide +kernel) (by decide +kernel)
set_option maxRecDepth 20000 in
theorem BX11_count_1_0 : ∀ q ∈ ([(0, 27), (64, 42), (71, 172), (72, 42), (79, 172), (80, 42), (87, 172), (88, 42), (95, 172), (96, 42), (103, 172), (104, 42)] : List (Nat × Nat)), gb cX11_count q.1 = some q.2 := seg_1 SX11_count _ (by decide +kernel)
set_option maxRecDepth 20000 in
theorem BX11_count_1_1 : ∀ q ∈ ([(111, 172), (112, 42), (119, 172), (120, 42), (127, 172), (128, 42), (135, 172), (136, 42), (143, 172), (144, 42), (151, 172), (152, 42)] : List (Nat × Nat)), gb cX11_count q.1 = some q.2 := seg_1 SX11_count _ (by decide +kernel)
set_option maxRecDepth 20000 in
theorem BX11_count_1_2 : ∀ q ∈ ([(159, 172), (160, 2), (161, 172)] : List (Nat × Nat)), gb cX11_count q.1 = some q.2 := seg_1 SX11_count _ (by decide +kernel)
set_option maxRecDepth 20000 in
theorem BX11_count_3_0 : ∀ q ∈ ([(65, 180, 0, 10), (68, 180, 0, 147), (73, 180, 0, 10), (76, 180, 1, 200), (81, 180, 0, 26), (84, 180, 1, 203), (89, 180, 0, 26), (92, 180, 1, 204), (97, 180, 0, 33), (100, 180, 1, 207), (105, 180, 0, 40), (108, 180, 1, 208)] : List (Nat × Nat × Nat × Nat)), gb cX11_count q.1 = some q.2.1 ∧ gb cX11_count (q.1 + 1) = some q.2.2.1 ∧ gb cX11_count (q.1 + 2) = some q.2.2.2 := seg_3 SX11_count _ (by decide +kernel)
set_option maxRecDepth 20000 in
theorem BX11_count_3_1 : ∀ q ∈ ([(113, 180, 0, 47), (116, 180, 1, 209), (121, 180, 0, 54), (124, 180, 1, 49), (129, 180, 0, 61), (132, 180, 1, 74), (137, 180, 0, 68), (140, 180, 1, 109), (145, 180, 0, 75), (148, 180, 1, 210), (153, 180, 0, 75), (156, 180, 1, 211)] : List (Nat × Nat × Nat × Nat)), gb cX11_count q.1 = some q.2.1 ∧ gb cX11_count (q.1 + 1) = some q.2.2.1 ∧ gb cX11_count (q.1 + 2) = some q.2.2.2 := seg_3 SX11_count _ (by decide +kernel)
theorem dX11_count_0 : decode cX11_count 0 = .ok (.iload_n 1, 1) := dk27 (BX11_count_1_0 (0, 27) (List.mem_of_getElem? (i := 0) rfl))
theorem dX11_count_1 : decode cX11_count 1 = .ok (.tableswitch 159 0 11 #[63, 71, 79, 87, 95, 103, 111, 119, 127, 135, 143, 151], 63) := by decide +kernel
theorem dX11_count_64 : decode cX11_count 64 = .ok (.aload_n 0, 1) := dk42 (BX11_count_1_0 (64, 42) (List.mem_of_getElem? (i := 1) rfl))
theorem dX11_count_65 : decode cX11_count 65 = .ok (.getfield 10, 3) := dk180 0 10 (BX11_count_3_0 (65, 180, 0, 10) (List.mem_of_getElem? (i := 0) rfl))
theorem dX11_count_68 : decode cX11_count 68 = .ok (.getfield 147, 3) := dk180 0 147 (BX11_count_3_0 (68, 180, 0, 147) (List.mem_of_getElem? (i := 1) rfl))
theorem dX11_count_71 : decode cX11_count 71 = .ok (.ireturn, 1) := dk172 (BX11_count_1_0 (71, 172) (List.mem_of_getElem? (i := 2) rfl))
theorem dX11_count_72 : decode cX11_count 72 = .ok (.aload_n 0, 1) := dk42 (BX11_count_1_0 (72, 42) (List.mem_of_getElem? (i := 3) rfl))
theorem dX11_count_73 : decode cX11_count 73 = .ok (.getfield 10, 3) := dk180 0 10 (BX11_count_3_0 (73, 180, 0, 10) (List.mem_of_getElem? (i := 2) rfl))
theorem dX11_count_76 : decode cX11_count 76 = .ok (.getfield 456, 3) := dk180 1 200 (BX11_count_3_0 (76, 180, 1, 200) (List.mem_of_getElem? (i := 3) rfl))
theorem dX11_count_79 : decode cX11_count 79 = .ok (.ireturn, 1) := dk172 (BX11_count_1_0 (79, 172) (List.mem_of_getElem? (i := 4) rfl))
theorem dX11_count_80 : decode cX11_count 80 = .ok (.aload_n 0, 1) := dk42 (BX11_count_1_0 (80, 42) (List.mem_of_getElem? (i := 5) rfl))
theorem dX11_count_81 : decode cX11_count 81 = .ok (.getfield 26, 3) := dk180 0 26 (BX11_count_3_0 (81, 180, 0, 26) (List.mem_of_getElem? (i := 4) rfl))
theorem dX11_count_84 : decode cX11_count 84 = .ok (.getfield 459, 3) := dk180 1 203 (BX11_count_3_0 (84, 180, 1, 203) (List.mem_of_getElem? (i := 5) rfl))
theorem dX11_count_87 : decode cX11_count 87 = .ok (.ireturn, 1) := dk172 (BX11_count_1_0 (87, 172) (List.mem_of_getElem? (i := 6) rfl))
theorem dX11_count_88 : decode cX11_count 88 = .ok (.aload_n 0, 1) := dk42 (BX11_count_1_0 (88, 42) (List.mem_of_getElem? (i := 7) rfl))
theorem dX11_count_89 : decode cX11_count 89 = .ok (.getfield 26, 3) := dk180 0 26 (BX11_count_3_0 (89, 180, 0, 26) (List.mem_of_getElem? (i := 6) rfl))
theorem dX11_count_92 : decode cX11_count 92 = .ok (.getfield 460, 3) := dk180 1 204 (BX11_count_3_0 (92, 180, 1, 204) (List.mem_of_getElem? (i := 7) rfl))
theorem dX11_count_95 : decode cX11_count 95 = .ok (.ireturn, 1) := dk172 (BX11_count_1_0 (95, 172) (List.mem_of_getElem? (i := 8) rfl))
theorem dX11_count_96 : decode cX11_count 96 = .ok (.aload_n 0, 1) := dk42 (BX11_count_1_0 (96, 42) (List.mem_of_getElem? (i := 9) rfl))
theorem dX11_count_97 : decode cX11_count 97 = .ok (.getfield 33, 3) := dk180 0 33 (BX11_count_3_0 (97, 180, 0, 33) (List.mem_of_getElem? (i := 8) rfl))
theorem dX11_count_100 : decode cX11_count 100 = .ok (.getfield 463, 3) := dk180 1 207 (BX11_count_3_0 (100, 180, 1, 207) (List.mem_of_getElem? (i := 9) rfl))
theorem dX11_count_103 : decode cX11_count 103 = .ok (.ireturn, 1) := dk172 (BX11_count_1_0 (103, 172) (List.mem_of_getElem? (i := 10) rfl))
theorem dX11_count_104 : decode cX11_count 104 = .ok (.aload_n 0, 1) := dk42 (BX11_count_1_0 (104, 42) (List.mem_of_getElem? (i := 11) rfl))
theorem dX11_count_105 : decode cX11_count 105 = .ok (.getfield 40, 3) := dk180 0 40 (BX11_count_3_0 (105, 180, 0, 40) (List.mem_of_getElem? (i := 10) rfl))
theorem dX11_count_108 : decode cX11_count 108 = .ok (.getfield 464, 3) := dk180 1 208 (BX11_count_3_0 (108, 180, 1, 208) (List.mem_of_getElem? (i := 11) rfl))
theorem dX11_count_111 : decode cX11_count 111 = .ok (.ireturn, 1) := dk172 (BX11_count_1_1 (111, 172) (List.mem_of_getElem? (i := 0) rfl))
theorem dX11_count_112 : decode cX11_count 112 = .ok (.aload_n 0, 1) := dk42 (BX11_count_1_1 (112, 42) (List.mem_of_getElem? (i := 1) rfl))
theorem dX11_count_113 : decode cX11_count 113 = .ok (.getfield 47, 3) := dk180 0 47 (BX11_count_3_1 (113, 180, 0, 47) (List.mem_of_getElem? (i := 0) rfl))
theorem dX11_count_116 : decode cX11_count 116 = .ok (.getfield 465, 3) := dk180 1 209 (BX11_count_3_1 (116, 180, 1, 209) (List.mem_of_getElem? (i := 1) rfl))
theorem dX11_count_119 : decode cX11_count 119 = .ok (.ireturn, 1) := dk172 (BX11_count_1_1 (119, 172) (List.mem_of_getElem? (i := 2) rfl))
theorem dX11_count_120 : decode cX11_count 120 = .ok (.aload_n 0, 1) := dk42 (BX11_count_1_1 (120, 42) (List.mem_of_getElem? (i := 3) rfl))
theorem dX11_count_121 : decode cX11_count 121 = .ok (.getfield 54, 3) := dk180 0 54 (BX11_count_3_1 (121, 180, 0, 54) (List.mem_of_getElem? (i := 2) rfl))
theorem dX11_count_124 : decode cX11_count 124 = .ok (.getfield 305, 3) := dk180 1 49 (BX11_count_3_1 (124, 180, 1, 49) (List.mem_of_getElem? (i := 3) rfl))
theorem dX11_count_127 : decode cX11_count 127 = .ok (.ireturn, 1) := dk172 (BX11_count_1_1 (127, 172) (List.mem_of_getElem? (i := 4) rfl))
theorem dX11_count_128 : decode cX11_count 128 = .ok (.aload_n 0, 1) := dk42 (BX11_count_1_1 (128, 42) (List.mem_of_getElem? (i := 5) rfl))
theorem dX11_count_129 : decode cX11_count 129 = .ok (.getfield 61, 3) := dk180 0 61 (BX11_count_3_1 (129, 180, 0, 61) (List.mem_of_getElem? (i := 4) rfl))
theorem dX11_count_132 : decode cX11_count 132 = .ok (.getfield 330, 3) := dk180 1 74 (BX11_count_3_1 (132, 180, 1, 74) (List.mem_of_getElem? (i := 5) rfl))
theorem dX11_count_135 : decode cX11_count 135 = .ok (.ireturn, 1) := dk172 (BX11_count_1_1 (135, 172) (List.mem_of_getElem? (i := 6) rfl))
theorem dX11_count_136 : decode cX11_count 136 = .ok (.aload_n 0, 1) := dk42 (BX11_count_1_1 (136, 42) (List.mem_of_getElem? (i := 7) rfl))
theorem dX11_count_137 : decode cX11_count 137 = .ok (.getfield 68, 3) := dk180 0 68 (BX11_count_3_1 (137, 180, 0, 68) (List.mem_of_getElem? (i := 6) rfl))
theorem dX11_count_140 : decode cX11_count 140 = .ok (.getfield 365, 3) := dk180 1 109 (BX11_count_3_1 (140, 180, 1, 109) (List.mem_of_getElem? (i := 7) rfl))
theorem dX11_count_143 : decode cX11_count 143 = .ok (.ireturn, 1) := dk172 (BX11_count_1_1 (143, 172) (List.mem_of_getElem? (i := 8) rfl))
theorem dX11_count_144 : decode cX11_count 144 = .ok (.aload_n 0, 1) := dk42 (BX11_count_1_1 (144, 42) (List.mem_of_getElem? (i := 9) rfl))
theorem dX11_count_145 : decode cX11_count 145 = .ok (.getfield 75, 3) := dk180 0 75 (BX11_count_3_1 (145, 180, 0, 75) (List.mem_of_getElem? (i := 8) rfl))
theorem dX11_count_148 : decode cX11_count 148 = .ok (.getfield 466, 3) := dk180 1 210 (BX11_count_3_1 (148, 180, 1, 210) (List.mem_of_getElem? (i := 9) rfl))
theorem dX11_count_151 : decode cX11_count 151 = .ok (.ireturn, 1) := dk172 (BX11_count_1_1 (151, 172) (List.mem_of_getElem? (i := 10) rfl))
theorem dX11_count_152 : decode cX11_count 152 = .ok (.aload_n 0, 1) := dk42 (BX11_count_1_1 (152, 42) (List.mem_of_getElem? (i := 11) rfl))
theorem dX11_count_153 : decode cX11_count 153 = .ok (.getfield 75, 3) := dk180 0 75 (BX11_count_3_1 (153, 180, 0, 75) (List.mem_of_getElem? (i := 10) rfl))
theorem dX11_count_156 : decode cX11_count 156 = .ok (.getfield 467, 3) := dk180 1 211 (BX11_count_3_1 (156, 180, 1, 211) (List.mem_of_getElem? (i := 11) rfl))
theorem dX11_count_159 : decode cX11_count 159 = .ok (.ireturn, 1) := dk172 (BX11_count_1_2 (159, 172) (List.mem_of_getElem? (i := 0) rfl))
theorem dX11_count_160 : decode cX11_count 160 = .ok (.iconst (-1), 1) := dk2 (BX11_count_1_2 (160, 2) (List.mem_of_getElem? (i := 1) rfl))
theorem dX11_count_161 : decode cX11_count 161 = .ok (.ireturn, 1) := dk172 (BX11_count_1_2 (161, 172) (List.mem_of_getElem? (i := 2) rfl))
