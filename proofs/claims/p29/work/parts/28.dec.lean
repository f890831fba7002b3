noncomputable def ch_wsX12_isSheet : List (List Cond) := [([.code yX12_isSheet cX12_isSheet 2 (some .boolean)] : List Cond), ([.fieldLink RX12 133 "OlderSkinModel" "sheets" "I", .methodLink RX12 136 yX12_within, .static yX12_within, .initialized RX12, .code yX12_within cX12_within 6 (some .boolean)] : List Cond), wsX120]
set_option maxRecDepth 20000 in
theorem ch_wsX12_isSheet_flat : ch_wsX12_isSheet.flatten = wsX12_isSheet := by
  simp only [ch_wsX12_isSheet, wsX12_isSheet, List.flatten_cons, List.flatten_nil, List.append_nil, List.nil_append, List.cons_append, List.append_assoc]
set_option maxRecDepth 20000 in
theorem gd_wsX12_isSheet : wsX12_isSheet.all goodWord = true := by decide +kernel
noncomputable def ch_wsX12_isHole : List (List Cond) := [([.code yX12_isHole cX12_isHole 2 (some .boolean)] : List Cond), ([.fieldLink RX12 140 "OlderSkinModel" "holes" "I", .methodLink RX12 136 yX12_within, .static yX12_within, .initialized RX12, .code yX12_within cX12_within 6 (some .boolean)] : List Cond), wsX120]
set_option maxRecDepth 20000 in
theorem ch_wsX12_isHole_flat : ch_wsX12_isHole.flatten = wsX12_isHole := by
  simp only [ch_wsX12_isHole, wsX12_isHole, List.flatten_cons, List.flatten_nil, List.append_nil, List.nil_append, List.cons_append, List.append_assoc]
set_option maxRecDepth 20000 in
theorem gd_wsX12_isHole : wsX12_isHole.all goodWord = true := by decide +kernel
noncomputable def ch_wsX12_sheet : List (List Cond) := [([.code yX12_sheet cX12_sheet 2 (some .int)] : List Cond), ([.fieldLink RX12 133 "OlderSkinModel" "sheets" "I", .fieldLink RX12 9 "OlderSkinModel" "may" "[I", .methodLink RX12 147 yX12_isYear, .static yX12_isYear, .initialized RX12, .code yX12_isYear cX12_isYear 1 (some .boolean), .constantLong RX12 143 (2000), .methodLink RX12 136 yX12_within, .static yX12_within, .code yX12_within cX12_within 6 (some .boolean)] : List Cond), wsX120]
set_option maxRecDepth 20000 in
theorem ch_wsX12_sheet_flat : ch_wsX12_sheet.flatten = wsX12_sheet := by
  simp only [ch_wsX12_sheet, wsX12_sheet, List.flatten_cons, List.flatten_nil, List.append_nil, List.nil_append, List.cons_append, List.append_assoc]
set_option maxRecDepth 20000 in
theorem gd_wsX12_sheet : wsX12_sheet.all goodWord = true := by decide +kernel
noncomputable def ch_wsX12_age : List (List Cond) := [([.code yX12_age cX12_age 3 (some .int)] : List Cond), ([.methodLink RX12 151 yX12_isSheet, .instanceMethod yX12_isSheet, .selects RX12 yX12_isSheet yX12_isSheet, .initialized RX12, .code yX12_isSheet cX12_isSheet 2 (some .boolean), .fieldLink RX12 133 "OlderSkinModel" "sheets" "I", .methodLink RX12 136 yX12_within, .static yX12_within, .code yX12_within cX12_within 6 (some .boolean), .methodLink RX12 147 yX12_isYear, .static yX12_isYear, .code yX12_isYear cX12_isYear 1 (some .boolean), .constantLong RX12 143 (2000), .methodLink RX12 154 yX12_becomes, .instanceMethod yX12_becomes, .selects RX12 yX12_becomes yX12_becomes, .code yX12_becomes cX12_becomes 5 (some .int), .fieldLink RX12 9 "OlderSkinModel" "may" "[I", .fieldLink RX12 127 "OlderSkinModel" "done" "I", .fieldLink RX12 13 "OlderSkinModel" "changeAt" "[I", .fieldLink RX12 16 "OlderSkinModel" "changeWas" "[I", .fieldLink RX12 19 "OlderSkinModel" "changeIs" "[I", .fieldLink RX12 130 "OlderSkinModel" "keptMany" "I"] : List Cond), wsX120]
set_option maxRecDepth 20000 in
theorem ch_wsX12_age_flat : ch_wsX12_age.flatten = wsX12_age := by
  simp only [ch_wsX12_age, wsX12_age, List.flatten_cons, List.flatten_nil, List.append_nil, List.nil_append, List.cons_append, List.append_assoc]
set_option maxRecDepth 20000 in
theorem gd_wsX12_age : wsX12_age.all goodWord = true := by decide +kernel
noncomputable def ch_wsX12_hole : List (List Cond) := [([.code yX12_hole cX12_hole 3 (some .int)] : List Cond), ([.constantLong RX12 158 (999), .fieldLink RX12 140 "OlderSkinModel" "holes" "I", .fieldLink RX12 22 "OlderSkinModel" "sheetOf" "[I", .fieldLink RX12 25 "OlderSkinModel" "placeOf" "[I", .methodLink RX12 151 yX12_isSheet, .instanceMethod yX12_isSheet, .selects RX12 yX12_isSheet yX12_isSheet, .initialized RX12, .code yX12_isSheet cX12_isSheet 2 (some .boolean), .fieldLink RX12 133 "OlderSkinModel" "sheets" "I", .methodLink RX12 136 yX12_within, .static yX12_within, .code yX12_within cX12_within 6 (some .boolean)] : List Cond), wsX120]
set_option maxRecDepth 20000 in
theorem ch_wsX12_hole_flat : ch_wsX12_hole.flatten = wsX12_hole := by
  simp only [ch_wsX12_hole, wsX12_hole, List.flatten_cons, List.flatten_nil, List.append_nil, List.nil_append, List.cons_append, List.append_assoc]
set_option maxRecDepth 20000 in
theorem gd_wsX12_hole : wsX12_hole.all goodWord = true := by decide +kernel
noncomputable def ch_wsX12_worms : List (List Cond) := [([.code yX12_worms cX12_worms 3 (some .int)] : List Cond), ([.fieldLink RX12 160 "OlderSkinModel" "worms" "I", .fieldLink RX12 34 "OlderSkinModel" "wormSheets" "[I", .methodLink RX12 163 yX12_isSlack, .static yX12_isSlack, .initialized RX12, .code yX12_isSlack cX12_isSlack 1 (some .boolean), .constantLong RX12 145 (99), .methodLink RX12 136 yX12_within, .static yX12_within, .code yX12_within cX12_within 6 (some .boolean), .methodLink RX12 166 yX12_findWorms, .instanceMethod yX12_findWorms, .selects RX12 yX12_findWorms yX12_findWorms, .code yX12_findWorms cX12_findWorms 8 none, .fieldLink RX12 140 "OlderSkinModel" "holes" "I", .fieldLink RX12 31 "OlderSkinModel" "wormOf" "[I", .fieldLink RX12 22 "OlderSkinModel" "sheetOf" "[I", .fieldLink RX12 25 "OlderSkinModel" "placeOf" "[I", .fieldLink RX12 28 "OlderSkinModel" "sorted" "[I"] : List Cond), wsX120]
set_option maxRecDepth 20000 in
theorem ch_wsX12_worms_flat : ch_wsX12_worms.flatten = wsX12_worms := by
  simp only [ch_wsX12_worms, wsX12_worms, List.flatten_cons, List.flatten_nil, List.append_nil, List.nil_append, List.cons_append, List.append_assoc]
set_option maxRecDepth 20000 in
theorem gd_wsX12_worms : wsX12_worms.all goodWord = true := by decide +kernel
noncomputable def ch_wsX12_led : List (List Cond) := [([.code yX12_led cX12_led 3 (some .int)] : List Cond), ([.fieldLink RX12 31 "OlderSkinModel" "wormOf" "[I", .methodLink RX12 170 yX12_isHole, .instanceMethod yX12_isHole, .selects RX12 yX12_isHole yX12_isHole, .initialized RX12, .code yX12_isHole cX12_isHole 2 (some .boolean), .fieldLink RX12 140 "OlderSkinModel" "holes" "I", .methodLink RX12 136 yX12_within, .static yX12_within, .code yX12_within cX12_within 6 (some .boolean), .methodLink RX12 163 yX12_isSlack, .static yX12_isSlack, .code yX12_isSlack cX12_isSlack 1 (some .boolean), .constantLong RX12 145 (99), .methodLink RX12 166 yX12_findWorms, .instanceMethod yX12_findWorms, .selects RX12 yX12_findWorms yX12_findWorms, .code yX12_findWorms cX12_findWorms 8 none, .fieldLink RX12 22 "OlderSkinModel" "sheetOf" "[I", .fieldLink RX12 25 "OlderSkinModel" "placeOf" "[I", .fieldLink RX12 28 "OlderSkinModel" "sorted" "[I", .fieldLink RX12 160 "OlderSkinModel" "worms" "I", .fieldLink RX12 34 "OlderSkinModel" "wormSheets" "[I"] : List Cond), wsX120]
set_option maxRecDepth 20000 in
theorem ch_wsX12_led_flat : ch_wsX12_led.flatten = wsX12_led := by
  simp only [ch_wsX12_led, wsX12_led, List.flatten_cons, List.flatten_nil, List.append_nil, List.nil_append, List.cons_append, List.append_assoc]
set_option maxRecDepth 20000 in
theorem gd_wsX12_led : wsX12_led.all goodWord = true := by decide +kernel
noncomputable def ch_wsX12_goFrom : List (List Cond) := [([.code yX12_goFrom cX12_goFrom 4 none] : List Cond), ([.fieldLink RX12 173 "OlderSkinModel" "laidMany" "I", .fieldLink RX12 176 "OlderSkinModel" "wanted" "I", .fieldLink RX12 179 "OlderSkinModel" "orderMany" "I", .fieldLink RX12 182 "OlderSkinModel" "firstOrder" "I", .fieldLink RX12 40 "OlderSkinModel" "sides" "[I", .fieldLink RX12 37 "OlderSkinModel" "laid" "[I", .fieldLink RX12 133 "OlderSkinModel" "sheets" "I", .methodLink RX12 185 yX12_lets, .instanceMethod yX12_lets, .selects RX12 yX12_lets yX12_lets, .initialized RX12, .code yX12_lets cX12_lets 6 (some .boolean), .fieldLink RX12 160 "OlderSkinModel" "worms" "I", .fieldLink RX12 34 "OlderSkinModel" "wormSheets" "[I", .methodLink RX12 189 yX12_goFrom, .instanceMethod yX12_goFrom, .selects RX12 yX12_goFrom yX12_goFrom] : List Cond), wsX120]
set_option maxRecDepth 20000 in
theorem ch_wsX12_goFrom_flat : ch_wsX12_goFrom.flatten = wsX12_goFrom := by
  simp only [ch_wsX12_goFrom, wsX12_goFrom, List.flatten_cons, List.flatten_nil, List.append_nil, List.nil_append, List.cons_append, List.append_assoc]
set_option maxRecDepth 20000 in
theorem gd_wsX12_goFrom : wsX12_goFrom.all goodWord = true := by decide +kernel
noncomputable def ch_wsX12_findOrders : List (List Cond) := [([.code yX12_findOrders cX12_findOrders 4 none] : List Cond), wsX12_findOrders_r1, wsX12_findOrders_r2, wsX120]
set_option maxRecDepth 20000 in
theorem ch_wsX12_findOrders_flat : ch_wsX12_findOrders.flatten = wsX12_findOrders := by
  simp only [ch_wsX12_findOrders, wsX12_findOrders, List.flatten_cons, List.flatten_nil, List.append_nil, List.nil_append, List.cons_append, List.append_assoc]
set_option maxRecDepth 20000 in
theorem gd_wsX12_findOrders : wsX12_findOrders.all goodWord = true := by decide +kernel
noncomputable def ch_wsX12_orders : List (List Cond) := [([.code yX12_orders cX12_orders 3 (some .int)] : List Cond), wsX12_orders_r1, wsX12_orders_r2, wsX120]
set_option maxRecDepth 20000 in
theorem ch_wsX12_orders_flat : ch_wsX12_orders.flatten = wsX12_orders := by
  simp only [ch_wsX12_orders, wsX12_orders, List.flatten_cons, List.flatten_nil, List.append_nil, List.nil_append, List.cons_append, List.append_assoc]
set_option maxRecDepth 20000 in
theorem gd_wsX12_orders : wsX12_orders.all goodWord = true := by decide +kernel
noncomputable def ch_wsX12_side : List (List Cond) := [([.code yX12_side cX12_side 5 (some .int)] : List Cond), wsX12_side_r1, wsX12_side_r2, wsX120]
set_option maxRecDepth 20000 in
theorem ch_wsX12_side_flat : ch_wsX12_side.flatten = wsX12_side := by
  simp only [ch_wsX12_side, wsX12_side, List.flatten_cons, List.flatten_nil, List.append_nil, List.nil_append, List.cons_append, List.append_assoc]
set_option maxRecDepth 20000 in
theorem gd_wsX12_side : wsX12_side.all goodWord = true := by decide +kernel
noncomputable def ch_wsX12_without : List (List Cond) := [([.code yX12_without cX12_without 3 (some .int)] : List Cond), wsX12_without_r1, wsX12_without_r2, wsX120]
set_option maxRecDepth 20000 in
theorem ch_wsX12_without_flat : ch_wsX12_without.flatten = wsX12_without := by
  simp only [ch_wsX12_without, wsX12_without, List.flatten_cons, List.flatten_nil, List.append_nil, List.nil_append, List.cons_append, List.append_assoc]
set_option maxRecDepth 20000 in
theorem gd_wsX12_without : wsX12_without.all goodWord = true := by decide +kernel
noncomputable def ch_wsX12_line : List (List Cond) := [([.code yX12_line cX12_line 3 (some .int)] : List Cond), ([.fieldLink RX12 200 "OlderSkinModel" "lines" "I", .fieldLink RX12 43 "OlderSkinModel" "lineSheet" "[I", .fieldLink RX12 46 "OlderSkinModel" "lineInk" "[I", .methodLink RX12 151 yX12_isSheet, .instanceMethod yX12_isSheet, .selects RX12 yX12_isSheet yX12_isSheet, .initialized RX12, .code yX12_isSheet cX12_isSheet 2 (some .boolean), .fieldLink RX12 133 "OlderSkinModel" "sheets" "I", .methodLink RX12 136 yX12_within, .static yX12_within, .code yX12_within cX12_within 6 (some .boolean), .methodLink RX12 197 yX12_isInk, .static yX12_isInk, .code yX12_isInk cX12_isInk 1 (some .boolean), .constantLong RX12 195 (5)] : List Cond), wsX120]
set_option maxRecDepth 20000 in
theorem ch_wsX12_line_flat : ch_wsX12_line.flatten = wsX12_line := by
  simp only [ch_wsX12_line, wsX12_line, List.flatten_cons, List.flatten_nil, List.append_nil, List.nil_append, List.cons_append, List.append_assoc]
set_option maxRecDepth 20000 in
theorem gd_wsX12_line : wsX12_line.all goodWord = true := by decide +kernel
noncomputable def ch_wsX12_mark : List (List Cond) := [([.code yX12_mark cX12_mark 4 (some .int)] : List Cond), ([.fieldLink RX12 200 "OlderSkinModel" "lines" "I", .fieldLink RX12 22 "OlderSkinModel" "sheetOf" "[I", .fieldLink RX12 43 "OlderSkinModel" "lineSheet" "[I", .fieldLink RX12 203 "OlderSkinModel" "marks" "I", .fieldLink RX12 49 "OlderSkinModel" "markLine" "[I", .fieldLink RX12 52 "OlderSkinModel" "markHole" "[I", .fieldLink RX12 55 "OlderSkinModel" "isOver" "[Z", .methodLink RX12 136 yX12_within, .static yX12_within, .initialized RX12, .code yX12_within cX12_within 6 (some .boolean), .methodLink RX12 170 yX12_isHole, .instanceMethod yX12_isHole, .selects RX12 yX12_isHole yX12_isHole, .code yX12_isHole cX12_isHole 2 (some .boolean), .fieldLink RX12 140 "OlderSkinModel" "holes" "I"] : List Cond), wsX120]
set_option maxRecDepth 20000 in
theorem ch_wsX12_mark_flat : ch_wsX12_mark.flatten = wsX12_mark := by
  simp only [ch_wsX12_mark, wsX12_mark, List.flatten_cons, List.flatten_nil, List.append_nil, List.nil_append, List.cons_append, List.append_assoc]
set_option maxRecDepth 20000 in
theorem gd_wsX12_mark : wsX12_mark.all goodWord = true := by decide +kernel
noncomputable def ch_wsX12_fight : List (List Cond) := [([.code yX12_fight cX12_fight 5 (some .int)] : List Cond), wsX12_fight_r1, wsX12_fight_r2, wsX120]
set_option maxRecDepth 20000 in
theorem ch_wsX12_fight_flat : ch_wsX12_fight.flatten = wsX12_fight := by
  simp only [ch_wsX12_fight, wsX12_fight, List.flatten_cons, List.flatten_nil, List.append_nil, List.nil_append, List.cons_append, List.append_assoc]
set_option maxRecDepth 20000 in
theorem gd_wsX12_fight : wsX12_fight.all goodWord = true := by decide +kernel
noncomputable def ch_wsX12_cameFirst : List (List Cond) := [([.code yX12_cameFirst cX12_cameFirst 4 (some .boolean)] : List Cond), ([.fieldLink RX12 160 "OlderSkinModel" "worms" "I", .methodLink RX12 206 yX12_has, .instanceMethod yX12_has, .selects RX12 yX12_has yX12_has, .initialized RX12, .code yX12_has cX12_has 7 (some .boolean), .fieldLink RX12 203 "OlderSkinModel" "marks" "I", .fieldLink RX12 31 "OlderSkinModel" "wormOf" "[I", .fieldLink RX12 52 "OlderSkinModel" "markHole" "[I", .fieldLink RX12 55 "OlderSkinModel" "isOver" "[Z", .fieldLink RX12 46 "OlderSkinModel" "lineInk" "[I", .fieldLink RX12 49 "OlderSkinModel" "markLine" "[I"] : List Cond), wsX120]
set_option maxRecDepth 20000 in
theorem ch_wsX12_cameFirst_flat : ch_wsX12_cameFirst.flatten = wsX12_cameFirst := by
  simp only [ch_wsX12_cameFirst, wsX12_cameFirst, List.flatten_cons, List.flatten_nil, List.append_nil, List.nil_append, List.cons_append, List.append_assoc]
set_option maxRecDepth 20000 in
theorem gd_wsX12_cameFirst : wsX12_cameFirst.all goodWord = true := by decide +kernel
noncomputable def ch_wsX12_firstInk : List (List Cond) := [([.code yX12_firstInk cX12_firstInk 4 (some .int)] : List Cond), ([.fieldLink RX12 200 "OlderSkinModel" "lines" "I", .fieldLink RX12 46 "OlderSkinModel" "lineInk" "[I", .methodLink RX12 210 yX12_cameFirst, .instanceMethod yX12_cameFirst, .selects RX12 yX12_cameFirst yX12_cameFirst, .initialized RX12, .code yX12_cameFirst cX12_cameFirst 4 (some .boolean), .fieldLink RX12 160 "OlderSkinModel" "worms" "I", .methodLink RX12 206 yX12_has, .instanceMethod yX12_has, .selects RX12 yX12_has yX12_has, .code yX12_has cX12_has 7 (some .boolean), .fieldLink RX12 203 "OlderSkinModel" "marks" "I", .fieldLink RX12 31 "OlderSkinModel" "wormOf" "[I", .fieldLink RX12 52 "OlderSkinModel" "markHole" "[I", .fieldLink RX12 55 "OlderSkinModel" "isOver" "[Z", .fieldLink RX12 49 "OlderSkinModel" "markLine" "[I"] : List Cond), wsX120]
set_option maxRecDepth 20000 in
theorem ch_wsX12_firstInk_flat : ch_wsX12_firstInk.flatten = wsX12_firstInk := by
  simp only [ch_wsX12_firstInk, wsX12_firstInk, List.flatten_cons, List.flatten_nil, List.append_nil, List.nil_append, List.cons_append, List.append_assoc]
set_option maxRecDepth 20000 in
theorem gd_wsX12_firstInk : wsX12_firstInk.all goodWord = true := by decide +kernel
noncomputable def ch_wsX12_ringOf : List (List Cond) := [([.code yX12_ringOf cX12_ringOf 3 (some .int)] : List Cond), ([.methodLink RX12 210 yX12_cameFirst, .instanceMethod yX12_cameFirst, .selects RX12 yX12_cameFirst yX12_cameFirst, .initialized RX12, .code yX12_cameFirst cX12_cameFirst 4 (some .boolean), .fieldLink RX12 160 "OlderSkinModel" "worms" "I", .methodLink RX12 206 yX12_has, .instanceMethod yX12_has, .selects RX12 yX12_has yX12_has, .code yX12_has cX12_has 7 (some .boolean), .fieldLink RX12 203 "OlderSkinModel" "marks" "I", .fieldLink RX12 31 "OlderSkinModel" "wormOf" "[I", .fieldLink RX12 52 "OlderSkinModel" "markHole" "[I", .fieldLink RX12 55 "OlderSkinModel" "isOver" "[Z", .fieldLink RX12 46 "OlderSkinModel" "lineInk" "[I", .fieldLink RX12 49 "OlderSkinModel" "markLine" "[I"] : List Cond), wsX120]
set_option maxRecDepth 20000 in
theorem ch_wsX12_ringOf_flat : ch_wsX12_ringOf.flatten = wsX12_ringOf := by
  simp only [ch_wsX12_ringOf, wsX12_ringOf, List.flatten_cons, List.flatten_nil, List.append_nil, List.nil_append, List.cons_append, List.append_assoc]
set_option maxRecDepth 20000 in
theorem gd_wsX12_ringOf : wsX12_ringOf.all goodWord = true := by decide +kernel
noncomputable def ch_wsX12_inks : List (List Cond) := [([.code yX12_inks cX12_inks 3 (some .int)] : List Cond), wsX12_inks_r1, wsX12_inks_r2, wsX120]
set_option maxRecDepth 20000 in
theorem ch_wsX12_inks_flat : ch_wsX12_inks.flatten = wsX12_inks := by
  simp only [ch_wsX12_inks, wsX12_inks, List.flatten_cons, List.flatten_nil, List.append_nil, List.nil_append, List.cons_append, List.append_assoc]
set_option maxRecDepth 20000 in
theorem gd_wsX12_inks : wsX12_inks.all goodWord = true := by decide +kernel
noncomputable def ch_wsX12_dot : List (List Cond) := [([.code yX12_dot cX12_dot 3 (some .int)] : List Cond), ([.fieldLink RX12 227 "OlderSkinModel" "dots" "I", .methodLink RX12 230 yX12_isDot, .static yX12_isDot, .initialized RX12, .code yX12_isDot cX12_isDot 3 (some .boolean), .constantLong RX12 221 (4), .constantLong RX12 223 (7), .constantLong RX12 225 (9999), .methodLink RX12 136 yX12_within, .static yX12_within, .code yX12_within cX12_within 6 (some .boolean), .methodLink RX12 234 yX12_adds, .instanceMethod yX12_adds, .selects RX12 yX12_adds yX12_adds, .code yX12_adds cX12_adds 4 none, .fieldLink RX12 59 "OlderSkinModel" "houseOf" "[I", .fieldLink RX12 62 "OlderSkinModel" "inkOf" "[I", .fieldLink RX12 9 "OlderSkinModel" "may" "[I"] : List Cond), wsX120]
set_option maxRecDepth 20000 in
theorem ch_wsX12_dot_flat : ch_wsX12_dot.flatten = wsX12_dot := by
  simp only [ch_wsX12_dot, wsX12_dot, List.flatten_cons, List.flatten_nil, List.append_nil, List.nil_append, List.cons_append, List.append_assoc]
set_option maxRecDepth 20000 in
theorem gd_wsX12_dot : wsX12_dot.all goodWord = true := by decide +kernel
noncomputable def ch_wsX12_mend : List (List Cond) := [([.code yX12_mend cX12_mend 3 (some .int)] : List Cond), ([.fieldLink RX12 227 "OlderSkinModel" "dots" "I", .constantLong RX12 225 (9999), .methodLink RX12 136 yX12_within, .static yX12_within, .initialized RX12, .code yX12_within cX12_within 6 (some .boolean), .methodLink RX12 154 yX12_becomes, .instanceMethod yX12_becomes, .selects RX12 yX12_becomes yX12_becomes, .code yX12_becomes cX12_becomes 5 (some .int), .fieldLink RX12 9 "OlderSkinModel" "may" "[I", .fieldLink RX12 127 "OlderSkinModel" "done" "I", .fieldLink RX12 13 "OlderSkinModel" "changeAt" "[I", .fieldLink RX12 16 "OlderSkinModel" "changeWas" "[I", .fieldLink RX12 19 "OlderSkinModel" "changeIs" "[I", .fieldLink RX12 130 "OlderSkinModel" "keptMany" "I"] : List Cond), wsX120]
set_option maxRecDepth 20000 in
theorem ch_wsX12_mend_flat : ch_wsX12_mend.flatten = wsX12_mend := by
  simp only [ch_wsX12_mend, wsX12_mend, List.flatten_cons, List.flatten_nil, List.append_nil, List.nil_append, List.cons_append, List.append_assoc]
set_option maxRecDepth 20000 in
theorem gd_wsX12_mend : wsX12_mend.all goodWord = true := by decide +kernel
noncomputable def ch_wsX12_dots : List (List Cond) := [([.code yX12_dots cX12_dots 7 (some .int)] : List Cond), wsX12_dots_r1, wsX12_dots_r2, wsX120]
set_option maxRecDepth 20000 in
theorem ch_wsX12_dots_flat : ch_wsX12_dots.flatten = wsX12_dots := by
  simp only [ch_wsX12_dots, wsX12_dots, List.flatten_cons, List.flatten_nil, List.append_nil, List.nil_append, List.cons_append, List.append_assoc]
set_option maxRecDepth 20000 in
theorem gd_wsX12_dots : wsX12_dots.all goodWord = true := by decide +kernel
noncomputable def ch_wsX12_meanOf : List (List Cond) := [([.code yX12_meanOf cX12_meanOf 8 (some .int)] : List Cond), ([.fieldLink RX12 227 "OlderSkinModel" "dots" "I", .fieldLink RX12 59 "OlderSkinModel" "houseOf" "[I", .fieldLink RX12 62 "OlderSkinModel" "inkOf" "[I", .fieldLink RX12 9 "OlderSkinModel" "may" "[I", .methodLink RX12 136 yX12_within, .static yX12_within, .initialized RX12, .code yX12_within cX12_within 6 (some .boolean)] : List Cond), wsX120]
set_option maxRecDepth 20000 in
theorem ch_wsX12_meanOf_flat : ch_wsX12_meanOf.flatten = wsX12_meanOf := by
  simp only [ch_wsX12_meanOf, wsX12_meanOf, List.flatten_cons, List.flatten_nil, List.append_nil, List.nil_append, List.cons_append, List.append_assoc]
set_option maxRecDepth 20000 in
theorem gd_wsX12_meanOf : wsX12_meanOf.all goodWord = true := by decide +kernel
noncomputable def ch_wsX12_mean : List (List Cond) := [([.code yX12_mean cX12_mean 2 (some .int)] : List Cond), ([.constantLong RX12 195 (5), .methodLink RX12 136 yX12_within, .static yX12_within, .initialized RX12, .code yX12_within cX12_within 6 (some .boolean), .methodLink RX12 243 yX12_meanOf, .instanceMethod yX12_meanOf, .selects RX12 yX12_meanOf yX12_meanOf, .code yX12_meanOf cX12_meanOf 8 (some .int), .fieldLink RX12 227 "OlderSkinModel" "dots" "I", .fieldLink RX12 59 "OlderSkinModel" "houseOf" "[I", .fieldLink RX12 62 "OlderSkinModel" "inkOf" "[I", .fieldLink RX12 9 "OlderSkinModel" "may" "[I"] : List Cond), wsX120]
set_option maxRecDepth 20000 in
theorem ch_wsX12_mean_flat : ch_wsX12_mean.flatten = wsX12_mean := by
  simp only [ch_wsX12_mean, wsX12_mean, List.flatten_cons, List.flatten_nil, List.append_nil, List.nil_append, List.cons_append, List.append_assoc]
set_option maxRecDepth 20000 in
theorem gd_wsX12_mean : wsX12_mean.all goodWord = true := by decide +kernel
noncomputable def ch_wsX12_odd : List (List Cond) := [([.code yX12_odd cX12_odd 5 (some .int)] : List Cond), ([.constantLong RX12 247 (6), .fieldLink RX12 227 "OlderSkinModel" "dots" "I", .fieldLink RX12 62 "OlderSkinModel" "inkOf" "[I", .fieldLink RX12 9 "OlderSkinModel" "may" "[I", .methodLink RX12 136 yX12_within, .static yX12_within, .initialized RX12, .code yX12_within cX12_within 6 (some .boolean)] : List Cond), wsX120]
set_option maxRecDepth 20000 in
theorem ch_wsX12_odd_flat : ch_wsX12_odd.flatten = wsX12_odd := by
  simp only [ch_wsX12_odd, wsX12_odd, List.flatten_cons, List.flatten_nil, List.append_nil, List.nil_append, List.cons_append, List.append_assoc]
set_option maxRecDepth 20000 in
theorem gd_wsX12_odd : wsX12_odd.all goodWord = true := by decide +kernel
noncomputable def ch_wsX12_chance : List (List Cond) := [([.code yX12_chance cX12_chance 12 (some .int)] : List Cond), ([.constantLong RX12 247 (6), .constantLong RX12 249 (50), .fieldLink RX12 227 "OlderSkinModel" "dots" "I", .fieldLink RX12 62 "OlderSkinModel" "inkOf" "[I", .fieldLink RX12 65 "OlderSkinModel" "dealt" "[I", .fieldLink RX12 9 "OlderSkinModel" "may" "[I", .fieldLink RX12 68 "OlderSkinModel" "isOwn" "[Z", .constant RX12 255 (1103515245), .methodLink RX12 136 yX12_within, .static yX12_within, .initialized RX12, .code yX12_within cX12_within 6 (some .boolean), .methodLink RX12 243 yX12_meanOf, .instanceMethod yX12_meanOf, .selects RX12 yX12_meanOf yX12_meanOf, .code yX12_meanOf cX12_meanOf 8 (some .int), .fieldLink RX12 59 "OlderSkinModel" "houseOf" "[I", .methodLink RX12 251 yX12_sumOwn, .instanceMethod yX12_sumOwn, .selects RX12 yX12_sumOwn yX12_sumOwn, .code yX12_sumOwn cX12_sumOwn 4 (some .int)] : List Cond), wsX120]
set_option maxRecDepth 20000 in
theorem ch_wsX12_chance_flat : ch_wsX12_chance.flatten = wsX12_chance := by
  simp only [ch_wsX12_chance, wsX12_chance, List.flatten_cons, List.flatten_nil, List.append_nil, List.nil_append, List.cons_append, List.append_assoc]
set_option maxRecDepth 20000 in
theorem gd_wsX12_chance : wsX12_chance.all goodWord = true := by decide +kernel
noncomputable def ch_wsX12_chosen : List (List Cond) := [([.code yX12_chosen cX12_chosen 4 (some .int)] : List Cond), ([.constantLong RX12 221 (4), .constant RX12 256 (-2000000000), .methodLink RX12 136 yX12_within, .static yX12_within, .initialized RX12, .code yX12_within cX12_within 6 (some .boolean), .methodLink RX12 243 yX12_meanOf, .instanceMethod yX12_meanOf, .selects RX12 yX12_meanOf yX12_meanOf, .code yX12_meanOf cX12_meanOf 8 (some .int), .fieldLink RX12 227 "OlderSkinModel" "dots" "I", .fieldLink RX12 59 "OlderSkinModel" "houseOf" "[I", .fieldLink RX12 62 "OlderSkinModel" "inkOf" "[I", .fieldLink RX12 9 "OlderSkinModel" "may" "[I"] : List Cond), wsX120]
set_option maxRecDepth 20000 in
theorem ch_wsX12_chosen_flat : ch_wsX12_chosen.flatten = wsX12_chosen := by
  simp only [ch_wsX12_chosen, wsX12_chosen, List.flatten_cons, List.flatten_nil, List.append_nil, List.nil_append, List.cons_append, List.append_assoc]
set_option maxRecDepth 20000 in
theorem gd_wsX12_chosen : wsX12_chosen.all goodWord = true := by decide +kernel
noncomputable def ch_wsX12_made : List (List Cond) := [([.code yX12_made cX12_made 4 (some .int)] : List Cond), ([.constantLong RX12 257 (2001), .constantLong RX12 225 (9999), .fieldLink RX12 120 "OlderSkinModel" "madeIn" "I", .fieldLink RX12 124 "OlderSkinModel" "bound" "I", .methodLink RX12 136 yX12_within, .static yX12_within, .initialized RX12, .code yX12_within cX12_within 6 (some .boolean)] : List Cond), wsX120]
set_option maxRecDepth 20000 in
theorem ch_wsX12_made_flat : ch_wsX12_made.flatten = wsX12_made := by
  simp only [ch_wsX12_made, wsX12_made, List.flatten_cons, List.flatten_nil, List.append_nil, List.nil_append, List.cons_append, List.append_assoc]
set_option maxRecDepth 20000 in
theorem gd_wsX12_made : wsX12_made.all goodWord = true := by decide +kernel
noncomputable def ch_wsX12_doesBar : List (List Cond) := [([.code yX12_doesBar cX12_doesBar 3 (some .boolean)] : List Cond), ([.fieldLink RX12 120 "OlderSkinModel" "madeIn" "I", .fieldLink RX12 124 "OlderSkinModel" "bound" "I", .methodLink RX12 243 yX12_meanOf, .instanceMethod yX12_meanOf, .selects RX12 yX12_meanOf yX12_meanOf, .initialized RX12, .code yX12_meanOf cX12_meanOf 8 (some .int), .fieldLink RX12 227 "OlderSkinModel" "dots" "I", .fieldLink RX12 59 "OlderSkinModel" "houseOf" "[I", .fieldLink RX12 62 "OlderSkinModel" "inkOf" "[I", .fieldLink RX12 9 "OlderSkinModel" "may" "[I", .methodLink RX12 136 yX12_within, .static yX12_within, .code yX12_within cX12_within 6 (some .boolean)] : List Cond), wsX120]
set_option maxRecDepth 20000 in
theorem ch_wsX12_doesBar_flat : ch_wsX12_doesBar.flatten = wsX12_doesBar := by
  simp only [ch_wsX12_doesBar, wsX12_doesBar, List.flatten_cons, List.flatten_nil, List.append_nil, List.nil_append, List.cons_append, List.append_assoc]
set_option maxRecDepth 20000 in
theorem gd_wsX12_doesBar : wsX12_doesBar.all goodWord = true := by decide +kernel
noncomputable def ch_wsX12_bars : List (List Cond) := [([.code yX12_bars cX12_bars 3 (some .int)] : List Cond), wsX12_bars_r1, wsX12_bars_r2, wsX120]
set_option maxRecDepth 20000 in
theorem ch_wsX12_bars_flat : ch_wsX12_bars.flatten = wsX12_bars := by
  simp only [ch_wsX12_bars, wsX12_bars, List.flatten_cons, List.flatten_nil, List.append_nil, List.nil_append, List.cons_append, List.append_assoc]
set_option maxRecDepth 20000 in
theorem gd_wsX12_bars : wsX12_bars.all goodWord = true := by decide +kernel
noncomputable def ch_wsX12_place : List (List Cond) := [([.code yX12_place cX12_place 4 (some .int)] : List Cond), ([.constantLong RX12 225 (9999), .fieldLink RX12 262 "OlderSkinModel" "places" "I", .fieldLink RX12 71 "OlderSkinModel" "known" "[I", .fieldLink RX12 74 "OlderSkinModel" "truly" "[I", .fieldLink RX12 77 "OlderSkinModel" "drawn" "[I", .methodLink RX12 147 yX12_isYear, .static yX12_isYear, .initialized RX12, .code yX12_isYear cX12_isYear 1 (some .boolean), .constantLong RX12 143 (2000), .methodLink RX12 136 yX12_within, .static yX12_within, .code yX12_within cX12_within 6 (some .boolean)] : List Cond), wsX120]
set_option maxRecDepth 20000 in
theorem ch_wsX12_place_flat : ch_wsX12_place.flatten = wsX12_place := by
  simp only [ch_wsX12_place, wsX12_place, List.flatten_cons, List.flatten_nil, List.append_nil, List.nil_append, List.cons_append, List.append_assoc]
set_option maxRecDepth 20000 in
theorem gd_wsX12_place : wsX12_place.all goodWord = true := by decide +kernel
noncomputable def ch_wsX12_lateOff : List (List Cond) := [([.code yX12_lateOff cX12_lateOff 4 (some .int)] : List Cond), ([.fieldLink RX12 262 "OlderSkinModel" "places" "I", .fieldLink RX12 71 "OlderSkinModel" "known" "[I", .fieldLink RX12 74 "OlderSkinModel" "truly" "[I", .fieldLink RX12 77 "OlderSkinModel" "drawn" "[I", .methodLink RX12 268 yX12_apart, .static yX12_apart, .initialized RX12, .code yX12_apart cX12_apart 2 (some .int), .methodLink RX12 265 yX12_size, .static yX12_size, .code yX12_size cX12_size 1 (some .int)] : List Cond), wsX120]
set_option maxRecDepth 20000 in
theorem ch_wsX12_lateOff_flat : ch_wsX12_lateOff.flatten = wsX12_lateOff := by
  simp only [ch_wsX12_lateOff, wsX12_lateOff, List.flatten_cons, List.flatten_nil, List.append_nil, List.nil_append, List.cons_append, List.append_assoc]
set_option maxRecDepth 20000 in
theorem gd_wsX12_lateOff : wsX12_lateOff.all goodWord = true := by decide +kernel
noncomputable def ch_wsX12_late : List (List Cond) := [([.code yX12_late cX12_late 3 (some .int)] : List Cond), wsX12_late_r1, wsX12_late_r2, wsX120]
set_option maxRecDepth 20000 in
theorem ch_wsX12_late_flat : ch_wsX12_late.flatten = wsX12_late := by
  simp only [ch_wsX12_late, wsX12_late, List.flatten_cons, List.flatten_nil, List.append_nil, List.nil_append, List.cons_append, List.append_assoc]
set_option maxRecDepth 20000 in
theorem gd_wsX12_late : wsX12_late.all goodWord = true := by decide +kernel
noncomputable def ch_wsX12_well : List (List Cond) := [([.code yX12_well cX12_well 11 (some .int)] : List Cond), wsX12_well_r1, wsX12_well_r2, wsX120]
set_option maxRecDepth 20000 in
theorem ch_wsX12_well_flat : ch_wsX12_well.flatten = wsX12_well := by
  simp only [ch_wsX12_well, wsX12_well, List.flatten_cons, List.flatten_nil, List.append_nil, List.nil_append, List.cons_append, List.append_assoc]
set_option maxRecDepth 20000 in
theorem gd_wsX12_well : wsX12_well.all goodWord = true := by decide +kernel
set_option maxRecDepth 20000 in
theorem SX12_within : ∀ p : Nat, gb cX12_within p = segF [[30, 32, 148, 155, 0, 14, 30, 22, 4, 148, 157, 0, 7, 4, 167, 0, 4, 3, 172]] p := seg_gb (S := [[30, 32, 148, 155, 0, 14, 30, 22, 4, 148, 157, 0, 7, 4, 167, 0, 4, 3, 172]]) (by decide +kernel) (by decide +kernel)
set_option maxRecDepth 20000 in
theorem BX12_within_1_0 : ∀ q ∈ ([(0, 30), (1, 32), (2, 148), (6, 30), (9, 148), (13, 4), (17, 3), (18, 172)] : List (Nat × Nat)), gb cX12_within q.1 = some q.2 := seg_1 SX12_within _ (by decide +kernel)
set_option maxRecDepth 20000 in
theorem BX12_within_2_0 : ∀ q ∈ ([(7, 22, 4)] : List (Nat × Nat × Nat)), gb cX12_within q.1 = some q.2.1 ∧ gb cX12_within (q.1 + 1) = some q.2.2 := seg_2 SX12_within _ (by decide +kernel)
set_option maxRecDepth 20000 in
theorem BX12_within_3_0 : ∀ q ∈ ([(3, 155, 0, 14), (10, 157, 0, 7), (14, 167, 0, 4)] : List (Nat × Nat × Nat × Nat)), gb cX12_within q.1 = some q.2.1 ∧ gb cX12_within (q.1 + 1) = some q.2.2.1 ∧ gb cX12_within (q.1 + 2) = some q.2.2.2 := seg_3 SX12_within _ (by decide +kernel)
theorem dX12_within_0 : decode cX12_within 0 = .ok (.lload_n 0, 1) := dk30 (BX12_within_1_0 (0, 30) (List.mem_of_getElem? (i := 0) rfl))
theorem dX12_within_1 : decode cX12_within 1 = .ok (.lload_n 2, 1) := dk32 (BX12_within_1_0 (1, 32) (List.mem_of_getElem? (i := 1) rfl))
theorem dX12_within_2 : decode cX12_within 2 = .ok (.lcmp, 1) := dk148 (BX12_within_1_0 (2, 148) (List.mem_of_getElem? (i := 2) rfl))
theorem dX12_within_3 : decode cX12_within 3 = .ok (.ifCond .lt 14, 3) := dk155 0 14 (BX12_within_3_0 (3, 155, 0, 14) (List.mem_of_getElem? (i := 0) rfl))
theorem dX12_within_6 : decode cX12_within 6 = .ok (.lload_n 0, 1) := dk30 (BX12_within_1_0 (6, 30) (List.mem_of_getElem? (i := 3) rfl))
theorem dX12_within_7 : decode cX12_within 7 = .ok (.lload 4, 2) := dk22 4 (BX12_within_2_0 (7, 22, 4) (List.mem_of_getElem? (i := 0) rfl))
theorem dX12_within_9 : decode cX12_within 9 = .ok (.lcmp, 1) := dk148 (BX12_within_1_0 (9, 148) (List.mem_of_getElem? (i := 4) rfl))
theorem dX12_within_10 : decode cX12_within 10 = .ok (.ifCond .gt 7, 3) := dk157 0 7 (BX12_within_3_0 (10, 157, 0, 7) (List.mem_of_getElem? (i := 1) rfl))
theorem dX12_within_13 : decode cX12_within 13 = .ok (.iconst 1, 1) := dk4 (BX12_within_1_0 (13, 4) (List.mem_of_getElem? (i := 5) rfl))
theorem dX12_within_14 : decode cX12_within 14 = .ok (.goto 4, 3) := dk167 0 4 (BX12_within_3_0 (14, 167, 0, 4) (List.mem_of_getElem? (i := 2) rfl))
theorem dX12_within_17 : decode cX12_within 17 = .ok (.iconst 0, 1) := dk3 (BX12_within_1_0 (17, 3) (List.mem_of_getElem? (i := 6) rfl))
theorem dX12_within_18 : decode cX12_within 18 = .ok (.ireturn, 1) := dk172 (BX12_within_1_0 (18, 172) (List.mem_of_getElem? (i := 7) rfl))
set_option maxRecDepth 20000 in
theorem SX12_size : ∀ p : Nat, gb cX12_size p = segF [[26, 156, 0, 8, 26, 116, 167, 0, 4, 26, 172]] p := seg_gb (S := [[26, 156, 0, 8, 26, 116, 167, 0, 4, 26, 172]]) (by decide +kernel) (by decide +kernel)
set_option maxRecDepth 20000 in
theorem BX12_size_1_0 : ∀ q ∈ ([(0, 26), (4, 26), (5, 116), (9, 26), (10, 172)] : List (Nat × Nat)), gb cX12_size q.1 = some q.2 := seg_1 SX12_size _ (by decide +kernel)
set_option maxRecDepth 20000 in
theorem BX12_size_3_0 : ∀ q ∈ ([(1, 156, 0, 8), (6, 167, 0, 4)] : List (Nat × Nat × Nat × Nat)), gb cX12_size q.1 = some q.2.1 ∧ gb cX12_size (q.1 + 1) = some q.2.2.1 ∧ gb cX12_size (q.1 + 2) = some q.2.2.2 := seg_3 SX12_size _ (by decide +kernel)
theorem dX12_size_0 : decode cX12_size 0 = .ok (.iload_n 0, 1) := dk26 (BX12_size_1_0 (0, 26) (List.mem_of_getElem? (i := 0) rfl))
theorem dX12_size_1 : decode cX12_size 1 = .ok (.ifCond .ge 8, 3) := dk156 0 8 (BX12_size_3_0 (1, 156, 0, 8) (List.mem_of_getElem? (i := 0) rfl))
theorem dX12_size_4 : decode cX12_size 4 = .ok (.iload_n 0, 1) := dk26 (BX12_size_1_0 (4, 26) (List.mem_of_getElem? (i := 1) rfl))
theorem dX12_size_5 : decode cX12_size 5 = .ok (.ineg, 1) := dk116 (BX12_size_1_0 (5, 116) (List.mem_of_getElem? (i := 2) rfl))
theorem dX12_size_6 : decode cX12_size 6 = .ok (.goto 4, 3) := dk167 0 4 (BX12_size_3_0 (6, 167, 0, 4) (List.mem_of_getElem? (i := 1) rfl))
theorem dX12_size_9 : decode cX12_size 9 = .ok (.iload_n 0, 1) := dk26 (BX12_size_1_0 (9, 26) (List.mem_of_getElem? (i := 3) rfl))
theorem dX12_size_10 : decode cX12_size 10 = .ok (.ireturn, 1) := dk172 (BX12_size_1_0 (10, 172) (List.mem_of_getElem? (i := 4) rfl))
set_option maxRecDepth 20000 in
theorem SX12_bitsOf : ∀ p : Nat, gb cX12_bitsOf p = segF [[3, 60, 26, 61, 28, 153, 0, 15, 132, 1, 1, 28, 28, 4, 100, 126, 61, 167, 255, 243, 27, 172]] p := seg_gb (S := [[3, 60, 26, 61, 28, 153, 0, 15, 132, 1, 1, 28, 28, 4, 100, 126, 61, 167, 255, 243, 27, 172]]) (by decide +kernel) (by decide +kernel)
set_option maxRecDepth 20000 in
theorem BX12_bitsOf_1_0 : ∀ q ∈ ([(0, 3), (1, 60), (2, 26), (3, 61), (4, 28), (11, 28), (12, 28), (13, 4), (14, 100), (15, 126), (16, 61), (20, 27)] : List (Nat × Nat)), gb cX12_bitsOf q.1 = some q.2 := seg_1 SX12_bitsOf _ (by decide +kernel)
set_option maxRecDepth 20000 in
theorem BX12_bitsOf_1_1 : ∀ q ∈ ([(21, 172)] : List (Nat × Nat)), gb cX12_bitsOf q.1 = some q.2 := seg_1 SX12_bitsOf _ (by decide +kernel)
set_option maxRecDepth 20000 in
theorem BX12_bitsOf_3_0 : ∀ q ∈ ([(5, 153, 0, 15), (8, 132, 1, 1), (17, 167, 255, 243)] : List (Nat × Nat × Nat × Nat)), gb cX12_bitsOf q.1 = some q.2.1 ∧ gb cX12_bitsOf (q.1 + 1) = some q.2.2.1 ∧ gb cX12_bitsOf (q.1 + 2) = some q.2.2.2 := seg_3 SX12_bitsOf _ (by decide +kernel)
theorem dX12_bitsOf_0 : decode cX12_bitsOf 0 = .ok (.iconst 0, 1) := dk3 (BX12_bitsOf_1_0 (0, 3) (List.mem_of_getElem? (i := 0) rfl))
theorem dX12_bitsOf_1 : decode cX12_bitsOf 1 = .ok (.istore_n 1, 1) := dk60 (BX12_bitsOf_1_0 (1, 60) (List.mem_of_getElem? (i := 1) rfl))
theorem dX12_bitsOf_2 : decode cX12_bitsOf 2 = .ok (.iload_n 0, 1) := dk26 (BX12_bitsOf_1_0 (2, 26) (List.mem_of_getElem? (i := 2) rfl))
theorem dX12_bitsOf_3 : decode cX12_bitsOf 3 = .ok (.istore_n 2, 1) := dk61 (BX12_bitsOf_1_0 (3, 61) (List.mem_of_getElem? (i := 3) rfl))
theorem dX12_bitsOf_4 : decode cX12_bitsOf 4 = .ok (.iload_n 2, 1) := dk28 (BX12_bitsOf_1_0 (4, 28) (List.mem_of_getElem? (i := 4) rfl))
theorem dX12_bitsOf_5 : decode cX12_bitsOf 5 = .ok (.ifCond .eq 15, 3) := dk153 0 15 (BX12_bitsOf_3_0 (5, 153, 0, 15) (List.mem_of_getElem? (i := 0) rfl))
theorem dX12_bitsOf_8 : decode cX12_bitsOf 8 = .ok (.iinc 1 1, 3) := dk132 1 1 (BX12_bitsOf_3_0 (8, 132, 1, 1) (List.mem_of_getElem? (i := 1) rfl))
theorem dX12_bitsOf_11 : decode cX12_bitsOf 11 = .ok (.iload_n 2, 1) := dk28 (BX12_bitsOf_1_0 (11, 28) (List.mem_of_getElem? (i := 5) rfl))
theorem dX12_bitsOf_12 : decode cX12_bitsOf 12 = .ok (.iload_n 2, 1) := dk28 (BX12_bitsOf_1_0 (12, 28) (List.mem_of_getElem? (i := 6) rfl))
theorem dX12_bitsOf_13 : decode cX12_bitsOf 13 = .ok (.iconst 1, 1) := dk4 (BX12_bitsOf_1_0 (13, 4) (List.mem_of_getElem? (i := 7) rfl))
theorem dX12_bitsOf_14 : decode cX12_bitsOf 14 = .ok (.isub, 1) := dk100 (BX12_bitsOf_1_0 (14, 100) (List.mem_of_getElem? (i := 8) rfl))
theorem dX12_bitsOf_15 : decode cX12_bitsOf 15 = .ok (.iand, 1) := dk126 (BX12_bitsOf_1_0 (15, 126) (List.mem_of_getElem? (i := 9) rfl))
theorem dX12_bitsOf_16 : decode cX12_bitsOf 16 = .ok (.istore_n 2, 1) := dk61 (BX12_bitsOf_1_0 (16, 61) (List.mem_of_getElem? (i := 10) rfl))
theorem dX12_bitsOf_17 : decode cX12_bitsOf 17 = .ok (.goto (-13), 3) := dk167 255 243 (BX12_bitsOf_3_0 (17, 167, 255, 243) (List.mem_of_getElem? (i := 2) rfl))
theorem dX12_bitsOf_20 : decode cX12_bitsOf 20 = .ok (.iload_n 1, 1) := dk27 (BX12_bitsOf_1_0 (20, 27) (List.mem_of_getElem? (i := 11) rfl))
theorem dX12_bitsOf_21 : decode cX12_bitsOf 21 = .ok (.ireturn, 1) := dk172 (BX12_bitsOf_1_1 (21, 172) (List.mem_of_getElem? (i := 0) rfl))
set_option maxRecDepth 20000 in
theorem SX12_becomes : ∀ p : Nat, gb cX12_becomes p = segF [[42, 180, 0, 9, 27, 46, 62, 29, 28, 160, 0, 5, 29, 172, 42, 180, 0, 127, 16, 40, 160, 0, 77, 4, 54, 4, 21, 4, 16, 40, 162, 0, 57, 42, 180, 0, 13, 21, 4, 4, 100, 42, 180, 0, 13, 21, 4, 46, 79, 42, 180, 0, 16, 21, 4, 4, 100, 42, 180, 0, 16, 21, 4, 46], [79, 42, 180, 0, 19, 21, 4, 4, 100, 42, 180, 0, 19, 21, 4, 46, 79, 132, 4, 1, 167, 255, 198, 42, 89, 180, 0, 127, 4, 100, 181, 0, 127, 42, 180, 0, 13, 42, 180, 0, 127, 27, 79, 42, 180, 0, 16, 42, 180, 0, 127, 29, 79, 42, 180, 0, 19, 42, 180, 0, 127, 28, 79, 42], [89, 180, 0, 127, 4, 96, 181, 0, 127, 42, 42, 180, 0, 127, 181, 0, 130, 42, 180, 0, 9, 27, 28, 79, 29, 172]] p := seg_gb (S := [[42, 180, 0, 9, 27, 46, 62, 29, 28, 160, 0, 5, 29, 172, 42, 180, 0, 127, 16, 40, 160, 0, 77, 4, 54, 4, 21, 4, 16, 40, 162, 0, 57, 42, 180, 0, 13, 21, 4, 4, 100, 42, 180, 0, 13, 21, 4, 46, 79, 42, 180, 0, 16, 21, 4, 4, 100, 42, 180, 0, 16, 21, 4, 46], [79, 42, 180, 0, 19, 21, 4, 4, 100, 42, 180, 0, 19, 21, 4, 46, 79, 132, 4, 1, 167, 255, 198, 42, 89, 180, 0, 127, 4, 100, 181, 0, 127, 42, 180, 0, 13, 42, 180, 0, 127, 27, 79, 42, 180, 0, 16, 42, 180, 0, 127, 29, 79, 42, 180, 0, 19, 42, 180, 0, 127, 28, 79, 42], [89, 180, 0, 127, 4, 96, 181, 0, 127, 42, 42, 180, 0, 127, 181, 0, 130, 42, 180, 0, 9, 27, 28, 79, 29, 172]]) (by decide +kernel) (by decide +kernel)
set_option maxRecDepth 20000 in
theorem BX12_becomes_1_0 : ∀ q ∈ ([(0, 42), (4, 27), (5, 46), (6, 62), (7, 29), (8, 28), (12, 29), (13, 172), (14, 42), (23, 4), (33, 42), (39, 4)] : List (Nat × Nat)), gb cX12_becomes q.1 = some q.2 := seg_1 SX12_becomes _ (by decide +kernel)
set_option maxRecDepth 20000 in
theorem BX12_becomes_1_1 : ∀ q ∈ ([(40, 100), (41, 42), (47, 46), (48, 79), (49, 42), (55, 4), (56, 100), (57, 42), (63, 46), (64, 79), (65, 42), (71, 4)] : List (Nat × Nat)), gb cX12_becomes q.1 = some q.2 := seg_1 SX12_becomes _ (by decide +kernel)
set_option maxRecDepth 20000 in
theorem BX12_becomes_1_2 : ∀ q ∈ ([(72, 100), (73, 42), (79, 46), (80, 79), (87, 42), (88, 89), (92, 4), (93, 100), (97, 42), (101, 42), (105, 27), (106, 79)] : List (Nat × Nat)), gb cX12_becomes q.1 = some q.2 := seg_1 SX12_becomes _ (by decide +kernel)
set_option maxRecDepth 20000 in
theorem BX12_becomes_1_3 : ∀ q ∈ ([(107, 42), (111, 42), (115, 29), (116, 79), (117, 42), (121, 42), (125, 28), (126, 79), (127, 42), (128, 89), (132, 4), (133, 96)] : List (Nat × Nat)), gb cX12_becomes q.1 = some q.2 := seg_1 SX12_becomes _ (by decide +kernel)
set_option maxRecDepth 20000 in
theorem BX12_becomes_1_4 : ∀ q ∈ ([(137, 42), (138, 42), (145, 42), (149, 27), (150, 28), (151, 79), (152, 29), (153, 172)] : List (Nat × Nat)), gb cX12_becomes q.1 = some q.2 := seg_1 SX12_becomes _ (by decide +kernel)
set_option maxRecDepth 20000 in
theorem BX12_becomes_2_0 : ∀ q ∈ ([(18, 16, 40), (24, 54, 4), (26, 21, 4), (28, 16, 40), (37, 21, 4), (45, 21, 4), (53, 21, 4), (61, 21, 4), (69, 21, 4), (77, 21, 4)] : List (Nat × Nat × Nat)), gb cX12_becomes q.1 = some q.2.1 ∧ gb cX12_becomes (q.1 + 1) = some q.2.2 := seg_2 SX12_becomes _ (by decide +kernel)
set_option maxRecDepth 20000 in
theorem BX12_becomes_3_0 : ∀ q ∈ ([(1, 180, 0, 9), (9, 160, 0, 5), (15, 180, 0, 127), (20, 160, 0, 77), (30, 162, 0, 57), (34, 180, 0, 13), (42, 180, 0, 13), (50, 180, 0, 16), (58, 180, 0, 16), (66, 180, 0, 19), (74, 180, 0, 19), (81, 132, 4, 1)] : List (Nat × Nat × Nat × Nat)), gb cX12_becomes q.1 = some q.2.1 ∧ gb cX12_becomes (q.1 + 1) = some q.2.2.1 ∧ gb cX12_becomes (q.1 + 2) = some q.2.2.2 := seg_3 SX12_becomes _ (by decide +kernel)
set_option maxRecDepth 20000 in
theorem BX12_becomes_3_1 : ∀ q ∈ ([(84, 167, 255, 198), (89, 180, 0, 127), (94, 181, 0, 127), (98, 180, 0, 13), (102, 180, 0, 127), (108, 180, 0, 16), (112, 180, 0, 127), (118, 180, 0, 19), (122, 180, 0, 127), (129, 180, 0, 127), (134, 181, 0, 127), (139, 180, 0, 127)] : List (Nat × Nat × Nat × Nat)), gb cX12_becomes q.1 = some q.2.1 ∧ gb cX12_becomes (q.1 + 1) = some q.2.2.1 ∧ gb cX12_becomes (q.1 + 2) = some q.2.2.2 := seg_3 SX12_becomes _ (by decide +kernel)
set_option maxRecDepth 20000 in
theorem BX12_becomes_3_2 : ∀ q ∈ ([(142, 181, 0, 130), (146, 180, 0, 9)] : List (Nat × Nat × Nat × Nat)), gb cX12_becomes q.1 = some q.2.1 ∧ gb cX12_becomes (q.1 + 1) = some q.2.2.1 ∧ gb cX12_becomes (q.1 + 2) = some q.2.2.2 := seg_3 SX12_becomes _ (by decide +kernel)
theorem dX12_becomes_0 : decode cX12_becomes 0 = .ok (.aload_n 0, 1) := dk42 (BX12_becomes_1_0 (0, 42) (List.mem_of_getElem? (i := 0) rfl))
theorem dX12_becomes_1 : decode cX12_becomes 1 = .ok (.getfield 9, 3) := dk180 0 9 (BX12_becomes_3_0 (1, 180, 0, 9) (List.mem_of_getElem? (i := 0) rfl))
theorem dX12_becomes_4 : decode cX12_becomes 4 = .ok (.iload_n 1, 1) := dk27 (BX12_becomes_1_0 (4, 27) (List.mem_of_getElem? (i := 1) rfl))
theorem dX12_becomes_5 : decode cX12_becomes 5 = .ok (.iaload, 1) := dk46 (BX12_becomes_1_0 (5, 46) (List.mem_of_getElem? (i := 2) rfl))
theorem dX12_becomes_6 : decode cX12_becomes 6 = .ok (.istore_n 3, 1) := dk62 (BX12_becomes_1_0 (6, 62) (List.mem_of_getElem? (i := 3) rfl))
theorem dX12_becomes_7 : decode cX12_becomes 7 = .ok (.iload_n 3, 1) := dk29 (BX12_becomes_1_0 (7, 29) (List.mem_of_getElem? (i := 4) rfl))
theorem dX12_becomes_8 : decode cX12_becomes 8 = .ok (.iload_n 2, 1) := dk28 (BX12_becomes_1_0 (8, 28) (List.mem_of_getElem? (i := 5) rfl))
theorem dX12_becomes_9 : decode cX12_becomes 9 = .ok (.if_icmp .ne 5, 3) := dk160 0 5 (BX12_becomes_3_0 (9, 160, 0, 5) (List.mem_of_getElem? (i := 1) rfl))
theorem dX12_becomes_12 : decode cX12_becomes 12 = .ok (.iload_n 3, 1) := dk29 (BX12_becomes_1_0 (12, 29) (List.mem_of_getElem? (i := 6) rfl))
theorem dX12_becomes_13 : decode cX12_becomes 13 = .ok (.ireturn, 1) := dk172 (BX12_becomes_1_0 (13, 172) (List.mem_of_getElem? (i := 7) rfl))
theorem dX12_becomes_14 : decode cX12_becomes 14 = .ok (.aload_n 0, 1) := dk42 (BX12_becomes_1_0 (14, 42) (List.mem_of_getElem? (i := 8) rfl))
theorem dX12_becomes_15 : decode cX12_becomes 15 = .ok (.getfield 127, 3) := dk180 0 127 (BX12_becomes_3_0 (15, 180, 0, 127) (List.mem_of_getElem? (i := 2) rfl))
theorem dX12_becomes_18 : decode cX12_becomes 18 = .ok (.bipush 40, 2) := dk16 40 (BX12_becomes_2_0 (18, 16, 40) (List.mem_of_getElem? (i := 0) rfl))
theorem dX12_becomes_20 : decode cX12_becomes 20 = .ok (.if_icmp .ne 77, 3) := dk160 0 77 (BX12_becomes_3_0 (20, 160, 0, 77) (List.mem_of_getElem? (i := 3) rfl))
theorem dX12_becomes_23 : decode cX12_becomes 23 = .ok (.iconst 1, 1) := dk4 (BX12_becomes_1_0 (23, 4) (List.mem_of_getElem? (i := 9) rfl))
theorem dX12_becomes_24 : decode cX12_becomes 24 = .ok (.istore 4, 2) := dk54 4 (BX12_becomes_2_0 (24, 54, 4) (List.mem_of_getElem? (i := 1) rfl))
theorem dX12_becomes_26 : decode cX12_becomes 26 = .ok (.iload 4, 2) := dk21 4 (BX12_becomes_2_0 (26, 21, 4) (List.mem_of_getElem? (i := 2) rfl))
theorem dX12_becomes_28 : decode cX12_becomes 28 = .ok (.bipush 40, 2) := dk16 40 (BX12_becomes_2_0 (28, 16, 40) (List.mem_of_getElem? (i := 3) rfl))
theorem dX12_becomes_30 : decode cX12_becomes 30 = .ok (.if_icmp .ge 57, 3) := dk162 0 57 (BX12_becomes_3_0 (30, 162, 0, 57) (List.mem_of_getElem? (i := 4) rfl))
theorem dX12_becomes_33 : decode cX12_becomes 33 = .ok (.aload_n 0, 1) := dk42 (BX12_becomes_1_0 (33, 42) (List.mem_of_getElem? (i := 10) rfl))
theorem dX12_becomes_34 : decode cX12_becomes 34 = .ok (.getfield 13, 3) := dk180 0 13 (BX12_becomes_3_0 (34, 180, 0, 13) (List.mem_of_getElem? (i := 5) rfl))
theorem dX12_becomes_37 : decode cX12_becomes 37 = .ok (.iload 4, 2) := dk21 4 (BX12_becomes_2_0 (37, 21, 4) (List.mem_of_getElem? (i := 4) rfl))
theorem dX12_becomes_39 : decode cX12_becomes 39 = .ok (.iconst 1, 1) := dk4 (BX12_becomes_1_0 (39, 4) (List.mem_of_getElem? (i := 11) rfl))
theorem dX12_becomes_40 : decode cX12_becomes 40 = .ok (.isub, 1) := dk100 (BX12_becomes_1_1 (40, 100) (List.mem_of_getElem? (i := 0) rfl))
theorem dX12_becomes_41 : decode cX12_becomes 41 = .ok (.aload_n 0, 1) := dk42 (BX12_becomes_1_1 (41, 42) (List.mem_of_getElem? (i := 1) rfl))
theorem dX12_becomes_42 : decode cX12_becomes 42 = .ok (.getfield 13, 3) := dk180 0 13 (BX12_becomes_3_0 (42, 180, 0, 13) (List.mem_of_getElem? (i := 6) rfl))
theorem dX12_becomes_45 : decode cX12_becomes 45 = .ok (.iload 4, 2) := dk21 4 (BX12_becomes_2_0 (45, 21, 4) (List.mem_of_getElem? (i := 5) rfl))
theorem dX12_becomes_47 : decode cX12_becomes 47 = .ok (.iaload, 1) := dk46 (BX12_becomes_1_1 (47, 46) (List.mem_of_getElem? (i := 2) rfl))
theorem dX12_becomes_48 : decode cX12_becomes 48 = .ok (.iastore, 1) := dk79 (BX12_becomes_1_1 (48, 79) (List.mem_of_getElem? (i := 3) rfl))
theorem dX12_becomes_49 : decode cX12_becomes 49 = .ok (.aload_n 0, 1) := dk42 (BX12_becomes_1_1 (49, 42) (List.mem_of_getElem? (i := 4) rfl))
theorem dX12_becomes_50 : decode cX12_becomes 50 = .ok (.getfield 16, 3) := dk180 0 16 (BX12_becomes_3_0 (50, 180, 0, 16) (List.mem_of_getElem? (i := 7) rfl))
theorem dX12_becomes_53 : decode cX12_becomes 53 = .ok (.iload 4, 2) := dk21 4 (BX12_becomes_2_0 (53, 21, 4) (List.mem_of_getElem? (i := 6) rfl))
theorem dX12_becomes_55 : decode cX12_becomes 55 = .ok (.iconst 1, 1) := dk4 (BX12_becomes_1_1 (55, 4) (List.mem_of_getElem? (i := 5) rfl))
theorem dX12_becomes_56 : decode cX12_becomes 56 = .ok (.isub, 1) := dk100 (BX12_becomes_1_1 (56, 100) (List.mem_of_getElem? (i := 6) rfl))
theorem dX12_becomes_57 : decode cX12_becomes 57 = .ok (.aload_n 0, 1) := dk42 (BX12_becomes_1_1 (57, 42) (List.mem_of_getElem? (i := 7) rfl))
theorem dX12_becomes_58 : decode cX12_becomes 58 = .ok (.getfield 16, 3) := dk180 0 16 (BX12_becomes_3_0 (58, 180, 0, 16) (List.mem_of_getElem? (i := 8) rfl))
theorem dX12_becomes_61 : decode cX12_becomes 61 = .ok (.iload 4, 2) := dk21 4 (BX12_becomes_2_0 (61, 21, 4) (List.mem_of_getElem? (i := 7) rfl))
theorem dX12_becomes_63 : decode cX12_becomes 63 = .ok (.iaload, 1) := dk46 (BX12_becomes_1_1 (63, 46) (List.mem_of_getElem? (i := 8) rfl))
theorem dX12_becomes_64 : decode cX12_becomes 64 = .ok (.iastore, 1) := dk79 (BX12_becomes_1_1 (64, 79) (List.mem_of_getElem? (i := 9) rfl))
theorem dX12_becomes_65 : decode cX12_becomes 65 = .ok (.aload_n 0, 1) := dk42 (BX12_becomes_1_1 (65, 42) (List.mem_of_getElem? (i := 10) rfl))
theorem dX12_becomes_66 : decode cX12_becomes 66 = .ok (.getfield 19, 3) := dk180 0 19 (BX12_becomes_3_0 (66, 180, 0, 19) (List.mem_of_getElem? (i := 9) rfl))
theorem dX12_becomes_69 : decode cX12_becomes 69 = .ok (.iload 4, 2) := dk21 4 (BX12_becomes_2_0 (69, 21, 4) (List.mem_of_getElem? (i := 8) rfl))
theorem dX12_becomes_71 : decode cX12_becomes 71 = .ok (.iconst 1, 1) := dk4 (BX12_becomes_1_1 (71, 4) (List.mem_of_getElem? (i := 11) rfl))
theorem dX12_becomes_72 : decode cX12_becomes 72 = .ok (.isub, 1) := dk100 (BX12_becomes_1_2 (72, 100) (List.mem_of_getElem? (i := 0) rfl))
theorem dX12_becomes_73 : decode cX12_becomes 73 = .ok (.aload_n 0, 1) := dk42 (BX12_becomes_1_2 (73, 42) (List.mem_of_getElem? (i := 1) rfl))
theorem dX12_becomes_74 : decode cX12_becomes 74 = .ok (.getfield 19, 3) := dk180 0 19 (BX12_becomes_3_0 (74, 180, 0, 19) (List.mem_of_getElem? (i := 10) rfl))
theorem dX12_becomes_77 : decode cX12_becomes 77 = .ok (.iload 4, 2) := dk21 4 (BX12_becomes_2_0 (77, 21, 4) (List.mem_of_getElem? (i := 9) rfl))
theorem dX12_becomes_79 : decode cX12_becomes 79 = .ok (.iaload, 1) := dk46 (BX12_becomes_1_2 (79, 46) (List.mem_of_getElem? (i := 2) rfl))
theorem dX12_becomes_80 : decode cX12_becomes 80 = .ok (.iastore, 1) := dk79 (BX12_becomes_1_2 (80, 79) (List.mem_of_getElem? (i := 3) rfl))
theorem dX12_becomes_81 : decode cX12_becomes 81 = .ok (.iinc 4 1, 3) := dk132 4 1 (BX12_becomes_3_0 (81, 132, 4, 1) (List.mem_of_getElem? (i := 11) rfl))
theorem dX12_becomes_84 : decode cX12_becomes 84 = .ok (.goto (-58), 3) := dk167 255 198 (BX12_becomes_3_1 (84, 167, 255, 198) (List.mem_of_getElem? (i := 0) rfl))
theorem dX12_becomes_87 : decode cX12_becomes 87 = .ok (.aload_n 0, 1) := dk42 (BX12_becomes_1_2 (87, 42) (List.mem_of_getElem? (i := 4) rfl))
theorem dX12_becomes_88 : decode cX12_becomes 88 = .ok (.dup, 1) := dk89 (BX12_becomes_1_2 (88, 89) (List.mem_of_getElem? (i := 5) rfl))
theorem dX12_becomes_89 : decode cX12_becomes 89 = .ok (.getfield 127, 3) := dk180 0 127 (BX12_becomes_3_1 (89, 180, 0, 127) (List.mem_of_getElem? (i := 1) rfl))
theorem dX12_becomes_92 : decode cX12_becomes 92 = .ok (.iconst 1, 1) := dk4 (BX12_becomes_1_2 (92, 4) (List.mem_of_getElem? (i := 6) rfl))
theorem dX12_becomes_93 : decode cX12_becomes 93 = .ok (.isub, 1) := dk100 (BX12_becomes_1_2 (93, 100) (List.mem_of_getElem? (i := 7) rfl))
theorem dX12_becomes_94 : decode cX12_becomes 94 = .ok (.putfield 127, 3) := dk181 0 127 (BX12_becomes_3_1 (94, 181, 0, 127) (List.mem_of_getElem? (i := 2) rfl))
theorem dX12_becomes_97 : decode cX12_becomes 97 = .ok (.aload_n 0, 1) := dk42 (BX12_becomes_1_2 (97, 42) (List.mem_of_getElem? (i := 8) rfl))
theorem dX12_becomes_98 : decode cX12_becomes 98 = .ok (.getfield 13, 3) := dk180 0 13 (BX12_becomes_3_1 (98, 180, 0, 13) (List.mem_of_getElem? (i := 3) rfl))
theorem dX12_becomes_101 : decode cX12_becomes 101 = .ok (.aload_n 0, 1) := dk42 (BX12_becomes_1_2 (101, 42) (List.mem_of_getElem? (i := 9) rfl))
theorem dX12_becomes_102 : decode cX12_becomes 102 = .ok (.getfield 127, 3) := dk180 0 127 (BX12_becomes_3_1 (102, 180, 0, 127) (List.mem_of_getElem? (i := 4) rfl))
theorem dX12_becomes_105 : decode cX12_becomes 105 = .ok (.iload_n 1, 1) := dk27 (BX12_becomes_1_2 (105, 27) (List.mem_of_getElem? (i := 10) rfl))
theorem dX12_becomes_106 : decode cX12_becomes 106 = .ok (.iastore, 1) := dk79 (BX12_becomes_1_2 (106, 79) (List.mem_of_getElem? (i := 11) rfl))
theorem dX12_becomes_107 : decode cX12_becomes 107 = .ok (.aload_n 0, 1) := dk42 (BX12_becomes_1_3 (107, 42) (List.mem_of_getElem? (i := 0) rfl))
theorem dX12_becomes_108 : decode cX12_becomes 108 = .ok (.getfield 16, 3) := dk180 0 16 (BX12_becomes_3_1 (108, 180, 0, 16) (List.mem_of_getElem? (i := 5) rfl))
theorem dX12_becomes_111 : decode cX12_becomes 111 = .ok (.aload_n 0, 1) := dk42 (BX12_becomes_1_3 (111, 42) (List.mem_of_getElem? (i := 1) rfl))
theorem dX12_becomes_112 : decode cX12_becomes 112 = .ok (.getfield 127, 3) := dk180 0 127 (BX12_becomes_3_1 (112, 180, 0, 127) (List.mem_of_getElem? (i := 6) rfl))
theorem dX12_becomes_115 : decode cX12_becomes 115 = .ok (.iload_n 3, 1) := dk29 (BX12_becomes_1_3 (115, 29) (List.mem_of_getElem? (i := 2) rfl))
theorem dX12_becomes_116 : decode cX12_becomes 116 = .ok (.iastore, 1) := dk79 (BX12_becomes_1_3 (116, 79) (List.mem_of_getElem? (i := 3) rfl))
theorem dX12_becomes_117 : decode cX12_becomes 117 = .ok (.aload_n 0, 1) := dk42 (BX12_becomes_1_3 (117, 42) (List.mem_of_getElem? (i := 4) rfl))
theorem dX12_becomes_118 : decode cX12_becomes 118 = .ok (.getfield 19, 3) := dk180 0 19 (BX12_becomes_3_1 (118, 180, 0, 19) (List.mem_of_getElem? (i := 7) rfl))
theorem dX12_becomes_121 : decode cX12_becomes 121 = .ok (.aload_n 0, 1) := dk42 (BX12_becomes_1_3 (121, 42) (List.mem_of_getElem? (i := 5) rfl))
theorem dX12_becomes_122 : decode cX12_becomes 122 = .ok (.getfield 127, 3) := dk180 0 127 (BX12_becomes_3_1 (122, 180, 0, 127) (List.mem_of_getElem? (i := 8) rfl))
theorem dX12_becomes_125 : decode cX12_becomes 125 = .ok (.iload_n 2, 1) := dk28 (BX12_becomes_1_3 (125, 28) (List.mem_of_getElem? (i := 6) rfl))
theorem dX12_becomes_126 : decode cX12_becomes 126 = .ok (.iastore, 1) := dk79 (BX12_becomes_1_3 (126, 79) (List.mem_of_getElem? (i := 7) rfl))
theorem dX12_becomes_127 : decode cX12_becomes 127 = .ok (.aload_n 0, 1) := dk42 (BX12_becomes_1_3 (127, 42) (List.mem_of_getElem? (i := 8) rfl))
theorem dX12_becomes_128 : decode cX12_becomes 128 = .ok (.dup, 1) := dk89 (BX12_becomes_1_3 (128, 89) (List.mem_of_getElem? (i := 9) rfl))
theorem dX12_becomes_129 : decode cX12_becomes 129 = .ok (.getfield 127, 3) := dk180 0 127 (BX12_becomes_3_1 (129, 180, 0, 127) (List.mem_of_getElem? (i := 9) rfl))
theorem dX12_becomes_132 : decode cX12_becomes 132 = .ok (.iconst 1, 1) := dk4 (BX12_becomes_1_3 (132, 4) (List.mem_of_getElem? (i := 10) rfl))
theorem dX12_becomes_133 : decode cX12_becomes 133 = .ok (.iadd, 1) := dk96 (BX12_becomes_1_3 (133, 96) (List.mem_of_getElem? (i := 11) rfl))
theorem dX12_becomes_134 : decode cX12_becomes 134 = .ok (.putfield 127, 3) := dk181 0 127 (BX12_becomes_3_1 (134, 181, 0, 127) (List.mem_of_getElem? (i := 10) rfl))
theorem dX12_becomes_137 : decode cX12_becomes 137 = .ok (.aload_n 0, 1) := dk42 (BX12_becomes_1_4 (137, 42) (List.mem_of_getElem? (i := 0) rfl))
theorem dX12_becomes_138 : decode cX12_becomes 138 = .ok (.aload_n 0, 1) := dk42 (BX12_becomes_1_4 (138, 42) (List.mem_of_getElem? (i := 1) rfl))
theorem dX12_becomes_139 : decode cX12_becomes 139 = .ok (.getfield 127, 3) := dk180 0 127 (BX12_becomes_3_1 (139, 180, 0, 127) (List.mem_of_getElem? (i := 11) rfl))
theorem dX12_becomes_142 : decode cX12_becomes 142 = .ok (.putfield 130, 3) := dk181 0 130 (BX12_becomes_3_2 (142, 181, 0, 130) (List.mem_of_getElem? (i := 0) rfl))
theorem dX12_becomes_145 : decode cX12_becomes 145 = .ok (.aload_n 0, 1) := dk42 (BX12_becomes_1_4 (145, 42) (List.mem_of_getElem? (i := 2) rfl))
theorem dX12_becomes_146 : decode cX12_becomes 146 = .ok (.getfield 9, 3) := dk180 0 9 (BX12_becomes_3_2 (146, 180, 0, 9) (List.mem_of_getElem? (i := 1) rfl))
theorem dX12_becomes_149 : decode cX12_becomes 149 = .ok (.iload_n 1, 1) := dk27 (BX12_becomes_1_4 (149, 27) (List.mem_of_getElem? (i := 3) rfl))
theorem dX12_becomes_150 : decode cX12_becomes 150 = .ok (.iload_n 2, 1) := dk28 (BX12_becomes_1_4 (150, 28) (List.mem_of_getElem? (i := 4) rfl))
theorem dX12_becomes_151 : decode cX12_becomes 151 = .ok (.iastore, 1) := dk79 (BX12_becomes_1_4 (151, 79) (List.mem_of_getElem? (i := 5) rfl))
theorem dX12_becomes_152 : decode cX12_becomes 152 = .ok (.iload_n 3, 1) := dk29 (BX12_becomes_1_4 (152, 29) (List.mem_of_getElem? (i := 6) rfl))
theorem dX12_becomes_153 : decode cX12_becomes 153 = .ok (.ireturn, 1) := dk172 (BX12_becomes_1_4 (153, 172) (List.mem_of_getElem? (i := 7) rfl))
set_option maxRecDepth 20000 in
theorem SX12_undo : ∀ p : Nat, gb cX12_undo p = segF [[42, 180, 0, 127, 154, 0, 6, 16, 251, 172, 42, 89, 180, 0, 127, 4, 100, 181, 0, 127, 42, 180, 0, 9, 42, 180, 0, 13, 42, 180, 0, 127, 46, 42, 180, 0, 16, 42, 180, 0, 127, 46, 79, 42, 180, 0, 127, 172]] p := seg_gb (S := [[42, 180, 0, 127, 154, 0, 6, 16, 251, 172, 42, 89, 180, 0, 127, 4, 100, 181, 0, 127, 42, 180, 0, 9, 42, 180, 0, 13, 42, 180, 0, 127, 46, 42, 180, 0, 16, 42, 180, 0, 127, 46, 79, 42, 180, 0, 127, 172]]) (by decide +kernel) (by decide +kernel)
set_option maxRecDepth 20000 in
theorem BX12_undo_1_0 : ∀ q ∈ ([(0, 42), (9, 172), (10, 42), (11, 89), (15, 4), (16, 100), (20, 42), (24, 42), (28, 42), (32, 46), (33, 42), (37, 42)] : List (Nat × Nat)), gb cX12_undo q.1 = some q.2 := seg_1 SX12_undo _ (by decide +kernel)
set_option maxRecDepth 20000 in
theorem BX12_undo_1_1 : ∀ q ∈ ([(41, 46), (42, 79), (43, 42), (47, 172)] : List (Nat × Nat)), gb cX12_undo q.1 = some q.2 := seg_1 SX12_undo _ (by decide +kernel)
set_option maxRecDepth 20000 in
theorem BX12_undo_2_0 : ∀ q ∈ ([(7, 16, 251)] : List (Nat × Nat × Nat)), gb cX12_undo q.1 = some q.2.1 ∧ gb cX12_undo (q.1 + 1) = some q.2.2 := seg_2 SX12_undo _ (by decide +kernel)
set_option maxRecDepth 20000 in
theorem BX12_undo_3_0 : ∀ q ∈ ([(1, 180, 0, 127), (4, 154, 0, 6), (12, 180, 0, 127), (17, 181, 0, 127), (21, 180, 0, 9), (25, 180, 0, 13), (29, 180, 0, 127), (34, 180, 0, 16), (38, 180, 0, 127), (44, 180, 0, 127)] : List (Nat × Nat × Nat × Nat)), gb cX12_undo q.1 = some q.2.1 ∧ gb cX12_undo (q.1 + 1) = some q.2.2.1 ∧ gb cX12_undo (q.1 + 2) = some q.2.2.2 := seg_3 SX12_undo _ (by decide +kernel)
theorem dX12_undo_0 : decode cX12_undo 0 = .ok (.aload_n 0, 1) := dk42 (BX12_undo_1_0 (0, 42) (List.mem_of_getElem? (i := 0) rfl))
theorem dX12_undo_1 : decode cX12_undo 1 = .ok (.getfield 127, 3) := dk180 0 127 (BX12_undo_3_0 (1, 180, 0, 127) (List.mem_of_getElem? (i := 0) rfl))
theorem dX12_undo_4 : decode cX12_undo 4 = .ok (.ifCond .ne 6, 3) := dk154 0 6 (BX12_undo_3_0 (4, 154, 0, 6) (List.mem_of_getElem? (i := 1) rfl))
theorem dX12_undo_7 : decode cX12_undo 7 = .ok (.bipush (-5), 2) := dk16 251 (BX12_undo_2_0 (7, 16, 251) (List.mem_of_getElem? (i := 0) rfl))
theorem dX12_undo_9 : decode cX12_undo 9 = .ok (.ireturn, 1) := dk172 (BX12_undo_1_0 (9, 172) (List.mem_of_getElem? (i := 1) rfl))
theorem dX12_undo_10 : decode cX12_undo 10 = .ok (.aload_n 0, 1) := dk42 (BX12_undo_1_0 (10, 42) (List.mem_of_getElem? (i := 2) rfl))
theorem dX12_undo_11 : decode cX12_undo 11 = .ok (.dup, 1) := dk89 (BX12_undo_1_0 (11, 89) (List.mem_of_getElem? (i := 3) rfl))
theorem dX12_undo_12 : decode cX12_undo 12 = .ok (.getfield 127, 3) := dk180 0 127 (BX12_undo_3_0 (12, 180, 0, 127) (List.mem_of_getElem? (i := 2) rfl))
theorem dX12_undo_15 : decode cX12_undo 15 = .ok (.iconst 1, 1) := dk4 (BX12_undo_1_0 (15, 4) (List.mem_of_getElem? (i := 4) rfl))
theorem dX12_undo_16 : decode cX12_undo 16 = .ok (.isub, 1) := dk100 (BX12_undo_1_0 (16, 100) (List.mem_of_getElem? (i := 5) rfl))
theorem dX12_undo_17 : decode cX12_undo 17 = .ok (.putfield 127, 3) := dk181 0 127 (BX12_undo_3_0 (17, 181, 0, 127) (List.mem_of_getElem? (i := 3) rfl))
theorem dX12_undo_20 : decode cX12_undo 20 = .ok (.aload_n 0, 1) := dk42 (BX12_undo_1_0 (20, 42) (List.mem_of_getElem? (i := 6) rfl))
theorem dX12_undo_21 : decode cX12_undo 21 = .ok (.getfield 9, 3) := dk180 0 9 (BX12_undo_3_0 (21, 180, 0, 9) (List.mem_of_getElem? (i := 4) rfl))
theorem dX12_undo_24 : decode cX12_undo 24 = .ok (.aload_n 0, 1) := dk42 (BX12_undo_1_0 (24, 42) (List.mem_of_getElem? (i := 7) rfl))
theorem dX12_undo_25 : decode cX12_undo 25 = .ok (.getfield 13, 3) := dk180 0 13 (BX12_undo_3_0 (25, 180, 0, 13) (List.mem_of_getElem? (i := 5) rfl))
theorem dX12_undo_28 : decode cX12_undo 28 = .ok (.aload_n 0, 1) := dk42 (BX12_undo_1_0 (28, 42) (List.mem_of_getElem? (i := 8) rfl))
theorem dX12_undo_29 : decode cX12_undo 29 = .ok (.getfield 127, 3) := dk180 0 127 (BX12_undo_3_0 (29, 180, 0, 127) (List.mem_of_getElem? (i := 6) rfl))
theorem dX12_undo_32 : decode cX12_undo 32 = .ok (.iaload, 1) := dk46 (BX12_undo_1_0 (32, 46) (List.mem_of_getElem? (i := 9) rfl))
theorem dX12_undo_33 : decode cX12_undo 33 = .ok (.aload_n 0, 1) := dk42 (BX12_undo_1_0 (33, 42) (List.mem_of_getElem? (i := 10) rfl))
theorem dX12_undo_34 : decode cX12_undo 34 = .ok (.getfield 16, 3) := dk180 0 16 (BX12_undo_3_0 (34, 180, 0, 16) (List.mem_of_getElem? (i := 7) rfl))
theorem dX12_undo_37 : decode cX12_undo 37 = .ok (.aload_n 0, 1) := dk42 (BX12_undo_1_0 (37, 42) (List.mem_of_getElem? (i := 11) rfl))
theorem dX12_undo_38 : decode cX12_undo 38 = .ok (.getfield 127, 3) := dk180 0 127 (BX12_undo_3_0 (38, 180, 0, 127) (List.mem_of_getElem? (i := 8) rfl))
theorem dX12_undo_41 : decode cX12_undo 41 = .ok (.iaload, 1) := dk46 (BX12_undo_1_1 (41, 46) (List.mem_of_getElem? (i := 0) rfl))
theorem dX12_undo_42 : decode cX12_undo 42 = .ok (.iastore, 1) := dk79 (BX12_undo_1_1 (42, 79) (List.mem_of_getElem? (i := 1) rfl))
theorem dX12_undo_43 : decode cX12_undo 43 = .ok (.aload_n 0, 1) := dk42 (BX12_undo_1_1 (43, 42) (List.mem_of_getElem? (i := 2) rfl))
theorem dX12_undo_44 : decode cX12_undo 44 = .ok (.getfield 127, 3) := dk180 0 127 (BX12_undo_3_0 (44, 180, 0, 127) (List.mem_of_getElem? (i := 9) rfl))
theorem dX12_undo_47 : decode cX12_undo 47 = .ok (.ireturn, 1) := dk172 (BX12_undo_1_1 (47, 172) (List.mem_of_getElem? (i := 3) rfl))
set_option maxRecDepth 20000 in
theorem SX12_redo : ∀ p : Nat, gb cX12_redo p = segF [[42, 180, 0, 127, 42, 180, 0, 130, 160, 0, 6, 16, 251, 172, 42, 180, 0, 9, 42, 180, 0, 13, 42, 180, 0, 127, 46, 42, 180, 0, 19, 42, 180, 0, 127, 46, 79, 42, 89, 180, 0, 127, 4, 96, 181, 0, 127, 42, 180, 0, 130, 42, 180, 0, 127, 100, 172]] p := seg_gb (S := [[42, 180, 0, 127, 42, 180, 0, 130, 160, 0, 6, 16, 251, 172, 42, 180, 0, 9, 42, 180, 0, 13, 42, 180, 0, 127, 46, 42, 180, 0, 19, 42, 180, 0, 127, 46, 79, 42, 89, 180, 0, 127, 4, 96, 181, 0, 127, 42, 180, 0, 130, 42, 180, 0, 127, 100, 172]]) (by decide +kernel) (by decide +kernel)
set_option maxRecDepth 20000 in
theorem BX12_redo_1_0 : ∀ q ∈ ([(0, 42), (4, 42), (13, 172), (14, 42), (18, 42), (22, 42), (26, 46), (27, 42), (31, 42), (35, 46), (36, 79), (37, 42)] : List (Nat × Nat)), gb cX12_redo q.1 = some q.2 := seg_1 SX12_redo _ (by decide +kernel)
set_option maxRecDepth 20000 in
theorem BX12_redo_1_1 : ∀ q ∈ ([(38, 89), (42, 4), (43, 96), (47, 42), (51, 42), (55, 100), (56, 172)] : List (Nat × Nat)), gb cX12_redo q.1 = some q.2 := seg_1 SX12_redo _ (by decide +kernel)
set_option maxRecDepth 20000 in
theorem BX12_redo_2_0 : ∀ q ∈ ([(11, 16, 251)] : List (Nat × Nat × Nat)), gb cX12_redo q.1 = some q.2.1 ∧ gb cX12_redo (q.1 + 1) = some q.2.2 := seg_2 SX12_redo _ (by decide +kernel)
set_option maxRecDepth 20000 in
theorem BX12_redo_3_0 : ∀ q ∈ ([(1, 180, 0, 127), (5, 180, 0, 130), (8, 160, 0, 6), (15, 180, 0, 9), (19, 180, 0, 13), (23, 180, 0, 127), (28, 180, 0, 19), (32, 180, 0, 127), (39, 180, 0, 127), (44, 181, 0, 127), (48, 180, 0, 130), (52, 180, 0, 127)] : List (Nat × Nat × Nat × Nat)), gb cX12_redo q.1 = some q.2.1 ∧ gb cX12_redo (q.1 + 1) = some q.2.2.1 ∧ gb cX12_redo (q.1 + 2) = some q.2.2.2 := seg_3 SX12_redo _ (by decide +kernel)
theorem dX12_redo_0 : decode cX12_redo 0 = .ok (.aload_n 0, 1) := dk42 (BX12_redo_1_0 (0, 42) (List.mem_of_getElem? (i := 0) rfl))
theorem dX12_redo_1 : decode cX12_redo 1 = .ok (.getfield 127, 3) := dk180 0 127 (BX12_redo_3_0 (1, 180, 0, 127) (List.mem_of_getElem? (i := 0) rfl))
theorem dX12_redo_4 : decode cX12_redo 4 = .ok (.aload_n 0, 1) := dk42 (BX12_redo_1_0 (4, 42) (List.mem_of_getElem? (i := 1) rfl))
theorem dX12_redo_5 : decode cX12_redo 5 = .ok (.getfield 130, 3) := dk180 0 130 (BX12_redo_3_0 (5, 180, 0, 130) (List.mem_of_getElem? (i := 1) rfl))
theorem dX12_redo_8 : decode cX12_redo 8 = .ok (.if_icmp .ne 6, 3) := dk160 0 6 (BX12_redo_3_0 (8, 160, 0, 6) (List.mem_of_getElem? (i := 2) rfl))
theorem dX12_redo_11 : decode cX12_redo 11 = .ok (.bipush (-5), 2) := dk16 251 (BX12_redo_2_0 (11, 16, 251) (List.mem_of_getElem? (i := 0) rfl))
theorem dX12_redo_13 : decode cX12_redo 13 = .ok (.ireturn, 1) := dk172 (BX12_redo_1_0 (13, 172) (List.mem_of_getElem? (i := 2) rfl))
theorem dX12_redo_14 : decode cX12_redo 14 = .ok (.aload_n 0, 1) := dk42 (BX12_redo_1_0 (14, 42) (List.mem_of_getElem? (i := 3) rfl))
theorem dX12_redo_15 : decode cX12_redo 15 = .ok (.getfield 9, 3) := dk180 0 9 (BX12_redo_3_0 (15, 180, 0, 9) (List.mem_of_getElem? (i := 3) rfl))
theorem dX12_redo_18 : decode cX12_redo 18 = .ok (.aload_n 0, 1) := dk42 (BX12_redo_1_0 (18, 42) (List.mem_of_getElem? (i := 4) rfl))
theorem dX12_redo_19 : decode cX12_redo 19 = .ok (.getfield 13, 3) := dk180 0 13 (BX12_redo_3_0 (19, 180, 0, 13) (List.mem_of_getElem? (i := 4) rfl))
theorem dX12_redo_22 : decode cX12_redo 22 = .ok (.aload_n 0, 1) := dk42 (BX12_redo_1_0 (22, 42) (List.mem_of_getElem? (i := 5) rfl))
theorem dX12_redo_23 : decode cX12_redo 23 = .ok (.getfield 127, 3) := dk180 0 127 (BX12_redo_3_0 (23, 180, 0, 127) (List.mem_of_getElem? (i := 5) rfl))
theorem dX12_redo_26 : decode cX12_redo 26 = .ok (.iaload, 1) := dk46 (BX12_redo_1_0 (26, 46) (List.mem_of_getElem? (i := 6) rfl))
theorem dX12_redo_27 : decode cX12_redo 27 = .ok (.aload_n 0, 1) := dk42 (BX12_redo_1_0 (27, 42) (List.mem_of_getElem? (i := 7) rfl))
theorem dX12_redo_28 : decode cX12_redo 28 = .ok (.getfield 19, 3) := dk180 0 19 (BX12_redo_3_0 (28, 180, 0, 19) (List.mem_of_getElem? (i := 6) rfl))
theorem dX12_redo_31 : decode cX12_redo 31 = .ok (.aload_n 0, 1) := dk42 (BX12_redo_1_0 (31, 42) (List.mem_of_getElem? (i := 8) rfl))
theorem dX12_redo_32 : decode cX12_redo 32 = .ok (.getfield 127, 3) := dk180 0 127 (BX12_redo_3_0 (32, 180, 0, 127) (List.mem_of_getElem? (i := 7) rfl))
theorem dX12_redo_35 : decode cX12_redo 35 = .ok (.iaload, 1) := dk46 (BX12_redo_1_0 (35, 46) (List.mem_of_getElem? (i := 9) rfl))
theorem dX12_redo_36 : decode cX12_redo 36 = .ok (.iastore, 1) := dk79 (BX12_redo_1_0 (36, 79) (List.mem_of_getElem? (i := 10) rfl))
theorem dX12_redo_37 : decode cX12_redo 37 = .ok (.aload_n 0, 1) := dk42 (BX12_redo_1_0 (37, 42) (List.mem_of_getElem? (i := 11) rfl))
theorem dX12_redo_38 : decode cX12_redo 38 = .ok (.dup, 1) := dk89 (BX12_redo_1_1 (38, 89) (List.mem_of_getElem? (i := 0) rfl))
theorem dX12_redo_39 : decode cX12_redo 39 = .ok (.getfield 127, 3) := dk180 0 127 (BX12_redo_3_0 (39, 180, 0, 127) (List.mem_of_getElem? (i := 8) rfl))
theorem dX12_redo_42 : decode cX12_redo 42 = .ok (.iconst 1, 1) := dk4 (BX12_redo_1_1 (42, 4) (List.mem_of_getElem? (i := 1) rfl))
theorem dX12_redo_43 : decode cX12_redo 43 = .ok (.iadd, 1) := dk96 (BX12_redo_1_1 (43, 96) (List.mem_of_getElem? (i := 2) rfl))
theorem dX12_redo_44 : decode cX12_redo 44 = .ok (.putfield 127, 3) := dk181 0 127 (BX12_redo_3_0 (44, 181, 0, 127) (List.mem_of_getElem? (i := 9) rfl))
theorem dX12_redo_47 : decode cX12_redo 47 = .ok (.aload_n 0, 1) := dk42 (BX12_redo_1_1 (47, 42) (List.mem_of_getElem? (i := 3) rfl))
theorem dX12_redo_48 : decode cX12_redo 48 = .ok (.getfield 130, 3) := dk180 0 130 (BX12_redo_3_0 (48, 180, 0, 130) (List.mem_of_getElem? (i := 10) rfl))
theorem dX12_redo_51 : decode cX12_redo 51 = .ok (.aload_n 0, 1) := dk42 (BX12_redo_1_1 (51, 42) (List.mem_of_getElem? (i := 4) rfl))
theorem dX12_redo_52 : decode cX12_redo 52 = .ok (.getfield 127, 3) := dk180 0 127 (BX12_redo_3_0 (52, 180, 0, 127) (List.mem_of_getElem? (i := 11) rfl))
theorem dX12_redo_55 : decode cX12_redo 55 = .ok (.isub, 1) := dk100 (BX12_redo_1_1 (55, 100) (List.mem_of_getElem? (i := 5) rfl))
theorem dX12_redo_56 : decode cX12_redo 56 = .ok (.ireturn, 1) := dk172 (BX12_redo_1_1 (56, 172) (List.mem_of_getElem? (i := 6) rfl))
set_option maxRecDepth 20000 in
theorem ggX12_isSheet_X12_within : GoodIn wsX12_isSheet wsX12_within := goodIn_g ch_wsX12_isSheet_flat gd_wsX12_isSheet _ [(1, 4)] rfl
set_option maxRecDepth 20000 in
theorem gX12_isSheet_X12_within : GoodIn wsX12_isSheet (va_wsS RX12 136 yX12_within wsX12_within) := goodIn_app (goodIn_g ch_wsX12_isSheet_flat gd_wsX12_isSheet _ [(1, 1), (1, 2), (1, 3)] rfl) ggX12_isSheet_X12_within
set_option maxRecDepth 20000 in
theorem SX12_isSheet : ∀ p : Nat, gb cX12_isSheet p = segF [[27, 133, 9, 42, 180, 0, 133, 4, 100, 133, 184, 0, 136, 172]] p := seg_gb (S := [[27, 133, 9, 42, 180, 0, 133, 4, 100, 133, 184, 0, 136, 172]]) (by decide +kernel) (by decide +kernel)
set_option maxRecDepth 20000 in
theorem BX12_isSheet_1_0 : ∀ q ∈ ([(0, 27), (1, 133), (2, 9), (3, 42), (7, 4), (8, 100), (9, 133), (13, 172)] : List (Nat × Nat)), gb cX12_isSheet q.1 = some q.2 := seg_1 SX12_isSheet _ (by decide +kernel)
set_option maxRecDepth 20000 in
theorem BX12_isSheet_3_0 : ∀ q ∈ ([(4, 180, 0, 133), (10, 184, 0, 136)] : List (Nat × Nat × Nat × Nat)), gb cX12_isSheet q.1 = some q.2.1 ∧ gb cX12_isSheet (q.1 + 1) = some q.2.2.1 ∧ gb cX12_isSheet (q.1 + 2) = some q.2.2.2 := seg_3 SX12_isSheet _ (by decide +kernel)
theorem dX12_isSheet_0 : decode cX12_isSheet 0 = .ok (.iload_n 1, 1) := dk27 (BX12_isSheet_1_0 (0, 27) (List.mem_of_getElem? (i := 0) rfl))
theorem dX12_isSheet_1 : decode cX12_isSheet 1 = .ok (.i2l, 1) := dk133 (BX12_isSheet_1_0 (1, 133) (List.mem_of_getElem? (i := 1) rfl))
theorem dX12_isSheet_2 : decode cX12_isSheet 2 = .ok (.lconst 0, 1) := dk9 (BX12_isSheet_1_0 (2, 9) (List.mem_of_getElem? (i := 2) rfl))
theorem dX12_isSheet_3 : decode cX12_isSheet 3 = .ok (.aload_n 0, 1) := dk42 (BX12_isSheet_1_0 (3, 42) (List.mem_of_getElem? (i := 3) rfl))
theorem dX12_isSheet_4 : decode cX12_isSheet 4 = .ok (.getfield 133, 3) := dk180 0 133 (BX12_isSheet_3_0 (4, 180, 0, 133) (List.mem_of_getElem? (i := 0) rfl))
theorem dX12_isSheet_7 : decode cX12_isSheet 7 = .ok (.iconst 1, 1) := dk4 (BX12_isSheet_1_0 (7, 4) (List.mem_of_getElem? (i := 4) rfl))
theorem dX12_isSheet_8 : decode cX12_isSheet 8 = .ok (.isub, 1) := dk100 (BX12_isSheet_1_0 (8, 100) (List.mem_of_getElem? (i := 5) rfl))
theorem dX12_isSheet_9 : decode cX12_isSheet 9 = .ok (.i2l, 1) := dk133 (BX12_isSheet_1_0 (9, 133) (List.mem_of_getElem? (i := 6) rfl))
theorem dX12_isSheet_10 : decode cX12_isSheet 10 = .ok (.invokestatic 136, 3) := dk184 0 136 (BX12_isSheet_3_0 (10, 184, 0, 136) (List.mem_of_getElem? (i := 1) rfl))
theorem dX12_isSheet_13 : decode cX12_isSheet 13 = .ok (.ireturn, 1) := dk172 (BX12_isSheet_1_0 (13, 172) (List.mem_of_getElem? (i := 7) rfl))
set_option maxRecDepth 20000 in
theorem ggX12_isHole_X12_within : GoodIn wsX12_isHole wsX12_within := goodIn_g ch_wsX12_isHole_flat gd_wsX12_isHole _ [(1, 4)] rfl
set_option maxRecDepth 20000 in
theorem gX12_isHole_X12_within : GoodIn wsX12_isHole (va_wsS RX12 136 yX12_within wsX12_within) := goodIn_app (goodIn_g ch_wsX12_isHole_flat gd_wsX12_isHole _ [(1, 1), (1, 2), (1, 3)] rfl) ggX12_isHole_X12_within
set_option maxRecDepth 20000 in
theorem SX12_isHole : ∀ p : Nat, gb cX12_isHole p = segF [[27, 133, 9, 42, 180, 0, 140, 4, 100, 133, 184, 0, 136, 172]] p := seg_gb (S := [[27, 133, 9, 42, 180, 0, 140, 4, 100, 133, 184, 0, 136, 172]]) (by decide +kernel) (by decide +kernel)
set_option maxRecDepth 20000 in
theorem BX12_isHole_1_0 : ∀ q ∈ ([(0, 27), (1, 133), (2, 9), (3, 42), (7, 4), (8, 100), (9, 133), (13, 172)] : List (Nat × Nat)), gb cX12_isHole q.1 = some q.2 := seg_1 SX12_isHole _ (by decide +kernel)
set_option maxRecDepth 20000 in
theorem BX12_isHole_3_0 : ∀ q ∈ ([(4, 180, 0, 140), (10, 184, 0, 136)] : List (Nat × Nat × Nat × Nat)), gb cX12_isHole q.1 = some q.2.1 ∧ gb cX12_isHole (q.1 + 1) = some q.2.2.1 ∧ gb cX12_isHole (q.1 + 2) = some q.2.2.2 := seg_3 SX12_isHole _ (by decide +kernel)
theorem dX12_isHole_0 : decode cX12_isHole 0 = .ok (.iload_n 1, 1) := dk27 (BX12_isHole_1_0 (0, 27) (List.mem_of_getElem? (i := 0) rfl))
theorem dX12_isHole_1 : decode cX12_isHole 1 = .ok (.i2l, 1) := dk133 (BX12_isHole_1_0 (1, 133) (List.mem_of_getElem? (i := 1) rfl))
theorem dX12_isHole_2 : decode cX12_isHole 2 = .ok (.lconst 0, 1) := dk9 (BX12_isHole_1_0 (2, 9) (List.mem_of_getElem? (i := 2) rfl))
theorem dX12_isHole_3 : decode cX12_isHole 3 = .ok (.aload_n 0, 1) := dk42 (BX12_isHole_1_0 (3, 42) (List.mem_of_getElem? (i := 3) rfl))
theorem dX12_isHole_4 : decode cX12_isHole 4 = .ok (.getfield 140, 3) := dk180 0 140 (BX12_isHole_3_0 (4, 180, 0, 140) (List.mem_of_getElem? (i := 0) rfl))
theorem dX12_isHole_7 : decode cX12_isHole 7 = .ok (.iconst 1, 1) := dk4 (BX12_isHole_1_0 (7, 4) (List.mem_of_getElem? (i := 4) rfl))
theorem dX12_isHole_8 : decode cX12_isHole 8 = .ok (.isub, 1) := dk100 (BX12_isHole_1_0 (8, 100) (List.mem_of_getElem? (i := 5) rfl))
theorem dX12_isHole_9 : decode cX12_isHole 9 = .ok (.i2l, 1) := dk133 (BX12_isHole_1_0 (9, 133) (List.mem_of_getElem? (i := 6) rfl))
theorem dX12_isHole_10 : decode cX12_isHole 10 = .ok (.invokestatic 136, 3) := dk184 0 136 (BX12_isHole_3_0 (10, 184, 0, 136) (List.mem_of_getElem? (i := 1) rfl))
theorem dX12_isHole_13 : decode cX12_isHole 13 = .ok (.ireturn, 1) := dk172 (BX12_isHole_1_0 (13, 172) (List.mem_of_getElem? (i := 7) rfl))
set_option maxRecDepth 20000 in
theorem ggX12_isYear_X12_within : GoodIn wsX12_isYear wsX12_within := goodIn_r _ [5] rfl (by decide +kernel)
set_option maxRecDepth 20000 in
theorem gX12_isYear_X12_within : GoodIn wsX12_isYear (va_wsS RX12 136 yX12_within wsX12_within) := goodIn_app (goodIn_r _ [2, 3, 4] rfl (by decide +kernel)) ggX12_isYear_X12_within
set_option maxRecDepth 20000 in
theorem SX12_isYear : ∀ p : Nat, gb cX12_isYear p = segF [[26, 133, 9, 20, 0, 143, 184, 0, 136, 172]] p := seg_gb (S := [[26, 133, 9, 20, 0, 143, 184, 0, 136, 172]]) (by decide +kernel) (by decide +kernel)
set_option maxRecDepth 20000 in
theorem BX12_isYear_1_0 : ∀ q ∈ ([(0, 26), (1, 133), (2, 9), (9, 172)] : List (Nat × Nat)), gb cX12_isYear q.1 = some q.2 := seg_1 SX12_isYear _ (by decide +kernel)
set_option maxRecDepth 20000 in
theorem BX12_isYear_3_0 : ∀ q ∈ ([(3, 20, 0, 143), (6, 184, 0, 136)] : List (Nat × Nat × Nat × Nat)), gb cX12_isYear q.1 = some q.2.1 ∧ gb cX12_isYear (q.1 + 1) = some q.2.2.1 ∧ gb cX12_isYear (q.1 + 2) = some q.2.2.2 := seg_3 SX12_isYear _ (by decide +kernel)
theorem dX12_isYear_0 : decode cX12_isYear 0 = .ok (.iload_n 0, 1) := dk26 (BX12_isYear_1_0 (0, 26) (List.mem_of_getElem? (i := 0) rfl))
theorem dX12_isYear_1 : decode cX12_isYear 1 = .ok (.i2l, 1) := dk133 (BX12_isYear_1_0 (1, 133) (List.mem_of_getElem? (i := 1) rfl))
theorem dX12_isYear_2 : decode cX12_isYear 2 = .ok (.lconst 0, 1) := dk9 (BX12_isYear_1_0 (2, 9) (List.mem_of_getElem? (i := 2) rfl))
theorem dX12_isYear_3 : decode cX12_isYear 3 = .ok (.ldc2_w 143, 3) := dk20 0 143 (BX12_isYear_3_0 (3, 20, 0, 143) (List.mem_of_getElem? (i := 0) rfl))
theorem dX12_isYear_6 : decode cX12_isYear 6 = .ok (.invokestatic 136, 3) := dk184 0 136 (BX12_isYear_3_0 (6, 184, 0, 136) (List.mem_of_getElem? (i := 1) rfl))
theorem dX12_isYear_9 : decode cX12_isYear 9 = .ok (.ireturn, 1) := dk172 (BX12_isYear_1_0 (9, 172) (List.mem_of_getElem? (i := 3) rfl))
set_option maxRecDepth 20000 in
theorem ggX12_isSlack_X12_within : GoodIn wsX12_isSlack wsX12_within := goodIn_r _ [5] rfl (by decide +kernel)
set_option maxRecDepth 20000 in
theorem gX12_isSlack_X12_within : GoodIn wsX12_isSlack (va_wsS RX12 136 yX12_within wsX12_within) := goodIn_app (goodIn_r _ [2, 3, 4] rfl (by decide +kernel)) ggX12_isSlack_X12_within
set_option maxRecDepth 20000 in
theorem SX12_isSlack : ∀ p : Nat, gb cX12_isSlack p = segF [[26, 133, 9, 20, 0, 145, 184, 0, 136, 172]] p := seg_gb (S := [[26, 133, 9, 20, 0, 145, 184, 0, 136, 172]]) (by decide +kernel) (by decide +kernel)
set_option maxRecDepth 20000 in
theorem BX12_isSlack_1_0 : ∀ q ∈ ([(0, 26), (1, 133), (2, 9), (9, 172)] : List (Nat × Nat)), gb cX12_isSlack q.1 = some q.2 := seg_1 SX12_isSlack _ (by decide +kernel)
set_option maxRecDepth 20000 in
theorem BX12_isSlack_3_0 : ∀ q ∈ ([(3, 20, 0, 145), (6, 184, 0, 136)] : List (Nat × Nat × Nat × Nat)), gb cX12_isSlack q.1 = some q.2.1 ∧ gb cX12_isSlack (q.1 + 1) = some q.2.2.1 ∧ gb cX12_isSlack (q.1 + 2) = some q.2.2.2 := seg_3 SX12_isSlack _ (by decide +kernel)
theorem dX12_isSlack_0 : decode cX12_isSlack 0 = .ok (.iload_n 0, 1) := dk26 (BX12_isSlack_1_0 (0, 26) (List.mem_of_getElem? (i := 0) rfl))
theorem dX12_isSlack_1 : decode cX12_isSlack 1 = .ok (.i2l, 1) := dk133 (BX12_isSlack_1_0 (1, 133) (List.mem_of_getElem? (i := 1) rfl))
theorem dX12_isSlack_2 : decode cX12_isSlack 2 = .ok (.lconst 0, 1) := dk9 (BX12_isSlack_1_0 (2, 9) (List.mem_of_getElem? (i := 2) rfl))
theorem dX12_isSlack_3 : decode cX12_isSlack 3 = .ok (.ldc2_w 145, 3) := dk20 0 145 (BX12_isSlack_3_0 (3, 20, 0, 145) (List.mem_of_getElem? (i := 0) rfl))
theorem dX12_isSlack_6 : decode cX12_isSlack 6 = .ok (.invokestatic 136, 3) := dk184 0 136 (BX12_isSlack_3_0 (6, 184, 0, 136) (List.mem_of_getElem? (i := 1) rfl))
theorem dX12_isSlack_9 : decode cX12_isSlack 9 = .ok (.ireturn, 1) := dk172 (BX12_isSlack_1_0 (9, 172) (List.mem_of_getElem? (i := 3) rfl))
set_option maxRecDepth 20000 in
theorem ggX12_sheet_X12_isYear : GoodIn wsX12_sheet wsX12_isYear := goodIn_g ch_wsX12_sheet_flat gd_wsX12_sheet _ [(1, 5), (1, 6), (1, 7), (1, 8), (1, 4), (1, 9)] rfl
set_option maxRecDepth 20000 in
theorem gX12_sheet_X12_isYear : GoodIn wsX12_sheet (va_wsS RX12 147 yX12_isYear wsX12_isYear) := goodIn_app (goodIn_g ch_wsX12_sheet_flat gd_wsX12_sheet _ [(1, 2), (1, 3), (1, 4)] rfl) ggX12_sheet_X12_isYear
set_option maxRecDepth 20000 in
theorem SX12_sheet : ∀ p : Nat, gb cX12_sheet p = segF [[27, 184, 0, 147, 154, 0, 5, 2, 172, 42, 180, 0, 133, 16, 8, 160, 0, 6, 16, 253, 172, 42, 180, 0, 9, 16, 47, 42, 180, 0, 133, 96, 27, 79, 42, 89, 180, 0, 133, 4, 96, 181, 0, 133, 42, 180, 0, 133, 4, 100, 172]] p := seg_gb (S := [[27, 184, 0, 147, 154, 0, 5, 2, 172, 42, 180, 0, 133, 16, 8, 160, 0, 6, 16, 253, 172, 42, 180, 0, 9, 16, 47, 42, 180, 0, 133, 96, 27, 79, 42, 89, 180, 0, 133, 4, 96, 181, 0, 133, 42, 180, 0, 133, 4, 100, 172]]) (by decide +kernel) (by decide +kernel)
set_option maxRecDepth 20000 in
theorem BX12_sheet_1_0 : ∀ q ∈ ([(0, 27), (7, 2), (8, 172), (9, 42), (20, 172), (21, 42), (27, 42), (31, 96), (32, 27), (33, 79), (34, 42), (35, 89)] : List (Nat × Nat)), gb cX12_sheet q.1 = some q.2 := seg_1 SX12_sheet _ (by decide +kernel)
set_option maxRecDepth 20000 in
theorem BX12_sheet_1_1 : ∀ q ∈ ([(39, 4), (40, 96), (44, 42), (48, 4), (49, 100), (50, 172)] : List (Nat × Nat)), gb cX12_sheet q.1 = some q.2 := seg_1 SX12_sheet _ (by decide +kernel)
set_option maxRecDepth 20000 in
theorem BX12_sheet_2_0 : ∀ q ∈ ([(13, 16, 8), (18, 16, 253), (25, 16, 47)] : List (Nat × Nat × Nat)), gb cX12_sheet q.1 = some q.2.1 ∧ gb cX12_sheet (q.1 + 1) = some q.2.2 := seg_2 SX12_sheet _ (by decide +kernel)
set_option maxRecDepth 20000 in
theorem BX12_sheet_3_0 : ∀ q ∈ ([(1, 184, 0, 147), (4, 154, 0, 5), (10, 180, 0, 133), (15, 160, 0, 6), (22, 180, 0, 9), (28, 180, 0, 133), (36, 180, 0, 133), (41, 181, 0, 133), (45, 180, 0, 133)] : List (Nat × Nat × Nat × Nat)), gb cX12_sheet q.1 = some q.2.1 ∧ gb cX12_sheet (q.1 + 1) = some q.2.2.1 ∧ gb cX12_sheet (q.1 + 2) = some q.2.2.2 := seg_3 SX12_sheet _ (by decide +kernel)
theorem dX12_sheet_0 : decode cX12_sheet 0 = .ok (.iload_n 1, 1) := dk27 (BX12_sheet_1_0 (0, 27) (List.mem_of_getElem? (i := 0) rfl))
theorem dX12_sheet_1 : decode cX12_sheet 1 = .ok (.invokestatic 147, 3) := dk184 0 147 (BX12_sheet_3_0 (1, 184, 0, 147) (List.mem_of_getElem? (i := 0) rfl))
theorem dX12_sheet_4 : decode cX12_sheet 4 = .ok (.ifCond .ne 5, 3) := dk154 0 5 (BX12_sheet_3_0 (4, 154, 0, 5) (List.mem_of_getElem? (i := 1) rfl))
theorem dX12_sheet_7 : decode cX12_sheet 7 = .ok (.iconst (-1), 1) := dk2 (BX12_sheet_1_0 (7, 2) (List.mem_of_getElem? (i := 1) rfl))
theorem dX12_sheet_8 : decode cX12_sheet 8 = .ok (.ireturn, 1) := dk172 (BX12_sheet_1_0 (8, 172) (List.mem_of_getElem? (i := 2) rfl))
theorem dX12_sheet_9 : decode cX12_sheet 9 = .ok (.aload_n 0, 1) := dk42 (BX12_sheet_1_0 (9, 42) (List.mem_of_getElem? (i := 3) rfl))
theorem dX12_sheet_10 : decode cX12_sheet 10 = .ok (.getfield 133, 3) := dk180 0 133 (BX12_sheet_3_0 (10, 180, 0, 133) (List.mem_of_getElem? (i := 2) rfl))
theorem dX12_sheet_13 : decode cX12_sheet 13 = .ok (.bipush 8, 2) := dk16 8 (BX12_sheet_2_0 (13, 16, 8) (List.mem_of_getElem? (i := 0) rfl))
theorem dX12_sheet_15 : decode cX12_sheet 15 = .ok (.if_icmp .ne 6, 3) := dk160 0 6 (BX12_sheet_3_0 (15, 160, 0, 6) (List.mem_of_getElem? (i := 3) rfl))
theorem dX12_sheet_18 : decode cX12_sheet 18 = .ok (.bipush (-3), 2) := dk16 253 (BX12_sheet_2_0 (18, 16, 253) (List.mem_of_getElem? (i := 1) rfl))
theorem dX12_sheet_20 : decode cX12_sheet 20 = .ok (.ireturn, 1) := dk172 (BX12_sheet_1_0 (20, 172) (List.mem_of_getElem? (i := 4) rfl))
theorem dX12_sheet_21 : decode cX12_sheet 21 = .ok (.aload_n 0, 1) := dk42 (BX12_sheet_1_0 (21, 42) (List.mem_of_getElem? (i := 5) rfl))
theorem dX12_sheet_22 : decode cX12_sheet 22 = .ok (.getfield 9, 3) := dk180 0 9 (BX12_sheet_3_0 (22, 180, 0, 9) (List.mem_of_getElem? (i := 4) rfl))
theorem dX12_sheet_25 : decode cX12_sheet 25 = .ok (.bipush 47, 2) := dk16 47 (BX12_sheet_2_0 (25, 16, 47) (List.mem_of_getElem? (i := 2) rfl))
theorem dX12_sheet_27 : decode cX12_sheet 27 = .ok (.aload_n 0, 1) := dk42 (BX12_sheet_1_0 (27, 42) (List.mem_of_getElem? (i := 6) rfl))
theorem dX12_sheet_28 : decode cX12_sheet 28 = .ok (.getfield 133, 3) := dk180 0 133 (BX12_sheet_3_0 (28, 180, 0, 133) (List.mem_of_getElem? (i := 5) rfl))
theorem dX12_sheet_31 : decode cX12_sheet 31 = .ok (.iadd, 1) := dk96 (BX12_sheet_1_0 (31, 96) (List.mem_of_getElem? (i := 7) rfl))
theorem dX12_sheet_32 : decode cX12_sheet 32 = .ok (.iload_n 1, 1) := dk27 (BX12_sheet_1_0 (32, 27) (List.mem_of_getElem? (i := 8) rfl))
theorem dX12_sheet_33 : decode cX12_sheet 33 = .ok (.iastore, 1) := dk79 (BX12_sheet_1_0 (33, 79) (List.mem_of_getElem? (i := 9) rfl))
theorem dX12_sheet_34 : decode cX12_sheet 34 = .ok (.aload_n 0, 1) := dk42 (BX12_sheet_1_0 (34, 42) (List.mem_of_getElem? (i := 10) rfl))
theorem dX12_sheet_35 : decode cX12_sheet 35 = .ok (.dup, 1) := dk89 (BX12_sheet_1_0 (35, 89) (List.mem_of_getElem? (i := 11) rfl))
theorem dX12_sheet_36 : decode cX12_sheet 36 = .ok (.getfield 133, 3) := dk180 0 133 (BX12_sheet_3_0 (36, 180, 0, 133) (List.mem_of_getElem? (i := 6) rfl))
theorem dX12_sheet_39 : decode cX12_sheet 39 = .ok (.iconst 1, 1) := dk4 (BX12_sheet_1_1 (39, 4) (List.mem_of_getElem? (i := 0) rfl))
theorem dX12_sheet_40 : decode cX12_sheet 40 = .ok (.iadd, 1) := dk96 (BX12_sheet_1_1 (40, 96) (List.mem_of_getElem? (i := 1) rfl))
theorem dX12_sheet_41 : decode cX12_sheet 41 = .ok (.putfield 133, 3) := dk181 0 133 (BX12_sheet_3_0 (41, 181, 0, 133) (List.mem_of_getElem? (i := 7) rfl))
theorem dX12_sheet_44 : decode cX12_sheet 44 = .ok (.aload_n 0, 1) := dk42 (BX12_sheet_1_1 (44, 42) (List.mem_of_getElem? (i := 2) rfl))
theorem dX12_sheet_45 : decode cX12_sheet 45 = .ok (.getfield 133, 3) := dk180 0 133 (BX12_sheet_3_0 (45, 180, 0, 133) (List.mem_of_getElem? (i := 8) rfl))
theorem dX12_sheet_48 : decode cX12_sheet 48 = .ok (.iconst 1, 1) := dk4 (BX12_sheet_1_1 (48, 4) (List.mem_of_getElem? (i := 3) rfl))
theorem dX12_sheet_49 : decode cX12_sheet 49 = .ok (.isub, 1) := dk100 (BX12_sheet_1_1 (49, 100) (List.mem_of_getElem? (i := 4) rfl))
theorem dX12_sheet_50 : decode cX12_sheet 50 = .ok (.ireturn, 1) := dk172 (BX12_sheet_1_1 (50, 172) (List.mem_of_getElem? (i := 5) rfl))
set_option maxRecDepth 20000 in
theorem ggX12_age_X12_isSheet : GoodIn wsX12_age wsX12_isSheet := gcons (goodIn_g ch_wsX12_age_flat gd_wsX12_age _ [(1, 4)] rfl) (goodIn_app (goodIn_g ch_wsX12_age_flat gd_wsX12_age _ [(1, 5), (1, 6), (1, 7), (1, 3), (1, 8)] rfl) (gchunk ch_wsX12_age_flat gd_wsX12_age 2 rfl))
set_option maxRecDepth 20000 in
theorem gX12_age_X12_isSheet : GoodIn wsX12_age (wsV RX12 151 RX12 yX12_isSheet wsX12_isSheet) := goodIn_app (goodIn_g ch_wsX12_age_flat gd_wsX12_age _ [(1, 0), (1, 1), (1, 2), (1, 3)] rfl) ggX12_age_X12_isSheet
set_option maxRecDepth 20000 in
theorem ggX12_age_X12_isYear : GoodIn wsX12_age wsX12_isYear := goodIn_g ch_wsX12_age_flat gd_wsX12_age _ [(1, 11), (1, 12), (1, 6), (1, 7), (1, 3), (1, 8)] rfl
set_option maxRecDepth 20000 in
theorem gX12_age_X12_isYear : GoodIn wsX12_age (va_wsS RX12 147 yX12_isYear wsX12_isYear) := goodIn_app (goodIn_g ch_wsX12_age_flat gd_wsX12_age _ [(1, 9), (1, 10), (1, 3)] rfl) ggX12_age_X12_isYear
set_option maxRecDepth 20000 in
theorem ggX12_age_X12_becomes : GoodIn wsX12_age wsX12_becomes := gcons (goodIn_g ch_wsX12_age_flat gd_wsX12_age _ [(1, 16)] rfl) (goodIn_app (goodIn_g ch_wsX12_age_flat gd_wsX12_age _ [(1, 17), (1, 18), (1, 19), (1, 20), (1, 21), (1, 22)] rfl) (gchunk ch_wsX12_age_flat gd_wsX12_age 2 rfl))
set_option maxRecDepth 20000 in
theorem gX12_age_X12_becomes : GoodIn wsX12_age (wsV RX12 154 RX12 yX12_becomes wsX12_becomes) := goodIn_app (goodIn_g ch_wsX12_age_flat gd_wsX12_age _ [(1, 13), (1, 14), (1, 15), (1, 3)] rfl) ggX12_age_X12_becomes
set_option maxRecDepth 20000 in
theorem SX12_age : ∀ p : Nat, gb cX12_age p = segF [[42, 27, 182, 0, 151, 153, 0, 22, 28, 184, 0, 147, 153, 0, 15, 42, 16, 47, 27, 96, 28, 182, 0, 154, 167, 0, 4, 2, 172]] p := seg_gb (S := [[42, 27, 182, 0, 151, 153, 0, 22, 28, 184, 0, 147, 153, 0, 15, 42, 16, 47, 27, 96, 28, 182, 0, 154, 167, 0, 4, 2, 172]]) (by decide +kernel) (by decide +kernel)
set_option maxRecDepth 20000 in
theorem BX12_age_1_0 : ∀ q ∈ ([(0, 42), (1, 27), (8, 28), (15, 42), (18, 27), (19, 96), (20, 28), (27, 2), (28, 172)] : List (Nat × Nat)), gb cX12_age q.1 = some q.2 := seg_1 SX12_age _ (by decide +kernel)
set_option maxRecDepth 20000 in
theorem BX12_age_2_0 : ∀ q ∈ ([(16, 16, 47)] : List (Nat × Nat × Nat)), gb cX12_age q.1 = some q.2.1 ∧ gb cX12_age (q.1 + 1) = some q.2.2 := seg_2 SX12_age _ (by decide +kernel)
set_option maxRecDepth 20000 in
theorem BX12_age_3_0 : ∀ q ∈ ([(2, 182, 0, 151), (5, 153, 0, 22), (9, 184, 0, 147), (12, 153, 0, 15), (21, 182, 0, 154), (24, 167, 0, 4)] : List (Nat × Nat × Nat × Nat)), gb cX12_age q.1 = some q.2.1 ∧ gb cX12_age (q.1 + 1) = some q.2.2.1 ∧ gb cX12_age (q.1 + 2) = some q.2.2.2 := seg_3 SX12_age _ (by decide +kernel)
theorem dX12_age_0 : decode cX12_age 0 = .ok (.aload_n 0, 1) := dk42 (BX12_age_1_0 (0, 42) (List.mem_of_getElem? (i := 0) rfl))
theorem dX12_age_1 : decode cX12_age 1 = .ok (.iload_n 1, 1) := dk27 (BX12_age_1_0 (1, 27) (List.mem_of_getElem? (i := 1) rfl))
theorem dX12_age_2 : decode cX12_age 2 = .ok (.invokevirtual 151, 3) := dk182 0 151 (BX12_age_3_0 (2, 182, 0, 151) (List.mem_of_getElem? (i := 0) rfl))
theorem dX12_age_5 : decode cX12_age 5 = .ok (.ifCond .eq 22, 3) := dk153 0 22 (BX12_age_3_0 (5, 153, 0, 22) (List.mem_of_getElem? (i := 1) rfl))
theorem dX12_age_8 : decode cX12_age 8 = .ok (.iload_n 2, 1) := dk28 (BX12_age_1_0 (8, 28) (List.mem_of_getElem? (i := 2) rfl))
theorem dX12_age_9 : decode cX12_age 9 = .ok (.invokestatic 147, 3) := dk184 0 147 (BX12_age_3_0 (9, 184, 0, 147) (List.mem_of_getElem? (i := 2) rfl))
theorem dX12_age_12 : decode cX12_age 12 = .ok (.ifCond .eq 15, 3) := dk153 0 15 (BX12_age_3_0 (12, 153, 0, 15) (List.mem_of_getElem? (i := 3) rfl))
theorem dX12_age_15 : decode cX12_age 15 = .ok (.aload_n 0, 1) := dk42 (BX12_age_1_0 (15, 42) (List.mem_of_getElem? (i := 3) rfl))
theorem dX12_age_16 : decode cX12_age 16 = .ok (.bipush 47, 2) := dk16 47 (BX12_age_2_0 (16, 16, 47) (List.mem_of_getElem? (i := 0) rfl))
theorem dX12_age_18 : decode cX12_age 18 = .ok (.iload_n 1, 1) := dk27 (BX12_age_1_0 (18, 27) (List.mem_of_getElem? (i := 4) rfl))
theorem dX12_age_19 : decode cX12_age 19 = .ok (.iadd, 1) := dk96 (BX12_age_1_0 (19, 96) (List.mem_of_getElem? (i := 5) rfl))
theorem dX12_age_20 : decode cX12_age 20 = .ok (.iload_n 2, 1) := dk28 (BX12_age_1_0 (20, 28) (List.mem_of_getElem? (i := 6) rfl))
theorem dX12_age_21 : decode cX12_age 21 = .ok (.invokevirtual 154, 3) := dk182 0 154 (BX12_age_3_0 (21, 182, 0, 154) (List.mem_of_getElem? (i := 4) rfl))
theorem dX12_age_24 : decode cX12_age 24 = .ok (.goto 4, 3) := dk167 0 4 (BX12_age_3_0 (24, 167, 0, 4) (List.mem_of_getElem? (i := 5) rfl))
theorem dX12_age_27 : decode cX12_age 27 = .ok (.iconst (-1), 1) := dk2 (BX12_age_1_0 (27, 2) (List.mem_of_getElem? (i := 7) rfl))
theorem dX12_age_28 : decode cX12_age 28 = .ok (.ireturn, 1) := dk172 (BX12_age_1_0 (28, 172) (List.mem_of_getElem? (i := 8) rfl))
set_option maxRecDepth 20000 in
theorem ggX12_hole_X12_isSheet : GoodIn wsX12_hole wsX12_isSheet := gcons (goodIn_g ch_wsX12_hole_flat gd_wsX12_hole _ [(1, 8)] rfl) (goodIn_app (goodIn_g ch_wsX12_hole_flat gd_wsX12_hole _ [(1, 9), (1, 10), (1, 11), (1, 7), (1, 12)] rfl) (gchunk ch_wsX12_hole_flat gd_wsX12_hole 2 rfl))
set_option maxRecDepth 20000 in
theorem gX12_hole_X12_isSheet : GoodIn wsX12_hole (wsV RX12 151 RX12 yX12_isSheet wsX12_isSheet) := goodIn_app (goodIn_g ch_wsX12_hole_flat gd_wsX12_hole _ [(1, 4), (1, 5), (1, 6), (1, 7)] rfl) ggX12_hole_X12_isSheet
set_option maxRecDepth 20000 in
theorem ggX12_hole_X12_within : GoodIn wsX12_hole wsX12_within := goodIn_g ch_wsX12_hole_flat gd_wsX12_hole _ [(1, 12)] rfl
set_option maxRecDepth 20000 in
theorem gX12_hole_X12_within : GoodIn wsX12_hole (va_wsS RX12 136 yX12_within wsX12_within) := goodIn_app (goodIn_g ch_wsX12_hole_flat gd_wsX12_hole _ [(1, 10), (1, 11), (1, 7)] rfl) ggX12_hole_X12_within
set_option maxRecDepth 20000 in
theorem SX12_hole : ∀ p : Nat, gb cX12_hole p = segF [[42, 27, 182, 0, 151, 153, 0, 15, 28, 133, 9, 20, 0, 158, 184, 0, 136, 154, 0, 5, 2, 172, 42, 180, 0, 140, 16, 40, 160, 0, 6, 16, 253, 172, 42, 180, 0, 22, 42, 180, 0, 140, 27, 79, 42, 180, 0, 25, 42, 180, 0, 140, 28, 79, 42, 89, 180, 0, 140, 4, 96, 181, 0, 140], [42, 180, 0, 140, 4, 100, 172]] p := seg_gb (S := [[42, 27, 182, 0, 151, 153, 0, 15, 28, 133, 9, 20, 0, 158, 184, 0, 136, 154, 0, 5, 2, 172, 42, 180, 0, 140, 16, 40, 160, 0, 6, 16, 253, 172, 42, 180, 0, 22, 42, 180, 0, 140, 27, 79, 42, 180, 0, 25, 42, 180, 0, 140, 28, 79, 42, 89, 180, 0, 140, 4, 96, 181, 0, 140], [42, 180, 0, 140, 4, 100, 172]]) (by decide +kernel) (by decide +kernel)
set_option maxRecDepth 20000 in
theorem BX12_hole_1_0 : ∀ q ∈ ([(0, 42), (1, 27), (8, 28), (9, 133), (10, 9), (20, 2), (21, 172), (22, 42), (33, 172), (34, 42), (38, 42), (42, 27)] : List (Nat × Nat)), gb cX12_hole q.1 = some q.2 := seg_1 SX12_hole _ (by decide +kernel)
set_option maxRecDepth 20000 in
theorem BX12_hole_1_1 : ∀ q ∈ ([(43, 79), (44, 42), (48, 42), (52, 28), (53, 79), (54, 42), (55, 89), (59, 4), (60, 96), (64, 42), (68, 4), (69, 100)] : List (Nat × Nat)), gb cX12_hole q.1 = some q.2 := seg_1 SX12_hole _ (by decide +kernel)
set_option maxRecDepth 20000 in
theorem BX12_hole_1_2 : ∀ q ∈ ([(70, 172)] : List (Nat × Nat)), gb cX12_hole q.1 = some q.2 := seg_1 SX12_hole _ (by decide +kernel)
set_option maxRecDepth 20000 in
theorem BX12_hole_2_0 : ∀ q ∈ ([(26, 16, 40), (31, 16, 253)] : List (Nat × Nat × Nat)), gb cX12_hole q.1 = some q.2.1 ∧ gb cX12_hole (q.1 + 1) = some q.2.2 := seg_2 SX12_hole _ (by decide +kernel)
set_option maxRecDepth 20000 in
theorem BX12_hole_3_0 : ∀ q ∈ ([(2, 182, 0, 151), (5, 153, 0, 15), (11, 20, 0, 158), (14, 184, 0, 136), (17, 154, 0, 5), (23, 180, 0, 140), (28, 160, 0, 6), (35, 180, 0, 22), (39, 180, 0, 140), (45, 180, 0, 25), (49, 180, 0, 140), (56, 180, 0, 140)] : List (Nat × Nat × Nat × Nat)), gb cX12_hole q.1 = some q.2.1 ∧ gb cX12_hole (q.1 + 1) = some q.2.2.1 ∧ gb cX12_hole (q.1 + 2) = some q.2.2.2 := seg_3 SX12_hole _ (by decide +kernel)
set_option maxRecDepth 20000 in
theorem BX12_hole_3_1 : ∀ q ∈ ([(61, 181, 0, 140), (65, 180, 0, 140)] : List (Nat × Nat × Nat × Nat)), gb cX12_hole q.1 = some q.2.1 ∧ gb cX12_hole (q.1 + 1) = some q.2.2.1 ∧ gb cX12_hole (q.1 + 2) = some q.2.2.2 := seg_3 SX12_hole _ (by decide +kernel)
theorem dX12_hole_0 : decode cX12_hole 0 = .ok (.aload_n 0, 1) := dk42 (BX12_hole_1_0 (0, 42) (List.mem_of_getElem? (i := 0) rfl))
theorem dX12_hole_1 : decode cX12_hole 1 = .ok (.iload_n 1, 1) := dk27 (BX12_hole_1_0 (1, 27) (List.mem_of_getElem? (i := 1) rfl))
theorem dX12_hole_2 : decode cX12_hole 2 = .ok (.invokevirtual 151, 3) := dk182 0 151 (BX12_hole_3_0 (2, 182, 0, 151) (List.mem_of_getElem? (i := 0) rfl))
theorem dX12_hole_5 : decode cX12_hole 5 = .ok (.ifCond .eq 15, 3) := dk153 0 15 (BX12_hole_3_0 (5, 153, 0, 15) (List.mem_of_getElem? (i := 1) rfl))
theorem dX12_hole_8 : decode cX12_hole 8 = .ok (.iload_n 2, 1) := dk28 (BX12_hole_1_0 (8, 28) (List.mem_of_getElem? (i := 2) rfl))
theorem dX12_hole_9 : decode cX12_hole 9 = .ok (.i2l, 1) := dk133 (BX12_hole_1_0 (9, 133) (List.mem_of_getElem? (i := 3) rfl))
theorem dX12_hole_10 : decode cX12_hole 10 = .ok (.lconst 0, 1) := dk9 (BX12_hole_1_0 (10, 9) (List.mem_of_getElem? (i := 4) rfl))
theorem dX12_hole_11 : decode cX12_hole 11 = .ok (.ldc2_w 158, 3) := dk20 0 158 (BX12_hole_3_0 (11, 20, 0, 158) (List.mem_of_getElem? (i := 2) rfl))
theorem dX12_hole_14 : decode cX12_hole 14 = .ok (.invokestatic 136, 3) := dk184 0 136 (BX12_hole_3_0 (14, 184, 0, 136) (List.mem_of_getElem? (i := 3) rfl))
theorem dX12_hole_17 : decode cX12_hole 17 = .ok (.ifCond .ne 5, 3) := dk154 0 5 (BX12_hole_3_0 (17, 154, 0, 5) (List.mem_of_getElem? (i := 4) rfl))
theorem dX12_hole_20 : decode cX12_hole 20 = .ok (.iconst (-1), 1) := dk2 (BX12_hole_1_0 (20, 2) (List.mem_of_getElem? (i := 5) rfl))
theorem dX12_hole_21 : decode cX12_hole 21 = .ok (.ireturn, 1) := dk172 (BX12_hole_1_0 (21, 172) (List.mem_of_getElem? (i := 6) rfl))
theorem dX12_hole_22 : decode cX12_hole 22 = .ok (.aload_n 0, 1) := dk42 (BX12_hole_1_0 (22, 42) (List.mem_of_getElem? (i := 7) rfl))
theorem dX12_hole_23 : decode cX12_hole 23 = .ok (.getfield 140, 3) := dk180 0 140 (BX12_hole_3_0 (23, 180, 0, 140) (List.mem_of_getElem? (i := 5) rfl))
theorem dX12_hole_26 : decode cX12_hole 26 = .ok (.bipush 40, 2) := dk16 40 (BX12_hole_2_0 (26, 16, 40) (List.mem_of_getElem? (i := 0) rfl))
theorem dX12_hole_28 : decode cX12_hole 28 = .ok (.if_icmp .ne 6, 3) := dk160 0 6 (BX12_hole_3_0 (28, 160, 0, 6) (List.mem_of_getElem? (i := 6) rfl))
theorem dX12_hole_31 : decode cX12_hole 31 = .ok (.bipush (-3), 2) := dk16 253 (BX12_hole_2_0 (31, 16, 253) (List.mem_of_getElem? (i := 1) rfl))
theorem dX12_hole_33 : decode cX12_hole 33 = .ok (.ireturn, 1) := dk172 (BX12_hole_1_0 (33, 172) (List.mem_of_getElem? (i := 8) rfl))
theorem dX12_hole_34 : decode cX12_hole 34 = .ok (.aload_n 0, 1) := dk42 (BX12_hole_1_0 (34, 42) (List.mem_of_getElem? (i := 9) rfl))
theorem dX12_hole_35 : decode cX12_hole 35 = .ok (.getfield 22, 3) := dk180 0 22 (BX12_hole_3_0 (35, 180, 0, 22) (List.mem_of_getElem? (i := 7) rfl))
theorem dX12_hole_38 : decode cX12_hole 38 = .ok (.aload_n 0, 1) := dk42 (BX12_hole_1_0 (38, 42) (List.mem_of_getElem? (i := 10) rfl))
theorem dX12_hole_39 : decode cX12_hole 39 = .ok (.getfield 140, 3) := dk180 0 140 (BX12_hole_3_0 (39, 180, 0, 140) (List.mem_of_getElem? (i := 8) rfl))
theorem dX12_hole_42 : decode cX12_hole 42 = .ok (.iload_n 1, 1) := dk27 (BX12_hole_1_0 (42, 27) (List.mem_of_getElem? (i := 11) rfl))
theorem dX12_hole_43 : decode cX12_hole 43 = .ok (.iastore, 1) := dk79 (BX12_hole_1_1 (43, 79) (List.mem_of_getElem? (i := 0) rfl))
theorem dX12_hole_44 : decode cX12_hole 44 = .ok (.aload_n 0, 1) := dk42 (BX12_hole_1_1 (44, 42) (List.mem_of_getElem? (i := 1) rfl))
theorem dX12_hole_45 : decode cX12_hole 45 = .ok (.getfield 25, 3) := dk180 0 25 (BX12_hole_3_0 (45, 180, 0, 25) (List.mem_of_getElem? (i := 9) rfl))
theorem dX12_hole_48 : decode cX12_hole 48 = .ok (.aload_n 0, 1) := dk42 (BX12_hole_1_1 (48, 42) (List.mem_of_getElem? (i := 2) rfl))
theorem dX12_hole_49 : decode cX12_hole 49 = .ok (.getfield 140, 3) := dk180 0 140 (BX12_hole_3_0 (49, 180, 0, 140) (List.mem_of_getElem? (i := 10) rfl))
theorem dX12_hole_52 : decode cX12_hole 52 = .ok (.iload_n 2, 1) := dk28 (BX12_hole_1_1 (52, 28) (List.mem_of_getElem? (i := 3) rfl))
theorem dX12_hole_53 : decode cX12_hole 53 = .ok (.iastore, 1) := dk79 (BX12_hole_1_1 (53, 79) (List.mem_of_getElem? (i := 4) rfl))
theorem dX12_hole_54 : decode cX12_hole 54 = .ok (.aload_n 0, 1) := dk42 (BX12_hole_1_1 (54, 42) (List.mem_of_getElem? (i := 5) rfl))
theorem dX12_hole_55 : decode cX12_hole 55 = .ok (.dup, 1) := dk89 (BX12_hole_1_1 (55, 89) (List.mem_of_getElem? (i := 6) rfl))
theorem dX12_hole_56 : decode cX12_hole 56 = .ok (.getfield 140, 3) := dk180 0 140 (BX12_hole_3_0 (56, 180, 0, 140) (List.mem_of_getElem? (i := 11) rfl))
theorem dX12_hole_59 : decode cX12_hole 59 = .ok (.iconst 1, 1) := dk4 (BX12_hole_1_1 (59, 4) (List.mem_of_getElem? (i := 7) rfl))
theorem dX12_hole_60 : decode cX12_hole 60 = .ok (.iadd, 1) := dk96 (BX12_hole_1_1 (60, 96) (List.mem_of_getElem? (i := 8) rfl))
theorem dX12_hole_61 : decode cX12_hole 61 = .ok (.putfield 140, 3) := dk181 0 140 (BX12_hole_3_1 (61, 181, 0, 140) (List.mem_of_getElem? (i := 0) rfl))
theorem dX12_hole_64 : decode cX12_hole 64 = .ok (.aload_n 0, 1) := dk42 (BX12_hole_1_1 (64, 42) (List.mem_of_getElem? (i := 9) rfl))
theorem dX12_hole_65 : decode cX12_hole 65 = .ok (.getfield 140, 3) := dk180 0 140 (BX12_hole_3_1 (65, 180, 0, 140) (List.mem_of_getElem? (i := 1) rfl))
theorem dX12_hole_68 : decode cX12_hole 68 = .ok (.iconst 1, 1) := dk4 (BX12_hole_1_1 (68, 4) (List.mem_of_getElem? (i := 10) rfl))
theorem dX12_hole_69 : decode cX12_hole 69 = .ok (.isub, 1) := dk100 (BX12_hole_1_1 (69, 100) (List.mem_of_getElem? (i := 11) rfl))
theorem dX12_hole_70 : decode cX12_hole 70 = .ok (.ireturn, 1) := dk172 (BX12_hole_1_2 (70, 172) (List.mem_of_getElem? (i := 0) rfl))
set_option maxRecDepth 20000 in
theorem SX12_findWorms : ∀ p : Nat, gb cX12_findWorms p = segF [[3, 62, 3, 54, 4, 21, 4, 42, 180, 0, 140, 162, 0, 94, 42, 180, 0, 31, 21, 4, 2, 79, 42, 180, 0, 22, 21, 4, 46, 28, 159, 0, 69, 29, 54, 5, 21, 5, 158, 0, 49, 42, 180, 0, 25, 42, 180, 0, 28, 21, 5, 4, 100, 46, 46, 42, 180, 0, 25, 21, 4, 46, 164, 0], [25, 42, 180, 0, 28, 21, 5, 42, 180, 0, 28, 21, 5, 4, 100, 46, 79, 132, 5, 255, 167, 255, 208, 42, 180, 0, 28, 21, 5, 21, 4, 79, 132, 3, 1, 132, 4, 1, 167, 255, 159, 42, 3, 181, 0, 160, 3, 54, 4, 21, 4, 29, 162, 0, 147, 42, 180, 0, 28, 21, 4, 46, 54, 5], [4, 42, 180, 0, 22, 21, 5, 46, 120, 54, 6, 21, 4, 158, 0, 59, 42, 180, 0, 25, 21, 5, 46, 42, 180, 0, 25, 42, 180, 0, 28, 21, 4, 158, 0, 10, 21, 4, 4, 100, 167, 0, 4, 3, 46, 46, 100, 27, 163, 0, 24, 42, 180, 0, 34, 42, 180, 0, 160, 4, 100, 46, 21, 6], [126, 154, 0, 7, 4, 167, 0, 4, 3, 54, 7, 21, 7, 154, 0, 23, 42, 180, 0, 34, 42, 180, 0, 160, 3, 79, 42, 89, 180, 0, 160, 4, 96, 181, 0, 160, 42, 180, 0, 34, 42, 180, 0, 160, 4, 100, 92, 46, 21, 6, 128, 79, 42, 180, 0, 31, 21, 5, 42, 180, 0, 160, 4, 100], [79, 132, 4, 1, 167, 255, 109, 177]] p := seg_gb (S := [[3, 62, 3, 54, 4, 21, 4, 42, 180, 0, 140, 162, 0, 94, 42, 180, 0, 31, 21, 4, 2, 79, 42, 180, 0, 22, 21, 4, 46, 28, 159, 0, 69, 29, 54, 5, 21, 5, 158, 0, 49, 42, 180, 0, 25, 42, 180, 0, 28, 21, 5, 4, 100, 46, 46, 42, 180, 0, 25, 21, 4, 46, 164, 0], [25, 42, 180, 0, 28, 21, 5, 42, 180, 0, 28, 21, 5, 4, 100, 46, 79, 132, 5, 255, 167, 255, 208, 42, 180, 0, 28, 21, 5, 21, 4, 79, 132, 3, 1, 132, 4, 1, 167, 255, 159, 42, 3, 181, 0, 160, 3, 54, 4, 21, 4, 29, 162, 0, 147, 42, 180, 0, 28, 21, 4, 46, 54, 5], [4, 42, 180, 0, 22, 21, 5, 46, 120, 54, 6, 21, 4, 158, 0, 59, 42, 180, 0, 25, 21, 5, 46, 42, 180, 0, 25, 42, 180, 0, 28, 21, 4, 158, 0, 10, 21, 4, 4, 100, 167, 0, 4, 3, 46, 46, 100, 27, 163, 0, 24, 42, 180, 0, 34, 42, 180, 0, 160, 4, 100, 46, 21, 6], [126, 154, 0, 7, 4, 167, 0, 4, 3, 54, 7, 21, 7, 154, 0, 23, 42, 180, 0, 34, 42, 180, 0, 160, 3, 79, 42, 89, 180, 0, 160, 4, 96, 181, 0, 160, 42, 180, 0, 34, 42, 180, 0, 160, 4, 100, 92, 46, 21, 6, 128, 79, 42, 180, 0, 31, 21, 5, 42, 180, 0, 160, 4, 100], [79, 132, 4, 1, 167, 255, 109, 177]]) (by decide +kernel) (by decide +kernel)
set_option maxRecDepth 20000 in
theorem BX12_findWorms_1_0 : ∀ q ∈ ([(0, 3), (1, 62), (2, 3), (7, 42), (14, 42), (20, 2), (21, 79), (22, 42), (28, 46), (29, 28), (33, 29), (41, 42)] : List (Nat × Nat)), gb cX12_findWorms q.1 = some q.2 := seg_1 SX12_findWorms _ (by decide +kernel)
set_option maxRecDepth 20000 in
theorem BX12_findWorms_1_1 : ∀ q ∈ ([(45, 42), (51, 4), (52, 100), (53, 46), (54, 46), (55, 42), (61, 46), (65, 42), (71, 42), (77, 4), (78, 100), (79, 46)] : List (Nat × Nat)), gb cX12_findWorms q.1 = some q.2 := seg_1 SX12_findWorms _ (by decide +kernel)
set_option maxRecDepth 20000 in
theorem BX12_findWorms_1_2 : ∀ q ∈ ([(80, 79), (87, 42), (95, 79), (105, 42), (106, 3), (110, 3), (115, 29), (119, 42), (125, 46), (128, 4), (129, 42), (135, 46)] : List (Nat × Nat)), gb cX12_findWorms q.1 = some q.2 := seg_1 SX12_findWorms _ (by decide +kernel)
set_option maxRecDepth 20000 in
theorem BX12_findWorms_1_3 : ∀ q ∈ ([(136, 120), (144, 42), (150, 46), (151, 42), (155, 42), (166, 4), (167, 100), (171, 3), (172, 46), (173, 46), (174, 100), (175, 27)] : List (Nat × Nat)), gb cX12_findWorms q.1 = some q.2 := seg_1 SX12_findWorms _ (by decide +kernel)
set_option maxRecDepth 20000 in
theorem BX12_findWorms_1_4 : ∀ q ∈ ([(179, 42), (183, 42), (187, 4), (188, 100), (189, 46), (192, 126), (196, 4), (200, 3), (208, 42), (212, 42), (216, 3), (217, 79)] : List (Nat × Nat)), gb cX12_findWorms q.1 = some q.2 := seg_1 SX12_findWorms _ (by decide +kernel)
set_option maxRecDepth 20000 in
theorem BX12_findWorms_1_5 : ∀ q ∈ ([(218, 42), (219, 89), (223, 4), (224, 96), (228, 42), (232, 42), (236, 4), (237, 100), (238, 92), (239, 46), (242, 128), (243, 79)] : List (Nat × Nat)), gb cX12_findWorms q.1 = some q.2 := seg_1 SX12_findWorms _ (by decide +kernel)
set_option maxRecDepth 20000 in
theorem BX12_findWorms_1_6 : ∀ q ∈ ([(244, 42), (250, 42), (254, 4), (255, 100), (256, 79), (263, 177)] : List (Nat × Nat)), gb cX12_findWorms q.1 = some q.2 := seg_1 SX12_findWorms _ (by decide +kernel)
set_option maxRecDepth 20000 in
theorem BX12_findWorms_2_0 : ∀ q ∈ ([(3, 54, 4), (5, 21, 4), (18, 21, 4), (26, 21, 4), (34, 54, 5), (36, 21, 5), (49, 21, 5), (59, 21, 4), (69, 21, 5), (75, 21, 5), (91, 21, 5), (93, 21, 4)] : List (Nat × Nat × Nat)), gb cX12_findWorms q.1 = some q.2.1 ∧ gb cX12_findWorms (q.1 + 1) = some q.2.2 := seg_2 SX12_findWorms _ (by decide +kernel)
set_option maxRecDepth 20000 in
theorem BX12_findWorms_2_1 : ∀ q ∈ ([(111, 54, 4), (113, 21, 4), (123, 21, 4), (126, 54, 5), (133, 21, 5), (137, 54, 6), (139, 21, 4), (148, 21, 5), (159, 21, 4), (164, 21, 4), (190, 21, 6), (201, 54, 7)] : List (Nat × Nat × Nat)), gb cX12_findWorms q.1 = some q.2.1 ∧ gb cX12_findWorms (q.1 + 1) = some q.2.2 := seg_2 SX12_findWorms _ (by decide +kernel)
set_option maxRecDepth 20000 in
theorem BX12_findWorms_2_2 : ∀ q ∈ ([(203, 21, 7), (240, 21, 6), (248, 21, 5)] : List (Nat × Nat × Nat)), gb cX12_findWorms q.1 = some q.2.1 ∧ gb cX12_findWorms (q.1 + 1) = some q.2.2 := seg_2 SX12_findWorms _ (by decide +kernel)
set_option maxRecDepth 20000 in
theorem BX12_findWorms_3_0 : ∀ q ∈ ([(8, 180, 0, 140), (11, 162, 0, 94), (15, 180, 0, 31), (23, 180, 0, 22), (30, 159, 0, 69), (38, 158, 0, 49), (42, 180, 0, 25), (46, 180, 0, 28), (56, 180, 0, 25), (62, 164, 0, 25), (66, 180, 0, 28), (72, 180, 0, 28)] : List (Nat × Nat × Nat × Nat)), gb cX12_findWorms q.1 = some q.2.1 ∧ gb cX12_findWorms (q.1 + 1) = some q.2.2.1 ∧ gb cX12_findWorms (q.1 + 2) = some q.2.2.2 := seg_3 SX12_findWorms _ (by decide +kernel)
set_option maxRecDepth 20000 in
theorem BX12_findWorms_3_1 : ∀ q ∈ ([(81, 132, 5, 255), (84, 167, 255, 208), (88, 180, 0, 28), (96, 132, 3, 1), (99, 132, 4, 1), (102, 167, 255, 159), (107, 181, 0, 160), (116, 162, 0, 147), (120, 180, 0, 28), (130, 180, 0, 22), (141, 158, 0, 59), (145, 180, 0, 25)] : List (Nat × Nat × Nat × Nat)), gb cX12_findWorms q.1 = some q.2.1 ∧ gb cX12_findWorms (q.1 + 1) = some q.2.2.1 ∧ gb cX12_findWorms (q.1 + 2) = some q.2.2.2 := seg_3 SX12_findWorms _ (by decide +kernel)
set_option maxRecDepth 20000 in
theorem BX12_findWorms_3_2 : ∀ q ∈ ([(152, 180, 0, 25), (156, 180, 0, 28), (161, 158, 0, 10), (168, 167, 0, 4), (176, 163, 0, 24), (180, 180, 0, 34), (184, 180, 0, 160), (193, 154, 0, 7), (197, 167, 0, 4), (205, 154, 0, 23), (209, 180, 0, 34), (213, 180, 0, 160)] : List (Nat × Nat × Nat × Nat)), gb cX12_findWorms q.1 = some q.2.1 ∧ gb cX12_findWorms (q.1 + 1) = some q.2.2.1 ∧ gb cX12_findWorms (q.1 + 2) = some q.2.2.2 := seg_3 SX12_findWorms _ (by decide +kernel)
set_option maxRecDepth 20000 in
theorem BX12_findWorms_3_3 : ∀ q ∈ ([(220, 180, 0, 160), (225, 181, 0, 160), (229, 180, 0, 34), (233, 180, 0, 160), (245, 180, 0, 31), (251, 180, 0, 160), (257, 132, 4, 1), (260, 167, 255, 109)] : List (Nat × Nat × Nat × Nat)), gb cX12_findWorms q.1 = some q.2.1 ∧ gb cX12_findWorms (q.1 + 1) = some q.2.2.1 ∧ gb cX12_findWorms (q.1 + 2) = some q.2.2.2 := seg_3 SX12_findWorms _ (by decide +kernel)
theorem dX12_findWorms_0 : decode cX12_findWorms 0 = .ok (.iconst 0, 1) := dk3 (BX12_findWorms_1_0 (0, 3) (List.mem_of_getElem? (i := 0) rfl))
theorem dX12_findWorms_1 : decode cX12_findWorms 1 = .ok (.istore_n 3, 1) := dk62 (BX12_findWorms_1_0 (1, 62) (List.mem_of_getElem? (i := 1) rfl))
theorem dX12_findWorms_2 : decode cX12_findWorms 2 = .ok (.iconst 0, 1) := dk3 (BX12_findWorms_1_0 (2, 3) (List.mem_of_getElem? (i := 2) rfl))
theorem dX12_findWorms_3 : decode cX12_findWorms 3 = .ok (.istore 4, 2) := dk54 4 (BX12_findWorms_2_0 (3, 54, 4) (List.mem_of_getElem? (i := 0) rfl))
theorem dX12_findWorms_5 : decode cX12_findWorms 5 = .ok (.iload 4, 2) := dk21 4 (BX12_findWorms_2_0 (5, 21, 4) (List.mem_of_getElem? (i := 1) rfl))
theorem dX12_findWorms_7 : decode cX12_findWorms 7 = .ok (.aload_n 0, 1) := dk42 (BX12_findWorms_1_0 (7, 42) (List.mem_of_getElem? (i := 3) rfl))
theorem dX12_findWorms_8 : decode cX12_findWorms 8 = .ok (.getfield 140, 3) := dk180 0 140 (BX12_findWorms_3_0 (8, 180, 0, 140) (List.mem_of_getElem? (i := 0) rfl))
theorem dX12_findWorms_11 : decode cX12_findWorms 11 = .ok (.if_icmp .ge 94, 3) := dk162 0 94 (BX12_findWorms_3_0 (11, 162, 0, 94) (List.mem_of_getElem? (i := 1) rfl))
theorem dX12_findWorms_14 : decode cX12_findWorms 14 = .ok (.aload_n 0, 1) := dk42 (BX12_findWorms_1_0 (14, 42) (List.mem_of_getElem? (i := 4) rfl))
theorem dX12_findWorms_15 : decode cX12_findWorms 15 = .ok (.getfield 31, 3) := dk180 0 31 (BX12_findWorms_3_0 (15, 180, 0, 31) (List.mem_of_getElem? (i := 2) rfl))
theorem dX12_findWorms_18 : decode cX12_findWorms 18 = .ok (.iload 4, 2) := dk21 4 (BX12_findWorms_2_0 (18, 21, 4) (List.mem_of_getElem? (i := 2) rfl))
theorem dX12_findWorms_20 : decode cX12_findWorms 20 = .ok (.iconst (-1), 1) := dk2 (BX12_findWorms_1_0 (20, 2) (List.mem_of_getElem? (i := 5) rfl))
theorem dX12_findWorms_21 : decode cX12_findWorms 21 = .ok (.iastore, 1) := dk79 (BX12_findWorms_1_0 (21, 79) (List.mem_of_getElem? (i := 6) rfl))
theorem dX12_findWorms_22 : decode cX12_findWorms 22 = .ok (.aload_n 0, 1) := dk42 (BX12_findWorms_1_0 (22, 42) (List.mem_of_getElem? (i := 7) rfl))
theorem dX12_findWorms_23 : decode cX12_findWorms 23 = .ok (.getfield 22, 3) := dk180 0 22 (BX12_findWorms_3_0 (23, 180, 0, 22) (List.mem_of_getElem? (i := 3) rfl))
theorem dX12_findWorms_26 : decode cX12_findWorms 26 = .ok (.iload 4, 2) := dk21 4 (BX12_findWorms_2_0 (26, 21, 4) (List.mem_of_getElem? (i := 3) rfl))
theorem dX12_findWorms_28 : decode cX12_findWorms 28 = .ok (.iaload, 1) := dk46 (BX12_findWorms_1_0 (28, 46) (List.mem_of_getElem? (i := 8) rfl))
theorem dX12_findWorms_29 : decode cX12_findWorms 29 = .ok (.iload_n 2, 1) := dk28 (BX12_findWorms_1_0 (29, 28) (List.mem_of_getElem? (i := 9) rfl))
theorem dX12_findWorms_30 : decode cX12_findWorms 30 = .ok (.if_icmp .eq 69, 3) := dk159 0 69 (BX12_findWorms_3_0 (30, 159, 0, 69) (List.mem_of_getElem? (i := 4) rfl))
theorem dX12_findWorms_33 : decode cX12_findWorms 33 = .ok (.iload_n 3, 1) := dk29 (BX12_findWorms_1_0 (33, 29) (List.mem_of_getElem? (i := 10) rfl))
theorem dX12_findWorms_34 : decode cX12_findWorms 34 = .ok (.istore 5, 2) := dk54 5 (BX12_findWorms_2_0 (34, 54, 5) (List.mem_of_getElem? (i := 4) rfl))
theorem dX12_findWorms_36 : decode cX12_findWorms 36 = .ok (.iload 5, 2) := dk21 5 (BX12_findWorms_2_0 (36, 21, 5) (List.mem_of_getElem? (i := 5) rfl))
theorem dX12_findWorms_38 : decode cX12_findWorms 38 = .ok (.ifCond .le 49, 3) := dk158 0 49 (BX12_findWorms_3_0 (38, 158, 0, 49) (List.mem_of_getElem? (i := 5) rfl))
theorem dX12_findWorms_41 : decode cX12_findWorms 41 = .ok (.aload_n 0, 1) := dk42 (BX12_findWorms_1_0 (41, 42) (List.mem_of_getElem? (i := 11) rfl))
theorem dX12_findWorms_42 : decode cX12_findWorms 42 = .ok (.getfield 25, 3) := dk180 0 25 (BX12_findWorms_3_0 (42, 180, 0, 25) (List.mem_of_getElem? (i := 6) rfl))
theorem dX12_findWorms_45 : decode cX12_findWorms 45 = .ok (.aload_n 0, 1) := dk42 (BX12_findWorms_1_1 (45, 42) (List.mem_of_getElem? (i := 0) rfl))
theorem dX12_findWorms_46 : decode cX12_findWorms 46 = .ok (.getfield 28, 3) := dk180 0 28 (BX12_findWorms_3_0 (46, 180, 0, 28) (List.mem_of_getElem? (i := 7) rfl))
theorem dX12_findWorms_49 : decode cX12_findWorms 49 = .ok (.iload 5, 2) := dk21 5 (BX12_findWorms_2_0 (49, 21, 5) (List.mem_of_getElem? (i := 6) rfl))
theorem dX12_findWorms_51 : decode cX12_findWorms 51 = .ok (.iconst 1, 1) := dk4 (BX12_findWorms_1_1 (51, 4) (List.mem_of_getElem? (i := 1) rfl))
theorem dX12_findWorms_52 : decode cX12_findWorms 52 = .ok (.isub, 1) := dk100 (BX12_findWorms_1_1 (52, 100) (List.mem_of_getElem? (i := 2) rfl))
theorem dX12_findWorms_53 : decode cX12_findWorms 53 = .ok (.iaload, 1) := dk46 (BX12_findWorms_1_1 (53, 46) (List.mem_of_getElem? (i := 3) rfl))
theorem dX12_findWorms_54 : decode cX12_findWorms 54 = .ok (.iaload, 1) := dk46 (BX12_findWorms_1_1 (54, 46) (List.mem_of_getElem? (i := 4) rfl))
theorem dX12_findWorms_55 : decode cX12_findWorms 55 = .ok (.aload_n 0, 1) := dk42 (BX12_findWorms_1_1 (55, 42) (List.mem_of_getElem? (i := 5) rfl))
theorem dX12_findWorms_56 : decode cX12_findWorms 56 = .ok (.getfield 25, 3) := dk180 0 25 (BX12_findWorms_3_0 (56, 180, 0, 25) (List.mem_of_getElem? (i := 8) rfl))
theorem dX12_findWorms_59 : decode cX12_findWorms 59 = .ok (.iload 4, 2) := dk21 4 (BX12_findWorms_2_0 (59, 21, 4) (List.mem_of_getElem? (i := 7) rfl))
theorem dX12_findWorms_61 : decode cX12_findWorms 61 = .ok (.iaload, 1) := dk46 (BX12_findWorms_1_1 (61, 46) (List.mem_of_getElem? (i := 6) rfl))
theorem dX12_findWorms_62 : decode cX12_findWorms 62 = .ok (.if_icmp .le 25, 3) := dk164 0 25 (BX12_findWorms_3_0 (62, 164, 0, 25) (List.mem_of_getElem? (i := 9) rfl))
theorem dX12_findWorms_65 : decode cX12_findWorms 65 = .ok (.aload_n 0, 1) := dk42 (BX12_findWorms_1_1 (65, 42) (List.mem_of_getElem? (i := 7) rfl))
theorem dX12_findWorms_66 : decode cX12_findWorms 66 = .ok (.getfield 28, 3) := dk180 0 28 (BX12_findWorms_3_0 (66, 180, 0, 28) (List.mem_of_getElem? (i := 10) rfl))
theorem dX12_findWorms_69 : decode cX12_findWorms 69 = .ok (.iload 5, 2) := dk21 5 (BX12_findWorms_2_0 (69, 21, 5) (List.mem_of_getElem? (i := 8) rfl))
theorem dX12_findWorms_71 : decode cX12_findWorms 71 = .ok (.aload_n 0, 1) := dk42 (BX12_findWorms_1_1 (71, 42) (List.mem_of_getElem? (i := 8) rfl))
theorem dX12_findWorms_72 : decode cX12_findWorms 72 = .ok (.getfield 28, 3) := dk180 0 28 (BX12_findWorms_3_0 (72, 180, 0, 28) (List.mem_of_getElem? (i := 11) rfl))
theorem dX12_findWorms_75 : decode cX12_findWorms 75 = .ok (.iload 5, 2) := dk21 5 (BX12_findWorms_2_0 (75, 21, 5) (List.mem_of_getElem? (i := 9) rfl))
theorem dX12_findWorms_77 : decode cX12_findWorms 77 = .ok (.iconst 1, 1) := dk4 (BX12_findWorms_1_1 (77, 4) (List.mem_of_getElem? (i := 9) rfl))
theorem dX12_findWorms_78 : decode cX12_findWorms 78 = .ok (.isub, 1) := dk100 (BX12_findWorms_1_1 (78, 100) (List.mem_of_getElem? (i := 10) rfl))
theorem dX12_findWorms_79 : decode cX12_findWorms 79 = .ok (.iaload, 1) := dk46 (BX12_findWorms_1_1 (79, 46) (List.mem_of_getElem? (i := 11) rfl))
theorem dX12_findWorms_80 : decode cX12_findWorms 80 = .ok (.iastore, 1) := dk79 (BX12_findWorms_1_2 (80, 79) (List.mem_of_getElem? (i := 0) rfl))
theorem dX12_findWorms_81 : decode cX12_findWorms 81 = .ok (.iinc 5 (-1), 3) := dk132 5 255 (BX12_findWorms_3_1 (81, 132, 5, 255) (List.mem_of_getElem? (i := 0) rfl))
theorem dX12_findWorms_84 : decode cX12_findWorms 84 = .ok (.goto (-48), 3) := dk167 255 208 (BX12_findWorms_3_1 (84, 167, 255, 208) (List.mem_of_getElem? (i := 1) rfl))
theorem dX12_findWorms_87 : decode cX12_findWorms 87 = .ok (.aload_n 0, 1) := dk42 (BX12_findWorms_1_2 (87, 42) (List.mem_of_getElem? (i := 1) rfl))
theorem dX12_findWorms_88 : decode cX12_findWorms 88 = .ok (.getfield 28, 3) := dk180 0 28 (BX12_findWorms_3_1 (88, 180, 0, 28) (List.mem_of_getElem? (i := 2) rfl))
theorem dX12_findWorms_91 : decode cX12_findWorms 91 = .ok (.iload 5, 2) := dk21 5 (BX12_findWorms_2_0 (91, 21, 5) (List.mem_of_getElem? (i := 10) rfl))
theorem dX12_findWorms_93 : decode cX12_findWorms 93 = .ok (.iload 4, 2) := dk21 4 (BX12_findWorms_2_0 (93, 21, 4) (List.mem_of_getElem? (i := 11) rfl))
theorem dX12_findWorms_95 : decode cX12_findWorms 95 = .ok (.iastore, 1) := dk79 (BX12_findWorms_1_2 (95, 79) (List.mem_of_getElem? (i := 2) rfl))
theorem dX12_findWorms_96 : decode cX12_findWorms 96 = .ok (.iinc 3 1, 3) := dk132 3 1 (BX12_findWorms_3_1 (96, 132, 3, 1) (List.mem_of_getElem? (i := 3) rfl))
theorem dX12_findWorms_99 : decode cX12_findWorms 99 = .ok (.iinc 4 1, 3) := dk132 4 1 (BX12_findWorms_3_1 (99, 132, 4, 1) (List.mem_of_getElem? (i := 4) rfl))
theorem dX12_findWorms_102 : decode cX12_findWorms 102 = .ok (.goto (-97), 3) := dk167 255 159 (BX12_findWorms_3_1 (102, 167, 255, 159) (List.mem_of_getElem? (i := 5) rfl))
theorem dX12_findWorms_105 : decode cX12_findWorms 105 = .ok (.aload_n 0, 1) := dk42 (BX12_findWorms_1_2 (105, 42) (List.mem_of_getElem? (i := 3) rfl))
theorem dX12_findWorms_106 : decode cX12_findWorms 106 = .ok (.iconst 0, 1) := dk3 (BX12_findWorms_1_2 (106, 3) (List.mem_of_getElem? (i := 4) rfl))
theorem dX12_findWorms_107 : decode cX12_findWorms 107 = .ok (.putfield 160, 3) := dk181 0 160 (BX12_findWorms_3_1 (107, 181, 0, 160) (List.mem_of_getElem? (i := 6) rfl))
theorem dX12_findWorms_110 : decode cX12_findWorms 110 = .ok (.iconst 0, 1) := dk3 (BX12_findWorms_1_2 (110, 3) (List.mem_of_getElem? (i := 5) rfl))
theorem dX12_findWorms_111 : decode cX12_findWorms 111 = .ok (.istore 4, 2) := dk54 4 (BX12_findWorms_2_1 (111, 54, 4) (List.mem_of_getElem? (i := 0) rfl))
theorem dX12_findWorms_113 : decode cX12_findWorms 113 = .ok (.iload 4, 2) := dk21 4 (BX12_findWorms_2_1 (113, 21, 4) (List.mem_of_getElem? (i := 1) rfl))
theorem dX12_findWorms_115 : decode cX12_findWorms 115 = .ok (.iload_n 3, 1) := dk29 (BX12_findWorms_1_2 (115, 29) (List.mem_of_getElem? (i := 6) rfl))
theorem dX12_findWorms_116 : decode cX12_findWorms 116 = .ok (.if_icmp .ge 147, 3) := dk162 0 147 (BX12_findWorms_3_1 (116, 162, 0, 147) (List.mem_of_getElem? (i := 7) rfl))
theorem dX12_findWorms_119 : decode cX12_findWorms 119 = .ok (.aload_n 0, 1) := dk42 (BX12_findWorms_1_2 (119, 42) (List.mem_of_getElem? (i := 7) rfl))
theorem dX12_findWorms_120 : decode cX12_findWorms 120 = .ok (.getfield 28, 3) := dk180 0 28 (BX12_findWorms_3_1 (120, 180, 0, 28) (List.mem_of_getElem? (i := 8) rfl))
theorem dX12_findWorms_123 : decode cX12_findWorms 123 = .ok (.iload 4, 2) := dk21 4 (BX12_findWorms_2_1 (123, 21, 4) (List.mem_of_getElem? (i := 2) rfl))
theorem dX12_findWorms_125 : decode cX12_findWorms 125 = .ok (.iaload, 1) := dk46 (BX12_findWorms_1_2 (125, 46) (List.mem_of_getElem? (i := 8) rfl))
theorem dX12_findWorms_126 : decode cX12_findWorms 126 = .ok (.istore 5, 2) := dk54 5 (BX12_findWorms_2_1 (126, 54, 5) (List.mem_of_getElem? (i := 3) rfl))
theorem dX12_findWorms_128 : decode cX12_findWorms 128 = .ok (.iconst 1, 1) := dk4 (BX12_findWorms_1_2 (128, 4) (List.mem_of_getElem? (i := 9) rfl))
theorem dX12_findWorms_129 : decode cX12_findWorms 129 = .ok (.aload_n 0, 1) := dk42 (BX12_findWorms_1_2 (129, 42) (List.mem_of_getElem? (i := 10) rfl))
theorem dX12_findWorms_130 : decode cX12_findWorms 130 = .ok (.getfield 22, 3) := dk180 0 22 (BX12_findWorms_3_1 (130, 180, 0, 22) (List.mem_of_getElem? (i := 9) rfl))
theorem dX12_findWorms_133 : decode cX12_findWorms 133 = .ok (.iload 5, 2) := dk21 5 (BX12_findWorms_2_1 (133, 21, 5) (List.mem_of_getElem? (i := 4) rfl))
theorem dX12_findWorms_135 : decode cX12_findWorms 135 = .ok (.iaload, 1) := dk46 (BX12_findWorms_1_2 (135, 46) (List.mem_of_getElem? (i := 11) rfl))
theorem dX12_findWorms_136 : decode cX12_findWorms 136 = .ok (.ishl, 1) := dk120 (BX12_findWorms_1_3 (136, 120) (List.mem_of_getElem? (i := 0) rfl))
theorem dX12_findWorms_137 : decode cX12_findWorms 137 = .ok (.istore 6, 2) := dk54 6 (BX12_findWorms_2_1 (137, 54, 6) (List.mem_of_getElem? (i := 5) rfl))
theorem dX12_findWorms_139 : decode cX12_findWorms 139 = .ok (.iload 4, 2) := dk21 4 (BX12_findWorms_2_1 (139, 21, 4) (List.mem_of_getElem? (i := 6) rfl))
theorem dX12_findWorms_141 : decode cX12_findWorms 141 = .ok (.ifCond .le 59, 3) := dk158 0 59 (BX12_findWorms_3_1 (141, 158, 0, 59) (List.mem_of_getElem? (i := 10) rfl))
theorem dX12_findWorms_144 : decode cX12_findWorms 144 = .ok (.aload_n 0, 1) := dk42 (BX12_findWorms_1_3 (144, 42) (List.mem_of_getElem? (i := 1) rfl))
theorem dX12_findWorms_145 : decode cX12_findWorms 145 = .ok (.getfield 25, 3) := dk180 0 25 (BX12_findWorms_3_1 (145, 180, 0, 25) (List.mem_of_getElem? (i := 11) rfl))
theorem dX12_findWorms_148 : decode cX12_findWorms 148 = .ok (.iload 5, 2) := dk21 5 (BX12_findWorms_2_1 (148, 21, 5) (List.mem_of_getElem? (i := 7) rfl))
theorem dX12_findWorms_150 : decode cX12_findWorms 150 = .ok (.iaload, 1) := dk46 (BX12_findWorms_1_3 (150, 46) (List.mem_of_getElem? (i := 2) rfl))
theorem dX12_findWorms_151 : decode cX12_findWorms 151 = .ok (.aload_n 0, 1) := dk42 (BX12_findWorms_1_3 (151, 42) (List.mem_of_getElem? (i := 3) rfl))
theorem dX12_findWorms_152 : decode cX12_findWorms 152 = .ok (.getfield 25, 3) := dk180 0 25 (BX12_findWorms_3_2 (152, 180, 0, 25) (List.mem_of_getElem? (i := 0) rfl))
theorem dX12_findWorms_155 : decode cX12_findWorms 155 = .ok (.aload_n 0, 1) := dk42 (BX12_findWorms_1_3 (155, 42) (List.mem_of_getElem? (i := 4) rfl))
theorem dX12_findWorms_156 : decode cX12_findWorms 156 = .ok (.getfield 28, 3) := dk180 0 28 (BX12_findWorms_3_2 (156, 180, 0, 28) (List.mem_of_getElem? (i := 1) rfl))
theorem dX12_findWorms_159 : decode cX12_findWorms 159 = .ok (.iload 4, 2) := dk21 4 (BX12_findWorms_2_1 (159, 21, 4) (List.mem_of_getElem? (i := 8) rfl))
theorem dX12_findWorms_161 : decode cX12_findWorms 161 = .ok (.ifCond .le 10, 3) := dk158 0 10 (BX12_findWorms_3_2 (161, 158, 0, 10) (List.mem_of_getElem? (i := 2) rfl))
theorem dX12_findWorms_164 : decode cX12_findWorms 164 = .ok (.iload 4, 2) := dk21 4 (BX12_findWorms_2_1 (164, 21, 4) (List.mem_of_getElem? (i := 9) rfl))
theorem dX12_findWorms_166 : decode cX12_findWorms 166 = .ok (.iconst 1, 1) := dk4 (BX12_findWorms_1_3 (166, 4) (List.mem_of_getElem? (i := 5) rfl))
theorem dX12_findWorms_167 : decode cX12_findWorms 167 = .ok (.isub, 1) := dk100 (BX12_findWorms_1_3 (167, 100) (List.mem_of_getElem? (i := 6) rfl))
theorem dX12_findWorms_168 : decode cX12_findWorms 168 = .ok (.goto 4, 3) := dk167 0 4 (BX12_findWorms_3_2 (168, 167, 0, 4) (List.mem_of_getElem? (i := 3) rfl))
theorem dX12_findWorms_171 : decode cX12_findWorms 171 = .ok (.iconst 0, 1) := dk3 (BX12_findWorms_1_3 (171, 3) (List.mem_of_getElem? (i := 7) rfl))
theorem dX12_findWorms_172 : decode cX12_findWorms 172 = .ok (.iaload, 1) := dk46 (BX12_findWorms_1_3 (172, 46) (List.mem_of_getElem? (i := 8) rfl))
theorem dX12_findWorms_173 : decode cX12_findWorms 173 = .ok (.iaload, 1) := dk46 (BX12_findWorms_1_3 (173, 46) (List.mem_of_getElem? (i := 9) rfl))
theorem dX12_findWorms_174 : decode cX12_findWorms 174 = .ok (.isub, 1) := dk100 (BX12_findWorms_1_3 (174, 100) (List.mem_of_getElem? (i := 10) rfl))
theorem dX12_findWorms_175 : decode cX12_findWorms 175 = .ok (.iload_n 1, 1) := dk27 (BX12_findWorms_1_3 (175, 27) (List.mem_of_getElem? (i := 11) rfl))
theorem dX12_findWorms_176 : decode cX12_findWorms 176 = .ok (.if_icmp .gt 24, 3) := dk163 0 24 (BX12_findWorms_3_2 (176, 163, 0, 24) (List.mem_of_getElem? (i := 4) rfl))
theorem dX12_findWorms_179 : decode cX12_findWorms 179 = .ok (.aload_n 0, 1) := dk42 (BX12_findWorms_1_4 (179, 42) (List.mem_of_getElem? (i := 0) rfl))
theorem dX12_findWorms_180 : decode cX12_findWorms 180 = .ok (.getfield 34, 3) := dk180 0 34 (BX12_findWorms_3_2 (180, 180, 0, 34) (List.mem_of_getElem? (i := 5) rfl))
theorem dX12_findWorms_183 : decode cX12_findWorms 183 = .ok (.aload_n 0, 1) := dk42 (BX12_findWorms_1_4 (183, 42) (List.mem_of_getElem? (i := 1) rfl))
theorem dX12_findWorms_184 : decode cX12_findWorms 184 = .ok (.getfield 160, 3) := dk180 0 160 (BX12_findWorms_3_2 (184, 180, 0, 160) (List.mem_of_getElem? (i := 6) rfl))
theorem dX12_findWorms_187 : decode cX12_findWorms 187 = .ok (.iconst 1, 1) := dk4 (BX12_findWorms_1_4 (187, 4) (List.mem_of_getElem? (i := 2) rfl))
theorem dX12_findWorms_188 : decode cX12_findWorms 188 = .ok (.isub, 1) := dk100 (BX12_findWorms_1_4 (188, 100) (List.mem_of_getElem? (i := 3) rfl))
theorem dX12_findWorms_189 : decode cX12_findWorms 189 = .ok (.iaload, 1) := dk46 (BX12_findWorms_1_4 (189, 46) (List.mem_of_getElem? (i := 4) rfl))
theorem dX12_findWorms_190 : decode cX12_findWorms 190 = .ok (.iload 6, 2) := dk21 6 (BX12_findWorms_2_1 (190, 21, 6) (List.mem_of_getElem? (i := 10) rfl))
theorem dX12_findWorms_192 : decode cX12_findWorms 192 = .ok (.iand, 1) := dk126 (BX12_findWorms_1_4 (192, 126) (List.mem_of_getElem? (i := 5) rfl))
theorem dX12_findWorms_193 : decode cX12_findWorms 193 = .ok (.ifCond .ne 7, 3) := dk154 0 7 (BX12_findWorms_3_2 (193, 154, 0, 7) (List.mem_of_getElem? (i := 7) rfl))
theorem dX12_findWorms_196 : decode cX12_findWorms 196 = .ok (.iconst 1, 1) := dk4 (BX12_findWorms_1_4 (196, 4) (List.mem_of_getElem? (i := 6) rfl))
theorem dX12_findWorms_197 : decode cX12_findWorms 197 = .ok (.goto 4, 3) := dk167 0 4 (BX12_findWorms_3_2 (197, 167, 0, 4) (List.mem_of_getElem? (i := 8) rfl))
theorem dX12_findWorms_200 : decode cX12_findWorms 200 = .ok (.iconst 0, 1) := dk3 (BX12_findWorms_1_4 (200, 3) (List.mem_of_getElem? (i := 7) rfl))
theorem dX12_findWorms_201 : decode cX12_findWorms 201 = .ok (.istore 7, 2) := dk54 7 (BX12_findWorms_2_1 (201, 54, 7) (List.mem_of_getElem? (i := 11) rfl))
theorem dX12_findWorms_203 : decode cX12_findWorms 203 = .ok (.iload 7, 2) := dk21 7 (BX12_findWorms_2_2 (203, 21, 7) (List.mem_of_getElem? (i := 0) rfl))
theorem dX12_findWorms_205 : decode cX12_findWorms 205 = .ok (.ifCond .ne 23, 3) := dk154 0 23 (BX12_findWorms_3_2 (205, 154, 0, 23) (List.mem_of_getElem? (i := 9) rfl))
theorem dX12_findWorms_208 : decode cX12_findWorms 208 = .ok (.aload_n 0, 1) := dk42 (BX12_findWorms_1_4 (208, 42) (List.mem_of_getElem? (i := 8) rfl))
theorem dX12_findWorms_209 : decode cX12_findWorms 209 = .ok (.getfield 34, 3) := dk180 0 34 (BX12_findWorms_3_2 (209, 180, 0, 34) (List.mem_of_getElem? (i := 10) rfl))
theorem dX12_findWorms_212 : decode cX12_findWorms 212 = .ok (.aload_n 0, 1) := dk42 (BX12_findWorms_1_4 (212, 42) (List.mem_of_getElem? (i := 9) rfl))
theorem dX12_findWorms_213 : decode cX12_findWorms 213 = .ok (.getfield 160, 3) := dk180 0 160 (BX12_findWorms_3_2 (213, 180, 0, 160) (List.mem_of_getElem? (i := 11) rfl))
theorem dX12_findWorms_216 : decode cX12_findWorms 216 = .ok (.iconst 0, 1) := dk3 (BX12_findWorms_1_4 (216, 3) (List.mem_of_getElem? (i := 10) rfl))
theorem dX12_findWorms_217 : decode cX12_findWorms 217 = .ok (.iastore, 1) := dk79 (BX12_findWorms_1_4 (217, 79) (List.mem_of_getElem? (i := 11) rfl))
theorem dX12_findWorms_218 : decode cX12_findWorms 218 = .ok (.aload_n 0, 1) := dk42 (BX12_findWorms_1_5 (218, 42) (List.mem_of_getElem? (i := 0) rfl))
theorem dX12_findWorms_219 : decode cX12_findWorms 219 = .ok (.dup, 1) := dk89 (BX12_findWorms_1_5 (219, 89) (List.mem_of_getElem? (i := 1) rfl))
theorem dX12_findWorms_220 : decode cX12_findWorms 220 = .ok (.getfield 160, 3) := dk180 0 160 (BX12_findWorms_3_3 (220, 180, 0, 160) (List.mem_of_getElem? (i := 0) rfl))
theorem dX12_findWorms_223 : decode cX12_findWorms 223 = .ok (.iconst 1, 1) := dk4 (BX12_findWorms_1_5 (223, 4) (List.mem_of_getElem? (i := 2) rfl))
theorem dX12_findWorms_224 : decode cX12_findWorms 224 = .ok (.iadd, 1) := dk96 (BX12_findWorms_1_5 (224, 96) (List.mem_of_getElem? (i := 3) rfl))
theorem dX12_findWorms_225 : decode cX12_findWorms 225 = .ok (.putfield 160, 3) := dk181 0 160 (BX12_findWorms_3_3 (225, 181, 0, 160) (List.mem_of_getElem? (i := 1) rfl))
theorem dX12_findWorms_228 : decode cX12_findWorms 228 = .ok (.aload_n 0, 1) := dk42 (BX12_findWorms_1_5 (228, 42) (List.mem_of_getElem? (i := 4) rfl))
theorem dX12_findWorms_229 : decode cX12_findWorms 229 = .ok (.getfield 34, 3) := dk180 0 34 (BX12_findWorms_3_3 (229, 180, 0, 34) (List.mem_of_getElem? (i := 2) rfl))
theorem dX12_findWorms_232 : decode cX12_findWorms 232 = .ok (.aload_n 0, 1) := dk42 (BX12_findWorms_1_5 (232, 42) (List.mem_of_getElem? (i := 5) rfl))
theorem dX12_findWorms_233 : decode cX12_findWorms 233 = .ok (.getfield 160, 3) := dk180 0 160 (BX12_findWorms_3_3 (233, 180, 0, 160) (List.mem_of_getElem? (i := 3) rfl))
theorem dX12_findWorms_236 : decode cX12_findWorms 236 = .ok (.iconst 1, 1) := dk4 (BX12_findWorms_1_5 (236, 4) (List.mem_of_getElem? (i := 6) rfl))
theorem dX12_findWorms_237 : decode cX12_findWorms 237 = .ok (.isub, 1) := dk100 (BX12_findWorms_1_5 (237, 100) (List.mem_of_getElem? (i := 7) rfl))
theorem dX12_findWorms_238 : decode cX12_findWorms 238 = .ok (.dup2, 1) := dk92 (BX12_findWorms_1_5 (238, 92) (List.mem_of_getElem? (i := 8) rfl))
theorem dX12_findWorms_239 : decode cX12_findWorms 239 = .ok (.iaload, 1) := dk46 (BX12_findWorms_1_5 (239, 46) (List.mem_of_getElem? (i := 9) rfl))
theorem dX12_findWorms_240 : decode cX12_findWorms 240 = .ok (.iload 6, 2) := dk21 6 (BX12_findWorms_2_2 (240, 21, 6) (List.mem_of_getElem? (i := 1) rfl))
theorem dX12_findWorms_242 : decode cX12_findWorms 242 = .ok (.ior, 1) := dk128 (BX12_findWorms_1_5 (242, 128) (List.mem_of_getElem? (i := 10) rfl))
theorem dX12_findWorms_243 : decode cX12_findWorms 243 = .ok (.iastore, 1) := dk79 (BX12_findWorms_1_5 (243, 79) (List.mem_of_getElem? (i := 11) rfl))
theorem dX12_findWorms_244 : decode cX12_findWorms 244 = .ok (.aload_n 0, 1) := dk42 (BX12_findWorms_1_6 (244, 42) (List.mem_of_getElem? (i := 0) rfl))
theorem dX12_findWorms_245 : decode cX12_findWorms 245 = .ok (.getfield 31, 3) := dk180 0 31 (BX12_findWorms_3_3 (245, 180, 0, 31) (List.mem_of_getElem? (i := 4) rfl))
theorem dX12_findWorms_248 : decode cX12_findWorms 248 = .ok (.iload 5, 2) := dk21 5 (BX12_findWorms_2_2 (248, 21, 5) (List.mem_of_getElem? (i := 2) rfl))
theorem dX12_findWorms_250 : decode cX12_findWorms 250 = .ok (.aload_n 0, 1) := dk42 (BX12_findWorms_1_6 (250, 42) (List.mem_of_getElem? (i := 1) rfl))
theorem dX12_findWorms_251 : decode cX12_findWorms 251 = .ok (.getfield 160, 3) := dk180 0 160 (BX12_findWorms_3_3 (251, 180, 0, 160) (List.mem_of_getElem? (i := 5) rfl))
theorem dX12_findWorms_254 : decode cX12_findWorms 254 = .ok (.iconst 1, 1) := dk4 (BX12_findWorms_1_6 (254, 4) (List.mem_of_getElem? (i := 2) rfl))
theorem dX12_findWorms_255 : decode cX12_findWorms 255 = .ok (.isub, 1) := dk100 (BX12_findWorms_1_6 (255, 100) (List.mem_of_getElem? (i := 3) rfl))
theorem dX12_findWorms_256 : decode cX12_findWorms 256 = .ok (.iastore, 1) := dk79 (BX12_findWorms_1_6 (256, 79) (List.mem_of_getElem? (i := 4) rfl))
theorem dX12_findWorms_257 : decode cX12_findWorms 257 = .ok (.iinc 4 1, 3) := dk132 4 1 (BX12_findWorms_3_3 (257, 132, 4, 1) (List.mem_of_getElem? (i := 6) rfl))
theorem dX12_findWorms_260 : decode cX12_findWorms 260 = .ok (.goto (-147), 3) := dk167 255 109 (BX12_findWorms_3_3 (260, 167, 255, 109) (List.mem_of_getElem? (i := 7) rfl))
theorem dX12_findWorms_263 : decode cX12_findWorms 263 = .ok (.return_, 1) := dk177 (BX12_findWorms_1_6 (263, 177) (List.mem_of_getElem? (i := 5) rfl))
set_option maxRecDepth 20000 in
theorem ggX12_worms_X12_isSlack : GoodIn wsX12_worms wsX12_isSlack := goodIn_g ch_wsX12_worms_flat gd_wsX12_worms _ [(1, 5), (1, 6), (1, 7), (1, 8), (1, 4), (1, 9)] rfl
set_option maxRecDepth 20000 in
theorem gX12_worms_X12_isSlack : GoodIn wsX12_worms (va_wsS RX12 163 yX12_isSlack wsX12_isSlack) := goodIn_app (goodIn_g ch_wsX12_worms_flat gd_wsX12_worms _ [(1, 2), (1, 3), (1, 4)] rfl) ggX12_worms_X12_isSlack
set_option maxRecDepth 20000 in
theorem ggX12_worms_X12_findWorms : GoodIn wsX12_worms wsX12_findWorms := gcons (goodIn_g ch_wsX12_worms_flat gd_wsX12_worms _ [(1, 13)] rfl) (goodIn_app (goodIn_g ch_wsX12_worms_flat gd_wsX12_worms _ [(1, 14), (1, 15), (1, 16), (1, 17), (1, 18), (1, 0), (1, 1)] rfl) (gchunk ch_wsX12_worms_flat gd_wsX12_worms 2 rfl))
set_option maxRecDepth 20000 in
theorem gX12_worms_X12_findWorms : GoodIn wsX12_worms (wsV RX12 166 RX12 yX12_findWorms wsX12_findWorms) := goodIn_app (goodIn_g ch_wsX12_worms_flat gd_wsX12_worms _ [(1, 10), (1, 11), (1, 12), (1, 4)] rfl) ggX12_worms_X12_findWorms
set_option maxRecDepth 20000 in
theorem SX12_worms : ∀ p : Nat, gb cX12_worms p = segF [[27, 184, 0, 163, 153, 0, 8, 28, 2, 162, 0, 5, 2, 172, 42, 27, 2, 182, 0, 166, 28, 2, 160, 0, 10, 42, 180, 0, 160, 167, 0, 21, 28, 42, 180, 0, 160, 162, 0, 12, 42, 180, 0, 34, 28, 46, 167, 0, 4, 2, 172]] p := seg_gb (S := [[27, 184, 0, 163, 153, 0, 8, 28, 2, 162, 0, 5, 2, 172, 42, 27, 2, 182, 0, 166, 28, 2, 160, 0, 10, 42, 180, 0, 160, 167, 0, 21, 28, 42, 180, 0, 160, 162, 0, 12, 42, 180, 0, 34, 28, 46, 167, 0, 4, 2, 172]]) (by decide +kernel) (by decide +kernel)
set_option maxRecDepth 20000 in
theorem BX12_worms_1_0 : ∀ q ∈ ([(0, 27), (7, 28), (8, 2), (12, 2), (13, 172), (14, 42), (15, 27), (16, 2), (20, 28), (21, 2), (25, 42), (32, 28)] : List (Nat × Nat)), gb cX12_worms q.1 = some q.2 := seg_1 SX12_worms _ (by decide +kernel)
set_option maxRecDepth 20000 in
theorem BX12_worms_1_1 : ∀ q ∈ ([(33, 42), (40, 42), (44, 28), (45, 46), (49, 2), (50, 172)] : List (Nat × Nat)), gb cX12_worms q.1 = some q.2 := seg_1 SX12_worms _ (by decide +kernel)
set_option maxRecDepth 20000 in
theorem BX12_worms_3_0 : ∀ q ∈ ([(1, 184, 0, 163), (4, 153, 0, 8), (9, 162, 0, 5), (17, 182, 0, 166), (22, 160, 0, 10), (26, 180, 0, 160), (29, 167, 0, 21), (34, 180, 0, 160), (37, 162, 0, 12), (41, 180, 0, 34), (46, 167, 0, 4)] : List (Nat × Nat × Nat × Nat)), gb cX12_worms q.1 = some q.2.1 ∧ gb cX12_worms (q.1 + 1) = some q.2.2.1 ∧ gb cX12_worms (q.1 + 2) = some q.2.2.2 := seg_3 SX12_worms _ (by decide +kernel)
theorem dX12_worms_0 : decode cX12_worms 0 = .ok (.iload_n 1, 1) := dk27 (BX12_worms_1_0 (0, 27) (List.mem_of_getElem? (i := 0) rfl))
theorem dX12_worms_1 : decode cX12_worms 1 = .ok (.invokestatic 163, 3) := dk184 0 163 (BX12_worms_3_0 (1, 184, 0, 163) (List.mem_of_getElem? (i := 0) rfl))
theorem dX12_worms_4 : decode cX12_worms 4 = .ok (.ifCond .eq 8, 3) := dk153 0 8 (BX12_worms_3_0 (4, 153, 0, 8) (List.mem_of_getElem? (i := 1) rfl))
theorem dX12_worms_7 : decode cX12_worms 7 = .ok (.iload_n 2, 1) := dk28 (BX12_worms_1_0 (7, 28) (List.mem_of_getElem? (i := 1) rfl))
theorem dX12_worms_8 : decode cX12_worms 8 = .ok (.iconst (-1), 1) := dk2 (BX12_worms_1_0 (8, 2) (List.mem_of_getElem? (i := 2) rfl))
theorem dX12_worms_9 : decode cX12_worms 9 = .ok (.if_icmp .ge 5, 3) := dk162 0 5 (BX12_worms_3_0 (9, 162, 0, 5) (List.mem_of_getElem? (i := 2) rfl))
theorem dX12_worms_12 : decode cX12_worms 12 = .ok (.iconst (-1), 1) := dk2 (BX12_worms_1_0 (12, 2) (List.mem_of_getElem? (i := 3) rfl))
theorem dX12_worms_13 : decode cX12_worms 13 = .ok (.ireturn, 1) := dk172 (BX12_worms_1_0 (13, 172) (List.mem_of_getElem? (i := 4) rfl))
theorem dX12_worms_14 : decode cX12_worms 14 = .ok (.aload_n 0, 1) := dk42 (BX12_worms_1_0 (14, 42) (List.mem_of_getElem? (i := 5) rfl))
theorem dX12_worms_15 : decode cX12_worms 15 = .ok (.iload_n 1, 1) := dk27 (BX12_worms_1_0 (15, 27) (List.mem_of_getElem? (i := 6) rfl))
theorem dX12_worms_16 : decode cX12_worms 16 = .ok (.iconst (-1), 1) := dk2 (BX12_worms_1_0 (16, 2) (List.mem_of_getElem? (i := 7) rfl))
theorem dX12_worms_17 : decode cX12_worms 17 = .ok (.invokevirtual 166, 3) := dk182 0 166 (BX12_worms_3_0 (17, 182, 0, 166) (List.mem_of_getElem? (i := 3) rfl))
theorem dX12_worms_20 : decode cX12_worms 20 = .ok (.iload_n 2, 1) := dk28 (BX12_worms_1_0 (20, 28) (List.mem_of_getElem? (i := 8) rfl))
theorem dX12_worms_21 : decode cX12_worms 21 = .ok (.iconst (-1), 1) := dk2 (BX12_worms_1_0 (21, 2) (List.mem_of_getElem? (i := 9) rfl))
theorem dX12_worms_22 : decode cX12_worms 22 = .ok (.if_icmp .ne 10, 3) := dk160 0 10 (BX12_worms_3_0 (22, 160, 0, 10) (List.mem_of_getElem? (i := 4) rfl))
theorem dX12_worms_25 : decode cX12_worms 25 = .ok (.aload_n 0, 1) := dk42 (BX12_worms_1_0 (25, 42) (List.mem_of_getElem? (i := 10) rfl))
theorem dX12_worms_26 : decode cX12_worms 26 = .ok (.getfield 160, 3) := dk180 0 160 (BX12_worms_3_0 (26, 180, 0, 160) (List.mem_of_getElem? (i := 5) rfl))
theorem dX12_worms_29 : decode cX12_worms 29 = .ok (.goto 21, 3) := dk167 0 21 (BX12_worms_3_0 (29, 167, 0, 21) (List.mem_of_getElem? (i := 6) rfl))
theorem dX12_worms_32 : decode cX12_worms 32 = .ok (.iload_n 2, 1) := dk28 (BX12_worms_1_0 (32, 28) (List.mem_of_getElem? (i := 11) rfl))
theorem dX12_worms_33 : decode cX12_worms 33 = .ok (.aload_n 0, 1) := dk42 (BX12_worms_1_1 (33, 42) (List.mem_of_getElem? (i := 0) rfl))
theorem dX12_worms_34 : decode cX12_worms 34 = .ok (.getfield 160, 3) := dk180 0 160 (BX12_worms_3_0 (34, 180, 0, 160) (List.mem_of_getElem? (i := 7) rfl))
theorem dX12_worms_37 : decode cX12_worms 37 = .ok (.if_icmp .ge 12, 3) := dk162 0 12 (BX12_worms_3_0 (37, 162, 0, 12) (List.mem_of_getElem? (i := 8) rfl))
theorem dX12_worms_40 : decode cX12_worms 40 = .ok (.aload_n 0, 1) := dk42 (BX12_worms_1_1 (40, 42) (List.mem_of_getElem? (i := 1) rfl))
theorem dX12_worms_41 : decode cX12_worms 41 = .ok (.getfield 34, 3) := dk180 0 34 (BX12_worms_3_0 (41, 180, 0, 34) (List.mem_of_getElem? (i := 9) rfl))
theorem dX12_worms_44 : decode cX12_worms 44 = .ok (.iload_n 2, 1) := dk28 (BX12_worms_1_1 (44, 28) (List.mem_of_getElem? (i := 2) rfl))
theorem dX12_worms_45 : decode cX12_worms 45 = .ok (.iaload, 1) := dk46 (BX12_worms_1_1 (45, 46) (List.mem_of_getElem? (i := 3) rfl))
theorem dX12_worms_46 : decode cX12_worms 46 = .ok (.goto 4, 3) := dk167 0 4 (BX12_worms_3_0 (46, 167, 0, 4) (List.mem_of_getElem? (i := 10) rfl))
theorem dX12_worms_49 : decode cX12_worms 49 = .ok (.iconst (-1), 1) := dk2 (BX12_worms_1_1 (49, 2) (List.mem_of_getElem? (i := 4) rfl))
theorem dX12_worms_50 : decode cX12_worms 50 = .ok (.ireturn, 1) := dk172 (BX12_worms_1_1 (50, 172) (List.mem_of_getElem? (i := 5) rfl))
set_option maxRecDepth 20000 in
theorem ggX12_led_X12_isHole : GoodIn wsX12_led wsX12_isHole := gcons (goodIn_g ch_wsX12_led_flat gd_wsX12_led _ [(1, 5)] rfl) (goodIn_app (goodIn_g ch_wsX12_led_flat gd_wsX12_led _ [(1, 6), (1, 7), (1, 8), (1, 4), (1, 9)] rfl) (gchunk ch_wsX12_led_flat gd_wsX12_led 2 rfl))
set_option maxRecDepth 20000 in
theorem gX12_led_X12_isHole : GoodIn wsX12_led (wsV RX12 170 RX12 yX12_isHole wsX12_isHole) := goodIn_app (goodIn_g ch_wsX12_led_flat gd_wsX12_led _ [(1, 1), (1, 2), (1, 3), (1, 4)] rfl) ggX12_led_X12_isHole
set_option maxRecDepth 20000 in
theorem ggX12_led_X12_isSlack : GoodIn wsX12_led wsX12_isSlack := goodIn_g ch_wsX12_led_flat gd_wsX12_led _ [(1, 12), (1, 13), (1, 7), (1, 8), (1, 4), (1, 9)] rfl
set_option maxRecDepth 20000 in
theorem gX12_led_X12_isSlack : GoodIn wsX12_led (va_wsS RX12 163 yX12_isSlack wsX12_isSlack) := goodIn_app (goodIn_g ch_wsX12_led_flat gd_wsX12_led _ [(1, 10), (1, 11), (1, 4)] rfl) ggX12_led_X12_isSlack
set_option maxRecDepth 20000 in
theorem ggX12_led_X12_findWorms : GoodIn wsX12_led wsX12_findWorms := gcons (goodIn_g ch_wsX12_led_flat gd_wsX12_led _ [(1, 17)] rfl) (goodIn_app (goodIn_g ch_wsX12_led_flat gd_wsX12_led _ [(1, 6), (1, 0), (1, 18), (1, 19), (1, 20), (1, 21), (1, 22)] rfl) (gchunk ch_wsX12_led_flat gd_wsX12_led 2 rfl))
set_option maxRecDepth 20000 in
theorem gX12_led_X12_findWorms : GoodIn wsX12_led (wsV RX12 166 RX12 yX12_findWorms wsX12_findWorms) := goodIn_app (goodIn_g ch_wsX12_led_flat gd_wsX12_led _ [(1, 14), (1, 15), (1, 16), (1, 4)] rfl) ggX12_led_X12_findWorms
set_option maxRecDepth 20000 in
theorem SX12_led : ∀ p : Nat, gb cX12_led p = segF [[42, 27, 182, 0, 170, 153, 0, 10, 28, 184, 0, 163, 154, 0, 5, 2, 172, 42, 28, 2, 182, 0, 166, 42, 180, 0, 31, 27, 46, 172]] p := seg_gb (S := [[42, 27, 182, 0, 170, 153, 0, 10, 28, 184, 0, 163, 154, 0, 5, 2, 172, 42, 28, 2, 182, 0, 166, 42, 180, 0, 31, 27, 46, 172]]) (by decide +kernel) (by decide +kernel)
set_option maxRecDepth 20000 in
theorem BX12_led_1_0 : ∀ q ∈ ([(0, 42), (1, 27), (8, 28), (15, 2), (16, 172), (17, 42), (18, 28), (19, 2), (23, 42), (27, 27), (28, 46), (29, 172)] : List (Nat × Nat)), gb cX12_led q.1 = some q.2 := seg_1 SX12_led _ (by decide +kernel)
set_option maxRecDepth 20000 in
theorem BX12_led_3_0 : ∀ q ∈ ([(2, 182, 0, 170), (5, 153, 0, 10), (9, 184, 0, 163), (12, 154, 0, 5), (20, 182, 0, 166), (24, 180, 0, 31)] : List (Nat × Nat × Nat × Nat)), gb cX12_led q.1 = some q.2.1 ∧ gb cX12_led (q.1 + 1) = some q.2.2.1 ∧ gb cX12_led (q.1 + 2) = some q.2.2.2 := seg_3 SX12_led _ (by decide +kernel)
theorem dX12_led_0 : decode cX12_led 0 = .ok (.aload_n 0, 1) := dk42 (BX12_led_1_0 (0, 42) (List.mem_of_getElem? (i := 0) rfl))
theorem dX12_led_1 : decode cX12_led 1 = .ok (.iload_n 1, 1) := dk27 (BX12_led_1_0 (1, 27) (List.mem_of_getElem? (i := 1) rfl))
theorem dX12_led_2 : decode cX12_led 2 = .ok (.invokevirtual 170, 3) := dk182 0 170 (BX12_led_3_0 (2, 182, 0, 170) (List.mem_of_getElem? (i := 0) rfl))
theorem dX12_led_5 : decode cX12_led 5 = .ok (.ifCond .eq 10, 3) := dk153 0 10 (BX12_led_3_0 (5, 153, 0, 10) (List.mem_of_getElem? (i := 1) rfl))
theorem dX12_led_8 : decode cX12_led 8 = .ok (.iload_n 2, 1) := dk28 (BX12_led_1_0 (8, 28) (List.mem_of_getElem? (i := 2) rfl))
theorem dX12_led_9 : decode cX12_led 9 = .ok (.invokestatic 163, 3) := dk184 0 163 (BX12_led_3_0 (9, 184, 0, 163) (List.mem_of_getElem? (i := 2) rfl))
theorem dX12_led_12 : decode cX12_led 12 = .ok (.ifCond .ne 5, 3) := dk154 0 5 (BX12_led_3_0 (12, 154, 0, 5) (List.mem_of_getElem? (i := 3) rfl))
theorem dX12_led_15 : decode cX12_led 15 = .ok (.iconst (-1), 1) := dk2 (BX12_led_1_0 (15, 2) (List.mem_of_getElem? (i := 3) rfl))
theorem dX12_led_16 : decode cX12_led 16 = .ok (.ireturn, 1) := dk172 (BX12_led_1_0 (16, 172) (List.mem_of_getElem? (i := 4) rfl))
theorem dX12_led_17 : decode cX12_led 17 = .ok (.aload_n 0, 1) := dk42 (BX12_led_1_0 (17, 42) (List.mem_of_getElem? (i := 5) rfl))
theorem dX12_led_18 : decode cX12_led 18 = .ok (.iload_n 2, 1) := dk28 (BX12_led_1_0 (18, 28) (List.mem_of_getElem? (i := 6) rfl))
theorem dX12_led_19 : decode cX12_led 19 = .ok (.iconst (-1), 1) := dk2 (BX12_led_1_0 (19, 2) (List.mem_of_getElem? (i := 7) rfl))
theorem dX12_led_20 : decode cX12_led 20 = .ok (.invokevirtual 166, 3) := dk182 0 166 (BX12_led_3_0 (20, 182, 0, 166) (List.mem_of_getElem? (i := 4) rfl))
theorem dX12_led_23 : decode cX12_led 23 = .ok (.aload_n 0, 1) := dk42 (BX12_led_1_0 (23, 42) (List.mem_of_getElem? (i := 8) rfl))
theorem dX12_led_24 : decode cX12_led 24 = .ok (.getfield 31, 3) := dk180 0 31 (BX12_led_3_0 (24, 180, 0, 31) (List.mem_of_getElem? (i := 5) rfl))
theorem dX12_led_27 : decode cX12_led 27 = .ok (.iload_n 1, 1) := dk27 (BX12_led_1_0 (27, 27) (List.mem_of_getElem? (i := 9) rfl))
theorem dX12_led_28 : decode cX12_led 28 = .ok (.iaload, 1) := dk46 (BX12_led_1_0 (28, 46) (List.mem_of_getElem? (i := 10) rfl))
theorem dX12_led_29 : decode cX12_led 29 = .ok (.ireturn, 1) := dk172 (BX12_led_1_0 (29, 172) (List.mem_of_getElem? (i := 11) rfl))
set_option maxRecDepth 20000 in
theorem SX12_lets : ∀ p : Nat, gb cX12_lets p = segF [[3, 60, 27, 42, 180, 0, 160, 162, 0, 108, 3, 61, 42, 180, 0, 34, 27, 46, 62, 3, 54, 4, 21, 4, 42, 180, 0, 173, 162, 0, 81, 29, 42, 180, 0, 37, 21, 4, 46, 122, 4, 126, 4, 160, 0, 7, 4, 167, 0, 4, 3, 54, 5, 21, 5, 153, 0, 19, 29, 4, 42, 180, 0, 37], [21, 4, 46, 120, 2, 130, 126, 167, 0, 4, 29, 62, 28, 4, 160, 0, 14, 21, 5, 154, 0, 9, 29, 153, 0, 5, 3, 172, 21, 5, 153, 0, 7, 4, 167, 0, 4, 28, 61, 132, 4, 1, 167, 255, 172, 132, 1, 1, 167, 255, 146, 4, 172]] p := seg_gb (S := [[3, 60, 27, 42, 180, 0, 160, 162, 0, 108, 3, 61, 42, 180, 0, 34, 27, 46, 62, 3, 54, 4, 21, 4, 42, 180, 0, 173, 162, 0, 81, 29, 42, 180, 0, 37, 21, 4, 46, 122, 4, 126, 4, 160, 0, 7, 4, 167, 0, 4, 3, 54, 5, 21, 5, 153, 0, 19, 29, 4, 42, 180, 0, 37], [21, 4, 46, 120, 2, 130, 126, 167, 0, 4, 29, 62, 28, 4, 160, 0, 14, 21, 5, 154, 0, 9, 29, 153, 0, 5, 3, 172, 21, 5, 153, 0, 7, 4, 167, 0, 4, 28, 61, 132, 4, 1, 167, 255, 172, 132, 1, 1, 167, 255, 146, 4, 172]]) (by decide +kernel) (by decide +kernel)
set_option maxRecDepth 20000 in
theorem BX12_lets_1_0 : ∀ q ∈ ([(0, 3), (1, 60), (2, 27), (3, 42), (10, 3), (11, 61), (12, 42), (16, 27), (17, 46), (18, 62), (19, 3), (24, 42)] : List (Nat × Nat)), gb cX12_lets q.1 = some q.2 := seg_1 SX12_lets _ (by decide +kernel)
set_option maxRecDepth 20000 in
theorem BX12_lets_1_1 : ∀ q ∈ ([(31, 29), (32, 42), (38, 46), (39, 122), (40, 4), (41, 126), (42, 4), (46, 4), (50, 3), (58, 29), (59, 4), (60, 42)] : List (Nat × Nat)), gb cX12_lets q.1 = some q.2 := seg_1 SX12_lets _ (by decide +kernel)
set_option maxRecDepth 20000 in
theorem BX12_lets_1_2 : ∀ q ∈ ([(66, 46), (67, 120), (68, 2), (69, 130), (70, 126), (74, 29), (75, 62), (76, 28), (77, 4), (86, 29), (90, 3), (91, 172)] : List (Nat × Nat)), gb cX12_lets q.1 = some q.2 := seg_1 SX12_lets _ (by decide +kernel)
set_option maxRecDepth 20000 in
theorem BX12_lets_1_3 : ∀ q ∈ ([(97, 4), (101, 28), (102, 61), (115, 4), (116, 172)] : List (Nat × Nat)), gb cX12_lets q.1 = some q.2 := seg_1 SX12_lets _ (by decide +kernel)
set_option maxRecDepth 20000 in
theorem BX12_lets_2_0 : ∀ q ∈ ([(20, 54, 4), (22, 21, 4), (36, 21, 4), (51, 54, 5), (53, 21, 5), (64, 21, 4), (81, 21, 5), (92, 21, 5)] : List (Nat × Nat × Nat)), gb cX12_lets q.1 = some q.2.1 ∧ gb cX12_lets (q.1 + 1) = some q.2.2 := seg_2 SX12_lets _ (by decide +kernel)
set_option maxRecDepth 20000 in
theorem BX12_lets_3_0 : ∀ q ∈ ([(4, 180, 0, 160), (7, 162, 0, 108), (13, 180, 0, 34), (25, 180, 0, 173), (28, 162, 0, 81), (33, 180, 0, 37), (43, 160, 0, 7), (47, 167, 0, 4), (55, 153, 0, 19), (61, 180, 0, 37), (71, 167, 0, 4), (78, 160, 0, 14)] : List (Nat × Nat × Nat × Nat)), gb cX12_lets q.1 = some q.2.1 ∧ gb cX12_lets (q.1 + 1) = some q.2.2.1 ∧ gb cX12_lets (q.1 + 2) = some q.2.2.2 := seg_3 SX12_lets _ (by decide +kernel)
set_option maxRecDepth 20000 in
theorem BX12_lets_3_1 : ∀ q ∈ ([(83, 154, 0, 9), (87, 153, 0, 5), (94, 153, 0, 7), (98, 167, 0, 4), (103, 132, 4, 1), (106, 167, 255, 172), (109, 132, 1, 1), (112, 167, 255, 146)] : List (Nat × Nat × Nat × Nat)), gb cX12_lets q.1 = some q.2.1 ∧ gb cX12_lets (q.1 + 1) = some q.2.2.1 ∧ gb cX12_lets (q.1 + 2) = some q.2.2.2 := seg_3 SX12_lets _ (by decide +kernel)
theorem dX12_lets_0 : decode cX12_lets 0 = .ok (.iconst 0, 1) := dk3 (BX12_lets_1_0 (0, 3) (List.mem_of_getElem? (i := 0) rfl))
theorem dX12_lets_1 : decode cX12_lets 1 = .ok (.istore_n 1, 1) := dk60 (BX12_lets_1_0 (1, 60) (List.mem_of_getElem? (i := 1) rfl))
theorem dX12_lets_2 : decode cX12_lets 2 = .ok (.iload_n 1, 1) := dk27 (BX12_lets_1_0 (2, 27) (List.mem_of_getElem? (i := 2) rfl))
theorem dX12_lets_3 : decode cX12_lets 3 = .ok (.aload_n 0, 1) := dk42 (BX12_lets_1_0 (3, 42) (List.mem_of_getElem? (i := 3) rfl))
theorem dX12_lets_4 : decode cX12_lets 4 = .ok (.getfield 160, 3) := dk180 0 160 (BX12_lets_3_0 (4, 180, 0, 160) (List.mem_of_getElem? (i := 0) rfl))
theorem dX12_lets_7 : decode cX12_lets 7 = .ok (.if_icmp .ge 108, 3) := dk162 0 108 (BX12_lets_3_0 (7, 162, 0, 108) (List.mem_of_getElem? (i := 1) rfl))
theorem dX12_lets_10 : decode cX12_lets 10 = .ok (.iconst 0, 1) := dk3 (BX12_lets_1_0 (10, 3) (List.mem_of_getElem? (i := 4) rfl))
theorem dX12_lets_11 : decode cX12_lets 11 = .ok (.istore_n 2, 1) := dk61 (BX12_lets_1_0 (11, 61) (List.mem_of_getElem? (i := 5) rfl))
theorem dX12_lets_12 : decode cX12_lets 12 = .ok (.aload_n 0, 1) := dk42 (BX12_lets_1_0 (12, 42) (List.mem_of_getElem? (i := 6) rfl))
theorem dX12_lets_13 : decode cX12_lets 13 = .ok (.getfield 34, 3) := dk180 0 34 (BX12_lets_3_0 (13, 180, 0, 34) (List.mem_of_getElem? (i := 2) rfl))
theorem dX12_lets_16 : decode cX12_lets 16 = .ok (.iload_n 1, 1) := dk27 (BX12_lets_1_0 (16, 27) (List.mem_of_getElem? (i := 7) rfl))
theorem dX12_lets_17 : decode cX12_lets 17 = .ok (.iaload, 1) := dk46 (BX12_lets_1_0 (17, 46) (List.mem_of_getElem? (i := 8) rfl))
theorem dX12_lets_18 : decode cX12_lets 18 = .ok (.istore_n 3, 1) := dk62 (BX12_lets_1_0 (18, 62) (List.mem_of_getElem? (i := 9) rfl))
theorem dX12_lets_19 : decode cX12_lets 19 = .ok (.iconst 0, 1) := dk3 (BX12_lets_1_0 (19, 3) (List.mem_of_getElem? (i := 10) rfl))
theorem dX12_lets_20 : decode cX12_lets 20 = .ok (.istore 4, 2) := dk54 4 (BX12_lets_2_0 (20, 54, 4) (List.mem_of_getElem? (i := 0) rfl))
theorem dX12_lets_22 : decode cX12_lets 22 = .ok (.iload 4, 2) := dk21 4 (BX12_lets_2_0 (22, 21, 4) (List.mem_of_getElem? (i := 1) rfl))
theorem dX12_lets_24 : decode cX12_lets 24 = .ok (.aload_n 0, 1) := dk42 (BX12_lets_1_0 (24, 42) (List.mem_of_getElem? (i := 11) rfl))
theorem dX12_lets_25 : decode cX12_lets 25 = .ok (.getfield 173, 3) := dk180 0 173 (BX12_lets_3_0 (25, 180, 0, 173) (List.mem_of_getElem? (i := 3) rfl))
theorem dX12_lets_28 : decode cX12_lets 28 = .ok (.if_icmp .ge 81, 3) := dk162 0 81 (BX12_lets_3_0 (28, 162, 0, 81) (List.mem_of_getElem? (i := 4) rfl))
theorem dX12_lets_31 : decode cX12_lets 31 = .ok (.iload_n 3, 1) := dk29 (BX12_lets_1_1 (31, 29) (List.mem_of_getElem? (i := 0) rfl))
theorem dX12_lets_32 : decode cX12_lets 32 = .ok (.aload_n 0, 1) := dk42 (BX12_lets_1_1 (32, 42) (List.mem_of_getElem? (i := 1) rfl))
theorem dX12_lets_33 : decode cX12_lets 33 = .ok (.getfield 37, 3) := dk180 0 37 (BX12_lets_3_0 (33, 180, 0, 37) (List.mem_of_getElem? (i := 5) rfl))
theorem dX12_lets_36 : decode cX12_lets 36 = .ok (.iload 4, 2) := dk21 4 (BX12_lets_2_0 (36, 21, 4) (List.mem_of_getElem? (i := 2) rfl))
theorem dX12_lets_38 : decode cX12_lets 38 = .ok (.iaload, 1) := dk46 (BX12_lets_1_1 (38, 46) (List.mem_of_getElem? (i := 2) rfl))
theorem dX12_lets_39 : decode cX12_lets 39 = .ok (.ishr, 1) := dk122 (BX12_lets_1_1 (39, 122) (List.mem_of_getElem? (i := 3) rfl))
theorem dX12_lets_40 : decode cX12_lets 40 = .ok (.iconst 1, 1) := dk4 (BX12_lets_1_1 (40, 4) (List.mem_of_getElem? (i := 4) rfl))
theorem dX12_lets_41 : decode cX12_lets 41 = .ok (.iand, 1) := dk126 (BX12_lets_1_1 (41, 126) (List.mem_of_getElem? (i := 5) rfl))
theorem dX12_lets_42 : decode cX12_lets 42 = .ok (.iconst 1, 1) := dk4 (BX12_lets_1_1 (42, 4) (List.mem_of_getElem? (i := 6) rfl))
theorem dX12_lets_43 : decode cX12_lets 43 = .ok (.if_icmp .ne 7, 3) := dk160 0 7 (BX12_lets_3_0 (43, 160, 0, 7) (List.mem_of_getElem? (i := 6) rfl))
theorem dX12_lets_46 : decode cX12_lets 46 = .ok (.iconst 1, 1) := dk4 (BX12_lets_1_1 (46, 4) (List.mem_of_getElem? (i := 7) rfl))
theorem dX12_lets_47 : decode cX12_lets 47 = .ok (.goto 4, 3) := dk167 0 4 (BX12_lets_3_0 (47, 167, 0, 4) (List.mem_of_getElem? (i := 7) rfl))
theorem dX12_lets_50 : decode cX12_lets 50 = .ok (.iconst 0, 1) := dk3 (BX12_lets_1_1 (50, 3) (List.mem_of_getElem? (i := 8) rfl))
theorem dX12_lets_51 : decode cX12_lets 51 = .ok (.istore 5, 2) := dk54 5 (BX12_lets_2_0 (51, 54, 5) (List.mem_of_getElem? (i := 3) rfl))
theorem dX12_lets_53 : decode cX12_lets 53 = .ok (.iload 5, 2) := dk21 5 (BX12_lets_2_0 (53, 21, 5) (List.mem_of_getElem? (i := 4) rfl))
theorem dX12_lets_55 : decode cX12_lets 55 = .ok (.ifCond .eq 19, 3) := dk153 0 19 (BX12_lets_3_0 (55, 153, 0, 19) (List.mem_of_getElem? (i := 8) rfl))
theorem dX12_lets_58 : decode cX12_lets 58 = .ok (.iload_n 3, 1) := dk29 (BX12_lets_1_1 (58, 29) (List.mem_of_getElem? (i := 9) rfl))
theorem dX12_lets_59 : decode cX12_lets 59 = .ok (.iconst 1, 1) := dk4 (BX12_lets_1_1 (59, 4) (List.mem_of_getElem? (i := 10) rfl))
theorem dX12_lets_60 : decode cX12_lets 60 = .ok (.aload_n 0, 1) := dk42 (BX12_lets_1_1 (60, 42) (List.mem_of_getElem? (i := 11) rfl))
theorem dX12_lets_61 : decode cX12_lets 61 = .ok (.getfield 37, 3) := dk180 0 37 (BX12_lets_3_0 (61, 180, 0, 37) (List.mem_of_getElem? (i := 9) rfl))
theorem dX12_lets_64 : decode cX12_lets 64 = .ok (.iload 4, 2) := dk21 4 (BX12_lets_2_0 (64, 21, 4) (List.mem_of_getElem? (i := 5) rfl))
theorem dX12_lets_66 : decode cX12_lets 66 = .ok (.iaload, 1) := dk46 (BX12_lets_1_2 (66, 46) (List.mem_of_getElem? (i := 0) rfl))
theorem dX12_lets_67 : decode cX12_lets 67 = .ok (.ishl, 1) := dk120 (BX12_lets_1_2 (67, 120) (List.mem_of_getElem? (i := 1) rfl))
theorem dX12_lets_68 : decode cX12_lets 68 = .ok (.iconst (-1), 1) := dk2 (BX12_lets_1_2 (68, 2) (List.mem_of_getElem? (i := 2) rfl))
theorem dX12_lets_69 : decode cX12_lets 69 = .ok (.ixor, 1) := dk130 (BX12_lets_1_2 (69, 130) (List.mem_of_getElem? (i := 3) rfl))
theorem dX12_lets_70 : decode cX12_lets 70 = .ok (.iand, 1) := dk126 (BX12_lets_1_2 (70, 126) (List.mem_of_getElem? (i := 4) rfl))
theorem dX12_lets_71 : decode cX12_lets 71 = .ok (.goto 4, 3) := dk167 0 4 (BX12_lets_3_0 (71, 167, 0, 4) (List.mem_of_getElem? (i := 10) rfl))
theorem dX12_lets_74 : decode cX12_lets 74 = .ok (.iload_n 3, 1) := dk29 (BX12_lets_1_2 (74, 29) (List.mem_of_getElem? (i := 5) rfl))
theorem dX12_lets_75 : decode cX12_lets 75 = .ok (.istore_n 3, 1) := dk62 (BX12_lets_1_2 (75, 62) (List.mem_of_getElem? (i := 6) rfl))
theorem dX12_lets_76 : decode cX12_lets 76 = .ok (.iload_n 2, 1) := dk28 (BX12_lets_1_2 (76, 28) (List.mem_of_getElem? (i := 7) rfl))
theorem dX12_lets_77 : decode cX12_lets 77 = .ok (.iconst 1, 1) := dk4 (BX12_lets_1_2 (77, 4) (List.mem_of_getElem? (i := 8) rfl))
theorem dX12_lets_78 : decode cX12_lets 78 = .ok (.if_icmp .ne 14, 3) := dk160 0 14 (BX12_lets_3_0 (78, 160, 0, 14) (List.mem_of_getElem? (i := 11) rfl))
theorem dX12_lets_81 : decode cX12_lets 81 = .ok (.iload 5, 2) := dk21 5 (BX12_lets_2_0 (81, 21, 5) (List.mem_of_getElem? (i := 6) rfl))
theorem dX12_lets_83 : decode cX12_lets 83 = .ok (.ifCond .ne 9, 3) := dk154 0 9 (BX12_lets_3_1 (83, 154, 0, 9) (List.mem_of_getElem? (i := 0) rfl))
theorem dX12_lets_86 : decode cX12_lets 86 = .ok (.iload_n 3, 1) := dk29 (BX12_lets_1_2 (86, 29) (List.mem_of_getElem? (i := 9) rfl))
theorem dX12_lets_87 : decode cX12_lets 87 = .ok (.ifCond .eq 5, 3) := dk153 0 5 (BX12_lets_3_1 (87, 153, 0, 5) (List.mem_of_getElem? (i := 1) rfl))
theorem dX12_lets_90 : decode cX12_lets 90 = .ok (.iconst 0, 1) := dk3 (BX12_lets_1_2 (90, 3) (List.mem_of_getElem? (i := 10) rfl))
theorem dX12_lets_91 : decode cX12_lets 91 = .ok (.ireturn, 1) := dk172 (BX12_lets_1_2 (91, 172) (List.mem_of_getElem? (i := 11) rfl))
theorem dX12_lets_92 : decode cX12_lets 92 = .ok (.iload 5, 2) := dk21 5 (BX12_lets_2_0 (92, 21, 5) (List.mem_of_getElem? (i := 7) rfl))
theorem dX12_lets_94 : decode cX12_lets 94 = .ok (.ifCond .eq 7, 3) := dk153 0 7 (BX12_lets_3_1 (94, 153, 0, 7) (List.mem_of_getElem? (i := 2) rfl))
theorem dX12_lets_97 : decode cX12_lets 97 = .ok (.iconst 1, 1) := dk4 (BX12_lets_1_3 (97, 4) (List.mem_of_getElem? (i := 0) rfl))
theorem dX12_lets_98 : decode cX12_lets 98 = .ok (.goto 4, 3) := dk167 0 4 (BX12_lets_3_1 (98, 167, 0, 4) (List.mem_of_getElem? (i := 3) rfl))
theorem dX12_lets_101 : decode cX12_lets 101 = .ok (.iload_n 2, 1) := dk28 (BX12_lets_1_3 (101, 28) (List.mem_of_getElem? (i := 1) rfl))
theorem dX12_lets_102 : decode cX12_lets 102 = .ok (.istore_n 2, 1) := dk61 (BX12_lets_1_3 (102, 61) (List.mem_of_getElem? (i := 2) rfl))
theorem dX12_lets_103 : decode cX12_lets 103 = .ok (.iinc 4 1, 3) := dk132 4 1 (BX12_lets_3_1 (103, 132, 4, 1) (List.mem_of_getElem? (i := 4) rfl))
theorem dX12_lets_106 : decode cX12_lets 106 = .ok (.goto (-84), 3) := dk167 255 172 (BX12_lets_3_1 (106, 167, 255, 172) (List.mem_of_getElem? (i := 5) rfl))
theorem dX12_lets_109 : decode cX12_lets 109 = .ok (.iinc 1 1, 3) := dk132 1 1 (BX12_lets_3_1 (109, 132, 1, 1) (List.mem_of_getElem? (i := 6) rfl))
theorem dX12_lets_112 : decode cX12_lets 112 = .ok (.goto (-110), 3) := dk167 255 146 (BX12_lets_3_1 (112, 167, 255, 146) (List.mem_of_getElem? (i := 7) rfl))
theorem dX12_lets_115 : decode cX12_lets 115 = .ok (.iconst 1, 1) := dk4 (BX12_lets_1_3 (115, 4) (List.mem_of_getElem? (i := 3) rfl))
theorem dX12_lets_116 : decode cX12_lets 116 = .ok (.ireturn, 1) := dk172 (BX12_lets_1_3 (116, 172) (List.mem_of_getElem? (i := 4) rfl))
set_option maxRecDepth 20000 in
theorem ggX12_goFrom_X12_lets : GoodIn wsX12_goFrom wsX12_lets := gcons (goodIn_g ch_wsX12_goFrom_flat gd_wsX12_goFrom _ [(1, 11)] rfl) (goodIn_app (goodIn_g ch_wsX12_goFrom_flat gd_wsX12_goFrom _ [(1, 12), (1, 13), (1, 0), (1, 5)] rfl) (gchunk ch_wsX12_goFrom_flat gd_wsX12_goFrom 2 rfl))
set_option maxRecDepth 20000 in
theorem gX12_goFrom_X12_lets : GoodIn wsX12_goFrom (wsV RX12 185 RX12 yX12_lets wsX12_lets) := goodIn_app (goodIn_g ch_wsX12_goFrom_flat gd_wsX12_goFrom _ [(1, 7), (1, 8), (1, 9), (1, 10)] rfl) ggX12_goFrom_X12_lets
set_option maxRecDepth 20000 in
theorem ggX12_goFrom_X12_goFrom : GoodIn wsX12_goFrom wsX12_goFrom := gcons (goodIn_g ch_wsX12_goFrom_flat gd_wsX12_goFrom _ [(0, 0)] rfl) (goodIn_app (goodIn_g ch_wsX12_goFrom_flat gd_wsX12_goFrom _ [(1, 0), (1, 1), (1, 2), (1, 3), (1, 4), (1, 5), (1, 6), (1, 7), (1, 8), (1, 9), (1, 10), (1, 11), (1, 12), (1, 13), (1, 14), (1, 15), (1, 16)] rfl) (gchunk ch_wsX12_goFrom_flat gd_wsX12_goFrom 2 rfl))
set_option maxRecDepth 20000 in
theorem gX12_goFrom_X12_goFrom : GoodIn wsX12_goFrom (wsV RX12 189 RX12 yX12_goFrom wsX12_goFrom) := goodIn_app (goodIn_g ch_wsX12_goFrom_flat gd_wsX12_goFrom _ [(1, 14), (1, 15), (1, 16), (1, 10)] rfl) ggX12_goFrom_X12_goFrom
set_option maxRecDepth 20000 in
theorem SX12_goFrom : ∀ p : Nat, gb cX12_goFrom p = segF [[42, 180, 0, 173, 42, 180, 0, 176, 160, 0, 103, 42, 42, 180, 0, 179, 154, 0, 7, 28, 167, 0, 7, 42, 180, 0, 182, 181, 0, 182, 42, 89, 180, 0, 179, 4, 96, 181, 0, 179, 4, 62, 29, 42, 180, 0, 173, 162, 0, 63, 42, 180, 0, 40, 16, 8, 42, 180, 0, 37, 29, 46, 104, 42], [180, 0, 37, 29, 4, 100, 46, 96, 92, 46, 4, 96, 79, 42, 180, 0, 40, 16, 8, 42, 180, 0, 37, 29, 4, 100, 46, 104, 42, 180, 0, 37, 29, 46, 96, 92, 46, 4, 96, 79, 132, 3, 1, 167, 255, 191, 177, 3, 62, 29, 42, 180, 0, 133, 162, 0, 71, 27, 29, 122, 4, 126, 154, 0], [57, 42, 180, 0, 37, 42, 180, 0, 173, 29, 79, 42, 89, 180, 0, 173, 4, 96, 181, 0, 173, 42, 182, 0, 185, 153, 0, 20, 42, 27, 4, 29, 120, 128, 16, 10, 28, 104, 29, 96, 4, 96, 182, 0, 189, 42, 89, 180, 0, 173, 4, 100, 181, 0, 173, 132, 3, 1, 167, 255, 183, 177]] p := seg_gb (S := [[42, 180, 0, 173, 42, 180, 0, 176, 160, 0, 103, 42, 42, 180, 0, 179, 154, 0, 7, 28, 167, 0, 7, 42, 180, 0, 182, 181, 0, 182, 42, 89, 180, 0, 179, 4, 96, 181, 0, 179, 4, 62, 29, 42, 180, 0, 173, 162, 0, 63, 42, 180, 0, 40, 16, 8, 42, 180, 0, 37, 29, 46, 104, 42], [180, 0, 37, 29, 4, 100, 46, 96, 92, 46, 4, 96, 79, 42, 180, 0, 40, 16, 8, 42, 180, 0, 37, 29, 4, 100, 46, 104, 42, 180, 0, 37, 29, 46, 96, 92, 46, 4, 96, 79, 132, 3, 1, 167, 255, 191, 177, 3, 62, 29, 42, 180, 0, 133, 162, 0, 71, 27, 29, 122, 4, 126, 154, 0], [57, 42, 180, 0, 37, 42, 180, 0, 173, 29, 79, 42, 89, 180, 0, 173, 4, 96, 181, 0, 173, 42, 182, 0, 185, 153, 0, 20, 42, 27, 4, 29, 120, 128, 16, 10, 28, 104, 29, 96, 4, 96, 182, 0, 189, 42, 89, 180, 0, 173, 4, 100, 181, 0, 173, 132, 3, 1, 167, 255, 183, 177]]) (by decide +kernel) (by decide +kernel)
set_option maxRecDepth 20000 in
theorem BX12_goFrom_1_0 : ∀ q ∈ ([(0, 42), (4, 42), (11, 42), (12, 42), (19, 28), (23, 42), (30, 42), (31, 89), (35, 4), (36, 96), (40, 4), (41, 62)] : List (Nat × Nat)), gb cX12_goFrom q.1 = some q.2 := seg_1 SX12_goFrom _ (by decide +kernel)
set_option maxRecDepth 20000 in
theorem BX12_goFrom_1_1 : ∀ q ∈ ([(42, 29), (43, 42), (50, 42), (56, 42), (60, 29), (61, 46), (62, 104), (63, 42), (67, 29), (68, 4), (69, 100), (70, 46)] : List (Nat × Nat)), gb cX12_goFrom q.1 = some q.2 := seg_1 SX12_goFrom _ (by decide +kernel)
set_option maxRecDepth 20000 in
theorem BX12_goFrom_1_2 : ∀ q ∈ ([(71, 96), (72, 92), (73, 46), (74, 4), (75, 96), (76, 79), (77, 42), (83, 42), (87, 29), (88, 4), (89, 100), (90, 46)] : List (Nat × Nat)), gb cX12_goFrom q.1 = some q.2 := seg_1 SX12_goFrom _ (by decide +kernel)
set_option maxRecDepth 20000 in
theorem BX12_goFrom_1_3 : ∀ q ∈ ([(91, 104), (92, 42), (96, 29), (97, 46), (98, 96), (99, 92), (100, 46), (101, 4), (102, 96), (103, 79), (110, 177), (111, 3)] : List (Nat × Nat)), gb cX12_goFrom q.1 = some q.2 := seg_1 SX12_goFrom _ (by decide +kernel)
set_option maxRecDepth 20000 in
theorem BX12_goFrom_1_4 : ∀ q ∈ ([(112, 62), (113, 29), (114, 42), (121, 27), (122, 29), (123, 122), (124, 4), (125, 126), (129, 42), (133, 42), (137, 29), (138, 79)] : List (Nat × Nat)), gb cX12_goFrom q.1 = some q.2 := seg_1 SX12_goFrom _ (by decide +kernel)
set_option maxRecDepth 20000 in
theorem BX12_goFrom_1_5 : ∀ q ∈ ([(139, 42), (140, 89), (144, 4), (145, 96), (149, 42), (156, 42), (157, 27), (158, 4), (159, 29), (160, 120), (161, 128), (164, 28)] : List (Nat × Nat)), gb cX12_goFrom q.1 = some q.2 := seg_1 SX12_goFrom _ (by decide +kernel)
set_option maxRecDepth 20000 in
theorem BX12_goFrom_1_6 : ∀ q ∈ ([(165, 104), (166, 29), (167, 96), (168, 4), (169, 96), (173, 42), (174, 89), (178, 4), (179, 100), (189, 177)] : List (Nat × Nat)), gb cX12_goFrom q.1 = some q.2 := seg_1 SX12_goFrom _ (by decide +kernel)
set_option maxRecDepth 20000 in
theorem BX12_goFrom_2_0 : ∀ q ∈ ([(54, 16, 8), (81, 16, 8), (162, 16, 10)] : List (Nat × Nat × Nat)), gb cX12_goFrom q.1 = some q.2.1 ∧ gb cX12_goFrom (q.1 + 1) = some q.2.2 := seg_2 SX12_goFrom _ (by decide +kernel)
set_option maxRecDepth 20000 in
theorem BX12_goFrom_3_0 : ∀ q ∈ ([(1, 180, 0, 173), (5, 180, 0, 176), (8, 160, 0, 103), (13, 180, 0, 179), (16, 154, 0, 7), (20, 167, 0, 7), (24, 180, 0, 182), (27, 181, 0, 182), (32, 180, 0, 179), (37, 181, 0, 179), (44, 180, 0, 173), (47, 162, 0, 63)] : List (Nat × Nat × Nat × Nat)), gb cX12_goFrom q.1 = some q.2.1 ∧ gb cX12_goFrom (q.1 + 1) = some q.2.2.1 ∧ gb cX12_goFrom (q.1 + 2) = some q.2.2.2 := seg_3 SX12_goFrom _ (by decide +kernel)
set_option maxRecDepth 20000 in
theorem BX12_goFrom_3_1 : ∀ q ∈ ([(51, 180, 0, 40), (57, 180, 0, 37), (64, 180, 0, 37), (78, 180, 0, 40), (84, 180, 0, 37), (93, 180, 0, 37), (104, 132, 3, 1), (107, 167, 255, 191), (115, 180, 0, 133), (118, 162, 0, 71), (126, 154, 0, 57), (130, 180, 0, 37)] : List (Nat × Nat × Nat × Nat)), gb cX12_goFrom q.1 = some q.2.1 ∧ gb cX12_goFrom (q.1 + 1) = some q.2.2.1 ∧ gb cX12_goFrom (q.1 + 2) = some q.2.2.2 := seg_3 SX12_goFrom _ (by decide +kernel)
set_option maxRecDepth 20000 in
theorem BX12_goFrom_3_2 : ∀ q ∈ ([(134, 180, 0, 173), (141, 180, 0, 173), (146, 181, 0, 173), (150, 182, 0, 185), (153, 153, 0, 20), (170, 182, 0, 189), (175, 180, 0, 173), (180, 181, 0, 173), (183, 132, 3, 1), (186, 167, 255, 183)] : List (Nat × Nat × Nat × Nat)), gb cX12_goFrom q.1 = some q.2.1 ∧ gb cX12_goFrom (q.1 + 1) = some q.2.2.1 ∧ gb cX12_goFrom (q.1 + 2) = some q.2.2.2 := seg_3 SX12_goFrom _ (by decide +kernel)
theorem dX12_goFrom_0 : decode cX12_goFrom 0 = .ok (.aload_n 0, 1) := dk42 (BX12_goFrom_1_0 (0, 42) (List.mem_of_getElem? (i := 0) rfl))
theorem dX12_goFrom_1 : decode cX12_goFrom 1 = .ok (.getfield 173, 3) := dk180 0 173 (BX12_goFrom_3_0 (1, 180, 0, 173) (List.mem_of_getElem? (i := 0) rfl))
theorem dX12_goFrom_4 : decode cX12_goFrom 4 = .ok (.aload_n 0, 1) := dk42 (BX12_goFrom_1_0 (4, 42) (List.mem_of_getElem? (i := 1) rfl))
theorem dX12_goFrom_5 : decode cX12_goFrom 5 = .ok (.getfield 176, 3) := dk180 0 176 (BX12_goFrom_3_0 (5, 180, 0, 176) (List.mem_of_getElem? (i := 1) rfl))
theorem dX12_goFrom_8 : decode cX12_goFrom 8 = .ok (.if_icmp .ne 103, 3) := dk160 0 103 (BX12_goFrom_3_0 (8, 160, 0, 103) (List.mem_of_getElem? (i := 2) rfl))
theorem dX12_goFrom_11 : decode cX12_goFrom 11 = .ok (.aload_n 0, 1) := dk42 (BX12_goFrom_1_0 (11, 42) (List.mem_of_getElem? (i := 2) rfl))
theorem dX12_goFrom_12 : decode cX12_goFrom 12 = .ok (.aload_n 0, 1) := dk42 (BX12_goFrom_1_0 (12, 42) (List.mem_of_getElem? (i := 3) rfl))
theorem dX12_goFrom_13 : decode cX12_goFrom 13 = .ok (.getfield 179, 3) := dk180 0 179 (BX12_goFrom_3_0 (13, 180, 0, 179) (List.mem_of_getElem? (i := 3) rfl))
theorem dX12_goFrom_16 : decode cX12_goFrom 16 = .ok (.ifCond .ne 7, 3) := dk154 0 7 (BX12_goFrom_3_0 (16, 154, 0, 7) (List.mem_of_getElem? (i := 4) rfl))
theorem dX12_goFrom_19 : decode cX12_goFrom 19 = .ok (.iload_n 2, 1) := dk28 (BX12_goFrom_1_0 (19, 28) (List.mem_of_getElem? (i := 4) rfl))
theorem dX12_goFrom_20 : decode cX12_goFrom 20 = .ok (.goto 7, 3) := dk167 0 7 (BX12_goFrom_3_0 (20, 167, 0, 7) (List.mem_of_getElem? (i := 5) rfl))
theorem dX12_goFrom_23 : decode cX12_goFrom 23 = .ok (.aload_n 0, 1) := dk42 (BX12_goFrom_1_0 (23, 42) (List.mem_of_getElem? (i := 5) rfl))
theorem dX12_goFrom_24 : decode cX12_goFrom 24 = .ok (.getfield 182, 3) := dk180 0 182 (BX12_goFrom_3_0 (24, 180, 0, 182) (List.mem_of_getElem? (i := 6) rfl))
theorem dX12_goFrom_27 : decode cX12_goFrom 27 = .ok (.putfield 182, 3) := dk181 0 182 (BX12_goFrom_3_0 (27, 181, 0, 182) (List.mem_of_getElem? (i := 7) rfl))
theorem dX12_goFrom_30 : decode cX12_goFrom 30 = .ok (.aload_n 0, 1) := dk42 (BX12_goFrom_1_0 (30, 42) (List.mem_of_getElem? (i := 6) rfl))
theorem dX12_goFrom_31 : decode cX12_goFrom 31 = .ok (.dup, 1) := dk89 (BX12_goFrom_1_0 (31, 89) (List.mem_of_getElem? (i := 7) rfl))
theorem dX12_goFrom_32 : decode cX12_goFrom 32 = .ok (.getfield 179, 3) := dk180 0 179 (BX12_goFrom_3_0 (32, 180, 0, 179) (List.mem_of_getElem? (i := 8) rfl))
theorem dX12_goFrom_35 : decode cX12_goFrom 35 = .ok (.iconst 1, 1) := dk4 (BX12_goFrom_1_0 (35, 4) (List.mem_of_getElem? (i := 8) rfl))
theorem dX12_goFrom_36 : decode cX12_goFrom 36 = .ok (.iadd, 1) := dk96 (BX12_goFrom_1_0 (36, 96) (List.mem_of_getElem? (i := 9) rfl))
theorem dX12_goFrom_37 : decode cX12_goFrom 37 = .ok (.putfield 179, 3) := dk181 0 179 (BX12_goFrom_3_0 (37, 181, 0, 179) (List.mem_of_getElem? (i := 9) rfl))
theorem dX12_goFrom_40 : decode cX12_goFrom 40 = .ok (.iconst 1, 1) := dk4 (BX12_goFrom_1_0 (40, 4) (List.mem_of_getElem? (i := 10) rfl))
theorem dX12_goFrom_41 : decode cX12_goFrom 41 = .ok (.istore_n 3, 1) := dk62 (BX12_goFrom_1_0 (41, 62) (List.mem_of_getElem? (i := 11) rfl))
theorem dX12_goFrom_42 : decode cX12_goFrom 42 = .ok (.iload_n 3, 1) := dk29 (BX12_goFrom_1_1 (42, 29) (List.mem_of_getElem? (i := 0) rfl))
theorem dX12_goFrom_43 : decode cX12_goFrom 43 = .ok (.aload_n 0, 1) := dk42 (BX12_goFrom_1_1 (43, 42) (List.mem_of_getElem? (i := 1) rfl))
theorem dX12_goFrom_44 : decode cX12_goFrom 44 = .ok (.getfield 173, 3) := dk180 0 173 (BX12_goFrom_3_0 (44, 180, 0, 173) (List.mem_of_getElem? (i := 10) rfl))
theorem dX12_goFrom_47 : decode cX12_goFrom 47 = .ok (.if_icmp .ge 63, 3) := dk162 0 63 (BX12_goFrom_3_0 (47, 162, 0, 63) (List.mem_of_getElem? (i := 11) rfl))
theorem dX12_goFrom_50 : decode cX12_goFrom 50 = .ok (.aload_n 0, 1) := dk42 (BX12_goFrom_1_1 (50, 42) (List.mem_of_getElem? (i := 2) rfl))
theorem dX12_goFrom_51 : decode cX12_goFrom 51 = .ok (.getfield 40, 3) := dk180 0 40 (BX12_goFrom_3_1 (51, 180, 0, 40) (List.mem_of_getElem? (i := 0) rfl))
theorem dX12_goFrom_54 : decode cX12_goFrom 54 = .ok (.bipush 8, 2) := dk16 8 (BX12_goFrom_2_0 (54, 16, 8) (List.mem_of_getElem? (i := 0) rfl))
theorem dX12_goFrom_56 : decode cX12_goFrom 56 = .ok (.aload_n 0, 1) := dk42 (BX12_goFrom_1_1 (56, 42) (List.mem_of_getElem? (i := 3) rfl))
theorem dX12_goFrom_57 : decode cX12_goFrom 57 = .ok (.getfield 37, 3) := dk180 0 37 (BX12_goFrom_3_1 (57, 180, 0, 37) (List.mem_of_getElem? (i := 1) rfl))
theorem dX12_goFrom_60 : decode cX12_goFrom 60 = .ok (.iload_n 3, 1) := dk29 (BX12_goFrom_1_1 (60, 29) (List.mem_of_getElem? (i := 4) rfl))
theorem dX12_goFrom_61 : decode cX12_goFrom 61 = .ok (.iaload, 1) := dk46 (BX12_goFrom_1_1 (61, 46) (List.mem_of_getElem? (i := 5) rfl))
theorem dX12_goFrom_62 : decode cX12_goFrom 62 = .ok (.imul, 1) := dk104 (BX12_goFrom_1_1 (62, 104) (List.mem_of_getElem? (i := 6) rfl))
theorem dX12_goFrom_63 : decode cX12_goFrom 63 = .ok (.aload_n 0, 1) := dk42 (BX12_goFrom_1_1 (63, 42) (List.mem_of_getElem? (i := 7) rfl))
theorem dX12_goFrom_64 : decode cX12_goFrom 64 = .ok (.getfield 37, 3) := dk180 0 37 (BX12_goFrom_3_1 (64, 180, 0, 37) (List.mem_of_getElem? (i := 2) rfl))
theorem dX12_goFrom_67 : decode cX12_goFrom 67 = .ok (.iload_n 3, 1) := dk29 (BX12_goFrom_1_1 (67, 29) (List.mem_of_getElem? (i := 8) rfl))
theorem dX12_goFrom_68 : decode cX12_goFrom 68 = .ok (.iconst 1, 1) := dk4 (BX12_goFrom_1_1 (68, 4) (List.mem_of_getElem? (i := 9) rfl))
theorem dX12_goFrom_69 : decode cX12_goFrom 69 = .ok (.isub, 1) := dk100 (BX12_goFrom_1_1 (69, 100) (List.mem_of_getElem? (i := 10) rfl))
theorem dX12_goFrom_70 : decode cX12_goFrom 70 = .ok (.iaload, 1) := dk46 (BX12_goFrom_1_1 (70, 46) (List.mem_of_getElem? (i := 11) rfl))
theorem dX12_goFrom_71 : decode cX12_goFrom 71 = .ok (.iadd, 1) := dk96 (BX12_goFrom_1_2 (71, 96) (List.mem_of_getElem? (i := 0) rfl))
theorem dX12_goFrom_72 : decode cX12_goFrom 72 = .ok (.dup2, 1) := dk92 (BX12_goFrom_1_2 (72, 92) (List.mem_of_getElem? (i := 1) rfl))
theorem dX12_goFrom_73 : decode cX12_goFrom 73 = .ok (.iaload, 1) := dk46 (BX12_goFrom_1_2 (73, 46) (List.mem_of_getElem? (i := 2) rfl))
theorem dX12_goFrom_74 : decode cX12_goFrom 74 = .ok (.iconst 1, 1) := dk4 (BX12_goFrom_1_2 (74, 4) (List.mem_of_getElem? (i := 3) rfl))
theorem dX12_goFrom_75 : decode cX12_goFrom 75 = .ok (.iadd, 1) := dk96 (BX12_goFrom_1_2 (75, 96) (List.mem_of_getElem? (i := 4) rfl))
theorem dX12_goFrom_76 : decode cX12_goFrom 76 = .ok (.iastore, 1) := dk79 (BX12_goFrom_1_2 (76, 79) (List.mem_of_getElem? (i := 5) rfl))
theorem dX12_goFrom_77 : decode cX12_goFrom 77 = .ok (.aload_n 0, 1) := dk42 (BX12_goFrom_1_2 (77, 42) (List.mem_of_getElem? (i := 6) rfl))
theorem dX12_goFrom_78 : decode cX12_goFrom 78 = .ok (.getfield 40, 3) := dk180 0 40 (BX12_goFrom_3_1 (78, 180, 0, 40) (List.mem_of_getElem? (i := 3) rfl))
theorem dX12_goFrom_81 : decode cX12_goFrom 81 = .ok (.bipush 8, 2) := dk16 8 (BX12_goFrom_2_0 (81, 16, 8) (List.mem_of_getElem? (i := 1) rfl))
theorem dX12_goFrom_83 : decode cX12_goFrom 83 = .ok (.aload_n 0, 1) := dk42 (BX12_goFrom_1_2 (83, 42) (List.mem_of_getElem? (i := 7) rfl))
theorem dX12_goFrom_84 : decode cX12_goFrom 84 = .ok (.getfield 37, 3) := dk180 0 37 (BX12_goFrom_3_1 (84, 180, 0, 37) (List.mem_of_getElem? (i := 4) rfl))
theorem dX12_goFrom_87 : decode cX12_goFrom 87 = .ok (.iload_n 3, 1) := dk29 (BX12_goFrom_1_2 (87, 29) (List.mem_of_getElem? (i := 8) rfl))
theorem dX12_goFrom_88 : decode cX12_goFrom 88 = .ok (.iconst 1, 1) := dk4 (BX12_goFrom_1_2 (88, 4) (List.mem_of_getElem? (i := 9) rfl))
theorem dX12_goFrom_89 : decode cX12_goFrom 89 = .ok (.isub, 1) := dk100 (BX12_goFrom_1_2 (89, 100) (List.mem_of_getElem? (i := 10) rfl))
theorem dX12_goFrom_90 : decode cX12_goFrom 90 = .ok (.iaload, 1) := dk46 (BX12_goFrom_1_2 (90, 46) (List.mem_of_getElem? (i := 11) rfl))
theorem dX12_goFrom_91 : decode cX12_goFrom 91 = .ok (.imul, 1) := dk104 (BX12_goFrom_1_3 (91, 104) (List.mem_of_getElem? (i := 0) rfl))
theorem dX12_goFrom_92 : decode cX12_goFrom 92 = .ok (.aload_n 0, 1) := dk42 (BX12_goFrom_1_3 (92, 42) (List.mem_of_getElem? (i := 1) rfl))
theorem dX12_goFrom_93 : decode cX12_goFrom 93 = .ok (.getfield 37, 3) := dk180 0 37 (BX12_goFrom_3_1 (93, 180, 0, 37) (List.mem_of_getElem? (i := 5) rfl))
theorem dX12_goFrom_96 : decode cX12_goFrom 96 = .ok (.iload_n 3, 1) := dk29 (BX12_goFrom_1_3 (96, 29) (List.mem_of_getElem? (i := 2) rfl))
theorem dX12_goFrom_97 : decode cX12_goFrom 97 = .ok (.iaload, 1) := dk46 (BX12_goFrom_1_3 (97, 46) (List.mem_of_getElem? (i := 3) rfl))
theorem dX12_goFrom_98 : decode cX12_goFrom 98 = .ok (.iadd, 1) := dk96 (BX12_goFrom_1_3 (98, 96) (List.mem_of_getElem? (i := 4) rfl))
theorem dX12_goFrom_99 : decode cX12_goFrom 99 = .ok (.dup2, 1) := dk92 (BX12_goFrom_1_3 (99, 92) (List.mem_of_getElem? (i := 5) rfl))
theorem dX12_goFrom_100 : decode cX12_goFrom 100 = .ok (.iaload, 1) := dk46 (BX12_goFrom_1_3 (100, 46) (List.mem_of_getElem? (i := 6) rfl))
theorem dX12_goFrom_101 : decode cX12_goFrom 101 = .ok (.iconst 1, 1) := dk4 (BX12_goFrom_1_3 (101, 4) (List.mem_of_getElem? (i := 7) rfl))
theorem dX12_goFrom_102 : decode cX12_goFrom 102 = .ok (.iadd, 1) := dk96 (BX12_goFrom_1_3 (102, 96) (List.mem_of_getElem? (i := 8) rfl))
theorem dX12_goFrom_103 : decode cX12_goFrom 103 = .ok (.iastore, 1) := dk79 (BX12_goFrom_1_3 (103, 79) (List.mem_of_getElem? (i := 9) rfl))
theorem dX12_goFrom_104 : decode cX12_goFrom 104 = .ok (.iinc 3 1, 3) := dk132 3 1 (BX12_goFrom_3_1 (104, 132, 3, 1) (List.mem_of_getElem? (i := 6) rfl))
theorem dX12_goFrom_107 : decode cX12_goFrom 107 = .ok (.goto (-65), 3) := dk167 255 191 (BX12_goFrom_3_1 (107, 167, 255, 191) (List.mem_of_getElem? (i := 7) rfl))
theorem dX12_goFrom_110 : decode cX12_goFrom 110 = .ok (.return_, 1) := dk177 (BX12_goFrom_1_3 (110, 177) (List.mem_of_getElem? (i := 10) rfl))
theorem dX12_goFrom_111 : decode cX12_goFrom 111 = .ok (.iconst 0, 1) := dk3 (BX12_goFrom_1_3 (111, 3) (List.mem_of_getElem? (i := 11) rfl))
theorem dX12_goFrom_112 : decode cX12_goFrom 112 = .ok (.istore_n 3, 1) := dk62 (BX12_goFrom_1_4 (112, 62) (List.mem_of_getElem? (i := 0) rfl))
theorem dX12_goFrom_113 : decode cX12_goFrom 113 = .ok (.iload_n 3, 1) := dk29 (BX12_goFrom_1_4 (113, 29) (List.mem_of_getElem? (i := 1) rfl))
theorem dX12_goFrom_114 : decode cX12_goFrom 114 = .ok (.aload_n 0, 1) := dk42 (BX12_goFrom_1_4 (114, 42) (List.mem_of_getElem? (i := 2) rfl))
theorem dX12_goFrom_115 : decode cX12_goFrom 115 = .ok (.getfield 133, 3) := dk180 0 133 (BX12_goFrom_3_1 (115, 180, 0, 133) (List.mem_of_getElem? (i := 8) rfl))
theorem dX12_goFrom_118 : decode cX12_goFrom 118 = .ok (.if_icmp .ge 71, 3) := dk162 0 71 (BX12_goFrom_3_1 (118, 162, 0, 71) (List.mem_of_getElem? (i := 9) rfl))
theorem dX12_goFrom_121 : decode cX12_goFrom 121 = .ok (.iload_n 1, 1) := dk27 (BX12_goFrom_1_4 (121, 27) (List.mem_of_getElem? (i := 3) rfl))
theorem dX12_goFrom_122 : decode cX12_goFrom 122 = .ok (.iload_n 3, 1) := dk29 (BX12_goFrom_1_4 (122, 29) (List.mem_of_getElem? (i := 4) rfl))
theorem dX12_goFrom_123 : decode cX12_goFrom 123 = .ok (.ishr, 1) := dk122 (BX12_goFrom_1_4 (123, 122) (List.mem_of_getElem? (i := 5) rfl))
theorem dX12_goFrom_124 : decode cX12_goFrom 124 = .ok (.iconst 1, 1) := dk4 (BX12_goFrom_1_4 (124, 4) (List.mem_of_getElem? (i := 6) rfl))
theorem dX12_goFrom_125 : decode cX12_goFrom 125 = .ok (.iand, 1) := dk126 (BX12_goFrom_1_4 (125, 126) (List.mem_of_getElem? (i := 7) rfl))
theorem dX12_goFrom_126 : decode cX12_goFrom 126 = .ok (.ifCond .ne 57, 3) := dk154 0 57 (BX12_goFrom_3_1 (126, 154, 0, 57) (List.mem_of_getElem? (i := 10) rfl))
theorem dX12_goFrom_129 : decode cX12_goFrom 129 = .ok (.aload_n 0, 1) := dk42 (BX12_goFrom_1_4 (129, 42) (List.mem_of_getElem? (i := 8) rfl))
theorem dX12_goFrom_130 : decode cX12_goFrom 130 = .ok (.getfield 37, 3) := dk180 0 37 (BX12_goFrom_3_1 (130, 180, 0, 37) (List.mem_of_getElem? (i := 11) rfl))
theorem dX12_goFrom_133 : decode cX12_goFrom 133 = .ok (.aload_n 0, 1) := dk42 (BX12_goFrom_1_4 (133, 42) (List.mem_of_getElem? (i := 9) rfl))
theorem dX12_goFrom_134 : decode cX12_goFrom 134 = .ok (.getfield 173, 3) := dk180 0 173 (BX12_goFrom_3_2 (134, 180, 0, 173) (List.mem_of_getElem? (i := 0) rfl))
theorem dX12_goFrom_137 : decode cX12_goFrom 137 = .ok (.iload_n 3, 1) := dk29 (BX12_goFrom_1_4 (137, 29) (List.mem_of_getElem? (i := 10) rfl))
theorem dX12_goFrom_138 : decode cX12_goFrom 138 = .ok (.iastore, 1) := dk79 (BX12_goFrom_1_4 (138, 79) (List.mem_of_getElem? (i := 11) rfl))
theorem dX12_goFrom_139 : decode cX12_goFrom 139 = .ok (.aload_n 0, 1) := dk42 (BX12_goFrom_1_5 (139, 42) (List.mem_of_getElem? (i := 0) rfl))
theorem dX12_goFrom_140 : decode cX12_goFrom 140 = .ok (.dup, 1) := dk89 (BX12_goFrom_1_5 (140, 89) (List.mem_of_getElem? (i := 1) rfl))
theorem dX12_goFrom_141 : decode cX12_goFrom 141 = .ok (.getfield 173, 3) := dk180 0 173 (BX12_goFrom_3_2 (141, 180, 0, 173) (List.mem_of_getElem? (i := 1) rfl))
theorem dX12_goFrom_144 : decode cX12_goFrom 144 = .ok (.iconst 1, 1) := dk4 (BX12_goFrom_1_5 (144, 4) (List.mem_of_getElem? (i := 2) rfl))
theorem dX12_goFrom_145 : decode cX12_goFrom 145 = .ok (.iadd, 1) := dk96 (BX12_goFrom_1_5 (145, 96) (List.mem_of_getElem? (i := 3) rfl))
theorem dX12_goFrom_146 : decode cX12_goFrom 146 = .ok (.putfield 173, 3) := dk181 0 173 (BX12_goFrom_3_2 (146, 181, 0, 173) (List.mem_of_getElem? (i := 2) rfl))
theorem dX12_goFrom_149 : decode cX12_goFrom 149 = .ok (.aload_n 0, 1) := dk42 (BX12_goFrom_1_5 (149, 42) (List.mem_of_getElem? (i := 4) rfl))
theorem dX12_goFrom_150 : decode cX12_goFrom 150 = .ok (.invokevirtual 185, 3) := dk182 0 185 (BX12_goFrom_3_2 (150, 182, 0, 185) (List.mem_of_getElem? (i := 3) rfl))
theorem dX12_goFrom_153 : decode cX12_goFrom 153 = .ok (.ifCond .eq 20, 3) := dk153 0 20 (BX12_goFrom_3_2 (153, 153, 0, 20) (List.mem_of_getElem? (i := 4) rfl))
theorem dX12_goFrom_156 : decode cX12_goFrom 156 = .ok (.aload_n 0, 1) := dk42 (BX12_goFrom_1_5 (156, 42) (List.mem_of_getElem? (i := 5) rfl))
theorem dX12_goFrom_157 : decode cX12_goFrom 157 = .ok (.iload_n 1, 1) := dk27 (BX12_goFrom_1_5 (157, 27) (List.mem_of_getElem? (i := 6) rfl))
theorem dX12_goFrom_158 : decode cX12_goFrom 158 = .ok (.iconst 1, 1) := dk4 (BX12_goFrom_1_5 (158, 4) (List.mem_of_getElem? (i := 7) rfl))
theorem dX12_goFrom_159 : decode cX12_goFrom 159 = .ok (.iload_n 3, 1) := dk29 (BX12_goFrom_1_5 (159, 29) (List.mem_of_getElem? (i := 8) rfl))
theorem dX12_goFrom_160 : decode cX12_goFrom 160 = .ok (.ishl, 1) := dk120 (BX12_goFrom_1_5 (160, 120) (List.mem_of_getElem? (i := 9) rfl))
theorem dX12_goFrom_161 : decode cX12_goFrom 161 = .ok (.ior, 1) := dk128 (BX12_goFrom_1_5 (161, 128) (List.mem_of_getElem? (i := 10) rfl))
theorem dX12_goFrom_162 : decode cX12_goFrom 162 = .ok (.bipush 10, 2) := dk16 10 (BX12_goFrom_2_0 (162, 16, 10) (List.mem_of_getElem? (i := 2) rfl))
theorem dX12_goFrom_164 : decode cX12_goFrom 164 = .ok (.iload_n 2, 1) := dk28 (BX12_goFrom_1_5 (164, 28) (List.mem_of_getElem? (i := 11) rfl))
theorem dX12_goFrom_165 : decode cX12_goFrom 165 = .ok (.imul, 1) := dk104 (BX12_goFrom_1_6 (165, 104) (List.mem_of_getElem? (i := 0) rfl))
theorem dX12_goFrom_166 : decode cX12_goFrom 166 = .ok (.iload_n 3, 1) := dk29 (BX12_goFrom_1_6 (166, 29) (List.mem_of_getElem? (i := 1) rfl))
theorem dX12_goFrom_167 : decode cX12_goFrom 167 = .ok (.iadd, 1) := dk96 (BX12_goFrom_1_6 (167, 96) (List.mem_of_getElem? (i := 2) rfl))
theorem dX12_goFrom_168 : decode cX12_goFrom 168 = .ok (.iconst 1, 1) := dk4 (BX12_goFrom_1_6 (168, 4) (List.mem_of_getElem? (i := 3) rfl))
theorem dX12_goFrom_169 : decode cX12_goFrom 169 = .ok (.iadd, 1) := dk96 (BX12_goFrom_1_6 (169, 96) (List.mem_of_getElem? (i := 4) rfl))
theorem dX12_goFrom_170 : decode cX12_goFrom 170 = .ok (.invokevirtual 189, 3) := dk182 0 189 (BX12_goFrom_3_2 (170, 182, 0, 189) (List.mem_of_getElem? (i := 5) rfl))
theorem dX12_goFrom_173 : decode cX12_goFrom 173 = .ok (.aload_n 0, 1) := dk42 (BX12_goFrom_1_6 (173, 42) (List.mem_of_getElem? (i := 5) rfl))
theorem dX12_goFrom_174 : decode cX12_goFrom 174 = .ok (.dup, 1) := dk89 (BX12_goFrom_1_6 (174, 89) (List.mem_of_getElem? (i := 6) rfl))
theorem dX12_goFrom_175 : decode cX12_goFrom 175 = .ok (.getfield 173, 3) := dk180 0 173 (BX12_goFrom_3_2 (175, 180, 0, 173) (List.mem_of_getElem? (i := 6) rfl))
theorem dX12_goFrom_178 : decode cX12_goFrom 178 = .ok (.iconst 1, 1) := dk4 (BX12_goFrom_1_6 (178, 4) (List.mem_of_getElem? (i := 7) rfl))
theorem dX12_goFrom_179 : decode cX12_goFrom 179 = .ok (.isub, 1) := dk100 (BX12_goFrom_1_6 (179, 100) (List.mem_of_getElem? (i := 8) rfl))
theorem dX12_goFrom_180 : decode cX12_goFrom 180 = .ok (.putfield 173, 3) := dk181 0 173 (BX12_goFrom_3_2 (180, 181, 0, 173) (List.mem_of_getElem? (i := 7) rfl))
theorem dX12_goFrom_183 : decode cX12_goFrom 183 = .ok (.iinc 3 1, 3) := dk132 3 1 (BX12_goFrom_3_2 (183, 132, 3, 1) (List.mem_of_getElem? (i := 8) rfl))
theorem dX12_goFrom_186 : decode cX12_goFrom 186 = .ok (.goto (-73), 3) := dk167 255 183 (BX12_goFrom_3_2 (186, 167, 255, 183) (List.mem_of_getElem? (i := 9) rfl))
theorem dX12_goFrom_189 : decode cX12_goFrom 189 = .ok (.return_, 1) := dk177 (BX12_goFrom_1_6 (189, 177) (List.mem_of_getElem? (i := 9) rfl))
set_option maxRecDepth 20000 in
theorem ggX12_findOrders_X12_findWorms : GoodIn wsX12_findOrders wsX12_findWorms := gcons (goodIn_g ch_wsX12_findOrders_flat gd_wsX12_findOrders _ [(1, 10)] rfl) (goodIn_app (goodIn_g ch_wsX12_findOrders_flat gd_wsX12_findOrders _ [(1, 11), (1, 12), (1, 13), (1, 14), (1, 15), (1, 16), (1, 17)] rfl) (gchunk ch_wsX12_findOrders_flat gd_wsX12_findOrders 3 rfl))
set_option maxRecDepth 20000 in
theorem gX12_findOrders_X12_findWorms : GoodIn wsX12_findOrders (wsV RX12 166 RX12 yX12_findWorms wsX12_findWorms) := goodIn_app (goodIn_g ch_wsX12_findOrders_flat gd_wsX12_findOrders _ [(1, 6), (1, 7), (1, 8), (1, 9)] rfl) ggX12_findOrders_X12_findWorms
set_option maxRecDepth 20000 in
theorem ggX12_findOrders_X12_goFrom : GoodIn wsX12_findOrders wsX12_goFrom := gcons (goodIn_g ch_wsX12_findOrders_flat gd_wsX12_findOrders _ [(1, 21)] rfl) (goodIn_app (goodIn_g ch_wsX12_findOrders_flat gd_wsX12_findOrders _ [(1, 3), (1, 5), (1, 1), (1, 2), (1, 0), (1, 22), (1, 4), (1, 23), (2, 0), (2, 1), (1, 9), (2, 2), (1, 16), (1, 17), (1, 18), (1, 19), (1, 20)] rfl) (gchunk ch_wsX12_findOrders_flat gd_wsX12_findOrders 3 rfl))
set_option maxRecDepth 20000 in
theorem gX12_findOrders_X12_goFrom : GoodIn wsX12_findOrders (wsV RX12 189 RX12 yX12_goFrom wsX12_goFrom) := goodIn_app (goodIn_g ch_wsX12_findOrders_flat gd_wsX12_findOrders _ [(1, 18), (1, 19), (1, 20), (1, 9)] rfl) ggX12_findOrders_X12_goFrom
set_option maxRecDepth 20000 in
theorem SX12_findOrders : ∀ p : Nat, gb cX12_findOrders p = segF [[42, 27, 28, 182, 0, 166, 3, 62, 29, 16, 64, 162, 0, 16, 42, 180, 0, 40, 29, 3, 79, 132, 3, 1, 167, 255, 240, 42, 3, 181, 0, 179, 42, 3, 181, 0, 182, 42, 3, 181, 0, 173, 42, 28, 156, 0, 10, 42, 180, 0, 133, 167, 0, 9, 42, 180, 0, 133, 4, 100, 181, 0, 176, 42], [28, 156, 0, 7, 3, 167, 0, 6, 4, 28, 120, 3, 182, 0, 189, 177]] p := seg_gb (S := [[42, 27, 28, 182, 0, 166, 3, 62, 29, 16, 64, 162, 0, 16, 42, 180, 0, 40, 29, 3, 79, 132, 3, 1, 167, 255, 240, 42, 3, 181, 0, 179, 42, 3, 181, 0, 182, 42, 3, 181, 0, 173, 42, 28, 156, 0, 10, 42, 180, 0, 133, 167, 0, 9, 42, 180, 0, 133, 4, 100, 181, 0, 176, 42], [28, 156, 0, 7, 3, 167, 0, 6, 4, 28, 120, 3, 182, 0, 189, 177]]) (by decide +kernel) (by decide +kernel)
set_option maxRecDepth 20000 in
theorem BX12_findOrders_1_0 : ∀ q ∈ ([(0, 42), (1, 27), (2, 28), (6, 3), (7, 62), (8, 29), (14, 42), (18, 29), (19, 3), (20, 79), (27, 42), (28, 3)] : List (Nat × Nat)), gb cX12_findOrders q.1 = some q.2 := seg_1 SX12_findOrders _ (by decide +kernel)
set_option maxRecDepth 20000 in
theorem BX12_findOrders_1_1 : ∀ q ∈ ([(32, 42), (33, 3), (37, 42), (38, 3), (42, 42), (43, 28), (47, 42), (54, 42), (58, 4), (59, 100), (63, 42), (64, 28)] : List (Nat × Nat)), gb cX12_findOrders q.1 = some q.2 := seg_1 SX12_findOrders _ (by decide +kernel)
set_option maxRecDepth 20000 in
theorem BX12_findOrders_1_2 : ∀ q ∈ ([(68, 3), (72, 4), (73, 28), (74, 120), (75, 3), (79, 177)] : List (Nat × Nat)), gb cX12_findOrders q.1 = some q.2 := seg_1 SX12_findOrders _ (by decide +kernel)
set_option maxRecDepth 20000 in
theorem BX12_findOrders_2_0 : ∀ q ∈ ([(9, 16, 64)] : List (Nat × Nat × Nat)), gb cX12_findOrders q.1 = some q.2.1 ∧ gb cX12_findOrders (q.1 + 1) = some q.2.2 := seg_2 SX12_findOrders _ (by decide +kernel)
set_option maxRecDepth 20000 in
theorem BX12_findOrders_3_0 : ∀ q ∈ ([(3, 182, 0, 166), (11, 162, 0, 16), (15, 180, 0, 40), (21, 132, 3, 1), (24, 167, 255, 240), (29, 181, 0, 179), (34, 181, 0, 182), (39, 181, 0, 173), (44, 156, 0, 10), (48, 180, 0, 133), (51, 167, 0, 9), (55, 180, 0, 133)] : List (Nat × Nat × Nat × Nat)), gb cX12_findOrders q.1 = some q.2.1 ∧ gb cX12_findOrders (q.1 + 1) = some q.2.2.1 ∧ gb cX12_findOrders (q.1 + 2) = some q.2.2.2 := seg_3 SX12_findOrders _ (by decide +kernel)
set_option maxRecDepth 20000 in
theorem BX12_findOrders_3_1 : ∀ q ∈ ([(60, 181, 0, 176), (65, 156, 0, 7), (69, 167, 0, 6), (76, 182, 0, 189)] : List (Nat × Nat × Nat × Nat)), gb cX12_findOrders q.1 = some q.2.1 ∧ gb cX12_findOrders (q.1 + 1) = some q.2.2.1 ∧ gb cX12_findOrders (q.1 + 2) = some q.2.2.2 := seg_3 SX12_findOrders _ (by decide +kernel)
theorem dX12_findOrders_0 : decode cX12_findOrders 0 = .ok (.aload_n 0, 1) := dk42 (BX12_findOrders_1_0 (0, 42) (List.mem_of_getElem? (i := 0) rfl))
theorem dX12_findOrders_1 : decode cX12_findOrders 1 = .ok (.iload_n 1, 1) := dk27 (BX12_findOrders_1_0 (1, 27) (List.mem_of_getElem? (i := 1) rfl))
theorem dX12_findOrders_2 : decode cX12_findOrders 2 = .ok (.iload_n 2, 1) := dk28 (BX12_findOrders_1_0 (2, 28) (List.mem_of_getElem? (i := 2) rfl))
theorem dX12_findOrders_3 : decode cX12_findOrders 3 = .ok (.invokevirtual 166, 3) := dk182 0 166 (BX12_findOrders_3_0 (3, 182, 0, 166) (List.mem_of_getElem? (i := 0) rfl))
theorem dX12_findOrders_6 : decode cX12_findOrders 6 = .ok (.iconst 0, 1) := dk3 (BX12_findOrders_1_0 (6, 3) (List.mem_of_getElem? (i := 3) rfl))
theorem dX12_findOrders_7 : decode cX12_findOrders 7 = .ok (.istore_n 3, 1) := dk62 (BX12_findOrders_1_0 (7, 62) (List.mem_of_getElem? (i := 4) rfl))
theorem dX12_findOrders_8 : decode cX12_findOrders 8 = .ok (.iload_n 3, 1) := dk29 (BX12_findOrders_1_0 (8, 29) (List.mem_of_getElem? (i := 5) rfl))
theorem dX12_findOrders_9 : decode cX12_findOrders 9 = .ok (.bipush 64, 2) := dk16 64 (BX12_findOrders_2_0 (9, 16, 64) (List.mem_of_getElem? (i := 0) rfl))
theorem dX12_findOrders_11 : decode cX12_findOrders 11 = .ok (.if_icmp .ge 16, 3) := dk162 0 16 (BX12_findOrders_3_0 (11, 162, 0, 16) (List.mem_of_getElem? (i := 1) rfl))
theorem dX12_findOrders_14 : decode cX12_findOrders 14 = .ok (.aload_n 0, 1) := dk42 (BX12_findOrders_1_0 (14, 42) (List.mem_of_getElem? (i := 6) rfl))
theorem dX12_findOrders_15 : decode cX12_findOrders 15 = .ok (.getfield 40, 3) := dk180 0 40 (BX12_findOrders_3_0 (15, 180, 0, 40) (List.mem_of_getElem? (i := 2) rfl))
theorem dX12_findOrders_18 : decode cX12_findOrders 18 = .ok (.iload_n 3, 1) := dk29 (BX12_findOrders_1_0 (18, 29) (List.mem_of_getElem? (i := 7) rfl))
theorem dX12_findOrders_19 : decode cX12_findOrders 19 = .ok (.iconst 0, 1) := dk3 (BX12_findOrders_1_0 (19, 3) (List.mem_of_getElem? (i := 8) rfl))
theorem dX12_findOrders_20 : decode cX12_findOrders 20 = .ok (.iastore, 1) := dk79 (BX12_findOrders_1_0 (20, 79) (List.mem_of_getElem? (i := 9) rfl))
theorem dX12_findOrders_21 : decode cX12_findOrders 21 = .ok (.iinc 3 1, 3) := dk132 3 1 (BX12_findOrders_3_0 (21, 132, 3, 1) (List.mem_of_getElem? (i := 3) rfl))
theorem dX12_findOrders_24 : decode cX12_findOrders 24 = .ok (.goto (-16), 3) := dk167 255 240 (BX12_findOrders_3_0 (24, 167, 255, 240) (List.mem_of_getElem? (i := 4) rfl))
theorem dX12_findOrders_27 : decode cX12_findOrders 27 = .ok (.aload_n 0, 1) := dk42 (BX12_findOrders_1_0 (27, 42) (List.mem_of_getElem? (i := 10) rfl))
theorem dX12_findOrders_28 : decode cX12_findOrders 28 = .ok (.iconst 0, 1) := dk3 (BX12_findOrders_1_0 (28, 3) (List.mem_of_getElem? (i := 11) rfl))
theorem dX12_findOrders_29 : decode cX12_findOrders 29 = .ok (.putfield 179, 3) := dk181 0 179 (BX12_findOrders_3_0 (29, 181, 0, 179) (List.mem_of_getElem? (i := 5) rfl))
theorem dX12_findOrders_32 : decode cX12_findOrders 32 = .ok (.aload_n 0, 1) := dk42 (BX12_findOrders_1_1 (32, 42) (List.mem_of_getElem? (i := 0) rfl))
theorem dX12_findOrders_33 : decode cX12_findOrders 33 = .ok (.iconst 0, 1) := dk3 (BX12_findOrders_1_1 (33, 3) (List.mem_of_getElem? (i := 1) rfl))
theorem dX12_findOrders_34 : decode cX12_findOrders 34 = .ok (.putfield 182, 3) := dk181 0 182 (BX12_findOrders_3_0 (34, 181, 0, 182) (List.mem_of_getElem? (i := 6) rfl))
theorem dX12_findOrders_37 : decode cX12_findOrders 37 = .ok (.aload_n 0, 1) := dk42 (BX12_findOrders_1_1 (37, 42) (List.mem_of_getElem? (i := 2) rfl))
theorem dX12_findOrders_38 : decode cX12_findOrders 38 = .ok (.iconst 0, 1) := dk3 (BX12_findOrders_1_1 (38, 3) (List.mem_of_getElem? (i := 3) rfl))
theorem dX12_findOrders_39 : decode cX12_findOrders 39 = .ok (.putfield 173, 3) := dk181 0 173 (BX12_findOrders_3_0 (39, 181, 0, 173) (List.mem_of_getElem? (i := 7) rfl))
theorem dX12_findOrders_42 : decode cX12_findOrders 42 = .ok (.aload_n 0, 1) := dk42 (BX12_findOrders_1_1 (42, 42) (List.mem_of_getElem? (i := 4) rfl))
theorem dX12_findOrders_43 : decode cX12_findOrders 43 = .ok (.iload_n 2, 1) := dk28 (BX12_findOrders_1_1 (43, 28) (List.mem_of_getElem? (i := 5) rfl))
theorem dX12_findOrders_44 : decode cX12_findOrders 44 = .ok (.ifCond .ge 10, 3) := dk156 0 10 (BX12_findOrders_3_0 (44, 156, 0, 10) (List.mem_of_getElem? (i := 8) rfl))
theorem dX12_findOrders_47 : decode cX12_findOrders 47 = .ok (.aload_n 0, 1) := dk42 (BX12_findOrders_1_1 (47, 42) (List.mem_of_getElem? (i := 6) rfl))
theorem dX12_findOrders_48 : decode cX12_findOrders 48 = .ok (.getfield 133, 3) := dk180 0 133 (BX12_findOrders_3_0 (48, 180, 0, 133) (List.mem_of_getElem? (i := 9) rfl))
theorem dX12_findOrders_51 : decode cX12_findOrders 51 = .ok (.goto 9, 3) := dk167 0 9 (BX12_findOrders_3_0 (51, 167, 0, 9) (List.mem_of_getElem? (i := 10) rfl))
theorem dX12_findOrders_54 : decode cX12_findOrders 54 = .ok (.aload_n 0, 1) := dk42 (BX12_findOrders_1_1 (54, 42) (List.mem_of_getElem? (i := 7) rfl))
theorem dX12_findOrders_55 : decode cX12_findOrders 55 = .ok (.getfield 133, 3) := dk180 0 133 (BX12_findOrders_3_0 (55, 180, 0, 133) (List.mem_of_getElem? (i := 11) rfl))
theorem dX12_findOrders_58 : decode cX12_findOrders 58 = .ok (.iconst 1, 1) := dk4 (BX12_findOrders_1_1 (58, 4) (List.mem_of_getElem? (i := 8) rfl))
theorem dX12_findOrders_59 : decode cX12_findOrders 59 = .ok (.isub, 1) := dk100 (BX12_findOrders_1_1 (59, 100) (List.mem_of_getElem? (i := 9) rfl))
theorem dX12_findOrders_60 : decode cX12_findOrders 60 = .ok (.putfield 176, 3) := dk181 0 176 (BX12_findOrders_3_1 (60, 181, 0, 176) (List.mem_of_getElem? (i := 0) rfl))
theorem dX12_findOrders_63 : decode cX12_findOrders 63 = .ok (.aload_n 0, 1) := dk42 (BX12_findOrders_1_1 (63, 42) (List.mem_of_getElem? (i := 10) rfl))
theorem dX12_findOrders_64 : decode cX12_findOrders 64 = .ok (.iload_n 2, 1) := dk28 (BX12_findOrders_1_1 (64, 28) (List.mem_of_getElem? (i := 11) rfl))
theorem dX12_findOrders_65 : decode cX12_findOrders 65 = .ok (.ifCond .ge 7, 3) := dk156 0 7 (BX12_findOrders_3_1 (65, 156, 0, 7) (List.mem_of_getElem? (i := 1) rfl))
theorem dX12_findOrders_68 : decode cX12_findOrders 68 = .ok (.iconst 0, 1) := dk3 (BX12_findOrders_1_2 (68, 3) (List.mem_of_getElem? (i := 0) rfl))
theorem dX12_findOrders_69 : decode cX12_findOrders 69 = .ok (.goto 6, 3) := dk167 0 6 (BX12_findOrders_3_1 (69, 167, 0, 6) (List.mem_of_getElem? (i := 2) rfl))
theorem dX12_findOrders_72 : decode cX12_findOrders 72 = .ok (.iconst 1, 1) := dk4 (BX12_findOrders_1_2 (72, 4) (List.mem_of_getElem? (i := 1) rfl))
theorem dX12_findOrders_73 : decode cX12_findOrders 73 = .ok (.iload_n 2, 1) := dk28 (BX12_findOrders_1_2 (73, 28) (List.mem_of_getElem? (i := 2) rfl))
theorem dX12_findOrders_74 : decode cX12_findOrders 74 = .ok (.ishl, 1) := dk120 (BX12_findOrders_1_2 (74, 120) (List.mem_of_getElem? (i := 3) rfl))
theorem dX12_findOrders_75 : decode cX12_findOrders 75 = .ok (.iconst 0, 1) := dk3 (BX12_findOrders_1_2 (75, 3) (List.mem_of_getElem? (i := 4) rfl))
theorem dX12_findOrders_76 : decode cX12_findOrders 76 = .ok (.invokevirtual 189, 3) := dk182 0 189 (BX12_findOrders_3_1 (76, 182, 0, 189) (List.mem_of_getElem? (i := 3) rfl))
theorem dX12_findOrders_79 : decode cX12_findOrders 79 = .ok (.return_, 1) := dk177 (BX12_findOrders_1_2 (79, 177) (List.mem_of_getElem? (i := 5) rfl))
set_option maxRecDepth 20000 in
theorem ggX12_orders_X12_isSlack : GoodIn wsX12_orders wsX12_isSlack := goodIn_g ch_wsX12_orders_flat gd_wsX12_orders _ [(1, 6), (1, 7), (1, 8), (1, 9), (1, 5), (1, 10)] rfl
set_option maxRecDepth 20000 in
theorem gX12_orders_X12_isSlack : GoodIn wsX12_orders (va_wsS RX12 163 yX12_isSlack wsX12_isSlack) := goodIn_app (goodIn_g ch_wsX12_orders_flat gd_wsX12_orders _ [(1, 3), (1, 4), (1, 5)] rfl) ggX12_orders_X12_isSlack
set_option maxRecDepth 20000 in
theorem ggX12_orders_X12_within : GoodIn wsX12_orders wsX12_within := goodIn_g ch_wsX12_orders_flat gd_wsX12_orders _ [(1, 10)] rfl
set_option maxRecDepth 20000 in
theorem gX12_orders_X12_within : GoodIn wsX12_orders (va_wsS RX12 136 yX12_within wsX12_within) := goodIn_app (goodIn_g ch_wsX12_orders_flat gd_wsX12_orders _ [(1, 8), (1, 9), (1, 5)] rfl) ggX12_orders_X12_within
set_option maxRecDepth 20000 in
theorem ggX12_orders_X12_findOrders : GoodIn wsX12_orders wsX12_findOrders := gcons (goodIn_g ch_wsX12_orders_flat gd_wsX12_orders _ [(1, 14)] rfl) (goodIn_app (goodIn_app (goodIn_g ch_wsX12_orders_flat gd_wsX12_orders _ [(1, 15), (1, 1), (1, 2), (1, 16), (1, 0), (1, 17), (1, 18), (1, 19), (1, 20), (1, 5), (1, 21), (1, 22), (1, 23), (2, 0), (2, 1), (2, 2), (2, 3), (2, 4), (2, 5), (2, 6), (2, 7), (2, 8), (2, 9), (2, 10)] rfl) (goodIn_g ch_wsX12_orders_flat gd_wsX12_orders _ [(2, 11), (2, 12), (2, 13)] rfl)) (gchunk ch_wsX12_orders_flat gd_wsX12_orders 3 rfl))
set_option maxRecDepth 20000 in
theorem gX12_orders_X12_findOrders : GoodIn wsX12_orders (wsV RX12 192 RX12 yX12_findOrders wsX12_findOrders) := goodIn_app (goodIn_g ch_wsX12_orders_flat gd_wsX12_orders _ [(1, 11), (1, 12), (1, 13), (1, 5)] rfl) ggX12_orders_X12_findOrders
set_option maxRecDepth 20000 in
theorem SX12_orders : ∀ p : Nat, gb cX12_orders p = segF [[27, 184, 0, 163, 153, 0, 13, 28, 133, 9, 10, 184, 0, 136, 154, 0, 5, 2, 172, 42, 180, 0, 133, 16, 6, 164, 0, 6, 16, 252, 172, 42, 27, 2, 182, 0, 192, 28, 154, 0, 10, 42, 180, 0, 179, 167, 0, 19, 42, 180, 0, 179, 154, 0, 8, 16, 254, 167, 0, 7, 42, 180, 0, 182], [172]] p := seg_gb (S := [[27, 184, 0, 163, 153, 0, 13, 28, 133, 9, 10, 184, 0, 136, 154, 0, 5, 2, 172, 42, 180, 0, 133, 16, 6, 164, 0, 6, 16, 252, 172, 42, 27, 2, 182, 0, 192, 28, 154, 0, 10, 42, 180, 0, 179, 167, 0, 19, 42, 180, 0, 179, 154, 0, 8, 16, 254, 167, 0, 7, 42, 180, 0, 182], [172]]) (by decide +kernel) (by decide +kernel)
set_option maxRecDepth 20000 in
theorem BX12_orders_1_0 : ∀ q ∈ ([(0, 27), (7, 28), (8, 133), (9, 9), (10, 10), (17, 2), (18, 172), (19, 42), (30, 172), (31, 42), (32, 27), (33, 2)] : List (Nat × Nat)), gb cX12_orders q.1 = some q.2 := seg_1 SX12_orders _ (by decide +kernel)
set_option maxRecDepth 20000 in
theorem BX12_orders_1_1 : ∀ q ∈ ([(37, 28), (41, 42), (48, 42), (60, 42), (64, 172)] : List (Nat × Nat)), gb cX12_orders q.1 = some q.2 := seg_1 SX12_orders _ (by decide +kernel)
set_option maxRecDepth 20000 in
theorem BX12_orders_2_0 : ∀ q ∈ ([(23, 16, 6), (28, 16, 252), (55, 16, 254)] : List (Nat × Nat × Nat)), gb cX12_orders q.1 = some q.2.1 ∧ gb cX12_orders (q.1 + 1) = some q.2.2 := seg_2 SX12_orders _ (by decide +kernel)
set_option maxRecDepth 20000 in
theorem BX12_orders_3_0 : ∀ q ∈ ([(1, 184, 0, 163), (4, 153, 0, 13), (11, 184, 0, 136), (14, 154, 0, 5), (20, 180, 0, 133), (25, 164, 0, 6), (34, 182, 0, 192), (38, 154, 0, 10), (42, 180, 0, 179), (45, 167, 0, 19), (49, 180, 0, 179), (52, 154, 0, 8)] : List (Nat × Nat × Nat × Nat)), gb cX12_orders q.1 = some q.2.1 ∧ gb cX12_orders (q.1 + 1) = some q.2.2.1 ∧ gb cX12_orders (q.1 + 2) = some q.2.2.2 := seg_3 SX12_orders _ (by decide +kernel)
set_option maxRecDepth 20000 in
theorem BX12_orders_3_1 : ∀ q ∈ ([(57, 167, 0, 7), (61, 180, 0, 182)] : List (Nat × Nat × Nat × Nat)), gb cX12_orders q.1 = some q.2.1 ∧ gb cX12_orders (q.1 + 1) = some q.2.2.1 ∧ gb cX12_orders (q.1 + 2) = some q.2.2.2 := seg_3 SX12_orders _ (by decide +kernel)
theorem dX12_orders_0 : decode cX12_orders 0 = .ok (.iload_n 1, 1) := dk27 (BX12_orders_1_0 (0, 27) (List.mem_of_getElem? (i := 0) rfl))
theorem dX12_orders_1 : decode cX12_orders 1 = .ok (.invokestatic 163, 3) := dk184 0 163 (BX12_orders_3_0 (1, 184, 0, 163) (List.mem_of_getElem? (i := 0) rfl))
theorem dX12_orders_4 : decode cX12_orders 4 = .ok (.ifCond .eq 13, 3) := dk153 0 13 (BX12_orders_3_0 (4, 153, 0, 13) (List.mem_of_getElem? (i := 1) rfl))
theorem dX12_orders_7 : decode cX12_orders 7 = .ok (.iload_n 2, 1) := dk28 (BX12_orders_1_0 (7, 28) (List.mem_of_getElem? (i := 1) rfl))
theorem dX12_orders_8 : decode cX12_orders 8 = .ok (.i2l, 1) := dk133 (BX12_orders_1_0 (8, 133) (List.mem_of_getElem? (i := 2) rfl))
theorem dX12_orders_9 : decode cX12_orders 9 = .ok (.lconst 0, 1) := dk9 (BX12_orders_1_0 (9, 9) (List.mem_of_getElem? (i := 3) rfl))
theorem dX12_orders_10 : decode cX12_orders 10 = .ok (.lconst 1, 1) := dk10 (BX12_orders_1_0 (10, 10) (List.mem_of_getElem? (i := 4) rfl))
theorem dX12_orders_11 : decode cX12_orders 11 = .ok (.invokestatic 136, 3) := dk184 0 136 (BX12_orders_3_0 (11, 184, 0, 136) (List.mem_of_getElem? (i := 2) rfl))
theorem dX12_orders_14 : decode cX12_orders 14 = .ok (.ifCond .ne 5, 3) := dk154 0 5 (BX12_orders_3_0 (14, 154, 0, 5) (List.mem_of_getElem? (i := 3) rfl))
theorem dX12_orders_17 : decode cX12_orders 17 = .ok (.iconst (-1), 1) := dk2 (BX12_orders_1_0 (17, 2) (List.mem_of_getElem? (i := 5) rfl))
theorem dX12_orders_18 : decode cX12_orders 18 = .ok (.ireturn, 1) := dk172 (BX12_orders_1_0 (18, 172) (List.mem_of_getElem? (i := 6) rfl))
theorem dX12_orders_19 : decode cX12_orders 19 = .ok (.aload_n 0, 1) := dk42 (BX12_orders_1_0 (19, 42) (List.mem_of_getElem? (i := 7) rfl))
theorem dX12_orders_20 : decode cX12_orders 20 = .ok (.getfield 133, 3) := dk180 0 133 (BX12_orders_3_0 (20, 180, 0, 133) (List.mem_of_getElem? (i := 4) rfl))
theorem dX12_orders_23 : decode cX12_orders 23 = .ok (.bipush 6, 2) := dk16 6 (BX12_orders_2_0 (23, 16, 6) (List.mem_of_getElem? (i := 0) rfl))
theorem dX12_orders_25 : decode cX12_orders 25 = .ok (.if_icmp .le 6, 3) := dk164 0 6 (BX12_orders_3_0 (25, 164, 0, 6) (List.mem_of_getElem? (i := 5) rfl))
theorem dX12_orders_28 : decode cX12_orders 28 = .ok (.bipush (-4), 2) := dk16 252 (BX12_orders_2_0 (28, 16, 252) (List.mem_of_getElem? (i := 1) rfl))
theorem dX12_orders_30 : decode cX12_orders 30 = .ok (.ireturn, 1) := dk172 (BX12_orders_1_0 (30, 172) (List.mem_of_getElem? (i := 8) rfl))
theorem dX12_orders_31 : decode cX12_orders 31 = .ok (.aload_n 0, 1) := dk42 (BX12_orders_1_0 (31, 42) (List.mem_of_getElem? (i := 9) rfl))
theorem dX12_orders_32 : decode cX12_orders 32 = .ok (.iload_n 1, 1) := dk27 (BX12_orders_1_0 (32, 27) (List.mem_of_getElem? (i := 10) rfl))
theorem dX12_orders_33 : decode cX12_orders 33 = .ok (.iconst (-1), 1) := dk2 (BX12_orders_1_0 (33, 2) (List.mem_of_getElem? (i := 11) rfl))
theorem dX12_orders_34 : decode cX12_orders 34 = .ok (.invokevirtual 192, 3) := dk182 0 192 (BX12_orders_3_0 (34, 182, 0, 192) (List.mem_of_getElem? (i := 6) rfl))
theorem dX12_orders_37 : decode cX12_orders 37 = .ok (.iload_n 2, 1) := dk28 (BX12_orders_1_1 (37, 28) (List.mem_of_getElem? (i := 0) rfl))
theorem dX12_orders_38 : decode cX12_orders 38 = .ok (.ifCond .ne 10, 3) := dk154 0 10 (BX12_orders_3_0 (38, 154, 0, 10) (List.mem_of_getElem? (i := 7) rfl))
theorem dX12_orders_41 : decode cX12_orders 41 = .ok (.aload_n 0, 1) := dk42 (BX12_orders_1_1 (41, 42) (List.mem_of_getElem? (i := 1) rfl))
theorem dX12_orders_42 : decode cX12_orders 42 = .ok (.getfield 179, 3) := dk180 0 179 (BX12_orders_3_0 (42, 180, 0, 179) (List.mem_of_getElem? (i := 8) rfl))
theorem dX12_orders_45 : decode cX12_orders 45 = .ok (.goto 19, 3) := dk167 0 19 (BX12_orders_3_0 (45, 167, 0, 19) (List.mem_of_getElem? (i := 9) rfl))
theorem dX12_orders_48 : decode cX12_orders 48 = .ok (.aload_n 0, 1) := dk42 (BX12_orders_1_1 (48, 42) (List.mem_of_getElem? (i := 2) rfl))
theorem dX12_orders_49 : decode cX12_orders 49 = .ok (.getfield 179, 3) := dk180 0 179 (BX12_orders_3_0 (49, 180, 0, 179) (List.mem_of_getElem? (i := 10) rfl))
theorem dX12_orders_52 : decode cX12_orders 52 = .ok (.ifCond .ne 8, 3) := dk154 0 8 (BX12_orders_3_0 (52, 154, 0, 8) (List.mem_of_getElem? (i := 11) rfl))
theorem dX12_orders_55 : decode cX12_orders 55 = .ok (.bipush (-2), 2) := dk16 254 (BX12_orders_2_0 (55, 16, 254) (List.mem_of_getElem? (i := 2) rfl))
theorem dX12_orders_57 : decode cX12_orders 57 = .ok (.goto 7, 3) := dk167 0 7 (BX12_orders_3_1 (57, 167, 0, 7) (List.mem_of_getElem? (i := 0) rfl))
theorem dX12_orders_60 : decode cX12_orders 60 = .ok (.aload_n 0, 1) := dk42 (BX12_orders_1_1 (60, 42) (List.mem_of_getElem? (i := 3) rfl))
theorem dX12_orders_61 : decode cX12_orders 61 = .ok (.getfield 182, 3) := dk180 0 182 (BX12_orders_3_1 (61, 180, 0, 182) (List.mem_of_getElem? (i := 1) rfl))
theorem dX12_orders_64 : decode cX12_orders 64 = .ok (.ireturn, 1) := dk172 (BX12_orders_1_1 (64, 172) (List.mem_of_getElem? (i := 4) rfl))
set_option maxRecDepth 20000 in
theorem ggX12_side_X12_isSlack : GoodIn wsX12_side wsX12_isSlack := goodIn_g ch_wsX12_side_flat gd_wsX12_side _ [(1, 6), (1, 7), (1, 8), (1, 9), (1, 5), (1, 10)] rfl
set_option maxRecDepth 20000 in
theorem gX12_side_X12_isSlack : GoodIn wsX12_side (va_wsS RX12 163 yX12_isSlack wsX12_isSlack) := goodIn_app (goodIn_g ch_wsX12_side_flat gd_wsX12_side _ [(1, 3), (1, 4), (1, 5)] rfl) ggX12_side_X12_isSlack
set_option maxRecDepth 20000 in
theorem ggX12_side_X12_isSheet : GoodIn wsX12_side wsX12_isSheet := gcons (goodIn_g ch_wsX12_side_flat gd_wsX12_side _ [(1, 14)] rfl) (goodIn_app (goodIn_g ch_wsX12_side_flat gd_wsX12_side _ [(1, 0), (1, 8), (1, 9), (1, 5), (1, 10)] rfl) (gchunk ch_wsX12_side_flat gd_wsX12_side 3 rfl))
set_option maxRecDepth 20000 in
theorem gX12_side_X12_isSheet : GoodIn wsX12_side (wsV RX12 151 RX12 yX12_isSheet wsX12_isSheet) := goodIn_app (goodIn_g ch_wsX12_side_flat gd_wsX12_side _ [(1, 11), (1, 12), (1, 13), (1, 5)] rfl) ggX12_side_X12_isSheet
set_option maxRecDepth 20000 in
theorem ggX12_side_X12_within : GoodIn wsX12_side wsX12_within := goodIn_g ch_wsX12_side_flat gd_wsX12_side _ [(1, 10)] rfl
set_option maxRecDepth 20000 in
theorem gX12_side_X12_within : GoodIn wsX12_side (va_wsS RX12 136 yX12_within wsX12_within) := goodIn_app (goodIn_g ch_wsX12_side_flat gd_wsX12_side _ [(1, 8), (1, 9), (1, 5)] rfl) ggX12_side_X12_within
set_option maxRecDepth 20000 in
theorem ggX12_side_X12_findOrders : GoodIn wsX12_side wsX12_findOrders := gcons (goodIn_g ch_wsX12_side_flat gd_wsX12_side _ [(1, 18)] rfl) (goodIn_app (goodIn_app (goodIn_g ch_wsX12_side_flat gd_wsX12_side _ [(1, 2), (1, 1), (1, 19), (1, 20), (1, 0), (1, 21), (1, 22), (1, 23), (2, 0), (1, 5), (2, 1), (2, 2), (2, 3), (2, 4), (2, 5), (2, 6), (2, 7), (2, 8), (2, 9), (2, 10), (2, 11), (2, 12), (2, 13), (2, 14)] rfl) (goodIn_g ch_wsX12_side_flat gd_wsX12_side _ [(2, 15), (2, 16), (2, 17)] rfl)) (gchunk ch_wsX12_side_flat gd_wsX12_side 3 rfl))
set_option maxRecDepth 20000 in
theorem gX12_side_X12_findOrders : GoodIn wsX12_side (wsV RX12 192 RX12 yX12_findOrders wsX12_findOrders) := goodIn_app (goodIn_g ch_wsX12_side_flat gd_wsX12_side _ [(1, 15), (1, 16), (1, 17), (1, 5)] rfl) ggX12_side_X12_findOrders
set_option maxRecDepth 20000 in
theorem SX12_side : ∀ p : Nat, gb cX12_side p = segF [[27, 184, 0, 163, 153, 0, 50, 28, 155, 0, 46, 42, 28, 16, 10, 108, 182, 0, 151, 153, 0, 35, 42, 28, 16, 10, 112, 182, 0, 151, 153, 0, 24, 28, 16, 10, 108, 28, 16, 10, 112, 159, 0, 13, 29, 133, 9, 10, 184, 0, 136, 154, 0, 5, 2, 172, 42, 180, 0, 133, 16, 6, 164, 0], [6, 16, 252, 172, 42, 27, 2, 182, 0, 192, 42, 180, 0, 179, 154, 0, 6, 16, 254, 172, 42, 180, 0, 40, 16, 8, 28, 16, 10, 108, 104, 28, 16, 10, 112, 96, 46, 54, 4, 29, 154, 0, 20, 21, 4, 42, 180, 0, 179, 160, 0, 7, 4, 167, 0, 17, 3, 167, 0, 13, 21, 4, 158, 0], [7, 4, 167, 0, 4, 3, 172]] p := seg_gb (S := [[27, 184, 0, 163, 153, 0, 50, 28, 155, 0, 46, 42, 28, 16, 10, 108, 182, 0, 151, 153, 0, 35, 42, 28, 16, 10, 112, 182, 0, 151, 153, 0, 24, 28, 16, 10, 108, 28, 16, 10, 112, 159, 0, 13, 29, 133, 9, 10, 184, 0, 136, 154, 0, 5, 2, 172, 42, 180, 0, 133, 16, 6, 164, 0], [6, 16, 252, 172, 42, 27, 2, 182, 0, 192, 42, 180, 0, 179, 154, 0, 6, 16, 254, 172, 42, 180, 0, 40, 16, 8, 28, 16, 10, 108, 104, 28, 16, 10, 112, 96, 46, 54, 4, 29, 154, 0, 20, 21, 4, 42, 180, 0, 179, 160, 0, 7, 4, 167, 0, 17, 3, 167, 0, 13, 21, 4, 158, 0], [7, 4, 167, 0, 4, 3, 172]]) (by decide +kernel) (by decide +kernel)
set_option maxRecDepth 20000 in
theorem BX12_side_1_0 : ∀ q ∈ ([(0, 27), (7, 28), (11, 42), (12, 28), (15, 108), (22, 42), (23, 28), (26, 112), (33, 28), (36, 108), (37, 28), (40, 112)] : List (Nat × Nat)), gb cX12_side q.1 = some q.2 := seg_1 SX12_side _ (by decide +kernel)
set_option maxRecDepth 20000 in
theorem BX12_side_1_1 : ∀ q ∈ ([(44, 29), (45, 133), (46, 9), (47, 10), (54, 2), (55, 172), (56, 42), (67, 172), (68, 42), (69, 27), (70, 2), (74, 42)] : List (Nat × Nat)), gb cX12_side q.1 = some q.2 := seg_1 SX12_side _ (by decide +kernel)
set_option maxRecDepth 20000 in
theorem BX12_side_1_2 : ∀ q ∈ ([(83, 172), (84, 42), (90, 28), (93, 108), (94, 104), (95, 28), (98, 112), (99, 96), (100, 46), (103, 29), (109, 42), (116, 4)] : List (Nat × Nat)), gb cX12_side q.1 = some q.2 := seg_1 SX12_side _ (by decide +kernel)
set_option maxRecDepth 20000 in
theorem BX12_side_1_3 : ∀ q ∈ ([(120, 3), (129, 4), (133, 3), (134, 172)] : List (Nat × Nat)), gb cX12_side q.1 = some q.2 := seg_1 SX12_side _ (by decide +kernel)
set_option maxRecDepth 20000 in
theorem BX12_side_2_0 : ∀ q ∈ ([(13, 16, 10), (24, 16, 10), (34, 16, 10), (38, 16, 10), (60, 16, 6), (65, 16, 252), (81, 16, 254), (88, 16, 8), (91, 16, 10), (96, 16, 10), (101, 54, 4), (107, 21, 4)] : List (Nat × Nat × Nat)), gb cX12_side q.1 = some q.2.1 ∧ gb cX12_side (q.1 + 1) = some q.2.2 := seg_2 SX12_side _ (by decide +kernel)
set_option maxRecDepth 20000 in
theorem BX12_side_2_1 : ∀ q ∈ ([(124, 21, 4)] : List (Nat × Nat × Nat)), gb cX12_side q.1 = some q.2.1 ∧ gb cX12_side (q.1 + 1) = some q.2.2 := seg_2 SX12_side _ (by decide +kernel)
set_option maxRecDepth 20000 in
theorem BX12_side_3_0 : ∀ q ∈ ([(1, 184, 0, 163), (4, 153, 0, 50), (8, 155, 0, 46), (16, 182, 0, 151), (19, 153, 0, 35), (27, 182, 0, 151), (30, 153, 0, 24), (41, 159, 0, 13), (48, 184, 0, 136), (51, 154, 0, 5), (57, 180, 0, 133), (62, 164, 0, 6)] : List (Nat × Nat × Nat × Nat)), gb cX12_side q.1 = some q.2.1 ∧ gb cX12_side (q.1 + 1) = some q.2.2.1 ∧ gb cX12_side (q.1 + 2) = some q.2.2.2 := seg_3 SX12_side _ (by decide +kernel)
set_option maxRecDepth 20000 in
theorem BX12_side_3_1 : ∀ q ∈ ([(71, 182, 0, 192), (75, 180, 0, 179), (78, 154, 0, 6), (85, 180, 0, 40), (104, 154, 0, 20), (110, 180, 0, 179), (113, 160, 0, 7), (117, 167, 0, 17), (121, 167, 0, 13), (126, 158, 0, 7), (130, 167, 0, 4)] : List (Nat × Nat × Nat × Nat)), gb cX12_side q.1 = some q.2.1 ∧ gb cX12_side (q.1 + 1) = some q.2.2.1 ∧ gb cX12_side (q.1 + 2) = some q.2.2.2 := seg_3 SX12_side _ (by decide +kernel)
theorem dX12_side_0 : decode cX12_side 0 = .ok (.iload_n 1, 1) := dk27 (BX12_side_1_0 (0, 27) (List.mem_of_getElem? (i := 0) rfl))
theorem dX12_side_1 : decode cX12_side 1 = .ok (.invokestatic 163, 3) := dk184 0 163 (BX12_side_3_0 (1, 184, 0, 163) (List.mem_of_getElem? (i := 0) rfl))
theorem dX12_side_4 : decode cX12_side 4 = .ok (.ifCond .eq 50, 3) := dk153 0 50 (BX12_side_3_0 (4, 153, 0, 50) (List.mem_of_getElem? (i := 1) rfl))
theorem dX12_side_7 : decode cX12_side 7 = .ok (.iload_n 2, 1) := dk28 (BX12_side_1_0 (7, 28) (List.mem_of_getElem? (i := 1) rfl))
theorem dX12_side_8 : decode cX12_side 8 = .ok (.ifCond .lt 46, 3) := dk155 0 46 (BX12_side_3_0 (8, 155, 0, 46) (List.mem_of_getElem? (i := 2) rfl))
theorem dX12_side_11 : decode cX12_side 11 = .ok (.aload_n 0, 1) := dk42 (BX12_side_1_0 (11, 42) (List.mem_of_getElem? (i := 2) rfl))
theorem dX12_side_12 : decode cX12_side 12 = .ok (.iload_n 2, 1) := dk28 (BX12_side_1_0 (12, 28) (List.mem_of_getElem? (i := 3) rfl))
theorem dX12_side_13 : decode cX12_side 13 = .ok (.bipush 10, 2) := dk16 10 (BX12_side_2_0 (13, 16, 10) (List.mem_of_getElem? (i := 0) rfl))
theorem dX12_side_15 : decode cX12_side 15 = .ok (.idiv, 1) := dk108 (BX12_side_1_0 (15, 108) (List.mem_of_getElem? (i := 4) rfl))
theorem dX12_side_16 : decode cX12_side 16 = .ok (.invokevirtual 151, 3) := dk182 0 151 (BX12_side_3_0 (16, 182, 0, 151) (List.mem_of_getElem? (i := 3) rfl))
theorem dX12_side_19 : decode cX12_side 19 = .ok (.ifCond .eq 35, 3) := dk153 0 35 (BX12_side_3_0 (19, 153, 0, 35) (List.mem_of_getElem? (i := 4) rfl))
theorem dX12_side_22 : decode cX12_side 22 = .ok (.aload_n 0, 1) := dk42 (BX12_side_1_0 (22, 42) (List.mem_of_getElem? (i := 5) rfl))
theorem dX12_side_23 : decode cX12_side 23 = .ok (.iload_n 2, 1) := dk28 (BX12_side_1_0 (23, 28) (List.mem_of_getElem? (i := 6) rfl))
theorem dX12_side_24 : decode cX12_side 24 = .ok (.bipush 10, 2) := dk16 10 (BX12_side_2_0 (24, 16, 10) (List.mem_of_getElem? (i := 1) rfl))
theorem dX12_side_26 : decode cX12_side 26 = .ok (.irem, 1) := dk112 (BX12_side_1_0 (26, 112) (List.mem_of_getElem? (i := 7) rfl))
theorem dX12_side_27 : decode cX12_side 27 = .ok (.invokevirtual 151, 3) := dk182 0 151 (BX12_side_3_0 (27, 182, 0, 151) (List.mem_of_getElem? (i := 5) rfl))
theorem dX12_side_30 : decode cX12_side 30 = .ok (.ifCond .eq 24, 3) := dk153 0 24 (BX12_side_3_0 (30, 153, 0, 24) (List.mem_of_getElem? (i := 6) rfl))
theorem dX12_side_33 : decode cX12_side 33 = .ok (.iload_n 2, 1) := dk28 (BX12_side_1_0 (33, 28) (List.mem_of_getElem? (i := 8) rfl))
theorem dX12_side_34 : decode cX12_side 34 = .ok (.bipush 10, 2) := dk16 10 (BX12_side_2_0 (34, 16, 10) (List.mem_of_getElem? (i := 2) rfl))
theorem dX12_side_36 : decode cX12_side 36 = .ok (.idiv, 1) := dk108 (BX12_side_1_0 (36, 108) (List.mem_of_getElem? (i := 9) rfl))
theorem dX12_side_37 : decode cX12_side 37 = .ok (.iload_n 2, 1) := dk28 (BX12_side_1_0 (37, 28) (List.mem_of_getElem? (i := 10) rfl))
theorem dX12_side_38 : decode cX12_side 38 = .ok (.bipush 10, 2) := dk16 10 (BX12_side_2_0 (38, 16, 10) (List.mem_of_getElem? (i := 3) rfl))
theorem dX12_side_40 : decode cX12_side 40 = .ok (.irem, 1) := dk112 (BX12_side_1_0 (40, 112) (List.mem_of_getElem? (i := 11) rfl))
theorem dX12_side_41 : decode cX12_side 41 = .ok (.if_icmp .eq 13, 3) := dk159 0 13 (BX12_side_3_0 (41, 159, 0, 13) (List.mem_of_getElem? (i := 7) rfl))
theorem dX12_side_44 : decode cX12_side 44 = .ok (.iload_n 3, 1) := dk29 (BX12_side_1_1 (44, 29) (List.mem_of_getElem? (i := 0) rfl))
theorem dX12_side_45 : decode cX12_side 45 = .ok (.i2l, 1) := dk133 (BX12_side_1_1 (45, 133) (List.mem_of_getElem? (i := 1) rfl))
theorem dX12_side_46 : decode cX12_side 46 = .ok (.lconst 0, 1) := dk9 (BX12_side_1_1 (46, 9) (List.mem_of_getElem? (i := 2) rfl))
theorem dX12_side_47 : decode cX12_side 47 = .ok (.lconst 1, 1) := dk10 (BX12_side_1_1 (47, 10) (List.mem_of_getElem? (i := 3) rfl))
theorem dX12_side_48 : decode cX12_side 48 = .ok (.invokestatic 136, 3) := dk184 0 136 (BX12_side_3_0 (48, 184, 0, 136) (List.mem_of_getElem? (i := 8) rfl))
theorem dX12_side_51 : decode cX12_side 51 = .ok (.ifCond .ne 5, 3) := dk154 0 5 (BX12_side_3_0 (51, 154, 0, 5) (List.mem_of_getElem? (i := 9) rfl))
theorem dX12_side_54 : decode cX12_side 54 = .ok (.iconst (-1), 1) := dk2 (BX12_side_1_1 (54, 2) (List.mem_of_getElem? (i := 4) rfl))
theorem dX12_side_55 : decode cX12_side 55 = .ok (.ireturn, 1) := dk172 (BX12_side_1_1 (55, 172) (List.mem_of_getElem? (i := 5) rfl))
theorem dX12_side_56 : decode cX12_side 56 = .ok (.aload_n 0, 1) := dk42 (BX12_side_1_1 (56, 42) (List.mem_of_getElem? (i := 6) rfl))
theorem dX12_side_57 : decode cX12_side 57 = .ok (.getfield 133, 3) := dk180 0 133 (BX12_side_3_0 (57, 180, 0, 133) (List.mem_of_getElem? (i := 10) rfl))
theorem dX12_side_60 : decode cX12_side 60 = .ok (.bipush 6, 2) := dk16 6 (BX12_side_2_0 (60, 16, 6) (List.mem_of_getElem? (i := 4) rfl))
theorem dX12_side_62 : decode cX12_side 62 = .ok (.if_icmp .le 6, 3) := dk164 0 6 (BX12_side_3_0 (62, 164, 0, 6) (List.mem_of_getElem? (i := 11) rfl))
theorem dX12_side_65 : decode cX12_side 65 = .ok (.bipush (-4), 2) := dk16 252 (BX12_side_2_0 (65, 16, 252) (List.mem_of_getElem? (i := 5) rfl))
theorem dX12_side_67 : decode cX12_side 67 = .ok (.ireturn, 1) := dk172 (BX12_side_1_1 (67, 172) (List.mem_of_getElem? (i := 7) rfl))
theorem dX12_side_68 : decode cX12_side 68 = .ok (.aload_n 0, 1) := dk42 (BX12_side_1_1 (68, 42) (List.mem_of_getElem? (i := 8) rfl))
theorem dX12_side_69 : decode cX12_side 69 = .ok (.iload_n 1, 1) := dk27 (BX12_side_1_1 (69, 27) (List.mem_of_getElem? (i := 9) rfl))
theorem dX12_side_70 : decode cX12_side 70 = .ok (.iconst (-1), 1) := dk2 (BX12_side_1_1 (70, 2) (List.mem_of_getElem? (i := 10) rfl))
theorem dX12_side_71 : decode cX12_side 71 = .ok (.invokevirtual 192, 3) := dk182 0 192 (BX12_side_3_1 (71, 182, 0, 192) (List.mem_of_getElem? (i := 0) rfl))
theorem dX12_side_74 : decode cX12_side 74 = .ok (.aload_n 0, 1) := dk42 (BX12_side_1_1 (74, 42) (List.mem_of_getElem? (i := 11) rfl))
theorem dX12_side_75 : decode cX12_side 75 = .ok (.getfield 179, 3) := dk180 0 179 (BX12_side_3_1 (75, 180, 0, 179) (List.mem_of_getElem? (i := 1) rfl))
theorem dX12_side_78 : decode cX12_side 78 = .ok (.ifCond .ne 6, 3) := dk154 0 6 (BX12_side_3_1 (78, 154, 0, 6) (List.mem_of_getElem? (i := 2) rfl))
theorem dX12_side_81 : decode cX12_side 81 = .ok (.bipush (-2), 2) := dk16 254 (BX12_side_2_0 (81, 16, 254) (List.mem_of_getElem? (i := 6) rfl))
theorem dX12_side_83 : decode cX12_side 83 = .ok (.ireturn, 1) := dk172 (BX12_side_1_2 (83, 172) (List.mem_of_getElem? (i := 0) rfl))
theorem dX12_side_84 : decode cX12_side 84 = .ok (.aload_n 0, 1) := dk42 (BX12_side_1_2 (84, 42) (List.mem_of_getElem? (i := 1) rfl))
theorem dX12_side_85 : decode cX12_side 85 = .ok (.getfield 40, 3) := dk180 0 40 (BX12_side_3_1 (85, 180, 0, 40) (List.mem_of_getElem? (i := 3) rfl))
theorem dX12_side_88 : decode cX12_side 88 = .ok (.bipush 8, 2) := dk16 8 (BX12_side_2_0 (88, 16, 8) (List.mem_of_getElem? (i := 7) rfl))
theorem dX12_side_90 : decode cX12_side 90 = .ok (.iload_n 2, 1) := dk28 (BX12_side_1_2 (90, 28) (List.mem_of_getElem? (i := 2) rfl))
theorem dX12_side_91 : decode cX12_side 91 = .ok (.bipush 10, 2) := dk16 10 (BX12_side_2_0 (91, 16, 10) (List.mem_of_getElem? (i := 8) rfl))
theorem dX12_side_93 : decode cX12_side 93 = .ok (.idiv, 1) := dk108 (BX12_side_1_2 (93, 108) (List.mem_of_getElem? (i := 3) rfl))
theorem dX12_side_94 : decode cX12_side 94 = .ok (.imul, 1) := dk104 (BX12_side_1_2 (94, 104) (List.mem_of_getElem? (i := 4) rfl))
theorem dX12_side_95 : decode cX12_side 95 = .ok (.iload_n 2, 1) := dk28 (BX12_side_1_2 (95, 28) (List.mem_of_getElem? (i := 5) rfl))
theorem dX12_side_96 : decode cX12_side 96 = .ok (.bipush 10, 2) := dk16 10 (BX12_side_2_0 (96, 16, 10) (List.mem_of_getElem? (i := 9) rfl))
theorem dX12_side_98 : decode cX12_side 98 = .ok (.irem, 1) := dk112 (BX12_side_1_2 (98, 112) (List.mem_of_getElem? (i := 6) rfl))
theorem dX12_side_99 : decode cX12_side 99 = .ok (.iadd, 1) := dk96 (BX12_side_1_2 (99, 96) (List.mem_of_getElem? (i := 7) rfl))
theorem dX12_side_100 : decode cX12_side 100 = .ok (.iaload, 1) := dk46 (BX12_side_1_2 (100, 46) (List.mem_of_getElem? (i := 8) rfl))
theorem dX12_side_101 : decode cX12_side 101 = .ok (.istore 4, 2) := dk54 4 (BX12_side_2_0 (101, 54, 4) (List.mem_of_getElem? (i := 10) rfl))
theorem dX12_side_103 : decode cX12_side 103 = .ok (.iload_n 3, 1) := dk29 (BX12_side_1_2 (103, 29) (List.mem_of_getElem? (i := 9) rfl))
theorem dX12_side_104 : decode cX12_side 104 = .ok (.ifCond .ne 20, 3) := dk154 0 20 (BX12_side_3_1 (104, 154, 0, 20) (List.mem_of_getElem? (i := 4) rfl))
theorem dX12_side_107 : decode cX12_side 107 = .ok (.iload 4, 2) := dk21 4 (BX12_side_2_0 (107, 21, 4) (List.mem_of_getElem? (i := 11) rfl))
theorem dX12_side_109 : decode cX12_side 109 = .ok (.aload_n 0, 1) := dk42 (BX12_side_1_2 (109, 42) (List.mem_of_getElem? (i := 10) rfl))
theorem dX12_side_110 : decode cX12_side 110 = .ok (.getfield 179, 3) := dk180 0 179 (BX12_side_3_1 (110, 180, 0, 179) (List.mem_of_getElem? (i := 5) rfl))
theorem dX12_side_113 : decode cX12_side 113 = .ok (.if_icmp .ne 7, 3) := dk160 0 7 (BX12_side_3_1 (113, 160, 0, 7) (List.mem_of_getElem? (i := 6) rfl))
theorem dX12_side_116 : decode cX12_side 116 = .ok (.iconst 1, 1) := dk4 (BX12_side_1_2 (116, 4) (List.mem_of_getElem? (i := 11) rfl))
theorem dX12_side_117 : decode cX12_side 117 = .ok (.goto 17, 3) := dk167 0 17 (BX12_side_3_1 (117, 167, 0, 17) (List.mem_of_getElem? (i := 7) rfl))
theorem dX12_side_120 : decode cX12_side 120 = .ok (.iconst 0, 1) := dk3 (BX12_side_1_3 (120, 3) (List.mem_of_getElem? (i := 0) rfl))
theorem dX12_side_121 : decode cX12_side 121 = .ok (.goto 13, 3) := dk167 0 13 (BX12_side_3_1 (121, 167, 0, 13) (List.mem_of_getElem? (i := 8) rfl))
theorem dX12_side_124 : decode cX12_side 124 = .ok (.iload 4, 2) := dk21 4 (BX12_side_2_1 (124, 21, 4) (List.mem_of_getElem? (i := 0) rfl))
theorem dX12_side_126 : decode cX12_side 126 = .ok (.ifCond .le 7, 3) := dk158 0 7 (BX12_side_3_1 (126, 158, 0, 7) (List.mem_of_getElem? (i := 9) rfl))
theorem dX12_side_129 : decode cX12_side 129 = .ok (.iconst 1, 1) := dk4 (BX12_side_1_3 (129, 4) (List.mem_of_getElem? (i := 1) rfl))
theorem dX12_side_130 : decode cX12_side 130 = .ok (.goto 4, 3) := dk167 0 4 (BX12_side_3_1 (130, 167, 0, 4) (List.mem_of_getElem? (i := 10) rfl))
theorem dX12_side_133 : decode cX12_side 133 = .ok (.iconst 0, 1) := dk3 (BX12_side_1_3 (133, 3) (List.mem_of_getElem? (i := 2) rfl))
theorem dX12_side_134 : decode cX12_side 134 = .ok (.ireturn, 1) := dk172 (BX12_side_1_3 (134, 172) (List.mem_of_getElem? (i := 3) rfl))
set_option maxRecDepth 20000 in
theorem ggX12_without_X12_isSlack : GoodIn wsX12_without wsX12_isSlack := goodIn_g ch_wsX12_without_flat gd_wsX12_without _ [(1, 5), (1, 6), (1, 7), (1, 8), (1, 4), (1, 9)] rfl
set_option maxRecDepth 20000 in
theorem gX12_without_X12_isSlack : GoodIn wsX12_without (va_wsS RX12 163 yX12_isSlack wsX12_isSlack) := goodIn_app (goodIn_g ch_wsX12_without_flat gd_wsX12_without _ [(1, 2), (1, 3), (1, 4)] rfl) ggX12_without_X12_isSlack
set_option maxRecDepth 20000 in
theorem ggX12_without_X12_isSheet : GoodIn wsX12_without wsX12_isSheet := gcons (goodIn_g ch_wsX12_without_flat gd_wsX12_without _ [(1, 13)] rfl) (goodIn_app (goodIn_g ch_wsX12_without_flat gd_wsX12_without _ [(1, 0), (1, 7), (1, 8), (1, 4), (1, 9)] rfl) (gchunk ch_wsX12_without_flat gd_wsX12_without 3 rfl))
set_option maxRecDepth 20000 in
theorem gX12_without_X12_isSheet : GoodIn wsX12_without (wsV RX12 151 RX12 yX12_isSheet wsX12_isSheet) := goodIn_app (goodIn_g ch_wsX12_without_flat gd_wsX12_without _ [(1, 10), (1, 11), (1, 12), (1, 4)] rfl) ggX12_without_X12_isSheet
set_option maxRecDepth 20000 in
theorem ggX12_without_X12_findOrders : GoodIn wsX12_without wsX12_findOrders := gcons (goodIn_g ch_wsX12_without_flat gd_wsX12_without _ [(1, 17)] rfl) (goodIn_app (goodIn_app (goodIn_g ch_wsX12_without_flat gd_wsX12_without _ [(1, 18), (1, 1), (1, 19), (1, 20), (1, 0), (1, 21), (1, 22), (1, 23), (2, 0), (1, 4), (2, 1), (2, 2), (2, 3), (2, 4), (2, 5), (2, 6), (2, 7), (2, 8), (2, 9), (2, 10), (2, 11), (2, 12), (2, 13), (2, 14)] rfl) (goodIn_g ch_wsX12_without_flat gd_wsX12_without _ [(2, 15), (2, 16), (2, 17)] rfl)) (gchunk ch_wsX12_without_flat gd_wsX12_without 3 rfl))
set_option maxRecDepth 20000 in
theorem gX12_without_X12_findOrders : GoodIn wsX12_without (wsV RX12 192 RX12 yX12_findOrders wsX12_findOrders) := goodIn_app (goodIn_g ch_wsX12_without_flat gd_wsX12_without _ [(1, 14), (1, 15), (1, 16), (1, 4)] rfl) ggX12_without_X12_findOrders
set_option maxRecDepth 20000 in
theorem SX12_without : ∀ p : Nat, gb cX12_without p = segF [[27, 184, 0, 163, 153, 0, 11, 42, 28, 182, 0, 151, 154, 0, 5, 2, 172, 42, 180, 0, 133, 16, 7, 164, 0, 6, 16, 252, 172, 42, 27, 28, 182, 0, 192, 42, 180, 0, 179, 172]] p := seg_gb (S := [[27, 184, 0, 163, 153, 0, 11, 42, 28, 182, 0, 151, 154, 0, 5, 2, 172, 42, 180, 0, 133, 16, 7, 164, 0, 6, 16, 252, 172, 42, 27, 28, 182, 0, 192, 42, 180, 0, 179, 172]]) (by decide +kernel) (by decide +kernel)
set_option maxRecDepth 20000 in
theorem BX12_without_1_0 : ∀ q ∈ ([(0, 27), (7, 42), (8, 28), (15, 2), (16, 172), (17, 42), (28, 172), (29, 42), (30, 27), (31, 28), (35, 42), (39, 172)] : List (Nat × Nat)), gb cX12_without q.1 = some q.2 := seg_1 SX12_without _ (by decide +kernel)
set_option maxRecDepth 20000 in
theorem BX12_without_2_0 : ∀ q ∈ ([(21, 16, 7), (26, 16, 252)] : List (Nat × Nat × Nat)), gb cX12_without q.1 = some q.2.1 ∧ gb cX12_without (q.1 + 1) = some q.2.2 := seg_2 SX12_without _ (by decide +kernel)
set_option maxRecDepth 20000 in
theorem BX12_without_3_0 : ∀ q ∈ ([(1, 184, 0, 163), (4, 153, 0, 11), (9, 182, 0, 151), (12, 154, 0, 5), (18, 180, 0, 133), (23, 164, 0, 6), (32, 182, 0, 192), (36, 180, 0, 179)] : List (Nat × Nat × Nat × Nat)), gb cX12_without q.1 = some q.2.1 ∧ gb cX12_without (q.1 + 1) = some q.2.2.1 ∧ gb cX12_without (q.1 + 2) = some q.2.2.2 := seg_3 SX12_without _ (by decide +kernel)
theorem dX12_without_0 : decode cX12_without 0 = .ok (.iload_n 1, 1) := dk27 (BX12_without_1_0 (0, 27) (List.mem_of_getElem? (i := 0) rfl))
theorem dX12_without_1 : decode cX12_without 1 = .ok (.invokestatic 163, 3) := dk184 0 163 (BX12_without_3_0 (1, 184, 0, 163) (List.mem_of_getElem? (i := 0) rfl))
theorem dX12_without_4 : decode cX12_without 4 = .ok (.ifCond .eq 11, 3) := dk153 0 11 (BX12_without_3_0 (4, 153, 0, 11) (List.mem_of_getElem? (i := 1) rfl))
theorem dX12_without_7 : decode cX12_without 7 = .ok (.aload_n 0, 1) := dk42 (BX12_without_1_0 (7, 42) (List.mem_of_getElem? (i := 1) rfl))
theorem dX12_without_8 : decode cX12_without 8 = .ok (.iload_n 2, 1) := dk28 (BX12_without_1_0 (8, 28) (List.mem_of_getElem? (i := 2) rfl))
theorem dX12_without_9 : decode cX12_without 9 = .ok (.invokevirtual 151, 3) := dk182 0 151 (BX12_without_3_0 (9, 182, 0, 151) (List.mem_of_getElem? (i := 2) rfl))
theorem dX12_without_12 : decode cX12_without 12 = .ok (.ifCond .ne 5, 3) := dk154 0 5 (BX12_without_3_0 (12, 154, 0, 5) (List.mem_of_getElem? (i := 3) rfl))
theorem dX12_without_15 : decode cX12_without 15 = .ok (.iconst (-1), 1) := dk2 (BX12_without_1_0 (15, 2) (List.mem_of_getElem? (i := 3) rfl))
theorem dX12_without_16 : decode cX12_without 16 = .ok (.ireturn, 1) := dk172 (BX12_without_1_0 (16, 172) (List.mem_of_getElem? (i := 4) rfl))
theorem dX12_without_17 : decode cX12_without 17 = .ok (.aload_n 0, 1) := dk42 (BX12_without_1_0 (17, 42) (List.mem_of_getElem? (i := 5) rfl))
theorem dX12_without_18 : decode cX12_without 18 = .ok (.getfield 133, 3) := dk180 0 133 (BX12_without_3_0 (18, 180, 0, 133) (List.mem_of_getElem? (i := 4) rfl))
theorem dX12_without_21 : decode cX12_without 21 = .ok (.bipush 7, 2) := dk16 7 (BX12_without_2_0 (21, 16, 7) (List.mem_of_getElem? (i := 0) rfl))
theorem dX12_without_23 : decode cX12_without 23 = .ok (.if_icmp .le 6, 3) := dk164 0 6 (BX12_without_3_0 (23, 164, 0, 6) (List.mem_of_getElem? (i := 5) rfl))
theorem dX12_without_26 : decode cX12_without 26 = .ok (.bipush (-4), 2) := dk16 252 (BX12_without_2_0 (26, 16, 252) (List.mem_of_getElem? (i := 1) rfl))
theorem dX12_without_28 : decode cX12_without 28 = .ok (.ireturn, 1) := dk172 (BX12_without_1_0 (28, 172) (List.mem_of_getElem? (i := 6) rfl))
theorem dX12_without_29 : decode cX12_without 29 = .ok (.aload_n 0, 1) := dk42 (BX12_without_1_0 (29, 42) (List.mem_of_getElem? (i := 7) rfl))
theorem dX12_without_30 : decode cX12_without 30 = .ok (.iload_n 1, 1) := dk27 (BX12_without_1_0 (30, 27) (List.mem_of_getElem? (i := 8) rfl))
theorem dX12_without_31 : decode cX12_without 31 = .ok (.iload_n 2, 1) := dk28 (BX12_without_1_0 (31, 28) (List.mem_of_getElem? (i := 9) rfl))
theorem dX12_without_32 : decode cX12_without 32 = .ok (.invokevirtual 192, 3) := dk182 0 192 (BX12_without_3_0 (32, 182, 0, 192) (List.mem_of_getElem? (i := 6) rfl))
theorem dX12_without_35 : decode cX12_without 35 = .ok (.aload_n 0, 1) := dk42 (BX12_without_1_0 (35, 42) (List.mem_of_getElem? (i := 10) rfl))
theorem dX12_without_36 : decode cX12_without 36 = .ok (.getfield 179, 3) := dk180 0 179 (BX12_without_3_0 (36, 180, 0, 179) (List.mem_of_getElem? (i := 7) rfl))
theorem dX12_without_39 : decode cX12_without 39 = .ok (.ireturn, 1) := dk172 (BX12_without_1_0 (39, 172) (List.mem_of_getElem? (i := 11) rfl))
set_option maxRecDepth 20000 in
theorem ggX12_isInk_X12_within : GoodIn wsX12_isInk wsX12_within := goodIn_r _ [5] rfl (by decide +kernel)
set_option maxRecDepth 20000 in
theorem gX12_isInk_X12_within : GoodIn wsX12_isInk (va_wsS RX12 136 yX12_within wsX12_within) := goodIn_app (goodIn_r _ [2, 3, 4] rfl (by decide +kernel)) ggX12_isInk_X12_within
set_option maxRecDepth 20000 in
theorem SX12_isInk : ∀ p : Nat, gb cX12_isInk p = segF [[26, 133, 9, 20, 0, 195, 184, 0, 136, 172]] p := seg_gb (S := [[26, 133, 9, 20, 0, 195, 184, 0, 136, 172]]) (by decide +kernel) (by decide +kernel)
set_option maxRecDepth 20000 in
theorem BX12_isInk_1_0 : ∀ q ∈ ([(0, 26), (1, 133), (2, 9), (9, 172)] : List (Nat × Nat)), gb cX12_isInk q.1 = some q.2 := seg_1 SX12_isInk _ (by decide +kernel)
set_option maxRecDepth 20000 in
theorem BX12_isInk_3_0 : ∀ q ∈ ([(3, 20, 0, 195), (6, 184, 0, 136)] : List (Nat × Nat × Nat × Nat)), gb cX12_isInk q.1 = some q.2.1 ∧ gb cX12_isInk (q.1 + 1) = some q.2.2.1 ∧ gb cX12_isInk (q.1 + 2) = some q.2.2.2 := seg_3 SX12_isInk _ (by decide +kernel)
theorem dX12_isInk_0 : decode cX12_isInk 0 = .ok (.iload_n 0, 1) := dk26 (BX12_isInk_1_0 (0, 26) (List.mem_of_getElem? (i := 0) rfl))
theorem dX12_isInk_1 : decode cX12_isInk 1 = .ok (.i2l, 1) := dk133 (BX12_isInk_1_0 (1, 133) (List.mem_of_getElem? (i := 1) rfl))
theorem dX12_isInk_2 : decode cX12_isInk 2 = .ok (.lconst 0, 1) := dk9 (BX12_isInk_1_0 (2, 9) (List.mem_of_getElem? (i := 2) rfl))
theorem dX12_isInk_3 : decode cX12_isInk 3 = .ok (.ldc2_w 195, 3) := dk20 0 195 (BX12_isInk_3_0 (3, 20, 0, 195) (List.mem_of_getElem? (i := 0) rfl))
theorem dX12_isInk_6 : decode cX12_isInk 6 = .ok (.invokestatic 136, 3) := dk184 0 136 (BX12_isInk_3_0 (6, 184, 0, 136) (List.mem_of_getElem? (i := 1) rfl))
theorem dX12_isInk_9 : decode cX12_isInk 9 = .ok (.ireturn, 1) := dk172 (BX12_isInk_1_0 (9, 172) (List.mem_of_getElem? (i := 3) rfl))
set_option maxRecDepth 20000 in
theorem ggX12_line_X12_isSheet : GoodIn wsX12_line wsX12_isSheet := gcons (goodIn_g ch_wsX12_line_flat gd_wsX12_line _ [(1, 7)] rfl) (goodIn_app (goodIn_g ch_wsX12_line_flat gd_wsX12_line _ [(1, 8), (1, 9), (1, 10), (1, 6), (1, 11)] rfl) (gchunk ch_wsX12_line_flat gd_wsX12_line 2 rfl))
set_option maxRecDepth 20000 in
theorem gX12_line_X12_isSheet : GoodIn wsX12_line (wsV RX12 151 RX12 yX12_isSheet wsX12_isSheet) := goodIn_app (goodIn_g ch_wsX12_line_flat gd_wsX12_line _ [(1, 3), (1, 4), (1, 5), (1, 6)] rfl) ggX12_line_X12_isSheet
set_option maxRecDepth 20000 in
theorem ggX12_line_X12_isInk : GoodIn wsX12_line wsX12_isInk := goodIn_g ch_wsX12_line_flat gd_wsX12_line _ [(1, 14), (1, 15), (1, 9), (1, 10), (1, 6), (1, 11)] rfl
set_option maxRecDepth 20000 in
theorem gX12_line_X12_isInk : GoodIn wsX12_line (va_wsS RX12 197 yX12_isInk wsX12_isInk) := goodIn_app (goodIn_g ch_wsX12_line_flat gd_wsX12_line _ [(1, 12), (1, 13), (1, 6)] rfl) ggX12_line_X12_isInk
set_option maxRecDepth 20000 in
theorem SX12_line : ∀ p : Nat, gb cX12_line p = segF [[42, 27, 182, 0, 151, 153, 0, 10, 28, 184, 0, 197, 154, 0, 5, 2, 172, 42, 180, 0, 200, 16, 20, 160, 0, 6, 16, 253, 172, 42, 180, 0, 43, 42, 180, 0, 200, 27, 79, 42, 180, 0, 46, 42, 180, 0, 200, 28, 79, 42, 89, 180, 0, 200, 4, 96, 181, 0, 200, 42, 180, 0, 200, 4], [100, 172]] p := seg_gb (S := [[42, 27, 182, 0, 151, 153, 0, 10, 28, 184, 0, 197, 154, 0, 5, 2, 172, 42, 180, 0, 200, 16, 20, 160, 0, 6, 16, 253, 172, 42, 180, 0, 43, 42, 180, 0, 200, 27, 79, 42, 180, 0, 46, 42, 180, 0, 200, 28, 79, 42, 89, 180, 0, 200, 4, 96, 181, 0, 200, 42, 180, 0, 200, 4], [100, 172]]) (by decide +kernel) (by decide +kernel)
set_option maxRecDepth 20000 in
theorem BX12_line_1_0 : ∀ q ∈ ([(0, 42), (1, 27), (8, 28), (15, 2), (16, 172), (17, 42), (28, 172), (29, 42), (33, 42), (37, 27), (38, 79), (39, 42)] : List (Nat × Nat)), gb cX12_line q.1 = some q.2 := seg_1 SX12_line _ (by decide +kernel)
set_option maxRecDepth 20000 in
theorem BX12_line_1_1 : ∀ q ∈ ([(43, 42), (47, 28), (48, 79), (49, 42), (50, 89), (54, 4), (55, 96), (59, 42), (63, 4), (64, 100), (65, 172)] : List (Nat × Nat)), gb cX12_line q.1 = some q.2 := seg_1 SX12_line _ (by decide +kernel)
set_option maxRecDepth 20000 in
theorem BX12_line_2_0 : ∀ q ∈ ([(21, 16, 20), (26, 16, 253)] : List (Nat × Nat × Nat)), gb cX12_line q.1 = some q.2.1 ∧ gb cX12_line (q.1 + 1) = some q.2.2 := seg_2 SX12_line _ (by decide +kernel)
set_option maxRecDepth 20000 in
theorem BX12_line_3_0 : ∀ q ∈ ([(2, 182, 0, 151), (5, 153, 0, 10), (9, 184, 0, 197), (12, 154, 0, 5), (18, 180, 0, 200), (23, 160, 0, 6), (30, 180, 0, 43), (34, 180, 0, 200), (40, 180, 0, 46), (44, 180, 0, 200), (51, 180, 0, 200), (56, 181, 0, 200)] : List (Nat × Nat × Nat × Nat)), gb cX12_line q.1 = some q.2.1 ∧ gb cX12_line (q.1 + 1) = some q.2.2.1 ∧ gb cX12_line (q.1 + 2) = some q.2.2.2 := seg_3 SX12_line _ (by decide +kernel)
set_option maxRecDepth 20000 in
theorem BX12_line_3_1 : ∀ q ∈ ([(60, 180, 0, 200)] : List (Nat × Nat × Nat × Nat)), gb cX12_line q.1 = some q.2.1 ∧ gb cX12_line (q.1 + 1) = some q.2.2.1 ∧ gb cX12_line (q.1 + 2) = some q.2.2.2 := seg_3 SX12_line _ (by decide +kernel)
theorem dX12_line_0 : decode cX12_line 0 = .ok (.aload_n 0, 1) := dk42 (BX12_line_1_0 (0, 42) (List.mem_of_getElem? (i := 0) rfl))
theorem dX12_line_1 : decode cX12_line 1 = .ok (.iload_n 1, 1) := dk27 (BX12_line_1_0 (1, 27) (List.mem_of_getElem? (i := 1) rfl))
theorem dX12_line_2 : decode cX12_line 2 = .ok (.invokevirtual 151, 3) := dk182 0 151 (BX12_line_3_0 (2, 182, 0, 151) (List.mem_of_getElem? (i := 0) rfl))
theorem dX12_line_5 : decode cX12_line 5 = .ok (.ifCond .eq 10, 3) := dk153 0 10 (BX12_line_3_0 (5, 153, 0, 10) (List.mem_of_getElem? (i := 1) rfl))
theorem dX12_line_8 : decode cX12_line 8 = .ok (.iload_n 2, 1) := dk28 (BX12_line_1_0 (8, 28) (List.mem_of_getElem? (i := 2) rfl))
theorem dX12_line_9 : decode cX12_line 9 = .ok (.invokestatic 197, 3) := dk184 0 197 (BX12_line_3_0 (9, 184, 0, 197) (List.mem_of_getElem? (i := 2) rfl))
theorem dX12_line_12 : decode cX12_line 12 = .ok (.ifCond .ne 5, 3) := dk154 0 5 (BX12_line_3_0 (12, 154, 0, 5) (List.mem_of_getElem? (i := 3) rfl))
theorem dX12_line_15 : decode cX12_line 15 = .ok (.iconst (-1), 1) := dk2 (BX12_line_1_0 (15, 2) (List.mem_of_getElem? (i := 3) rfl))
theorem dX12_line_16 : decode cX12_line 16 = .ok (.ireturn, 1) := dk172 (BX12_line_1_0 (16, 172) (List.mem_of_getElem? (i := 4) rfl))
theorem dX12_line_17 : decode cX12_line 17 = .ok (.aload_n 0, 1) := dk42 (BX12_line_1_0 (17, 42) (List.mem_of_getElem? (i := 5) rfl))
theorem dX12_line_18 : decode cX12_line 18 = .ok (.getfield 200, 3) := dk180 0 200 (BX12_line_3_0 (18, 180, 0, 200) (List.mem_of_getElem? (i := 4) rfl))
theorem dX12_line_21 : decode cX12_line 21 = .ok (.bipush 20, 2) := dk16 20 (BX12_line_2_0 (21, 16, 20) (List.mem_of_getElem? (i := 0) rfl))
theorem dX12_line_23 : decode cX12_line 23 = .ok (.if_icmp .ne 6, 3) := dk160 0 6 (BX12_line_3_0 (23, 160, 0, 6) (List.mem_of_getElem? (i := 5) rfl))
theorem dX12_line_26 : decode cX12_line 26 = .ok (.bipush (-3), 2) := dk16 253 (BX12_line_2_0 (26, 16, 253) (List.mem_of_getElem? (i := 1) rfl))
theorem dX12_line_28 : decode cX12_line 28 = .ok (.ireturn, 1) := dk172 (BX12_line_1_0 (28, 172) (List.mem_of_getElem? (i := 6) rfl))
theorem dX12_line_29 : decode cX12_line 29 = .ok (.aload_n 0, 1) := dk42 (BX12_line_1_0 (29, 42) (List.mem_of_getElem? (i := 7) rfl))
theorem dX12_line_30 : decode cX12_line 30 = .ok (.getfield 43, 3) := dk180 0 43 (BX12_line_3_0 (30, 180, 0, 43) (List.mem_of_getElem? (i := 6) rfl))
theorem dX12_line_33 : decode cX12_line 33 = .ok (.aload_n 0, 1) := dk42 (BX12_line_1_0 (33, 42) (List.mem_of_getElem? (i := 8) rfl))
theorem dX12_line_34 : decode cX12_line 34 = .ok (.getfield 200, 3) := dk180 0 200 (BX12_line_3_0 (34, 180, 0, 200) (List.mem_of_getElem? (i := 7) rfl))
theorem dX12_line_37 : decode cX12_line 37 = .ok (.iload_n 1, 1) := dk27 (BX12_line_1_0 (37, 27) (List.mem_of_getElem? (i := 9) rfl))
theorem dX12_line_38 : decode cX12_line 38 = .ok (.iastore, 1) := dk79 (BX12_line_1_0 (38, 79) (List.mem_of_getElem? (i := 10) rfl))
theorem dX12_line_39 : decode cX12_line 39 = .ok (.aload_n 0, 1) := dk42 (BX12_line_1_0 (39, 42) (List.mem_of_getElem? (i := 11) rfl))
theorem dX12_line_40 : decode cX12_line 40 = .ok (.getfield 46, 3) := dk180 0 46 (BX12_line_3_0 (40, 180, 0, 46) (List.mem_of_getElem? (i := 8) rfl))
theorem dX12_line_43 : decode cX12_line 43 = .ok (.aload_n 0, 1) := dk42 (BX12_line_1_1 (43, 42) (List.mem_of_getElem? (i := 0) rfl))
theorem dX12_line_44 : decode cX12_line 44 = .ok (.getfield 200, 3) := dk180 0 200 (BX12_line_3_0 (44, 180, 0, 200) (List.mem_of_getElem? (i := 9) rfl))
theorem dX12_line_47 : decode cX12_line 47 = .ok (.iload_n 2, 1) := dk28 (BX12_line_1_1 (47, 28) (List.mem_of_getElem? (i := 1) rfl))
theorem dX12_line_48 : decode cX12_line 48 = .ok (.iastore, 1) := dk79 (BX12_line_1_1 (48, 79) (List.mem_of_getElem? (i := 2) rfl))
theorem dX12_line_49 : decode cX12_line 49 = .ok (.aload_n 0, 1) := dk42 (BX12_line_1_1 (49, 42) (List.mem_of_getElem? (i := 3) rfl))
theorem dX12_line_50 : decode cX12_line 50 = .ok (.dup, 1) := dk89 (BX12_line_1_1 (50, 89) (List.mem_of_getElem? (i := 4) rfl))
theorem dX12_line_51 : decode cX12_line 51 = .ok (.getfield 200, 3) := dk180 0 200 (BX12_line_3_0 (51, 180, 0, 200) (List.mem_of_getElem? (i := 10) rfl))
theorem dX12_line_54 : decode cX12_line 54 = .ok (.iconst 1, 1) := dk4 (BX12_line_1_1 (54, 4) (List.mem_of_getElem? (i := 5) rfl))
theorem dX12_line_55 : decode cX12_line 55 = .ok (.iadd, 1) := dk96 (BX12_line_1_1 (55, 96) (List.mem_of_getElem? (i := 6) rfl))
theorem dX12_line_56 : decode cX12_line 56 = .ok (.putfield 200, 3) := dk181 0 200 (BX12_line_3_0 (56, 181, 0, 200) (List.mem_of_getElem? (i := 11) rfl))
theorem dX12_line_59 : decode cX12_line 59 = .ok (.aload_n 0, 1) := dk42 (BX12_line_1_1 (59, 42) (List.mem_of_getElem? (i := 7) rfl))
theorem dX12_line_60 : decode cX12_line 60 = .ok (.getfield 200, 3) := dk180 0 200 (BX12_line_3_1 (60, 180, 0, 200) (List.mem_of_getElem? (i := 0) rfl))
theorem dX12_line_63 : decode cX12_line 63 = .ok (.iconst 1, 1) := dk4 (BX12_line_1_1 (63, 4) (List.mem_of_getElem? (i := 8) rfl))
theorem dX12_line_64 : decode cX12_line 64 = .ok (.isub, 1) := dk100 (BX12_line_1_1 (64, 100) (List.mem_of_getElem? (i := 9) rfl))
theorem dX12_line_65 : decode cX12_line 65 = .ok (.ireturn, 1) := dk172 (BX12_line_1_1 (65, 172) (List.mem_of_getElem? (i := 10) rfl))
set_option maxRecDepth 20000 in
theorem ggX12_mark_X12_within : GoodIn wsX12_mark wsX12_within := goodIn_g ch_wsX12_mark_flat gd_wsX12_mark _ [(1, 10)] rfl
set_option maxRecDepth 20000 in
theorem gX12_mark_X12_within : GoodIn wsX12_mark (va_wsS RX12 136 yX12_within wsX12_within) := goodIn_app (goodIn_g ch_wsX12_mark_flat gd_wsX12_mark _ [(1, 7), (1, 8), (1, 9)] rfl) ggX12_mark_X12_within
set_option maxRecDepth 20000 in
theorem ggX12_mark_X12_isHole : GoodIn wsX12_mark wsX12_isHole := gcons (goodIn_g ch_wsX12_mark_flat gd_wsX12_mark _ [(1, 14)] rfl) (goodIn_app (goodIn_g ch_wsX12_mark_flat gd_wsX12_mark _ [(1, 15), (1, 7), (1, 8), (1, 9), (1, 10)] rfl) (gchunk ch_wsX12_mark_flat gd_wsX12_mark 2 rfl))
set_option maxRecDepth 20000 in
theorem gX12_mark_X12_isHole : GoodIn wsX12_mark (wsV RX12 170 RX12 yX12_isHole wsX12_isHole) := goodIn_app (goodIn_g ch_wsX12_mark_flat gd_wsX12_mark _ [(1, 11), (1, 12), (1, 13), (1, 9)] rfl) ggX12_mark_X12_isHole
set_option maxRecDepth 20000 in
theorem SX12_mark : ∀ p : Nat, gb cX12_mark p = segF [[27, 155, 0, 64, 27, 16, 100, 108, 133, 9, 42, 180, 0, 200, 4, 100, 133, 184, 0, 136, 153, 0, 45, 42, 27, 16, 100, 112, 182, 0, 170, 153, 0, 34, 42, 180, 0, 22, 27, 16, 100, 112, 46, 42, 180, 0, 43, 27, 16, 100, 108, 46, 160, 0, 13, 28, 133, 9, 10, 184, 0, 136, 154, 0], [5, 2, 172, 3, 62, 29, 42, 180, 0, 203, 162, 0, 35, 42, 180, 0, 49, 29, 46, 27, 16, 100, 108, 160, 0, 16, 42, 180, 0, 52, 29, 46, 27, 16, 100, 112, 159, 0, 9, 132, 3, 1, 167, 255, 219, 29, 16, 60, 160, 0, 6, 16, 253, 172, 42, 180, 0, 49, 29, 27, 16, 100, 108, 79], [42, 180, 0, 52, 29, 27, 16, 100, 112, 79, 42, 180, 0, 55, 29, 28, 4, 160, 0, 7, 4, 167, 0, 4, 3, 84, 42, 29, 42, 180, 0, 203, 160, 0, 12, 42, 180, 0, 203, 4, 96, 167, 0, 7, 42, 180, 0, 203, 181, 0, 203, 42, 180, 0, 203, 172]] p := seg_gb (S := [[27, 155, 0, 64, 27, 16, 100, 108, 133, 9, 42, 180, 0, 200, 4, 100, 133, 184, 0, 136, 153, 0, 45, 42, 27, 16, 100, 112, 182, 0, 170, 153, 0, 34, 42, 180, 0, 22, 27, 16, 100, 112, 46, 42, 180, 0, 43, 27, 16, 100, 108, 46, 160, 0, 13, 28, 133, 9, 10, 184, 0, 136, 154, 0], [5, 2, 172, 3, 62, 29, 42, 180, 0, 203, 162, 0, 35, 42, 180, 0, 49, 29, 46, 27, 16, 100, 108, 160, 0, 16, 42, 180, 0, 52, 29, 46, 27, 16, 100, 112, 159, 0, 9, 132, 3, 1, 167, 255, 219, 29, 16, 60, 160, 0, 6, 16, 253, 172, 42, 180, 0, 49, 29, 27, 16, 100, 108, 79], [42, 180, 0, 52, 29, 27, 16, 100, 112, 79, 42, 180, 0, 55, 29, 28, 4, 160, 0, 7, 4, 167, 0, 4, 3, 84, 42, 29, 42, 180, 0, 203, 160, 0, 12, 42, 180, 0, 203, 4, 96, 167, 0, 7, 42, 180, 0, 203, 181, 0, 203, 42, 180, 0, 203, 172]]) (by decide +kernel) (by decide +kernel)
set_option maxRecDepth 20000 in
theorem BX12_mark_1_0 : ∀ q ∈ ([(0, 27), (4, 27), (7, 108), (8, 133), (9, 9), (10, 42), (14, 4), (15, 100), (16, 133), (23, 42), (24, 27), (27, 112)] : List (Nat × Nat)), gb cX12_mark q.1 = some q.2 := seg_1 SX12_mark _ (by decide +kernel)
set_option maxRecDepth 20000 in
theorem BX12_mark_1_1 : ∀ q ∈ ([(34, 42), (38, 27), (41, 112), (42, 46), (43, 42), (47, 27), (50, 108), (51, 46), (55, 28), (56, 133), (57, 9), (58, 10)] : List (Nat × Nat)), gb cX12_mark q.1 = some q.2 := seg_1 SX12_mark _ (by decide +kernel)
set_option maxRecDepth 20000 in
theorem BX12_mark_1_2 : ∀ q ∈ ([(65, 2), (66, 172), (67, 3), (68, 62), (69, 29), (70, 42), (77, 42), (81, 29), (82, 46), (83, 27), (86, 108), (90, 42)] : List (Nat × Nat)), gb cX12_mark q.1 = some q.2 := seg_1 SX12_mark _ (by decide +kernel)
set_option maxRecDepth 20000 in
theorem BX12_mark_1_3 : ∀ q ∈ ([(94, 29), (95, 46), (96, 27), (99, 112), (109, 29), (117, 172), (118, 42), (122, 29), (123, 27), (126, 108), (127, 79), (128, 42)] : List (Nat × Nat)), gb cX12_mark q.1 = some q.2 := seg_1 SX12_mark _ (by decide +kernel)
set_option maxRecDepth 20000 in
theorem BX12_mark_1_4 : ∀ q ∈ ([(132, 29), (133, 27), (136, 112), (137, 79), (138, 42), (142, 29), (143, 28), (144, 4), (148, 4), (152, 3), (153, 84), (154, 42)] : List (Nat × Nat)), gb cX12_mark q.1 = some q.2 := seg_1 SX12_mark _ (by decide +kernel)
set_option maxRecDepth 20000 in
theorem BX12_mark_1_5 : ∀ q ∈ ([(155, 29), (156, 42), (163, 42), (167, 4), (168, 96), (172, 42), (179, 42), (183, 172)] : List (Nat × Nat)), gb cX12_mark q.1 = some q.2 := seg_1 SX12_mark _ (by decide +kernel)
set_option maxRecDepth 20000 in
theorem BX12_mark_2_0 : ∀ q ∈ ([(5, 16, 100), (25, 16, 100), (39, 16, 100), (48, 16, 100), (84, 16, 100), (97, 16, 100), (110, 16, 60), (115, 16, 253), (124, 16, 100), (134, 16, 100)] : List (Nat × Nat × Nat)), gb cX12_mark q.1 = some q.2.1 ∧ gb cX12_mark (q.1 + 1) = some q.2.2 := seg_2 SX12_mark _ (by decide +kernel)
set_option maxRecDepth 20000 in
theorem BX12_mark_3_0 : ∀ q ∈ ([(1, 155, 0, 64), (11, 180, 0, 200), (17, 184, 0, 136), (20, 153, 0, 45), (28, 182, 0, 170), (31, 153, 0, 34), (35, 180, 0, 22), (44, 180, 0, 43), (52, 160, 0, 13), (59, 184, 0, 136), (62, 154, 0, 5), (71, 180, 0, 203)] : List (Nat × Nat × Nat × Nat)), gb cX12_mark q.1 = some q.2.1 ∧ gb cX12_mark (q.1 + 1) = some q.2.2.1 ∧ gb cX12_mark (q.1 + 2) = some q.2.2.2 := seg_3 SX12_mark _ (by decide +kernel)
set_option maxRecDepth 20000 in
theorem BX12_mark_3_1 : ∀ q ∈ ([(74, 162, 0, 35), (78, 180, 0, 49), (87, 160, 0, 16), (91, 180, 0, 52), (100, 159, 0, 9), (103, 132, 3, 1), (106, 167, 255, 219), (112, 160, 0, 6), (119, 180, 0, 49), (129, 180, 0, 52), (139, 180, 0, 55), (145, 160, 0, 7)] : List (Nat × Nat × Nat × Nat)), gb cX12_mark q.1 = some q.2.1 ∧ gb cX12_mark (q.1 + 1) = some q.2.2.1 ∧ gb cX12_mark (q.1 + 2) = some q.2.2.2 := seg_3 SX12_mark _ (by decide +kernel)
set_option maxRecDepth 20000 in
theorem BX12_mark_3_2 : ∀ q ∈ ([(149, 167, 0, 4), (157, 180, 0, 203), (160, 160, 0, 12), (164, 180, 0, 203), (169, 167, 0, 7), (173, 180, 0, 203), (176, 181, 0, 203), (180, 180, 0, 203)] : List (Nat × Nat × Nat × Nat)), gb cX12_mark q.1 = some q.2.1 ∧ gb cX12_mark (q.1 + 1) = some q.2.2.1 ∧ gb cX12_mark (q.1 + 2) = some q.2.2.2 := seg_3 SX12_mark _ (by decide +kernel)
theorem dX12_mark_0 : decode cX12_mark 0 = .ok (.iload_n 1, 1) := dk27 (BX12_mark_1_0 (0, 27) (List.mem_of_getElem? (i := 0) rfl))
theorem dX12_mark_1 : decode cX12_mark 1 = .ok (.ifCond .lt 64, 3) := dk155 0 64 (BX12_mark_3_0 (1, 155, 0, 64) (List.mem_of_getElem? (i := 0) rfl))
theorem dX12_mark_4 : decode cX12_mark 4 = .ok (.iload_n 1, 1) := dk27 (BX12_mark_1_0 (4, 27) (List.mem_of_getElem? (i := 1) rfl))
theorem dX12_mark_5 : decode cX12_mark 5 = .ok (.bipush 100, 2) := dk16 100 (BX12_mark_2_0 (5, 16, 100) (List.mem_of_getElem? (i := 0) rfl))
theorem dX12_mark_7 : decode cX12_mark 7 = .ok (.idiv, 1) := dk108 (BX12_mark_1_0 (7, 108) (List.mem_of_getElem? (i := 2) rfl))
theorem dX12_mark_8 : decode cX12_mark 8 = .ok (.i2l, 1) := dk133 (BX12_mark_1_0 (8, 133) (List.mem_of_getElem? (i := 3) rfl))
theorem dX12_mark_9 : decode cX12_mark 9 = .ok (.lconst 0, 1) := dk9 (BX12_mark_1_0 (9, 9) (List.mem_of_getElem? (i := 4) rfl))
theorem dX12_mark_10 : decode cX12_mark 10 = .ok (.aload_n 0, 1) := dk42 (BX12_mark_1_0 (10, 42) (List.mem_of_getElem? (i := 5) rfl))
theorem dX12_mark_11 : decode cX12_mark 11 = .ok (.getfield 200, 3) := dk180 0 200 (BX12_mark_3_0 (11, 180, 0, 200) (List.mem_of_getElem? (i := 1) rfl))
theorem dX12_mark_14 : decode cX12_mark 14 = .ok (.iconst 1, 1) := dk4 (BX12_mark_1_0 (14, 4) (List.mem_of_getElem? (i := 6) rfl))
theorem dX12_mark_15 : decode cX12_mark 15 = .ok (.isub, 1) := dk100 (BX12_mark_1_0 (15, 100) (List.mem_of_getElem? (i := 7) rfl))
theorem dX12_mark_16 : decode cX12_mark 16 = .ok (.i2l, 1) := dk133 (BX12_mark_1_0 (16, 133) (List.mem_of_getElem? (i := 8) rfl))
theorem dX12_mark_17 : decode cX12_mark 17 = .ok (.invokestatic 136, 3) := dk184 0 136 (BX12_mark_3_0 (17, 184, 0, 136) (List.mem_of_getElem? (i := 2) rfl))
theorem dX12_mark_20 : decode cX12_mark 20 = .ok (.ifCond .eq 45, 3) := dk153 0 45 (BX12_mark_3_0 (20, 153, 0, 45) (List.mem_of_getElem? (i := 3) rfl))
theorem dX12_mark_23 : decode cX12_mark 23 = .ok (.aload_n 0, 1) := dk42 (BX12_mark_1_0 (23, 42) (List.mem_of_getElem? (i := 9) rfl))
theorem dX12_mark_24 : decode cX12_mark 24 = .ok (.iload_n 1, 1) := dk27 (BX12_mark_1_0 (24, 27) (List.mem_of_getElem? (i := 10) rfl))
theorem dX12_mark_25 : decode cX12_mark 25 = .ok (.bipush 100, 2) := dk16 100 (BX12_mark_2_0 (25, 16, 100) (List.mem_of_getElem? (i := 1) rfl))
theorem dX12_mark_27 : decode cX12_mark 27 = .ok (.irem, 1) := dk112 (BX12_mark_1_0 (27, 112) (List.mem_of_getElem? (i := 11) rfl))
theorem dX12_mark_28 : decode cX12_mark 28 = .ok (.invokevirtual 170, 3) := dk182 0 170 (BX12_mark_3_0 (28, 182, 0, 170) (List.mem_of_getElem? (i := 4) rfl))
theorem dX12_mark_31 : decode cX12_mark 31 = .ok (.ifCond .eq 34, 3) := dk153 0 34 (BX12_mark_3_0 (31, 153, 0, 34) (List.mem_of_getElem? (i := 5) rfl))
theorem dX12_mark_34 : decode cX12_mark 34 = .ok (.aload_n 0, 1) := dk42 (BX12_mark_1_1 (34, 42) (List.mem_of_getElem? (i := 0) rfl))
theorem dX12_mark_35 : decode cX12_mark 35 = .ok (.getfield 22, 3) := dk180 0 22 (BX12_mark_3_0 (35, 180, 0, 22) (List.mem_of_getElem? (i := 6) rfl))
theorem dX12_mark_38 : decode cX12_mark 38 = .ok (.iload_n 1, 1) := dk27 (BX12_mark_1_1 (38, 27) (List.mem_of_getElem? (i := 1) rfl))
theorem dX12_mark_39 : decode cX12_mark 39 = .ok (.bipush 100, 2) := dk16 100 (BX12_mark_2_0 (39, 16, 100) (List.mem_of_getElem? (i := 2) rfl))
theorem dX12_mark_41 : decode cX12_mark 41 = .ok (.irem, 1) := dk112 (BX12_mark_1_1 (41, 112) (List.mem_of_getElem? (i := 2) rfl))
theorem dX12_mark_42 : decode cX12_mark 42 = .ok (.iaload, 1) := dk46 (BX12_mark_1_1 (42, 46) (List.mem_of_getElem? (i := 3) rfl))
theorem dX12_mark_43 : decode cX12_mark 43 = .ok (.aload_n 0, 1) := dk42 (BX12_mark_1_1 (43, 42) (List.mem_of_getElem? (i := 4) rfl))
theorem dX12_mark_44 : decode cX12_mark 44 = .ok (.getfield 43, 3) := dk180 0 43 (BX12_mark_3_0 (44, 180, 0, 43) (List.mem_of_getElem? (i := 7) rfl))
theorem dX12_mark_47 : decode cX12_mark 47 = .ok (.iload_n 1, 1) := dk27 (BX12_mark_1_1 (47, 27) (List.mem_of_getElem? (i := 5) rfl))
theorem dX12_mark_48 : decode cX12_mark 48 = .ok (.bipush 100, 2) := dk16 100 (BX12_mark_2_0 (48, 16, 100) (List.mem_of_getElem? (i := 3) rfl))
theorem dX12_mark_50 : decode cX12_mark 50 = .ok (.idiv, 1) := dk108 (BX12_mark_1_1 (50, 108) (List.mem_of_getElem? (i := 6) rfl))
theorem dX12_mark_51 : decode cX12_mark 51 = .ok (.iaload, 1) := dk46 (BX12_mark_1_1 (51, 46) (List.mem_of_getElem? (i := 7) rfl))
theorem dX12_mark_52 : decode cX12_mark 52 = .ok (.if_icmp .ne 13, 3) := dk160 0 13 (BX12_mark_3_0 (52, 160, 0, 13) (List.mem_of_getElem? (i := 8) rfl))
theorem dX12_mark_55 : decode cX12_mark 55 = .ok (.iload_n 2, 1) := dk28 (BX12_mark_1_1 (55, 28) (List.mem_of_getElem? (i := 8) rfl))
theorem dX12_mark_56 : decode cX12_mark 56 = .ok (.i2l, 1) := dk133 (BX12_mark_1_1 (56, 133) (List.mem_of_getElem? (i := 9) rfl))
theorem dX12_mark_57 : decode cX12_mark 57 = .ok (.lconst 0, 1) := dk9 (BX12_mark_1_1 (57, 9) (List.mem_of_getElem? (i := 10) rfl))
theorem dX12_mark_58 : decode cX12_mark 58 = .ok (.lconst 1, 1) := dk10 (BX12_mark_1_1 (58, 10) (List.mem_of_getElem? (i := 11) rfl))
theorem dX12_mark_59 : decode cX12_mark 59 = .ok (.invokestatic 136, 3) := dk184 0 136 (BX12_mark_3_0 (59, 184, 0, 136) (List.mem_of_getElem? (i := 9) rfl))
theorem dX12_mark_62 : decode cX12_mark 62 = .ok (.ifCond .ne 5, 3) := dk154 0 5 (BX12_mark_3_0 (62, 154, 0, 5) (List.mem_of_getElem? (i := 10) rfl))
theorem dX12_mark_65 : decode cX12_mark 65 = .ok (.iconst (-1), 1) := dk2 (BX12_mark_1_2 (65, 2) (List.mem_of_getElem? (i := 0) rfl))
theorem dX12_mark_66 : decode cX12_mark 66 = .ok (.ireturn, 1) := dk172 (BX12_mark_1_2 (66, 172) (List.mem_of_getElem? (i := 1) rfl))
theorem dX12_mark_67 : decode cX12_mark 67 = .ok (.iconst 0, 1) := dk3 (BX12_mark_1_2 (67, 3) (List.mem_of_getElem? (i := 2) rfl))
theorem dX12_mark_68 : decode cX12_mark 68 = .ok (.istore_n 3, 1) := dk62 (BX12_mark_1_2 (68, 62) (List.mem_of_getElem? (i := 3) rfl))
theorem dX12_mark_69 : decode cX12_mark 69 = .ok (.iload_n 3, 1) := dk29 (BX12_mark_1_2 (69, 29) (List.mem_of_getElem? (i := 4) rfl))
theorem dX12_mark_70 : decode cX12_mark 70 = .ok (.aload_n 0, 1) := dk42 (BX12_mark_1_2 (70, 42) (List.mem_of_getElem? (i := 5) rfl))
theorem dX12_mark_71 : decode cX12_mark 71 = .ok (.getfield 203, 3) := dk180 0 203 (BX12_mark_3_0 (71, 180, 0, 203) (List.mem_of_getElem? (i := 11) rfl))
theorem dX12_mark_74 : decode cX12_mark 74 = .ok (.if_icmp .ge 35, 3) := dk162 0 35 (BX12_mark_3_1 (74, 162, 0, 35) (List.mem_of_getElem? (i := 0) rfl))
theorem dX12_mark_77 : decode cX12_mark 77 = .ok (.aload_n 0, 1) := dk42 (BX12_mark_1_2 (77, 42) (List.mem_of_getElem? (i := 6) rfl))
theorem dX12_mark_78 : decode cX12_mark 78 = .ok (.getfield 49, 3) := dk180 0 49 (BX12_mark_3_1 (78, 180, 0, 49) (List.mem_of_getElem? (i := 1) rfl))
theorem dX12_mark_81 : decode cX12_mark 81 = .ok (.iload_n 3, 1) := dk29 (BX12_mark_1_2 (81, 29) (List.mem_of_getElem? (i := 7) rfl))
theorem dX12_mark_82 : decode cX12_mark 82 = .ok (.iaload, 1) := dk46 (BX12_mark_1_2 (82, 46) (List.mem_of_getElem? (i := 8) rfl))
theorem dX12_mark_83 : decode cX12_mark 83 = .ok (.iload_n 1, 1) := dk27 (BX12_mark_1_2 (83, 27) (List.mem_of_getElem? (i := 9) rfl))
theorem dX12_mark_84 : decode cX12_mark 84 = .ok (.bipush 100, 2) := dk16 100 (BX12_mark_2_0 (84, 16, 100) (List.mem_of_getElem? (i := 4) rfl))
theorem dX12_mark_86 : decode cX12_mark 86 = .ok (.idiv, 1) := dk108 (BX12_mark_1_2 (86, 108) (List.mem_of_getElem? (i := 10) rfl))
theorem dX12_mark_87 : decode cX12_mark 87 = .ok (.if_icmp .ne 16, 3) := dk160 0 16 (BX12_mark_3_1 (87, 160, 0, 16) (List.mem_of_getElem? (i := 2) rfl))
theorem dX12_mark_90 : decode cX12_mark 90 = .ok (.aload_n 0, 1) := dk42 (BX12_mark_1_2 (90, 42) (List.mem_of_getElem? (i := 11) rfl))
theorem dX12_mark_91 : decode cX12_mark 91 = .ok (.getfield 52, 3) := dk180 0 52 (BX12_mark_3_1 (91, 180, 0, 52) (List.mem_of_getElem? (i := 3) rfl))
theorem dX12_mark_94 : decode cX12_mark 94 = .ok (.iload_n 3, 1) := dk29 (BX12_mark_1_3 (94, 29) (List.mem_of_getElem? (i := 0) rfl))
theorem dX12_mark_95 : decode cX12_mark 95 = .ok (.iaload, 1) := dk46 (BX12_mark_1_3 (95, 46) (List.mem_of_getElem? (i := 1) rfl))
theorem dX12_mark_96 : decode cX12_mark 96 = .ok (.iload_n 1, 1) := dk27 (BX12_mark_1_3 (96, 27) (List.mem_of_getElem? (i := 2) rfl))
theorem dX12_mark_97 : decode cX12_mark 97 = .ok (.bipush 100, 2) := dk16 100 (BX12_mark_2_0 (97, 16, 100) (List.mem_of_getElem? (i := 5) rfl))
theorem dX12_mark_99 : decode cX12_mark 99 = .ok (.irem, 1) := dk112 (BX12_mark_1_3 (99, 112) (List.mem_of_getElem? (i := 3) rfl))
theorem dX12_mark_100 : decode cX12_mark 100 = .ok (.if_icmp .eq 9, 3) := dk159 0 9 (BX12_mark_3_1 (100, 159, 0, 9) (List.mem_of_getElem? (i := 4) rfl))
theorem dX12_mark_103 : decode cX12_mark 103 = .ok (.iinc 3 1, 3) := dk132 3 1 (BX12_mark_3_1 (103, 132, 3, 1) (List.mem_of_getElem? (i := 5) rfl))
theorem dX12_mark_106 : decode cX12_mark 106 = .ok (.goto (-37), 3) := dk167 255 219 (BX12_mark_3_1 (106, 167, 255, 219) (List.mem_of_getElem? (i := 6) rfl))
theorem dX12_mark_109 : decode cX12_mark 109 = .ok (.iload_n 3, 1) := dk29 (BX12_mark_1_3 (109, 29) (List.mem_of_getElem? (i := 4) rfl))
theorem dX12_mark_110 : decode cX12_mark 110 = .ok (.bipush 60, 2) := dk16 60 (BX12_mark_2_0 (110, 16, 60) (List.mem_of_getElem? (i := 6) rfl))
theorem dX12_mark_112 : decode cX12_mark 112 = .ok (.if_icmp .ne 6, 3) := dk160 0 6 (BX12_mark_3_1 (112, 160, 0, 6) (List.mem_of_getElem? (i := 7) rfl))
theorem dX12_mark_115 : decode cX12_mark 115 = .ok (.bipush (-3), 2) := dk16 253 (BX12_mark_2_0 (115, 16, 253) (List.mem_of_getElem? (i := 7) rfl))
theorem dX12_mark_117 : decode cX12_mark 117 = .ok (.ireturn, 1) := dk172 (BX12_mark_1_3 (117, 172) (List.mem_of_getElem? (i := 5) rfl))
theorem dX12_mark_118 : decode cX12_mark 118 = .ok (.aload_n 0, 1) := dk42 (BX12_mark_1_3 (118, 42) (List.mem_of_getElem? (i := 6) rfl))
theorem dX12_mark_119 : decode cX12_mark 119 = .ok (.getfield 49, 3) := dk180 0 49 (BX12_mark_3_1 (119, 180, 0, 49) (List.mem_of_getElem? (i := 8) rfl))
theorem dX12_mark_122 : decode cX12_mark 122 = .ok (.iload_n 3, 1) := dk29 (BX12_mark_1_3 (122, 29) (List.mem_of_getElem? (i := 7) rfl))
theorem dX12_mark_123 : decode cX12_mark 123 = .ok (.iload_n 1, 1) := dk27 (BX12_mark_1_3 (123, 27) (List.mem_of_getElem? (i := 8) rfl))
theorem dX12_mark_124 : decode cX12_mark 124 = .ok (.bipush 100, 2) := dk16 100 (BX12_mark_2_0 (124, 16, 100) (List.mem_of_getElem? (i := 8) rfl))
theorem dX12_mark_126 : decode cX12_mark 126 = .ok (.idiv, 1) := dk108 (BX12_mark_1_3 (126, 108) (List.mem_of_getElem? (i := 9) rfl))
theorem dX12_mark_127 : decode cX12_mark 127 = .ok (.iastore, 1) := dk79 (BX12_mark_1_3 (127, 79) (List.mem_of_getElem? (i := 10) rfl))
theorem dX12_mark_128 : decode cX12_mark 128 = .ok (.aload_n 0, 1) := dk42 (BX12_mark_1_3 (128, 42) (List.mem_of_getElem? (i := 11) rfl))
theorem dX12_mark_129 : decode cX12_mark 129 = .ok (.getfield 52, 3) := dk180 0 52 (BX12_mark_3_1 (129, 180, 0, 52) (List.mem_of_getElem? (i := 9) rfl))
theorem dX12_mark_132 : decode cX12_mark 132 = .ok (.iload_n 3, 1) := dk29 (BX12_mark_1_4 (132, 29) (List.mem_of_getElem? (i := 0) rfl))
theorem dX12_mark_133 : decode cX12_mark 133 = .ok (.iload_n 1, 1) := dk27 (BX12_mark_1_4 (133, 27) (List.mem_of_getElem? (i := 1) rfl))
theorem dX12_mark_134 : decode cX12_mark 134 = .ok (.bipush 100, 2) := dk16 100 (BX12_mark_2_0 (134, 16, 100) (List.mem_of_getElem? (i := 9) rfl))
theorem dX12_mark_136 : decode cX12_mark 136 = .ok (.irem, 1) := dk112 (BX12_mark_1_4 (136, 112) (List.mem_of_getElem? (i := 2) rfl))
theorem dX12_mark_137 : decode cX12_mark 137 = .ok (.iastore, 1) := dk79 (BX12_mark_1_4 (137, 79) (List.mem_of_getElem? (i := 3) rfl))
theorem dX12_mark_138 : decode cX12_mark 138 = .ok (.aload_n 0, 1) := dk42 (BX12_mark_1_4 (138, 42) (List.mem_of_getElem? (i := 4) rfl))
theorem dX12_mark_139 : decode cX12_mark 139 = .ok (.getfield 55, 3) := dk180 0 55 (BX12_mark_3_1 (139, 180, 0, 55) (List.mem_of_getElem? (i := 10) rfl))
theorem dX12_mark_142 : decode cX12_mark 142 = .ok (.iload_n 3, 1) := dk29 (BX12_mark_1_4 (142, 29) (List.mem_of_getElem? (i := 5) rfl))
theorem dX12_mark_143 : decode cX12_mark 143 = .ok (.iload_n 2, 1) := dk28 (BX12_mark_1_4 (143, 28) (List.mem_of_getElem? (i := 6) rfl))
theorem dX12_mark_144 : decode cX12_mark 144 = .ok (.iconst 1, 1) := dk4 (BX12_mark_1_4 (144, 4) (List.mem_of_getElem? (i := 7) rfl))
theorem dX12_mark_145 : decode cX12_mark 145 = .ok (.if_icmp .ne 7, 3) := dk160 0 7 (BX12_mark_3_1 (145, 160, 0, 7) (List.mem_of_getElem? (i := 11) rfl))
theorem dX12_mark_148 : decode cX12_mark 148 = .ok (.iconst 1, 1) := dk4 (BX12_mark_1_4 (148, 4) (List.mem_of_getElem? (i := 8) rfl))
theorem dX12_mark_149 : decode cX12_mark 149 = .ok (.goto 4, 3) := dk167 0 4 (BX12_mark_3_2 (149, 167, 0, 4) (List.mem_of_getElem? (i := 0) rfl))
theorem dX12_mark_152 : decode cX12_mark 152 = .ok (.iconst 0, 1) := dk3 (BX12_mark_1_4 (152, 3) (List.mem_of_getElem? (i := 9) rfl))
theorem dX12_mark_153 : decode cX12_mark 153 = .ok (.bastore, 1) := dk84 (BX12_mark_1_4 (153, 84) (List.mem_of_getElem? (i := 10) rfl))
theorem dX12_mark_154 : decode cX12_mark 154 = .ok (.aload_n 0, 1) := dk42 (BX12_mark_1_4 (154, 42) (List.mem_of_getElem? (i := 11) rfl))
theorem dX12_mark_155 : decode cX12_mark 155 = .ok (.iload_n 3, 1) := dk29 (BX12_mark_1_5 (155, 29) (List.mem_of_getElem? (i := 0) rfl))
theorem dX12_mark_156 : decode cX12_mark 156 = .ok (.aload_n 0, 1) := dk42 (BX12_mark_1_5 (156, 42) (List.mem_of_getElem? (i := 1) rfl))
theorem dX12_mark_157 : decode cX12_mark 157 = .ok (.getfield 203, 3) := dk180 0 203 (BX12_mark_3_2 (157, 180, 0, 203) (List.mem_of_getElem? (i := 1) rfl))
theorem dX12_mark_160 : decode cX12_mark 160 = .ok (.if_icmp .ne 12, 3) := dk160 0 12 (BX12_mark_3_2 (160, 160, 0, 12) (List.mem_of_getElem? (i := 2) rfl))
theorem dX12_mark_163 : decode cX12_mark 163 = .ok (.aload_n 0, 1) := dk42 (BX12_mark_1_5 (163, 42) (List.mem_of_getElem? (i := 2) rfl))
theorem dX12_mark_164 : decode cX12_mark 164 = .ok (.getfield 203, 3) := dk180 0 203 (BX12_mark_3_2 (164, 180, 0, 203) (List.mem_of_getElem? (i := 3) rfl))
theorem dX12_mark_167 : decode cX12_mark 167 = .ok (.iconst 1, 1) := dk4 (BX12_mark_1_5 (167, 4) (List.mem_of_getElem? (i := 3) rfl))
theorem dX12_mark_168 : decode cX12_mark 168 = .ok (.iadd, 1) := dk96 (BX12_mark_1_5 (168, 96) (List.mem_of_getElem? (i := 4) rfl))
theorem dX12_mark_169 : decode cX12_mark 169 = .ok (.goto 7, 3) := dk167 0 7 (BX12_mark_3_2 (169, 167, 0, 7) (List.mem_of_getElem? (i := 4) rfl))
theorem dX12_mark_172 : decode cX12_mark 172 = .ok (.aload_n 0, 1) := dk42 (BX12_mark_1_5 (172, 42) (List.mem_of_getElem? (i := 5) rfl))
theorem dX12_mark_173 : decode cX12_mark 173 = .ok (.getfield 203, 3) := dk180 0 203 (BX12_mark_3_2 (173, 180, 0, 203) (List.mem_of_getElem? (i := 5) rfl))
theorem dX12_mark_176 : decode cX12_mark 176 = .ok (.putfield 203, 3) := dk181 0 203 (BX12_mark_3_2 (176, 181, 0, 203) (List.mem_of_getElem? (i := 6) rfl))
theorem dX12_mark_179 : decode cX12_mark 179 = .ok (.aload_n 0, 1) := dk42 (BX12_mark_1_5 (179, 42) (List.mem_of_getElem? (i := 6) rfl))
theorem dX12_mark_180 : decode cX12_mark 180 = .ok (.getfield 203, 3) := dk180 0 203 (BX12_mark_3_2 (180, 180, 0, 203) (List.mem_of_getElem? (i := 7) rfl))
theorem dX12_mark_183 : decode cX12_mark 183 = .ok (.ireturn, 1) := dk172 (BX12_mark_1_5 (183, 172) (List.mem_of_getElem? (i := 7) rfl))
set_option maxRecDepth 20000 in
theorem SX12_has : ∀ p : Nat, gb cX12_has p = segF [[3, 54, 5, 21, 5, 42, 180, 0, 203, 162, 0, 85, 42, 180, 0, 31, 42, 180, 0, 52, 21, 5, 46, 46, 27, 160, 0, 53, 42, 180, 0, 55, 21, 5, 51, 21, 4, 160, 0, 41, 29, 156, 0, 22, 42, 180, 0, 46, 42, 180, 0, 49, 21, 5, 46, 46, 28, 160, 0, 21, 167, 0, 14, 42], [180, 0, 49, 21, 5, 46, 29, 160, 0, 7, 4, 167, 0, 4, 3, 54, 6, 21, 6, 153, 0, 5, 4, 172, 132, 5, 1, 167, 255, 168, 3, 172]] p := seg_gb (S := [[3, 54, 5, 21, 5, 42, 180, 0, 203, 162, 0, 85, 42, 180, 0, 31, 42, 180, 0, 52, 21, 5, 46, 46, 27, 160, 0, 53, 42, 180, 0, 55, 21, 5, 51, 21, 4, 160, 0, 41, 29, 156, 0, 22, 42, 180, 0, 46, 42, 180, 0, 49, 21, 5, 46, 46, 28, 160, 0, 21, 167, 0, 14, 42], [180, 0, 49, 21, 5, 46, 29, 160, 0, 7, 4, 167, 0, 4, 3, 54, 6, 21, 6, 153, 0, 5, 4, 172, 132, 5, 1, 167, 255, 168, 3, 172]]) (by decide +kernel) (by decide +kernel)
set_option maxRecDepth 20000 in
theorem BX12_has_1_0 : ∀ q ∈ ([(0, 3), (5, 42), (12, 42), (16, 42), (22, 46), (23, 46), (24, 27), (28, 42), (34, 51), (40, 29), (44, 42), (48, 42)] : List (Nat × Nat)), gb cX12_has q.1 = some q.2 := seg_1 SX12_has _ (by decide +kernel)
set_option maxRecDepth 20000 in
theorem BX12_has_1_1 : ∀ q ∈ ([(54, 46), (55, 46), (56, 28), (63, 42), (69, 46), (70, 29), (74, 4), (78, 3), (86, 4), (87, 172), (94, 3), (95, 172)] : List (Nat × Nat)), gb cX12_has q.1 = some q.2 := seg_1 SX12_has _ (by decide +kernel)
set_option maxRecDepth 20000 in
theorem BX12_has_2_0 : ∀ q ∈ ([(1, 54, 5), (3, 21, 5), (20, 21, 5), (32, 21, 5), (35, 21, 4), (52, 21, 5), (67, 21, 5), (79, 54, 6), (81, 21, 6)] : List (Nat × Nat × Nat)), gb cX12_has q.1 = some q.2.1 ∧ gb cX12_has (q.1 + 1) = some q.2.2 := seg_2 SX12_has _ (by decide +kernel)
set_option maxRecDepth 20000 in
theorem BX12_has_3_0 : ∀ q ∈ ([(6, 180, 0, 203), (9, 162, 0, 85), (13, 180, 0, 31), (17, 180, 0, 52), (25, 160, 0, 53), (29, 180, 0, 55), (37, 160, 0, 41), (41, 156, 0, 22), (45, 180, 0, 46), (49, 180, 0, 49), (57, 160, 0, 21), (60, 167, 0, 14)] : List (Nat × Nat × Nat × Nat)), gb cX12_has q.1 = some q.2.1 ∧ gb cX12_has (q.1 + 1) = some q.2.2.1 ∧ gb cX12_has (q.1 + 2) = some q.2.2.2 := seg_3 SX12_has _ (by decide +kernel)
set_option maxRecDepth 20000 in
theorem BX12_has_3_1 : ∀ q ∈ ([(64, 180, 0, 49), (71, 160, 0, 7), (75, 167, 0, 4), (83, 153, 0, 5), (88, 132, 5, 1), (91, 167, 255, 168)] : List (Nat × Nat × Nat × Nat)), gb cX12_has q.1 = some q.2.1 ∧ gb cX12_has (q.1 + 1) = some q.2.2.1 ∧ gb cX12_has (q.1 + 2) = some q.2.2.2 := seg_3 SX12_has _ (by decide +kernel)
theorem dX12_has_0 : decode cX12_has 0 = .ok (.iconst 0, 1) := dk3 (BX12_has_1_0 (0, 3) (List.mem_of_getElem? (i := 0) rfl))
theorem dX12_has_1 : decode cX12_has 1 = .ok (.istore 5, 2) := dk54 5 (BX12_has_2_0 (1, 54, 5) (List.mem_of_getElem? (i := 0) rfl))
theorem dX12_has_3 : decode cX12_has 3 = .ok (.iload 5, 2) := dk21 5 (BX12_has_2_0 (3, 21, 5) (List.mem_of_getElem? (i := 1) rfl))
theorem dX12_has_5 : decode cX12_has 5 = .ok (.aload_n 0, 1) := dk42 (BX12_has_1_0 (5, 42) (List.mem_of_getElem? (i := 1) rfl))
theorem dX12_has_6 : decode cX12_has 6 = .ok (.getfield 203, 3) := dk180 0 203 (BX12_has_3_0 (6, 180, 0, 203) (List.mem_of_getElem? (i := 0) rfl))
theorem dX12_has_9 : decode cX12_has 9 = .ok (.if_icmp .ge 85, 3) := dk162 0 85 (BX12_has_3_0 (9, 162, 0, 85) (List.mem_of_getElem? (i := 1) rfl))
theorem dX12_has_12 : decode cX12_has 12 = .ok (.aload_n 0, 1) := dk42 (BX12_has_1_0 (12, 42) (List.mem_of_getElem? (i := 2) rfl))
theorem dX12_has_13 : decode cX12_has 13 = .ok (.getfield 31, 3) := dk180 0 31 (BX12_has_3_0 (13, 180, 0, 31) (List.mem_of_getElem? (i := 2) rfl))
theorem dX12_has_16 : decode cX12_has 16 = .ok (.aload_n 0, 1) := dk42 (BX12_has_1_0 (16, 42) (List.mem_of_getElem? (i := 3) rfl))
theorem dX12_has_17 : decode cX12_has 17 = .ok (.getfield 52, 3) := dk180 0 52 (BX12_has_3_0 (17, 180, 0, 52) (List.mem_of_getElem? (i := 3) rfl))
theorem dX12_has_20 : decode cX12_has 20 = .ok (.iload 5, 2) := dk21 5 (BX12_has_2_0 (20, 21, 5) (List.mem_of_getElem? (i := 2) rfl))
theorem dX12_has_22 : decode cX12_has 22 = .ok (.iaload, 1) := dk46 (BX12_has_1_0 (22, 46) (List.mem_of_getElem? (i := 4) rfl))
theorem dX12_has_23 : decode cX12_has 23 = .ok (.iaload, 1) := dk46 (BX12_has_1_0 (23, 46) (List.mem_of_getElem? (i := 5) rfl))
theorem dX12_has_24 : decode cX12_has 24 = .ok (.iload_n 1, 1) := dk27 (BX12_has_1_0 (24, 27) (List.mem_of_getElem? (i := 6) rfl))
theorem dX12_has_25 : decode cX12_has 25 = .ok (.if_icmp .ne 53, 3) := dk160 0 53 (BX12_has_3_0 (25, 160, 0, 53) (List.mem_of_getElem? (i := 4) rfl))
theorem dX12_has_28 : decode cX12_has 28 = .ok (.aload_n 0, 1) := dk42 (BX12_has_1_0 (28, 42) (List.mem_of_getElem? (i := 7) rfl))
theorem dX12_has_29 : decode cX12_has 29 = .ok (.getfield 55, 3) := dk180 0 55 (BX12_has_3_0 (29, 180, 0, 55) (List.mem_of_getElem? (i := 5) rfl))
theorem dX12_has_32 : decode cX12_has 32 = .ok (.iload 5, 2) := dk21 5 (BX12_has_2_0 (32, 21, 5) (List.mem_of_getElem? (i := 3) rfl))
theorem dX12_has_34 : decode cX12_has 34 = .ok (.baload, 1) := dk51 (BX12_has_1_0 (34, 51) (List.mem_of_getElem? (i := 8) rfl))
theorem dX12_has_35 : decode cX12_has 35 = .ok (.iload 4, 2) := dk21 4 (BX12_has_2_0 (35, 21, 4) (List.mem_of_getElem? (i := 4) rfl))
theorem dX12_has_37 : decode cX12_has 37 = .ok (.if_icmp .ne 41, 3) := dk160 0 41 (BX12_has_3_0 (37, 160, 0, 41) (List.mem_of_getElem? (i := 6) rfl))
theorem dX12_has_40 : decode cX12_has 40 = .ok (.iload_n 3, 1) := dk29 (BX12_has_1_0 (40, 29) (List.mem_of_getElem? (i := 9) rfl))
theorem dX12_has_41 : decode cX12_has 41 = .ok (.ifCond .ge 22, 3) := dk156 0 22 (BX12_has_3_0 (41, 156, 0, 22) (List.mem_of_getElem? (i := 7) rfl))
theorem dX12_has_44 : decode cX12_has 44 = .ok (.aload_n 0, 1) := dk42 (BX12_has_1_0 (44, 42) (List.mem_of_getElem? (i := 10) rfl))
theorem dX12_has_45 : decode cX12_has 45 = .ok (.getfield 46, 3) := dk180 0 46 (BX12_has_3_0 (45, 180, 0, 46) (List.mem_of_getElem? (i := 8) rfl))
theorem dX12_has_48 : decode cX12_has 48 = .ok (.aload_n 0, 1) := dk42 (BX12_has_1_0 (48, 42) (List.mem_of_getElem? (i := 11) rfl))
theorem dX12_has_49 : decode cX12_has 49 = .ok (.getfield 49, 3) := dk180 0 49 (BX12_has_3_0 (49, 180, 0, 49) (List.mem_of_getElem? (i := 9) rfl))
theorem dX12_has_52 : decode cX12_has 52 = .ok (.iload 5, 2) := dk21 5 (BX12_has_2_0 (52, 21, 5) (List.mem_of_getElem? (i := 5) rfl))
theorem dX12_has_54 : decode cX12_has 54 = .ok (.iaload, 1) := dk46 (BX12_has_1_1 (54, 46) (List.mem_of_getElem? (i := 0) rfl))
theorem dX12_has_55 : decode cX12_has 55 = .ok (.iaload, 1) := dk46 (BX12_has_1_1 (55, 46) (List.mem_of_getElem? (i := 1) rfl))
theorem dX12_has_56 : decode cX12_has 56 = .ok (.iload_n 2, 1) := dk28 (BX12_has_1_1 (56, 28) (List.mem_of_getElem? (i := 2) rfl))
theorem dX12_has_57 : decode cX12_has 57 = .ok (.if_icmp .ne 21, 3) := dk160 0 21 (BX12_has_3_0 (57, 160, 0, 21) (List.mem_of_getElem? (i := 10) rfl))
theorem dX12_has_60 : decode cX12_has 60 = .ok (.goto 14, 3) := dk167 0 14 (BX12_has_3_0 (60, 167, 0, 14) (List.mem_of_getElem? (i := 11) rfl))
theorem dX12_has_63 : decode cX12_has 63 = .ok (.aload_n 0, 1) := dk42 (BX12_has_1_1 (63, 42) (List.mem_of_getElem? (i := 3) rfl))
theorem dX12_has_64 : decode cX12_has 64 = .ok (.getfield 49, 3) := dk180 0 49 (BX12_has_3_1 (64, 180, 0, 49) (List.mem_of_getElem? (i := 0) rfl))
theorem dX12_has_67 : decode cX12_has 67 = .ok (.iload 5, 2) := dk21 5 (BX12_has_2_0 (67, 21, 5) (List.mem_of_getElem? (i := 6) rfl))
theorem dX12_has_69 : decode cX12_has 69 = .ok (.iaload, 1) := dk46 (BX12_has_1_1 (69, 46) (List.mem_of_getElem? (i := 4) rfl))
theorem dX12_has_70 : decode cX12_has 70 = .ok (.iload_n 3, 1) := dk29 (BX12_has_1_1 (70, 29) (List.mem_of_getElem? (i := 5) rfl))
theorem dX12_has_71 : decode cX12_has 71 = .ok (.if_icmp .ne 7, 3) := dk160 0 7 (BX12_has_3_1 (71, 160, 0, 7) (List.mem_of_getElem? (i := 1) rfl))
theorem dX12_has_74 : decode cX12_has 74 = .ok (.iconst 1, 1) := dk4 (BX12_has_1_1 (74, 4) (List.mem_of_getElem? (i := 6) rfl))
theorem dX12_has_75 : decode cX12_has 75 = .ok (.goto 4, 3) := dk167 0 4 (BX12_has_3_1 (75, 167, 0, 4) (List.mem_of_getElem? (i := 2) rfl))
theorem dX12_has_78 : decode cX12_has 78 = .ok (.iconst 0, 1) := dk3 (BX12_has_1_1 (78, 3) (List.mem_of_getElem? (i := 7) rfl))
theorem dX12_has_79 : decode cX12_has 79 = .ok (.istore 6, 2) := dk54 6 (BX12_has_2_0 (79, 54, 6) (List.mem_of_getElem? (i := 7) rfl))
theorem dX12_has_81 : decode cX12_has 81 = .ok (.iload 6, 2) := dk21 6 (BX12_has_2_0 (81, 21, 6) (List.mem_of_getElem? (i := 8) rfl))
theorem dX12_has_83 : decode cX12_has 83 = .ok (.ifCond .eq 5, 3) := dk153 0 5 (BX12_has_3_1 (83, 153, 0, 5) (List.mem_of_getElem? (i := 3) rfl))
theorem dX12_has_86 : decode cX12_has 86 = .ok (.iconst 1, 1) := dk4 (BX12_has_1_1 (86, 4) (List.mem_of_getElem? (i := 8) rfl))
theorem dX12_has_87 : decode cX12_has 87 = .ok (.ireturn, 1) := dk172 (BX12_has_1_1 (87, 172) (List.mem_of_getElem? (i := 9) rfl))
theorem dX12_has_88 : decode cX12_has 88 = .ok (.iinc 5 1, 3) := dk132 5 1 (BX12_has_3_1 (88, 132, 5, 1) (List.mem_of_getElem? (i := 4) rfl))
theorem dX12_has_91 : decode cX12_has 91 = .ok (.goto (-88), 3) := dk167 255 168 (BX12_has_3_1 (91, 167, 255, 168) (List.mem_of_getElem? (i := 5) rfl))
theorem dX12_has_94 : decode cX12_has 94 = .ok (.iconst 0, 1) := dk3 (BX12_has_1_1 (94, 3) (List.mem_of_getElem? (i := 10) rfl))
theorem dX12_has_95 : decode cX12_has 95 = .ok (.ireturn, 1) := dk172 (BX12_has_1_1 (95, 172) (List.mem_of_getElem? (i := 11) rfl))
set_option maxRecDepth 20000 in
theorem ggX12_fight_X12_isSlack : GoodIn wsX12_fight wsX12_isSlack := goodIn_g ch_wsX12_fight_flat gd_wsX12_fight _ [(1, 6), (1, 7), (1, 8), (1, 9), (1, 5), (1, 10)] rfl
set_option maxRecDepth 20000 in
theorem gX12_fight_X12_isSlack : GoodIn wsX12_fight (va_wsS RX12 163 yX12_isSlack wsX12_isSlack) := goodIn_app (goodIn_g ch_wsX12_fight_flat gd_wsX12_fight _ [(1, 3), (1, 4), (1, 5)] rfl) ggX12_fight_X12_isSlack
set_option maxRecDepth 20000 in
theorem ggX12_fight_X12_within : GoodIn wsX12_fight wsX12_within := goodIn_g ch_wsX12_fight_flat gd_wsX12_fight _ [(1, 10)] rfl
set_option maxRecDepth 20000 in
theorem gX12_fight_X12_within : GoodIn wsX12_fight (va_wsS RX12 136 yX12_within wsX12_within) := goodIn_app (goodIn_g ch_wsX12_fight_flat gd_wsX12_fight _ [(1, 8), (1, 9), (1, 5)] rfl) ggX12_fight_X12_within
set_option maxRecDepth 20000 in
theorem ggX12_fight_X12_findWorms : GoodIn wsX12_fight wsX12_findWorms := gcons (goodIn_g ch_wsX12_fight_flat gd_wsX12_fight _ [(1, 14)] rfl) (goodIn_app (goodIn_g ch_wsX12_fight_flat gd_wsX12_fight _ [(1, 15), (1, 16), (1, 17), (1, 18), (1, 19), (1, 1), (1, 20)] rfl) (gchunk ch_wsX12_fight_flat gd_wsX12_fight 3 rfl))
set_option maxRecDepth 20000 in
theorem gX12_fight_X12_findWorms : GoodIn wsX12_fight (wsV RX12 166 RX12 yX12_findWorms wsX12_findWorms) := goodIn_app (goodIn_g ch_wsX12_fight_flat gd_wsX12_fight _ [(1, 11), (1, 12), (1, 13), (1, 5)] rfl) ggX12_fight_X12_findWorms
set_option maxRecDepth 20000 in
theorem ggX12_fight_X12_has : GoodIn wsX12_fight wsX12_has := gcons (goodIn_g ch_wsX12_fight_flat gd_wsX12_fight _ [(2, 0)] rfl) (goodIn_app (goodIn_g ch_wsX12_fight_flat gd_wsX12_fight _ [(2, 1), (1, 16), (2, 2), (2, 3), (1, 2), (2, 4)] rfl) (gchunk ch_wsX12_fight_flat gd_wsX12_fight 3 rfl))
set_option maxRecDepth 20000 in
theorem gX12_fight_X12_has : GoodIn wsX12_fight (wsV RX12 206 RX12 yX12_has wsX12_has) := goodIn_app (goodIn_g ch_wsX12_fight_flat gd_wsX12_fight _ [(1, 21), (1, 22), (1, 23), (1, 5)] rfl) ggX12_fight_X12_has
set_option maxRecDepth 20000 in
theorem SX12_fight : ∀ p : Nat, gb cX12_fight p = segF [[27, 184, 0, 163, 153, 0, 13, 28, 133, 9, 10, 184, 0, 136, 154, 0, 5, 2, 172, 42, 27, 2, 182, 0, 166, 3, 62, 29, 42, 180, 0, 200, 162, 0, 67, 3, 54, 4, 21, 4, 42, 180, 0, 160, 162, 0, 49, 42, 21, 4, 2, 29, 4, 182, 0, 206, 153, 0, 31, 42, 21, 4, 42, 180], [0, 46, 29, 46, 2, 3, 182, 0, 206, 153, 0, 14, 28, 154, 0, 7, 29, 167, 0, 5, 21, 4, 172, 132, 4, 1, 167, 255, 204, 132, 3, 1, 167, 255, 187, 16, 254, 172]] p := seg_gb (S := [[27, 184, 0, 163, 153, 0, 13, 28, 133, 9, 10, 184, 0, 136, 154, 0, 5, 2, 172, 42, 27, 2, 182, 0, 166, 3, 62, 29, 42, 180, 0, 200, 162, 0, 67, 3, 54, 4, 21, 4, 42, 180, 0, 160, 162, 0, 49, 42, 21, 4, 2, 29, 4, 182, 0, 206, 153, 0, 31, 42, 21, 4, 42, 180], [0, 46, 29, 46, 2, 3, 182, 0, 206, 153, 0, 14, 28, 154, 0, 7, 29, 167, 0, 5, 21, 4, 172, 132, 4, 1, 167, 255, 204, 132, 3, 1, 167, 255, 187, 16, 254, 172]]) (by decide +kernel) (by decide +kernel)
set_option maxRecDepth 20000 in
theorem BX12_fight_1_0 : ∀ q ∈ ([(0, 27), (7, 28), (8, 133), (9, 9), (10, 10), (17, 2), (18, 172), (19, 42), (20, 27), (21, 2), (25, 3), (26, 62)] : List (Nat × Nat)), gb cX12_fight q.1 = some q.2 := seg_1 SX12_fight _ (by decide +kernel)
set_option maxRecDepth 20000 in
theorem BX12_fight_1_1 : ∀ q ∈ ([(27, 29), (28, 42), (35, 3), (40, 42), (47, 42), (50, 2), (51, 29), (52, 4), (59, 42), (62, 42), (66, 29), (67, 46)] : List (Nat × Nat)), gb cX12_fight q.1 = some q.2 := seg_1 SX12_fight _ (by decide +kernel)
set_option maxRecDepth 20000 in
theorem BX12_fight_1_2 : ∀ q ∈ ([(68, 2), (69, 3), (76, 28), (80, 29), (86, 172), (101, 172)] : List (Nat × Nat)), gb cX12_fight q.1 = some q.2 := seg_1 SX12_fight _ (by decide +kernel)
set_option maxRecDepth 20000 in
theorem BX12_fight_2_0 : ∀ q ∈ ([(36, 54, 4), (38, 21, 4), (48, 21, 4), (60, 21, 4), (84, 21, 4), (99, 16, 254)] : List (Nat × Nat × Nat)), gb cX12_fight q.1 = some q.2.1 ∧ gb cX12_fight (q.1 + 1) = some q.2.2 := seg_2 SX12_fight _ (by decide +kernel)
set_option maxRecDepth 20000 in
theorem BX12_fight_3_0 : ∀ q ∈ ([(1, 184, 0, 163), (4, 153, 0, 13), (11, 184, 0, 136), (14, 154, 0, 5), (22, 182, 0, 166), (29, 180, 0, 200), (32, 162, 0, 67), (41, 180, 0, 160), (44, 162, 0, 49), (53, 182, 0, 206), (56, 153, 0, 31), (63, 180, 0, 46)] : List (Nat × Nat × Nat × Nat)), gb cX12_fight q.1 = some q.2.1 ∧ gb cX12_fight (q.1 + 1) = some q.2.2.1 ∧ gb cX12_fight (q.1 + 2) = some q.2.2.2 := seg_3 SX12_fight _ (by decide +kernel)
set_option maxRecDepth 20000 in
theorem BX12_fight_3_1 : ∀ q ∈ ([(70, 182, 0, 206), (73, 153, 0, 14), (77, 154, 0, 7), (81, 167, 0, 5), (87, 132, 4, 1), (90, 167, 255, 204), (93, 132, 3, 1), (96, 167, 255, 187)] : List (Nat × Nat × Nat × Nat)), gb cX12_fight q.1 = some q.2.1 ∧ gb cX12_fight (q.1 + 1) = some q.2.2.1 ∧ gb cX12_fight (q.1 + 2) = some q.2.2.2 := seg_3 SX12_fight _ (by decide +kernel)
theorem dX12_fight_0 : decode cX12_fight 0 = .ok (.iload_n 1, 1) := dk27 (BX12_fight_1_0 (0, 27) (List.mem_of_getElem? (i := 0) rfl))
theorem dX12_fight_1 : decode cX12_fight 1 = .ok (.invokestatic 163, 3) := dk184 0 163 (BX12_fight_3_0 (1, 184, 0, 163) (List.mem_of_getElem? (i := 0) rfl))
theorem dX12_fight_4 : decode cX12_fight 4 = .ok (.ifCond .eq 13, 3) := dk153 0 13 (BX12_fight_3_0 (4, 153, 0, 13) (List.mem_of_getElem? (i := 1) rfl))
theorem dX12_fight_7 : decode cX12_fight 7 = .ok (.iload_n 2, 1) := dk28 (BX12_fight_1_0 (7, 28) (List.mem_of_getElem? (i := 1) rfl))
theorem dX12_fight_8 : decode cX12_fight 8 = .ok (.i2l, 1) := dk133 (BX12_fight_1_0 (8, 133) (List.mem_of_getElem? (i := 2) rfl))
theorem dX12_fight_9 : decode cX12_fight 9 = .ok (.lconst 0, 1) := dk9 (BX12_fight_1_0 (9, 9) (List.mem_of_getElem? (i := 3) rfl))
theorem dX12_fight_10 : decode cX12_fight 10 = .ok (.lconst 1, 1) := dk10 (BX12_fight_1_0 (10, 10) (List.mem_of_getElem? (i := 4) rfl))
theorem dX12_fight_11 : decode cX12_fight 11 = .ok (.invokestatic 136, 3) := dk184 0 136 (BX12_fight_3_0 (11, 184, 0, 136) (List.mem_of_getElem? (i := 2) rfl))
theorem dX12_fight_14 : decode cX12_fight 14 = .ok (.ifCond .ne 5, 3) := dk154 0 5 (BX12_fight_3_0 (14, 154, 0, 5) (List.mem_of_getElem? (i := 3) rfl))
theorem dX12_fight_17 : decode cX12_fight 17 = .ok (.iconst (-1), 1) := dk2 (BX12_fight_1_0 (17, 2) (List.mem_of_getElem? (i := 5) rfl))
theorem dX12_fight_18 : decode cX12_fight 18 = .ok (.ireturn, 1) := dk172 (BX12_fight_1_0 (18, 172) (List.mem_of_getElem? (i := 6) rfl))
theorem dX12_fight_19 : decode cX12_fight 19 = .ok (.aload_n 0, 1) := dk42 (BX12_fight_1_0 (19, 42) (List.mem_of_getElem? (i := 7) rfl))
theorem dX12_fight_20 : decode cX12_fight 20 = .ok (.iload_n 1, 1) := dk27 (BX12_fight_1_0 (20, 27) (List.mem_of_getElem? (i := 8) rfl))
theorem dX12_fight_21 : decode cX12_fight 21 = .ok (.iconst (-1), 1) := dk2 (BX12_fight_1_0 (21, 2) (List.mem_of_getElem? (i := 9) rfl))
theorem dX12_fight_22 : decode cX12_fight 22 = .ok (.invokevirtual 166, 3) := dk182 0 166 (BX12_fight_3_0 (22, 182, 0, 166) (List.mem_of_getElem? (i := 4) rfl))
theorem dX12_fight_25 : decode cX12_fight 25 = .ok (.iconst 0, 1) := dk3 (BX12_fight_1_0 (25, 3) (List.mem_of_getElem? (i := 10) rfl))
theorem dX12_fight_26 : decode cX12_fight 26 = .ok (.istore_n 3, 1) := dk62 (BX12_fight_1_0 (26, 62) (List.mem_of_getElem? (i := 11) rfl))
theorem dX12_fight_27 : decode cX12_fight 27 = .ok (.iload_n 3, 1) := dk29 (BX12_fight_1_1 (27, 29) (List.mem_of_getElem? (i := 0) rfl))
theorem dX12_fight_28 : decode cX12_fight 28 = .ok (.aload_n 0, 1) := dk42 (BX12_fight_1_1 (28, 42) (List.mem_of_getElem? (i := 1) rfl))
theorem dX12_fight_29 : decode cX12_fight 29 = .ok (.getfield 200, 3) := dk180 0 200 (BX12_fight_3_0 (29, 180, 0, 200) (List.mem_of_getElem? (i := 5) rfl))
theorem dX12_fight_32 : decode cX12_fight 32 = .ok (.if_icmp .ge 67, 3) := dk162 0 67 (BX12_fight_3_0 (32, 162, 0, 67) (List.mem_of_getElem? (i := 6) rfl))
theorem dX12_fight_35 : decode cX12_fight 35 = .ok (.iconst 0, 1) := dk3 (BX12_fight_1_1 (35, 3) (List.mem_of_getElem? (i := 2) rfl))
theorem dX12_fight_36 : decode cX12_fight 36 = .ok (.istore 4, 2) := dk54 4 (BX12_fight_2_0 (36, 54, 4) (List.mem_of_getElem? (i := 0) rfl))
theorem dX12_fight_38 : decode cX12_fight 38 = .ok (.iload 4, 2) := dk21 4 (BX12_fight_2_0 (38, 21, 4) (List.mem_of_getElem? (i := 1) rfl))
theorem dX12_fight_40 : decode cX12_fight 40 = .ok (.aload_n 0, 1) := dk42 (BX12_fight_1_1 (40, 42) (List.mem_of_getElem? (i := 3) rfl))
theorem dX12_fight_41 : decode cX12_fight 41 = .ok (.getfield 160, 3) := dk180 0 160 (BX12_fight_3_0 (41, 180, 0, 160) (List.mem_of_getElem? (i := 7) rfl))
theorem dX12_fight_44 : decode cX12_fight 44 = .ok (.if_icmp .ge 49, 3) := dk162 0 49 (BX12_fight_3_0 (44, 162, 0, 49) (List.mem_of_getElem? (i := 8) rfl))
theorem dX12_fight_47 : decode cX12_fight 47 = .ok (.aload_n 0, 1) := dk42 (BX12_fight_1_1 (47, 42) (List.mem_of_getElem? (i := 4) rfl))
theorem dX12_fight_48 : decode cX12_fight 48 = .ok (.iload 4, 2) := dk21 4 (BX12_fight_2_0 (48, 21, 4) (List.mem_of_getElem? (i := 2) rfl))
theorem dX12_fight_50 : decode cX12_fight 50 = .ok (.iconst (-1), 1) := dk2 (BX12_fight_1_1 (50, 2) (List.mem_of_getElem? (i := 5) rfl))
theorem dX12_fight_51 : decode cX12_fight 51 = .ok (.iload_n 3, 1) := dk29 (BX12_fight_1_1 (51, 29) (List.mem_of_getElem? (i := 6) rfl))
theorem dX12_fight_52 : decode cX12_fight 52 = .ok (.iconst 1, 1) := dk4 (BX12_fight_1_1 (52, 4) (List.mem_of_getElem? (i := 7) rfl))
theorem dX12_fight_53 : decode cX12_fight 53 = .ok (.invokevirtual 206, 3) := dk182 0 206 (BX12_fight_3_0 (53, 182, 0, 206) (List.mem_of_getElem? (i := 9) rfl))
theorem dX12_fight_56 : decode cX12_fight 56 = .ok (.ifCond .eq 31, 3) := dk153 0 31 (BX12_fight_3_0 (56, 153, 0, 31) (List.mem_of_getElem? (i := 10) rfl))
theorem dX12_fight_59 : decode cX12_fight 59 = .ok (.aload_n 0, 1) := dk42 (BX12_fight_1_1 (59, 42) (List.mem_of_getElem? (i := 8) rfl))
theorem dX12_fight_60 : decode cX12_fight 60 = .ok (.iload 4, 2) := dk21 4 (BX12_fight_2_0 (60, 21, 4) (List.mem_of_getElem? (i := 3) rfl))
theorem dX12_fight_62 : decode cX12_fight 62 = .ok (.aload_n 0, 1) := dk42 (BX12_fight_1_1 (62, 42) (List.mem_of_getElem? (i := 9) rfl))
theorem dX12_fight_63 : decode cX12_fight 63 = .ok (.getfield 46, 3) := dk180 0 46 (BX12_fight_3_0 (63, 180, 0, 46) (List.mem_of_getElem? (i := 11) rfl))
theorem dX12_fight_66 : decode cX12_fight 66 = .ok (.iload_n 3, 1) := dk29 (BX12_fight_1_1 (66, 29) (List.mem_of_getElem? (i := 10) rfl))
theorem dX12_fight_67 : decode cX12_fight 67 = .ok (.iaload, 1) := dk46 (BX12_fight_1_1 (67, 46) (List.mem_of_getElem? (i := 11) rfl))
theorem dX12_fight_68 : decode cX12_fight 68 = .ok (.iconst (-1), 1) := dk2 (BX12_fight_1_2 (68, 2) (List.mem_of_getElem? (i := 0) rfl))
theorem dX12_fight_69 : decode cX12_fight 69 = .ok (.iconst 0, 1) := dk3 (BX12_fight_1_2 (69, 3) (List.mem_of_getElem? (i := 1) rfl))
theorem dX12_fight_70 : decode cX12_fight 70 = .ok (.invokevirtual 206, 3) := dk182 0 206 (BX12_fight_3_1 (70, 182, 0, 206) (List.mem_of_getElem? (i := 0) rfl))
theorem dX12_fight_73 : decode cX12_fight 73 = .ok (.ifCond .eq 14, 3) := dk153 0 14 (BX12_fight_3_1 (73, 153, 0, 14) (List.mem_of_getElem? (i := 1) rfl))
theorem dX12_fight_76 : decode cX12_fight 76 = .ok (.iload_n 2, 1) := dk28 (BX12_fight_1_2 (76, 28) (List.mem_of_getElem? (i := 2) rfl))
theorem dX12_fight_77 : decode cX12_fight 77 = .ok (.ifCond .ne 7, 3) := dk154 0 7 (BX12_fight_3_1 (77, 154, 0, 7) (List.mem_of_getElem? (i := 2) rfl))
theorem dX12_fight_80 : decode cX12_fight 80 = .ok (.iload_n 3, 1) := dk29 (BX12_fight_1_2 (80, 29) (List.mem_of_getElem? (i := 3) rfl))
theorem dX12_fight_81 : decode cX12_fight 81 = .ok (.goto 5, 3) := dk167 0 5 (BX12_fight_3_1 (81, 167, 0, 5) (List.mem_of_getElem? (i := 3) rfl))
theorem dX12_fight_84 : decode cX12_fight 84 = .ok (.iload 4, 2) := dk21 4 (BX12_fight_2_0 (84, 21, 4) (List.mem_of_getElem? (i := 4) rfl))
theorem dX12_fight_86 : decode cX12_fight 86 = .ok (.ireturn, 1) := dk172 (BX12_fight_1_2 (86, 172) (List.mem_of_getElem? (i := 4) rfl))
theorem dX12_fight_87 : decode cX12_fight 87 = .ok (.iinc 4 1, 3) := dk132 4 1 (BX12_fight_3_1 (87, 132, 4, 1) (List.mem_of_getElem? (i := 4) rfl))
theorem dX12_fight_90 : decode cX12_fight 90 = .ok (.goto (-52), 3) := dk167 255 204 (BX12_fight_3_1 (90, 167, 255, 204) (List.mem_of_getElem? (i := 5) rfl))
theorem dX12_fight_93 : decode cX12_fight 93 = .ok (.iinc 3 1, 3) := dk132 3 1 (BX12_fight_3_1 (93, 132, 3, 1) (List.mem_of_getElem? (i := 6) rfl))
theorem dX12_fight_96 : decode cX12_fight 96 = .ok (.goto (-69), 3) := dk167 255 187 (BX12_fight_3_1 (96, 167, 255, 187) (List.mem_of_getElem? (i := 7) rfl))
theorem dX12_fight_99 : decode cX12_fight 99 = .ok (.bipush (-2), 2) := dk16 254 (BX12_fight_2_0 (99, 16, 254) (List.mem_of_getElem? (i := 5) rfl))
theorem dX12_fight_101 : decode cX12_fight 101 = .ok (.ireturn, 1) := dk172 (BX12_fight_1_2 (101, 172) (List.mem_of_getElem? (i := 5) rfl))
set_option maxRecDepth 20000 in
theorem ggX12_cameFirst_X12_has : GoodIn wsX12_cameFirst wsX12_has := gcons (goodIn_g ch_wsX12_cameFirst_flat gd_wsX12_cameFirst _ [(1, 5)] rfl) (goodIn_app (goodIn_g ch_wsX12_cameFirst_flat gd_wsX12_cameFirst _ [(1, 6), (1, 7), (1, 8), (1, 9), (1, 10), (1, 11)] rfl) (gchunk ch_wsX12_cameFirst_flat gd_wsX12_cameFirst 2 rfl))
set_option maxRecDepth 20000 in
theorem gX12_cameFirst_X12_has : GoodIn wsX12_cameFirst (wsV RX12 206 RX12 yX12_has wsX12_has) := goodIn_app (goodIn_g ch_wsX12_cameFirst_flat gd_wsX12_cameFirst _ [(1, 1), (1, 2), (1, 3), (1, 4)] rfl) ggX12_cameFirst_X12_has
set_option maxRecDepth 20000 in
theorem SX12_cameFirst : ∀ p : Nat, gb cX12_cameFirst p = segF [[3, 62, 29, 42, 180, 0, 160, 162, 0, 33, 42, 29, 27, 2, 4, 182, 0, 206, 153, 0, 16, 42, 29, 28, 2, 3, 182, 0, 206, 153, 0, 5, 4, 172, 132, 3, 1, 167, 255, 221, 3, 172]] p := seg_gb (S := [[3, 62, 29, 42, 180, 0, 160, 162, 0, 33, 42, 29, 27, 2, 4, 182, 0, 206, 153, 0, 16, 42, 29, 28, 2, 3, 182, 0, 206, 153, 0, 5, 4, 172, 132, 3, 1, 167, 255, 221, 3, 172]]) (by decide +kernel) (by decide +kernel)
set_option maxRecDepth 20000 in
theorem BX12_cameFirst_1_0 : ∀ q ∈ ([(0, 3), (1, 62), (2, 29), (3, 42), (10, 42), (11, 29), (12, 27), (13, 2), (14, 4), (21, 42), (22, 29), (23, 28)] : List (Nat × Nat)), gb cX12_cameFirst q.1 = some q.2 := seg_1 SX12_cameFirst _ (by decide +kernel)
set_option maxRecDepth 20000 in
theorem BX12_cameFirst_1_1 : ∀ q ∈ ([(24, 2), (25, 3), (32, 4), (33, 172), (40, 3), (41, 172)] : List (Nat × Nat)), gb cX12_cameFirst q.1 = some q.2 := seg_1 SX12_cameFirst _ (by decide +kernel)
set_option maxRecDepth 20000 in
theorem BX12_cameFirst_3_0 : ∀ q ∈ ([(4, 180, 0, 160), (7, 162, 0, 33), (15, 182, 0, 206), (18, 153, 0, 16), (26, 182, 0, 206), (29, 153, 0, 5), (34, 132, 3, 1), (37, 167, 255, 221)] : List (Nat × Nat × Nat × Nat)), gb cX12_cameFirst q.1 = some q.2.1 ∧ gb cX12_cameFirst (q.1 + 1) = some q.2.2.1 ∧ gb cX12_cameFirst (q.1 + 2) = some q.2.2.2 := seg_3 SX12_cameFirst _ (by decide +kernel)
theorem dX12_cameFirst_0 : decode cX12_cameFirst 0 = .ok (.iconst 0, 1) := dk3 (BX12_cameFirst_1_0 (0, 3) (List.mem_of_getElem? (i := 0) rfl))
theorem dX12_cameFirst_1 : decode cX12_cameFirst 1 = .ok (.istore_n 3, 1) := dk62 (BX12_cameFirst_1_0 (1, 62) (List.mem_of_getElem? (i := 1) rfl))
theorem dX12_cameFirst_2 : decode cX12_cameFirst 2 = .ok (.iload_n 3, 1) := dk29 (BX12_cameFirst_1_0 (2, 29) (List.mem_of_getElem? (i := 2) rfl))
theorem dX12_cameFirst_3 : decode cX12_cameFirst 3 = .ok (.aload_n 0, 1) := dk42 (BX12_cameFirst_1_0 (3, 42) (List.mem_of_getElem? (i := 3) rfl))
theorem dX12_cameFirst_4 : decode cX12_cameFirst 4 = .ok (.getfield 160, 3) := dk180 0 160 (BX12_cameFirst_3_0 (4, 180, 0, 160) (List.mem_of_getElem? (i := 0) rfl))
theorem dX12_cameFirst_7 : decode cX12_cameFirst 7 = .ok (.if_icmp .ge 33, 3) := dk162 0 33 (BX12_cameFirst_3_0 (7, 162, 0, 33) (List.mem_of_getElem? (i := 1) rfl))
theorem dX12_cameFirst_10 : decode cX12_cameFirst 10 = .ok (.aload_n 0, 1) := dk42 (BX12_cameFirst_1_0 (10, 42) (List.mem_of_getElem? (i := 4) rfl))
theorem dX12_cameFirst_11 : decode cX12_cameFirst 11 = .ok (.iload_n 3, 1) := dk29 (BX12_cameFirst_1_0 (11, 29) (List.mem_of_getElem? (i := 5) rfl))
theorem dX12_cameFirst_12 : decode cX12_cameFirst 12 = .ok (.iload_n 1, 1) := dk27 (BX12_cameFirst_1_0 (12, 27) (List.mem_of_getElem? (i := 6) rfl))
theorem dX12_cameFirst_13 : decode cX12_cameFirst 13 = .ok (.iconst (-1), 1) := dk2 (BX12_cameFirst_1_0 (13, 2) (List.mem_of_getElem? (i := 7) rfl))
theorem dX12_cameFirst_14 : decode cX12_cameFirst 14 = .ok (.iconst 1, 1) := dk4 (BX12_cameFirst_1_0 (14, 4) (List.mem_of_getElem? (i := 8) rfl))
theorem dX12_cameFirst_15 : decode cX12_cameFirst 15 = .ok (.invokevirtual 206, 3) := dk182 0 206 (BX12_cameFirst_3_0 (15, 182, 0, 206) (List.mem_of_getElem? (i := 2) rfl))
theorem dX12_cameFirst_18 : decode cX12_cameFirst 18 = .ok (.ifCond .eq 16, 3) := dk153 0 16 (BX12_cameFirst_3_0 (18, 153, 0, 16) (List.mem_of_getElem? (i := 3) rfl))
theorem dX12_cameFirst_21 : decode cX12_cameFirst 21 = .ok (.aload_n 0, 1) := dk42 (BX12_cameFirst_1_0 (21, 42) (List.mem_of_getElem? (i := 9) rfl))
theorem dX12_cameFirst_22 : decode cX12_cameFirst 22 = .ok (.iload_n 3, 1) := dk29 (BX12_cameFirst_1_0 (22, 29) (List.mem_of_getElem? (i := 10) rfl))
theorem dX12_cameFirst_23 : decode cX12_cameFirst 23 = .ok (.iload_n 2, 1) := dk28 (BX12_cameFirst_1_0 (23, 28) (List.mem_of_getElem? (i := 11) rfl))
theorem dX12_cameFirst_24 : decode cX12_cameFirst 24 = .ok (.iconst (-1), 1) := dk2 (BX12_cameFirst_1_1 (24, 2) (List.mem_of_getElem? (i := 0) rfl))
theorem dX12_cameFirst_25 : decode cX12_cameFirst 25 = .ok (.iconst 0, 1) := dk3 (BX12_cameFirst_1_1 (25, 3) (List.mem_of_getElem? (i := 1) rfl))
theorem dX12_cameFirst_26 : decode cX12_cameFirst 26 = .ok (.invokevirtual 206, 3) := dk182 0 206 (BX12_cameFirst_3_0 (26, 182, 0, 206) (List.mem_of_getElem? (i := 4) rfl))
theorem dX12_cameFirst_29 : decode cX12_cameFirst 29 = .ok (.ifCond .eq 5, 3) := dk153 0 5 (BX12_cameFirst_3_0 (29, 153, 0, 5) (List.mem_of_getElem? (i := 5) rfl))
theorem dX12_cameFirst_32 : decode cX12_cameFirst 32 = .ok (.iconst 1, 1) := dk4 (BX12_cameFirst_1_1 (32, 4) (List.mem_of_getElem? (i := 2) rfl))
theorem dX12_cameFirst_33 : decode cX12_cameFirst 33 = .ok (.ireturn, 1) := dk172 (BX12_cameFirst_1_1 (33, 172) (List.mem_of_getElem? (i := 3) rfl))
theorem dX12_cameFirst_34 : decode cX12_cameFirst 34 = .ok (.iinc 3 1, 3) := dk132 3 1 (BX12_cameFirst_3_0 (34, 132, 3, 1) (List.mem_of_getElem? (i := 6) rfl))
theorem dX12_cameFirst_37 : decode cX12_cameFirst 37 = .ok (.goto (-35), 3) := dk167 255 221 (BX12_cameFirst_3_0 (37, 167, 255, 221) (List.mem_of_getElem? (i := 7) rfl))
theorem dX12_cameFirst_40 : decode cX12_cameFirst 40 = .ok (.iconst 0, 1) := dk3 (BX12_cameFirst_1_1 (40, 3) (List.mem_of_getElem? (i := 4) rfl))
theorem dX12_cameFirst_41 : decode cX12_cameFirst 41 = .ok (.ireturn, 1) := dk172 (BX12_cameFirst_1_1 (41, 172) (List.mem_of_getElem? (i := 5) rfl))
set_option maxRecDepth 20000 in
theorem ggX12_firstInk_X12_cameFirst : GoodIn wsX12_firstInk wsX12_cameFirst := gcons (goodIn_g ch_wsX12_firstInk_flat gd_wsX12_firstInk _ [(1, 6)] rfl) (goodIn_app (goodIn_g ch_wsX12_firstInk_flat gd_wsX12_firstInk _ [(1, 7), (1, 8), (1, 9), (1, 10), (1, 5), (1, 11), (1, 12), (1, 13), (1, 14), (1, 15), (1, 1), (1, 16)] rfl) (gchunk ch_wsX12_firstInk_flat gd_wsX12_firstInk 2 rfl))
set_option maxRecDepth 20000 in
theorem gX12_firstInk_X12_cameFirst : GoodIn wsX12_firstInk (wsV RX12 210 RX12 yX12_cameFirst wsX12_cameFirst) := goodIn_app (goodIn_g ch_wsX12_firstInk_flat gd_wsX12_firstInk _ [(1, 2), (1, 3), (1, 4), (1, 5)] rfl) ggX12_firstInk_X12_cameFirst
set_option maxRecDepth 20000 in
theorem SX12_firstInk : ∀ p : Nat, gb cX12_firstInk p = segF [[3, 60, 27, 16, 6, 162, 0, 91, 3, 61, 3, 62, 29, 42, 180, 0, 200, 162, 0, 29, 28, 154, 0, 13, 42, 180, 0, 46, 29, 46, 27, 160, 0, 7, 4, 167, 0, 4, 3, 61, 132, 3, 1, 167, 255, 225, 3, 62, 29, 16, 6, 162, 0, 33, 28, 153, 0, 21, 29, 27, 159, 0, 12, 42], [29, 27, 182, 0, 210, 154, 0, 7, 4, 167, 0, 4, 3, 61, 132, 3, 1, 167, 255, 223, 28, 153, 0, 5, 27, 172, 132, 1, 1, 167, 255, 165, 16, 254, 172]] p := seg_gb (S := [[3, 60, 27, 16, 6, 162, 0, 91, 3, 61, 3, 62, 29, 42, 180, 0, 200, 162, 0, 29, 28, 154, 0, 13, 42, 180, 0, 46, 29, 46, 27, 160, 0, 7, 4, 167, 0, 4, 3, 61, 132, 3, 1, 167, 255, 225, 3, 62, 29, 16, 6, 162, 0, 33, 28, 153, 0, 21, 29, 27, 159, 0, 12, 42], [29, 27, 182, 0, 210, 154, 0, 7, 4, 167, 0, 4, 3, 61, 132, 3, 1, 167, 255, 223, 28, 153, 0, 5, 27, 172, 132, 1, 1, 167, 255, 165, 16, 254, 172]]) (by decide +kernel) (by decide +kernel)
set_option maxRecDepth 20000 in
theorem BX12_firstInk_1_0 : ∀ q ∈ ([(0, 3), (1, 60), (2, 27), (8, 3), (9, 61), (10, 3), (11, 62), (12, 29), (13, 42), (20, 28), (24, 42), (28, 29)] : List (Nat × Nat)), gb cX12_firstInk q.1 = some q.2 := seg_1 SX12_firstInk _ (by decide +kernel)
set_option maxRecDepth 20000 in
theorem BX12_firstInk_1_1 : ∀ q ∈ ([(29, 46), (30, 27), (34, 4), (38, 3), (39, 61), (46, 3), (47, 62), (48, 29), (54, 28), (58, 29), (59, 27), (63, 42)] : List (Nat × Nat)), gb cX12_firstInk q.1 = some q.2 := seg_1 SX12_firstInk _ (by decide +kernel)
set_option maxRecDepth 20000 in
theorem BX12_firstInk_1_2 : ∀ q ∈ ([(64, 29), (65, 27), (72, 4), (76, 3), (77, 61), (84, 28), (88, 27), (89, 172), (98, 172)] : List (Nat × Nat)), gb cX12_firstInk q.1 = some q.2 := seg_1 SX12_firstInk _ (by decide +kernel)
set_option maxRecDepth 20000 in
theorem BX12_firstInk_2_0 : ∀ q ∈ ([(3, 16, 6), (49, 16, 6), (96, 16, 254)] : List (Nat × Nat × Nat)), gb cX12_firstInk q.1 = some q.2.1 ∧ gb cX12_firstInk (q.1 + 1) = some q.2.2 := seg_2 SX12_firstInk _ (by decide +kernel)
set_option maxRecDepth 20000 in
theorem BX12_firstInk_3_0 : ∀ q ∈ ([(5, 162, 0, 91), (14, 180, 0, 200), (17, 162, 0, 29), (21, 154, 0, 13), (25, 180, 0, 46), (31, 160, 0, 7), (35, 167, 0, 4), (40, 132, 3, 1), (43, 167, 255, 225), (51, 162, 0, 33), (55, 153, 0, 21), (60, 159, 0, 12)] : List (Nat × Nat × Nat × Nat)), gb cX12_firstInk q.1 = some q.2.1 ∧ gb cX12_firstInk (q.1 + 1) = some q.2.2.1 ∧ gb cX12_firstInk (q.1 + 2) = some q.2.2.2 := seg_3 SX12_firstInk _ (by decide +kernel)
set_option maxRecDepth 20000 in
theorem BX12_firstInk_3_1 : ∀ q ∈ ([(66, 182, 0, 210), (69, 154, 0, 7), (73, 167, 0, 4), (78, 132, 3, 1), (81, 167, 255, 223), (85, 153, 0, 5), (90, 132, 1, 1), (93, 167, 255, 165)] : List (Nat × Nat × Nat × Nat)), gb cX12_firstInk q.1 = some q.2.1 ∧ gb cX12_firstInk (q.1 + 1) = some q.2.2.1 ∧ gb cX12_firstInk (q.1 + 2) = some q.2.2.2 := seg_3 SX12_firstInk _ (by decide +kernel)
theorem dX12_firstInk_0 : decode cX12_firstInk 0 = .ok (.iconst 0, 1) := dk3 (BX12_firstInk_1_0 (0, 3) (List.mem_of_getElem? (i := 0) rfl))
theorem dX12_firstInk_1 : decode cX12_firstInk 1 = .ok (.istore_n 1, 1) := dk60 (BX12_firstInk_1_0 (1, 60) (List.mem_of_getElem? (i := 1) rfl))
theorem dX12_firstInk_2 : decode cX12_firstInk 2 = .ok (.iload_n 1, 1) := dk27 (BX12_firstInk_1_0 (2, 27) (List.mem_of_getElem? (i := 2) rfl))
theorem dX12_firstInk_3 : decode cX12_firstInk 3 = .ok (.bipush 6, 2) := dk16 6 (BX12_firstInk_2_0 (3, 16, 6) (List.mem_of_getElem? (i := 0) rfl))
theorem dX12_firstInk_5 : decode cX12_firstInk 5 = .ok (.if_icmp .ge 91, 3) := dk162 0 91 (BX12_firstInk_3_0 (5, 162, 0, 91) (List.mem_of_getElem? (i := 0) rfl))
theorem dX12_firstInk_8 : decode cX12_firstInk 8 = .ok (.iconst 0, 1) := dk3 (BX12_firstInk_1_0 (8, 3) (List.mem_of_getElem? (i := 3) rfl))
theorem dX12_firstInk_9 : decode cX12_firstInk 9 = .ok (.istore_n 2, 1) := dk61 (BX12_firstInk_1_0 (9, 61) (List.mem_of_getElem? (i := 4) rfl))
theorem dX12_firstInk_10 : decode cX12_firstInk 10 = .ok (.iconst 0, 1) := dk3 (BX12_firstInk_1_0 (10, 3) (List.mem_of_getElem? (i := 5) rfl))
theorem dX12_firstInk_11 : decode cX12_firstInk 11 = .ok (.istore_n 3, 1) := dk62 (BX12_firstInk_1_0 (11, 62) (List.mem_of_getElem? (i := 6) rfl))
theorem dX12_firstInk_12 : decode cX12_firstInk 12 = .ok (.iload_n 3, 1) := dk29 (BX12_firstInk_1_0 (12, 29) (List.mem_of_getElem? (i := 7) rfl))
theorem dX12_firstInk_13 : decode cX12_firstInk 13 = .ok (.aload_n 0, 1) := dk42 (BX12_firstInk_1_0 (13, 42) (List.mem_of_getElem? (i := 8) rfl))
theorem dX12_firstInk_14 : decode cX12_firstInk 14 = .ok (.getfield 200, 3) := dk180 0 200 (BX12_firstInk_3_0 (14, 180, 0, 200) (List.mem_of_getElem? (i := 1) rfl))
theorem dX12_firstInk_17 : decode cX12_firstInk 17 = .ok (.if_icmp .ge 29, 3) := dk162 0 29 (BX12_firstInk_3_0 (17, 162, 0, 29) (List.mem_of_getElem? (i := 2) rfl))
theorem dX12_firstInk_20 : decode cX12_firstInk 20 = .ok (.iload_n 2, 1) := dk28 (BX12_firstInk_1_0 (20, 28) (List.mem_of_getElem? (i := 9) rfl))
theorem dX12_firstInk_21 : decode cX12_firstInk 21 = .ok (.ifCond .ne 13, 3) := dk154 0 13 (BX12_firstInk_3_0 (21, 154, 0, 13) (List.mem_of_getElem? (i := 3) rfl))
theorem dX12_firstInk_24 : decode cX12_firstInk 24 = .ok (.aload_n 0, 1) := dk42 (BX12_firstInk_1_0 (24, 42) (List.mem_of_getElem? (i := 10) rfl))
theorem dX12_firstInk_25 : decode cX12_firstInk 25 = .ok (.getfield 46, 3) := dk180 0 46 (BX12_firstInk_3_0 (25, 180, 0, 46) (List.mem_of_getElem? (i := 4) rfl))
theorem dX12_firstInk_28 : decode cX12_firstInk 28 = .ok (.iload_n 3, 1) := dk29 (BX12_firstInk_1_0 (28, 29) (List.mem_of_getElem? (i := 11) rfl))
theorem dX12_firstInk_29 : decode cX12_firstInk 29 = .ok (.iaload, 1) := dk46 (BX12_firstInk_1_1 (29, 46) (List.mem_of_getElem? (i := 0) rfl))
theorem dX12_firstInk_30 : decode cX12_firstInk 30 = .ok (.iload_n 1, 1) := dk27 (BX12_firstInk_1_1 (30, 27) (List.mem_of_getElem? (i := 1) rfl))
theorem dX12_firstInk_31 : decode cX12_firstInk 31 = .ok (.if_icmp .ne 7, 3) := dk160 0 7 (BX12_firstInk_3_0 (31, 160, 0, 7) (List.mem_of_getElem? (i := 5) rfl))
theorem dX12_firstInk_34 : decode cX12_firstInk 34 = .ok (.iconst 1, 1) := dk4 (BX12_firstInk_1_1 (34, 4) (List.mem_of_getElem? (i := 2) rfl))
theorem dX12_firstInk_35 : decode cX12_firstInk 35 = .ok (.goto 4, 3) := dk167 0 4 (BX12_firstInk_3_0 (35, 167, 0, 4) (List.mem_of_getElem? (i := 6) rfl))
theorem dX12_firstInk_38 : decode cX12_firstInk 38 = .ok (.iconst 0, 1) := dk3 (BX12_firstInk_1_1 (38, 3) (List.mem_of_getElem? (i := 3) rfl))
theorem dX12_firstInk_39 : decode cX12_firstInk 39 = .ok (.istore_n 2, 1) := dk61 (BX12_firstInk_1_1 (39, 61) (List.mem_of_getElem? (i := 4) rfl))
theorem dX12_firstInk_40 : decode cX12_firstInk 40 = .ok (.iinc 3 1, 3) := dk132 3 1 (BX12_firstInk_3_0 (40, 132, 3, 1) (List.mem_of_getElem? (i := 7) rfl))
theorem dX12_firstInk_43 : decode cX12_firstInk 43 = .ok (.goto (-31), 3) := dk167 255 225 (BX12_firstInk_3_0 (43, 167, 255, 225) (List.mem_of_getElem? (i := 8) rfl))
theorem dX12_firstInk_46 : decode cX12_firstInk 46 = .ok (.iconst 0, 1) := dk3 (BX12_firstInk_1_1 (46, 3) (List.mem_of_getElem? (i := 5) rfl))
theorem dX12_firstInk_47 : decode cX12_firstInk 47 = .ok (.istore_n 3, 1) := dk62 (BX12_firstInk_1_1 (47, 62) (List.mem_of_getElem? (i := 6) rfl))
theorem dX12_firstInk_48 : decode cX12_firstInk 48 = .ok (.iload_n 3, 1) := dk29 (BX12_firstInk_1_1 (48, 29) (List.mem_of_getElem? (i := 7) rfl))
theorem dX12_firstInk_49 : decode cX12_firstInk 49 = .ok (.bipush 6, 2) := dk16 6 (BX12_firstInk_2_0 (49, 16, 6) (List.mem_of_getElem? (i := 1) rfl))
theorem dX12_firstInk_51 : decode cX12_firstInk 51 = .ok (.if_icmp .ge 33, 3) := dk162 0 33 (BX12_firstInk_3_0 (51, 162, 0, 33) (List.mem_of_getElem? (i := 9) rfl))
theorem dX12_firstInk_54 : decode cX12_firstInk 54 = .ok (.iload_n 2, 1) := dk28 (BX12_firstInk_1_1 (54, 28) (List.mem_of_getElem? (i := 8) rfl))
theorem dX12_firstInk_55 : decode cX12_firstInk 55 = .ok (.ifCond .eq 21, 3) := dk153 0 21 (BX12_firstInk_3_0 (55, 153, 0, 21) (List.mem_of_getElem? (i := 10) rfl))
theorem dX12_firstInk_58 : decode cX12_firstInk 58 = .ok (.iload_n 3, 1) := dk29 (BX12_firstInk_1_1 (58, 29) (List.mem_of_getElem? (i := 9) rfl))
theorem dX12_firstInk_59 : decode cX12_firstInk 59 = .ok (.iload_n 1, 1) := dk27 (BX12_firstInk_1_1 (59, 27) (List.mem_of_getElem? (i := 10) rfl))
theorem dX12_firstInk_60 : decode cX12_firstInk 60 = .ok (.if_icmp .eq 12, 3) := dk159 0 12 (BX12_firstInk_3_0 (60, 159, 0, 12) (List.mem_of_getElem? (i := 11) rfl))
theorem dX12_firstInk_63 : decode cX12_firstInk 63 = .ok (.aload_n 0, 1) := dk42 (BX12_firstInk_1_1 (63, 42) (List.mem_of_getElem? (i := 11) rfl))
theorem dX12_firstInk_64 : decode cX12_firstInk 64 = .ok (.iload_n 3, 1) := dk29 (BX12_firstInk_1_2 (64, 29) (List.mem_of_getElem? (i := 0) rfl))
theorem dX12_firstInk_65 : decode cX12_firstInk 65 = .ok (.iload_n 1, 1) := dk27 (BX12_firstInk_1_2 (65, 27) (List.mem_of_getElem? (i := 1) rfl))
theorem dX12_firstInk_66 : decode cX12_firstInk 66 = .ok (.invokevirtual 210, 3) := dk182 0 210 (BX12_firstInk_3_1 (66, 182, 0, 210) (List.mem_of_getElem? (i := 0) rfl))
theorem dX12_firstInk_69 : decode cX12_firstInk 69 = .ok (.ifCond .ne 7, 3) := dk154 0 7 (BX12_firstInk_3_1 (69, 154, 0, 7) (List.mem_of_getElem? (i := 1) rfl))
theorem dX12_firstInk_72 : decode cX12_firstInk 72 = .ok (.iconst 1, 1) := dk4 (BX12_firstInk_1_2 (72, 4) (List.mem_of_getElem? (i := 2) rfl))
theorem dX12_firstInk_73 : decode cX12_firstInk 73 = .ok (.goto 4, 3) := dk167 0 4 (BX12_firstInk_3_1 (73, 167, 0, 4) (List.mem_of_getElem? (i := 2) rfl))
theorem dX12_firstInk_76 : decode cX12_firstInk 76 = .ok (.iconst 0, 1) := dk3 (BX12_firstInk_1_2 (76, 3) (List.mem_of_getElem? (i := 3) rfl))
theorem dX12_firstInk_77 : decode cX12_firstInk 77 = .ok (.istore_n 2, 1) := dk61 (BX12_firstInk_1_2 (77, 61) (List.mem_of_getElem? (i := 4) rfl))
theorem dX12_firstInk_78 : decode cX12_firstInk 78 = .ok (.iinc 3 1, 3) := dk132 3 1 (BX12_firstInk_3_1 (78, 132, 3, 1) (List.mem_of_getElem? (i := 3) rfl))
theorem dX12_firstInk_81 : decode cX12_firstInk 81 = .ok (.goto (-33), 3) := dk167 255 223 (BX12_firstInk_3_1 (81, 167, 255, 223) (List.mem_of_getElem? (i := 4) rfl))
theorem dX12_firstInk_84 : decode cX12_firstInk 84 = .ok (.iload_n 2, 1) := dk28 (BX12_firstInk_1_2 (84, 28) (List.mem_of_getElem? (i := 5) rfl))
theorem dX12_firstInk_85 : decode cX12_firstInk 85 = .ok (.ifCond .eq 5, 3) := dk153 0 5 (BX12_firstInk_3_1 (85, 153, 0, 5) (List.mem_of_getElem? (i := 5) rfl))
theorem dX12_firstInk_88 : decode cX12_firstInk 88 = .ok (.iload_n 1, 1) := dk27 (BX12_firstInk_1_2 (88, 27) (List.mem_of_getElem? (i := 6) rfl))
theorem dX12_firstInk_89 : decode cX12_firstInk 89 = .ok (.ireturn, 1) := dk172 (BX12_firstInk_1_2 (89, 172) (List.mem_of_getElem? (i := 7) rfl))
theorem dX12_firstInk_90 : decode cX12_firstInk 90 = .ok (.iinc 1 1, 3) := dk132 1 1 (BX12_firstInk_3_1 (90, 132, 1, 1) (List.mem_of_getElem? (i := 6) rfl))
theorem dX12_firstInk_93 : decode cX12_firstInk 93 = .ok (.goto (-91), 3) := dk167 255 165 (BX12_firstInk_3_1 (93, 167, 255, 165) (List.mem_of_getElem? (i := 7) rfl))
theorem dX12_firstInk_96 : decode cX12_firstInk 96 = .ok (.bipush (-2), 2) := dk16 254 (BX12_firstInk_2_0 (96, 16, 254) (List.mem_of_getElem? (i := 2) rfl))
theorem dX12_firstInk_98 : decode cX12_firstInk 98 = .ok (.ireturn, 1) := dk172 (BX12_firstInk_1_2 (98, 172) (List.mem_of_getElem? (i := 8) rfl))
set_option maxRecDepth 20000 in
theorem ggX12_ringOf_X12_cameFirst : GoodIn wsX12_ringOf wsX12_cameFirst := gcons (goodIn_g ch_wsX12_ringOf_flat gd_wsX12_ringOf _ [(1, 4)] rfl) (goodIn_app (goodIn_g ch_wsX12_ringOf_flat gd_wsX12_ringOf _ [(1, 5), (1, 6), (1, 7), (1, 8), (1, 3), (1, 9), (1, 10), (1, 11), (1, 12), (1, 13), (1, 14), (1, 15)] rfl) (gchunk ch_wsX12_ringOf_flat gd_wsX12_ringOf 2 rfl))
set_option maxRecDepth 20000 in
theorem gX12_ringOf_X12_cameFirst : GoodIn wsX12_ringOf (wsV RX12 210 RX12 yX12_cameFirst wsX12_cameFirst) := goodIn_app (goodIn_g ch_wsX12_ringOf_flat gd_wsX12_ringOf _ [(1, 0), (1, 1), (1, 2), (1, 3)] rfl) ggX12_ringOf_X12_cameFirst
set_option maxRecDepth 20000 in
theorem SX12_ringOf : ∀ p : Nat, gb cX12_ringOf p = segF [[3, 60, 27, 16, 6, 162, 0, 50, 27, 4, 96, 61, 28, 16, 6, 162, 0, 34, 42, 27, 28, 182, 0, 210, 153, 0, 19, 42, 28, 27, 182, 0, 210, 153, 0, 10, 16, 10, 27, 104, 28, 96, 172, 132, 2, 1, 167, 255, 222, 132, 1, 1, 167, 255, 206, 16, 254, 172]] p := seg_gb (S := [[3, 60, 27, 16, 6, 162, 0, 50, 27, 4, 96, 61, 28, 16, 6, 162, 0, 34, 42, 27, 28, 182, 0, 210, 153, 0, 19, 42, 28, 27, 182, 0, 210, 153, 0, 10, 16, 10, 27, 104, 28, 96, 172, 132, 2, 1, 167, 255, 222, 132, 1, 1, 167, 255, 206, 16, 254, 172]]) (by decide +kernel) (by decide +kernel)
set_option maxRecDepth 20000 in
theorem BX12_ringOf_1_0 : ∀ q ∈ ([(0, 3), (1, 60), (2, 27), (8, 27), (9, 4), (10, 96), (11, 61), (12, 28), (18, 42), (19, 27), (20, 28), (27, 42)] : List (Nat × Nat)), gb cX12_ringOf q.1 = some q.2 := seg_1 SX12_ringOf _ (by decide +kernel)
set_option maxRecDepth 20000 in
theorem BX12_ringOf_1_1 : ∀ q ∈ ([(28, 28), (29, 27), (38, 27), (39, 104), (40, 28), (41, 96), (42, 172), (57, 172)] : List (Nat × Nat)), gb cX12_ringOf q.1 = some q.2 := seg_1 SX12_ringOf _ (by decide +kernel)
set_option maxRecDepth 20000 in
theorem BX12_ringOf_2_0 : ∀ q ∈ ([(3, 16, 6), (13, 16, 6), (36, 16, 10), (55, 16, 254)] : List (Nat × Nat × Nat)), gb cX12_ringOf q.1 = some q.2.1 ∧ gb cX12_ringOf (q.1 + 1) = some q.2.2 := seg_2 SX12_ringOf _ (by decide +kernel)
set_option maxRecDepth 20000 in
theorem BX12_ringOf_3_0 : ∀ q ∈ ([(5, 162, 0, 50), (15, 162, 0, 34), (21, 182, 0, 210), (24, 153, 0, 19), (30, 182, 0, 210), (33, 153, 0, 10), (43, 132, 2, 1), (46, 167, 255, 222), (49, 132, 1, 1), (52, 167, 255, 206)] : List (Nat × Nat × Nat × Nat)), gb cX12_ringOf q.1 = some q.2.1 ∧ gb cX12_ringOf (q.1 + 1) = some q.2.2.1 ∧ gb cX12_ringOf (q.1 + 2) = some q.2.2.2 := seg_3 SX12_ringOf _ (by decide +kernel)
theorem dX12_ringOf_0 : decode cX12_ringOf 0 = .ok (.iconst 0, 1) := dk3 (BX12_ringOf_1_0 (0, 3) (List.mem_of_getElem? (i := 0) rfl))
theorem dX12_ringOf_1 : decode cX12_ringOf 1 = .ok (.istore_n 1, 1) := dk60 (BX12_ringOf_1_0 (1, 60) (List.mem_of_getElem? (i := 1) rfl))
theorem dX12_ringOf_2 : decode cX12_ringOf 2 = .ok (.iload_n 1, 1) := dk27 (BX12_ringOf_1_0 (2, 27) (List.mem_of_getElem? (i := 2) rfl))
theorem dX12_ringOf_3 : decode cX12_ringOf 3 = .ok (.bipush 6, 2) := dk16 6 (BX12_ringOf_2_0 (3, 16, 6) (List.mem_of_getElem? (i := 0) rfl))
theorem dX12_ringOf_5 : decode cX12_ringOf 5 = .ok (.if_icmp .ge 50, 3) := dk162 0 50 (BX12_ringOf_3_0 (5, 162, 0, 50) (List.mem_of_getElem? (i := 0) rfl))
theorem dX12_ringOf_8 : decode cX12_ringOf 8 = .ok (.iload_n 1, 1) := dk27 (BX12_ringOf_1_0 (8, 27) (List.mem_of_getElem? (i := 3) rfl))
theorem dX12_ringOf_9 : decode cX12_ringOf 9 = .ok (.iconst 1, 1) := dk4 (BX12_ringOf_1_0 (9, 4) (List.mem_of_getElem? (i := 4) rfl))
theorem dX12_ringOf_10 : decode cX12_ringOf 10 = .ok (.iadd, 1) := dk96 (BX12_ringOf_1_0 (10, 96) (List.mem_of_getElem? (i := 5) rfl))
theorem dX12_ringOf_11 : decode cX12_ringOf 11 = .ok (.istore_n 2, 1) := dk61 (BX12_ringOf_1_0 (11, 61) (List.mem_of_getElem? (i := 6) rfl))
theorem dX12_ringOf_12 : decode cX12_ringOf 12 = .ok (.iload_n 2, 1) := dk28 (BX12_ringOf_1_0 (12, 28) (List.mem_of_getElem? (i := 7) rfl))
theorem dX12_ringOf_13 : decode cX12_ringOf 13 = .ok (.bipush 6, 2) := dk16 6 (BX12_ringOf_2_0 (13, 16, 6) (List.mem_of_getElem? (i := 1) rfl))
theorem dX12_ringOf_15 : decode cX12_ringOf 15 = .ok (.if_icmp .ge 34, 3) := dk162 0 34 (BX12_ringOf_3_0 (15, 162, 0, 34) (List.mem_of_getElem? (i := 1) rfl))
theorem dX12_ringOf_18 : decode cX12_ringOf 18 = .ok (.aload_n 0, 1) := dk42 (BX12_ringOf_1_0 (18, 42) (List.mem_of_getElem? (i := 8) rfl))
theorem dX12_ringOf_19 : decode cX12_ringOf 19 = .ok (.iload_n 1, 1) := dk27 (BX12_ringOf_1_0 (19, 27) (List.mem_of_getElem? (i := 9) rfl))
theorem dX12_ringOf_20 : decode cX12_ringOf 20 = .ok (.iload_n 2, 1) := dk28 (BX12_ringOf_1_0 (20, 28) (List.mem_of_getElem? (i := 10) rfl))
theorem dX12_ringOf_21 : decode cX12_ringOf 21 = .ok (.invokevirtual 210, 3) := dk182 0 210 (BX12_ringOf_3_0 (21, 182, 0, 210) (List.mem_of_getElem? (i := 2) rfl))
theorem dX12_ringOf_24 : decode cX12_ringOf 24 = .ok (.ifCond .eq 19, 3) := dk153 0 19 (BX12_ringOf_3_0 (24, 153, 0, 19) (List.mem_of_getElem? (i := 3) rfl))
theorem dX12_ringOf_27 : decode cX12_ringOf 27 = .ok (.aload_n 0, 1) := dk42 (BX12_ringOf_1_0 (27, 42) (List.mem_of_getElem? (i := 11) rfl))
theorem dX12_ringOf_28 : decode cX12_ringOf 28 = .ok (.iload_n 2, 1) := dk28 (BX12_ringOf_1_1 (28, 28) (List.mem_of_getElem? (i := 0) rfl))
theorem dX12_ringOf_29 : decode cX12_ringOf 29 = .ok (.iload_n 1, 1) := dk27 (BX12_ringOf_1_1 (29, 27) (List.mem_of_getElem? (i := 1) rfl))
theorem dX12_ringOf_30 : decode cX12_ringOf 30 = .ok (.invokevirtual 210, 3) := dk182 0 210 (BX12_ringOf_3_0 (30, 182, 0, 210) (List.mem_of_getElem? (i := 4) rfl))
theorem dX12_ringOf_33 : decode cX12_ringOf 33 = .ok (.ifCond .eq 10, 3) := dk153 0 10 (BX12_ringOf_3_0 (33, 153, 0, 10) (List.mem_of_getElem? (i := 5) rfl))
theorem dX12_ringOf_36 : decode cX12_ringOf 36 = .ok (.bipush 10, 2) := dk16 10 (BX12_ringOf_2_0 (36, 16, 10) (List.mem_of_getElem? (i := 2) rfl))
theorem dX12_ringOf_38 : decode cX12_ringOf 38 = .ok (.iload_n 1, 1) := dk27 (BX12_ringOf_1_1 (38, 27) (List.mem_of_getElem? (i := 2) rfl))
theorem dX12_ringOf_39 : decode cX12_ringOf 39 = .ok (.imul, 1) := dk104 (BX12_ringOf_1_1 (39, 104) (List.mem_of_getElem? (i := 3) rfl))
theorem dX12_ringOf_40 : decode cX12_ringOf 40 = .ok (.iload_n 2, 1) := dk28 (BX12_ringOf_1_1 (40, 28) (List.mem_of_getElem? (i := 4) rfl))
theorem dX12_ringOf_41 : decode cX12_ringOf 41 = .ok (.iadd, 1) := dk96 (BX12_ringOf_1_1 (41, 96) (List.mem_of_getElem? (i := 5) rfl))
theorem dX12_ringOf_42 : decode cX12_ringOf 42 = .ok (.ireturn, 1) := dk172 (BX12_ringOf_1_1 (42, 172) (List.mem_of_getElem? (i := 6) rfl))
theorem dX12_ringOf_43 : decode cX12_ringOf 43 = .ok (.iinc 2 1, 3) := dk132 2 1 (BX12_ringOf_3_0 (43, 132, 2, 1) (List.mem_of_getElem? (i := 6) rfl))
theorem dX12_ringOf_46 : decode cX12_ringOf 46 = .ok (.goto (-34), 3) := dk167 255 222 (BX12_ringOf_3_0 (46, 167, 255, 222) (List.mem_of_getElem? (i := 7) rfl))
theorem dX12_ringOf_49 : decode cX12_ringOf 49 = .ok (.iinc 1 1, 3) := dk132 1 1 (BX12_ringOf_3_0 (49, 132, 1, 1) (List.mem_of_getElem? (i := 8) rfl))
theorem dX12_ringOf_52 : decode cX12_ringOf 52 = .ok (.goto (-50), 3) := dk167 255 206 (BX12_ringOf_3_0 (52, 167, 255, 206) (List.mem_of_getElem? (i := 9) rfl))
theorem dX12_ringOf_55 : decode cX12_ringOf 55 = .ok (.bipush (-2), 2) := dk16 254 (BX12_ringOf_2_0 (55, 16, 254) (List.mem_of_getElem? (i := 3) rfl))
theorem dX12_ringOf_57 : decode cX12_ringOf 57 = .ok (.ireturn, 1) := dk172 (BX12_ringOf_1_1 (57, 172) (List.mem_of_getElem? (i := 7) rfl))
set_option maxRecDepth 20000 in
theorem ggX12_inks_X12_isSlack : GoodIn wsX12_inks wsX12_isSlack := goodIn_g ch_wsX12_inks_flat gd_wsX12_inks _ [(1, 3), (1, 4), (1, 5), (1, 6), (1, 2), (1, 7)] rfl
set_option maxRecDepth 20000 in
theorem gX12_inks_X12_isSlack : GoodIn wsX12_inks (va_wsS RX12 163 yX12_isSlack wsX12_isSlack) := goodIn_app (goodIn_g ch_wsX12_inks_flat gd_wsX12_inks _ [(1, 0), (1, 1), (1, 2)] rfl) ggX12_inks_X12_isSlack
set_option maxRecDepth 20000 in
theorem ggX12_inks_X12_isInk : GoodIn wsX12_inks wsX12_isInk := goodIn_g ch_wsX12_inks_flat gd_wsX12_inks _ [(1, 10), (1, 11), (1, 5), (1, 6), (1, 2), (1, 7)] rfl
set_option maxRecDepth 20000 in
theorem gX12_inks_X12_isInk : GoodIn wsX12_inks (va_wsS RX12 197 yX12_isInk wsX12_isInk) := goodIn_app (goodIn_g ch_wsX12_inks_flat gd_wsX12_inks _ [(1, 8), (1, 9), (1, 2)] rfl) ggX12_inks_X12_isInk
set_option maxRecDepth 20000 in
theorem ggX12_inks_X12_findWorms : GoodIn wsX12_inks wsX12_findWorms := gcons (goodIn_g ch_wsX12_inks_flat gd_wsX12_inks _ [(1, 15)] rfl) (goodIn_app (goodIn_g ch_wsX12_inks_flat gd_wsX12_inks _ [(1, 16), (1, 17), (1, 18), (1, 19), (1, 20), (1, 21), (1, 22)] rfl) (gchunk ch_wsX12_inks_flat gd_wsX12_inks 3 rfl))
set_option maxRecDepth 20000 in
theorem gX12_inks_X12_findWorms : GoodIn wsX12_inks (wsV RX12 166 RX12 yX12_findWorms wsX12_findWorms) := goodIn_app (goodIn_g ch_wsX12_inks_flat gd_wsX12_inks _ [(1, 12), (1, 13), (1, 14), (1, 2)] rfl) ggX12_inks_X12_findWorms
set_option maxRecDepth 20000 in
theorem ggX12_inks_X12_firstInk : GoodIn wsX12_inks wsX12_firstInk := gcons (goodIn_g ch_wsX12_inks_flat gd_wsX12_inks _ [(2, 2)] rfl) (goodIn_app (goodIn_g ch_wsX12_inks_flat gd_wsX12_inks _ [(2, 3), (2, 4), (2, 5), (2, 6), (2, 7), (1, 2), (2, 8), (1, 21), (2, 9), (2, 10), (2, 11), (2, 12), (2, 13), (1, 17), (2, 14), (2, 15), (2, 16)] rfl) (gchunk ch_wsX12_inks_flat gd_wsX12_inks 3 rfl))
set_option maxRecDepth 20000 in
theorem gX12_inks_X12_firstInk : GoodIn wsX12_inks (wsV RX12 214 RX12 yX12_firstInk wsX12_firstInk) := goodIn_app (goodIn_g ch_wsX12_inks_flat gd_wsX12_inks _ [(1, 23), (2, 0), (2, 1), (1, 2)] rfl) ggX12_inks_X12_firstInk
set_option maxRecDepth 20000 in
theorem ggX12_inks_X12_ringOf : GoodIn wsX12_inks wsX12_ringOf := gcons (goodIn_g ch_wsX12_inks_flat gd_wsX12_inks _ [(2, 20)] rfl) (goodIn_app (goodIn_g ch_wsX12_inks_flat gd_wsX12_inks _ [(2, 5), (2, 6), (2, 7), (1, 2), (2, 8), (1, 21), (2, 9), (2, 10), (2, 11), (2, 12), (2, 13), (1, 17), (2, 14), (2, 15), (2, 4), (2, 16)] rfl) (gchunk ch_wsX12_inks_flat gd_wsX12_inks 3 rfl))
set_option maxRecDepth 20000 in
theorem gX12_inks_X12_ringOf : GoodIn wsX12_inks (wsV RX12 218 RX12 yX12_ringOf wsX12_ringOf) := goodIn_app (goodIn_g ch_wsX12_inks_flat gd_wsX12_inks _ [(2, 17), (2, 18), (2, 19), (1, 2)] rfl) ggX12_inks_X12_ringOf
set_option maxRecDepth 20000 in
theorem ggX12_inks_X12_cameFirst : GoodIn wsX12_inks wsX12_cameFirst := gcons (goodIn_g ch_wsX12_inks_flat gd_wsX12_inks _ [(2, 8)] rfl) (goodIn_app (goodIn_g ch_wsX12_inks_flat gd_wsX12_inks _ [(1, 21), (2, 9), (2, 10), (2, 11), (1, 2), (2, 12), (2, 13), (1, 17), (2, 14), (2, 15), (2, 4), (2, 16)] rfl) (gchunk ch_wsX12_inks_flat gd_wsX12_inks 3 rfl))
set_option maxRecDepth 20000 in
theorem gX12_inks_X12_cameFirst : GoodIn wsX12_inks (wsV RX12 210 RX12 yX12_cameFirst wsX12_cameFirst) := goodIn_app (goodIn_g ch_wsX12_inks_flat gd_wsX12_inks _ [(2, 5), (2, 6), (2, 7), (1, 2)] rfl) ggX12_inks_X12_cameFirst
set_option maxRecDepth 20000 in
theorem SX12_inks : ∀ p : Nat, gb cX12_inks p = segF [[27, 184, 0, 163, 153, 0, 44, 28, 16, 254, 161, 0, 38, 28, 155, 0, 36, 28, 16, 10, 108, 184, 0, 197, 153, 0, 24, 28, 16, 10, 112, 184, 0, 197, 153, 0, 14, 28, 16, 10, 108, 28, 16, 10, 112, 160, 0, 5, 2, 172, 42, 27, 2, 182, 0, 166, 28, 156, 0, 20, 28, 2, 160, 0], [10, 42, 182, 0, 214, 167, 0, 7, 42, 182, 0, 218, 172, 42, 28, 16, 10, 108, 28, 16, 10, 112, 182, 0, 210, 153, 0, 7, 4, 167, 0, 4, 3, 172]] p := seg_gb (S := [[27, 184, 0, 163, 153, 0, 44, 28, 16, 254, 161, 0, 38, 28, 155, 0, 36, 28, 16, 10, 108, 184, 0, 197, 153, 0, 24, 28, 16, 10, 112, 184, 0, 197, 153, 0, 14, 28, 16, 10, 108, 28, 16, 10, 112, 160, 0, 5, 2, 172, 42, 27, 2, 182, 0, 166, 28, 156, 0, 20, 28, 2, 160, 0], [10, 42, 182, 0, 214, 167, 0, 7, 42, 182, 0, 218, 172, 42, 28, 16, 10, 108, 28, 16, 10, 112, 182, 0, 210, 153, 0, 7, 4, 167, 0, 4, 3, 172]]) (by decide +kernel) (by decide +kernel)
set_option maxRecDepth 20000 in
theorem BX12_inks_1_0 : ∀ q ∈ ([(0, 27), (7, 28), (13, 28), (17, 28), (20, 108), (27, 28), (30, 112), (37, 28), (40, 108), (41, 28), (44, 112), (48, 2)] : List (Nat × Nat)), gb cX12_inks q.1 = some q.2 := seg_1 SX12_inks _ (by decide +kernel)
set_option maxRecDepth 20000 in
theorem BX12_inks_1_1 : ∀ q ∈ ([(49, 172), (50, 42), (51, 27), (52, 2), (56, 28), (60, 28), (61, 2), (65, 42), (72, 42), (76, 172), (77, 42), (78, 28)] : List (Nat × Nat)), gb cX12_inks q.1 = some q.2 := seg_1 SX12_inks _ (by decide +kernel)
set_option maxRecDepth 20000 in
theorem BX12_inks_1_2 : ∀ q ∈ ([(81, 108), (82, 28), (85, 112), (92, 4), (96, 3), (97, 172)] : List (Nat × Nat)), gb cX12_inks q.1 = some q.2 := seg_1 SX12_inks _ (by decide +kernel)
set_option maxRecDepth 20000 in
theorem BX12_inks_2_0 : ∀ q ∈ ([(8, 16, 254), (18, 16, 10), (28, 16, 10), (38, 16, 10), (42, 16, 10), (79, 16, 10), (83, 16, 10)] : List (Nat × Nat × Nat)), gb cX12_inks q.1 = some q.2.1 ∧ gb cX12_inks (q.1 + 1) = some q.2.2 := seg_2 SX12_inks _ (by decide +kernel)
set_option maxRecDepth 20000 in
theorem BX12_inks_3_0 : ∀ q ∈ ([(1, 184, 0, 163), (4, 153, 0, 44), (10, 161, 0, 38), (14, 155, 0, 36), (21, 184, 0, 197), (24, 153, 0, 24), (31, 184, 0, 197), (34, 153, 0, 14), (45, 160, 0, 5), (53, 182, 0, 166), (57, 156, 0, 20), (62, 160, 0, 10)] : List (Nat × Nat × Nat × Nat)), gb cX12_inks q.1 = some q.2.1 ∧ gb cX12_inks (q.1 + 1) = some q.2.2.1 ∧ gb cX12_inks (q.1 + 2) = some q.2.2.2 := seg_3 SX12_inks _ (by decide +kernel)
set_option maxRecDepth 20000 in
theorem BX12_inks_3_1 : ∀ q ∈ ([(66, 182, 0, 214), (69, 167, 0, 7), (73, 182, 0, 218), (86, 182, 0, 210), (89, 153, 0, 7), (93, 167, 0, 4)] : List (Nat × Nat × Nat × Nat)), gb cX12_inks q.1 = some q.2.1 ∧ gb cX12_inks (q.1 + 1) = some q.2.2.1 ∧ gb cX12_inks (q.1 + 2) = some q.2.2.2 := seg_3 SX12_inks _ (by decide +kernel)
theorem dX12_inks_0 : decode cX12_inks 0 = .ok (.iload_n 1, 1) := dk27 (BX12_inks_1_0 (0, 27) (List.mem_of_getElem? (i := 0) rfl))
theorem dX12_inks_1 : decode cX12_inks 1 = .ok (.invokestatic 163, 3) := dk184 0 163 (BX12_inks_3_0 (1, 184, 0, 163) (List.mem_of_getElem? (i := 0) rfl))
theorem dX12_inks_4 : decode cX12_inks 4 = .ok (.ifCond .eq 44, 3) := dk153 0 44 (BX12_inks_3_0 (4, 153, 0, 44) (List.mem_of_getElem? (i := 1) rfl))
theorem dX12_inks_7 : decode cX12_inks 7 = .ok (.iload_n 2, 1) := dk28 (BX12_inks_1_0 (7, 28) (List.mem_of_getElem? (i := 1) rfl))
theorem dX12_inks_8 : decode cX12_inks 8 = .ok (.bipush (-2), 2) := dk16 254 (BX12_inks_2_0 (8, 16, 254) (List.mem_of_getElem? (i := 0) rfl))
theorem dX12_inks_10 : decode cX12_inks 10 = .ok (.if_icmp .lt 38, 3) := dk161 0 38 (BX12_inks_3_0 (10, 161, 0, 38) (List.mem_of_getElem? (i := 2) rfl))
theorem dX12_inks_13 : decode cX12_inks 13 = .ok (.iload_n 2, 1) := dk28 (BX12_inks_1_0 (13, 28) (List.mem_of_getElem? (i := 2) rfl))
theorem dX12_inks_14 : decode cX12_inks 14 = .ok (.ifCond .lt 36, 3) := dk155 0 36 (BX12_inks_3_0 (14, 155, 0, 36) (List.mem_of_getElem? (i := 3) rfl))
theorem dX12_inks_17 : decode cX12_inks 17 = .ok (.iload_n 2, 1) := dk28 (BX12_inks_1_0 (17, 28) (List.mem_of_getElem? (i := 3) rfl))
theorem dX12_inks_18 : decode cX12_inks 18 = .ok (.bipush 10, 2) := dk16 10 (BX12_inks_2_0 (18, 16, 10) (List.mem_of_getElem? (i := 1) rfl))
theorem dX12_inks_20 : decode cX12_inks 20 = .ok (.idiv, 1) := dk108 (BX12_inks_1_0 (20, 108) (List.mem_of_getElem? (i := 4) rfl))
theorem dX12_inks_21 : decode cX12_inks 21 = .ok (.invokestatic 197, 3) := dk184 0 197 (BX12_inks_3_0 (21, 184, 0, 197) (List.mem_of_getElem? (i := 4) rfl))
theorem dX12_inks_24 : decode cX12_inks 24 = .ok (.ifCond .eq 24, 3) := dk153 0 24 (BX12_inks_3_0 (24, 153, 0, 24) (List.mem_of_getElem? (i := 5) rfl))
theorem dX12_inks_27 : decode cX12_inks 27 = .ok (.iload_n 2, 1) := dk28 (BX12_inks_1_0 (27, 28) (List.mem_of_getElem? (i := 5) rfl))
theorem dX12_inks_28 : decode cX12_inks 28 = .ok (.bipush 10, 2) := dk16 10 (BX12_inks_2_0 (28, 16, 10) (List.mem_of_getElem? (i := 2) rfl))
theorem dX12_inks_30 : decode cX12_inks 30 = .ok (.irem, 1) := dk112 (BX12_inks_1_0 (30, 112) (List.mem_of_getElem? (i := 6) rfl))
theorem dX12_inks_31 : decode cX12_inks 31 = .ok (.invokestatic 197, 3) := dk184 0 197 (BX12_inks_3_0 (31, 184, 0, 197) (List.mem_of_getElem? (i := 6) rfl))
theorem dX12_inks_34 : decode cX12_inks 34 = .ok (.ifCond .eq 14, 3) := dk153 0 14 (BX12_inks_3_0 (34, 153, 0, 14) (List.mem_of_getElem? (i := 7) rfl))
theorem dX12_inks_37 : decode cX12_inks 37 = .ok (.iload_n 2, 1) := dk28 (BX12_inks_1_0 (37, 28) (List.mem_of_getElem? (i := 7) rfl))
theorem dX12_inks_38 : decode cX12_inks 38 = .ok (.bipush 10, 2) := dk16 10 (BX12_inks_2_0 (38, 16, 10) (List.mem_of_getElem? (i := 3) rfl))
theorem dX12_inks_40 : decode cX12_inks 40 = .ok (.idiv, 1) := dk108 (BX12_inks_1_0 (40, 108) (List.mem_of_getElem? (i := 8) rfl))
theorem dX12_inks_41 : decode cX12_inks 41 = .ok (.iload_n 2, 1) := dk28 (BX12_inks_1_0 (41, 28) (List.mem_of_getElem? (i := 9) rfl))
theorem dX12_inks_42 : decode cX12_inks 42 = .ok (.bipush 10, 2) := dk16 10 (BX12_inks_2_0 (42, 16, 10) (List.mem_of_getElem? (i := 4) rfl))
theorem dX12_inks_44 : decode cX12_inks 44 = .ok (.irem, 1) := dk112 (BX12_inks_1_0 (44, 112) (List.mem_of_getElem? (i := 10) rfl))
theorem dX12_inks_45 : decode cX12_inks 45 = .ok (.if_icmp .ne 5, 3) := dk160 0 5 (BX12_inks_3_0 (45, 160, 0, 5) (List.mem_of_getElem? (i := 8) rfl))
theorem dX12_inks_48 : decode cX12_inks 48 = .ok (.iconst (-1), 1) := dk2 (BX12_inks_1_0 (48, 2) (List.mem_of_getElem? (i := 11) rfl))
theorem dX12_inks_49 : decode cX12_inks 49 = .ok (.ireturn, 1) := dk172 (BX12_inks_1_1 (49, 172) (List.mem_of_getElem? (i := 0) rfl))
theorem dX12_inks_50 : decode cX12_inks 50 = .ok (.aload_n 0, 1) := dk42 (BX12_inks_1_1 (50, 42) (List.mem_of_getElem? (i := 1) rfl))
theorem dX12_inks_51 : decode cX12_inks 51 = .ok (.iload_n 1, 1) := dk27 (BX12_inks_1_1 (51, 27) (List.mem_of_getElem? (i := 2) rfl))
theorem dX12_inks_52 : decode cX12_inks 52 = .ok (.iconst (-1), 1) := dk2 (BX12_inks_1_1 (52, 2) (List.mem_of_getElem? (i := 3) rfl))
theorem dX12_inks_53 : decode cX12_inks 53 = .ok (.invokevirtual 166, 3) := dk182 0 166 (BX12_inks_3_0 (53, 182, 0, 166) (List.mem_of_getElem? (i := 9) rfl))
theorem dX12_inks_56 : decode cX12_inks 56 = .ok (.iload_n 2, 1) := dk28 (BX12_inks_1_1 (56, 28) (List.mem_of_getElem? (i := 4) rfl))
theorem dX12_inks_57 : decode cX12_inks 57 = .ok (.ifCond .ge 20, 3) := dk156 0 20 (BX12_inks_3_0 (57, 156, 0, 20) (List.mem_of_getElem? (i := 10) rfl))
theorem dX12_inks_60 : decode cX12_inks 60 = .ok (.iload_n 2, 1) := dk28 (BX12_inks_1_1 (60, 28) (List.mem_of_getElem? (i := 5) rfl))
theorem dX12_inks_61 : decode cX12_inks 61 = .ok (.iconst (-1), 1) := dk2 (BX12_inks_1_1 (61, 2) (List.mem_of_getElem? (i := 6) rfl))
theorem dX12_inks_62 : decode cX12_inks 62 = .ok (.if_icmp .ne 10, 3) := dk160 0 10 (BX12_inks_3_0 (62, 160, 0, 10) (List.mem_of_getElem? (i := 11) rfl))
theorem dX12_inks_65 : decode cX12_inks 65 = .ok (.aload_n 0, 1) := dk42 (BX12_inks_1_1 (65, 42) (List.mem_of_getElem? (i := 7) rfl))
theorem dX12_inks_66 : decode cX12_inks 66 = .ok (.invokevirtual 214, 3) := dk182 0 214 (BX12_inks_3_1 (66, 182, 0, 214) (List.mem_of_getElem? (i := 0) rfl))
theorem dX12_inks_69 : decode cX12_inks 69 = .ok (.goto 7, 3) := dk167 0 7 (BX12_inks_3_1 (69, 167, 0, 7) (List.mem_of_getElem? (i := 1) rfl))
theorem dX12_inks_72 : decode cX12_inks 72 = .ok (.aload_n 0, 1) := dk42 (BX12_inks_1_1 (72, 42) (List.mem_of_getElem? (i := 8) rfl))
theorem dX12_inks_73 : decode cX12_inks 73 = .ok (.invokevirtual 218, 3) := dk182 0 218 (BX12_inks_3_1 (73, 182, 0, 218) (List.mem_of_getElem? (i := 2) rfl))
theorem dX12_inks_76 : decode cX12_inks 76 = .ok (.ireturn, 1) := dk172 (BX12_inks_1_1 (76, 172) (List.mem_of_getElem? (i := 9) rfl))
theorem dX12_inks_77 : decode cX12_inks 77 = .ok (.aload_n 0, 1) := dk42 (BX12_inks_1_1 (77, 42) (List.mem_of_getElem? (i := 10) rfl))
theorem dX12_inks_78 : decode cX12_inks 78 = .ok (.iload_n 2, 1) := dk28 (BX12_inks_1_1 (78, 28) (List.mem_of_getElem? (i := 11) rfl))
theorem dX12_inks_79 : decode cX12_inks 79 = .ok (.bipush 10, 2) := dk16 10 (BX12_inks_2_0 (79, 16, 10) (List.mem_of_getElem? (i := 5) rfl))
theorem dX12_inks_81 : decode cX12_inks 81 = .ok (.idiv, 1) := dk108 (BX12_inks_1_2 (81, 108) (List.mem_of_getElem? (i := 0) rfl))
theorem dX12_inks_82 : decode cX12_inks 82 = .ok (.iload_n 2, 1) := dk28 (BX12_inks_1_2 (82, 28) (List.mem_of_getElem? (i := 1) rfl))
theorem dX12_inks_83 : decode cX12_inks 83 = .ok (.bipush 10, 2) := dk16 10 (BX12_inks_2_0 (83, 16, 10) (List.mem_of_getElem? (i := 6) rfl))
theorem dX12_inks_85 : decode cX12_inks 85 = .ok (.irem, 1) := dk112 (BX12_inks_1_2 (85, 112) (List.mem_of_getElem? (i := 2) rfl))
theorem dX12_inks_86 : decode cX12_inks 86 = .ok (.invokevirtual 210, 3) := dk182 0 210 (BX12_inks_3_1 (86, 182, 0, 210) (List.mem_of_getElem? (i := 3) rfl))
theorem dX12_inks_89 : decode cX12_inks 89 = .ok (.ifCond .eq 7, 3) := dk153 0 7 (BX12_inks_3_1 (89, 153, 0, 7) (List.mem_of_getElem? (i := 4) rfl))
theorem dX12_inks_92 : decode cX12_inks 92 = .ok (.iconst 1, 1) := dk4 (BX12_inks_1_2 (92, 4) (List.mem_of_getElem? (i := 3) rfl))
theorem dX12_inks_93 : decode cX12_inks 93 = .ok (.goto 4, 3) := dk167 0 4 (BX12_inks_3_1 (93, 167, 0, 4) (List.mem_of_getElem? (i := 5) rfl))
theorem dX12_inks_96 : decode cX12_inks 96 = .ok (.iconst 0, 1) := dk3 (BX12_inks_1_2 (96, 3) (List.mem_of_getElem? (i := 4) rfl))
theorem dX12_inks_97 : decode cX12_inks 97 = .ok (.ireturn, 1) := dk172 (BX12_inks_1_2 (97, 172) (List.mem_of_getElem? (i := 5) rfl))
set_option maxRecDepth 20000 in
theorem ggX12_isDot_X12_within : GoodIn wsX12_isDot wsX12_within := goodIn_r _ [7] rfl (by decide +kernel)
set_option maxRecDepth 20000 in
theorem gX12_isDot_X12_within : GoodIn wsX12_isDot (va_wsS RX12 136 yX12_within wsX12_within) := goodIn_app (goodIn_r _ [4, 5, 6] rfl (by decide +kernel)) ggX12_isDot_X12_within
set_option maxRecDepth 20000 in
theorem SX12_isDot : ∀ p : Nat, gb cX12_isDot p = segF [[26, 133, 9, 20, 0, 221, 184, 0, 136, 153, 0, 31, 27, 133, 9, 20, 0, 223, 184, 0, 136, 153, 0, 19, 28, 133, 9, 20, 0, 225, 184, 0, 136, 153, 0, 7, 4, 167, 0, 4, 3, 172]] p := seg_gb (S := [[26, 133, 9, 20, 0, 221, 184, 0, 136, 153, 0, 31, 27, 133, 9, 20, 0, 223, 184, 0, 136, 153, 0, 19, 28, 133, 9, 20, 0, 225, 184, 0, 136, 153, 0, 7, 4, 167, 0, 4, 3, 172]]) (by decide +kernel) (by decide +kernel)
set_option maxRecDepth 20000 in
theorem BX12_isDot_1_0 : ∀ q ∈ ([(0, 26), (1, 133), (2, 9), (12, 27), (13, 133), (14, 9), (24, 28), (25, 133), (26, 9), (36, 4), (40, 3), (41, 172)] : List (Nat × Nat)), gb cX12_isDot q.1 = some q.2 := seg_1 SX12_isDot _ (by decide +kernel)
set_option maxRecDepth 20000 in
theorem BX12_isDot_3_0 : ∀ q ∈ ([(3, 20, 0, 221), (6, 184, 0, 136), (9, 153, 0, 31), (15, 20, 0, 223), (18, 184, 0, 136), (21, 153, 0, 19), (27, 20, 0, 225), (30, 184, 0, 136), (33, 153, 0, 7), (37, 167, 0, 4)] : List (Nat × Nat × Nat × Nat)), gb cX12_isDot q.1 = some q.2.1 ∧ gb cX12_isDot (q.1 + 1) = some q.2.2.1 ∧ gb cX12_isDot (q.1 + 2) = some q.2.2.2 := seg_3 SX12_isDot _ (by decide +kernel)
theorem dX12_isDot_0 : decode cX12_isDot 0 = .ok (.iload_n 0, 1) := dk26 (BX12_isDot_1_0 (0, 26) (List.mem_of_getElem? (i := 0) rfl))
theorem dX12_isDot_1 : decode cX12_isDot 1 = .ok (.i2l, 1) := dk133 (BX12_isDot_1_0 (1, 133) (List.mem_of_getElem? (i := 1) rfl))
theorem dX12_isDot_2 : decode cX12_isDot 2 = .ok (.lconst 0, 1) := dk9 (BX12_isDot_1_0 (2, 9) (List.mem_of_getElem? (i := 2) rfl))
theorem dX12_isDot_3 : decode cX12_isDot 3 = .ok (.ldc2_w 221, 3) := dk20 0 221 (BX12_isDot_3_0 (3, 20, 0, 221) (List.mem_of_getElem? (i := 0) rfl))
theorem dX12_isDot_6 : decode cX12_isDot 6 = .ok (.invokestatic 136, 3) := dk184 0 136 (BX12_isDot_3_0 (6, 184, 0, 136) (List.mem_of_getElem? (i := 1) rfl))
theorem dX12_isDot_9 : decode cX12_isDot 9 = .ok (.ifCond .eq 31, 3) := dk153 0 31 (BX12_isDot_3_0 (9, 153, 0, 31) (List.mem_of_getElem? (i := 2) rfl))
theorem dX12_isDot_12 : decode cX12_isDot 12 = .ok (.iload_n 1, 1) := dk27 (BX12_isDot_1_0 (12, 27) (List.mem_of_getElem? (i := 3) rfl))
theorem dX12_isDot_13 : decode cX12_isDot 13 = .ok (.i2l, 1) := dk133 (BX12_isDot_1_0 (13, 133) (List.mem_of_getElem? (i := 4) rfl))
theorem dX12_isDot_14 : decode cX12_isDot 14 = .ok (.lconst 0, 1) := dk9 (BX12_isDot_1_0 (14, 9) (List.mem_of_getElem? (i := 5) rfl))
theorem dX12_isDot_15 : decode cX12_isDot 15 = .ok (.ldc2_w 223, 3) := dk20 0 223 (BX12_isDot_3_0 (15, 20, 0, 223) (List.mem_of_getElem? (i := 3) rfl))
theorem dX12_isDot_18 : decode cX12_isDot 18 = .ok (.invokestatic 136, 3) := dk184 0 136 (BX12_isDot_3_0 (18, 184, 0, 136) (List.mem_of_getElem? (i := 4) rfl))
theorem dX12_isDot_21 : decode cX12_isDot 21 = .ok (.ifCond .eq 19, 3) := dk153 0 19 (BX12_isDot_3_0 (21, 153, 0, 19) (List.mem_of_getElem? (i := 5) rfl))
theorem dX12_isDot_24 : decode cX12_isDot 24 = .ok (.iload_n 2, 1) := dk28 (BX12_isDot_1_0 (24, 28) (List.mem_of_getElem? (i := 6) rfl))
theorem dX12_isDot_25 : decode cX12_isDot 25 = .ok (.i2l, 1) := dk133 (BX12_isDot_1_0 (25, 133) (List.mem_of_getElem? (i := 7) rfl))
theorem dX12_isDot_26 : decode cX12_isDot 26 = .ok (.lconst 0, 1) := dk9 (BX12_isDot_1_0 (26, 9) (List.mem_of_getElem? (i := 8) rfl))
theorem dX12_isDot_27 : decode cX12_isDot 27 = .ok (.ldc2_w 225, 3) := dk20 0 225 (BX12_isDot_3_0 (27, 20, 0, 225) (List.mem_of_getElem? (i := 6) rfl))
theorem dX12_isDot_30 : decode cX12_isDot 30 = .ok (.invokestatic 136, 3) := dk184 0 136 (BX12_isDot_3_0 (30, 184, 0, 136) (List.mem_of_getElem? (i := 7) rfl))
theorem dX12_isDot_33 : decode cX12_isDot 33 = .ok (.ifCond .eq 7, 3) := dk153 0 7 (BX12_isDot_3_0 (33, 153, 0, 7) (List.mem_of_getElem? (i := 8) rfl))
theorem dX12_isDot_36 : decode cX12_isDot 36 = .ok (.iconst 1, 1) := dk4 (BX12_isDot_1_0 (36, 4) (List.mem_of_getElem? (i := 9) rfl))
theorem dX12_isDot_37 : decode cX12_isDot 37 = .ok (.goto 4, 3) := dk167 0 4 (BX12_isDot_3_0 (37, 167, 0, 4) (List.mem_of_getElem? (i := 9) rfl))
theorem dX12_isDot_40 : decode cX12_isDot 40 = .ok (.iconst 0, 1) := dk3 (BX12_isDot_1_0 (40, 3) (List.mem_of_getElem? (i := 10) rfl))
theorem dX12_isDot_41 : decode cX12_isDot 41 = .ok (.ireturn, 1) := dk172 (BX12_isDot_1_0 (41, 172) (List.mem_of_getElem? (i := 11) rfl))
set_option maxRecDepth 20000 in
theorem SX12_adds : ∀ p : Nat, gb cX12_adds p = segF [[42, 180, 0, 59, 42, 180, 0, 227, 27, 79, 42, 180, 0, 62, 42, 180, 0, 227, 28, 79, 42, 180, 0, 9, 42, 180, 0, 227, 29, 79, 42, 89, 180, 0, 227, 4, 96, 181, 0, 227, 177]] p := seg_gb (S := [[42, 180, 0, 59, 42, 180, 0, 227, 27, 79, 42, 180, 0, 62, 42, 180, 0, 227, 28, 79, 42, 180, 0, 9, 42, 180, 0, 227, 29, 79, 42, 89, 180, 0, 227, 4, 96, 181, 0, 227, 177]]) (by decide +kernel) (by decide +kernel)
set_option maxRecDepth 20000 in
theorem BX12_adds_1_0 : ∀ q ∈ ([(0, 42), (4, 42), (8, 27), (9, 79), (10, 42), (14, 42), (18, 28), (19, 79), (20, 42), (24, 42), (28, 29), (29, 79)] : List (Nat × Nat)), gb cX12_adds q.1 = some q.2 := seg_1 SX12_adds _ (by decide +kernel)
set_option maxRecDepth 20000 in
theorem BX12_adds_1_1 : ∀ q ∈ ([(30, 42), (31, 89), (35, 4), (36, 96), (40, 177)] : List (Nat × Nat)), gb cX12_adds q.1 = some q.2 := seg_1 SX12_adds _ (by decide +kernel)
set_option maxRecDepth 20000 in
theorem BX12_adds_3_0 : ∀ q ∈ ([(1, 180, 0, 59), (5, 180, 0, 227), (11, 180, 0, 62), (15, 180, 0, 227), (21, 180, 0, 9), (25, 180, 0, 227), (32, 180, 0, 227), (37, 181, 0, 227)] : List (Nat × Nat × Nat × Nat)), gb cX12_adds q.1 = some q.2.1 ∧ gb cX12_adds (q.1 + 1) = some q.2.2.1 ∧ gb cX12_adds (q.1 + 2) = some q.2.2.2 := seg_3 SX12_adds _ (by decide +kernel)
theorem dX12_adds_0 : decode cX12_adds 0 = .ok (.aload_n 0, 1) := dk42 (BX12_adds_1_0 (0, 42) (List.mem_of_getElem? (i := 0) rfl))
theorem dX12_adds_1 : decode cX12_adds 1 = .ok (.getfield 59, 3) := dk180 0 59 (BX12_adds_3_0 (1, 180, 0, 59) (List.mem_of_getElem? (i := 0) rfl))
theorem dX12_adds_4 : decode cX12_adds 4 = .ok (.aload_n 0, 1) := dk42 (BX12_adds_1_0 (4, 42) (List.mem_of_getElem? (i := 1) rfl))
theorem dX12_adds_5 : decode cX12_adds 5 = .ok (.getfield 227, 3) := dk180 0 227 (BX12_adds_3_0 (5, 180, 0, 227) (List.mem_of_getElem? (i := 1) rfl))
theorem dX12_adds_8 : decode cX12_adds 8 = .ok (.iload_n 1, 1) := dk27 (BX12_adds_1_0 (8, 27) (List.mem_of_getElem? (i := 2) rfl))
theorem dX12_adds_9 : decode cX12_adds 9 = .ok (.iastore, 1) := dk79 (BX12_adds_1_0 (9, 79) (List.mem_of_getElem? (i := 3) rfl))
theorem dX12_adds_10 : decode cX12_adds 10 = .ok (.aload_n 0, 1) := dk42 (BX12_adds_1_0 (10, 42) (List.mem_of_getElem? (i := 4) rfl))
theorem dX12_adds_11 : decode cX12_adds 11 = .ok (.getfield 62, 3) := dk180 0 62 (BX12_adds_3_0 (11, 180, 0, 62) (List.mem_of_getElem? (i := 2) rfl))
theorem dX12_adds_14 : decode cX12_adds 14 = .ok (.aload_n 0, 1) := dk42 (BX12_adds_1_0 (14, 42) (List.mem_of_getElem? (i := 5) rfl))
theorem dX12_adds_15 : decode cX12_adds 15 = .ok (.getfield 227, 3) := dk180 0 227 (BX12_adds_3_0 (15, 180, 0, 227) (List.mem_of_getElem? (i := 3) rfl))
theorem dX12_adds_18 : decode cX12_adds 18 = .ok (.iload_n 2, 1) := dk28 (BX12_adds_1_0 (18, 28) (List.mem_of_getElem? (i := 6) rfl))
theorem dX12_adds_19 : decode cX12_adds 19 = .ok (.iastore, 1) := dk79 (BX12_adds_1_0 (19, 79) (List.mem_of_getElem? (i := 7) rfl))
theorem dX12_adds_20 : decode cX12_adds 20 = .ok (.aload_n 0, 1) := dk42 (BX12_adds_1_0 (20, 42) (List.mem_of_getElem? (i := 8) rfl))
theorem dX12_adds_21 : decode cX12_adds 21 = .ok (.getfield 9, 3) := dk180 0 9 (BX12_adds_3_0 (21, 180, 0, 9) (List.mem_of_getElem? (i := 4) rfl))
theorem dX12_adds_24 : decode cX12_adds 24 = .ok (.aload_n 0, 1) := dk42 (BX12_adds_1_0 (24, 42) (List.mem_of_getElem? (i := 9) rfl))
theorem dX12_adds_25 : decode cX12_adds 25 = .ok (.getfield 227, 3) := dk180 0 227 (BX12_adds_3_0 (25, 180, 0, 227) (List.mem_of_getElem? (i := 5) rfl))
theorem dX12_adds_28 : decode cX12_adds 28 = .ok (.iload_n 3, 1) := dk29 (BX12_adds_1_0 (28, 29) (List.mem_of_getElem? (i := 10) rfl))
theorem dX12_adds_29 : decode cX12_adds 29 = .ok (.iastore, 1) := dk79 (BX12_adds_1_0 (29, 79) (List.mem_of_getElem? (i := 11) rfl))
theorem dX12_adds_30 : decode cX12_adds 30 = .ok (.aload_n 0, 1) := dk42 (BX12_adds_1_1 (30, 42) (List.mem_of_getElem? (i := 0) rfl))
theorem dX12_adds_31 : decode cX12_adds 31 = .ok (.dup, 1) := dk89 (BX12_adds_1_1 (31, 89) (List.mem_of_getElem? (i := 1) rfl))
theorem dX12_adds_32 : decode cX12_adds 32 = .ok (.getfield 227, 3) := dk180 0 227 (BX12_adds_3_0 (32, 180, 0, 227) (List.mem_of_getElem? (i := 6) rfl))
theorem dX12_adds_35 : decode cX12_adds 35 = .ok (.iconst 1, 1) := dk4 (BX12_adds_1_1 (35, 4) (List.mem_of_getElem? (i := 2) rfl))
theorem dX12_adds_36 : decode cX12_adds 36 = .ok (.iadd, 1) := dk96 (BX12_adds_1_1 (36, 96) (List.mem_of_getElem? (i := 3) rfl))
theorem dX12_adds_37 : decode cX12_adds 37 = .ok (.putfield 227, 3) := dk181 0 227 (BX12_adds_3_0 (37, 181, 0, 227) (List.mem_of_getElem? (i := 7) rfl))
theorem dX12_adds_40 : decode cX12_adds 40 = .ok (.return_, 1) := dk177 (BX12_adds_1_1 (40, 177) (List.mem_of_getElem? (i := 4) rfl))
set_option maxRecDepth 20000 in
theorem ggX12_dot_X12_isDot : GoodIn wsX12_dot wsX12_isDot := goodIn_g ch_wsX12_dot_flat gd_wsX12_dot _ [(1, 4), (1, 5), (1, 6), (1, 7), (1, 8), (1, 9), (1, 3), (1, 10)] rfl
set_option maxRecDepth 20000 in
theorem gX12_dot_X12_isDot : GoodIn wsX12_dot (va_wsS RX12 230 yX12_isDot wsX12_isDot) := goodIn_app (goodIn_g ch_wsX12_dot_flat gd_wsX12_dot _ [(1, 1), (1, 2), (1, 3)] rfl) ggX12_dot_X12_isDot
set_option maxRecDepth 20000 in
theorem ggX12_dot_X12_adds : GoodIn wsX12_dot wsX12_adds := gcons (goodIn_g ch_wsX12_dot_flat gd_wsX12_dot _ [(1, 14)] rfl) (goodIn_app (goodIn_g ch_wsX12_dot_flat gd_wsX12_dot _ [(1, 15), (1, 0), (1, 16), (1, 17)] rfl) (gchunk ch_wsX12_dot_flat gd_wsX12_dot 2 rfl))
set_option maxRecDepth 20000 in
theorem gX12_dot_X12_adds : GoodIn wsX12_dot (wsV RX12 234 RX12 yX12_adds wsX12_adds) := goodIn_app (goodIn_g ch_wsX12_dot_flat gd_wsX12_dot _ [(1, 11), (1, 12), (1, 13), (1, 3)] rfl) ggX12_dot_X12_adds
set_option maxRecDepth 20000 in
theorem SX12_dot : ∀ p : Nat, gb cX12_dot p = segF [[27, 155, 0, 18, 27, 16, 10, 108, 27, 16, 10, 112, 28, 184, 0, 230, 154, 0, 5, 2, 172, 42, 180, 0, 227, 16, 40, 160, 0, 6, 16, 253, 172, 42, 27, 16, 10, 108, 27, 16, 10, 112, 28, 182, 0, 234, 42, 180, 0, 227, 4, 100, 172]] p := seg_gb (S := [[27, 155, 0, 18, 27, 16, 10, 108, 27, 16, 10, 112, 28, 184, 0, 230, 154, 0, 5, 2, 172, 42, 180, 0, 227, 16, 40, 160, 0, 6, 16, 253, 172, 42, 27, 16, 10, 108, 27, 16, 10, 112, 28, 182, 0, 234, 42, 180, 0, 227, 4, 100, 172]]) (by decide +kernel) (by decide +kernel)
set_option maxRecDepth 20000 in
theorem BX12_dot_1_0 : ∀ q ∈ ([(0, 27), (4, 27), (7, 108), (8, 27), (11, 112), (12, 28), (19, 2), (20, 172), (21, 42), (32, 172), (33, 42), (34, 27)] : List (Nat × Nat)), gb cX12_dot q.1 = some q.2 := seg_1 SX12_dot _ (by decide +kernel)
set_option maxRecDepth 20000 in
theorem BX12_dot_1_1 : ∀ q ∈ ([(37, 108), (38, 27), (41, 112), (42, 28), (46, 42), (50, 4), (51, 100), (52, 172)] : List (Nat × Nat)), gb cX12_dot q.1 = some q.2 := seg_1 SX12_dot _ (by decide +kernel)
set_option maxRecDepth 20000 in
theorem BX12_dot_2_0 : ∀ q ∈ ([(5, 16, 10), (9, 16, 10), (25, 16, 40), (30, 16, 253), (35, 16, 10), (39, 16, 10)] : List (Nat × Nat × Nat)), gb cX12_dot q.1 = some q.2.1 ∧ gb cX12_dot (q.1 + 1) = some q.2.2 := seg_2 SX12_dot _ (by decide +kernel)
set_option maxRecDepth 20000 in
theorem BX12_dot_3_0 : ∀ q ∈ ([(1, 155, 0, 18), (13, 184, 0, 230), (16, 154, 0, 5), (22, 180, 0, 227), (27, 160, 0, 6), (43, 182, 0, 234), (47, 180, 0, 227)] : List (Nat × Nat × Nat × Nat)), gb cX12_dot q.1 = some q.2.1 ∧ gb cX12_dot (q.1 + 1) = some q.2.2.1 ∧ gb cX12_dot (q.1 + 2) = some q.2.2.2 := seg_3 SX12_dot _ (by decide +kernel)
theorem dX12_dot_0 : decode cX12_dot 0 = .ok (.iload_n 1, 1) := dk27 (BX12_dot_1_0 (0, 27) (List.mem_of_getElem? (i := 0) rfl))
theorem dX12_dot_1 : decode cX12_dot 1 = .ok (.ifCond .lt 18, 3) := dk155 0 18 (BX12_dot_3_0 (1, 155, 0, 18) (List.mem_of_getElem? (i := 0) rfl))
theorem dX12_dot_4 : decode cX12_dot 4 = .ok (.iload_n 1, 1) := dk27 (BX12_dot_1_0 (4, 27) (List.mem_of_getElem? (i := 1) rfl))
theorem dX12_dot_5 : decode cX12_dot 5 = .ok (.bipush 10, 2) := dk16 10 (BX12_dot_2_0 (5, 16, 10) (List.mem_of_getElem? (i := 0) rfl))
theorem dX12_dot_7 : decode cX12_dot 7 = .ok (.idiv, 1) := dk108 (BX12_dot_1_0 (7, 108) (List.mem_of_getElem? (i := 2) rfl))
theorem dX12_dot_8 : decode cX12_dot 8 = .ok (.iload_n 1, 1) := dk27 (BX12_dot_1_0 (8, 27) (List.mem_of_getElem? (i := 3) rfl))
theorem dX12_dot_9 : decode cX12_dot 9 = .ok (.bipush 10, 2) := dk16 10 (BX12_dot_2_0 (9, 16, 10) (List.mem_of_getElem? (i := 1) rfl))
theorem dX12_dot_11 : decode cX12_dot 11 = .ok (.irem, 1) := dk112 (BX12_dot_1_0 (11, 112) (List.mem_of_getElem? (i := 4) rfl))
theorem dX12_dot_12 : decode cX12_dot 12 = .ok (.iload_n 2, 1) := dk28 (BX12_dot_1_0 (12, 28) (List.mem_of_getElem? (i := 5) rfl))
theorem dX12_dot_13 : decode cX12_dot 13 = .ok (.invokestatic 230, 3) := dk184 0 230 (BX12_dot_3_0 (13, 184, 0, 230) (List.mem_of_getElem? (i := 1) rfl))
theorem dX12_dot_16 : decode cX12_dot 16 = .ok (.ifCond .ne 5, 3) := dk154 0 5 (BX12_dot_3_0 (16, 154, 0, 5) (List.mem_of_getElem? (i := 2) rfl))
theorem dX12_dot_19 : decode cX12_dot 19 = .ok (.iconst (-1), 1) := dk2 (BX12_dot_1_0 (19, 2) (List.mem_of_getElem? (i := 6) rfl))
theorem dX12_dot_20 : decode cX12_dot 20 = .ok (.ireturn, 1) := dk172 (BX12_dot_1_0 (20, 172) (List.mem_of_getElem? (i := 7) rfl))
theorem dX12_dot_21 : decode cX12_dot 21 = .ok (.aload_n 0, 1) := dk42 (BX12_dot_1_0 (21, 42) (List.mem_of_getElem? (i := 8) rfl))
theorem dX12_dot_22 : decode cX12_dot 22 = .ok (.getfield 227, 3) := dk180 0 227 (BX12_dot_3_0 (22, 180, 0, 227) (List.mem_of_getElem? (i := 3) rfl))
theorem dX12_dot_25 : decode cX12_dot 25 = .ok (.bipush 40, 2) := dk16 40 (BX12_dot_2_0 (25, 16, 40) (List.mem_of_getElem? (i := 2) rfl))
theorem dX12_dot_27 : decode cX12_dot 27 = .ok (.if_icmp .ne 6, 3) := dk160 0 6 (BX12_dot_3_0 (27, 160, 0, 6) (List.mem_of_getElem? (i := 4) rfl))
theorem dX12_dot_30 : decode cX12_dot 30 = .ok (.bipush (-3), 2) := dk16 253 (BX12_dot_2_0 (30, 16, 253) (List.mem_of_getElem? (i := 3) rfl))
theorem dX12_dot_32 : decode cX12_dot 32 = .ok (.ireturn, 1) := dk172 (BX12_dot_1_0 (32, 172) (List.mem_of_getElem? (i := 9) rfl))
theorem dX12_dot_33 : decode cX12_dot 33 = .ok (.aload_n 0, 1) := dk42 (BX12_dot_1_0 (33, 42) (List.mem_of_getElem? (i := 10) rfl))
theorem dX12_dot_34 : decode cX12_dot 34 = .ok (.iload_n 1, 1) := dk27 (BX12_dot_1_0 (34, 27) (List.mem_of_getElem? (i := 11) rfl))
theorem dX12_dot_35 : decode cX12_dot 35 = .ok (.bipush 10, 2) := dk16 10 (BX12_dot_2_0 (35, 16, 10) (List.mem_of_getElem? (i := 4) rfl))
theorem dX12_dot_37 : decode cX12_dot 37 = .ok (.idiv, 1) := dk108 (BX12_dot_1_1 (37, 108) (List.mem_of_getElem? (i := 0) rfl))
theorem dX12_dot_38 : decode cX12_dot 38 = .ok (.iload_n 1, 1) := dk27 (BX12_dot_1_1 (38, 27) (List.mem_of_getElem? (i := 1) rfl))
theorem dX12_dot_39 : decode cX12_dot 39 = .ok (.bipush 10, 2) := dk16 10 (BX12_dot_2_0 (39, 16, 10) (List.mem_of_getElem? (i := 5) rfl))
theorem dX12_dot_41 : decode cX12_dot 41 = .ok (.irem, 1) := dk112 (BX12_dot_1_1 (41, 112) (List.mem_of_getElem? (i := 2) rfl))
theorem dX12_dot_42 : decode cX12_dot 42 = .ok (.iload_n 2, 1) := dk28 (BX12_dot_1_1 (42, 28) (List.mem_of_getElem? (i := 3) rfl))
theorem dX12_dot_43 : decode cX12_dot 43 = .ok (.invokevirtual 234, 3) := dk182 0 234 (BX12_dot_3_0 (43, 182, 0, 234) (List.mem_of_getElem? (i := 5) rfl))
theorem dX12_dot_46 : decode cX12_dot 46 = .ok (.aload_n 0, 1) := dk42 (BX12_dot_1_1 (46, 42) (List.mem_of_getElem? (i := 4) rfl))
theorem dX12_dot_47 : decode cX12_dot 47 = .ok (.getfield 227, 3) := dk180 0 227 (BX12_dot_3_0 (47, 180, 0, 227) (List.mem_of_getElem? (i := 6) rfl))
theorem dX12_dot_50 : decode cX12_dot 50 = .ok (.iconst 1, 1) := dk4 (BX12_dot_1_1 (50, 4) (List.mem_of_getElem? (i := 5) rfl))
theorem dX12_dot_51 : decode cX12_dot 51 = .ok (.isub, 1) := dk100 (BX12_dot_1_1 (51, 100) (List.mem_of_getElem? (i := 6) rfl))
theorem dX12_dot_52 : decode cX12_dot 52 = .ok (.ireturn, 1) := dk172 (BX12_dot_1_1 (52, 172) (List.mem_of_getElem? (i := 7) rfl))
set_option maxRecDepth 20000 in
theorem ggX12_mend_X12_within : GoodIn wsX12_mend wsX12_within := goodIn_g ch_wsX12_mend_flat gd_wsX12_mend _ [(1, 5)] rfl
set_option maxRecDepth 20000 in
theorem gX12_mend_X12_within : GoodIn wsX12_mend (va_wsS RX12 136 yX12_within wsX12_within) := goodIn_app (goodIn_g ch_wsX12_mend_flat gd_wsX12_mend _ [(1, 2), (1, 3), (1, 4)] rfl) ggX12_mend_X12_within
set_option maxRecDepth 20000 in
theorem ggX12_mend_X12_becomes : GoodIn wsX12_mend wsX12_becomes := gcons (goodIn_g ch_wsX12_mend_flat gd_wsX12_mend _ [(1, 9)] rfl) (goodIn_app (goodIn_g ch_wsX12_mend_flat gd_wsX12_mend _ [(1, 10), (1, 11), (1, 12), (1, 13), (1, 14), (1, 15)] rfl) (gchunk ch_wsX12_mend_flat gd_wsX12_mend 2 rfl))
set_option maxRecDepth 20000 in
theorem gX12_mend_X12_becomes : GoodIn wsX12_mend (wsV RX12 154 RX12 yX12_becomes wsX12_becomes) := goodIn_app (goodIn_g ch_wsX12_mend_flat gd_wsX12_mend _ [(1, 6), (1, 7), (1, 8), (1, 4)] rfl) ggX12_mend_X12_becomes
set_option maxRecDepth 20000 in
theorem SX12_mend : ∀ p : Nat, gb cX12_mend p = segF [[27, 133, 9, 42, 180, 0, 227, 4, 100, 133, 184, 0, 136, 153, 0, 24, 28, 133, 9, 20, 0, 225, 184, 0, 136, 153, 0, 12, 42, 27, 28, 182, 0, 154, 167, 0, 4, 2, 172]] p := seg_gb (S := [[27, 133, 9, 42, 180, 0, 227, 4, 100, 133, 184, 0, 136, 153, 0, 24, 28, 133, 9, 20, 0, 225, 184, 0, 136, 153, 0, 12, 42, 27, 28, 182, 0, 154, 167, 0, 4, 2, 172]]) (by decide +kernel) (by decide +kernel)
set_option maxRecDepth 20000 in
theorem BX12_mend_1_0 : ∀ q ∈ ([(0, 27), (1, 133), (2, 9), (3, 42), (7, 4), (8, 100), (9, 133), (16, 28), (17, 133), (18, 9), (28, 42), (29, 27)] : List (Nat × Nat)), gb cX12_mend q.1 = some q.2 := seg_1 SX12_mend _ (by decide +kernel)
set_option maxRecDepth 20000 in
theorem BX12_mend_1_1 : ∀ q ∈ ([(30, 28), (37, 2), (38, 172)] : List (Nat × Nat)), gb cX12_mend q.1 = some q.2 := seg_1 SX12_mend _ (by decide +kernel)
set_option maxRecDepth 20000 in
theorem BX12_mend_3_0 : ∀ q ∈ ([(4, 180, 0, 227), (10, 184, 0, 136), (13, 153, 0, 24), (19, 20, 0, 225), (22, 184, 0, 136), (25, 153, 0, 12), (31, 182, 0, 154), (34, 167, 0, 4)] : List (Nat × Nat × Nat × Nat)), gb cX12_mend q.1 = some q.2.1 ∧ gb cX12_mend (q.1 + 1) = some q.2.2.1 ∧ gb cX12_mend (q.1 + 2) = some q.2.2.2 := seg_3 SX12_mend _ (by decide +kernel)
theorem dX12_mend_0 : decode cX12_mend 0 = .ok (.iload_n 1, 1) := dk27 (BX12_mend_1_0 (0, 27) (List.mem_of_getElem? (i := 0) rfl))
theorem dX12_mend_1 : decode cX12_mend 1 = .ok (.i2l, 1) := dk133 (BX12_mend_1_0 (1, 133) (List.mem_of_getElem? (i := 1) rfl))
theorem dX12_mend_2 : decode cX12_mend 2 = .ok (.lconst 0, 1) := dk9 (BX12_mend_1_0 (2, 9) (List.mem_of_getElem? (i := 2) rfl))
theorem dX12_mend_3 : decode cX12_mend 3 = .ok (.aload_n 0, 1) := dk42 (BX12_mend_1_0 (3, 42) (List.mem_of_getElem? (i := 3) rfl))
theorem dX12_mend_4 : decode cX12_mend 4 = .ok (.getfield 227, 3) := dk180 0 227 (BX12_mend_3_0 (4, 180, 0, 227) (List.mem_of_getElem? (i := 0) rfl))
theorem dX12_mend_7 : decode cX12_mend 7 = .ok (.iconst 1, 1) := dk4 (BX12_mend_1_0 (7, 4) (List.mem_of_getElem? (i := 4) rfl))
theorem dX12_mend_8 : decode cX12_mend 8 = .ok (.isub, 1) := dk100 (BX12_mend_1_0 (8, 100) (List.mem_of_getElem? (i := 5) rfl))
theorem dX12_mend_9 : decode cX12_mend 9 = .ok (.i2l, 1) := dk133 (BX12_mend_1_0 (9, 133) (List.mem_of_getElem? (i := 6) rfl))
theorem dX12_mend_10 : decode cX12_mend 10 = .ok (.invokestatic 136, 3) := dk184 0 136 (BX12_mend_3_0 (10, 184, 0, 136) (List.mem_of_getElem? (i := 1) rfl))
theorem dX12_mend_13 : decode cX12_mend 13 = .ok (.ifCond .eq 24, 3) := dk153 0 24 (BX12_mend_3_0 (13, 153, 0, 24) (List.mem_of_getElem? (i := 2) rfl))
theorem dX12_mend_16 : decode cX12_mend 16 = .ok (.iload_n 2, 1) := dk28 (BX12_mend_1_0 (16, 28) (List.mem_of_getElem? (i := 7) rfl))
theorem dX12_mend_17 : decode cX12_mend 17 = .ok (.i2l, 1) := dk133 (BX12_mend_1_0 (17, 133) (List.mem_of_getElem? (i := 8) rfl))
theorem dX12_mend_18 : decode cX12_mend 18 = .ok (.lconst 0, 1) := dk9 (BX12_mend_1_0 (18, 9) (List.mem_of_getElem? (i := 9) rfl))
theorem dX12_mend_19 : decode cX12_mend 19 = .ok (.ldc2_w 225, 3) := dk20 0 225 (BX12_mend_3_0 (19, 20, 0, 225) (List.mem_of_getElem? (i := 3) rfl))
theorem dX12_mend_22 : decode cX12_mend 22 = .ok (.invokestatic 136, 3) := dk184 0 136 (BX12_mend_3_0 (22, 184, 0, 136) (List.mem_of_getElem? (i := 4) rfl))
theorem dX12_mend_25 : decode cX12_mend 25 = .ok (.ifCond .eq 12, 3) := dk153 0 12 (BX12_mend_3_0 (25, 153, 0, 12) (List.mem_of_getElem? (i := 5) rfl))
theorem dX12_mend_28 : decode cX12_mend 28 = .ok (.aload_n 0, 1) := dk42 (BX12_mend_1_0 (28, 42) (List.mem_of_getElem? (i := 10) rfl))
theorem dX12_mend_29 : decode cX12_mend 29 = .ok (.iload_n 1, 1) := dk27 (BX12_mend_1_0 (29, 27) (List.mem_of_getElem? (i := 11) rfl))
theorem dX12_mend_30 : decode cX12_mend 30 = .ok (.iload_n 2, 1) := dk28 (BX12_mend_1_1 (30, 28) (List.mem_of_getElem? (i := 0) rfl))
theorem dX12_mend_31 : decode cX12_mend 31 = .ok (.invokevirtual 154, 3) := dk182 0 154 (BX12_mend_3_0 (31, 182, 0, 154) (List.mem_of_getElem? (i := 6) rfl))
theorem dX12_mend_34 : decode cX12_mend 34 = .ok (.goto 4, 3) := dk167 0 4 (BX12_mend_3_0 (34, 167, 0, 4) (List.mem_of_getElem? (i := 7) rfl))
theorem dX12_mend_37 : decode cX12_mend 37 = .ok (.iconst (-1), 1) := dk2 (BX12_mend_1_1 (37, 2) (List.mem_of_getElem? (i := 1) rfl))
theorem dX12_mend_38 : decode cX12_mend 38 = .ok (.ireturn, 1) := dk172 (BX12_mend_1_1 (38, 172) (List.mem_of_getElem? (i := 2) rfl))
set_option maxRecDepth 20000 in
theorem ggX12_dots_X12_isShelf : GoodIn wsX12_dots wsX12_isShelf := goodIn_g ch_wsX12_dots_flat gd_wsX12_dots _ [(1, 8), (1, 9), (1, 10), (1, 11), (1, 7), (1, 12)] rfl
set_option maxRecDepth 20000 in
theorem gX12_dots_X12_isShelf : GoodIn wsX12_dots (va_wsS RX12 238 yX12_isShelf wsX12_isShelf) := goodIn_app (goodIn_g ch_wsX12_dots_flat gd_wsX12_dots _ [(1, 5), (1, 6), (1, 7)] rfl) ggX12_dots_X12_isShelf
set_option maxRecDepth 20000 in
theorem ggX12_dots_X12_within : GoodIn wsX12_dots wsX12_within := goodIn_g ch_wsX12_dots_flat gd_wsX12_dots _ [(1, 12)] rfl
set_option maxRecDepth 20000 in
theorem gX12_dots_X12_within : GoodIn wsX12_dots (va_wsS RX12 136 yX12_within wsX12_within) := goodIn_app (goodIn_g ch_wsX12_dots_flat gd_wsX12_dots _ [(1, 10), (1, 11), (1, 7)] rfl) ggX12_dots_X12_within
set_option maxRecDepth 20000 in
theorem ggX12_dots_X12_isDot : GoodIn wsX12_dots wsX12_isDot := goodIn_g ch_wsX12_dots_flat gd_wsX12_dots _ [(1, 15), (1, 16), (1, 17), (1, 18), (1, 10), (1, 11), (1, 7), (1, 12)] rfl
set_option maxRecDepth 20000 in
theorem gX12_dots_X12_isDot : GoodIn wsX12_dots (va_wsS RX12 230 yX12_isDot wsX12_isDot) := goodIn_app (goodIn_g ch_wsX12_dots_flat gd_wsX12_dots _ [(1, 13), (1, 14), (1, 7)] rfl) ggX12_dots_X12_isDot
set_option maxRecDepth 20000 in
theorem ggX12_dots_X12_adds : GoodIn wsX12_dots wsX12_adds := gcons (goodIn_g ch_wsX12_dots_flat gd_wsX12_dots _ [(1, 22)] rfl) (goodIn_app (goodIn_g ch_wsX12_dots_flat gd_wsX12_dots _ [(1, 23), (1, 3), (2, 0), (2, 1)] rfl) (gchunk ch_wsX12_dots_flat gd_wsX12_dots 3 rfl))
set_option maxRecDepth 20000 in
theorem gX12_dots_X12_adds : GoodIn wsX12_dots (wsV RX12 234 RX12 yX12_adds wsX12_adds) := goodIn_app (goodIn_g ch_wsX12_dots_flat gd_wsX12_dots _ [(1, 19), (1, 20), (1, 21), (1, 7)] rfl) ggX12_dots_X12_adds
set_option maxRecDepth 20000 in
theorem SX12_dots : ∀ p : Nat, gb cX12_dots p = segF [[27, 184, 0, 238, 153, 0, 15, 29, 133, 10, 20, 0, 241, 184, 0, 136, 154, 0, 5, 2, 172, 42, 180, 0, 107, 27, 46, 155, 0, 17, 42, 180, 0, 107, 27, 46, 16, 51, 159, 0, 6, 16, 244, 172, 3, 54, 4, 42, 180, 0, 107, 27, 46, 16, 51, 160, 0, 11, 28, 155, 0, 7, 4, 167], [0, 4, 3, 54, 5, 21, 5, 153, 0, 144, 21, 4, 29, 162, 0, 138, 28, 42, 180, 0, 110, 27, 46, 6, 100, 6, 21, 4, 104, 100, 163, 0, 16, 42, 180, 0, 227, 16, 40, 162, 0, 7, 4, 167, 0, 4, 3, 54, 5, 16, 60, 27, 104, 28, 96, 6, 21, 4, 104, 96, 54, 6, 21, 5], [153, 0, 41, 42, 180, 0, 113, 21, 6, 47, 136, 42, 180, 0, 113, 21, 6, 4, 96, 47, 136, 42, 180, 0, 113, 21, 6, 5, 96, 47, 136, 184, 0, 230, 153, 0, 7, 4, 167, 0, 4, 3, 54, 5, 21, 5, 153, 0, 38, 42, 42, 180, 0, 113, 21, 6, 47, 136, 42, 180, 0, 113, 21, 6], [4, 96, 47, 136, 42, 180, 0, 113, 21, 6, 5, 96, 47, 136, 182, 0, 234, 132, 4, 1, 167, 255, 113, 21, 4, 172]] p := seg_gb (S := [[27, 184, 0, 238, 153, 0, 15, 29, 133, 10, 20, 0, 241, 184, 0, 136, 154, 0, 5, 2, 172, 42, 180, 0, 107, 27, 46, 155, 0, 17, 42, 180, 0, 107, 27, 46, 16, 51, 159, 0, 6, 16, 244, 172, 3, 54, 4, 42, 180, 0, 107, 27, 46, 16, 51, 160, 0, 11, 28, 155, 0, 7, 4, 167], [0, 4, 3, 54, 5, 21, 5, 153, 0, 144, 21, 4, 29, 162, 0, 138, 28, 42, 180, 0, 110, 27, 46, 6, 100, 6, 21, 4, 104, 100, 163, 0, 16, 42, 180, 0, 227, 16, 40, 162, 0, 7, 4, 167, 0, 4, 3, 54, 5, 16, 60, 27, 104, 28, 96, 6, 21, 4, 104, 96, 54, 6, 21, 5], [153, 0, 41, 42, 180, 0, 113, 21, 6, 47, 136, 42, 180, 0, 113, 21, 6, 4, 96, 47, 136, 42, 180, 0, 113, 21, 6, 5, 96, 47, 136, 184, 0, 230, 153, 0, 7, 4, 167, 0, 4, 3, 54, 5, 21, 5, 153, 0, 38, 42, 42, 180, 0, 113, 21, 6, 47, 136, 42, 180, 0, 113, 21, 6], [4, 96, 47, 136, 42, 180, 0, 113, 21, 6, 5, 96, 47, 136, 182, 0, 234, 132, 4, 1, 167, 255, 113, 21, 4, 172]]) (by decide +kernel) (by decide +kernel)
set_option maxRecDepth 20000 in
theorem BX12_dots_1_0 : ∀ q ∈ ([(0, 27), (7, 29), (8, 133), (9, 10), (19, 2), (20, 172), (21, 42), (25, 27), (26, 46), (30, 42), (34, 27), (35, 46)] : List (Nat × Nat)), gb cX12_dots q.1 = some q.2 := seg_1 SX12_dots _ (by decide +kernel)
set_option maxRecDepth 20000 in
theorem BX12_dots_1_1 : ∀ q ∈ ([(43, 172), (44, 3), (47, 42), (51, 27), (52, 46), (58, 28), (62, 4), (66, 3), (76, 29), (80, 28), (81, 42), (85, 27)] : List (Nat × Nat)), gb cX12_dots q.1 = some q.2 := seg_1 SX12_dots _ (by decide +kernel)
set_option maxRecDepth 20000 in
theorem BX12_dots_1_2 : ∀ q ∈ ([(86, 46), (87, 6), (88, 100), (89, 6), (92, 104), (93, 100), (97, 42), (106, 4), (110, 3), (115, 27), (116, 104), (117, 28)] : List (Nat × Nat)), gb cX12_dots q.1 = some q.2 := seg_1 SX12_dots _ (by decide +kernel)
set_option maxRecDepth 20000 in
theorem BX12_dots_1_3 : ∀ q ∈ ([(118, 96), (119, 6), (122, 104), (123, 96), (131, 42), (137, 47), (138, 136), (139, 42), (145, 4), (146, 96), (147, 47), (148, 136)] : List (Nat × Nat)), gb cX12_dots q.1 = some q.2 := seg_1 SX12_dots _ (by decide +kernel)
set_option maxRecDepth 20000 in
theorem BX12_dots_1_4 : ∀ q ∈ ([(149, 42), (155, 5), (156, 96), (157, 47), (158, 136), (165, 4), (169, 3), (177, 42), (178, 42), (184, 47), (185, 136), (186, 42)] : List (Nat × Nat)), gb cX12_dots q.1 = some q.2 := seg_1 SX12_dots _ (by decide +kernel)
set_option maxRecDepth 20000 in
theorem BX12_dots_1_5 : ∀ q ∈ ([(192, 4), (193, 96), (194, 47), (195, 136), (196, 42), (202, 5), (203, 96), (204, 47), (205, 136), (217, 172)] : List (Nat × Nat)), gb cX12_dots q.1 = some q.2 := seg_1 SX12_dots _ (by decide +kernel)
set_option maxRecDepth 20000 in
theorem BX12_dots_2_0 : ∀ q ∈ ([(36, 16, 51), (41, 16, 244), (45, 54, 4), (53, 16, 51), (67, 54, 5), (69, 21, 5), (74, 21, 4), (90, 21, 4), (101, 16, 40), (111, 54, 5), (113, 16, 60), (120, 21, 4)] : List (Nat × Nat × Nat)), gb cX12_dots q.1 = some q.2.1 ∧ gb cX12_dots (q.1 + 1) = some q.2.2 := seg_2 SX12_dots _ (by decide +kernel)
set_option maxRecDepth 20000 in
theorem BX12_dots_2_1 : ∀ q ∈ ([(124, 54, 6), (126, 21, 5), (135, 21, 6), (143, 21, 6), (153, 21, 6), (170, 54, 5), (172, 21, 5), (182, 21, 6), (190, 21, 6), (200, 21, 6), (215, 21, 4)] : List (Nat × Nat × Nat)), gb cX12_dots q.1 = some q.2.1 ∧ gb cX12_dots (q.1 + 1) = some q.2.2 := seg_2 SX12_dots _ (by decide +kernel)
set_option maxRecDepth 20000 in
theorem BX12_dots_3_0 : ∀ q ∈ ([(1, 184, 0, 238), (4, 153, 0, 15), (10, 20, 0, 241), (13, 184, 0, 136), (16, 154, 0, 5), (22, 180, 0, 107), (27, 155, 0, 17), (31, 180, 0, 107), (38, 159, 0, 6), (48, 180, 0, 107), (55, 160, 0, 11), (59, 155, 0, 7)] : List (Nat × Nat × Nat × Nat)), gb cX12_dots q.1 = some q.2.1 ∧ gb cX12_dots (q.1 + 1) = some q.2.2.1 ∧ gb cX12_dots (q.1 + 2) = some q.2.2.2 := seg_3 SX12_dots _ (by decide +kernel)
set_option maxRecDepth 20000 in
theorem BX12_dots_3_1 : ∀ q ∈ ([(63, 167, 0, 4), (71, 153, 0, 144), (77, 162, 0, 138), (82, 180, 0, 110), (94, 163, 0, 16), (98, 180, 0, 227), (103, 162, 0, 7), (107, 167, 0, 4), (128, 153, 0, 41), (132, 180, 0, 113), (140, 180, 0, 113), (150, 180, 0, 113)] : List (Nat × Nat × Nat × Nat)), gb cX12_dots q.1 = some q.2.1 ∧ gb cX12_dots (q.1 + 1) = some q.2.2.1 ∧ gb cX12_dots (q.1 + 2) = some q.2.2.2 := seg_3 SX12_dots _ (by decide +kernel)
set_option maxRecDepth 20000 in
theorem BX12_dots_3_2 : ∀ q ∈ ([(159, 184, 0, 230), (162, 153, 0, 7), (166, 167, 0, 4), (174, 153, 0, 38), (179, 180, 0, 113), (187, 180, 0, 113), (197, 180, 0, 113), (206, 182, 0, 234), (209, 132, 4, 1), (212, 167, 255, 113)] : List (Nat × Nat × Nat × Nat)), gb cX12_dots q.1 = some q.2.1 ∧ gb cX12_dots (q.1 + 1) = some q.2.2.1 ∧ gb cX12_dots (q.1 + 2) = some q.2.2.2 := seg_3 SX12_dots _ (by decide +kernel)
theorem dX12_dots_0 : decode cX12_dots 0 = .ok (.iload_n 1, 1) := dk27 (BX12_dots_1_0 (0, 27) (List.mem_of_getElem? (i := 0) rfl))
theorem dX12_dots_1 : decode cX12_dots 1 = .ok (.invokestatic 238, 3) := dk184 0 238 (BX12_dots_3_0 (1, 184, 0, 238) (List.mem_of_getElem? (i := 0) rfl))
theorem dX12_dots_4 : decode cX12_dots 4 = .ok (.ifCond .eq 15, 3) := dk153 0 15 (BX12_dots_3_0 (4, 153, 0, 15) (List.mem_of_getElem? (i := 1) rfl))
theorem dX12_dots_7 : decode cX12_dots 7 = .ok (.iload_n 3, 1) := dk29 (BX12_dots_1_0 (7, 29) (List.mem_of_getElem? (i := 1) rfl))
theorem dX12_dots_8 : decode cX12_dots 8 = .ok (.i2l, 1) := dk133 (BX12_dots_1_0 (8, 133) (List.mem_of_getElem? (i := 2) rfl))
theorem dX12_dots_9 : decode cX12_dots 9 = .ok (.lconst 1, 1) := dk10 (BX12_dots_1_0 (9, 10) (List.mem_of_getElem? (i := 3) rfl))
theorem dX12_dots_10 : decode cX12_dots 10 = .ok (.ldc2_w 241, 3) := dk20 0 241 (BX12_dots_3_0 (10, 20, 0, 241) (List.mem_of_getElem? (i := 2) rfl))
theorem dX12_dots_13 : decode cX12_dots 13 = .ok (.invokestatic 136, 3) := dk184 0 136 (BX12_dots_3_0 (13, 184, 0, 136) (List.mem_of_getElem? (i := 3) rfl))
theorem dX12_dots_16 : decode cX12_dots 16 = .ok (.ifCond .ne 5, 3) := dk154 0 5 (BX12_dots_3_0 (16, 154, 0, 5) (List.mem_of_getElem? (i := 4) rfl))
theorem dX12_dots_19 : decode cX12_dots 19 = .ok (.iconst (-1), 1) := dk2 (BX12_dots_1_0 (19, 2) (List.mem_of_getElem? (i := 4) rfl))
theorem dX12_dots_20 : decode cX12_dots 20 = .ok (.ireturn, 1) := dk172 (BX12_dots_1_0 (20, 172) (List.mem_of_getElem? (i := 5) rfl))
theorem dX12_dots_21 : decode cX12_dots 21 = .ok (.aload_n 0, 1) := dk42 (BX12_dots_1_0 (21, 42) (List.mem_of_getElem? (i := 6) rfl))
theorem dX12_dots_22 : decode cX12_dots 22 = .ok (.getfield 107, 3) := dk180 0 107 (BX12_dots_3_0 (22, 180, 0, 107) (List.mem_of_getElem? (i := 5) rfl))
theorem dX12_dots_25 : decode cX12_dots 25 = .ok (.iload_n 1, 1) := dk27 (BX12_dots_1_0 (25, 27) (List.mem_of_getElem? (i := 7) rfl))
theorem dX12_dots_26 : decode cX12_dots 26 = .ok (.iaload, 1) := dk46 (BX12_dots_1_0 (26, 46) (List.mem_of_getElem? (i := 8) rfl))
theorem dX12_dots_27 : decode cX12_dots 27 = .ok (.ifCond .lt 17, 3) := dk155 0 17 (BX12_dots_3_0 (27, 155, 0, 17) (List.mem_of_getElem? (i := 6) rfl))
theorem dX12_dots_30 : decode cX12_dots 30 = .ok (.aload_n 0, 1) := dk42 (BX12_dots_1_0 (30, 42) (List.mem_of_getElem? (i := 9) rfl))
theorem dX12_dots_31 : decode cX12_dots 31 = .ok (.getfield 107, 3) := dk180 0 107 (BX12_dots_3_0 (31, 180, 0, 107) (List.mem_of_getElem? (i := 7) rfl))
theorem dX12_dots_34 : decode cX12_dots 34 = .ok (.iload_n 1, 1) := dk27 (BX12_dots_1_0 (34, 27) (List.mem_of_getElem? (i := 10) rfl))
theorem dX12_dots_35 : decode cX12_dots 35 = .ok (.iaload, 1) := dk46 (BX12_dots_1_0 (35, 46) (List.mem_of_getElem? (i := 11) rfl))
theorem dX12_dots_36 : decode cX12_dots 36 = .ok (.bipush 51, 2) := dk16 51 (BX12_dots_2_0 (36, 16, 51) (List.mem_of_getElem? (i := 0) rfl))
theorem dX12_dots_38 : decode cX12_dots 38 = .ok (.if_icmp .eq 6, 3) := dk159 0 6 (BX12_dots_3_0 (38, 159, 0, 6) (List.mem_of_getElem? (i := 8) rfl))
theorem dX12_dots_41 : decode cX12_dots 41 = .ok (.bipush (-12), 2) := dk16 244 (BX12_dots_2_0 (41, 16, 244) (List.mem_of_getElem? (i := 1) rfl))
theorem dX12_dots_43 : decode cX12_dots 43 = .ok (.ireturn, 1) := dk172 (BX12_dots_1_1 (43, 172) (List.mem_of_getElem? (i := 0) rfl))
theorem dX12_dots_44 : decode cX12_dots 44 = .ok (.iconst 0, 1) := dk3 (BX12_dots_1_1 (44, 3) (List.mem_of_getElem? (i := 1) rfl))
theorem dX12_dots_45 : decode cX12_dots 45 = .ok (.istore 4, 2) := dk54 4 (BX12_dots_2_0 (45, 54, 4) (List.mem_of_getElem? (i := 2) rfl))
theorem dX12_dots_47 : decode cX12_dots 47 = .ok (.aload_n 0, 1) := dk42 (BX12_dots_1_1 (47, 42) (List.mem_of_getElem? (i := 2) rfl))
theorem dX12_dots_48 : decode cX12_dots 48 = .ok (.getfield 107, 3) := dk180 0 107 (BX12_dots_3_0 (48, 180, 0, 107) (List.mem_of_getElem? (i := 9) rfl))
theorem dX12_dots_51 : decode cX12_dots 51 = .ok (.iload_n 1, 1) := dk27 (BX12_dots_1_1 (51, 27) (List.mem_of_getElem? (i := 3) rfl))
theorem dX12_dots_52 : decode cX12_dots 52 = .ok (.iaload, 1) := dk46 (BX12_dots_1_1 (52, 46) (List.mem_of_getElem? (i := 4) rfl))
theorem dX12_dots_53 : decode cX12_dots 53 = .ok (.bipush 51, 2) := dk16 51 (BX12_dots_2_0 (53, 16, 51) (List.mem_of_getElem? (i := 3) rfl))
theorem dX12_dots_55 : decode cX12_dots 55 = .ok (.if_icmp .ne 11, 3) := dk160 0 11 (BX12_dots_3_0 (55, 160, 0, 11) (List.mem_of_getElem? (i := 10) rfl))
theorem dX12_dots_58 : decode cX12_dots 58 = .ok (.iload_n 2, 1) := dk28 (BX12_dots_1_1 (58, 28) (List.mem_of_getElem? (i := 5) rfl))
theorem dX12_dots_59 : decode cX12_dots 59 = .ok (.ifCond .lt 7, 3) := dk155 0 7 (BX12_dots_3_0 (59, 155, 0, 7) (List.mem_of_getElem? (i := 11) rfl))
theorem dX12_dots_62 : decode cX12_dots 62 = .ok (.iconst 1, 1) := dk4 (BX12_dots_1_1 (62, 4) (List.mem_of_getElem? (i := 6) rfl))
theorem dX12_dots_63 : decode cX12_dots 63 = .ok (.goto 4, 3) := dk167 0 4 (BX12_dots_3_1 (63, 167, 0, 4) (List.mem_of_getElem? (i := 0) rfl))
theorem dX12_dots_66 : decode cX12_dots 66 = .ok (.iconst 0, 1) := dk3 (BX12_dots_1_1 (66, 3) (List.mem_of_getElem? (i := 7) rfl))
theorem dX12_dots_67 : decode cX12_dots 67 = .ok (.istore 5, 2) := dk54 5 (BX12_dots_2_0 (67, 54, 5) (List.mem_of_getElem? (i := 4) rfl))
theorem dX12_dots_69 : decode cX12_dots 69 = .ok (.iload 5, 2) := dk21 5 (BX12_dots_2_0 (69, 21, 5) (List.mem_of_getElem? (i := 5) rfl))
theorem dX12_dots_71 : decode cX12_dots 71 = .ok (.ifCond .eq 144, 3) := dk153 0 144 (BX12_dots_3_1 (71, 153, 0, 144) (List.mem_of_getElem? (i := 1) rfl))
theorem dX12_dots_74 : decode cX12_dots 74 = .ok (.iload 4, 2) := dk21 4 (BX12_dots_2_0 (74, 21, 4) (List.mem_of_getElem? (i := 6) rfl))
theorem dX12_dots_76 : decode cX12_dots 76 = .ok (.iload_n 3, 1) := dk29 (BX12_dots_1_1 (76, 29) (List.mem_of_getElem? (i := 8) rfl))
theorem dX12_dots_77 : decode cX12_dots 77 = .ok (.if_icmp .ge 138, 3) := dk162 0 138 (BX12_dots_3_1 (77, 162, 0, 138) (List.mem_of_getElem? (i := 2) rfl))
theorem dX12_dots_80 : decode cX12_dots 80 = .ok (.iload_n 2, 1) := dk28 (BX12_dots_1_1 (80, 28) (List.mem_of_getElem? (i := 9) rfl))
theorem dX12_dots_81 : decode cX12_dots 81 = .ok (.aload_n 0, 1) := dk42 (BX12_dots_1_1 (81, 42) (List.mem_of_getElem? (i := 10) rfl))
theorem dX12_dots_82 : decode cX12_dots 82 = .ok (.getfield 110, 3) := dk180 0 110 (BX12_dots_3_1 (82, 180, 0, 110) (List.mem_of_getElem? (i := 3) rfl))
theorem dX12_dots_85 : decode cX12_dots 85 = .ok (.iload_n 1, 1) := dk27 (BX12_dots_1_1 (85, 27) (List.mem_of_getElem? (i := 11) rfl))
theorem dX12_dots_86 : decode cX12_dots 86 = .ok (.iaload, 1) := dk46 (BX12_dots_1_2 (86, 46) (List.mem_of_getElem? (i := 0) rfl))
theorem dX12_dots_87 : decode cX12_dots 87 = .ok (.iconst 3, 1) := dk6 (BX12_dots_1_2 (87, 6) (List.mem_of_getElem? (i := 1) rfl))
theorem dX12_dots_88 : decode cX12_dots 88 = .ok (.isub, 1) := dk100 (BX12_dots_1_2 (88, 100) (List.mem_of_getElem? (i := 2) rfl))
theorem dX12_dots_89 : decode cX12_dots 89 = .ok (.iconst 3, 1) := dk6 (BX12_dots_1_2 (89, 6) (List.mem_of_getElem? (i := 3) rfl))
theorem dX12_dots_90 : decode cX12_dots 90 = .ok (.iload 4, 2) := dk21 4 (BX12_dots_2_0 (90, 21, 4) (List.mem_of_getElem? (i := 7) rfl))
theorem dX12_dots_92 : decode cX12_dots 92 = .ok (.imul, 1) := dk104 (BX12_dots_1_2 (92, 104) (List.mem_of_getElem? (i := 4) rfl))
theorem dX12_dots_93 : decode cX12_dots 93 = .ok (.isub, 1) := dk100 (BX12_dots_1_2 (93, 100) (List.mem_of_getElem? (i := 5) rfl))
theorem dX12_dots_94 : decode cX12_dots 94 = .ok (.if_icmp .gt 16, 3) := dk163 0 16 (BX12_dots_3_1 (94, 163, 0, 16) (List.mem_of_getElem? (i := 4) rfl))
theorem dX12_dots_97 : decode cX12_dots 97 = .ok (.aload_n 0, 1) := dk42 (BX12_dots_1_2 (97, 42) (List.mem_of_getElem? (i := 6) rfl))
theorem dX12_dots_98 : decode cX12_dots 98 = .ok (.getfield 227, 3) := dk180 0 227 (BX12_dots_3_1 (98, 180, 0, 227) (List.mem_of_getElem? (i := 5) rfl))
theorem dX12_dots_101 : decode cX12_dots 101 = .ok (.bipush 40, 2) := dk16 40 (BX12_dots_2_0 (101, 16, 40) (List.mem_of_getElem? (i := 8) rfl))
theorem dX12_dots_103 : decode cX12_dots 103 = .ok (.if_icmp .ge 7, 3) := dk162 0 7 (BX12_dots_3_1 (103, 162, 0, 7) (List.mem_of_getElem? (i := 6) rfl))
theorem dX12_dots_106 : decode cX12_dots 106 = .ok (.iconst 1, 1) := dk4 (BX12_dots_1_2 (106, 4) (List.mem_of_getElem? (i := 7) rfl))
theorem dX12_dots_107 : decode cX12_dots 107 = .ok (.goto 4, 3) := dk167 0 4 (BX12_dots_3_1 (107, 167, 0, 4) (List.mem_of_getElem? (i := 7) rfl))
theorem dX12_dots_110 : decode cX12_dots 110 = .ok (.iconst 0, 1) := dk3 (BX12_dots_1_2 (110, 3) (List.mem_of_getElem? (i := 8) rfl))
theorem dX12_dots_111 : decode cX12_dots 111 = .ok (.istore 5, 2) := dk54 5 (BX12_dots_2_0 (111, 54, 5) (List.mem_of_getElem? (i := 9) rfl))
theorem dX12_dots_113 : decode cX12_dots 113 = .ok (.bipush 60, 2) := dk16 60 (BX12_dots_2_0 (113, 16, 60) (List.mem_of_getElem? (i := 10) rfl))
theorem dX12_dots_115 : decode cX12_dots 115 = .ok (.iload_n 1, 1) := dk27 (BX12_dots_1_2 (115, 27) (List.mem_of_getElem? (i := 9) rfl))
theorem dX12_dots_116 : decode cX12_dots 116 = .ok (.imul, 1) := dk104 (BX12_dots_1_2 (116, 104) (List.mem_of_getElem? (i := 10) rfl))
theorem dX12_dots_117 : decode cX12_dots 117 = .ok (.iload_n 2, 1) := dk28 (BX12_dots_1_2 (117, 28) (List.mem_of_getElem? (i := 11) rfl))
theorem dX12_dots_118 : decode cX12_dots 118 = .ok (.iadd, 1) := dk96 (BX12_dots_1_3 (118, 96) (List.mem_of_getElem? (i := 0) rfl))
theorem dX12_dots_119 : decode cX12_dots 119 = .ok (.iconst 3, 1) := dk6 (BX12_dots_1_3 (119, 6) (List.mem_of_getElem? (i := 1) rfl))
theorem dX12_dots_120 : decode cX12_dots 120 = .ok (.iload 4, 2) := dk21 4 (BX12_dots_2_0 (120, 21, 4) (List.mem_of_getElem? (i := 11) rfl))
theorem dX12_dots_122 : decode cX12_dots 122 = .ok (.imul, 1) := dk104 (BX12_dots_1_3 (122, 104) (List.mem_of_getElem? (i := 2) rfl))
theorem dX12_dots_123 : decode cX12_dots 123 = .ok (.iadd, 1) := dk96 (BX12_dots_1_3 (123, 96) (List.mem_of_getElem? (i := 3) rfl))
theorem dX12_dots_124 : decode cX12_dots 124 = .ok (.istore 6, 2) := dk54 6 (BX12_dots_2_1 (124, 54, 6) (List.mem_of_getElem? (i := 0) rfl))
theorem dX12_dots_126 : decode cX12_dots 126 = .ok (.iload 5, 2) := dk21 5 (BX12_dots_2_1 (126, 21, 5) (List.mem_of_getElem? (i := 1) rfl))
theorem dX12_dots_128 : decode cX12_dots 128 = .ok (.ifCond .eq 41, 3) := dk153 0 41 (BX12_dots_3_1 (128, 153, 0, 41) (List.mem_of_getElem? (i := 8) rfl))
theorem dX12_dots_131 : decode cX12_dots 131 = .ok (.aload_n 0, 1) := dk42 (BX12_dots_1_3 (131, 42) (List.mem_of_getElem? (i := 4) rfl))
theorem dX12_dots_132 : decode cX12_dots 132 = .ok (.getfield 113, 3) := dk180 0 113 (BX12_dots_3_1 (132, 180, 0, 113) (List.mem_of_getElem? (i := 9) rfl))
theorem dX12_dots_135 : decode cX12_dots 135 = .ok (.iload 6, 2) := dk21 6 (BX12_dots_2_1 (135, 21, 6) (List.mem_of_getElem? (i := 2) rfl))
theorem dX12_dots_137 : decode cX12_dots 137 = .ok (.laload, 1) := dk47 (BX12_dots_1_3 (137, 47) (List.mem_of_getElem? (i := 5) rfl))
theorem dX12_dots_138 : decode cX12_dots 138 = .ok (.l2i, 1) := dk136 (BX12_dots_1_3 (138, 136) (List.mem_of_getElem? (i := 6) rfl))
theorem dX12_dots_139 : decode cX12_dots 139 = .ok (.aload_n 0, 1) := dk42 (BX12_dots_1_3 (139, 42) (List.mem_of_getElem? (i := 7) rfl))
theorem dX12_dots_140 : decode cX12_dots 140 = .ok (.getfield 113, 3) := dk180 0 113 (BX12_dots_3_1 (140, 180, 0, 113) (List.mem_of_getElem? (i := 10) rfl))
theorem dX12_dots_143 : decode cX12_dots 143 = .ok (.iload 6, 2) := dk21 6 (BX12_dots_2_1 (143, 21, 6) (List.mem_of_getElem? (i := 3) rfl))
theorem dX12_dots_145 : decode cX12_dots 145 = .ok (.iconst 1, 1) := dk4 (BX12_dots_1_3 (145, 4) (List.mem_of_getElem? (i := 8) rfl))
theorem dX12_dots_146 : decode cX12_dots 146 = .ok (.iadd, 1) := dk96 (BX12_dots_1_3 (146, 96) (List.mem_of_getElem? (i := 9) rfl))
theorem dX12_dots_147 : decode cX12_dots 147 = .ok (.laload, 1) := dk47 (BX12_dots_1_3 (147, 47) (List.mem_of_getElem? (i := 10) rfl))
theorem dX12_dots_148 : decode cX12_dots 148 = .ok (.l2i, 1) := dk136 (BX12_dots_1_3 (148, 136) (List.mem_of_getElem? (i := 11) rfl))
theorem dX12_dots_149 : decode cX12_dots 149 = .ok (.aload_n 0, 1) := dk42 (BX12_dots_1_4 (149, 42) (List.mem_of_getElem? (i := 0) rfl))
theorem dX12_dots_150 : decode cX12_dots 150 = .ok (.getfield 113, 3) := dk180 0 113 (BX12_dots_3_1 (150, 180, 0, 113) (List.mem_of_getElem? (i := 11) rfl))
theorem dX12_dots_153 : decode cX12_dots 153 = .ok (.iload 6, 2) := dk21 6 (BX12_dots_2_1 (153, 21, 6) (List.mem_of_getElem? (i := 4) rfl))
theorem dX12_dots_155 : decode cX12_dots 155 = .ok (.iconst 2, 1) := dk5 (BX12_dots_1_4 (155, 5) (List.mem_of_getElem? (i := 1) rfl))
theorem dX12_dots_156 : decode cX12_dots 156 = .ok (.iadd, 1) := dk96 (BX12_dots_1_4 (156, 96) (List.mem_of_getElem? (i := 2) rfl))
theorem dX12_dots_157 : decode cX12_dots 157 = .ok (.laload, 1) := dk47 (BX12_dots_1_4 (157, 47) (List.mem_of_getElem? (i := 3) rfl))
theorem dX12_dots_158 : decode cX12_dots 158 = .ok (.l2i, 1) := dk136 (BX12_dots_1_4 (158, 136) (List.mem_of_getElem? (i := 4) rfl))
theorem dX12_dots_159 : decode cX12_dots 159 = .ok (.invokestatic 230, 3) := dk184 0 230 (BX12_dots_3_2 (159, 184, 0, 230) (List.mem_of_getElem? (i := 0) rfl))
theorem dX12_dots_162 : decode cX12_dots 162 = .ok (.ifCond .eq 7, 3) := dk153 0 7 (BX12_dots_3_2 (162, 153, 0, 7) (List.mem_of_getElem? (i := 1) rfl))
theorem dX12_dots_165 : decode cX12_dots 165 = .ok (.iconst 1, 1) := dk4 (BX12_dots_1_4 (165, 4) (List.mem_of_getElem? (i := 5) rfl))
theorem dX12_dots_166 : decode cX12_dots 166 = .ok (.goto 4, 3) := dk167 0 4 (BX12_dots_3_2 (166, 167, 0, 4) (List.mem_of_getElem? (i := 2) rfl))
theorem dX12_dots_169 : decode cX12_dots 169 = .ok (.iconst 0, 1) := dk3 (BX12_dots_1_4 (169, 3) (List.mem_of_getElem? (i := 6) rfl))
theorem dX12_dots_170 : decode cX12_dots 170 = .ok (.istore 5, 2) := dk54 5 (BX12_dots_2_1 (170, 54, 5) (List.mem_of_getElem? (i := 5) rfl))
theorem dX12_dots_172 : decode cX12_dots 172 = .ok (.iload 5, 2) := dk21 5 (BX12_dots_2_1 (172, 21, 5) (List.mem_of_getElem? (i := 6) rfl))
theorem dX12_dots_174 : decode cX12_dots 174 = .ok (.ifCond .eq 38, 3) := dk153 0 38 (BX12_dots_3_2 (174, 153, 0, 38) (List.mem_of_getElem? (i := 3) rfl))
theorem dX12_dots_177 : decode cX12_dots 177 = .ok (.aload_n 0, 1) := dk42 (BX12_dots_1_4 (177, 42) (List.mem_of_getElem? (i := 7) rfl))
theorem dX12_dots_178 : decode cX12_dots 178 = .ok (.aload_n 0, 1) := dk42 (BX12_dots_1_4 (178, 42) (List.mem_of_getElem? (i := 8) rfl))
theorem dX12_dots_179 : decode cX12_dots 179 = .ok (.getfield 113, 3) := dk180 0 113 (BX12_dots_3_2 (179, 180, 0, 113) (List.mem_of_getElem? (i := 4) rfl))
theorem dX12_dots_182 : decode cX12_dots 182 = .ok (.iload 6, 2) := dk21 6 (BX12_dots_2_1 (182, 21, 6) (List.mem_of_getElem? (i := 7) rfl))
theorem dX12_dots_184 : decode cX12_dots 184 = .ok (.laload, 1) := dk47 (BX12_dots_1_4 (184, 47) (List.mem_of_getElem? (i := 9) rfl))
theorem dX12_dots_185 : decode cX12_dots 185 = .ok (.l2i, 1) := dk136 (BX12_dots_1_4 (185, 136) (List.mem_of_getElem? (i := 10) rfl))
theorem dX12_dots_186 : decode cX12_dots 186 = .ok (.aload_n 0, 1) := dk42 (BX12_dots_1_4 (186, 42) (List.mem_of_getElem? (i := 11) rfl))
theorem dX12_dots_187 : decode cX12_dots 187 = .ok (.getfield 113, 3) := dk180 0 113 (BX12_dots_3_2 (187, 180, 0, 113) (List.mem_of_getElem? (i := 5) rfl))
theorem dX12_dots_190 : decode cX12_dots 190 = .ok (.iload 6, 2) := dk21 6 (BX12_dots_2_1 (190, 21, 6) (List.mem_of_getElem? (i := 8) rfl))
theorem dX12_dots_192 : decode cX12_dots 192 = .ok (.iconst 1, 1) := dk4 (BX12_dots_1_5 (192, 4) (List.mem_of_getElem? (i := 0) rfl))
theorem dX12_dots_193 : decode cX12_dots 193 = .ok (.iadd, 1) := dk96 (BX12_dots_1_5 (193, 96) (List.mem_of_getElem? (i := 1) rfl))
theorem dX12_dots_194 : decode cX12_dots 194 = .ok (.laload, 1) := dk47 (BX12_dots_1_5 (194, 47) (List.mem_of_getElem? (i := 2) rfl))
theorem dX12_dots_195 : decode cX12_dots 195 = .ok (.l2i, 1) := dk136 (BX12_dots_1_5 (195, 136) (List.mem_of_getElem? (i := 3) rfl))
theorem dX12_dots_196 : decode cX12_dots 196 = .ok (.aload_n 0, 1) := dk42 (BX12_dots_1_5 (196, 42) (List.mem_of_getElem? (i := 4) rfl))
theorem dX12_dots_197 : decode cX12_dots 197 = .ok (.getfield 113, 3) := dk180 0 113 (BX12_dots_3_2 (197, 180, 0, 113) (List.mem_of_getElem? (i := 6) rfl))
theorem dX12_dots_200 : decode cX12_dots 200 = .ok (.iload 6, 2) := dk21 6 (BX12_dots_2_1 (200, 21, 6) (List.mem_of_getElem? (i := 9) rfl))
theorem dX12_dots_202 : decode cX12_dots 202 = .ok (.iconst 2, 1) := dk5 (BX12_dots_1_5 (202, 5) (List.mem_of_getElem? (i := 5) rfl))
theorem dX12_dots_203 : decode cX12_dots 203 = .ok (.iadd, 1) := dk96 (BX12_dots_1_5 (203, 96) (List.mem_of_getElem? (i := 6) rfl))
theorem dX12_dots_204 : decode cX12_dots 204 = .ok (.laload, 1) := dk47 (BX12_dots_1_5 (204, 47) (List.mem_of_getElem? (i := 7) rfl))
theorem dX12_dots_205 : decode cX12_dots 205 = .ok (.l2i, 1) := dk136 (BX12_dots_1_5 (205, 136) (List.mem_of_getElem? (i := 8) rfl))
theorem dX12_dots_206 : decode cX12_dots 206 = .ok (.invokevirtual 234, 3) := dk182 0 234 (BX12_dots_3_2 (206, 182, 0, 234) (List.mem_of_getElem? (i := 7) rfl))
theorem dX12_dots_209 : decode cX12_dots 209 = .ok (.iinc 4 1, 3) := dk132 4 1 (BX12_dots_3_2 (209, 132, 4, 1) (List.mem_of_getElem? (i := 8) rfl))
theorem dX12_dots_212 : decode cX12_dots 212 = .ok (.goto (-143), 3) := dk167 255 113 (BX12_dots_3_2 (212, 167, 255, 113) (List.mem_of_getElem? (i := 9) rfl))
theorem dX12_dots_215 : decode cX12_dots 215 = .ok (.iload 4, 2) := dk21 4 (BX12_dots_2_1 (215, 21, 4) (List.mem_of_getElem? (i := 10) rfl))
theorem dX12_dots_217 : decode cX12_dots 217 = .ok (.ireturn, 1) := dk172 (BX12_dots_1_5 (217, 172) (List.mem_of_getElem? (i := 9) rfl))
set_option maxRecDepth 20000 in
theorem ggX12_meanOf_X12_within : GoodIn wsX12_meanOf wsX12_within := goodIn_g ch_wsX12_meanOf_flat gd_wsX12_meanOf _ [(1, 7)] rfl
set_option maxRecDepth 20000 in
theorem gX12_meanOf_X12_within : GoodIn wsX12_meanOf (va_wsS RX12 136 yX12_within wsX12_within) := goodIn_app (goodIn_g ch_wsX12_meanOf_flat gd_wsX12_meanOf _ [(1, 4), (1, 5), (1, 6)] rfl) ggX12_meanOf_X12_within
set_option maxRecDepth 20000 in
theorem SX12_meanOf : ∀ p : Nat, gb cX12_meanOf p = segF [[3, 54, 4, 3, 54, 5, 3, 54, 6, 21, 6, 42, 180, 0, 227, 162, 0, 90, 27, 8, 159, 0, 34, 27, 156, 0, 19, 42, 180, 0, 59, 21, 6, 46, 2, 27, 100, 159, 0, 21, 167, 0, 14, 42, 180, 0, 59, 21, 6, 46, 27, 160, 0, 7, 4, 167, 0, 4, 3, 54, 7, 21, 7, 153], [0, 36, 42, 180, 0, 62, 21, 6, 46, 133, 28, 133, 29, 133, 184, 0, 136, 153, 0, 18, 21, 4, 42, 180, 0, 9, 21, 6, 46, 96, 54, 4, 132, 5, 1, 132, 6, 1, 167, 255, 163, 21, 5, 154, 0, 8, 16, 254, 167, 0, 8, 21, 4, 21, 5, 108, 172]] p := seg_gb (S := [[3, 54, 4, 3, 54, 5, 3, 54, 6, 21, 6, 42, 180, 0, 227, 162, 0, 90, 27, 8, 159, 0, 34, 27, 156, 0, 19, 42, 180, 0, 59, 21, 6, 46, 2, 27, 100, 159, 0, 21, 167, 0, 14, 42, 180, 0, 59, 21, 6, 46, 27, 160, 0, 7, 4, 167, 0, 4, 3, 54, 7, 21, 7, 153], [0, 36, 42, 180, 0, 62, 21, 6, 46, 133, 28, 133, 29, 133, 184, 0, 136, 153, 0, 18, 21, 4, 42, 180, 0, 9, 21, 6, 46, 96, 54, 4, 132, 5, 1, 132, 6, 1, 167, 255, 163, 21, 5, 154, 0, 8, 16, 254, 167, 0, 8, 21, 4, 21, 5, 108, 172]]) (by decide +kernel) (by decide +kernel)
set_option maxRecDepth 20000 in
theorem BX12_meanOf_1_0 : ∀ q ∈ ([(0, 3), (3, 3), (6, 3), (11, 42), (18, 27), (19, 8), (23, 27), (27, 42), (33, 46), (34, 2), (35, 27), (36, 100)] : List (Nat × Nat)), gb cX12_meanOf q.1 = some q.2 := seg_1 SX12_meanOf _ (by decide +kernel)
set_option maxRecDepth 20000 in
theorem BX12_meanOf_1_1 : ∀ q ∈ ([(43, 42), (49, 46), (50, 27), (54, 4), (58, 3), (66, 42), (72, 46), (73, 133), (74, 28), (75, 133), (76, 29), (77, 133)] : List (Nat × Nat)), gb cX12_meanOf q.1 = some q.2 := seg_1 SX12_meanOf _ (by decide +kernel)
set_option maxRecDepth 20000 in
theorem BX12_meanOf_1_2 : ∀ q ∈ ([(86, 42), (92, 46), (93, 96), (119, 108), (120, 172)] : List (Nat × Nat)), gb cX12_meanOf q.1 = some q.2 := seg_1 SX12_meanOf _ (by decide +kernel)
set_option maxRecDepth 20000 in
theorem BX12_meanOf_2_0 : ∀ q ∈ ([(1, 54, 4), (4, 54, 5), (7, 54, 6), (9, 21, 6), (31, 21, 6), (47, 21, 6), (59, 54, 7), (61, 21, 7), (70, 21, 6), (84, 21, 4), (90, 21, 6), (94, 54, 4)] : List (Nat × Nat × Nat)), gb cX12_meanOf q.1 = some q.2.1 ∧ gb cX12_meanOf (q.1 + 1) = some q.2.2 := seg_2 SX12_meanOf _ (by decide +kernel)
set_option maxRecDepth 20000 in
theorem BX12_meanOf_2_1 : ∀ q ∈ ([(105, 21, 5), (110, 16, 254), (115, 21, 4), (117, 21, 5)] : List (Nat × Nat × Nat)), gb cX12_meanOf q.1 = some q.2.1 ∧ gb cX12_meanOf (q.1 + 1) = some q.2.2 := seg_2 SX12_meanOf _ (by decide +kernel)
set_option maxRecDepth 20000 in
theorem BX12_meanOf_3_0 : ∀ q ∈ ([(12, 180, 0, 227), (15, 162, 0, 90), (20, 159, 0, 34), (24, 156, 0, 19), (28, 180, 0, 59), (37, 159, 0, 21), (40, 167, 0, 14), (44, 180, 0, 59), (51, 160, 0, 7), (55, 167, 0, 4), (63, 153, 0, 36), (67, 180, 0, 62)] : List (Nat × Nat × Nat × Nat)), gb cX12_meanOf q.1 = some q.2.1 ∧ gb cX12_meanOf (q.1 + 1) = some q.2.2.1 ∧ gb cX12_meanOf (q.1 + 2) = some q.2.2.2 := seg_3 SX12_meanOf _ (by decide +kernel)
set_option maxRecDepth 20000 in
theorem BX12_meanOf_3_1 : ∀ q ∈ ([(78, 184, 0, 136), (81, 153, 0, 18), (87, 180, 0, 9), (96, 132, 5, 1), (99, 132, 6, 1), (102, 167, 255, 163), (107, 154, 0, 8), (112, 167, 0, 8)] : List (Nat × Nat × Nat × Nat)), gb cX12_meanOf q.1 = some q.2.1 ∧ gb cX12_meanOf (q.1 + 1) = some q.2.2.1 ∧ gb cX12_meanOf (q.1 + 2) = some q.2.2.2 := seg_3 SX12_meanOf _ (by decide +kernel)
theorem dX12_meanOf_0 : decode cX12_meanOf 0 = .ok (.iconst 0, 1) := dk3 (BX12_meanOf_1_0 (0, 3) (List.mem_of_getElem? (i := 0) rfl))
theorem dX12_meanOf_1 : decode cX12_meanOf 1 = .ok (.istore 4, 2) := dk54 4 (BX12_meanOf_2_0 (1, 54, 4) (List.mem_of_getElem? (i := 0) rfl))
theorem dX12_meanOf_3 : decode cX12_meanOf 3 = .ok (.iconst 0, 1) := dk3 (BX12_meanOf_1_0 (3, 3) (List.mem_of_getElem? (i := 1) rfl))
theorem dX12_meanOf_4 : decode cX12_meanOf 4 = .ok (.istore 5, 2) := dk54 5 (BX12_meanOf_2_0 (4, 54, 5) (List.mem_of_getElem? (i := 1) rfl))
theorem dX12_meanOf_6 : decode cX12_meanOf 6 = .ok (.iconst 0, 1) := dk3 (BX12_meanOf_1_0 (6, 3) (List.mem_of_getElem? (i := 2) rfl))
theorem dX12_meanOf_7 : decode cX12_meanOf 7 = .ok (.istore 6, 2) := dk54 6 (BX12_meanOf_2_0 (7, 54, 6) (List.mem_of_getElem? (i := 2) rfl))
theorem dX12_meanOf_9 : decode cX12_meanOf 9 = .ok (.iload 6, 2) := dk21 6 (BX12_meanOf_2_0 (9, 21, 6) (List.mem_of_getElem? (i := 3) rfl))
theorem dX12_meanOf_11 : decode cX12_meanOf 11 = .ok (.aload_n 0, 1) := dk42 (BX12_meanOf_1_0 (11, 42) (List.mem_of_getElem? (i := 3) rfl))
theorem dX12_meanOf_12 : decode cX12_meanOf 12 = .ok (.getfield 227, 3) := dk180 0 227 (BX12_meanOf_3_0 (12, 180, 0, 227) (List.mem_of_getElem? (i := 0) rfl))
theorem dX12_meanOf_15 : decode cX12_meanOf 15 = .ok (.if_icmp .ge 90, 3) := dk162 0 90 (BX12_meanOf_3_0 (15, 162, 0, 90) (List.mem_of_getElem? (i := 1) rfl))
theorem dX12_meanOf_18 : decode cX12_meanOf 18 = .ok (.iload_n 1, 1) := dk27 (BX12_meanOf_1_0 (18, 27) (List.mem_of_getElem? (i := 4) rfl))
theorem dX12_meanOf_19 : decode cX12_meanOf 19 = .ok (.iconst 5, 1) := dk8 (BX12_meanOf_1_0 (19, 8) (List.mem_of_getElem? (i := 5) rfl))
theorem dX12_meanOf_20 : decode cX12_meanOf 20 = .ok (.if_icmp .eq 34, 3) := dk159 0 34 (BX12_meanOf_3_0 (20, 159, 0, 34) (List.mem_of_getElem? (i := 2) rfl))
theorem dX12_meanOf_23 : decode cX12_meanOf 23 = .ok (.iload_n 1, 1) := dk27 (BX12_meanOf_1_0 (23, 27) (List.mem_of_getElem? (i := 6) rfl))
theorem dX12_meanOf_24 : decode cX12_meanOf 24 = .ok (.ifCond .ge 19, 3) := dk156 0 19 (BX12_meanOf_3_0 (24, 156, 0, 19) (List.mem_of_getElem? (i := 3) rfl))
theorem dX12_meanOf_27 : decode cX12_meanOf 27 = .ok (.aload_n 0, 1) := dk42 (BX12_meanOf_1_0 (27, 42) (List.mem_of_getElem? (i := 7) rfl))
theorem dX12_meanOf_28 : decode cX12_meanOf 28 = .ok (.getfield 59, 3) := dk180 0 59 (BX12_meanOf_3_0 (28, 180, 0, 59) (List.mem_of_getElem? (i := 4) rfl))
theorem dX12_meanOf_31 : decode cX12_meanOf 31 = .ok (.iload 6, 2) := dk21 6 (BX12_meanOf_2_0 (31, 21, 6) (List.mem_of_getElem? (i := 4) rfl))
theorem dX12_meanOf_33 : decode cX12_meanOf 33 = .ok (.iaload, 1) := dk46 (BX12_meanOf_1_0 (33, 46) (List.mem_of_getElem? (i := 8) rfl))
theorem dX12_meanOf_34 : decode cX12_meanOf 34 = .ok (.iconst (-1), 1) := dk2 (BX12_meanOf_1_0 (34, 2) (List.mem_of_getElem? (i := 9) rfl))
theorem dX12_meanOf_35 : decode cX12_meanOf 35 = .ok (.iload_n 1, 1) := dk27 (BX12_meanOf_1_0 (35, 27) (List.mem_of_getElem? (i := 10) rfl))
theorem dX12_meanOf_36 : decode cX12_meanOf 36 = .ok (.isub, 1) := dk100 (BX12_meanOf_1_0 (36, 100) (List.mem_of_getElem? (i := 11) rfl))
theorem dX12_meanOf_37 : decode cX12_meanOf 37 = .ok (.if_icmp .eq 21, 3) := dk159 0 21 (BX12_meanOf_3_0 (37, 159, 0, 21) (List.mem_of_getElem? (i := 5) rfl))
theorem dX12_meanOf_40 : decode cX12_meanOf 40 = .ok (.goto 14, 3) := dk167 0 14 (BX12_meanOf_3_0 (40, 167, 0, 14) (List.mem_of_getElem? (i := 6) rfl))
theorem dX12_meanOf_43 : decode cX12_meanOf 43 = .ok (.aload_n 0, 1) := dk42 (BX12_meanOf_1_1 (43, 42) (List.mem_of_getElem? (i := 0) rfl))
theorem dX12_meanOf_44 : decode cX12_meanOf 44 = .ok (.getfield 59, 3) := dk180 0 59 (BX12_meanOf_3_0 (44, 180, 0, 59) (List.mem_of_getElem? (i := 7) rfl))
theorem dX12_meanOf_47 : decode cX12_meanOf 47 = .ok (.iload 6, 2) := dk21 6 (BX12_meanOf_2_0 (47, 21, 6) (List.mem_of_getElem? (i := 5) rfl))
theorem dX12_meanOf_49 : decode cX12_meanOf 49 = .ok (.iaload, 1) := dk46 (BX12_meanOf_1_1 (49, 46) (List.mem_of_getElem? (i := 1) rfl))
theorem dX12_meanOf_50 : decode cX12_meanOf 50 = .ok (.iload_n 1, 1) := dk27 (BX12_meanOf_1_1 (50, 27) (List.mem_of_getElem? (i := 2) rfl))
theorem dX12_meanOf_51 : decode cX12_meanOf 51 = .ok (.if_icmp .ne 7, 3) := dk160 0 7 (BX12_meanOf_3_0 (51, 160, 0, 7) (List.mem_of_getElem? (i := 8) rfl))
theorem dX12_meanOf_54 : decode cX12_meanOf 54 = .ok (.iconst 1, 1) := dk4 (BX12_meanOf_1_1 (54, 4) (List.mem_of_getElem? (i := 3) rfl))
theorem dX12_meanOf_55 : decode cX12_meanOf 55 = .ok (.goto 4, 3) := dk167 0 4 (BX12_meanOf_3_0 (55, 167, 0, 4) (List.mem_of_getElem? (i := 9) rfl))
theorem dX12_meanOf_58 : decode cX12_meanOf 58 = .ok (.iconst 0, 1) := dk3 (BX12_meanOf_1_1 (58, 3) (List.mem_of_getElem? (i := 4) rfl))
theorem dX12_meanOf_59 : decode cX12_meanOf 59 = .ok (.istore 7, 2) := dk54 7 (BX12_meanOf_2_0 (59, 54, 7) (List.mem_of_getElem? (i := 6) rfl))
theorem dX12_meanOf_61 : decode cX12_meanOf 61 = .ok (.iload 7, 2) := dk21 7 (BX12_meanOf_2_0 (61, 21, 7) (List.mem_of_getElem? (i := 7) rfl))
theorem dX12_meanOf_63 : decode cX12_meanOf 63 = .ok (.ifCond .eq 36, 3) := dk153 0 36 (BX12_meanOf_3_0 (63, 153, 0, 36) (List.mem_of_getElem? (i := 10) rfl))
theorem dX12_meanOf_66 : decode cX12_meanOf 66 = .ok (.aload_n 0, 1) := dk42 (BX12_meanOf_1_1 (66, 42) (List.mem_of_getElem? (i := 5) rfl))
theorem dX12_meanOf_67 : decode cX12_meanOf 67 = .ok (.getfield 62, 3) := dk180 0 62 (BX12_meanOf_3_0 (67, 180, 0, 62) (List.mem_of_getElem? (i := 11) rfl))
theorem dX12_meanOf_70 : decode cX12_meanOf 70 = .ok (.iload 6, 2) := dk21 6 (BX12_meanOf_2_0 (70, 21, 6) (List.mem_of_getElem? (i := 8) rfl))
theorem dX12_meanOf_72 : decode cX12_meanOf 72 = .ok (.iaload, 1) := dk46 (BX12_meanOf_1_1 (72, 46) (List.mem_of_getElem? (i := 6) rfl))
theorem dX12_meanOf_73 : decode cX12_meanOf 73 = .ok (.i2l, 1) := dk133 (BX12_meanOf_1_1 (73, 133) (List.mem_of_getElem? (i := 7) rfl))
theorem dX12_meanOf_74 : decode cX12_meanOf 74 = .ok (.iload_n 2, 1) := dk28 (BX12_meanOf_1_1 (74, 28) (List.mem_of_getElem? (i := 8) rfl))
theorem dX12_meanOf_75 : decode cX12_meanOf 75 = .ok (.i2l, 1) := dk133 (BX12_meanOf_1_1 (75, 133) (List.mem_of_getElem? (i := 9) rfl))
theorem dX12_meanOf_76 : decode cX12_meanOf 76 = .ok (.iload_n 3, 1) := dk29 (BX12_meanOf_1_1 (76, 29) (List.mem_of_getElem? (i := 10) rfl))
theorem dX12_meanOf_77 : decode cX12_meanOf 77 = .ok (.i2l, 1) := dk133 (BX12_meanOf_1_1 (77, 133) (List.mem_of_getElem? (i := 11) rfl))
theorem dX12_meanOf_78 : decode cX12_meanOf 78 = .ok (.invokestatic 136, 3) := dk184 0 136 (BX12_meanOf_3_1 (78, 184, 0, 136) (List.mem_of_getElem? (i := 0) rfl))
theorem dX12_meanOf_81 : decode cX12_meanOf 81 = .ok (.ifCond .eq 18, 3) := dk153 0 18 (BX12_meanOf_3_1 (81, 153, 0, 18) (List.mem_of_getElem? (i := 1) rfl))
theorem dX12_meanOf_84 : decode cX12_meanOf 84 = .ok (.iload 4, 2) := dk21 4 (BX12_meanOf_2_0 (84, 21, 4) (List.mem_of_getElem? (i := 9) rfl))
theorem dX12_meanOf_86 : decode cX12_meanOf 86 = .ok (.aload_n 0, 1) := dk42 (BX12_meanOf_1_2 (86, 42) (List.mem_of_getElem? (i := 0) rfl))
theorem dX12_meanOf_87 : decode cX12_meanOf 87 = .ok (.getfield 9, 3) := dk180 0 9 (BX12_meanOf_3_1 (87, 180, 0, 9) (List.mem_of_getElem? (i := 2) rfl))
theorem dX12_meanOf_90 : decode cX12_meanOf 90 = .ok (.iload 6, 2) := dk21 6 (BX12_meanOf_2_0 (90, 21, 6) (List.mem_of_getElem? (i := 10) rfl))
theorem dX12_meanOf_92 : decode cX12_meanOf 92 = .ok (.iaload, 1) := dk46 (BX12_meanOf_1_2 (92, 46) (List.mem_of_getElem? (i := 1) rfl))
theorem dX12_meanOf_93 : decode cX12_meanOf 93 = .ok (.iadd, 1) := dk96 (BX12_meanOf_1_2 (93, 96) (List.mem_of_getElem? (i := 2) rfl))
theorem dX12_meanOf_94 : decode cX12_meanOf 94 = .ok (.istore 4, 2) := dk54 4 (BX12_meanOf_2_0 (94, 54, 4) (List.mem_of_getElem? (i := 11) rfl))
theorem dX12_meanOf_96 : decode cX12_meanOf 96 = .ok (.iinc 5 1, 3) := dk132 5 1 (BX12_meanOf_3_1 (96, 132, 5, 1) (List.mem_of_getElem? (i := 3) rfl))
theorem dX12_meanOf_99 : decode cX12_meanOf 99 = .ok (.iinc 6 1, 3) := dk132 6 1 (BX12_meanOf_3_1 (99, 132, 6, 1) (List.mem_of_getElem? (i := 4) rfl))
theorem dX12_meanOf_102 : decode cX12_meanOf 102 = .ok (.goto (-93), 3) := dk167 255 163 (BX12_meanOf_3_1 (102, 167, 255, 163) (List.mem_of_getElem? (i := 5) rfl))
theorem dX12_meanOf_105 : decode cX12_meanOf 105 = .ok (.iload 5, 2) := dk21 5 (BX12_meanOf_2_1 (105, 21, 5) (List.mem_of_getElem? (i := 0) rfl))
theorem dX12_meanOf_107 : decode cX12_meanOf 107 = .ok (.ifCond .ne 8, 3) := dk154 0 8 (BX12_meanOf_3_1 (107, 154, 0, 8) (List.mem_of_getElem? (i := 6) rfl))
theorem dX12_meanOf_110 : decode cX12_meanOf 110 = .ok (.bipush (-2), 2) := dk16 254 (BX12_meanOf_2_1 (110, 16, 254) (List.mem_of_getElem? (i := 1) rfl))
theorem dX12_meanOf_112 : decode cX12_meanOf 112 = .ok (.goto 8, 3) := dk167 0 8 (BX12_meanOf_3_1 (112, 167, 0, 8) (List.mem_of_getElem? (i := 7) rfl))
theorem dX12_meanOf_115 : decode cX12_meanOf 115 = .ok (.iload 4, 2) := dk21 4 (BX12_meanOf_2_1 (115, 21, 4) (List.mem_of_getElem? (i := 2) rfl))
theorem dX12_meanOf_117 : decode cX12_meanOf 117 = .ok (.iload 5, 2) := dk21 5 (BX12_meanOf_2_1 (117, 21, 5) (List.mem_of_getElem? (i := 3) rfl))
theorem dX12_meanOf_119 : decode cX12_meanOf 119 = .ok (.idiv, 1) := dk108 (BX12_meanOf_1_2 (119, 108) (List.mem_of_getElem? (i := 3) rfl))
theorem dX12_meanOf_120 : decode cX12_meanOf 120 = .ok (.ireturn, 1) := dk172 (BX12_meanOf_1_2 (120, 172) (List.mem_of_getElem? (i := 4) rfl))
set_option maxRecDepth 20000 in
theorem ggX12_mean_X12_within : GoodIn wsX12_mean wsX12_within := goodIn_g ch_wsX12_mean_flat gd_wsX12_mean _ [(1, 4)] rfl
set_option maxRecDepth 20000 in
theorem gX12_mean_X12_within : GoodIn wsX12_mean (va_wsS RX12 136 yX12_within wsX12_within) := goodIn_app (goodIn_g ch_wsX12_mean_flat gd_wsX12_mean _ [(1, 1), (1, 2), (1, 3)] rfl) ggX12_mean_X12_within
set_option maxRecDepth 20000 in
theorem ggX12_mean_X12_meanOf : GoodIn wsX12_mean wsX12_meanOf := gcons (goodIn_g ch_wsX12_mean_flat gd_wsX12_mean _ [(1, 8)] rfl) (goodIn_app (goodIn_g ch_wsX12_mean_flat gd_wsX12_mean _ [(1, 9), (1, 10), (1, 11), (1, 12), (1, 1), (1, 2), (1, 3), (1, 4)] rfl) (gchunk ch_wsX12_mean_flat gd_wsX12_mean 2 rfl))
set_option maxRecDepth 20000 in
theorem gX12_mean_X12_meanOf : GoodIn wsX12_mean (wsV RX12 243 RX12 yX12_meanOf wsX12_meanOf) := goodIn_app (goodIn_g ch_wsX12_mean_flat gd_wsX12_mean _ [(1, 5), (1, 6), (1, 7), (1, 3)] rfl) ggX12_mean_X12_meanOf
set_option maxRecDepth 20000 in
theorem SX12_mean : ∀ p : Nat, gb cX12_mean p = segF [[27, 155, 0, 46, 27, 16, 10, 108, 133, 9, 20, 0, 195, 184, 0, 136, 153, 0, 31, 27, 16, 10, 112, 16, 7, 163, 0, 22, 42, 27, 16, 10, 108, 27, 16, 10, 112, 27, 16, 10, 112, 182, 0, 243, 167, 0, 4, 2, 172]] p := seg_gb (S := [[27, 155, 0, 46, 27, 16, 10, 108, 133, 9, 20, 0, 195, 184, 0, 136, 153, 0, 31, 27, 16, 10, 112, 16, 7, 163, 0, 22, 42, 27, 16, 10, 108, 27, 16, 10, 112, 27, 16, 10, 112, 182, 0, 243, 167, 0, 4, 2, 172]]) (by decide +kernel) (by decide +kernel)
set_option maxRecDepth 20000 in
theorem BX12_mean_1_0 : ∀ q ∈ ([(0, 27), (4, 27), (7, 108), (8, 133), (9, 9), (19, 27), (22, 112), (28, 42), (29, 27), (32, 108), (33, 27), (36, 112)] : List (Nat × Nat)), gb cX12_mean q.1 = some q.2 := seg_1 SX12_mean _ (by decide +kernel)
set_option maxRecDepth 20000 in
theorem BX12_mean_1_1 : ∀ q ∈ ([(37, 27), (40, 112), (47, 2), (48, 172)] : List (Nat × Nat)), gb cX12_mean q.1 = some q.2 := seg_1 SX12_mean _ (by decide +kernel)
set_option maxRecDepth 20000 in
theorem BX12_mean_2_0 : ∀ q ∈ ([(5, 16, 10), (20, 16, 10), (23, 16, 7), (30, 16, 10), (34, 16, 10), (38, 16, 10)] : List (Nat × Nat × Nat)), gb cX12_mean q.1 = some q.2.1 ∧ gb cX12_mean (q.1 + 1) = some q.2.2 := seg_2 SX12_mean _ (by decide +kernel)
set_option maxRecDepth 20000 in
theorem BX12_mean_3_0 : ∀ q ∈ ([(1, 155, 0, 46), (10, 20, 0, 195), (13, 184, 0, 136), (16, 153, 0, 31), (25, 163, 0, 22), (41, 182, 0, 243), (44, 167, 0, 4)] : List (Nat × Nat × Nat × Nat)), gb cX12_mean q.1 = some q.2.1 ∧ gb cX12_mean (q.1 + 1) = some q.2.2.1 ∧ gb cX12_mean (q.1 + 2) = some q.2.2.2 := seg_3 SX12_mean _ (by decide +kernel)
theorem dX12_mean_0 : decode cX12_mean 0 = .ok (.iload_n 1, 1) := dk27 (BX12_mean_1_0 (0, 27) (List.mem_of_getElem? (i := 0) rfl))
theorem dX12_mean_1 : decode cX12_mean 1 = .ok (.ifCond .lt 46, 3) := dk155 0 46 (BX12_mean_3_0 (1, 155, 0, 46) (List.mem_of_getElem? (i := 0) rfl))
theorem dX12_mean_4 : decode cX12_mean 4 = .ok (.iload_n 1, 1) := dk27 (BX12_mean_1_0 (4, 27) (List.mem_of_getElem? (i := 1) rfl))
theorem dX12_mean_5 : decode cX12_mean 5 = .ok (.bipush 10, 2) := dk16 10 (BX12_mean_2_0 (5, 16, 10) (List.mem_of_getElem? (i := 0) rfl))
theorem dX12_mean_7 : decode cX12_mean 7 = .ok (.idiv, 1) := dk108 (BX12_mean_1_0 (7, 108) (List.mem_of_getElem? (i := 2) rfl))
theorem dX12_mean_8 : decode cX12_mean 8 = .ok (.i2l, 1) := dk133 (BX12_mean_1_0 (8, 133) (List.mem_of_getElem? (i := 3) rfl))
theorem dX12_mean_9 : decode cX12_mean 9 = .ok (.lconst 0, 1) := dk9 (BX12_mean_1_0 (9, 9) (List.mem_of_getElem? (i := 4) rfl))
theorem dX12_mean_10 : decode cX12_mean 10 = .ok (.ldc2_w 195, 3) := dk20 0 195 (BX12_mean_3_0 (10, 20, 0, 195) (List.mem_of_getElem? (i := 1) rfl))
theorem dX12_mean_13 : decode cX12_mean 13 = .ok (.invokestatic 136, 3) := dk184 0 136 (BX12_mean_3_0 (13, 184, 0, 136) (List.mem_of_getElem? (i := 2) rfl))
theorem dX12_mean_16 : decode cX12_mean 16 = .ok (.ifCond .eq 31, 3) := dk153 0 31 (BX12_mean_3_0 (16, 153, 0, 31) (List.mem_of_getElem? (i := 3) rfl))
theorem dX12_mean_19 : decode cX12_mean 19 = .ok (.iload_n 1, 1) := dk27 (BX12_mean_1_0 (19, 27) (List.mem_of_getElem? (i := 5) rfl))
theorem dX12_mean_20 : decode cX12_mean 20 = .ok (.bipush 10, 2) := dk16 10 (BX12_mean_2_0 (20, 16, 10) (List.mem_of_getElem? (i := 1) rfl))
theorem dX12_mean_22 : decode cX12_mean 22 = .ok (.irem, 1) := dk112 (BX12_mean_1_0 (22, 112) (List.mem_of_getElem? (i := 6) rfl))
theorem dX12_mean_23 : decode cX12_mean 23 = .ok (.bipush 7, 2) := dk16 7 (BX12_mean_2_0 (23, 16, 7) (List.mem_of_getElem? (i := 2) rfl))
theorem dX12_mean_25 : decode cX12_mean 25 = .ok (.if_icmp .gt 22, 3) := dk163 0 22 (BX12_mean_3_0 (25, 163, 0, 22) (List.mem_of_getElem? (i := 4) rfl))
theorem dX12_mean_28 : decode cX12_mean 28 = .ok (.aload_n 0, 1) := dk42 (BX12_mean_1_0 (28, 42) (List.mem_of_getElem? (i := 7) rfl))
theorem dX12_mean_29 : decode cX12_mean 29 = .ok (.iload_n 1, 1) := dk27 (BX12_mean_1_0 (29, 27) (List.mem_of_getElem? (i := 8) rfl))
theorem dX12_mean_30 : decode cX12_mean 30 = .ok (.bipush 10, 2) := dk16 10 (BX12_mean_2_0 (30, 16, 10) (List.mem_of_getElem? (i := 3) rfl))
theorem dX12_mean_32 : decode cX12_mean 32 = .ok (.idiv, 1) := dk108 (BX12_mean_1_0 (32, 108) (List.mem_of_getElem? (i := 9) rfl))
theorem dX12_mean_33 : decode cX12_mean 33 = .ok (.iload_n 1, 1) := dk27 (BX12_mean_1_0 (33, 27) (List.mem_of_getElem? (i := 10) rfl))
theorem dX12_mean_34 : decode cX12_mean 34 = .ok (.bipush 10, 2) := dk16 10 (BX12_mean_2_0 (34, 16, 10) (List.mem_of_getElem? (i := 4) rfl))
theorem dX12_mean_36 : decode cX12_mean 36 = .ok (.irem, 1) := dk112 (BX12_mean_1_0 (36, 112) (List.mem_of_getElem? (i := 11) rfl))
theorem dX12_mean_37 : decode cX12_mean 37 = .ok (.iload_n 1, 1) := dk27 (BX12_mean_1_1 (37, 27) (List.mem_of_getElem? (i := 0) rfl))
theorem dX12_mean_38 : decode cX12_mean 38 = .ok (.bipush 10, 2) := dk16 10 (BX12_mean_2_0 (38, 16, 10) (List.mem_of_getElem? (i := 5) rfl))
theorem dX12_mean_40 : decode cX12_mean 40 = .ok (.irem, 1) := dk112 (BX12_mean_1_1 (40, 112) (List.mem_of_getElem? (i := 1) rfl))
theorem dX12_mean_41 : decode cX12_mean 41 = .ok (.invokevirtual 243, 3) := dk182 0 243 (BX12_mean_3_0 (41, 182, 0, 243) (List.mem_of_getElem? (i := 5) rfl))
theorem dX12_mean_44 : decode cX12_mean 44 = .ok (.goto 4, 3) := dk167 0 4 (BX12_mean_3_0 (44, 167, 0, 4) (List.mem_of_getElem? (i := 6) rfl))
theorem dX12_mean_47 : decode cX12_mean 47 = .ok (.iconst (-1), 1) := dk2 (BX12_mean_1_1 (47, 2) (List.mem_of_getElem? (i := 2) rfl))
theorem dX12_mean_48 : decode cX12_mean 48 = .ok (.ireturn, 1) := dk172 (BX12_mean_1_1 (48, 172) (List.mem_of_getElem? (i := 3) rfl))
set_option maxRecDepth 20000 in
theorem ggX12_odd_X12_within : GoodIn wsX12_odd wsX12_within := goodIn_g ch_wsX12_odd_flat gd_wsX12_odd _ [(1, 7)] rfl
set_option maxRecDepth 20000 in
theorem gX12_odd_X12_within : GoodIn wsX12_odd (va_wsS RX12 136 yX12_within wsX12_within) := goodIn_app (goodIn_g ch_wsX12_odd_flat gd_wsX12_odd _ [(1, 4), (1, 5), (1, 6)] rfl) ggX12_odd_X12_within
set_option maxRecDepth 20000 in
theorem SX12_odd : ∀ p : Nat, gb cX12_odd p = segF [[27, 133, 9, 20, 0, 247, 184, 0, 136, 154, 0, 5, 2, 172, 2, 61, 3, 62, 29, 42, 180, 0, 227, 162, 0, 41, 42, 180, 0, 62, 29, 46, 16, 7, 160, 0, 22, 42, 180, 0, 9, 29, 46, 28, 164, 0, 12, 42, 180, 0, 9, 29, 46, 167, 0, 4, 28, 61, 132, 3, 1, 167, 255, 213], [3, 62, 3, 54, 4, 21, 4, 42, 180, 0, 227, 162, 0, 39, 29, 42, 180, 0, 62, 21, 4, 46, 27, 160, 0, 18, 42, 180, 0, 9, 21, 4, 46, 28, 164, 0, 7, 4, 167, 0, 4, 3, 96, 62, 132, 4, 1, 167, 255, 214, 29, 172]] p := seg_gb (S := [[27, 133, 9, 20, 0, 247, 184, 0, 136, 154, 0, 5, 2, 172, 2, 61, 3, 62, 29, 42, 180, 0, 227, 162, 0, 41, 42, 180, 0, 62, 29, 46, 16, 7, 160, 0, 22, 42, 180, 0, 9, 29, 46, 28, 164, 0, 12, 42, 180, 0, 9, 29, 46, 167, 0, 4, 28, 61, 132, 3, 1, 167, 255, 213], [3, 62, 3, 54, 4, 21, 4, 42, 180, 0, 227, 162, 0, 39, 29, 42, 180, 0, 62, 21, 4, 46, 27, 160, 0, 18, 42, 180, 0, 9, 21, 4, 46, 28, 164, 0, 7, 4, 167, 0, 4, 3, 96, 62, 132, 4, 1, 167, 255, 214, 29, 172]]) (by decide +kernel) (by decide +kernel)
set_option maxRecDepth 20000 in
theorem BX12_odd_1_0 : ∀ q ∈ ([(0, 27), (1, 133), (2, 9), (12, 2), (13, 172), (14, 2), (15, 61), (16, 3), (17, 62), (18, 29), (19, 42), (26, 42)] : List (Nat × Nat)), gb cX12_odd q.1 = some q.2 := seg_1 SX12_odd _ (by decide +kernel)
set_option maxRecDepth 20000 in
theorem BX12_odd_1_1 : ∀ q ∈ ([(30, 29), (31, 46), (37, 42), (41, 29), (42, 46), (43, 28), (47, 42), (51, 29), (52, 46), (56, 28), (57, 61), (64, 3)] : List (Nat × Nat)), gb cX12_odd q.1 = some q.2 := seg_1 SX12_odd _ (by decide +kernel)
set_option maxRecDepth 20000 in
theorem BX12_odd_1_2 : ∀ q ∈ ([(65, 62), (66, 3), (71, 42), (78, 29), (79, 42), (85, 46), (86, 27), (90, 42), (96, 46), (97, 28), (101, 4), (105, 3)] : List (Nat × Nat)), gb cX12_odd q.1 = some q.2 := seg_1 SX12_odd _ (by decide +kernel)
set_option maxRecDepth 20000 in
theorem BX12_odd_1_3 : ∀ q ∈ ([(106, 96), (107, 62), (114, 29), (115, 172)] : List (Nat × Nat)), gb cX12_odd q.1 = some q.2 := seg_1 SX12_odd _ (by decide +kernel)
set_option maxRecDepth 20000 in
theorem BX12_odd_2_0 : ∀ q ∈ ([(32, 16, 7), (67, 54, 4), (69, 21, 4), (83, 21, 4), (94, 21, 4)] : List (Nat × Nat × Nat)), gb cX12_odd q.1 = some q.2.1 ∧ gb cX12_odd (q.1 + 1) = some q.2.2 := seg_2 SX12_odd _ (by decide +kernel)
set_option maxRecDepth 20000 in
theorem BX12_odd_3_0 : ∀ q ∈ ([(3, 20, 0, 247), (6, 184, 0, 136), (9, 154, 0, 5), (20, 180, 0, 227), (23, 162, 0, 41), (27, 180, 0, 62), (34, 160, 0, 22), (38, 180, 0, 9), (44, 164, 0, 12), (48, 180, 0, 9), (53, 167, 0, 4), (58, 132, 3, 1)] : List (Nat × Nat × Nat × Nat)), gb cX12_odd q.1 = some q.2.1 ∧ gb cX12_odd (q.1 + 1) = some q.2.2.1 ∧ gb cX12_odd (q.1 + 2) = some q.2.2.2 := seg_3 SX12_odd _ (by decide +kernel)
set_option maxRecDepth 20000 in
theorem BX12_odd_3_1 : ∀ q ∈ ([(61, 167, 255, 213), (72, 180, 0, 227), (75, 162, 0, 39), (80, 180, 0, 62), (87, 160, 0, 18), (91, 180, 0, 9), (98, 164, 0, 7), (102, 167, 0, 4), (108, 132, 4, 1), (111, 167, 255, 214)] : List (Nat × Nat × Nat × Nat)), gb cX12_odd q.1 = some q.2.1 ∧ gb cX12_odd (q.1 + 1) = some q.2.2.1 ∧ gb cX12_odd (q.1 + 2) = some q.2.2.2 := seg_3 SX12_odd _ (by decide +kernel)
theorem dX12_odd_0 : decode cX12_odd 0 = .ok (.iload_n 1, 1) := dk27 (BX12_odd_1_0 (0, 27) (List.mem_of_getElem? (i := 0) rfl))
theorem dX12_odd_1 : decode cX12_odd 1 = .ok (.i2l, 1) := dk133 (BX12_odd_1_0 (1, 133) (List.mem_of_getElem? (i := 1) rfl))
theorem dX12_odd_2 : decode cX12_odd 2 = .ok (.lconst 0, 1) := dk9 (BX12_odd_1_0 (2, 9) (List.mem_of_getElem? (i := 2) rfl))
theorem dX12_odd_3 : decode cX12_odd 3 = .ok (.ldc2_w 247, 3) := dk20 0 247 (BX12_odd_3_0 (3, 20, 0, 247) (List.mem_of_getElem? (i := 0) rfl))
theorem dX12_odd_6 : decode cX12_odd 6 = .ok (.invokestatic 136, 3) := dk184 0 136 (BX12_odd_3_0 (6, 184, 0, 136) (List.mem_of_getElem? (i := 1) rfl))
theorem dX12_odd_9 : decode cX12_odd 9 = .ok (.ifCond .ne 5, 3) := dk154 0 5 (BX12_odd_3_0 (9, 154, 0, 5) (List.mem_of_getElem? (i := 2) rfl))
theorem dX12_odd_12 : decode cX12_odd 12 = .ok (.iconst (-1), 1) := dk2 (BX12_odd_1_0 (12, 2) (List.mem_of_getElem? (i := 3) rfl))
theorem dX12_odd_13 : decode cX12_odd 13 = .ok (.ireturn, 1) := dk172 (BX12_odd_1_0 (13, 172) (List.mem_of_getElem? (i := 4) rfl))
theorem dX12_odd_14 : decode cX12_odd 14 = .ok (.iconst (-1), 1) := dk2 (BX12_odd_1_0 (14, 2) (List.mem_of_getElem? (i := 5) rfl))
theorem dX12_odd_15 : decode cX12_odd 15 = .ok (.istore_n 2, 1) := dk61 (BX12_odd_1_0 (15, 61) (List.mem_of_getElem? (i := 6) rfl))
theorem dX12_odd_16 : decode cX12_odd 16 = .ok (.iconst 0, 1) := dk3 (BX12_odd_1_0 (16, 3) (List.mem_of_getElem? (i := 7) rfl))
theorem dX12_odd_17 : decode cX12_odd 17 = .ok (.istore_n 3, 1) := dk62 (BX12_odd_1_0 (17, 62) (List.mem_of_getElem? (i := 8) rfl))
theorem dX12_odd_18 : decode cX12_odd 18 = .ok (.iload_n 3, 1) := dk29 (BX12_odd_1_0 (18, 29) (List.mem_of_getElem? (i := 9) rfl))
theorem dX12_odd_19 : decode cX12_odd 19 = .ok (.aload_n 0, 1) := dk42 (BX12_odd_1_0 (19, 42) (List.mem_of_getElem? (i := 10) rfl))
theorem dX12_odd_20 : decode cX12_odd 20 = .ok (.getfield 227, 3) := dk180 0 227 (BX12_odd_3_0 (20, 180, 0, 227) (List.mem_of_getElem? (i := 3) rfl))
theorem dX12_odd_23 : decode cX12_odd 23 = .ok (.if_icmp .ge 41, 3) := dk162 0 41 (BX12_odd_3_0 (23, 162, 0, 41) (List.mem_of_getElem? (i := 4) rfl))
theorem dX12_odd_26 : decode cX12_odd 26 = .ok (.aload_n 0, 1) := dk42 (BX12_odd_1_0 (26, 42) (List.mem_of_getElem? (i := 11) rfl))
theorem dX12_odd_27 : decode cX12_odd 27 = .ok (.getfield 62, 3) := dk180 0 62 (BX12_odd_3_0 (27, 180, 0, 62) (List.mem_of_getElem? (i := 5) rfl))
theorem dX12_odd_30 : decode cX12_odd 30 = .ok (.iload_n 3, 1) := dk29 (BX12_odd_1_1 (30, 29) (List.mem_of_getElem? (i := 0) rfl))
theorem dX12_odd_31 : decode cX12_odd 31 = .ok (.iaload, 1) := dk46 (BX12_odd_1_1 (31, 46) (List.mem_of_getElem? (i := 1) rfl))
theorem dX12_odd_32 : decode cX12_odd 32 = .ok (.bipush 7, 2) := dk16 7 (BX12_odd_2_0 (32, 16, 7) (List.mem_of_getElem? (i := 0) rfl))
theorem dX12_odd_34 : decode cX12_odd 34 = .ok (.if_icmp .ne 22, 3) := dk160 0 22 (BX12_odd_3_0 (34, 160, 0, 22) (List.mem_of_getElem? (i := 6) rfl))
theorem dX12_odd_37 : decode cX12_odd 37 = .ok (.aload_n 0, 1) := dk42 (BX12_odd_1_1 (37, 42) (List.mem_of_getElem? (i := 2) rfl))
theorem dX12_odd_38 : decode cX12_odd 38 = .ok (.getfield 9, 3) := dk180 0 9 (BX12_odd_3_0 (38, 180, 0, 9) (List.mem_of_getElem? (i := 7) rfl))
theorem dX12_odd_41 : decode cX12_odd 41 = .ok (.iload_n 3, 1) := dk29 (BX12_odd_1_1 (41, 29) (List.mem_of_getElem? (i := 3) rfl))
theorem dX12_odd_42 : decode cX12_odd 42 = .ok (.iaload, 1) := dk46 (BX12_odd_1_1 (42, 46) (List.mem_of_getElem? (i := 4) rfl))
theorem dX12_odd_43 : decode cX12_odd 43 = .ok (.iload_n 2, 1) := dk28 (BX12_odd_1_1 (43, 28) (List.mem_of_getElem? (i := 5) rfl))
theorem dX12_odd_44 : decode cX12_odd 44 = .ok (.if_icmp .le 12, 3) := dk164 0 12 (BX12_odd_3_0 (44, 164, 0, 12) (List.mem_of_getElem? (i := 8) rfl))
theorem dX12_odd_47 : decode cX12_odd 47 = .ok (.aload_n 0, 1) := dk42 (BX12_odd_1_1 (47, 42) (List.mem_of_getElem? (i := 6) rfl))
theorem dX12_odd_48 : decode cX12_odd 48 = .ok (.getfield 9, 3) := dk180 0 9 (BX12_odd_3_0 (48, 180, 0, 9) (List.mem_of_getElem? (i := 9) rfl))
theorem dX12_odd_51 : decode cX12_odd 51 = .ok (.iload_n 3, 1) := dk29 (BX12_odd_1_1 (51, 29) (List.mem_of_getElem? (i := 7) rfl))
theorem dX12_odd_52 : decode cX12_odd 52 = .ok (.iaload, 1) := dk46 (BX12_odd_1_1 (52, 46) (List.mem_of_getElem? (i := 8) rfl))
theorem dX12_odd_53 : decode cX12_odd 53 = .ok (.goto 4, 3) := dk167 0 4 (BX12_odd_3_0 (53, 167, 0, 4) (List.mem_of_getElem? (i := 10) rfl))
theorem dX12_odd_56 : decode cX12_odd 56 = .ok (.iload_n 2, 1) := dk28 (BX12_odd_1_1 (56, 28) (List.mem_of_getElem? (i := 9) rfl))
theorem dX12_odd_57 : decode cX12_odd 57 = .ok (.istore_n 2, 1) := dk61 (BX12_odd_1_1 (57, 61) (List.mem_of_getElem? (i := 10) rfl))
theorem dX12_odd_58 : decode cX12_odd 58 = .ok (.iinc 3 1, 3) := dk132 3 1 (BX12_odd_3_0 (58, 132, 3, 1) (List.mem_of_getElem? (i := 11) rfl))
theorem dX12_odd_61 : decode cX12_odd 61 = .ok (.goto (-43), 3) := dk167 255 213 (BX12_odd_3_1 (61, 167, 255, 213) (List.mem_of_getElem? (i := 0) rfl))
theorem dX12_odd_64 : decode cX12_odd 64 = .ok (.iconst 0, 1) := dk3 (BX12_odd_1_1 (64, 3) (List.mem_of_getElem? (i := 11) rfl))
theorem dX12_odd_65 : decode cX12_odd 65 = .ok (.istore_n 3, 1) := dk62 (BX12_odd_1_2 (65, 62) (List.mem_of_getElem? (i := 0) rfl))
theorem dX12_odd_66 : decode cX12_odd 66 = .ok (.iconst 0, 1) := dk3 (BX12_odd_1_2 (66, 3) (List.mem_of_getElem? (i := 1) rfl))
theorem dX12_odd_67 : decode cX12_odd 67 = .ok (.istore 4, 2) := dk54 4 (BX12_odd_2_0 (67, 54, 4) (List.mem_of_getElem? (i := 1) rfl))
theorem dX12_odd_69 : decode cX12_odd 69 = .ok (.iload 4, 2) := dk21 4 (BX12_odd_2_0 (69, 21, 4) (List.mem_of_getElem? (i := 2) rfl))
theorem dX12_odd_71 : decode cX12_odd 71 = .ok (.aload_n 0, 1) := dk42 (BX12_odd_1_2 (71, 42) (List.mem_of_getElem? (i := 2) rfl))
theorem dX12_odd_72 : decode cX12_odd 72 = .ok (.getfield 227, 3) := dk180 0 227 (BX12_odd_3_1 (72, 180, 0, 227) (List.mem_of_getElem? (i := 1) rfl))
theorem dX12_odd_75 : decode cX12_odd 75 = .ok (.if_icmp .ge 39, 3) := dk162 0 39 (BX12_odd_3_1 (75, 162, 0, 39) (List.mem_of_getElem? (i := 2) rfl))
theorem dX12_odd_78 : decode cX12_odd 78 = .ok (.iload_n 3, 1) := dk29 (BX12_odd_1_2 (78, 29) (List.mem_of_getElem? (i := 3) rfl))
theorem dX12_odd_79 : decode cX12_odd 79 = .ok (.aload_n 0, 1) := dk42 (BX12_odd_1_2 (79, 42) (List.mem_of_getElem? (i := 4) rfl))
theorem dX12_odd_80 : decode cX12_odd 80 = .ok (.getfield 62, 3) := dk180 0 62 (BX12_odd_3_1 (80, 180, 0, 62) (List.mem_of_getElem? (i := 3) rfl))
theorem dX12_odd_83 : decode cX12_odd 83 = .ok (.iload 4, 2) := dk21 4 (BX12_odd_2_0 (83, 21, 4) (List.mem_of_getElem? (i := 3) rfl))
theorem dX12_odd_85 : decode cX12_odd 85 = .ok (.iaload, 1) := dk46 (BX12_odd_1_2 (85, 46) (List.mem_of_getElem? (i := 5) rfl))
theorem dX12_odd_86 : decode cX12_odd 86 = .ok (.iload_n 1, 1) := dk27 (BX12_odd_1_2 (86, 27) (List.mem_of_getElem? (i := 6) rfl))
theorem dX12_odd_87 : decode cX12_odd 87 = .ok (.if_icmp .ne 18, 3) := dk160 0 18 (BX12_odd_3_1 (87, 160, 0, 18) (List.mem_of_getElem? (i := 4) rfl))
theorem dX12_odd_90 : decode cX12_odd 90 = .ok (.aload_n 0, 1) := dk42 (BX12_odd_1_2 (90, 42) (List.mem_of_getElem? (i := 7) rfl))
theorem dX12_odd_91 : decode cX12_odd 91 = .ok (.getfield 9, 3) := dk180 0 9 (BX12_odd_3_1 (91, 180, 0, 9) (List.mem_of_getElem? (i := 5) rfl))
theorem dX12_odd_94 : decode cX12_odd 94 = .ok (.iload 4, 2) := dk21 4 (BX12_odd_2_0 (94, 21, 4) (List.mem_of_getElem? (i := 4) rfl))
theorem dX12_odd_96 : decode cX12_odd 96 = .ok (.iaload, 1) := dk46 (BX12_odd_1_2 (96, 46) (List.mem_of_getElem? (i := 8) rfl))
theorem dX12_odd_97 : decode cX12_odd 97 = .ok (.iload_n 2, 1) := dk28 (BX12_odd_1_2 (97, 28) (List.mem_of_getElem? (i := 9) rfl))
theorem dX12_odd_98 : decode cX12_odd 98 = .ok (.if_icmp .le 7, 3) := dk164 0 7 (BX12_odd_3_1 (98, 164, 0, 7) (List.mem_of_getElem? (i := 6) rfl))
theorem dX12_odd_101 : decode cX12_odd 101 = .ok (.iconst 1, 1) := dk4 (BX12_odd_1_2 (101, 4) (List.mem_of_getElem? (i := 10) rfl))
theorem dX12_odd_102 : decode cX12_odd 102 = .ok (.goto 4, 3) := dk167 0 4 (BX12_odd_3_1 (102, 167, 0, 4) (List.mem_of_getElem? (i := 7) rfl))
theorem dX12_odd_105 : decode cX12_odd 105 = .ok (.iconst 0, 1) := dk3 (BX12_odd_1_2 (105, 3) (List.mem_of_getElem? (i := 11) rfl))
theorem dX12_odd_106 : decode cX12_odd 106 = .ok (.iadd, 1) := dk96 (BX12_odd_1_3 (106, 96) (List.mem_of_getElem? (i := 0) rfl))
theorem dX12_odd_107 : decode cX12_odd 107 = .ok (.istore_n 3, 1) := dk62 (BX12_odd_1_3 (107, 62) (List.mem_of_getElem? (i := 1) rfl))
theorem dX12_odd_108 : decode cX12_odd 108 = .ok (.iinc 4 1, 3) := dk132 4 1 (BX12_odd_3_1 (108, 132, 4, 1) (List.mem_of_getElem? (i := 8) rfl))
theorem dX12_odd_111 : decode cX12_odd 111 = .ok (.goto (-42), 3) := dk167 255 214 (BX12_odd_3_1 (111, 167, 255, 214) (List.mem_of_getElem? (i := 9) rfl))
theorem dX12_odd_114 : decode cX12_odd 114 = .ok (.iload_n 3, 1) := dk29 (BX12_odd_1_3 (114, 29) (List.mem_of_getElem? (i := 2) rfl))
theorem dX12_odd_115 : decode cX12_odd 115 = .ok (.ireturn, 1) := dk172 (BX12_odd_1_3 (115, 172) (List.mem_of_getElem? (i := 3) rfl))
set_option maxRecDepth 20000 in
theorem SX12_sumOwn : ∀ p : Nat, gb cX12_sumOwn p = segF [[3, 61, 3, 62, 29, 27, 162, 0, 31, 28, 42, 180, 0, 68, 29, 51, 153, 0, 12, 42, 180, 0, 65, 29, 46, 167, 0, 4, 3, 96, 61, 132, 3, 1, 167, 255, 226, 28, 172]] p := seg_gb (S := [[3, 61, 3, 62, 29, 27, 162, 0, 31, 28, 42, 180, 0, 68, 29, 51, 153, 0, 12, 42, 180, 0, 65, 29, 46, 167, 0, 4, 3, 96, 61, 132, 3, 1, 167, 255, 226, 28, 172]]) (by decide +kernel) (by decide +kernel)
set_option maxRecDepth 20000 in
theorem BX12_sumOwn_1_0 : ∀ q ∈ ([(0, 3), (1, 61), (2, 3), (3, 62), (4, 29), (5, 27), (9, 28), (10, 42), (14, 29), (15, 51), (19, 42), (23, 29)] : List (Nat × Nat)), gb cX12_sumOwn q.1 = some q.2 := seg_1 SX12_sumOwn _ (by decide +kernel)
set_option maxRecDepth 20000 in
theorem BX12_sumOwn_1_1 : ∀ q ∈ ([(24, 46), (28, 3), (29, 96), (30, 61), (37, 28), (38, 172)] : List (Nat × Nat)), gb cX12_sumOwn q.1 = some q.2 := seg_1 SX12_sumOwn _ (by decide +kernel)
set_option maxRecDepth 20000 in
theorem BX12_sumOwn_3_0 : ∀ q ∈ ([(6, 162, 0, 31), (11, 180, 0, 68), (16, 153, 0, 12), (20, 180, 0, 65), (25, 167, 0, 4), (31, 132, 3, 1), (34, 167, 255, 226)] : List (Nat × Nat × Nat × Nat)), gb cX12_sumOwn q.1 = some q.2.1 ∧ gb cX12_sumOwn (q.1 + 1) = some q.2.2.1 ∧ gb cX12_sumOwn (q.1 + 2) = some q.2.2.2 := seg_3 SX12_sumOwn _ (by decide +kernel)
theorem dX12_sumOwn_0 : decode cX12_sumOwn 0 = .ok (.iconst 0, 1) := dk3 (BX12_sumOwn_1_0 (0, 3) (List.mem_of_getElem? (i := 0) rfl))
theorem dX12_sumOwn_1 : decode cX12_sumOwn 1 = .ok (.istore_n 2, 1) := dk61 (BX12_sumOwn_1_0 (1, 61) (List.mem_of_getElem? (i := 1) rfl))
theorem dX12_sumOwn_2 : decode cX12_sumOwn 2 = .ok (.iconst 0, 1) := dk3 (BX12_sumOwn_1_0 (2, 3) (List.mem_of_getElem? (i := 2) rfl))
theorem dX12_sumOwn_3 : decode cX12_sumOwn 3 = .ok (.istore_n 3, 1) := dk62 (BX12_sumOwn_1_0 (3, 62) (List.mem_of_getElem? (i := 3) rfl))
theorem dX12_sumOwn_4 : decode cX12_sumOwn 4 = .ok (.iload_n 3, 1) := dk29 (BX12_sumOwn_1_0 (4, 29) (List.mem_of_getElem? (i := 4) rfl))
theorem dX12_sumOwn_5 : decode cX12_sumOwn 5 = .ok (.iload_n 1, 1) := dk27 (BX12_sumOwn_1_0 (5, 27) (List.mem_of_getElem? (i := 5) rfl))
theorem dX12_sumOwn_6 : decode cX12_sumOwn 6 = .ok (.if_icmp .ge 31, 3) := dk162 0 31 (BX12_sumOwn_3_0 (6, 162, 0, 31) (List.mem_of_getElem? (i := 0) rfl))
theorem dX12_sumOwn_9 : decode cX12_sumOwn 9 = .ok (.iload_n 2, 1) := dk28 (BX12_sumOwn_1_0 (9, 28) (List.mem_of_getElem? (i := 6) rfl))
theorem dX12_sumOwn_10 : decode cX12_sumOwn 10 = .ok (.aload_n 0, 1) := dk42 (BX12_sumOwn_1_0 (10, 42) (List.mem_of_getElem? (i := 7) rfl))
theorem dX12_sumOwn_11 : decode cX12_sumOwn 11 = .ok (.getfield 68, 3) := dk180 0 68 (BX12_sumOwn_3_0 (11, 180, 0, 68) (List.mem_of_getElem? (i := 1) rfl))
theorem dX12_sumOwn_14 : decode cX12_sumOwn 14 = .ok (.iload_n 3, 1) := dk29 (BX12_sumOwn_1_0 (14, 29) (List.mem_of_getElem? (i := 8) rfl))
theorem dX12_sumOwn_15 : decode cX12_sumOwn 15 = .ok (.baload, 1) := dk51 (BX12_sumOwn_1_0 (15, 51) (List.mem_of_getElem? (i := 9) rfl))
theorem dX12_sumOwn_16 : decode cX12_sumOwn 16 = .ok (.ifCond .eq 12, 3) := dk153 0 12 (BX12_sumOwn_3_0 (16, 153, 0, 12) (List.mem_of_getElem? (i := 2) rfl))
theorem dX12_sumOwn_19 : decode cX12_sumOwn 19 = .ok (.aload_n 0, 1) := dk42 (BX12_sumOwn_1_0 (19, 42) (List.mem_of_getElem? (i := 10) rfl))
theorem dX12_sumOwn_20 : decode cX12_sumOwn 20 = .ok (.getfield 65, 3) := dk180 0 65 (BX12_sumOwn_3_0 (20, 180, 0, 65) (List.mem_of_getElem? (i := 3) rfl))
theorem dX12_sumOwn_23 : decode cX12_sumOwn 23 = .ok (.iload_n 3, 1) := dk29 (BX12_sumOwn_1_0 (23, 29) (List.mem_of_getElem? (i := 11) rfl))
theorem dX12_sumOwn_24 : decode cX12_sumOwn 24 = .ok (.iaload, 1) := dk46 (BX12_sumOwn_1_1 (24, 46) (List.mem_of_getElem? (i := 0) rfl))
theorem dX12_sumOwn_25 : decode cX12_sumOwn 25 = .ok (.goto 4, 3) := dk167 0 4 (BX12_sumOwn_3_0 (25, 167, 0, 4) (List.mem_of_getElem? (i := 4) rfl))
theorem dX12_sumOwn_28 : decode cX12_sumOwn 28 = .ok (.iconst 0, 1) := dk3 (BX12_sumOwn_1_1 (28, 3) (List.mem_of_getElem? (i := 1) rfl))
theorem dX12_sumOwn_29 : decode cX12_sumOwn 29 = .ok (.iadd, 1) := dk96 (BX12_sumOwn_1_1 (29, 96) (List.mem_of_getElem? (i := 2) rfl))
theorem dX12_sumOwn_30 : decode cX12_sumOwn 30 = .ok (.istore_n 2, 1) := dk61 (BX12_sumOwn_1_1 (30, 61) (List.mem_of_getElem? (i := 3) rfl))
theorem dX12_sumOwn_31 : decode cX12_sumOwn 31 = .ok (.iinc 3 1, 3) := dk132 3 1 (BX12_sumOwn_3_0 (31, 132, 3, 1) (List.mem_of_getElem? (i := 5) rfl))
theorem dX12_sumOwn_34 : decode cX12_sumOwn 34 = .ok (.goto (-30), 3) := dk167 255 226 (BX12_sumOwn_3_0 (34, 167, 255, 226) (List.mem_of_getElem? (i := 6) rfl))
theorem dX12_sumOwn_37 : decode cX12_sumOwn 37 = .ok (.iload_n 2, 1) := dk28 (BX12_sumOwn_1_1 (37, 28) (List.mem_of_getElem? (i := 4) rfl))
theorem dX12_sumOwn_38 : decode cX12_sumOwn 38 = .ok (.ireturn, 1) := dk172 (BX12_sumOwn_1_1 (38, 172) (List.mem_of_getElem? (i := 5) rfl))
set_option maxRecDepth 20000 in
theorem ggX12_chance_X12_within : GoodIn wsX12_chance wsX12_within := goodIn_g ch_wsX12_chance_flat gd_wsX12_chance _ [(1, 11)] rfl
set_option maxRecDepth 20000 in
theorem gX12_chance_X12_within : GoodIn wsX12_chance (va_wsS RX12 136 yX12_within wsX12_within) := goodIn_app (goodIn_g ch_wsX12_chance_flat gd_wsX12_chance _ [(1, 8), (1, 9), (1, 10)] rfl) ggX12_chance_X12_within
set_option maxRecDepth 20000 in
theorem ggX12_chance_X12_meanOf : GoodIn wsX12_chance wsX12_meanOf := gcons (goodIn_g ch_wsX12_chance_flat gd_wsX12_chance _ [(1, 15)] rfl) (goodIn_app (goodIn_g ch_wsX12_chance_flat gd_wsX12_chance _ [(1, 2), (1, 16), (1, 3), (1, 5), (1, 8), (1, 9), (1, 10), (1, 11)] rfl) (gchunk ch_wsX12_chance_flat gd_wsX12_chance 2 rfl))
set_option maxRecDepth 20000 in
theorem gX12_chance_X12_meanOf : GoodIn wsX12_chance (wsV RX12 243 RX12 yX12_meanOf wsX12_meanOf) := goodIn_app (goodIn_g ch_wsX12_chance_flat gd_wsX12_chance _ [(1, 12), (1, 13), (1, 14), (1, 10)] rfl) ggX12_chance_X12_meanOf
set_option maxRecDepth 20000 in
theorem ggX12_chance_X12_sumOwn : GoodIn wsX12_chance wsX12_sumOwn := gcons (goodIn_g ch_wsX12_chance_flat gd_wsX12_chance _ [(1, 20)] rfl) (goodIn_app (goodIn_g ch_wsX12_chance_flat gd_wsX12_chance _ [(1, 6), (1, 4)] rfl) (gchunk ch_wsX12_chance_flat gd_wsX12_chance 2 rfl))
set_option maxRecDepth 20000 in
theorem gX12_chance_X12_sumOwn : GoodIn wsX12_chance (wsV RX12 251 RX12 yX12_sumOwn wsX12_sumOwn) := goodIn_app (goodIn_g ch_wsX12_chance_flat gd_wsX12_chance _ [(1, 17), (1, 18), (1, 19), (1, 10)] rfl) ggX12_chance_X12_sumOwn
set_option maxRecDepth 20000 in
theorem SX12_chance : ∀ p : Nat, gb cX12_chance p = segF [[27, 133, 9, 20, 0, 247, 184, 0, 136, 153, 0, 15, 29, 133, 10, 20, 0, 249, 184, 0, 136, 154, 0, 5, 2, 172, 42, 8, 27, 27, 182, 0, 243, 16, 254, 159, 0, 17, 42, 8, 16, 7, 16, 7, 182, 0, 243, 16, 254, 160, 0, 6, 16, 254, 172, 3, 54, 4, 3, 54, 5, 21, 5, 42], [180, 0, 227, 162, 0, 72, 42, 180, 0, 62, 21, 5, 46, 27, 159, 0, 15, 42, 180, 0, 62, 21, 5, 46, 16, 7, 160, 0, 43, 42, 180, 0, 65, 21, 4, 42, 180, 0, 9, 21, 5, 46, 79, 42, 180, 0, 68, 21, 4, 42, 180, 0, 62, 21, 5, 46, 27, 160, 0, 7, 4, 167, 0, 4], [3, 84, 132, 4, 1, 132, 5, 1, 167, 255, 181, 42, 21, 4, 182, 0, 251, 54, 5, 28, 54, 6, 3, 54, 7, 3, 54, 8, 21, 8, 29, 162, 0, 102, 21, 4, 4, 100, 54, 9, 21, 9, 158, 0, 64, 21, 6, 18, 255, 104, 17, 48, 57, 96, 54, 6, 21, 6, 16, 8, 124, 21, 9, 4], [96, 112, 54, 10, 42, 180, 0, 65, 21, 9, 46, 54, 11, 42, 180, 0, 65, 21, 9, 42, 180, 0, 65, 21, 10, 46, 79, 42, 180, 0, 65, 21, 10, 21, 11, 79, 132, 9, 255, 167, 255, 193, 21, 7, 42, 21, 4, 182, 0, 251, 21, 5, 161, 0, 7, 4, 167, 0, 4, 3, 96, 54, 7, 132], [8, 1, 167, 255, 154, 21, 7, 172]] p := seg_gb (S := [[27, 133, 9, 20, 0, 247, 184, 0, 136, 153, 0, 15, 29, 133, 10, 20, 0, 249, 184, 0, 136, 154, 0, 5, 2, 172, 42, 8, 27, 27, 182, 0, 243, 16, 254, 159, 0, 17, 42, 8, 16, 7, 16, 7, 182, 0, 243, 16, 254, 160, 0, 6, 16, 254, 172, 3, 54, 4, 3, 54, 5, 21, 5, 42], [180, 0, 227, 162, 0, 72, 42, 180, 0, 62, 21, 5, 46, 27, 159, 0, 15, 42, 180, 0, 62, 21, 5, 46, 16, 7, 160, 0, 43, 42, 180, 0, 65, 21, 4, 42, 180, 0, 9, 21, 5, 46, 79, 42, 180, 0, 68, 21, 4, 42, 180, 0, 62, 21, 5, 46, 27, 160, 0, 7, 4, 167, 0, 4], [3, 84, 132, 4, 1, 132, 5, 1, 167, 255, 181, 42, 21, 4, 182, 0, 251, 54, 5, 28, 54, 6, 3, 54, 7, 3, 54, 8, 21, 8, 29, 162, 0, 102, 21, 4, 4, 100, 54, 9, 21, 9, 158, 0, 64, 21, 6, 18, 255, 104, 17, 48, 57, 96, 54, 6, 21, 6, 16, 8, 124, 21, 9, 4], [96, 112, 54, 10, 42, 180, 0, 65, 21, 9, 46, 54, 11, 42, 180, 0, 65, 21, 9, 42, 180, 0, 65, 21, 10, 46, 79, 42, 180, 0, 65, 21, 10, 21, 11, 79, 132, 9, 255, 167, 255, 193, 21, 7, 42, 21, 4, 182, 0, 251, 21, 5, 161, 0, 7, 4, 167, 0, 4, 3, 96, 54, 7, 132], [8, 1, 167, 255, 154, 21, 7, 172]]) (by decide +kernel) (by decide +kernel)
set_option maxRecDepth 20000 in
theorem BX12_chance_1_0 : ∀ q ∈ ([(0, 27), (1, 133), (2, 9), (12, 29), (13, 133), (14, 10), (24, 2), (25, 172), (26, 42), (27, 8), (28, 27), (29, 27)] : List (Nat × Nat)), gb cX12_chance q.1 = some q.2 := seg_1 SX12_chance _ (by decide +kernel)
set_option maxRecDepth 20000 in
theorem BX12_chance_1_1 : ∀ q ∈ ([(38, 42), (39, 8), (54, 172), (55, 3), (58, 3), (63, 42), (70, 42), (76, 46), (77, 27), (81, 42), (87, 46), (93, 42)] : List (Nat × Nat)), gb cX12_chance q.1 = some q.2 := seg_1 SX12_chance _ (by decide +kernel)
set_option maxRecDepth 20000 in
theorem BX12_chance_1_2 : ∀ q ∈ ([(99, 42), (105, 46), (106, 79), (107, 42), (113, 42), (119, 46), (120, 27), (124, 4), (128, 3), (129, 84), (139, 42), (147, 28)] : List (Nat × Nat)), gb cX12_chance q.1 = some q.2 := seg_1 SX12_chance _ (by decide +kernel)
set_option maxRecDepth 20000 in
theorem BX12_chance_1_3 : ∀ q ∈ ([(150, 3), (153, 3), (158, 29), (164, 4), (165, 100), (177, 104), (181, 96), (188, 124), (191, 4), (192, 96), (193, 112), (196, 42)] : List (Nat × Nat)), gb cX12_chance q.1 = some q.2 := seg_1 SX12_chance _ (by decide +kernel)
set_option maxRecDepth 20000 in
theorem BX12_chance_1_4 : ∀ q ∈ ([(202, 46), (205, 42), (211, 42), (217, 46), (218, 79), (219, 42), (227, 79), (236, 42), (247, 4), (251, 3), (252, 96), (263, 172)] : List (Nat × Nat)), gb cX12_chance q.1 = some q.2 := seg_1 SX12_chance _ (by decide +kernel)
set_option maxRecDepth 20000 in
theorem BX12_chance_2_0 : ∀ q ∈ ([(33, 16, 254), (40, 16, 7), (42, 16, 7), (47, 16, 254), (52, 16, 254), (56, 54, 4), (59, 54, 5), (61, 21, 5), (74, 21, 5), (85, 21, 5), (88, 16, 7), (97, 21, 4)] : List (Nat × Nat × Nat)), gb cX12_chance q.1 = some q.2.1 ∧ gb cX12_chance (q.1 + 1) = some q.2.2 := seg_2 SX12_chance _ (by decide +kernel)
set_option maxRecDepth 20000 in
theorem BX12_chance_2_1 : ∀ q ∈ ([(103, 21, 5), (111, 21, 4), (117, 21, 5), (140, 21, 4), (145, 54, 5), (148, 54, 6), (151, 54, 7), (154, 54, 8), (156, 21, 8), (162, 21, 4), (166, 54, 9), (168, 21, 9)] : List (Nat × Nat × Nat)), gb cX12_chance q.1 = some q.2.1 ∧ gb cX12_chance (q.1 + 1) = some q.2.2 := seg_2 SX12_chance _ (by decide +kernel)
set_option maxRecDepth 20000 in
theorem BX12_chance_2_2 : ∀ q ∈ ([(173, 21, 6), (175, 18, 255), (182, 54, 6), (184, 21, 6), (186, 16, 8), (189, 21, 9), (194, 54, 10), (200, 21, 9), (203, 54, 11), (209, 21, 9), (215, 21, 10), (223, 21, 10)] : List (Nat × Nat × Nat)), gb cX12_chance q.1 = some q.2.1 ∧ gb cX12_chance (q.1 + 1) = some q.2.2 := seg_2 SX12_chance _ (by decide +kernel)
set_option maxRecDepth 20000 in
theorem BX12_chance_2_3 : ∀ q ∈ ([(225, 21, 11), (234, 21, 7), (237, 21, 4), (242, 21, 5), (253, 54, 7), (261, 21, 7)] : List (Nat × Nat × Nat)), gb cX12_chance q.1 = some q.2.1 ∧ gb cX12_chance (q.1 + 1) = some q.2.2 := seg_2 SX12_chance _ (by decide +kernel)
set_option maxRecDepth 20000 in
theorem BX12_chance_3_0 : ∀ q ∈ ([(3, 20, 0, 247), (6, 184, 0, 136), (9, 153, 0, 15), (15, 20, 0, 249), (18, 184, 0, 136), (21, 154, 0, 5), (30, 182, 0, 243), (35, 159, 0, 17), (44, 182, 0, 243), (49, 160, 0, 6), (64, 180, 0, 227), (67, 162, 0, 72)] : List (Nat × Nat × Nat × Nat)), gb cX12_chance q.1 = some q.2.1 ∧ gb cX12_chance (q.1 + 1) = some q.2.2.1 ∧ gb cX12_chance (q.1 + 2) = some q.2.2.2 := seg_3 SX12_chance _ (by decide +kernel)
set_option maxRecDepth 20000 in
theorem BX12_chance_3_1 : ∀ q ∈ ([(71, 180, 0, 62), (78, 159, 0, 15), (82, 180, 0, 62), (90, 160, 0, 43), (94, 180, 0, 65), (100, 180, 0, 9), (108, 180, 0, 68), (114, 180, 0, 62), (121, 160, 0, 7), (125, 167, 0, 4), (130, 132, 4, 1), (133, 132, 5, 1)] : List (Nat × Nat × Nat × Nat)), gb cX12_chance q.1 = some q.2.1 ∧ gb cX12_chance (q.1 + 1) = some q.2.2.1 ∧ gb cX12_chance (q.1 + 2) = some q.2.2.2 := seg_3 SX12_chance _ (by decide +kernel)
set_option maxRecDepth 20000 in
theorem BX12_chance_3_2 : ∀ q ∈ ([(136, 167, 255, 181), (142, 182, 0, 251), (159, 162, 0, 102), (170, 158, 0, 64), (178, 17, 48, 57), (197, 180, 0, 65), (206, 180, 0, 65), (212, 180, 0, 65), (220, 180, 0, 65), (228, 132, 9, 255), (231, 167, 255, 193), (239, 182, 0, 251)] : List (Nat × Nat × Nat × Nat)), gb cX12_chance q.1 = some q.2.1 ∧ gb cX12_chance (q.1 + 1) = some q.2.2.1 ∧ gb cX12_chance (q.1 + 2) = some q.2.2.2 := seg_3 SX12_chance _ (by decide +kernel)
set_option maxRecDepth 20000 in
theorem BX12_chance_3_3 : ∀ q ∈ ([(244, 161, 0, 7), (248, 167, 0, 4), (255, 132, 8, 1), (258, 167, 255, 154)] : List (Nat × Nat × Nat × Nat)), gb cX12_chance q.1 = some q.2.1 ∧ gb cX12_chance (q.1 + 1) = some q.2.2.1 ∧ gb cX12_chance (q.1 + 2) = some q.2.2.2 := seg_3 SX12_chance _ (by decide +kernel)
theorem dX12_chance_0 : decode cX12_chance 0 = .ok (.iload_n 1, 1) := dk27 (BX12_chance_1_0 (0, 27) (List.mem_of_getElem? (i := 0) rfl))
theorem dX12_chance_1 : decode cX12_chance 1 = .ok (.i2l, 1) := dk133 (BX12_chance_1_0 (1, 133) (List.mem_of_getElem? (i := 1) rfl))
theorem dX12_chance_2 : decode cX12_chance 2 = .ok (.lconst 0, 1) := dk9 (BX12_chance_1_0 (2, 9) (List.mem_of_getElem? (i := 2) rfl))
theorem dX12_chance_3 : decode cX12_chance 3 = .ok (.ldc2_w 247, 3) := dk20 0 247 (BX12_chance_3_0 (3, 20, 0, 247) (List.mem_of_getElem? (i := 0) rfl))
theorem dX12_chance_6 : decode cX12_chance 6 = .ok (.invokestatic 136, 3) := dk184 0 136 (BX12_chance_3_0 (6, 184, 0, 136) (List.mem_of_getElem? (i := 1) rfl))
theorem dX12_chance_9 : decode cX12_chance 9 = .ok (.ifCond .eq 15, 3) := dk153 0 15 (BX12_chance_3_0 (9, 153, 0, 15) (List.mem_of_getElem? (i := 2) rfl))
theorem dX12_chance_12 : decode cX12_chance 12 = .ok (.iload_n 3, 1) := dk29 (BX12_chance_1_0 (12, 29) (List.mem_of_getElem? (i := 3) rfl))
theorem dX12_chance_13 : decode cX12_chance 13 = .ok (.i2l, 1) := dk133 (BX12_chance_1_0 (13, 133) (List.mem_of_getElem? (i := 4) rfl))
theorem dX12_chance_14 : decode cX12_chance 14 = .ok (.lconst 1, 1) := dk10 (BX12_chance_1_0 (14, 10) (List.mem_of_getElem? (i := 5) rfl))
theorem dX12_chance_15 : decode cX12_chance 15 = .ok (.ldc2_w 249, 3) := dk20 0 249 (BX12_chance_3_0 (15, 20, 0, 249) (List.mem_of_getElem? (i := 3) rfl))
theorem dX12_chance_18 : decode cX12_chance 18 = .ok (.invokestatic 136, 3) := dk184 0 136 (BX12_chance_3_0 (18, 184, 0, 136) (List.mem_of_getElem? (i := 4) rfl))
theorem dX12_chance_21 : decode cX12_chance 21 = .ok (.ifCond .ne 5, 3) := dk154 0 5 (BX12_chance_3_0 (21, 154, 0, 5) (List.mem_of_getElem? (i := 5) rfl))
theorem dX12_chance_24 : decode cX12_chance 24 = .ok (.iconst (-1), 1) := dk2 (BX12_chance_1_0 (24, 2) (List.mem_of_getElem? (i := 6) rfl))
theorem dX12_chance_25 : decode cX12_chance 25 = .ok (.ireturn, 1) := dk172 (BX12_chance_1_0 (25, 172) (List.mem_of_getElem? (i := 7) rfl))
theorem dX12_chance_26 : decode cX12_chance 26 = .ok (.aload_n 0, 1) := dk42 (BX12_chance_1_0 (26, 42) (List.mem_of_getElem? (i := 8) rfl))
theorem dX12_chance_27 : decode cX12_chance 27 = .ok (.iconst 5, 1) := dk8 (BX12_chance_1_0 (27, 8) (List.mem_of_getElem? (i := 9) rfl))
theorem dX12_chance_28 : decode cX12_chance 28 = .ok (.iload_n 1, 1) := dk27 (BX12_chance_1_0 (28, 27) (List.mem_of_getElem? (i := 10) rfl))
theorem dX12_chance_29 : decode cX12_chance 29 = .ok (.iload_n 1, 1) := dk27 (BX12_chance_1_0 (29, 27) (List.mem_of_getElem? (i := 11) rfl))
theorem dX12_chance_30 : decode cX12_chance 30 = .ok (.invokevirtual 243, 3) := dk182 0 243 (BX12_chance_3_0 (30, 182, 0, 243) (List.mem_of_getElem? (i := 6) rfl))
theorem dX12_chance_33 : decode cX12_chance 33 = .ok (.bipush (-2), 2) := dk16 254 (BX12_chance_2_0 (33, 16, 254) (List.mem_of_getElem? (i := 0) rfl))
theorem dX12_chance_35 : decode cX12_chance 35 = .ok (.if_icmp .eq 17, 3) := dk159 0 17 (BX12_chance_3_0 (35, 159, 0, 17) (List.mem_of_getElem? (i := 7) rfl))
theorem dX12_chance_38 : decode cX12_chance 38 = .ok (.aload_n 0, 1) := dk42 (BX12_chance_1_1 (38, 42) (List.mem_of_getElem? (i := 0) rfl))
theorem dX12_chance_39 : decode cX12_chance 39 = .ok (.iconst 5, 1) := dk8 (BX12_chance_1_1 (39, 8) (List.mem_of_getElem? (i := 1) rfl))
theorem dX12_chance_40 : decode cX12_chance 40 = .ok (.bipush 7, 2) := dk16 7 (BX12_chance_2_0 (40, 16, 7) (List.mem_of_getElem? (i := 1) rfl))
theorem dX12_chance_42 : decode cX12_chance 42 = .ok (.bipush 7, 2) := dk16 7 (BX12_chance_2_0 (42, 16, 7) (List.mem_of_getElem? (i := 2) rfl))
theorem dX12_chance_44 : decode cX12_chance 44 = .ok (.invokevirtual 243, 3) := dk182 0 243 (BX12_chance_3_0 (44, 182, 0, 243) (List.mem_of_getElem? (i := 8) rfl))
theorem dX12_chance_47 : decode cX12_chance 47 = .ok (.bipush (-2), 2) := dk16 254 (BX12_chance_2_0 (47, 16, 254) (List.mem_of_getElem? (i := 3) rfl))
theorem dX12_chance_49 : decode cX12_chance 49 = .ok (.if_icmp .ne 6, 3) := dk160 0 6 (BX12_chance_3_0 (49, 160, 0, 6) (List.mem_of_getElem? (i := 9) rfl))
theorem dX12_chance_52 : decode cX12_chance 52 = .ok (.bipush (-2), 2) := dk16 254 (BX12_chance_2_0 (52, 16, 254) (List.mem_of_getElem? (i := 4) rfl))
theorem dX12_chance_54 : decode cX12_chance 54 = .ok (.ireturn, 1) := dk172 (BX12_chance_1_1 (54, 172) (List.mem_of_getElem? (i := 2) rfl))
theorem dX12_chance_55 : decode cX12_chance 55 = .ok (.iconst 0, 1) := dk3 (BX12_chance_1_1 (55, 3) (List.mem_of_getElem? (i := 3) rfl))
theorem dX12_chance_56 : decode cX12_chance 56 = .ok (.istore 4, 2) := dk54 4 (BX12_chance_2_0 (56, 54, 4) (List.mem_of_getElem? (i := 5) rfl))
theorem dX12_chance_58 : decode cX12_chance 58 = .ok (.iconst 0, 1) := dk3 (BX12_chance_1_1 (58, 3) (List.mem_of_getElem? (i := 4) rfl))
theorem dX12_chance_59 : decode cX12_chance 59 = .ok (.istore 5, 2) := dk54 5 (BX12_chance_2_0 (59, 54, 5) (List.mem_of_getElem? (i := 6) rfl))
theorem dX12_chance_61 : decode cX12_chance 61 = .ok (.iload 5, 2) := dk21 5 (BX12_chance_2_0 (61, 21, 5) (List.mem_of_getElem? (i := 7) rfl))
theorem dX12_chance_63 : decode cX12_chance 63 = .ok (.aload_n 0, 1) := dk42 (BX12_chance_1_1 (63, 42) (List.mem_of_getElem? (i := 5) rfl))
theorem dX12_chance_64 : decode cX12_chance 64 = .ok (.getfield 227, 3) := dk180 0 227 (BX12_chance_3_0 (64, 180, 0, 227) (List.mem_of_getElem? (i := 10) rfl))
theorem dX12_chance_67 : decode cX12_chance 67 = .ok (.if_icmp .ge 72, 3) := dk162 0 72 (BX12_chance_3_0 (67, 162, 0, 72) (List.mem_of_getElem? (i := 11) rfl))
theorem dX12_chance_70 : decode cX12_chance 70 = .ok (.aload_n 0, 1) := dk42 (BX12_chance_1_1 (70, 42) (List.mem_of_getElem? (i := 6) rfl))
theorem dX12_chance_71 : decode cX12_chance 71 = .ok (.getfield 62, 3) := dk180 0 62 (BX12_chance_3_1 (71, 180, 0, 62) (List.mem_of_getElem? (i := 0) rfl))
theorem dX12_chance_74 : decode cX12_chance 74 = .ok (.iload 5, 2) := dk21 5 (BX12_chance_2_0 (74, 21, 5) (List.mem_of_getElem? (i := 8) rfl))
theorem dX12_chance_76 : decode cX12_chance 76 = .ok (.iaload, 1) := dk46 (BX12_chance_1_1 (76, 46) (List.mem_of_getElem? (i := 7) rfl))
theorem dX12_chance_77 : decode cX12_chance 77 = .ok (.iload_n 1, 1) := dk27 (BX12_chance_1_1 (77, 27) (List.mem_of_getElem? (i := 8) rfl))
theorem dX12_chance_78 : decode cX12_chance 78 = .ok (.if_icmp .eq 15, 3) := dk159 0 15 (BX12_chance_3_1 (78, 159, 0, 15) (List.mem_of_getElem? (i := 1) rfl))
theorem dX12_chance_81 : decode cX12_chance 81 = .ok (.aload_n 0, 1) := dk42 (BX12_chance_1_1 (81, 42) (List.mem_of_getElem? (i := 9) rfl))
theorem dX12_chance_82 : decode cX12_chance 82 = .ok (.getfield 62, 3) := dk180 0 62 (BX12_chance_3_1 (82, 180, 0, 62) (List.mem_of_getElem? (i := 2) rfl))
theorem dX12_chance_85 : decode cX12_chance 85 = .ok (.iload 5, 2) := dk21 5 (BX12_chance_2_0 (85, 21, 5) (List.mem_of_getElem? (i := 9) rfl))
theorem dX12_chance_87 : decode cX12_chance 87 = .ok (.iaload, 1) := dk46 (BX12_chance_1_1 (87, 46) (List.mem_of_getElem? (i := 10) rfl))
theorem dX12_chance_88 : decode cX12_chance 88 = .ok (.bipush 7, 2) := dk16 7 (BX12_chance_2_0 (88, 16, 7) (List.mem_of_getElem? (i := 10) rfl))
theorem dX12_chance_90 : decode cX12_chance 90 = .ok (.if_icmp .ne 43, 3) := dk160 0 43 (BX12_chance_3_1 (90, 160, 0, 43) (List.mem_of_getElem? (i := 3) rfl))
theorem dX12_chance_93 : decode cX12_chance 93 = .ok (.aload_n 0, 1) := dk42 (BX12_chance_1_1 (93, 42) (List.mem_of_getElem? (i := 11) rfl))
theorem dX12_chance_94 : decode cX12_chance 94 = .ok (.getfield 65, 3) := dk180 0 65 (BX12_chance_3_1 (94, 180, 0, 65) (List.mem_of_getElem? (i := 4) rfl))
theorem dX12_chance_97 : decode cX12_chance 97 = .ok (.iload 4, 2) := dk21 4 (BX12_chance_2_0 (97, 21, 4) (List.mem_of_getElem? (i := 11) rfl))
theorem dX12_chance_99 : decode cX12_chance 99 = .ok (.aload_n 0, 1) := dk42 (BX12_chance_1_2 (99, 42) (List.mem_of_getElem? (i := 0) rfl))
theorem dX12_chance_100 : decode cX12_chance 100 = .ok (.getfield 9, 3) := dk180 0 9 (BX12_chance_3_1 (100, 180, 0, 9) (List.mem_of_getElem? (i := 5) rfl))
theorem dX12_chance_103 : decode cX12_chance 103 = .ok (.iload 5, 2) := dk21 5 (BX12_chance_2_1 (103, 21, 5) (List.mem_of_getElem? (i := 0) rfl))
theorem dX12_chance_105 : decode cX12_chance 105 = .ok (.iaload, 1) := dk46 (BX12_chance_1_2 (105, 46) (List.mem_of_getElem? (i := 1) rfl))
theorem dX12_chance_106 : decode cX12_chance 106 = .ok (.iastore, 1) := dk79 (BX12_chance_1_2 (106, 79) (List.mem_of_getElem? (i := 2) rfl))
theorem dX12_chance_107 : decode cX12_chance 107 = .ok (.aload_n 0, 1) := dk42 (BX12_chance_1_2 (107, 42) (List.mem_of_getElem? (i := 3) rfl))
theorem dX12_chance_108 : decode cX12_chance 108 = .ok (.getfield 68, 3) := dk180 0 68 (BX12_chance_3_1 (108, 180, 0, 68) (List.mem_of_getElem? (i := 6) rfl))
theorem dX12_chance_111 : decode cX12_chance 111 = .ok (.iload 4, 2) := dk21 4 (BX12_chance_2_1 (111, 21, 4) (List.mem_of_getElem? (i := 1) rfl))
theorem dX12_chance_113 : decode cX12_chance 113 = .ok (.aload_n 0, 1) := dk42 (BX12_chance_1_2 (113, 42) (List.mem_of_getElem? (i := 4) rfl))
theorem dX12_chance_114 : decode cX12_chance 114 = .ok (.getfield 62, 3) := dk180 0 62 (BX12_chance_3_1 (114, 180, 0, 62) (List.mem_of_getElem? (i := 7) rfl))
theorem dX12_chance_117 : decode cX12_chance 117 = .ok (.iload 5, 2) := dk21 5 (BX12_chance_2_1 (117, 21, 5) (List.mem_of_getElem? (i := 2) rfl))
theorem dX12_chance_119 : decode cX12_chance 119 = .ok (.iaload, 1) := dk46 (BX12_chance_1_2 (119, 46) (List.mem_of_getElem? (i := 5) rfl))
theorem dX12_chance_120 : decode cX12_chance 120 = .ok (.iload_n 1, 1) := dk27 (BX12_chance_1_2 (120, 27) (List.mem_of_getElem? (i := 6) rfl))
theorem dX12_chance_121 : decode cX12_chance 121 = .ok (.if_icmp .ne 7, 3) := dk160 0 7 (BX12_chance_3_1 (121, 160, 0, 7) (List.mem_of_getElem? (i := 8) rfl))
theorem dX12_chance_124 : decode cX12_chance 124 = .ok (.iconst 1, 1) := dk4 (BX12_chance_1_2 (124, 4) (List.mem_of_getElem? (i := 7) rfl))
theorem dX12_chance_125 : decode cX12_chance 125 = .ok (.goto 4, 3) := dk167 0 4 (BX12_chance_3_1 (125, 167, 0, 4) (List.mem_of_getElem? (i := 9) rfl))
theorem dX12_chance_128 : decode cX12_chance 128 = .ok (.iconst 0, 1) := dk3 (BX12_chance_1_2 (128, 3) (List.mem_of_getElem? (i := 8) rfl))
theorem dX12_chance_129 : decode cX12_chance 129 = .ok (.bastore, 1) := dk84 (BX12_chance_1_2 (129, 84) (List.mem_of_getElem? (i := 9) rfl))
theorem dX12_chance_130 : decode cX12_chance 130 = .ok (.iinc 4 1, 3) := dk132 4 1 (BX12_chance_3_1 (130, 132, 4, 1) (List.mem_of_getElem? (i := 10) rfl))
theorem dX12_chance_133 : decode cX12_chance 133 = .ok (.iinc 5 1, 3) := dk132 5 1 (BX12_chance_3_1 (133, 132, 5, 1) (List.mem_of_getElem? (i := 11) rfl))
theorem dX12_chance_136 : decode cX12_chance 136 = .ok (.goto (-75), 3) := dk167 255 181 (BX12_chance_3_2 (136, 167, 255, 181) (List.mem_of_getElem? (i := 0) rfl))
theorem dX12_chance_139 : decode cX12_chance 139 = .ok (.aload_n 0, 1) := dk42 (BX12_chance_1_2 (139, 42) (List.mem_of_getElem? (i := 10) rfl))
theorem dX12_chance_140 : decode cX12_chance 140 = .ok (.iload 4, 2) := dk21 4 (BX12_chance_2_1 (140, 21, 4) (List.mem_of_getElem? (i := 3) rfl))
theorem dX12_chance_142 : decode cX12_chance 142 = .ok (.invokevirtual 251, 3) := dk182 0 251 (BX12_chance_3_2 (142, 182, 0, 251) (List.mem_of_getElem? (i := 1) rfl))
theorem dX12_chance_145 : decode cX12_chance 145 = .ok (.istore 5, 2) := dk54 5 (BX12_chance_2_1 (145, 54, 5) (List.mem_of_getElem? (i := 4) rfl))
theorem dX12_chance_147 : decode cX12_chance 147 = .ok (.iload_n 2, 1) := dk28 (BX12_chance_1_2 (147, 28) (List.mem_of_getElem? (i := 11) rfl))
theorem dX12_chance_148 : decode cX12_chance 148 = .ok (.istore 6, 2) := dk54 6 (BX12_chance_2_1 (148, 54, 6) (List.mem_of_getElem? (i := 5) rfl))
theorem dX12_chance_150 : decode cX12_chance 150 = .ok (.iconst 0, 1) := dk3 (BX12_chance_1_3 (150, 3) (List.mem_of_getElem? (i := 0) rfl))
theorem dX12_chance_151 : decode cX12_chance 151 = .ok (.istore 7, 2) := dk54 7 (BX12_chance_2_1 (151, 54, 7) (List.mem_of_getElem? (i := 6) rfl))
theorem dX12_chance_153 : decode cX12_chance 153 = .ok (.iconst 0, 1) := dk3 (BX12_chance_1_3 (153, 3) (List.mem_of_getElem? (i := 1) rfl))
theorem dX12_chance_154 : decode cX12_chance 154 = .ok (.istore 8, 2) := dk54 8 (BX12_chance_2_1 (154, 54, 8) (List.mem_of_getElem? (i := 7) rfl))
theorem dX12_chance_156 : decode cX12_chance 156 = .ok (.iload 8, 2) := dk21 8 (BX12_chance_2_1 (156, 21, 8) (List.mem_of_getElem? (i := 8) rfl))
theorem dX12_chance_158 : decode cX12_chance 158 = .ok (.iload_n 3, 1) := dk29 (BX12_chance_1_3 (158, 29) (List.mem_of_getElem? (i := 2) rfl))
theorem dX12_chance_159 : decode cX12_chance 159 = .ok (.if_icmp .ge 102, 3) := dk162 0 102 (BX12_chance_3_2 (159, 162, 0, 102) (List.mem_of_getElem? (i := 2) rfl))
theorem dX12_chance_162 : decode cX12_chance 162 = .ok (.iload 4, 2) := dk21 4 (BX12_chance_2_1 (162, 21, 4) (List.mem_of_getElem? (i := 9) rfl))
theorem dX12_chance_164 : decode cX12_chance 164 = .ok (.iconst 1, 1) := dk4 (BX12_chance_1_3 (164, 4) (List.mem_of_getElem? (i := 3) rfl))
theorem dX12_chance_165 : decode cX12_chance 165 = .ok (.isub, 1) := dk100 (BX12_chance_1_3 (165, 100) (List.mem_of_getElem? (i := 4) rfl))
theorem dX12_chance_166 : decode cX12_chance 166 = .ok (.istore 9, 2) := dk54 9 (BX12_chance_2_1 (166, 54, 9) (List.mem_of_getElem? (i := 10) rfl))
theorem dX12_chance_168 : decode cX12_chance 168 = .ok (.iload 9, 2) := dk21 9 (BX12_chance_2_1 (168, 21, 9) (List.mem_of_getElem? (i := 11) rfl))
theorem dX12_chance_170 : decode cX12_chance 170 = .ok (.ifCond .le 64, 3) := dk158 0 64 (BX12_chance_3_2 (170, 158, 0, 64) (List.mem_of_getElem? (i := 3) rfl))
theorem dX12_chance_173 : decode cX12_chance 173 = .ok (.iload 6, 2) := dk21 6 (BX12_chance_2_2 (173, 21, 6) (List.mem_of_getElem? (i := 0) rfl))
theorem dX12_chance_175 : decode cX12_chance 175 = .ok (.ldc 255, 2) := dk18 255 (BX12_chance_2_2 (175, 18, 255) (List.mem_of_getElem? (i := 1) rfl))
theorem dX12_chance_177 : decode cX12_chance 177 = .ok (.imul, 1) := dk104 (BX12_chance_1_3 (177, 104) (List.mem_of_getElem? (i := 5) rfl))
theorem dX12_chance_178 : decode cX12_chance 178 = .ok (.sipush 12345, 3) := dk17 48 57 (BX12_chance_3_2 (178, 17, 48, 57) (List.mem_of_getElem? (i := 4) rfl))
theorem dX12_chance_181 : decode cX12_chance 181 = .ok (.iadd, 1) := dk96 (BX12_chance_1_3 (181, 96) (List.mem_of_getElem? (i := 6) rfl))
theorem dX12_chance_182 : decode cX12_chance 182 = .ok (.istore 6, 2) := dk54 6 (BX12_chance_2_2 (182, 54, 6) (List.mem_of_getElem? (i := 2) rfl))
theorem dX12_chance_184 : decode cX12_chance 184 = .ok (.iload 6, 2) := dk21 6 (BX12_chance_2_2 (184, 21, 6) (List.mem_of_getElem? (i := 3) rfl))
theorem dX12_chance_186 : decode cX12_chance 186 = .ok (.bipush 8, 2) := dk16 8 (BX12_chance_2_2 (186, 16, 8) (List.mem_of_getElem? (i := 4) rfl))
theorem dX12_chance_188 : decode cX12_chance 188 = .ok (.iushr, 1) := dk124 (BX12_chance_1_3 (188, 124) (List.mem_of_getElem? (i := 7) rfl))
theorem dX12_chance_189 : decode cX12_chance 189 = .ok (.iload 9, 2) := dk21 9 (BX12_chance_2_2 (189, 21, 9) (List.mem_of_getElem? (i := 5) rfl))
theorem dX12_chance_191 : decode cX12_chance 191 = .ok (.iconst 1, 1) := dk4 (BX12_chance_1_3 (191, 4) (List.mem_of_getElem? (i := 8) rfl))
theorem dX12_chance_192 : decode cX12_chance 192 = .ok (.iadd, 1) := dk96 (BX12_chance_1_3 (192, 96) (List.mem_of_getElem? (i := 9) rfl))
theorem dX12_chance_193 : decode cX12_chance 193 = .ok (.irem, 1) := dk112 (BX12_chance_1_3 (193, 112) (List.mem_of_getElem? (i := 10) rfl))
theorem dX12_chance_194 : decode cX12_chance 194 = .ok (.istore 10, 2) := dk54 10 (BX12_chance_2_2 (194, 54, 10) (List.mem_of_getElem? (i := 6) rfl))
theorem dX12_chance_196 : decode cX12_chance 196 = .ok (.aload_n 0, 1) := dk42 (BX12_chance_1_3 (196, 42) (List.mem_of_getElem? (i := 11) rfl))
theorem dX12_chance_197 : decode cX12_chance 197 = .ok (.getfield 65, 3) := dk180 0 65 (BX12_chance_3_2 (197, 180, 0, 65) (List.mem_of_getElem? (i := 5) rfl))
theorem dX12_chance_200 : decode cX12_chance 200 = .ok (.iload 9, 2) := dk21 9 (BX12_chance_2_2 (200, 21, 9) (List.mem_of_getElem? (i := 7) rfl))
theorem dX12_chance_202 : decode cX12_chance 202 = .ok (.iaload, 1) := dk46 (BX12_chance_1_4 (202, 46) (List.mem_of_getElem? (i := 0) rfl))
theorem dX12_chance_203 : decode cX12_chance 203 = .ok (.istore 11, 2) := dk54 11 (BX12_chance_2_2 (203, 54, 11) (List.mem_of_getElem? (i := 8) rfl))
theorem dX12_chance_205 : decode cX12_chance 205 = .ok (.aload_n 0, 1) := dk42 (BX12_chance_1_4 (205, 42) (List.mem_of_getElem? (i := 1) rfl))
theorem dX12_chance_206 : decode cX12_chance 206 = .ok (.getfield 65, 3) := dk180 0 65 (BX12_chance_3_2 (206, 180, 0, 65) (List.mem_of_getElem? (i := 6) rfl))
theorem dX12_chance_209 : decode cX12_chance 209 = .ok (.iload 9, 2) := dk21 9 (BX12_chance_2_2 (209, 21, 9) (List.mem_of_getElem? (i := 9) rfl))
theorem dX12_chance_211 : decode cX12_chance 211 = .ok (.aload_n 0, 1) := dk42 (BX12_chance_1_4 (211, 42) (List.mem_of_getElem? (i := 2) rfl))
theorem dX12_chance_212 : decode cX12_chance 212 = .ok (.getfield 65, 3) := dk180 0 65 (BX12_chance_3_2 (212, 180, 0, 65) (List.mem_of_getElem? (i := 7) rfl))
theorem dX12_chance_215 : decode cX12_chance 215 = .ok (.iload 10, 2) := dk21 10 (BX12_chance_2_2 (215, 21, 10) (List.mem_of_getElem? (i := 10) rfl))
theorem dX12_chance_217 : decode cX12_chance 217 = .ok (.iaload, 1) := dk46 (BX12_chance_1_4 (217, 46) (List.mem_of_getElem? (i := 3) rfl))
theorem dX12_chance_218 : decode cX12_chance 218 = .ok (.iastore, 1) := dk79 (BX12_chance_1_4 (218, 79) (List.mem_of_getElem? (i := 4) rfl))
theorem dX12_chance_219 : decode cX12_chance 219 = .ok (.aload_n 0, 1) := dk42 (BX12_chance_1_4 (219, 42) (List.mem_of_getElem? (i := 5) rfl))
theorem dX12_chance_220 : decode cX12_chance 220 = .ok (.getfield 65, 3) := dk180 0 65 (BX12_chance_3_2 (220, 180, 0, 65) (List.mem_of_getElem? (i := 8) rfl))
theorem dX12_chance_223 : decode cX12_chance 223 = .ok (.iload 10, 2) := dk21 10 (BX12_chance_2_2 (223, 21, 10) (List.mem_of_getElem? (i := 11) rfl))
theorem dX12_chance_225 : decode cX12_chance 225 = .ok (.iload 11, 2) := dk21 11 (BX12_chance_2_3 (225, 21, 11) (List.mem_of_getElem? (i := 0) rfl))
theorem dX12_chance_227 : decode cX12_chance 227 = .ok (.iastore, 1) := dk79 (BX12_chance_1_4 (227, 79) (List.mem_of_getElem? (i := 6) rfl))
theorem dX12_chance_228 : decode cX12_chance 228 = .ok (.iinc 9 (-1), 3) := dk132 9 255 (BX12_chance_3_2 (228, 132, 9, 255) (List.mem_of_getElem? (i := 9) rfl))
theorem dX12_chance_231 : decode cX12_chance 231 = .ok (.goto (-63), 3) := dk167 255 193 (BX12_chance_3_2 (231, 167, 255, 193) (List.mem_of_getElem? (i := 10) rfl))
theorem dX12_chance_234 : decode cX12_chance 234 = .ok (.iload 7, 2) := dk21 7 (BX12_chance_2_3 (234, 21, 7) (List.mem_of_getElem? (i := 1) rfl))
theorem dX12_chance_236 : decode cX12_chance 236 = .ok (.aload_n 0, 1) := dk42 (BX12_chance_1_4 (236, 42) (List.mem_of_getElem? (i := 7) rfl))
theorem dX12_chance_237 : decode cX12_chance 237 = .ok (.iload 4, 2) := dk21 4 (BX12_chance_2_3 (237, 21, 4) (List.mem_of_getElem? (i := 2) rfl))
theorem dX12_chance_239 : decode cX12_chance 239 = .ok (.invokevirtual 251, 3) := dk182 0 251 (BX12_chance_3_2 (239, 182, 0, 251) (List.mem_of_getElem? (i := 11) rfl))
theorem dX12_chance_242 : decode cX12_chance 242 = .ok (.iload 5, 2) := dk21 5 (BX12_chance_2_3 (242, 21, 5) (List.mem_of_getElem? (i := 3) rfl))
theorem dX12_chance_244 : decode cX12_chance 244 = .ok (.if_icmp .lt 7, 3) := dk161 0 7 (BX12_chance_3_3 (244, 161, 0, 7) (List.mem_of_getElem? (i := 0) rfl))
theorem dX12_chance_247 : decode cX12_chance 247 = .ok (.iconst 1, 1) := dk4 (BX12_chance_1_4 (247, 4) (List.mem_of_getElem? (i := 8) rfl))
theorem dX12_chance_248 : decode cX12_chance 248 = .ok (.goto 4, 3) := dk167 0 4 (BX12_chance_3_3 (248, 167, 0, 4) (List.mem_of_getElem? (i := 1) rfl))
theorem dX12_chance_251 : decode cX12_chance 251 = .ok (.iconst 0, 1) := dk3 (BX12_chance_1_4 (251, 3) (List.mem_of_getElem? (i := 9) rfl))
theorem dX12_chance_252 : decode cX12_chance 252 = .ok (.iadd, 1) := dk96 (BX12_chance_1_4 (252, 96) (List.mem_of_getElem? (i := 10) rfl))
theorem dX12_chance_253 : decode cX12_chance 253 = .ok (.istore 7, 2) := dk54 7 (BX12_chance_2_3 (253, 54, 7) (List.mem_of_getElem? (i := 4) rfl))
theorem dX12_chance_255 : decode cX12_chance 255 = .ok (.iinc 8 1, 3) := dk132 8 1 (BX12_chance_3_3 (255, 132, 8, 1) (List.mem_of_getElem? (i := 2) rfl))
theorem dX12_chance_258 : decode cX12_chance 258 = .ok (.goto (-102), 3) := dk167 255 154 (BX12_chance_3_3 (258, 167, 255, 154) (List.mem_of_getElem? (i := 3) rfl))
theorem dX12_chance_261 : decode cX12_chance 261 = .ok (.iload 7, 2) := dk21 7 (BX12_chance_2_3 (261, 21, 7) (List.mem_of_getElem? (i := 5) rfl))
theorem dX12_chance_263 : decode cX12_chance 263 = .ok (.ireturn, 1) := dk172 (BX12_chance_1_4 (263, 172) (List.mem_of_getElem? (i := 11) rfl))
set_option maxRecDepth 20000 in
theorem ggX12_chosen_X12_within : GoodIn wsX12_chosen wsX12_within := goodIn_g ch_wsX12_chosen_flat gd_wsX12_chosen _ [(1, 5)] rfl
set_option maxRecDepth 20000 in
theorem gX12_chosen_X12_within : GoodIn wsX12_chosen (va_wsS RX12 136 yX12_within wsX12_within) := goodIn_app (goodIn_g ch_wsX12_chosen_flat gd_wsX12_chosen _ [(1, 2), (1, 3), (1, 4)] rfl) ggX12_chosen_X12_within
set_option maxRecDepth 20000 in
theorem ggX12_chosen_X12_meanOf : GoodIn wsX12_chosen wsX12_meanOf := gcons (goodIn_g ch_wsX12_chosen_flat gd_wsX12_chosen _ [(1, 9)] rfl) (goodIn_app (goodIn_g ch_wsX12_chosen_flat gd_wsX12_chosen _ [(1, 10), (1, 11), (1, 12), (1, 13), (1, 2), (1, 3), (1, 4), (1, 5)] rfl) (gchunk ch_wsX12_chosen_flat gd_wsX12_chosen 2 rfl))
set_option maxRecDepth 20000 in
theorem gX12_chosen_X12_meanOf : GoodIn wsX12_chosen (wsV RX12 243 RX12 yX12_meanOf wsX12_meanOf) := goodIn_app (goodIn_g ch_wsX12_chosen_flat gd_wsX12_chosen _ [(1, 6), (1, 7), (1, 8), (1, 4)] rfl) ggX12_chosen_X12_meanOf
set_option maxRecDepth 20000 in
theorem SX12_chosen : ∀ p : Nat, gb cX12_chosen p = segF [[27, 133, 9, 20, 0, 221, 184, 0, 136, 154, 0, 7, 19, 1, 0, 172, 42, 27, 3, 8, 182, 0, 243, 61, 42, 2, 27, 100, 3, 8, 182, 0, 243, 62, 28, 16, 254, 159, 0, 9, 29, 16, 254, 160, 0, 9, 19, 1, 0, 167, 0, 6, 28, 29, 100, 172]] p := seg_gb (S := [[27, 133, 9, 20, 0, 221, 184, 0, 136, 154, 0, 7, 19, 1, 0, 172, 42, 27, 3, 8, 182, 0, 243, 61, 42, 2, 27, 100, 3, 8, 182, 0, 243, 62, 28, 16, 254, 159, 0, 9, 29, 16, 254, 160, 0, 9, 19, 1, 0, 167, 0, 6, 28, 29, 100, 172]]) (by decide +kernel) (by decide +kernel)
set_option maxRecDepth 20000 in
theorem BX12_chosen_1_0 : ∀ q ∈ ([(0, 27), (1, 133), (2, 9), (15, 172), (16, 42), (17, 27), (18, 3), (19, 8), (23, 61), (24, 42), (25, 2), (26, 27)] : List (Nat × Nat)), gb cX12_chosen q.1 = some q.2 := seg_1 SX12_chosen _ (by decide +kernel)
set_option maxRecDepth 20000 in
theorem BX12_chosen_1_1 : ∀ q ∈ ([(27, 100), (28, 3), (29, 8), (33, 62), (34, 28), (40, 29), (52, 28), (53, 29), (54, 100), (55, 172)] : List (Nat × Nat)), gb cX12_chosen q.1 = some q.2 := seg_1 SX12_chosen _ (by decide +kernel)
set_option maxRecDepth 20000 in
theorem BX12_chosen_2_0 : ∀ q ∈ ([(35, 16, 254), (41, 16, 254)] : List (Nat × Nat × Nat)), gb cX12_chosen q.1 = some q.2.1 ∧ gb cX12_chosen (q.1 + 1) = some q.2.2 := seg_2 SX12_chosen _ (by decide +kernel)
set_option maxRecDepth 20000 in
theorem BX12_chosen_3_0 : ∀ q ∈ ([(3, 20, 0, 221), (6, 184, 0, 136), (9, 154, 0, 7), (12, 19, 1, 0), (20, 182, 0, 243), (30, 182, 0, 243), (37, 159, 0, 9), (43, 160, 0, 9), (46, 19, 1, 0), (49, 167, 0, 6)] : List (Nat × Nat × Nat × Nat)), gb cX12_chosen q.1 = some q.2.1 ∧ gb cX12_chosen (q.1 + 1) = some q.2.2.1 ∧ gb cX12_chosen (q.1 + 2) = some q.2.2.2 := seg_3 SX12_chosen _ (by decide +kernel)
theorem dX12_chosen_0 : decode cX12_chosen 0 = .ok (.iload_n 1, 1) := dk27 (BX12_chosen_1_0 (0, 27) (List.mem_of_getElem? (i := 0) rfl))
theorem dX12_chosen_1 : decode cX12_chosen 1 = .ok (.i2l, 1) := dk133 (BX12_chosen_1_0 (1, 133) (List.mem_of_getElem? (i := 1) rfl))
theorem dX12_chosen_2 : decode cX12_chosen 2 = .ok (.lconst 0, 1) := dk9 (BX12_chosen_1_0 (2, 9) (List.mem_of_getElem? (i := 2) rfl))
theorem dX12_chosen_3 : decode cX12_chosen 3 = .ok (.ldc2_w 221, 3) := dk20 0 221 (BX12_chosen_3_0 (3, 20, 0, 221) (List.mem_of_getElem? (i := 0) rfl))
theorem dX12_chosen_6 : decode cX12_chosen 6 = .ok (.invokestatic 136, 3) := dk184 0 136 (BX12_chosen_3_0 (6, 184, 0, 136) (List.mem_of_getElem? (i := 1) rfl))
theorem dX12_chosen_9 : decode cX12_chosen 9 = .ok (.ifCond .ne 7, 3) := dk154 0 7 (BX12_chosen_3_0 (9, 154, 0, 7) (List.mem_of_getElem? (i := 2) rfl))
theorem dX12_chosen_12 : decode cX12_chosen 12 = .ok (.ldc_w 256, 3) := dk19 1 0 (BX12_chosen_3_0 (12, 19, 1, 0) (List.mem_of_getElem? (i := 3) rfl))
theorem dX12_chosen_15 : decode cX12_chosen 15 = .ok (.ireturn, 1) := dk172 (BX12_chosen_1_0 (15, 172) (List.mem_of_getElem? (i := 3) rfl))
theorem dX12_chosen_16 : decode cX12_chosen 16 = .ok (.aload_n 0, 1) := dk42 (BX12_chosen_1_0 (16, 42) (List.mem_of_getElem? (i := 4) rfl))
theorem dX12_chosen_17 : decode cX12_chosen 17 = .ok (.iload_n 1, 1) := dk27 (BX12_chosen_1_0 (17, 27) (List.mem_of_getElem? (i := 5) rfl))
theorem dX12_chosen_18 : decode cX12_chosen 18 = .ok (.iconst 0, 1) := dk3 (BX12_chosen_1_0 (18, 3) (List.mem_of_getElem? (i := 6) rfl))
theorem dX12_chosen_19 : decode cX12_chosen 19 = .ok (.iconst 5, 1) := dk8 (BX12_chosen_1_0 (19, 8) (List.mem_of_getElem? (i := 7) rfl))
theorem dX12_chosen_20 : decode cX12_chosen 20 = .ok (.invokevirtual 243, 3) := dk182 0 243 (BX12_chosen_3_0 (20, 182, 0, 243) (List.mem_of_getElem? (i := 4) rfl))
theorem dX12_chosen_23 : decode cX12_chosen 23 = .ok (.istore_n 2, 1) := dk61 (BX12_chosen_1_0 (23, 61) (List.mem_of_getElem? (i := 8) rfl))
theorem dX12_chosen_24 : decode cX12_chosen 24 = .ok (.aload_n 0, 1) := dk42 (BX12_chosen_1_0 (24, 42) (List.mem_of_getElem? (i := 9) rfl))
theorem dX12_chosen_25 : decode cX12_chosen 25 = .ok (.iconst (-1), 1) := dk2 (BX12_chosen_1_0 (25, 2) (List.mem_of_getElem? (i := 10) rfl))
theorem dX12_chosen_26 : decode cX12_chosen 26 = .ok (.iload_n 1, 1) := dk27 (BX12_chosen_1_0 (26, 27) (List.mem_of_getElem? (i := 11) rfl))
theorem dX12_chosen_27 : decode cX12_chosen 27 = .ok (.isub, 1) := dk100 (BX12_chosen_1_1 (27, 100) (List.mem_of_getElem? (i := 0) rfl))
theorem dX12_chosen_28 : decode cX12_chosen 28 = .ok (.iconst 0, 1) := dk3 (BX12_chosen_1_1 (28, 3) (List.mem_of_getElem? (i := 1) rfl))
theorem dX12_chosen_29 : decode cX12_chosen 29 = .ok (.iconst 5, 1) := dk8 (BX12_chosen_1_1 (29, 8) (List.mem_of_getElem? (i := 2) rfl))
theorem dX12_chosen_30 : decode cX12_chosen 30 = .ok (.invokevirtual 243, 3) := dk182 0 243 (BX12_chosen_3_0 (30, 182, 0, 243) (List.mem_of_getElem? (i := 5) rfl))
theorem dX12_chosen_33 : decode cX12_chosen 33 = .ok (.istore_n 3, 1) := dk62 (BX12_chosen_1_1 (33, 62) (List.mem_of_getElem? (i := 3) rfl))
theorem dX12_chosen_34 : decode cX12_chosen 34 = .ok (.iload_n 2, 1) := dk28 (BX12_chosen_1_1 (34, 28) (List.mem_of_getElem? (i := 4) rfl))
theorem dX12_chosen_35 : decode cX12_chosen 35 = .ok (.bipush (-2), 2) := dk16 254 (BX12_chosen_2_0 (35, 16, 254) (List.mem_of_getElem? (i := 0) rfl))
theorem dX12_chosen_37 : decode cX12_chosen 37 = .ok (.if_icmp .eq 9, 3) := dk159 0 9 (BX12_chosen_3_0 (37, 159, 0, 9) (List.mem_of_getElem? (i := 6) rfl))
theorem dX12_chosen_40 : decode cX12_chosen 40 = .ok (.iload_n 3, 1) := dk29 (BX12_chosen_1_1 (40, 29) (List.mem_of_getElem? (i := 5) rfl))
theorem dX12_chosen_41 : decode cX12_chosen 41 = .ok (.bipush (-2), 2) := dk16 254 (BX12_chosen_2_0 (41, 16, 254) (List.mem_of_getElem? (i := 1) rfl))
theorem dX12_chosen_43 : decode cX12_chosen 43 = .ok (.if_icmp .ne 9, 3) := dk160 0 9 (BX12_chosen_3_0 (43, 160, 0, 9) (List.mem_of_getElem? (i := 7) rfl))
theorem dX12_chosen_46 : decode cX12_chosen 46 = .ok (.ldc_w 256, 3) := dk19 1 0 (BX12_chosen_3_0 (46, 19, 1, 0) (List.mem_of_getElem? (i := 8) rfl))
theorem dX12_chosen_49 : decode cX12_chosen 49 = .ok (.goto 6, 3) := dk167 0 6 (BX12_chosen_3_0 (49, 167, 0, 6) (List.mem_of_getElem? (i := 9) rfl))
theorem dX12_chosen_52 : decode cX12_chosen 52 = .ok (.iload_n 2, 1) := dk28 (BX12_chosen_1_1 (52, 28) (List.mem_of_getElem? (i := 6) rfl))
theorem dX12_chosen_53 : decode cX12_chosen 53 = .ok (.iload_n 3, 1) := dk29 (BX12_chosen_1_1 (53, 29) (List.mem_of_getElem? (i := 7) rfl))
theorem dX12_chosen_54 : decode cX12_chosen 54 = .ok (.isub, 1) := dk100 (BX12_chosen_1_1 (54, 100) (List.mem_of_getElem? (i := 8) rfl))
theorem dX12_chosen_55 : decode cX12_chosen 55 = .ok (.ireturn, 1) := dk172 (BX12_chosen_1_1 (55, 172) (List.mem_of_getElem? (i := 9) rfl))
set_option maxRecDepth 20000 in
theorem ggX12_made_X12_within : GoodIn wsX12_made wsX12_within := goodIn_g ch_wsX12_made_flat gd_wsX12_made _ [(1, 7)] rfl
set_option maxRecDepth 20000 in
theorem gX12_made_X12_within : GoodIn wsX12_made (va_wsS RX12 136 yX12_within wsX12_within) := goodIn_app (goodIn_g ch_wsX12_made_flat gd_wsX12_made _ [(1, 4), (1, 5), (1, 6)] rfl) ggX12_made_X12_within
set_option maxRecDepth 20000 in
theorem SX12_made : ∀ p : Nat, gb cX12_made p = segF [[27, 133, 9, 20, 1, 1, 184, 0, 136, 153, 0, 15, 28, 133, 9, 20, 0, 225, 184, 0, 136, 154, 0, 5, 2, 172, 42, 180, 0, 120, 62, 42, 27, 181, 0, 120, 42, 28, 181, 0, 124, 29, 172]] p := seg_gb (S := [[27, 133, 9, 20, 1, 1, 184, 0, 136, 153, 0, 15, 28, 133, 9, 20, 0, 225, 184, 0, 136, 154, 0, 5, 2, 172, 42, 180, 0, 120, 62, 42, 27, 181, 0, 120, 42, 28, 181, 0, 124, 29, 172]]) (by decide +kernel) (by decide +kernel)
set_option maxRecDepth 20000 in
theorem BX12_made_1_0 : ∀ q ∈ ([(0, 27), (1, 133), (2, 9), (12, 28), (13, 133), (14, 9), (24, 2), (25, 172), (26, 42), (30, 62), (31, 42), (32, 27)] : List (Nat × Nat)), gb cX12_made q.1 = some q.2 := seg_1 SX12_made _ (by decide +kernel)
set_option maxRecDepth 20000 in
theorem BX12_made_1_1 : ∀ q ∈ ([(36, 42), (37, 28), (41, 29), (42, 172)] : List (Nat × Nat)), gb cX12_made q.1 = some q.2 := seg_1 SX12_made _ (by decide +kernel)
set_option maxRecDepth 20000 in
theorem BX12_made_3_0 : ∀ q ∈ ([(3, 20, 1, 1), (6, 184, 0, 136), (9, 153, 0, 15), (15, 20, 0, 225), (18, 184, 0, 136), (21, 154, 0, 5), (27, 180, 0, 120), (33, 181, 0, 120), (38, 181, 0, 124)] : List (Nat × Nat × Nat × Nat)), gb cX12_made q.1 = some q.2.1 ∧ gb cX12_made (q.1 + 1) = some q.2.2.1 ∧ gb cX12_made (q.1 + 2) = some q.2.2.2 := seg_3 SX12_made _ (by decide +kernel)
theorem dX12_made_0 : decode cX12_made 0 = .ok (.iload_n 1, 1) := dk27 (BX12_made_1_0 (0, 27) (List.mem_of_getElem? (i := 0) rfl))
theorem dX12_made_1 : decode cX12_made 1 = .ok (.i2l, 1) := dk133 (BX12_made_1_0 (1, 133) (List.mem_of_getElem? (i := 1) rfl))
theorem dX12_made_2 : decode cX12_made 2 = .ok (.lconst 0, 1) := dk9 (BX12_made_1_0 (2, 9) (List.mem_of_getElem? (i := 2) rfl))
theorem dX12_made_3 : decode cX12_made 3 = .ok (.ldc2_w 257, 3) := dk20 1 1 (BX12_made_3_0 (3, 20, 1, 1) (List.mem_of_getElem? (i := 0) rfl))
theorem dX12_made_6 : decode cX12_made 6 = .ok (.invokestatic 136, 3) := dk184 0 136 (BX12_made_3_0 (6, 184, 0, 136) (List.mem_of_getElem? (i := 1) rfl))
theorem dX12_made_9 : decode cX12_made 9 = .ok (.ifCond .eq 15, 3) := dk153 0 15 (BX12_made_3_0 (9, 153, 0, 15) (List.mem_of_getElem? (i := 2) rfl))
theorem dX12_made_12 : decode cX12_made 12 = .ok (.iload_n 2, 1) := dk28 (BX12_made_1_0 (12, 28) (List.mem_of_getElem? (i := 3) rfl))
theorem dX12_made_13 : decode cX12_made 13 = .ok (.i2l, 1) := dk133 (BX12_made_1_0 (13, 133) (List.mem_of_getElem? (i := 4) rfl))
theorem dX12_made_14 : decode cX12_made 14 = .ok (.lconst 0, 1) := dk9 (BX12_made_1_0 (14, 9) (List.mem_of_getElem? (i := 5) rfl))
theorem dX12_made_15 : decode cX12_made 15 = .ok (.ldc2_w 225, 3) := dk20 0 225 (BX12_made_3_0 (15, 20, 0, 225) (List.mem_of_getElem? (i := 3) rfl))
theorem dX12_made_18 : decode cX12_made 18 = .ok (.invokestatic 136, 3) := dk184 0 136 (BX12_made_3_0 (18, 184, 0, 136) (List.mem_of_getElem? (i := 4) rfl))
theorem dX12_made_21 : decode cX12_made 21 = .ok (.ifCond .ne 5, 3) := dk154 0 5 (BX12_made_3_0 (21, 154, 0, 5) (List.mem_of_getElem? (i := 5) rfl))
theorem dX12_made_24 : decode cX12_made 24 = .ok (.iconst (-1), 1) := dk2 (BX12_made_1_0 (24, 2) (List.mem_of_getElem? (i := 6) rfl))
theorem dX12_made_25 : decode cX12_made 25 = .ok (.ireturn, 1) := dk172 (BX12_made_1_0 (25, 172) (List.mem_of_getElem? (i := 7) rfl))
theorem dX12_made_26 : decode cX12_made 26 = .ok (.aload_n 0, 1) := dk42 (BX12_made_1_0 (26, 42) (List.mem_of_getElem? (i := 8) rfl))
theorem dX12_made_27 : decode cX12_made 27 = .ok (.getfield 120, 3) := dk180 0 120 (BX12_made_3_0 (27, 180, 0, 120) (List.mem_of_getElem? (i := 6) rfl))
theorem dX12_made_30 : decode cX12_made 30 = .ok (.istore_n 3, 1) := dk62 (BX12_made_1_0 (30, 62) (List.mem_of_getElem? (i := 9) rfl))
theorem dX12_made_31 : decode cX12_made 31 = .ok (.aload_n 0, 1) := dk42 (BX12_made_1_0 (31, 42) (List.mem_of_getElem? (i := 10) rfl))
theorem dX12_made_32 : decode cX12_made 32 = .ok (.iload_n 1, 1) := dk27 (BX12_made_1_0 (32, 27) (List.mem_of_getElem? (i := 11) rfl))
theorem dX12_made_33 : decode cX12_made 33 = .ok (.putfield 120, 3) := dk181 0 120 (BX12_made_3_0 (33, 181, 0, 120) (List.mem_of_getElem? (i := 7) rfl))
theorem dX12_made_36 : decode cX12_made 36 = .ok (.aload_n 0, 1) := dk42 (BX12_made_1_1 (36, 42) (List.mem_of_getElem? (i := 0) rfl))
theorem dX12_made_37 : decode cX12_made 37 = .ok (.iload_n 2, 1) := dk28 (BX12_made_1_1 (37, 28) (List.mem_of_getElem? (i := 1) rfl))
theorem dX12_made_38 : decode cX12_made 38 = .ok (.putfield 124, 3) := dk181 0 124 (BX12_made_3_0 (38, 181, 0, 124) (List.mem_of_getElem? (i := 8) rfl))
theorem dX12_made_41 : decode cX12_made 41 = .ok (.iload_n 3, 1) := dk29 (BX12_made_1_1 (41, 29) (List.mem_of_getElem? (i := 2) rfl))
theorem dX12_made_42 : decode cX12_made 42 = .ok (.ireturn, 1) := dk172 (BX12_made_1_1 (42, 172) (List.mem_of_getElem? (i := 3) rfl))
set_option maxRecDepth 20000 in
theorem ggX12_doesBar_X12_meanOf : GoodIn wsX12_doesBar wsX12_meanOf := gcons (goodIn_g ch_wsX12_doesBar_flat gd_wsX12_doesBar _ [(1, 6)] rfl) (goodIn_app (goodIn_g ch_wsX12_doesBar_flat gd_wsX12_doesBar _ [(1, 7), (1, 8), (1, 9), (1, 10), (1, 11), (1, 12), (1, 5), (1, 13)] rfl) (gchunk ch_wsX12_doesBar_flat gd_wsX12_doesBar 2 rfl))
set_option maxRecDepth 20000 in
theorem gX12_doesBar_X12_meanOf : GoodIn wsX12_doesBar (wsV RX12 243 RX12 yX12_meanOf wsX12_meanOf) := goodIn_app (goodIn_g ch_wsX12_doesBar_flat gd_wsX12_doesBar _ [(1, 2), (1, 3), (1, 4), (1, 5)] rfl) ggX12_doesBar_X12_meanOf
set_option maxRecDepth 20000 in
theorem SX12_doesBar : ∀ p : Nat, gb cX12_doesBar p = segF [[42, 180, 0, 120, 17, 7, 208, 163, 0, 29, 28, 42, 180, 0, 120, 162, 0, 21, 42, 8, 27, 27, 182, 0, 243, 42, 180, 0, 124, 164, 0, 7, 4, 167, 0, 4, 3, 172]] p := seg_gb (S := [[42, 180, 0, 120, 17, 7, 208, 163, 0, 29, 28, 42, 180, 0, 120, 162, 0, 21, 42, 8, 27, 27, 182, 0, 243, 42, 180, 0, 124, 164, 0, 7, 4, 167, 0, 4, 3, 172]]) (by decide +kernel) (by decide +kernel)
set_option maxRecDepth 20000 in
theorem BX12_doesBar_1_0 : ∀ q ∈ ([(0, 42), (10, 28), (11, 42), (18, 42), (19, 8), (20, 27), (21, 27), (25, 42), (32, 4), (36, 3), (37, 172)] : List (Nat × Nat)), gb cX12_doesBar q.1 = some q.2 := seg_1 SX12_doesBar _ (by decide +kernel)
set_option maxRecDepth 20000 in
theorem BX12_doesBar_3_0 : ∀ q ∈ ([(1, 180, 0, 120), (4, 17, 7, 208), (7, 163, 0, 29), (12, 180, 0, 120), (15, 162, 0, 21), (22, 182, 0, 243), (26, 180, 0, 124), (29, 164, 0, 7), (33, 167, 0, 4)] : List (Nat × Nat × Nat × Nat)), gb cX12_doesBar q.1 = some q.2.1 ∧ gb cX12_doesBar (q.1 + 1) = some q.2.2.1 ∧ gb cX12_doesBar (q.1 + 2) = some q.2.2.2 := seg_3 SX12_doesBar _ (by decide +kernel)
theorem dX12_doesBar_0 : decode cX12_doesBar 0 = .ok (.aload_n 0, 1) := dk42 (BX12_doesBar_1_0 (0, 42) (List.mem_of_getElem? (i := 0) rfl))
theorem dX12_doesBar_1 : decode cX12_doesBar 1 = .ok (.getfield 120, 3) := dk180 0 120 (BX12_doesBar_3_0 (1, 180, 0, 120) (List.mem_of_getElem? (i := 0) rfl))
theorem dX12_doesBar_4 : decode cX12_doesBar 4 = .ok (.sipush 2000, 3) := dk17 7 208 (BX12_doesBar_3_0 (4, 17, 7, 208) (List.mem_of_getElem? (i := 1) rfl))
theorem dX12_doesBar_7 : decode cX12_doesBar 7 = .ok (.if_icmp .gt 29, 3) := dk163 0 29 (BX12_doesBar_3_0 (7, 163, 0, 29) (List.mem_of_getElem? (i := 2) rfl))
theorem dX12_doesBar_10 : decode cX12_doesBar 10 = .ok (.iload_n 2, 1) := dk28 (BX12_doesBar_1_0 (10, 28) (List.mem_of_getElem? (i := 1) rfl))
theorem dX12_doesBar_11 : decode cX12_doesBar 11 = .ok (.aload_n 0, 1) := dk42 (BX12_doesBar_1_0 (11, 42) (List.mem_of_getElem? (i := 2) rfl))
theorem dX12_doesBar_12 : decode cX12_doesBar 12 = .ok (.getfield 120, 3) := dk180 0 120 (BX12_doesBar_3_0 (12, 180, 0, 120) (List.mem_of_getElem? (i := 3) rfl))
theorem dX12_doesBar_15 : decode cX12_doesBar 15 = .ok (.if_icmp .ge 21, 3) := dk162 0 21 (BX12_doesBar_3_0 (15, 162, 0, 21) (List.mem_of_getElem? (i := 4) rfl))
theorem dX12_doesBar_18 : decode cX12_doesBar 18 = .ok (.aload_n 0, 1) := dk42 (BX12_doesBar_1_0 (18, 42) (List.mem_of_getElem? (i := 3) rfl))
theorem dX12_doesBar_19 : decode cX12_doesBar 19 = .ok (.iconst 5, 1) := dk8 (BX12_doesBar_1_0 (19, 8) (List.mem_of_getElem? (i := 4) rfl))
theorem dX12_doesBar_20 : decode cX12_doesBar 20 = .ok (.iload_n 1, 1) := dk27 (BX12_doesBar_1_0 (20, 27) (List.mem_of_getElem? (i := 5) rfl))
theorem dX12_doesBar_21 : decode cX12_doesBar 21 = .ok (.iload_n 1, 1) := dk27 (BX12_doesBar_1_0 (21, 27) (List.mem_of_getElem? (i := 6) rfl))
theorem dX12_doesBar_22 : decode cX12_doesBar 22 = .ok (.invokevirtual 243, 3) := dk182 0 243 (BX12_doesBar_3_0 (22, 182, 0, 243) (List.mem_of_getElem? (i := 5) rfl))
theorem dX12_doesBar_25 : decode cX12_doesBar 25 = .ok (.aload_n 0, 1) := dk42 (BX12_doesBar_1_0 (25, 42) (List.mem_of_getElem? (i := 7) rfl))
theorem dX12_doesBar_26 : decode cX12_doesBar 26 = .ok (.getfield 124, 3) := dk180 0 124 (BX12_doesBar_3_0 (26, 180, 0, 124) (List.mem_of_getElem? (i := 6) rfl))
theorem dX12_doesBar_29 : decode cX12_doesBar 29 = .ok (.if_icmp .le 7, 3) := dk164 0 7 (BX12_doesBar_3_0 (29, 164, 0, 7) (List.mem_of_getElem? (i := 7) rfl))
theorem dX12_doesBar_32 : decode cX12_doesBar 32 = .ok (.iconst 1, 1) := dk4 (BX12_doesBar_1_0 (32, 4) (List.mem_of_getElem? (i := 8) rfl))
theorem dX12_doesBar_33 : decode cX12_doesBar 33 = .ok (.goto 4, 3) := dk167 0 4 (BX12_doesBar_3_0 (33, 167, 0, 4) (List.mem_of_getElem? (i := 8) rfl))
theorem dX12_doesBar_36 : decode cX12_doesBar 36 = .ok (.iconst 0, 1) := dk3 (BX12_doesBar_1_0 (36, 3) (List.mem_of_getElem? (i := 9) rfl))
theorem dX12_doesBar_37 : decode cX12_doesBar 37 = .ok (.ireturn, 1) := dk172 (BX12_doesBar_1_0 (37, 172) (List.mem_of_getElem? (i := 10) rfl))
set_option maxRecDepth 20000 in
theorem ggX12_bars_X12_isInk : GoodIn wsX12_bars wsX12_isInk := goodIn_g ch_wsX12_bars_flat gd_wsX12_bars _ [(1, 3), (1, 4), (1, 5), (1, 6), (1, 2), (1, 7)] rfl
set_option maxRecDepth 20000 in
theorem gX12_bars_X12_isInk : GoodIn wsX12_bars (va_wsS RX12 197 yX12_isInk wsX12_isInk) := goodIn_app (goodIn_g ch_wsX12_bars_flat gd_wsX12_bars _ [(1, 0), (1, 1), (1, 2)] rfl) ggX12_bars_X12_isInk
set_option maxRecDepth 20000 in
theorem ggX12_bars_X12_isYear : GoodIn wsX12_bars wsX12_isYear := goodIn_g ch_wsX12_bars_flat gd_wsX12_bars _ [(1, 10), (1, 11), (1, 5), (1, 6), (1, 2), (1, 7)] rfl
set_option maxRecDepth 20000 in
theorem gX12_bars_X12_isYear : GoodIn wsX12_bars (va_wsS RX12 147 yX12_isYear wsX12_isYear) := goodIn_app (goodIn_g ch_wsX12_bars_flat gd_wsX12_bars _ [(1, 8), (1, 9), (1, 2)] rfl) ggX12_bars_X12_isYear
set_option maxRecDepth 20000 in
theorem ggX12_bars_X12_doesBar : GoodIn wsX12_bars wsX12_doesBar := gcons (goodIn_g ch_wsX12_bars_flat gd_wsX12_bars _ [(1, 15)] rfl) (goodIn_app (goodIn_g ch_wsX12_bars_flat gd_wsX12_bars _ [(1, 16), (1, 17), (1, 18), (1, 19), (1, 20), (1, 2), (1, 21), (1, 22), (1, 23), (2, 0), (2, 1), (1, 5), (1, 6), (1, 7)] rfl) (gchunk ch_wsX12_bars_flat gd_wsX12_bars 3 rfl))
set_option maxRecDepth 20000 in
theorem gX12_bars_X12_doesBar : GoodIn wsX12_bars (wsV RX12 259 RX12 yX12_doesBar wsX12_doesBar) := goodIn_app (goodIn_g ch_wsX12_bars_flat gd_wsX12_bars _ [(1, 12), (1, 13), (1, 14), (1, 2)] rfl) ggX12_bars_X12_doesBar
set_option maxRecDepth 20000 in
theorem SX12_bars : ∀ p : Nat, gb cX12_bars p = segF [[27, 184, 0, 197, 153, 0, 27, 28, 184, 0, 147, 153, 0, 20, 42, 27, 28, 182, 1, 3, 153, 0, 7, 4, 167, 0, 8, 3, 167, 0, 4, 2, 172]] p := seg_gb (S := [[27, 184, 0, 197, 153, 0, 27, 28, 184, 0, 147, 153, 0, 20, 42, 27, 28, 182, 1, 3, 153, 0, 7, 4, 167, 0, 8, 3, 167, 0, 4, 2, 172]]) (by decide +kernel) (by decide +kernel)
set_option maxRecDepth 20000 in
theorem BX12_bars_1_0 : ∀ q ∈ ([(0, 27), (7, 28), (14, 42), (15, 27), (16, 28), (23, 4), (27, 3), (31, 2), (32, 172)] : List (Nat × Nat)), gb cX12_bars q.1 = some q.2 := seg_1 SX12_bars _ (by decide +kernel)
set_option maxRecDepth 20000 in
theorem BX12_bars_3_0 : ∀ q ∈ ([(1, 184, 0, 197), (4, 153, 0, 27), (8, 184, 0, 147), (11, 153, 0, 20), (17, 182, 1, 3), (20, 153, 0, 7), (24, 167, 0, 8), (28, 167, 0, 4)] : List (Nat × Nat × Nat × Nat)), gb cX12_bars q.1 = some q.2.1 ∧ gb cX12_bars (q.1 + 1) = some q.2.2.1 ∧ gb cX12_bars (q.1 + 2) = some q.2.2.2 := seg_3 SX12_bars _ (by decide +kernel)
theorem dX12_bars_0 : decode cX12_bars 0 = .ok (.iload_n 1, 1) := dk27 (BX12_bars_1_0 (0, 27) (List.mem_of_getElem? (i := 0) rfl))
theorem dX12_bars_1 : decode cX12_bars 1 = .ok (.invokestatic 197, 3) := dk184 0 197 (BX12_bars_3_0 (1, 184, 0, 197) (List.mem_of_getElem? (i := 0) rfl))
theorem dX12_bars_4 : decode cX12_bars 4 = .ok (.ifCond .eq 27, 3) := dk153 0 27 (BX12_bars_3_0 (4, 153, 0, 27) (List.mem_of_getElem? (i := 1) rfl))
theorem dX12_bars_7 : decode cX12_bars 7 = .ok (.iload_n 2, 1) := dk28 (BX12_bars_1_0 (7, 28) (List.mem_of_getElem? (i := 1) rfl))
theorem dX12_bars_8 : decode cX12_bars 8 = .ok (.invokestatic 147, 3) := dk184 0 147 (BX12_bars_3_0 (8, 184, 0, 147) (List.mem_of_getElem? (i := 2) rfl))
theorem dX12_bars_11 : decode cX12_bars 11 = .ok (.ifCond .eq 20, 3) := dk153 0 20 (BX12_bars_3_0 (11, 153, 0, 20) (List.mem_of_getElem? (i := 3) rfl))
theorem dX12_bars_14 : decode cX12_bars 14 = .ok (.aload_n 0, 1) := dk42 (BX12_bars_1_0 (14, 42) (List.mem_of_getElem? (i := 2) rfl))
theorem dX12_bars_15 : decode cX12_bars 15 = .ok (.iload_n 1, 1) := dk27 (BX12_bars_1_0 (15, 27) (List.mem_of_getElem? (i := 3) rfl))
theorem dX12_bars_16 : decode cX12_bars 16 = .ok (.iload_n 2, 1) := dk28 (BX12_bars_1_0 (16, 28) (List.mem_of_getElem? (i := 4) rfl))
theorem dX12_bars_17 : decode cX12_bars 17 = .ok (.invokevirtual 259, 3) := dk182 1 3 (BX12_bars_3_0 (17, 182, 1, 3) (List.mem_of_getElem? (i := 4) rfl))
theorem dX12_bars_20 : decode cX12_bars 20 = .ok (.ifCond .eq 7, 3) := dk153 0 7 (BX12_bars_3_0 (20, 153, 0, 7) (List.mem_of_getElem? (i := 5) rfl))
theorem dX12_bars_23 : decode cX12_bars 23 = .ok (.iconst 1, 1) := dk4 (BX12_bars_1_0 (23, 4) (List.mem_of_getElem? (i := 5) rfl))
theorem dX12_bars_24 : decode cX12_bars 24 = .ok (.goto 8, 3) := dk167 0 8 (BX12_bars_3_0 (24, 167, 0, 8) (List.mem_of_getElem? (i := 6) rfl))
theorem dX12_bars_27 : decode cX12_bars 27 = .ok (.iconst 0, 1) := dk3 (BX12_bars_1_0 (27, 3) (List.mem_of_getElem? (i := 6) rfl))
theorem dX12_bars_28 : decode cX12_bars 28 = .ok (.goto 4, 3) := dk167 0 4 (BX12_bars_3_0 (28, 167, 0, 4) (List.mem_of_getElem? (i := 7) rfl))
theorem dX12_bars_31 : decode cX12_bars 31 = .ok (.iconst (-1), 1) := dk2 (BX12_bars_1_0 (31, 2) (List.mem_of_getElem? (i := 7) rfl))
theorem dX12_bars_32 : decode cX12_bars 32 = .ok (.ireturn, 1) := dk172 (BX12_bars_1_0 (32, 172) (List.mem_of_getElem? (i := 8) rfl))
set_option maxRecDepth 20000 in
theorem ggX12_place_X12_isYear : GoodIn wsX12_place wsX12_isYear := goodIn_g ch_wsX12_place_flat gd_wsX12_place _ [(1, 8), (1, 9), (1, 10), (1, 11), (1, 7), (1, 12)] rfl
set_option maxRecDepth 20000 in
theorem gX12_place_X12_isYear : GoodIn wsX12_place (va_wsS RX12 147 yX12_isYear wsX12_isYear) := goodIn_app (goodIn_g ch_wsX12_place_flat gd_wsX12_place _ [(1, 5), (1, 6), (1, 7)] rfl) ggX12_place_X12_isYear
set_option maxRecDepth 20000 in
theorem ggX12_place_X12_within : GoodIn wsX12_place wsX12_within := goodIn_g ch_wsX12_place_flat gd_wsX12_place _ [(1, 12)] rfl
set_option maxRecDepth 20000 in
theorem gX12_place_X12_within : GoodIn wsX12_place (va_wsS RX12 136 yX12_within wsX12_within) := goodIn_app (goodIn_g ch_wsX12_place_flat gd_wsX12_place _ [(1, 10), (1, 11), (1, 7)] rfl) ggX12_place_X12_within
set_option maxRecDepth 20000 in
theorem SX12_place : ∀ p : Nat, gb cX12_place p = segF [[27, 184, 0, 147, 153, 0, 27, 28, 133, 9, 20, 0, 225, 184, 0, 136, 153, 0, 15, 29, 133, 9, 20, 0, 225, 184, 0, 136, 154, 0, 5, 2, 172, 42, 180, 1, 6, 16, 20, 160, 0, 6, 16, 253, 172, 42, 180, 0, 71, 42, 180, 1, 6, 27, 79, 42, 180, 0, 74, 42, 180, 1, 6, 28], [79, 42, 180, 0, 77, 42, 180, 1, 6, 29, 79, 42, 89, 180, 1, 6, 4, 96, 181, 1, 6, 42, 180, 1, 6, 4, 100, 172]] p := seg_gb (S := [[27, 184, 0, 147, 153, 0, 27, 28, 133, 9, 20, 0, 225, 184, 0, 136, 153, 0, 15, 29, 133, 9, 20, 0, 225, 184, 0, 136, 154, 0, 5, 2, 172, 42, 180, 1, 6, 16, 20, 160, 0, 6, 16, 253, 172, 42, 180, 0, 71, 42, 180, 1, 6, 27, 79, 42, 180, 0, 74, 42, 180, 1, 6, 28], [79, 42, 180, 0, 77, 42, 180, 1, 6, 29, 79, 42, 89, 180, 1, 6, 4, 96, 181, 1, 6, 42, 180, 1, 6, 4, 100, 172]]) (by decide +kernel) (by decide +kernel)
set_option maxRecDepth 20000 in
theorem BX12_place_1_0 : ∀ q ∈ ([(0, 27), (7, 28), (8, 133), (9, 9), (19, 29), (20, 133), (21, 9), (31, 2), (32, 172), (33, 42), (44, 172), (45, 42)] : List (Nat × Nat)), gb cX12_place q.1 = some q.2 := seg_1 SX12_place _ (by decide +kernel)
set_option maxRecDepth 20000 in
theorem BX12_place_1_1 : ∀ q ∈ ([(49, 42), (53, 27), (54, 79), (55, 42), (59, 42), (63, 28), (64, 79), (65, 42), (69, 42), (73, 29), (74, 79), (75, 42)] : List (Nat × Nat)), gb cX12_place q.1 = some q.2 := seg_1 SX12_place _ (by decide +kernel)
set_option maxRecDepth 20000 in
theorem BX12_place_1_2 : ∀ q ∈ ([(76, 89), (80, 4), (81, 96), (85, 42), (89, 4), (90, 100), (91, 172)] : List (Nat × Nat)), gb cX12_place q.1 = some q.2 := seg_1 SX12_place _ (by decide +kernel)
set_option maxRecDepth 20000 in
theorem BX12_place_2_0 : ∀ q ∈ ([(37, 16, 20), (42, 16, 253)] : List (Nat × Nat × Nat)), gb cX12_place q.1 = some q.2.1 ∧ gb cX12_place (q.1 + 1) = some q.2.2 := seg_2 SX12_place _ (by decide +kernel)
set_option maxRecDepth 20000 in
theorem BX12_place_3_0 : ∀ q ∈ ([(1, 184, 0, 147), (4, 153, 0, 27), (10, 20, 0, 225), (13, 184, 0, 136), (16, 153, 0, 15), (22, 20, 0, 225), (25, 184, 0, 136), (28, 154, 0, 5), (34, 180, 1, 6), (39, 160, 0, 6), (46, 180, 0, 71), (50, 180, 1, 6)] : List (Nat × Nat × Nat × Nat)), gb cX12_place q.1 = some q.2.1 ∧ gb cX12_place (q.1 + 1) = some q.2.2.1 ∧ gb cX12_place (q.1 + 2) = some q.2.2.2 := seg_3 SX12_place _ (by decide +kernel)
set_option maxRecDepth 20000 in
theorem BX12_place_3_1 : ∀ q ∈ ([(56, 180, 0, 74), (60, 180, 1, 6), (66, 180, 0, 77), (70, 180, 1, 6), (77, 180, 1, 6), (82, 181, 1, 6), (86, 180, 1, 6)] : List (Nat × Nat × Nat × Nat)), gb cX12_place q.1 = some q.2.1 ∧ gb cX12_place (q.1 + 1) = some q.2.2.1 ∧ gb cX12_place (q.1 + 2) = some q.2.2.2 := seg_3 SX12_place _ (by decide +kernel)
theorem dX12_place_0 : decode cX12_place 0 = .ok (.iload_n 1, 1) := dk27 (BX12_place_1_0 (0, 27) (List.mem_of_getElem? (i := 0) rfl))
theorem dX12_place_1 : decode cX12_place 1 = .ok (.invokestatic 147, 3) := dk184 0 147 (BX12_place_3_0 (1, 184, 0, 147) (List.mem_of_getElem? (i := 0) rfl))
theorem dX12_place_4 : decode cX12_place 4 = .ok (.ifCond .eq 27, 3) := dk153 0 27 (BX12_place_3_0 (4, 153, 0, 27) (List.mem_of_getElem? (i := 1) rfl))
theorem dX12_place_7 : decode cX12_place 7 = .ok (.iload_n 2, 1) := dk28 (BX12_place_1_0 (7, 28) (List.mem_of_getElem? (i := 1) rfl))
theorem dX12_place_8 : decode cX12_place 8 = .ok (.i2l, 1) := dk133 (BX12_place_1_0 (8, 133) (List.mem_of_getElem? (i := 2) rfl))
theorem dX12_place_9 : decode cX12_place 9 = .ok (.lconst 0, 1) := dk9 (BX12_place_1_0 (9, 9) (List.mem_of_getElem? (i := 3) rfl))
theorem dX12_place_10 : decode cX12_place 10 = .ok (.ldc2_w 225, 3) := dk20 0 225 (BX12_place_3_0 (10, 20, 0, 225) (List.mem_of_getElem? (i := 2) rfl))
theorem dX12_place_13 : decode cX12_place 13 = .ok (.invokestatic 136, 3) := dk184 0 136 (BX12_place_3_0 (13, 184, 0, 136) (List.mem_of_getElem? (i := 3) rfl))
theorem dX12_place_16 : decode cX12_place 16 = .ok (.ifCond .eq 15, 3) := dk153 0 15 (BX12_place_3_0 (16, 153, 0, 15) (List.mem_of_getElem? (i := 4) rfl))
theorem dX12_place_19 : decode cX12_place 19 = .ok (.iload_n 3, 1) := dk29 (BX12_place_1_0 (19, 29) (List.mem_of_getElem? (i := 4) rfl))
theorem dX12_place_20 : decode cX12_place 20 = .ok (.i2l, 1) := dk133 (BX12_place_1_0 (20, 133) (List.mem_of_getElem? (i := 5) rfl))
theorem dX12_place_21 : decode cX12_place 21 = .ok (.lconst 0, 1) := dk9 (BX12_place_1_0 (21, 9) (List.mem_of_getElem? (i := 6) rfl))
theorem dX12_place_22 : decode cX12_place 22 = .ok (.ldc2_w 225, 3) := dk20 0 225 (BX12_place_3_0 (22, 20, 0, 225) (List.mem_of_getElem? (i := 5) rfl))
theorem dX12_place_25 : decode cX12_place 25 = .ok (.invokestatic 136, 3) := dk184 0 136 (BX12_place_3_0 (25, 184, 0, 136) (List.mem_of_getElem? (i := 6) rfl))
theorem dX12_place_28 : decode cX12_place 28 = .ok (.ifCond .ne 5, 3) := dk154 0 5 (BX12_place_3_0 (28, 154, 0, 5) (List.mem_of_getElem? (i := 7) rfl))
theorem dX12_place_31 : decode cX12_place 31 = .ok (.iconst (-1), 1) := dk2 (BX12_place_1_0 (31, 2) (List.mem_of_getElem? (i := 7) rfl))
theorem dX12_place_32 : decode cX12_place 32 = .ok (.ireturn, 1) := dk172 (BX12_place_1_0 (32, 172) (List.mem_of_getElem? (i := 8) rfl))
theorem dX12_place_33 : decode cX12_place 33 = .ok (.aload_n 0, 1) := dk42 (BX12_place_1_0 (33, 42) (List.mem_of_getElem? (i := 9) rfl))
theorem dX12_place_34 : decode cX12_place 34 = .ok (.getfield 262, 3) := dk180 1 6 (BX12_place_3_0 (34, 180, 1, 6) (List.mem_of_getElem? (i := 8) rfl))
theorem dX12_place_37 : decode cX12_place 37 = .ok (.bipush 20, 2) := dk16 20 (BX12_place_2_0 (37, 16, 20) (List.mem_of_getElem? (i := 0) rfl))
theorem dX12_place_39 : decode cX12_place 39 = .ok (.if_icmp .ne 6, 3) := dk160 0 6 (BX12_place_3_0 (39, 160, 0, 6) (List.mem_of_getElem? (i := 9) rfl))
theorem dX12_place_42 : decode cX12_place 42 = .ok (.bipush (-3), 2) := dk16 253 (BX12_place_2_0 (42, 16, 253) (List.mem_of_getElem? (i := 1) rfl))
theorem dX12_place_44 : decode cX12_place 44 = .ok (.ireturn, 1) := dk172 (BX12_place_1_0 (44, 172) (List.mem_of_getElem? (i := 10) rfl))
theorem dX12_place_45 : decode cX12_place 45 = .ok (.aload_n 0, 1) := dk42 (BX12_place_1_0 (45, 42) (List.mem_of_getElem? (i := 11) rfl))
theorem dX12_place_46 : decode cX12_place 46 = .ok (.getfield 71, 3) := dk180 0 71 (BX12_place_3_0 (46, 180, 0, 71) (List.mem_of_getElem? (i := 10) rfl))
theorem dX12_place_49 : decode cX12_place 49 = .ok (.aload_n 0, 1) := dk42 (BX12_place_1_1 (49, 42) (List.mem_of_getElem? (i := 0) rfl))
theorem dX12_place_50 : decode cX12_place 50 = .ok (.getfield 262, 3) := dk180 1 6 (BX12_place_3_0 (50, 180, 1, 6) (List.mem_of_getElem? (i := 11) rfl))
theorem dX12_place_53 : decode cX12_place 53 = .ok (.iload_n 1, 1) := dk27 (BX12_place_1_1 (53, 27) (List.mem_of_getElem? (i := 1) rfl))
theorem dX12_place_54 : decode cX12_place 54 = .ok (.iastore, 1) := dk79 (BX12_place_1_1 (54, 79) (List.mem_of_getElem? (i := 2) rfl))
theorem dX12_place_55 : decode cX12_place 55 = .ok (.aload_n 0, 1) := dk42 (BX12_place_1_1 (55, 42) (List.mem_of_getElem? (i := 3) rfl))
theorem dX12_place_56 : decode cX12_place 56 = .ok (.getfield 74, 3) := dk180 0 74 (BX12_place_3_1 (56, 180, 0, 74) (List.mem_of_getElem? (i := 0) rfl))
theorem dX12_place_59 : decode cX12_place 59 = .ok (.aload_n 0, 1) := dk42 (BX12_place_1_1 (59, 42) (List.mem_of_getElem? (i := 4) rfl))
theorem dX12_place_60 : decode cX12_place 60 = .ok (.getfield 262, 3) := dk180 1 6 (BX12_place_3_1 (60, 180, 1, 6) (List.mem_of_getElem? (i := 1) rfl))
theorem dX12_place_63 : decode cX12_place 63 = .ok (.iload_n 2, 1) := dk28 (BX12_place_1_1 (63, 28) (List.mem_of_getElem? (i := 5) rfl))
theorem dX12_place_64 : decode cX12_place 64 = .ok (.iastore, 1) := dk79 (BX12_place_1_1 (64, 79) (List.mem_of_getElem? (i := 6) rfl))
theorem dX12_place_65 : decode cX12_place 65 = .ok (.aload_n 0, 1) := dk42 (BX12_place_1_1 (65, 42) (List.mem_of_getElem? (i := 7) rfl))
theorem dX12_place_66 : decode cX12_place 66 = .ok (.getfield 77, 3) := dk180 0 77 (BX12_place_3_1 (66, 180, 0, 77) (List.mem_of_getElem? (i := 2) rfl))
theorem dX12_place_69 : decode cX12_place 69 = .ok (.aload_n 0, 1) := dk42 (BX12_place_1_1 (69, 42) (List.mem_of_getElem? (i := 8) rfl))
theorem dX12_place_70 : decode cX12_place 70 = .ok (.getfield 262, 3) := dk180 1 6 (BX12_place_3_1 (70, 180, 1, 6) (List.mem_of_getElem? (i := 3) rfl))
theorem dX12_place_73 : decode cX12_place 73 = .ok (.iload_n 3, 1) := dk29 (BX12_place_1_1 (73, 29) (List.mem_of_getElem? (i := 9) rfl))
theorem dX12_place_74 : decode cX12_place 74 = .ok (.iastore, 1) := dk79 (BX12_place_1_1 (74, 79) (List.mem_of_getElem? (i := 10) rfl))
theorem dX12_place_75 : decode cX12_place 75 = .ok (.aload_n 0, 1) := dk42 (BX12_place_1_1 (75, 42) (List.mem_of_getElem? (i := 11) rfl))
theorem dX12_place_76 : decode cX12_place 76 = .ok (.dup, 1) := dk89 (BX12_place_1_2 (76, 89) (List.mem_of_getElem? (i := 0) rfl))
theorem dX12_place_77 : decode cX12_place 77 = .ok (.getfield 262, 3) := dk180 1 6 (BX12_place_3_1 (77, 180, 1, 6) (List.mem_of_getElem? (i := 4) rfl))
theorem dX12_place_80 : decode cX12_place 80 = .ok (.iconst 1, 1) := dk4 (BX12_place_1_2 (80, 4) (List.mem_of_getElem? (i := 1) rfl))
theorem dX12_place_81 : decode cX12_place 81 = .ok (.iadd, 1) := dk96 (BX12_place_1_2 (81, 96) (List.mem_of_getElem? (i := 2) rfl))
theorem dX12_place_82 : decode cX12_place 82 = .ok (.putfield 262, 3) := dk181 1 6 (BX12_place_3_1 (82, 181, 1, 6) (List.mem_of_getElem? (i := 5) rfl))
theorem dX12_place_85 : decode cX12_place 85 = .ok (.aload_n 0, 1) := dk42 (BX12_place_1_2 (85, 42) (List.mem_of_getElem? (i := 3) rfl))
theorem dX12_place_86 : decode cX12_place 86 = .ok (.getfield 262, 3) := dk180 1 6 (BX12_place_3_1 (86, 180, 1, 6) (List.mem_of_getElem? (i := 6) rfl))
theorem dX12_place_89 : decode cX12_place 89 = .ok (.iconst 1, 1) := dk4 (BX12_place_1_2 (89, 4) (List.mem_of_getElem? (i := 4) rfl))
theorem dX12_place_90 : decode cX12_place 90 = .ok (.isub, 1) := dk100 (BX12_place_1_2 (90, 100) (List.mem_of_getElem? (i := 5) rfl))
theorem dX12_place_91 : decode cX12_place 91 = .ok (.ireturn, 1) := dk172 (BX12_place_1_2 (91, 172) (List.mem_of_getElem? (i := 6) rfl))
set_option maxRecDepth 20000 in
theorem ggX12_apart_X12_size : GoodIn wsX12_apart wsX12_size := goodIn_r _ [4] rfl (by decide +kernel)
set_option maxRecDepth 20000 in
theorem gX12_apart_X12_size : GoodIn wsX12_apart (va_wsS RX12 265 yX12_size wsX12_size) := goodIn_app (goodIn_r _ [1, 2, 3] rfl (by decide +kernel)) ggX12_apart_X12_size
set_option maxRecDepth 20000 in
theorem SX12_apart : ∀ p : Nat, gb cX12_apart p = segF [[26, 16, 100, 108, 27, 16, 100, 108, 100, 184, 1, 9, 26, 16, 100, 112, 27, 16, 100, 112, 100, 184, 1, 9, 96, 172]] p := seg_gb (S := [[26, 16, 100, 108, 27, 16, 100, 108, 100, 184, 1, 9, 26, 16, 100, 112, 27, 16, 100, 112, 100, 184, 1, 9, 96, 172]]) (by decide +kernel) (by decide +kernel)
set_option maxRecDepth 20000 in
theorem BX12_apart_1_0 : ∀ q ∈ ([(0, 26), (3, 108), (4, 27), (7, 108), (8, 100), (12, 26), (15, 112), (16, 27), (19, 112), (20, 100), (24, 96), (25, 172)] : List (Nat × Nat)), gb cX12_apart q.1 = some q.2 := seg_1 SX12_apart _ (by decide +kernel)
set_option maxRecDepth 20000 in
theorem BX12_apart_2_0 : ∀ q ∈ ([(1, 16, 100), (5, 16, 100), (13, 16, 100), (17, 16, 100)] : List (Nat × Nat × Nat)), gb cX12_apart q.1 = some q.2.1 ∧ gb cX12_apart (q.1 + 1) = some q.2.2 := seg_2 SX12_apart _ (by decide +kernel)
set_option maxRecDepth 20000 in
theorem BX12_apart_3_0 : ∀ q ∈ ([(9, 184, 1, 9), (21, 184, 1, 9)] : List (Nat × Nat × Nat × Nat)), gb cX12_apart q.1 = some q.2.1 ∧ gb cX12_apart (q.1 + 1) = some q.2.2.1 ∧ gb cX12_apart (q.1 + 2) = some q.2.2.2 := seg_3 SX12_apart _ (by decide +kernel)
theorem dX12_apart_0 : decode cX12_apart 0 = .ok (.iload_n 0, 1) := dk26 (BX12_apart_1_0 (0, 26) (List.mem_of_getElem? (i := 0) rfl))
theorem dX12_apart_1 : decode cX12_apart 1 = .ok (.bipush 100, 2) := dk16 100 (BX12_apart_2_0 (1, 16, 100) (List.mem_of_getElem? (i := 0) rfl))
theorem dX12_apart_3 : decode cX12_apart 3 = .ok (.idiv, 1) := dk108 (BX12_apart_1_0 (3, 108) (List.mem_of_getElem? (i := 1) rfl))
theorem dX12_apart_4 : decode cX12_apart 4 = .ok (.iload_n 1, 1) := dk27 (BX12_apart_1_0 (4, 27) (List.mem_of_getElem? (i := 2) rfl))
theorem dX12_apart_5 : decode cX12_apart 5 = .ok (.bipush 100, 2) := dk16 100 (BX12_apart_2_0 (5, 16, 100) (List.mem_of_getElem? (i := 1) rfl))
theorem dX12_apart_7 : decode cX12_apart 7 = .ok (.idiv, 1) := dk108 (BX12_apart_1_0 (7, 108) (List.mem_of_getElem? (i := 3) rfl))
theorem dX12_apart_8 : decode cX12_apart 8 = .ok (.isub, 1) := dk100 (BX12_apart_1_0 (8, 100) (List.mem_of_getElem? (i := 4) rfl))
theorem dX12_apart_9 : decode cX12_apart 9 = .ok (.invokestatic 265, 3) := dk184 1 9 (BX12_apart_3_0 (9, 184, 1, 9) (List.mem_of_getElem? (i := 0) rfl))
theorem dX12_apart_12 : decode cX12_apart 12 = .ok (.iload_n 0, 1) := dk26 (BX12_apart_1_0 (12, 26) (List.mem_of_getElem? (i := 5) rfl))
theorem dX12_apart_13 : decode cX12_apart 13 = .ok (.bipush 100, 2) := dk16 100 (BX12_apart_2_0 (13, 16, 100) (List.mem_of_getElem? (i := 2) rfl))
theorem dX12_apart_15 : decode cX12_apart 15 = .ok (.irem, 1) := dk112 (BX12_apart_1_0 (15, 112) (List.mem_of_getElem? (i := 6) rfl))
theorem dX12_apart_16 : decode cX12_apart 16 = .ok (.iload_n 1, 1) := dk27 (BX12_apart_1_0 (16, 27) (List.mem_of_getElem? (i := 7) rfl))
theorem dX12_apart_17 : decode cX12_apart 17 = .ok (.bipush 100, 2) := dk16 100 (BX12_apart_2_0 (17, 16, 100) (List.mem_of_getElem? (i := 3) rfl))
theorem dX12_apart_19 : decode cX12_apart 19 = .ok (.irem, 1) := dk112 (BX12_apart_1_0 (19, 112) (List.mem_of_getElem? (i := 8) rfl))
theorem dX12_apart_20 : decode cX12_apart 20 = .ok (.isub, 1) := dk100 (BX12_apart_1_0 (20, 100) (List.mem_of_getElem? (i := 9) rfl))
theorem dX12_apart_21 : decode cX12_apart 21 = .ok (.invokestatic 265, 3) := dk184 1 9 (BX12_apart_3_0 (21, 184, 1, 9) (List.mem_of_getElem? (i := 1) rfl))
theorem dX12_apart_24 : decode cX12_apart 24 = .ok (.iadd, 1) := dk96 (BX12_apart_1_0 (24, 96) (List.mem_of_getElem? (i := 10) rfl))
theorem dX12_apart_25 : decode cX12_apart 25 = .ok (.ireturn, 1) := dk172 (BX12_apart_1_0 (25, 172) (List.mem_of_getElem? (i := 11) rfl))
set_option maxRecDepth 20000 in
theorem SX12_lateMany : ∀ p : Nat, gb cX12_lateMany p = segF [[3, 61, 3, 62, 29, 42, 180, 1, 6, 162, 0, 27, 28, 42, 180, 0, 71, 29, 46, 27, 164, 0, 7, 4, 167, 0, 4, 3, 96, 61, 132, 3, 1, 167, 255, 227, 28, 172]] p := seg_gb (S := [[3, 61, 3, 62, 29, 42, 180, 1, 6, 162, 0, 27, 28, 42, 180, 0, 71, 29, 46, 27, 164, 0, 7, 4, 167, 0, 4, 3, 96, 61, 132, 3, 1, 167, 255, 227, 28, 172]]) (by decide +kernel) (by decide +kernel)
set_option maxRecDepth 20000 in
theorem BX12_lateMany_1_0 : ∀ q ∈ ([(0, 3), (1, 61), (2, 3), (3, 62), (4, 29), (5, 42), (12, 28), (13, 42), (17, 29), (18, 46), (19, 27), (23, 4)] : List (Nat × Nat)), gb cX12_lateMany q.1 = some q.2 := seg_1 SX12_lateMany _ (by decide +kernel)
set_option maxRecDepth 20000 in
theorem BX12_lateMany_1_1 : ∀ q ∈ ([(27, 3), (28, 96), (29, 61), (36, 28), (37, 172)] : List (Nat × Nat)), gb cX12_lateMany q.1 = some q.2 := seg_1 SX12_lateMany _ (by decide +kernel)
set_option maxRecDepth 20000 in
theorem BX12_lateMany_3_0 : ∀ q ∈ ([(6, 180, 1, 6), (9, 162, 0, 27), (14, 180, 0, 71), (20, 164, 0, 7), (24, 167, 0, 4), (30, 132, 3, 1), (33, 167, 255, 227)] : List (Nat × Nat × Nat × Nat)), gb cX12_lateMany q.1 = some q.2.1 ∧ gb cX12_lateMany (q.1 + 1) = some q.2.2.1 ∧ gb cX12_lateMany (q.1 + 2) = some q.2.2.2 := seg_3 SX12_lateMany _ (by decide +kernel)
theorem dX12_lateMany_0 : decode cX12_lateMany 0 = .ok (.iconst 0, 1) := dk3 (BX12_lateMany_1_0 (0, 3) (List.mem_of_getElem? (i := 0) rfl))
theorem dX12_lateMany_1 : decode cX12_lateMany 1 = .ok (.istore_n 2, 1) := dk61 (BX12_lateMany_1_0 (1, 61) (List.mem_of_getElem? (i := 1) rfl))
theorem dX12_lateMany_2 : decode cX12_lateMany 2 = .ok (.iconst 0, 1) := dk3 (BX12_lateMany_1_0 (2, 3) (List.mem_of_getElem? (i := 2) rfl))
theorem dX12_lateMany_3 : decode cX12_lateMany 3 = .ok (.istore_n 3, 1) := dk62 (BX12_lateMany_1_0 (3, 62) (List.mem_of_getElem? (i := 3) rfl))
theorem dX12_lateMany_4 : decode cX12_lateMany 4 = .ok (.iload_n 3, 1) := dk29 (BX12_lateMany_1_0 (4, 29) (List.mem_of_getElem? (i := 4) rfl))
theorem dX12_lateMany_5 : decode cX12_lateMany 5 = .ok (.aload_n 0, 1) := dk42 (BX12_lateMany_1_0 (5, 42) (List.mem_of_getElem? (i := 5) rfl))
theorem dX12_lateMany_6 : decode cX12_lateMany 6 = .ok (.getfield 262, 3) := dk180 1 6 (BX12_lateMany_3_0 (6, 180, 1, 6) (List.mem_of_getElem? (i := 0) rfl))
theorem dX12_lateMany_9 : decode cX12_lateMany 9 = .ok (.if_icmp .ge 27, 3) := dk162 0 27 (BX12_lateMany_3_0 (9, 162, 0, 27) (List.mem_of_getElem? (i := 1) rfl))
theorem dX12_lateMany_12 : decode cX12_lateMany 12 = .ok (.iload_n 2, 1) := dk28 (BX12_lateMany_1_0 (12, 28) (List.mem_of_getElem? (i := 6) rfl))
theorem dX12_lateMany_13 : decode cX12_lateMany 13 = .ok (.aload_n 0, 1) := dk42 (BX12_lateMany_1_0 (13, 42) (List.mem_of_getElem? (i := 7) rfl))
theorem dX12_lateMany_14 : decode cX12_lateMany 14 = .ok (.getfield 71, 3) := dk180 0 71 (BX12_lateMany_3_0 (14, 180, 0, 71) (List.mem_of_getElem? (i := 2) rfl))
theorem dX12_lateMany_17 : decode cX12_lateMany 17 = .ok (.iload_n 3, 1) := dk29 (BX12_lateMany_1_0 (17, 29) (List.mem_of_getElem? (i := 8) rfl))
theorem dX12_lateMany_18 : decode cX12_lateMany 18 = .ok (.iaload, 1) := dk46 (BX12_lateMany_1_0 (18, 46) (List.mem_of_getElem? (i := 9) rfl))
theorem dX12_lateMany_19 : decode cX12_lateMany 19 = .ok (.iload_n 1, 1) := dk27 (BX12_lateMany_1_0 (19, 27) (List.mem_of_getElem? (i := 10) rfl))
theorem dX12_lateMany_20 : decode cX12_lateMany 20 = .ok (.if_icmp .le 7, 3) := dk164 0 7 (BX12_lateMany_3_0 (20, 164, 0, 7) (List.mem_of_getElem? (i := 3) rfl))
theorem dX12_lateMany_23 : decode cX12_lateMany 23 = .ok (.iconst 1, 1) := dk4 (BX12_lateMany_1_0 (23, 4) (List.mem_of_getElem? (i := 11) rfl))
theorem dX12_lateMany_24 : decode cX12_lateMany 24 = .ok (.goto 4, 3) := dk167 0 4 (BX12_lateMany_3_0 (24, 167, 0, 4) (List.mem_of_getElem? (i := 4) rfl))
theorem dX12_lateMany_27 : decode cX12_lateMany 27 = .ok (.iconst 0, 1) := dk3 (BX12_lateMany_1_1 (27, 3) (List.mem_of_getElem? (i := 0) rfl))
theorem dX12_lateMany_28 : decode cX12_lateMany 28 = .ok (.iadd, 1) := dk96 (BX12_lateMany_1_1 (28, 96) (List.mem_of_getElem? (i := 1) rfl))
theorem dX12_lateMany_29 : decode cX12_lateMany 29 = .ok (.istore_n 2, 1) := dk61 (BX12_lateMany_1_1 (29, 61) (List.mem_of_getElem? (i := 2) rfl))
theorem dX12_lateMany_30 : decode cX12_lateMany 30 = .ok (.iinc 3 1, 3) := dk132 3 1 (BX12_lateMany_3_0 (30, 132, 3, 1) (List.mem_of_getElem? (i := 5) rfl))
theorem dX12_lateMany_33 : decode cX12_lateMany 33 = .ok (.goto (-29), 3) := dk167 255 227 (BX12_lateMany_3_0 (33, 167, 255, 227) (List.mem_of_getElem? (i := 6) rfl))
theorem dX12_lateMany_36 : decode cX12_lateMany 36 = .ok (.iload_n 2, 1) := dk28 (BX12_lateMany_1_1 (36, 28) (List.mem_of_getElem? (i := 3) rfl))
theorem dX12_lateMany_37 : decode cX12_lateMany 37 = .ok (.ireturn, 1) := dk172 (BX12_lateMany_1_1 (37, 172) (List.mem_of_getElem? (i := 4) rfl))
set_option maxRecDepth 20000 in
theorem ggX12_lateOff_X12_apart : GoodIn wsX12_lateOff wsX12_apart := goodIn_g ch_wsX12_lateOff_flat gd_wsX12_lateOff _ [(1, 7), (1, 8), (1, 9), (1, 6), (1, 10)] rfl
set_option maxRecDepth 20000 in
theorem gX12_lateOff_X12_apart : GoodIn wsX12_lateOff (va_wsS RX12 268 yX12_apart wsX12_apart) := goodIn_app (goodIn_g ch_wsX12_lateOff_flat gd_wsX12_lateOff _ [(1, 4), (1, 5), (1, 6)] rfl) ggX12_lateOff_X12_apart
set_option maxRecDepth 20000 in
theorem SX12_lateOff : ∀ p : Nat, gb cX12_lateOff p = segF [[3, 61, 3, 62, 29, 42, 180, 1, 6, 162, 0, 41, 28, 42, 180, 0, 71, 29, 46, 27, 164, 0, 21, 42, 180, 0, 74, 29, 46, 42, 180, 0, 77, 29, 46, 184, 1, 12, 167, 0, 4, 3, 96, 61, 132, 3, 1, 167, 255, 213, 28, 172]] p := seg_gb (S := [[3, 61, 3, 62, 29, 42, 180, 1, 6, 162, 0, 41, 28, 42, 180, 0, 71, 29, 46, 27, 164, 0, 21, 42, 180, 0, 74, 29, 46, 42, 180, 0, 77, 29, 46, 184, 1, 12, 167, 0, 4, 3, 96, 61, 132, 3, 1, 167, 255, 213, 28, 172]]) (by decide +kernel) (by decide +kernel)
set_option maxRecDepth 20000 in
theorem BX12_lateOff_1_0 : ∀ q ∈ ([(0, 3), (1, 61), (2, 3), (3, 62), (4, 29), (5, 42), (12, 28), (13, 42), (17, 29), (18, 46), (19, 27), (23, 42)] : List (Nat × Nat)), gb cX12_lateOff q.1 = some q.2 := seg_1 SX12_lateOff _ (by decide +kernel)
set_option maxRecDepth 20000 in
theorem BX12_lateOff_1_1 : ∀ q ∈ ([(27, 29), (28, 46), (29, 42), (33, 29), (34, 46), (41, 3), (42, 96), (43, 61), (50, 28), (51, 172)] : List (Nat × Nat)), gb cX12_lateOff q.1 = some q.2 := seg_1 SX12_lateOff _ (by decide +kernel)
set_option maxRecDepth 20000 in
theorem BX12_lateOff_3_0 : ∀ q ∈ ([(6, 180, 1, 6), (9, 162, 0, 41), (14, 180, 0, 71), (20, 164, 0, 21), (24, 180, 0, 74), (30, 180, 0, 77), (35, 184, 1, 12), (38, 167, 0, 4), (44, 132, 3, 1), (47, 167, 255, 213)] : List (Nat × Nat × Nat × Nat)), gb cX12_lateOff q.1 = some q.2.1 ∧ gb cX12_lateOff (q.1 + 1) = some q.2.2.1 ∧ gb cX12_lateOff (q.1 + 2) = some q.2.2.2 := seg_3 SX12_lateOff _ (by decide +kernel)
theorem dX12_lateOff_0 : decode cX12_lateOff 0 = .ok (.iconst 0, 1) := dk3 (BX12_lateOff_1_0 (0, 3) (List.mem_of_getElem? (i := 0) rfl))
theorem dX12_lateOff_1 : decode cX12_lateOff 1 = .ok (.istore_n 2, 1) := dk61 (BX12_lateOff_1_0 (1, 61) (List.mem_of_getElem? (i := 1) rfl))
theorem dX12_lateOff_2 : decode cX12_lateOff 2 = .ok (.iconst 0, 1) := dk3 (BX12_lateOff_1_0 (2, 3) (List.mem_of_getElem? (i := 2) rfl))
theorem dX12_lateOff_3 : decode cX12_lateOff 3 = .ok (.istore_n 3, 1) := dk62 (BX12_lateOff_1_0 (3, 62) (List.mem_of_getElem? (i := 3) rfl))
theorem dX12_lateOff_4 : decode cX12_lateOff 4 = .ok (.iload_n 3, 1) := dk29 (BX12_lateOff_1_0 (4, 29) (List.mem_of_getElem? (i := 4) rfl))
theorem dX12_lateOff_5 : decode cX12_lateOff 5 = .ok (.aload_n 0, 1) := dk42 (BX12_lateOff_1_0 (5, 42) (List.mem_of_getElem? (i := 5) rfl))
theorem dX12_lateOff_6 : decode cX12_lateOff 6 = .ok (.getfield 262, 3) := dk180 1 6 (BX12_lateOff_3_0 (6, 180, 1, 6) (List.mem_of_getElem? (i := 0) rfl))
theorem dX12_lateOff_9 : decode cX12_lateOff 9 = .ok (.if_icmp .ge 41, 3) := dk162 0 41 (BX12_lateOff_3_0 (9, 162, 0, 41) (List.mem_of_getElem? (i := 1) rfl))
theorem dX12_lateOff_12 : decode cX12_lateOff 12 = .ok (.iload_n 2, 1) := dk28 (BX12_lateOff_1_0 (12, 28) (List.mem_of_getElem? (i := 6) rfl))
theorem dX12_lateOff_13 : decode cX12_lateOff 13 = .ok (.aload_n 0, 1) := dk42 (BX12_lateOff_1_0 (13, 42) (List.mem_of_getElem? (i := 7) rfl))
theorem dX12_lateOff_14 : decode cX12_lateOff 14 = .ok (.getfield 71, 3) := dk180 0 71 (BX12_lateOff_3_0 (14, 180, 0, 71) (List.mem_of_getElem? (i := 2) rfl))
theorem dX12_lateOff_17 : decode cX12_lateOff 17 = .ok (.iload_n 3, 1) := dk29 (BX12_lateOff_1_0 (17, 29) (List.mem_of_getElem? (i := 8) rfl))
theorem dX12_lateOff_18 : decode cX12_lateOff 18 = .ok (.iaload, 1) := dk46 (BX12_lateOff_1_0 (18, 46) (List.mem_of_getElem? (i := 9) rfl))
theorem dX12_lateOff_19 : decode cX12_lateOff 19 = .ok (.iload_n 1, 1) := dk27 (BX12_lateOff_1_0 (19, 27) (List.mem_of_getElem? (i := 10) rfl))
theorem dX12_lateOff_20 : decode cX12_lateOff 20 = .ok (.if_icmp .le 21, 3) := dk164 0 21 (BX12_lateOff_3_0 (20, 164, 0, 21) (List.mem_of_getElem? (i := 3) rfl))
theorem dX12_lateOff_23 : decode cX12_lateOff 23 = .ok (.aload_n 0, 1) := dk42 (BX12_lateOff_1_0 (23, 42) (List.mem_of_getElem? (i := 11) rfl))
theorem dX12_lateOff_24 : decode cX12_lateOff 24 = .ok (.getfield 74, 3) := dk180 0 74 (BX12_lateOff_3_0 (24, 180, 0, 74) (List.mem_of_getElem? (i := 4) rfl))
theorem dX12_lateOff_27 : decode cX12_lateOff 27 = .ok (.iload_n 3, 1) := dk29 (BX12_lateOff_1_1 (27, 29) (List.mem_of_getElem? (i := 0) rfl))
theorem dX12_lateOff_28 : decode cX12_lateOff 28 = .ok (.iaload, 1) := dk46 (BX12_lateOff_1_1 (28, 46) (List.mem_of_getElem? (i := 1) rfl))
theorem dX12_lateOff_29 : decode cX12_lateOff 29 = .ok (.aload_n 0, 1) := dk42 (BX12_lateOff_1_1 (29, 42) (List.mem_of_getElem? (i := 2) rfl))
theorem dX12_lateOff_30 : decode cX12_lateOff 30 = .ok (.getfield 77, 3) := dk180 0 77 (BX12_lateOff_3_0 (30, 180, 0, 77) (List.mem_of_getElem? (i := 5) rfl))
theorem dX12_lateOff_33 : decode cX12_lateOff 33 = .ok (.iload_n 3, 1) := dk29 (BX12_lateOff_1_1 (33, 29) (List.mem_of_getElem? (i := 3) rfl))
theorem dX12_lateOff_34 : decode cX12_lateOff 34 = .ok (.iaload, 1) := dk46 (BX12_lateOff_1_1 (34, 46) (List.mem_of_getElem? (i := 4) rfl))
theorem dX12_lateOff_35 : decode cX12_lateOff 35 = .ok (.invokestatic 268, 3) := dk184 1 12 (BX12_lateOff_3_0 (35, 184, 1, 12) (List.mem_of_getElem? (i := 6) rfl))
theorem dX12_lateOff_38 : decode cX12_lateOff 38 = .ok (.goto 4, 3) := dk167 0 4 (BX12_lateOff_3_0 (38, 167, 0, 4) (List.mem_of_getElem? (i := 7) rfl))
theorem dX12_lateOff_41 : decode cX12_lateOff 41 = .ok (.iconst 0, 1) := dk3 (BX12_lateOff_1_1 (41, 3) (List.mem_of_getElem? (i := 5) rfl))
theorem dX12_lateOff_42 : decode cX12_lateOff 42 = .ok (.iadd, 1) := dk96 (BX12_lateOff_1_1 (42, 96) (List.mem_of_getElem? (i := 6) rfl))
theorem dX12_lateOff_43 : decode cX12_lateOff 43 = .ok (.istore_n 2, 1) := dk61 (BX12_lateOff_1_1 (43, 61) (List.mem_of_getElem? (i := 7) rfl))
theorem dX12_lateOff_44 : decode cX12_lateOff 44 = .ok (.iinc 3 1, 3) := dk132 3 1 (BX12_lateOff_3_0 (44, 132, 3, 1) (List.mem_of_getElem? (i := 8) rfl))
theorem dX12_lateOff_47 : decode cX12_lateOff 47 = .ok (.goto (-43), 3) := dk167 255 213 (BX12_lateOff_3_0 (47, 167, 255, 213) (List.mem_of_getElem? (i := 9) rfl))
theorem dX12_lateOff_50 : decode cX12_lateOff 50 = .ok (.iload_n 2, 1) := dk28 (BX12_lateOff_1_1 (50, 28) (List.mem_of_getElem? (i := 8) rfl))
theorem dX12_lateOff_51 : decode cX12_lateOff 51 = .ok (.ireturn, 1) := dk172 (BX12_lateOff_1_1 (51, 172) (List.mem_of_getElem? (i := 9) rfl))
set_option maxRecDepth 20000 in
theorem ggX12_late_X12_isYear : GoodIn wsX12_late wsX12_isYear := goodIn_g ch_wsX12_late_flat gd_wsX12_late _ [(1, 3), (1, 4), (1, 5), (1, 6), (1, 2), (1, 7)] rfl
set_option maxRecDepth 20000 in
theorem gX12_late_X12_isYear : GoodIn wsX12_late (va_wsS RX12 147 yX12_isYear wsX12_isYear) := goodIn_app (goodIn_g ch_wsX12_late_flat gd_wsX12_late _ [(1, 0), (1, 1), (1, 2)] rfl) ggX12_late_X12_isYear
set_option maxRecDepth 20000 in
theorem ggX12_late_X12_within : GoodIn wsX12_late wsX12_within := goodIn_g ch_wsX12_late_flat gd_wsX12_late _ [(1, 7)] rfl
set_option maxRecDepth 20000 in
theorem gX12_late_X12_within : GoodIn wsX12_late (va_wsS RX12 136 yX12_within wsX12_within) := goodIn_app (goodIn_g ch_wsX12_late_flat gd_wsX12_late _ [(1, 5), (1, 6), (1, 2)] rfl) ggX12_late_X12_within
set_option maxRecDepth 20000 in
theorem ggX12_late_X12_lateMany : GoodIn wsX12_late wsX12_lateMany := gcons (goodIn_g ch_wsX12_late_flat gd_wsX12_late _ [(1, 11)] rfl) (goodIn_app (goodIn_g ch_wsX12_late_flat gd_wsX12_late _ [(1, 12), (1, 13)] rfl) (gchunk ch_wsX12_late_flat gd_wsX12_late 3 rfl))
set_option maxRecDepth 20000 in
theorem gX12_late_X12_lateMany : GoodIn wsX12_late (wsV RX12 271 RX12 yX12_lateMany wsX12_lateMany) := goodIn_app (goodIn_g ch_wsX12_late_flat gd_wsX12_late _ [(1, 8), (1, 9), (1, 10), (1, 2)] rfl) ggX12_late_X12_lateMany
set_option maxRecDepth 20000 in
theorem ggX12_late_X12_lateOff : GoodIn wsX12_late wsX12_lateOff := gcons (goodIn_g ch_wsX12_late_flat gd_wsX12_late _ [(1, 17)] rfl) (goodIn_app (goodIn_g ch_wsX12_late_flat gd_wsX12_late _ [(1, 12), (1, 13), (1, 18), (1, 19), (1, 20), (1, 21), (1, 2), (1, 22), (1, 23), (2, 0), (2, 1)] rfl) (gchunk ch_wsX12_late_flat gd_wsX12_late 3 rfl))
set_option maxRecDepth 20000 in
theorem gX12_late_X12_lateOff : GoodIn wsX12_late (wsV RX12 274 RX12 yX12_lateOff wsX12_lateOff) := goodIn_app (goodIn_g ch_wsX12_late_flat gd_wsX12_late _ [(1, 14), (1, 15), (1, 16), (1, 2)] rfl) ggX12_late_X12_lateOff
set_option maxRecDepth 20000 in
theorem SX12_late : ∀ p : Nat, gb cX12_late p = segF [[27, 184, 0, 147, 153, 0, 33, 28, 133, 9, 10, 184, 0, 136, 153, 0, 23, 28, 154, 0, 11, 42, 27, 182, 1, 15, 167, 0, 12, 42, 27, 182, 1, 18, 167, 0, 4, 2, 172]] p := seg_gb (S := [[27, 184, 0, 147, 153, 0, 33, 28, 133, 9, 10, 184, 0, 136, 153, 0, 23, 28, 154, 0, 11, 42, 27, 182, 1, 15, 167, 0, 12, 42, 27, 182, 1, 18, 167, 0, 4, 2, 172]]) (by decide +kernel) (by decide +kernel)
set_option maxRecDepth 20000 in
theorem BX12_late_1_0 : ∀ q ∈ ([(0, 27), (7, 28), (8, 133), (9, 9), (10, 10), (17, 28), (21, 42), (22, 27), (29, 42), (30, 27), (37, 2), (38, 172)] : List (Nat × Nat)), gb cX12_late q.1 = some q.2 := seg_1 SX12_late _ (by decide +kernel)
set_option maxRecDepth 20000 in
theorem BX12_late_3_0 : ∀ q ∈ ([(1, 184, 0, 147), (4, 153, 0, 33), (11, 184, 0, 136), (14, 153, 0, 23), (18, 154, 0, 11), (23, 182, 1, 15), (26, 167, 0, 12), (31, 182, 1, 18), (34, 167, 0, 4)] : List (Nat × Nat × Nat × Nat)), gb cX12_late q.1 = some q.2.1 ∧ gb cX12_late (q.1 + 1) = some q.2.2.1 ∧ gb cX12_late (q.1 + 2) = some q.2.2.2 := seg_3 SX12_late _ (by decide +kernel)
theorem dX12_late_0 : decode cX12_late 0 = .ok (.iload_n 1, 1) := dk27 (BX12_late_1_0 (0, 27) (List.mem_of_getElem? (i := 0) rfl))
theorem dX12_late_1 : decode cX12_late 1 = .ok (.invokestatic 147, 3) := dk184 0 147 (BX12_late_3_0 (1, 184, 0, 147) (List.mem_of_getElem? (i := 0) rfl))
theorem dX12_late_4 : decode cX12_late 4 = .ok (.ifCond .eq 33, 3) := dk153 0 33 (BX12_late_3_0 (4, 153, 0, 33) (List.mem_of_getElem? (i := 1) rfl))
theorem dX12_late_7 : decode cX12_late 7 = .ok (.iload_n 2, 1) := dk28 (BX12_late_1_0 (7, 28) (List.mem_of_getElem? (i := 1) rfl))
theorem dX12_late_8 : decode cX12_late 8 = .ok (.i2l, 1) := dk133 (BX12_late_1_0 (8, 133) (List.mem_of_getElem? (i := 2) rfl))
theorem dX12_late_9 : decode cX12_late 9 = .ok (.lconst 0, 1) := dk9 (BX12_late_1_0 (9, 9) (List.mem_of_getElem? (i := 3) rfl))
theorem dX12_late_10 : decode cX12_late 10 = .ok (.lconst 1, 1) := dk10 (BX12_late_1_0 (10, 10) (List.mem_of_getElem? (i := 4) rfl))
theorem dX12_late_11 : decode cX12_late 11 = .ok (.invokestatic 136, 3) := dk184 0 136 (BX12_late_3_0 (11, 184, 0, 136) (List.mem_of_getElem? (i := 2) rfl))
theorem dX12_late_14 : decode cX12_late 14 = .ok (.ifCond .eq 23, 3) := dk153 0 23 (BX12_late_3_0 (14, 153, 0, 23) (List.mem_of_getElem? (i := 3) rfl))
theorem dX12_late_17 : decode cX12_late 17 = .ok (.iload_n 2, 1) := dk28 (BX12_late_1_0 (17, 28) (List.mem_of_getElem? (i := 5) rfl))
theorem dX12_late_18 : decode cX12_late 18 = .ok (.ifCond .ne 11, 3) := dk154 0 11 (BX12_late_3_0 (18, 154, 0, 11) (List.mem_of_getElem? (i := 4) rfl))
theorem dX12_late_21 : decode cX12_late 21 = .ok (.aload_n 0, 1) := dk42 (BX12_late_1_0 (21, 42) (List.mem_of_getElem? (i := 6) rfl))
theorem dX12_late_22 : decode cX12_late 22 = .ok (.iload_n 1, 1) := dk27 (BX12_late_1_0 (22, 27) (List.mem_of_getElem? (i := 7) rfl))
theorem dX12_late_23 : decode cX12_late 23 = .ok (.invokevirtual 271, 3) := dk182 1 15 (BX12_late_3_0 (23, 182, 1, 15) (List.mem_of_getElem? (i := 5) rfl))
theorem dX12_late_26 : decode cX12_late 26 = .ok (.goto 12, 3) := dk167 0 12 (BX12_late_3_0 (26, 167, 0, 12) (List.mem_of_getElem? (i := 6) rfl))
theorem dX12_late_29 : decode cX12_late 29 = .ok (.aload_n 0, 1) := dk42 (BX12_late_1_0 (29, 42) (List.mem_of_getElem? (i := 8) rfl))
theorem dX12_late_30 : decode cX12_late 30 = .ok (.iload_n 1, 1) := dk27 (BX12_late_1_0 (30, 27) (List.mem_of_getElem? (i := 9) rfl))
theorem dX12_late_31 : decode cX12_late 31 = .ok (.invokevirtual 274, 3) := dk182 1 18 (BX12_late_3_0 (31, 182, 1, 18) (List.mem_of_getElem? (i := 7) rfl))
theorem dX12_late_34 : decode cX12_late 34 = .ok (.goto 4, 3) := dk167 0 4 (BX12_late_3_0 (34, 167, 0, 4) (List.mem_of_getElem? (i := 8) rfl))
theorem dX12_late_37 : decode cX12_late 37 = .ok (.iconst (-1), 1) := dk2 (BX12_late_1_0 (37, 2) (List.mem_of_getElem? (i := 10) rfl))
theorem dX12_late_38 : decode cX12_late 38 = .ok (.ireturn, 1) := dk172 (BX12_late_1_0 (38, 172) (List.mem_of_getElem? (i := 11) rfl))
set_option maxRecDepth 20000 in
theorem ggX12_well_X12_isYear : GoodIn wsX12_well wsX12_isYear := goodIn_g ch_wsX12_well_flat gd_wsX12_well _ [(1, 8), (1, 9), (1, 10), (1, 11), (1, 7), (1, 12)] rfl
set_option maxRecDepth 20000 in
theorem gX12_well_X12_isYear : GoodIn wsX12_well (va_wsS RX12 147 yX12_isYear wsX12_isYear) := goodIn_app (goodIn_g ch_wsX12_well_flat gd_wsX12_well _ [(1, 5), (1, 6), (1, 7)] rfl) ggX12_well_X12_isYear
set_option maxRecDepth 20000 in
theorem ggX12_well_X12_within : GoodIn wsX12_well wsX12_within := goodIn_g ch_wsX12_well_flat gd_wsX12_well _ [(1, 12)] rfl
set_option maxRecDepth 20000 in
theorem gX12_well_X12_within : GoodIn wsX12_well (va_wsS RX12 136 yX12_within wsX12_within) := goodIn_app (goodIn_g ch_wsX12_well_flat gd_wsX12_well _ [(1, 10), (1, 11), (1, 7)] rfl) ggX12_well_X12_within
set_option maxRecDepth 20000 in
theorem ggX12_well_X12_lateMany : GoodIn wsX12_well wsX12_lateMany := gcons (goodIn_g ch_wsX12_well_flat gd_wsX12_well _ [(1, 16)] rfl) (goodIn_app (goodIn_g ch_wsX12_well_flat gd_wsX12_well _ [(1, 1), (1, 2)] rfl) (gchunk ch_wsX12_well_flat gd_wsX12_well 3 rfl))
set_option maxRecDepth 20000 in
theorem gX12_well_X12_lateMany : GoodIn wsX12_well (wsV RX12 271 RX12 yX12_lateMany wsX12_lateMany) := goodIn_app (goodIn_g ch_wsX12_well_flat gd_wsX12_well _ [(1, 13), (1, 14), (1, 15), (1, 7)] rfl) ggX12_well_X12_lateMany
set_option maxRecDepth 20000 in
theorem ggX12_well_X12_lateOff : GoodIn wsX12_well wsX12_lateOff := gcons (goodIn_g ch_wsX12_well_flat gd_wsX12_well _ [(1, 20)] rfl) (goodIn_app (goodIn_g ch_wsX12_well_flat gd_wsX12_well _ [(1, 1), (1, 2), (1, 4), (1, 21), (1, 22), (1, 23), (1, 7), (2, 0), (2, 1), (2, 2), (2, 3)] rfl) (gchunk ch_wsX12_well_flat gd_wsX12_well 3 rfl))
set_option maxRecDepth 20000 in
theorem gX12_well_X12_lateOff : GoodIn wsX12_well (wsV RX12 274 RX12 yX12_lateOff wsX12_lateOff) := goodIn_app (goodIn_g ch_wsX12_well_flat gd_wsX12_well _ [(1, 17), (1, 18), (1, 19), (1, 7)] rfl) ggX12_well_X12_lateOff
set_option maxRecDepth 20000 in
theorem ggX12_well_X12_apart : GoodIn wsX12_well wsX12_apart := goodIn_g ch_wsX12_well_flat gd_wsX12_well _ [(2, 0), (2, 1), (2, 2), (1, 7), (2, 3)] rfl
set_option maxRecDepth 20000 in
theorem gX12_well_X12_apart : GoodIn wsX12_well (va_wsS RX12 268 yX12_apart wsX12_apart) := goodIn_app (goodIn_g ch_wsX12_well_flat gd_wsX12_well _ [(1, 22), (1, 23), (1, 7)] rfl) ggX12_well_X12_apart
set_option maxRecDepth 20000 in
theorem SX12_well : ∀ p : Nat, gb cX12_well p = segF [[27, 184, 0, 147, 153, 0, 15, 29, 133, 10, 20, 0, 249, 184, 0, 136, 154, 0, 5, 2, 172, 42, 27, 182, 1, 15, 154, 0, 6, 16, 254, 172, 42, 27, 182, 1, 18, 54, 4, 28, 54, 5, 3, 54, 6, 3, 54, 7, 21, 7, 29, 162, 0, 122, 3, 54, 8, 3, 54, 9, 21, 9, 42, 180], [1, 6, 162, 0, 84, 42, 180, 0, 71, 21, 9, 46, 27, 163, 0, 6, 167, 0, 64, 21, 5, 18, 255, 104, 17, 48, 57, 96, 54, 5, 21, 5, 16, 8, 124, 16, 100, 112, 54, 10, 21, 5, 18, 255, 104, 17, 48, 57, 96, 54, 5, 21, 8, 42, 180, 0, 74, 21, 9, 46, 16, 100, 21, 10], [104, 21, 5, 16, 8, 124, 16, 100, 112, 96, 184, 1, 12, 96, 54, 8, 132, 9, 1, 167, 255, 169, 21, 6, 21, 8, 21, 4, 163, 0, 7, 4, 167, 0, 4, 3, 96, 54, 6, 132, 7, 1, 167, 255, 134, 21, 6, 172]] p := seg_gb (S := [[27, 184, 0, 147, 153, 0, 15, 29, 133, 10, 20, 0, 249, 184, 0, 136, 154, 0, 5, 2, 172, 42, 27, 182, 1, 15, 154, 0, 6, 16, 254, 172, 42, 27, 182, 1, 18, 54, 4, 28, 54, 5, 3, 54, 6, 3, 54, 7, 21, 7, 29, 162, 0, 122, 3, 54, 8, 3, 54, 9, 21, 9, 42, 180], [1, 6, 162, 0, 84, 42, 180, 0, 71, 21, 9, 46, 27, 163, 0, 6, 167, 0, 64, 21, 5, 18, 255, 104, 17, 48, 57, 96, 54, 5, 21, 5, 16, 8, 124, 16, 100, 112, 54, 10, 21, 5, 18, 255, 104, 17, 48, 57, 96, 54, 5, 21, 8, 42, 180, 0, 74, 21, 9, 46, 16, 100, 21, 10], [104, 21, 5, 16, 8, 124, 16, 100, 112, 96, 184, 1, 12, 96, 54, 8, 132, 9, 1, 167, 255, 169, 21, 6, 21, 8, 21, 4, 163, 0, 7, 4, 167, 0, 4, 3, 96, 54, 6, 132, 7, 1, 167, 255, 134, 21, 6, 172]]) (by decide +kernel) (by decide +kernel)
set_option maxRecDepth 20000 in
theorem BX12_well_1_0 : ∀ q ∈ ([(0, 27), (7, 29), (8, 133), (9, 10), (19, 2), (20, 172), (21, 42), (22, 27), (31, 172), (32, 42), (33, 27), (39, 28)] : List (Nat × Nat)), gb cX12_well q.1 = some q.2 := seg_1 SX12_well _ (by decide +kernel)
set_option maxRecDepth 20000 in
theorem BX12_well_1_1 : ∀ q ∈ ([(42, 3), (45, 3), (50, 29), (54, 3), (57, 3), (62, 42), (69, 42), (75, 46)] : List (Nat × Nat)), gb cX12_well q.1 = some q.2 := seg_1 SX12_well _ (by decide +kernel)
set_option maxRecDepth 20000 in
theorem BX12_well_2_0 : ∀ q ∈ ([(29, 16, 254), (37, 54, 4), (40, 54, 5), (43, 54, 6), (46, 54, 7), (48, 21, 7), (55, 54, 8), (58, 54, 9), (60, 21, 9), (73, 21, 9)] : List (Nat × Nat × Nat)), gb cX12_well q.1 = some q.2.1 ∧ gb cX12_well (q.1 + 1) = some q.2.2 := seg_2 SX12_well _ (by decide +kernel)
set_option maxRecDepth 20000 in
theorem BX12_well_3_0 : ∀ q ∈ ([(1, 184, 0, 147), (4, 153, 0, 15), (10, 20, 0, 249), (13, 184, 0, 136), (16, 154, 0, 5), (23, 182, 1, 15), (26, 154, 0, 6), (34, 182, 1, 18), (51, 162, 0, 122), (63, 180, 1, 6), (66, 162, 0, 84), (70, 180, 0, 71)] : List (Nat × Nat × Nat × Nat)), gb cX12_well q.1 = some q.2.1 ∧ gb cX12_well (q.1 + 1) = some q.2.2.1 ∧ gb cX12_well (q.1 + 2) = some q.2.2.2 := seg_3 SX12_well _ (by decide +kernel)
theorem dX12_well_0 : decode cX12_well 0 = .ok (.iload_n 1, 1) := dk27 (BX12_well_1_0 (0, 27) (List.mem_of_getElem? (i := 0) rfl))
theorem dX12_well_1 : decode cX12_well 1 = .ok (.invokestatic 147, 3) := dk184 0 147 (BX12_well_3_0 (1, 184, 0, 147) (List.mem_of_getElem? (i := 0) rfl))
theorem dX12_well_4 : decode cX12_well 4 = .ok (.ifCond .eq 15, 3) := dk153 0 15 (BX12_well_3_0 (4, 153, 0, 15) (List.mem_of_getElem? (i := 1) rfl))
theorem dX12_well_7 : decode cX12_well 7 = .ok (.iload_n 3, 1) := dk29 (BX12_well_1_0 (7, 29) (List.mem_of_getElem? (i := 1) rfl))
theorem dX12_well_8 : decode cX12_well 8 = .ok (.i2l, 1) := dk133 (BX12_well_1_0 (8, 133) (List.mem_of_getElem? (i := 2) rfl))
theorem dX12_well_9 : decode cX12_well 9 = .ok (.lconst 1, 1) := dk10 (BX12_well_1_0 (9, 10) (List.mem_of_getElem? (i := 3) rfl))
theorem dX12_well_10 : decode cX12_well 10 = .ok (.ldc2_w 249, 3) := dk20 0 249 (BX12_well_3_0 (10, 20, 0, 249) (List.mem_of_getElem? (i := 2) rfl))
theorem dX12_well_13 : decode cX12_well 13 = .ok (.invokestatic 136, 3) := dk184 0 136 (BX12_well_3_0 (13, 184, 0, 136) (List.mem_of_getElem? (i := 3) rfl))
theorem dX12_well_16 : decode cX12_well 16 = .ok (.ifCond .ne 5, 3) := dk154 0 5 (BX12_well_3_0 (16, 154, 0, 5) (List.mem_of_getElem? (i := 4) rfl))
theorem dX12_well_19 : decode cX12_well 19 = .ok (.iconst (-1), 1) := dk2 (BX12_well_1_0 (19, 2) (List.mem_of_getElem? (i := 4) rfl))
theorem dX12_well_20 : decode cX12_well 20 = .ok (.ireturn, 1) := dk172 (BX12_well_1_0 (20, 172) (List.mem_of_getElem? (i := 5) rfl))
theorem dX12_well_21 : decode cX12_well 21 = .ok (.aload_n 0, 1) := dk42 (BX12_well_1_0 (21, 42) (List.mem_of_getElem? (i := 6) rfl))
theorem dX12_well_22 : decode cX12_well 22 = .ok (.iload_n 1, 1) := dk27 (BX12_well_1_0 (22, 27) (List.mem_of_getElem? (i := 7) rfl))
theorem dX12_well_23 : decode cX12_well 23 = .ok (.invokevirtual 271, 3) := dk182 1 15 (BX12_well_3_0 (23, 182, 1, 15) (List.mem_of_getElem? (i := 5) rfl))
theorem dX12_well_26 : decode cX12_well 26 = .ok (.ifCond .ne 6, 3) := dk154 0 6 (BX12_well_3_0 (26, 154, 0, 6) (List.mem_of_getElem? (i := 6) rfl))
theorem dX12_well_29 : decode cX12_well 29 = .ok (.bipush (-2), 2) := dk16 254 (BX12_well_2_0 (29, 16, 254) (List.mem_of_getElem? (i := 0) rfl))
theorem dX12_well_31 : decode cX12_well 31 = .ok (.ireturn, 1) := dk172 (BX12_well_1_0 (31, 172) (List.mem_of_getElem? (i := 8) rfl))
theorem dX12_well_32 : decode cX12_well 32 = .ok (.aload_n 0, 1) := dk42 (BX12_well_1_0 (32, 42) (List.mem_of_getElem? (i := 9) rfl))
theorem dX12_well_33 : decode cX12_well 33 = .ok (.iload_n 1, 1) := dk27 (BX12_well_1_0 (33, 27) (List.mem_of_getElem? (i := 10) rfl))
theorem dX12_well_34 : decode cX12_well 34 = .ok (.invokevirtual 274, 3) := dk182 1 18 (BX12_well_3_0 (34, 182, 1, 18) (List.mem_of_getElem? (i := 7) rfl))
theorem dX12_well_37 : decode cX12_well 37 = .ok (.istore 4, 2) := dk54 4 (BX12_well_2_0 (37, 54, 4) (List.mem_of_getElem? (i := 1) rfl))
theorem dX12_well_39 : decode cX12_well 39 = .ok (.iload_n 2, 1) := dk28 (BX12_well_1_0 (39, 28) (List.mem_of_getElem? (i := 11) rfl))
theorem dX12_well_40 : decode cX12_well 40 = .ok (.istore 5, 2) := dk54 5 (BX12_well_2_0 (40, 54, 5) (List.mem_of_getElem? (i := 2) rfl))
theorem dX12_well_42 : decode cX12_well 42 = .ok (.iconst 0, 1) := dk3 (BX12_well_1_1 (42, 3) (List.mem_of_getElem? (i := 0) rfl))
theorem dX12_well_43 : decode cX12_well 43 = .ok (.istore 6, 2) := dk54 6 (BX12_well_2_0 (43, 54, 6) (List.mem_of_getElem? (i := 3) rfl))
theorem dX12_well_45 : decode cX12_well 45 = .ok (.iconst 0, 1) := dk3 (BX12_well_1_1 (45, 3) (List.mem_of_getElem? (i := 1) rfl))
theorem dX12_well_46 : decode cX12_well 46 = .ok (.istore 7, 2) := dk54 7 (BX12_well_2_0 (46, 54, 7) (List.mem_of_getElem? (i := 4) rfl))
theorem dX12_well_48 : decode cX12_well 48 = .ok (.iload 7, 2) := dk21 7 (BX12_well_2_0 (48, 21, 7) (List.mem_of_getElem? (i := 5) rfl))
theorem dX12_well_50 : decode cX12_well 50 = .ok (.iload_n 3, 1) := dk29 (BX12_well_1_1 (50, 29) (List.mem_of_getElem? (i := 2) rfl))
theorem dX12_well_51 : decode cX12_well 51 = .ok (.if_icmp .ge 122, 3) := dk162 0 122 (BX12_well_3_0 (51, 162, 0, 122) (List.mem_of_getElem? (i := 8) rfl))
theorem dX12_well_54 : decode cX12_well 54 = .ok (.iconst 0, 1) := dk3 (BX12_well_1_1 (54, 3) (List.mem_of_getElem? (i := 3) rfl))
theorem dX12_well_55 : decode cX12_well 55 = .ok (.istore 8, 2) := dk54 8 (BX12_well_2_0 (55, 54, 8) (List.mem_of_getElem? (i := 6) rfl))
theorem dX12_well_57 : decode cX12_well 57 = .ok (.iconst 0, 1) := dk3 (BX12_well_1_1 (57, 3) (List.mem_of_getElem? (i := 4) rfl))
theorem dX12_well_58 : decode cX12_well 58 = .ok (.istore 9, 2) := dk54 9 (BX12_well_2_0 (58, 54, 9) (List.mem_of_getElem? (i := 7) rfl))
theorem dX12_well_60 : decode cX12_well 60 = .ok (.iload 9, 2) := dk21 9 (BX12_well_2_0 (60, 21, 9) (List.mem_of_getElem? (i := 8) rfl))
theorem dX12_well_62 : decode cX12_well 62 = .ok (.aload_n 0, 1) := dk42 (BX12_well_1_1 (62, 42) (List.mem_of_getElem? (i := 5) rfl))
theorem dX12_well_63 : decode cX12_well 63 = .ok (.getfield 262, 3) := dk180 1 6 (BX12_well_3_0 (63, 180, 1, 6) (List.mem_of_getElem? (i := 9) rfl))
theorem dX12_well_66 : decode cX12_well 66 = .ok (.if_icmp .ge 84, 3) := dk162 0 84 (BX12_well_3_0 (66, 162, 0, 84) (List.mem_of_getElem? (i := 10) rfl))
theorem dX12_well_69 : decode cX12_well 69 = .ok (.aload_n 0, 1) := dk42 (BX12_well_1_1 (69, 42) (List.mem_of_getElem? (i := 6) rfl))
theorem dX12_well_70 : decode cX12_well 70 = .ok (.getfield 71, 3) := dk180 0 71 (BX12_well_3_0 (70, 180, 0, 71) (List.mem_of_getElem? (i := 11) rfl))
theorem dX12_well_73 : decode cX12_well 73 = .ok (.iload 9, 2) := dk21 9 (BX12_well_2_0 (73, 21, 9) (List.mem_of_getElem? (i := 9) rfl))
theorem dX12_well_75 : decode cX12_well 75 = .ok (.iaload, 1) := dk46 (BX12_well_1_1 (75, 46) (List.mem_of_getElem? (i := 7) rfl))
