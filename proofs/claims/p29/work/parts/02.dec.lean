noncomputable def ch_wsX11_hole : List (List Cond) := [([.code yX11_hole cX11_hole 3 (some .int)] : List Cond), ([.fieldLink RX11 10 "OlderSkin" "sheets" "LOlderSkin$Sheets;", .methodLink RX11 106 yX7_isSheet, .instanceMethod yX7_isSheet, .selects RX7 yX7_isSheet yX7_isSheet, .initialized RX7, .code yX7_isSheet cX7_isSheet 2 (some .boolean), .fieldLink RX7 30 "OlderSkin$Sheets" "count" "I", .static yX11_within, .initialized RX11, .code yX11_within cX11_within 3 (some .boolean), .methodLink RX11 113 yX11_within, .methodLink RX11 117 yX7_addHole, .instanceMethod yX7_addHole, .selects RX7 yX7_addHole yX7_addHole, .code yX7_addHole cX7_addHole 4 (some .int), .fieldLink RX7 38 "OlderSkin$Sheets" "holes" "I", .fieldLink RX7 15 "OlderSkin$Sheets" "sheetOf" "[I", .fieldLink RX7 18 "OlderSkin$Sheets" "placeOf" "[I", .fieldLink RX7 21 "OlderSkin$Sheets" "byPlace" "[I"] : List Cond), wsX110, wsX70]
set_option maxRecDepth 20000 in
theorem ch_wsX11_hole_flat : ch_wsX11_hole.flatten = wsX11_hole := by
  simp only [ch_wsX11_hole, wsX11_hole, List.flatten_cons, List.flatten_nil, List.append_nil, List.nil_append, List.cons_append, List.append_assoc]
set_option maxRecDepth 20000 in
theorem gd_wsX11_hole : wsX11_hole.all goodWord = true := by decide +kernel
set_option maxRecDepth 20000 in
theorem SX7_init : ∀ p : Nat, gb cX7_init p = segF [[42, 183, 0, 3, 42, 16, 8, 188, 10, 181, 0, 9, 42, 16, 40, 188, 10, 181, 0, 15, 42, 16, 40, 188, 10, 181, 0, 18, 42, 16, 40, 188, 10, 181, 0, 21, 42, 16, 40, 188, 10, 181, 0, 24, 42, 16, 40, 188, 10, 181, 0, 27, 177]] p := seg_gb (S := [[42, 183, 0, 3, 42, 16, 8, 188, 10, 181, 0, 9, 42, 16, 40, 188, 10, 181, 0, 15, 42, 16, 40, 188, 10, 181, 0, 18, 42, 16, 40, 188, 10, 181, 0, 21, 42, 16, 40, 188, 10, 181, 0, 24, 42, 16, 40, 188, 10, 181, 0, 27, 177]]) (by decide +kernel) (by decide +kernel)
set_option maxRecDepth 20000 in
theorem BX7_init_1_0 : ∀ q ∈ ([(0, 42), (4, 42), (12, 42), (20, 42), (28, 42), (36, 42), (44, 42), (52, 177)] : List (Nat × Nat)), gb cX7_init q.1 = some q.2 := seg_1 SX7_init _ (by decide +kernel)
set_option maxRecDepth 20000 in
theorem BX7_init_2_0 : ∀ q ∈ ([(5, 16, 8), (7, 188, 10), (13, 16, 40), (15, 188, 10), (21, 16, 40), (23, 188, 10), (29, 16, 40), (31, 188, 10), (37, 16, 40), (39, 188, 10), (45, 16, 40), (47, 188, 10)] : List (Nat × Nat × Nat)), gb cX7_init q.1 = some q.2.1 ∧ gb cX7_init (q.1 + 1) = some q.2.2 := seg_2 SX7_init _ (by decide +kernel)
set_option maxRecDepth 20000 in
theorem BX7_init_3_0 : ∀ q ∈ ([(1, 183, 0, 3), (9, 181, 0, 9), (17, 181, 0, 15), (25, 181, 0, 18), (33, 181, 0, 21), (41, 181, 0, 24), (49, 181, 0, 27)] : List (Nat × Nat × Nat × Nat)), gb cX7_init q.1 = some q.2.1 ∧ gb cX7_init (q.1 + 1) = some q.2.2.1 ∧ gb cX7_init (q.1 + 2) = some q.2.2.2 := seg_3 SX7_init _ (by decide +kernel)
theorem dX7_init_0 : decode cX7_init 0 = .ok (.aload_n 0, 1) := dk42 (BX7_init_1_0 (0, 42) (List.mem_of_getElem? (i := 0) rfl))
theorem dX7_init_1 : decode cX7_init 1 = .ok (.invokespecial 3, 3) := dk183 0 3 (BX7_init_3_0 (1, 183, 0, 3) (List.mem_of_getElem? (i := 0) rfl))
theorem dX7_init_4 : decode cX7_init 4 = .ok (.aload_n 0, 1) := dk42 (BX7_init_1_0 (4, 42) (List.mem_of_getElem? (i := 1) rfl))
theorem dX7_init_5 : decode cX7_init 5 = .ok (.bipush 8, 2) := dk16 8 (BX7_init_2_0 (5, 16, 8) (List.mem_of_getElem? (i := 0) rfl))
theorem dX7_init_7 : decode cX7_init 7 = .ok (.newarray .int, 2) := dk188_10 (BX7_init_2_0 (7, 188, 10) (List.mem_of_getElem? (i := 1) rfl))
theorem dX7_init_9 : decode cX7_init 9 = .ok (.putfield 9, 3) := dk181 0 9 (BX7_init_3_0 (9, 181, 0, 9) (List.mem_of_getElem? (i := 1) rfl))
theorem dX7_init_12 : decode cX7_init 12 = .ok (.aload_n 0, 1) := dk42 (BX7_init_1_0 (12, 42) (List.mem_of_getElem? (i := 2) rfl))
theorem dX7_init_13 : decode cX7_init 13 = .ok (.bipush 40, 2) := dk16 40 (BX7_init_2_0 (13, 16, 40) (List.mem_of_getElem? (i := 2) rfl))
theorem dX7_init_15 : decode cX7_init 15 = .ok (.newarray .int, 2) := dk188_10 (BX7_init_2_0 (15, 188, 10) (List.mem_of_getElem? (i := 3) rfl))
theorem dX7_init_17 : decode cX7_init 17 = .ok (.putfield 15, 3) := dk181 0 15 (BX7_init_3_0 (17, 181, 0, 15) (List.mem_of_getElem? (i := 2) rfl))
theorem dX7_init_20 : decode cX7_init 20 = .ok (.aload_n 0, 1) := dk42 (BX7_init_1_0 (20, 42) (List.mem_of_getElem? (i := 3) rfl))
theorem dX7_init_21 : decode cX7_init 21 = .ok (.bipush 40, 2) := dk16 40 (BX7_init_2_0 (21, 16, 40) (List.mem_of_getElem? (i := 4) rfl))
theorem dX7_init_23 : decode cX7_init 23 = .ok (.newarray .int, 2) := dk188_10 (BX7_init_2_0 (23, 188, 10) (List.mem_of_getElem? (i := 5) rfl))
theorem dX7_init_25 : decode cX7_init 25 = .ok (.putfield 18, 3) := dk181 0 18 (BX7_init_3_0 (25, 181, 0, 18) (List.mem_of_getElem? (i := 3) rfl))
theorem dX7_init_28 : decode cX7_init 28 = .ok (.aload_n 0, 1) := dk42 (BX7_init_1_0 (28, 42) (List.mem_of_getElem? (i := 4) rfl))
theorem dX7_init_29 : decode cX7_init 29 = .ok (.bipush 40, 2) := dk16 40 (BX7_init_2_0 (29, 16, 40) (List.mem_of_getElem? (i := 6) rfl))
theorem dX7_init_31 : decode cX7_init 31 = .ok (.newarray .int, 2) := dk188_10 (BX7_init_2_0 (31, 188, 10) (List.mem_of_getElem? (i := 7) rfl))
theorem dX7_init_33 : decode cX7_init 33 = .ok (.putfield 21, 3) := dk181 0 21 (BX7_init_3_0 (33, 181, 0, 21) (List.mem_of_getElem? (i := 4) rfl))
theorem dX7_init_36 : decode cX7_init 36 = .ok (.aload_n 0, 1) := dk42 (BX7_init_1_0 (36, 42) (List.mem_of_getElem? (i := 5) rfl))
theorem dX7_init_37 : decode cX7_init 37 = .ok (.bipush 40, 2) := dk16 40 (BX7_init_2_0 (37, 16, 40) (List.mem_of_getElem? (i := 8) rfl))
theorem dX7_init_39 : decode cX7_init 39 = .ok (.newarray .int, 2) := dk188_10 (BX7_init_2_0 (39, 188, 10) (List.mem_of_getElem? (i := 9) rfl))
theorem dX7_init_41 : decode cX7_init 41 = .ok (.putfield 24, 3) := dk181 0 24 (BX7_init_3_0 (41, 181, 0, 24) (List.mem_of_getElem? (i := 5) rfl))
theorem dX7_init_44 : decode cX7_init 44 = .ok (.aload_n 0, 1) := dk42 (BX7_init_1_0 (44, 42) (List.mem_of_getElem? (i := 6) rfl))
theorem dX7_init_45 : decode cX7_init 45 = .ok (.bipush 40, 2) := dk16 40 (BX7_init_2_0 (45, 16, 40) (List.mem_of_getElem? (i := 10) rfl))
theorem dX7_init_47 : decode cX7_init 47 = .ok (.newarray .int, 2) := dk188_10 (BX7_init_2_0 (47, 188, 10) (List.mem_of_getElem? (i := 11) rfl))
theorem dX7_init_49 : decode cX7_init 49 = .ok (.putfield 27, 3) := dk181 0 27 (BX7_init_3_0 (49, 181, 0, 27) (List.mem_of_getElem? (i := 6) rfl))
theorem dX7_init_52 : decode cX7_init 52 = .ok (.return_, 1) := dk177 (BX7_init_1_0 (52, 177) (List.mem_of_getElem? (i := 7) rfl))
set_option maxRecDepth 20000 in
theorem ggX7_isSheet_X11_within : GoodIn wsX7_isSheet wsX11_within := goodIn_r _ [4] (by decide +kernel) (by decide +kernel)
set_option maxRecDepth 20000 in
theorem gX7_isSheet_X11_within_n34 : GoodIn wsX7_isSheet (wsX11_within) := ggX7_isSheet_X11_within
set_option maxRecDepth 20000 in
theorem SX7_isSheet : ∀ p : Nat, gb cX7_isSheet p = segF [[27, 3, 42, 180, 0, 30, 4, 100, 184, 0, 34, 172]] p := seg_gb (S := [[27, 3, 42, 180, 0, 30, 4, 100, 184, 0, 34, 172]]) (by decide +kernel) (by decide +kernel)
set_option maxRecDepth 20000 in
theorem BX7_isSheet_1_0 : ∀ q ∈ ([(0, 27), (1, 3), (2, 42), (6, 4), (7, 100), (11, 172)] : List (Nat × Nat)), gb cX7_isSheet q.1 = some q.2 := seg_1 SX7_isSheet _ (by decide +kernel)
set_option maxRecDepth 20000 in
theorem BX7_isSheet_3_0 : ∀ q ∈ ([(3, 180, 0, 30), (8, 184, 0, 34)] : List (Nat × Nat × Nat × Nat)), gb cX7_isSheet q.1 = some q.2.1 ∧ gb cX7_isSheet (q.1 + 1) = some q.2.2.1 ∧ gb cX7_isSheet (q.1 + 2) = some q.2.2.2 := seg_3 SX7_isSheet _ (by decide +kernel)
theorem dX7_isSheet_0 : decode cX7_isSheet 0 = .ok (.iload_n 1, 1) := dk27 (BX7_isSheet_1_0 (0, 27) (List.mem_of_getElem? (i := 0) rfl))
theorem dX7_isSheet_1 : decode cX7_isSheet 1 = .ok (.iconst 0, 1) := dk3 (BX7_isSheet_1_0 (1, 3) (List.mem_of_getElem? (i := 1) rfl))
theorem dX7_isSheet_2 : decode cX7_isSheet 2 = .ok (.aload_n 0, 1) := dk42 (BX7_isSheet_1_0 (2, 42) (List.mem_of_getElem? (i := 2) rfl))
theorem dX7_isSheet_3 : decode cX7_isSheet 3 = .ok (.getfield 30, 3) := dk180 0 30 (BX7_isSheet_3_0 (3, 180, 0, 30) (List.mem_of_getElem? (i := 0) rfl))
theorem dX7_isSheet_6 : decode cX7_isSheet 6 = .ok (.iconst 1, 1) := dk4 (BX7_isSheet_1_0 (6, 4) (List.mem_of_getElem? (i := 3) rfl))
theorem dX7_isSheet_7 : decode cX7_isSheet 7 = .ok (.isub, 1) := dk100 (BX7_isSheet_1_0 (7, 100) (List.mem_of_getElem? (i := 4) rfl))
theorem dX7_isSheet_8 : decode cX7_isSheet 8 = .ok (.invokestatic 34, 3) := dk184 0 34 (BX7_isSheet_3_0 (8, 184, 0, 34) (List.mem_of_getElem? (i := 1) rfl))
theorem dX7_isSheet_11 : decode cX7_isSheet 11 = .ok (.ireturn, 1) := dk172 (BX7_isSheet_1_0 (11, 172) (List.mem_of_getElem? (i := 5) rfl))
set_option maxRecDepth 20000 in
theorem ggX7_isHole_X11_within : GoodIn wsX7_isHole wsX11_within := goodIn_r _ [4] (by decide +kernel) (by decide +kernel)
set_option maxRecDepth 20000 in
theorem gX7_isHole_X11_within_n34 : GoodIn wsX7_isHole (wsX11_within) := ggX7_isHole_X11_within
set_option maxRecDepth 20000 in
theorem SX7_isHole : ∀ p : Nat, gb cX7_isHole p = segF [[27, 3, 42, 180, 0, 38, 4, 100, 184, 0, 34, 172]] p := seg_gb (S := [[27, 3, 42, 180, 0, 38, 4, 100, 184, 0, 34, 172]]) (by decide +kernel) (by decide +kernel)
set_option maxRecDepth 20000 in
theorem BX7_isHole_1_0 : ∀ q ∈ ([(0, 27), (1, 3), (2, 42), (6, 4), (7, 100), (11, 172)] : List (Nat × Nat)), gb cX7_isHole q.1 = some q.2 := seg_1 SX7_isHole _ (by decide +kernel)
set_option maxRecDepth 20000 in
theorem BX7_isHole_3_0 : ∀ q ∈ ([(3, 180, 0, 38), (8, 184, 0, 34)] : List (Nat × Nat × Nat × Nat)), gb cX7_isHole q.1 = some q.2.1 ∧ gb cX7_isHole (q.1 + 1) = some q.2.2.1 ∧ gb cX7_isHole (q.1 + 2) = some q.2.2.2 := seg_3 SX7_isHole _ (by decide +kernel)
theorem dX7_isHole_0 : decode cX7_isHole 0 = .ok (.iload_n 1, 1) := dk27 (BX7_isHole_1_0 (0, 27) (List.mem_of_getElem? (i := 0) rfl))
theorem dX7_isHole_1 : decode cX7_isHole 1 = .ok (.iconst 0, 1) := dk3 (BX7_isHole_1_0 (1, 3) (List.mem_of_getElem? (i := 1) rfl))
theorem dX7_isHole_2 : decode cX7_isHole 2 = .ok (.aload_n 0, 1) := dk42 (BX7_isHole_1_0 (2, 42) (List.mem_of_getElem? (i := 2) rfl))
theorem dX7_isHole_3 : decode cX7_isHole 3 = .ok (.getfield 38, 3) := dk180 0 38 (BX7_isHole_3_0 (3, 180, 0, 38) (List.mem_of_getElem? (i := 0) rfl))
theorem dX7_isHole_6 : decode cX7_isHole 6 = .ok (.iconst 1, 1) := dk4 (BX7_isHole_1_0 (6, 4) (List.mem_of_getElem? (i := 3) rfl))
theorem dX7_isHole_7 : decode cX7_isHole 7 = .ok (.isub, 1) := dk100 (BX7_isHole_1_0 (7, 100) (List.mem_of_getElem? (i := 4) rfl))
theorem dX7_isHole_8 : decode cX7_isHole 8 = .ok (.invokestatic 34, 3) := dk184 0 34 (BX7_isHole_3_0 (8, 184, 0, 34) (List.mem_of_getElem? (i := 1) rfl))
theorem dX7_isHole_11 : decode cX7_isHole 11 = .ok (.ireturn, 1) := dk172 (BX7_isHole_1_0 (11, 172) (List.mem_of_getElem? (i := 5) rfl))
set_option maxRecDepth 20000 in
theorem SX7_all : ∀ p : Nat, gb cX7_all p = segF [[4, 42, 180, 0, 30, 120, 4, 100, 172]] p := seg_gb (S := [[4, 42, 180, 0, 30, 120, 4, 100, 172]]) (by decide +kernel) (by decide +kernel)
set_option maxRecDepth 20000 in
theorem BX7_all_1_0 : ∀ q ∈ ([(0, 4), (1, 42), (5, 120), (6, 4), (7, 100), (8, 172)] : List (Nat × Nat)), gb cX7_all q.1 = some q.2 := seg_1 SX7_all _ (by decide +kernel)
set_option maxRecDepth 20000 in
theorem BX7_all_3_0 : ∀ q ∈ ([(2, 180, 0, 30)] : List (Nat × Nat × Nat × Nat)), gb cX7_all q.1 = some q.2.1 ∧ gb cX7_all (q.1 + 1) = some q.2.2.1 ∧ gb cX7_all (q.1 + 2) = some q.2.2.2 := seg_3 SX7_all _ (by decide +kernel)
theorem dX7_all_0 : decode cX7_all 0 = .ok (.iconst 1, 1) := dk4 (BX7_all_1_0 (0, 4) (List.mem_of_getElem? (i := 0) rfl))
theorem dX7_all_1 : decode cX7_all 1 = .ok (.aload_n 0, 1) := dk42 (BX7_all_1_0 (1, 42) (List.mem_of_getElem? (i := 1) rfl))
theorem dX7_all_2 : decode cX7_all 2 = .ok (.getfield 30, 3) := dk180 0 30 (BX7_all_3_0 (2, 180, 0, 30) (List.mem_of_getElem? (i := 0) rfl))
theorem dX7_all_5 : decode cX7_all 5 = .ok (.ishl, 1) := dk120 (BX7_all_1_0 (5, 120) (List.mem_of_getElem? (i := 2) rfl))
theorem dX7_all_6 : decode cX7_all 6 = .ok (.iconst 1, 1) := dk4 (BX7_all_1_0 (6, 4) (List.mem_of_getElem? (i := 3) rfl))
theorem dX7_all_7 : decode cX7_all 7 = .ok (.isub, 1) := dk100 (BX7_all_1_0 (7, 100) (List.mem_of_getElem? (i := 4) rfl))
theorem dX7_all_8 : decode cX7_all 8 = .ok (.ireturn, 1) := dk172 (BX7_all_1_0 (8, 172) (List.mem_of_getElem? (i := 5) rfl))
set_option maxRecDepth 20000 in
theorem SX7_add : ∀ p : Nat, gb cX7_add p = segF [[42, 180, 0, 30, 42, 180, 0, 9, 190, 160, 0, 6, 16, 253, 172, 42, 180, 0, 9, 42, 180, 0, 30, 27, 79, 42, 89, 180, 0, 30, 90, 4, 96, 181, 0, 30, 172]] p := seg_gb (S := [[42, 180, 0, 30, 42, 180, 0, 9, 190, 160, 0, 6, 16, 253, 172, 42, 180, 0, 9, 42, 180, 0, 30, 27, 79, 42, 89, 180, 0, 30, 90, 4, 96, 181, 0, 30, 172]]) (by decide +kernel) (by decide +kernel)
set_option maxRecDepth 20000 in
theorem BX7_add_1_0 : ∀ q ∈ ([(0, 42), (4, 42), (8, 190), (14, 172), (15, 42), (19, 42), (23, 27), (24, 79), (25, 42), (26, 89), (30, 90), (31, 4)] : List (Nat × Nat)), gb cX7_add q.1 = some q.2 := seg_1 SX7_add _ (by decide +kernel)
set_option maxRecDepth 20000 in
theorem BX7_add_1_1 : ∀ q ∈ ([(32, 96), (36, 172)] : List (Nat × Nat)), gb cX7_add q.1 = some q.2 := seg_1 SX7_add _ (by decide +kernel)
set_option maxRecDepth 20000 in
theorem BX7_add_2_0 : ∀ q ∈ ([(12, 16, 253)] : List (Nat × Nat × Nat)), gb cX7_add q.1 = some q.2.1 ∧ gb cX7_add (q.1 + 1) = some q.2.2 := seg_2 SX7_add _ (by decide +kernel)
set_option maxRecDepth 20000 in
theorem BX7_add_3_0 : ∀ q ∈ ([(1, 180, 0, 30), (5, 180, 0, 9), (9, 160, 0, 6), (16, 180, 0, 9), (20, 180, 0, 30), (27, 180, 0, 30), (33, 181, 0, 30)] : List (Nat × Nat × Nat × Nat)), gb cX7_add q.1 = some q.2.1 ∧ gb cX7_add (q.1 + 1) = some q.2.2.1 ∧ gb cX7_add (q.1 + 2) = some q.2.2.2 := seg_3 SX7_add _ (by decide +kernel)
theorem dX7_add_0 : decode cX7_add 0 = .ok (.aload_n 0, 1) := dk42 (BX7_add_1_0 (0, 42) (List.mem_of_getElem? (i := 0) rfl))
theorem dX7_add_1 : decode cX7_add 1 = .ok (.getfield 30, 3) := dk180 0 30 (BX7_add_3_0 (1, 180, 0, 30) (List.mem_of_getElem? (i := 0) rfl))
theorem dX7_add_4 : decode cX7_add 4 = .ok (.aload_n 0, 1) := dk42 (BX7_add_1_0 (4, 42) (List.mem_of_getElem? (i := 1) rfl))
theorem dX7_add_5 : decode cX7_add 5 = .ok (.getfield 9, 3) := dk180 0 9 (BX7_add_3_0 (5, 180, 0, 9) (List.mem_of_getElem? (i := 1) rfl))
theorem dX7_add_8 : decode cX7_add 8 = .ok (.arraylength, 1) := dk190 (BX7_add_1_0 (8, 190) (List.mem_of_getElem? (i := 2) rfl))
theorem dX7_add_9 : decode cX7_add 9 = .ok (.if_icmp .ne 6, 3) := dk160 0 6 (BX7_add_3_0 (9, 160, 0, 6) (List.mem_of_getElem? (i := 2) rfl))
theorem dX7_add_12 : decode cX7_add 12 = .ok (.bipush (-3), 2) := dk16 253 (BX7_add_2_0 (12, 16, 253) (List.mem_of_getElem? (i := 0) rfl))
theorem dX7_add_14 : decode cX7_add 14 = .ok (.ireturn, 1) := dk172 (BX7_add_1_0 (14, 172) (List.mem_of_getElem? (i := 3) rfl))
theorem dX7_add_15 : decode cX7_add 15 = .ok (.aload_n 0, 1) := dk42 (BX7_add_1_0 (15, 42) (List.mem_of_getElem? (i := 4) rfl))
theorem dX7_add_16 : decode cX7_add 16 = .ok (.getfield 9, 3) := dk180 0 9 (BX7_add_3_0 (16, 180, 0, 9) (List.mem_of_getElem? (i := 3) rfl))
theorem dX7_add_19 : decode cX7_add 19 = .ok (.aload_n 0, 1) := dk42 (BX7_add_1_0 (19, 42) (List.mem_of_getElem? (i := 5) rfl))
theorem dX7_add_20 : decode cX7_add 20 = .ok (.getfield 30, 3) := dk180 0 30 (BX7_add_3_0 (20, 180, 0, 30) (List.mem_of_getElem? (i := 4) rfl))
theorem dX7_add_23 : decode cX7_add 23 = .ok (.iload_n 1, 1) := dk27 (BX7_add_1_0 (23, 27) (List.mem_of_getElem? (i := 6) rfl))
theorem dX7_add_24 : decode cX7_add 24 = .ok (.iastore, 1) := dk79 (BX7_add_1_0 (24, 79) (List.mem_of_getElem? (i := 7) rfl))
theorem dX7_add_25 : decode cX7_add 25 = .ok (.aload_n 0, 1) := dk42 (BX7_add_1_0 (25, 42) (List.mem_of_getElem? (i := 8) rfl))
theorem dX7_add_26 : decode cX7_add 26 = .ok (.dup, 1) := dk89 (BX7_add_1_0 (26, 89) (List.mem_of_getElem? (i := 9) rfl))
theorem dX7_add_27 : decode cX7_add 27 = .ok (.getfield 30, 3) := dk180 0 30 (BX7_add_3_0 (27, 180, 0, 30) (List.mem_of_getElem? (i := 5) rfl))
theorem dX7_add_30 : decode cX7_add 30 = .ok (.dup_x1, 1) := dk90 (BX7_add_1_0 (30, 90) (List.mem_of_getElem? (i := 10) rfl))
theorem dX7_add_31 : decode cX7_add 31 = .ok (.iconst 1, 1) := dk4 (BX7_add_1_0 (31, 4) (List.mem_of_getElem? (i := 11) rfl))
theorem dX7_add_32 : decode cX7_add 32 = .ok (.iadd, 1) := dk96 (BX7_add_1_1 (32, 96) (List.mem_of_getElem? (i := 0) rfl))
theorem dX7_add_33 : decode cX7_add 33 = .ok (.putfield 30, 3) := dk181 0 30 (BX7_add_3_0 (33, 181, 0, 30) (List.mem_of_getElem? (i := 6) rfl))
theorem dX7_add_36 : decode cX7_add 36 = .ok (.ireturn, 1) := dk172 (BX7_add_1_1 (36, 172) (List.mem_of_getElem? (i := 1) rfl))
set_option maxRecDepth 20000 in
theorem SX7_addHole : ∀ p : Nat, gb cX7_addHole p = segF [[42, 180, 0, 38, 42, 180, 0, 15, 190, 160, 0, 6, 16, 253, 172, 42, 180, 0, 38, 62, 29, 158, 0, 40, 42, 180, 0, 18, 42, 180, 0, 21, 29, 4, 100, 46, 46, 28, 164, 0, 23, 42, 180, 0, 21, 29, 42, 180, 0, 21, 29, 4, 100, 46, 79, 132, 3, 255, 167, 255, 218, 42, 180, 0], [21, 29, 42, 180, 0, 38, 79, 42, 180, 0, 15, 42, 180, 0, 38, 27, 79, 42, 180, 0, 18, 42, 180, 0, 38, 28, 79, 42, 89, 180, 0, 38, 90, 4, 96, 181, 0, 38, 172]] p := seg_gb (S := [[42, 180, 0, 38, 42, 180, 0, 15, 190, 160, 0, 6, 16, 253, 172, 42, 180, 0, 38, 62, 29, 158, 0, 40, 42, 180, 0, 18, 42, 180, 0, 21, 29, 4, 100, 46, 46, 28, 164, 0, 23, 42, 180, 0, 21, 29, 42, 180, 0, 21, 29, 4, 100, 46, 79, 132, 3, 255, 167, 255, 218, 42, 180, 0], [21, 29, 42, 180, 0, 38, 79, 42, 180, 0, 15, 42, 180, 0, 38, 27, 79, 42, 180, 0, 18, 42, 180, 0, 38, 28, 79, 42, 89, 180, 0, 38, 90, 4, 96, 181, 0, 38, 172]]) (by decide +kernel) (by decide +kernel)
set_option maxRecDepth 20000 in
theorem BX7_addHole_1_0 : ∀ q ∈ ([(0, 42), (4, 42), (8, 190), (14, 172), (15, 42), (19, 62), (20, 29), (24, 42), (28, 42), (32, 29), (33, 4), (34, 100)] : List (Nat × Nat)), gb cX7_addHole q.1 = some q.2 := seg_1 SX7_addHole _ (by decide +kernel)
set_option maxRecDepth 20000 in
theorem BX7_addHole_1_1 : ∀ q ∈ ([(35, 46), (36, 46), (37, 28), (41, 42), (45, 29), (46, 42), (50, 29), (51, 4), (52, 100), (53, 46), (54, 79), (61, 42)] : List (Nat × Nat)), gb cX7_addHole q.1 = some q.2 := seg_1 SX7_addHole _ (by decide +kernel)
set_option maxRecDepth 20000 in
theorem BX7_addHole_1_2 : ∀ q ∈ ([(65, 29), (66, 42), (70, 79), (71, 42), (75, 42), (79, 27), (80, 79), (81, 42), (85, 42), (89, 28), (90, 79), (91, 42)] : List (Nat × Nat)), gb cX7_addHole q.1 = some q.2 := seg_1 SX7_addHole _ (by decide +kernel)
set_option maxRecDepth 20000 in
theorem BX7_addHole_1_3 : ∀ q ∈ ([(92, 89), (96, 90), (97, 4), (98, 96), (102, 172)] : List (Nat × Nat)), gb cX7_addHole q.1 = some q.2 := seg_1 SX7_addHole _ (by decide +kernel)
set_option maxRecDepth 20000 in
theorem BX7_addHole_2_0 : ∀ q ∈ ([(12, 16, 253)] : List (Nat × Nat × Nat)), gb cX7_addHole q.1 = some q.2.1 ∧ gb cX7_addHole (q.1 + 1) = some q.2.2 := seg_2 SX7_addHole _ (by decide +kernel)
set_option maxRecDepth 20000 in
theorem BX7_addHole_3_0 : ∀ q ∈ ([(1, 180, 0, 38), (5, 180, 0, 15), (9, 160, 0, 6), (16, 180, 0, 38), (21, 158, 0, 40), (25, 180, 0, 18), (29, 180, 0, 21), (38, 164, 0, 23), (42, 180, 0, 21), (47, 180, 0, 21), (55, 132, 3, 255), (58, 167, 255, 218)] : List (Nat × Nat × Nat × Nat)), gb cX7_addHole q.1 = some q.2.1 ∧ gb cX7_addHole (q.1 + 1) = some q.2.2.1 ∧ gb cX7_addHole (q.1 + 2) = some q.2.2.2 := seg_3 SX7_addHole _ (by decide +kernel)
set_option maxRecDepth 20000 in
theorem BX7_addHole_3_1 : ∀ q ∈ ([(62, 180, 0, 21), (67, 180, 0, 38), (72, 180, 0, 15), (76, 180, 0, 38), (82, 180, 0, 18), (86, 180, 0, 38), (93, 180, 0, 38), (99, 181, 0, 38)] : List (Nat × Nat × Nat × Nat)), gb cX7_addHole q.1 = some q.2.1 ∧ gb cX7_addHole (q.1 + 1) = some q.2.2.1 ∧ gb cX7_addHole (q.1 + 2) = some q.2.2.2 := seg_3 SX7_addHole _ (by decide +kernel)
theorem dX7_addHole_0 : decode cX7_addHole 0 = .ok (.aload_n 0, 1) := dk42 (BX7_addHole_1_0 (0, 42) (List.mem_of_getElem? (i := 0) rfl))
theorem dX7_addHole_1 : decode cX7_addHole 1 = .ok (.getfield 38, 3) := dk180 0 38 (BX7_addHole_3_0 (1, 180, 0, 38) (List.mem_of_getElem? (i := 0) rfl))
theorem dX7_addHole_4 : decode cX7_addHole 4 = .ok (.aload_n 0, 1) := dk42 (BX7_addHole_1_0 (4, 42) (List.mem_of_getElem? (i := 1) rfl))
theorem dX7_addHole_5 : decode cX7_addHole 5 = .ok (.getfield 15, 3) := dk180 0 15 (BX7_addHole_3_0 (5, 180, 0, 15) (List.mem_of_getElem? (i := 1) rfl))
theorem dX7_addHole_8 : decode cX7_addHole 8 = .ok (.arraylength, 1) := dk190 (BX7_addHole_1_0 (8, 190) (List.mem_of_getElem? (i := 2) rfl))
theorem dX7_addHole_9 : decode cX7_addHole 9 = .ok (.if_icmp .ne 6, 3) := dk160 0 6 (BX7_addHole_3_0 (9, 160, 0, 6) (List.mem_of_getElem? (i := 2) rfl))
theorem dX7_addHole_12 : decode cX7_addHole 12 = .ok (.bipush (-3), 2) := dk16 253 (BX7_addHole_2_0 (12, 16, 253) (List.mem_of_getElem? (i := 0) rfl))
theorem dX7_addHole_14 : decode cX7_addHole 14 = .ok (.ireturn, 1) := dk172 (BX7_addHole_1_0 (14, 172) (List.mem_of_getElem? (i := 3) rfl))
theorem dX7_addHole_15 : decode cX7_addHole 15 = .ok (.aload_n 0, 1) := dk42 (BX7_addHole_1_0 (15, 42) (List.mem_of_getElem? (i := 4) rfl))
theorem dX7_addHole_16 : decode cX7_addHole 16 = .ok (.getfield 38, 3) := dk180 0 38 (BX7_addHole_3_0 (16, 180, 0, 38) (List.mem_of_getElem? (i := 3) rfl))
theorem dX7_addHole_19 : decode cX7_addHole 19 = .ok (.istore_n 3, 1) := dk62 (BX7_addHole_1_0 (19, 62) (List.mem_of_getElem? (i := 5) rfl))
theorem dX7_addHole_20 : decode cX7_addHole 20 = .ok (.iload_n 3, 1) := dk29 (BX7_addHole_1_0 (20, 29) (List.mem_of_getElem? (i := 6) rfl))
theorem dX7_addHole_21 : decode cX7_addHole 21 = .ok (.ifCond .le 40, 3) := dk158 0 40 (BX7_addHole_3_0 (21, 158, 0, 40) (List.mem_of_getElem? (i := 4) rfl))
theorem dX7_addHole_24 : decode cX7_addHole 24 = .ok (.aload_n 0, 1) := dk42 (BX7_addHole_1_0 (24, 42) (List.mem_of_getElem? (i := 7) rfl))
theorem dX7_addHole_25 : decode cX7_addHole 25 = .ok (.getfield 18, 3) := dk180 0 18 (BX7_addHole_3_0 (25, 180, 0, 18) (List.mem_of_getElem? (i := 5) rfl))
theorem dX7_addHole_28 : decode cX7_addHole 28 = .ok (.aload_n 0, 1) := dk42 (BX7_addHole_1_0 (28, 42) (List.mem_of_getElem? (i := 8) rfl))
theorem dX7_addHole_29 : decode cX7_addHole 29 = .ok (.getfield 21, 3) := dk180 0 21 (BX7_addHole_3_0 (29, 180, 0, 21) (List.mem_of_getElem? (i := 6) rfl))
theorem dX7_addHole_32 : decode cX7_addHole 32 = .ok (.iload_n 3, 1) := dk29 (BX7_addHole_1_0 (32, 29) (List.mem_of_getElem? (i := 9) rfl))
theorem dX7_addHole_33 : decode cX7_addHole 33 = .ok (.iconst 1, 1) := dk4 (BX7_addHole_1_0 (33, 4) (List.mem_of_getElem? (i := 10) rfl))
theorem dX7_addHole_34 : decode cX7_addHole 34 = .ok (.isub, 1) := dk100 (BX7_addHole_1_0 (34, 100) (List.mem_of_getElem? (i := 11) rfl))
theorem dX7_addHole_35 : decode cX7_addHole 35 = .ok (.iaload, 1) := dk46 (BX7_addHole_1_1 (35, 46) (List.mem_of_getElem? (i := 0) rfl))
theorem dX7_addHole_36 : decode cX7_addHole 36 = .ok (.iaload, 1) := dk46 (BX7_addHole_1_1 (36, 46) (List.mem_of_getElem? (i := 1) rfl))
theorem dX7_addHole_37 : decode cX7_addHole 37 = .ok (.iload_n 2, 1) := dk28 (BX7_addHole_1_1 (37, 28) (List.mem_of_getElem? (i := 2) rfl))
theorem dX7_addHole_38 : decode cX7_addHole 38 = .ok (.if_icmp .le 23, 3) := dk164 0 23 (BX7_addHole_3_0 (38, 164, 0, 23) (List.mem_of_getElem? (i := 7) rfl))
theorem dX7_addHole_41 : decode cX7_addHole 41 = .ok (.aload_n 0, 1) := dk42 (BX7_addHole_1_1 (41, 42) (List.mem_of_getElem? (i := 3) rfl))
theorem dX7_addHole_42 : decode cX7_addHole 42 = .ok (.getfield 21, 3) := dk180 0 21 (BX7_addHole_3_0 (42, 180, 0, 21) (List.mem_of_getElem? (i := 8) rfl))
theorem dX7_addHole_45 : decode cX7_addHole 45 = .ok (.iload_n 3, 1) := dk29 (BX7_addHole_1_1 (45, 29) (List.mem_of_getElem? (i := 4) rfl))
theorem dX7_addHole_46 : decode cX7_addHole 46 = .ok (.aload_n 0, 1) := dk42 (BX7_addHole_1_1 (46, 42) (List.mem_of_getElem? (i := 5) rfl))
theorem dX7_addHole_47 : decode cX7_addHole 47 = .ok (.getfield 21, 3) := dk180 0 21 (BX7_addHole_3_0 (47, 180, 0, 21) (List.mem_of_getElem? (i := 9) rfl))
theorem dX7_addHole_50 : decode cX7_addHole 50 = .ok (.iload_n 3, 1) := dk29 (BX7_addHole_1_1 (50, 29) (List.mem_of_getElem? (i := 6) rfl))
theorem dX7_addHole_51 : decode cX7_addHole 51 = .ok (.iconst 1, 1) := dk4 (BX7_addHole_1_1 (51, 4) (List.mem_of_getElem? (i := 7) rfl))
theorem dX7_addHole_52 : decode cX7_addHole 52 = .ok (.isub, 1) := dk100 (BX7_addHole_1_1 (52, 100) (List.mem_of_getElem? (i := 8) rfl))
theorem dX7_addHole_53 : decode cX7_addHole 53 = .ok (.iaload, 1) := dk46 (BX7_addHole_1_1 (53, 46) (List.mem_of_getElem? (i := 9) rfl))
theorem dX7_addHole_54 : decode cX7_addHole 54 = .ok (.iastore, 1) := dk79 (BX7_addHole_1_1 (54, 79) (List.mem_of_getElem? (i := 10) rfl))
theorem dX7_addHole_55 : decode cX7_addHole 55 = .ok (.iinc 3 (-1), 3) := dk132 3 255 (BX7_addHole_3_0 (55, 132, 3, 255) (List.mem_of_getElem? (i := 10) rfl))
theorem dX7_addHole_58 : decode cX7_addHole 58 = .ok (.goto (-38), 3) := dk167 255 218 (BX7_addHole_3_0 (58, 167, 255, 218) (List.mem_of_getElem? (i := 11) rfl))
theorem dX7_addHole_61 : decode cX7_addHole 61 = .ok (.aload_n 0, 1) := dk42 (BX7_addHole_1_1 (61, 42) (List.mem_of_getElem? (i := 11) rfl))
theorem dX7_addHole_62 : decode cX7_addHole 62 = .ok (.getfield 21, 3) := dk180 0 21 (BX7_addHole_3_1 (62, 180, 0, 21) (List.mem_of_getElem? (i := 0) rfl))
theorem dX7_addHole_65 : decode cX7_addHole 65 = .ok (.iload_n 3, 1) := dk29 (BX7_addHole_1_2 (65, 29) (List.mem_of_getElem? (i := 0) rfl))
theorem dX7_addHole_66 : decode cX7_addHole 66 = .ok (.aload_n 0, 1) := dk42 (BX7_addHole_1_2 (66, 42) (List.mem_of_getElem? (i := 1) rfl))
theorem dX7_addHole_67 : decode cX7_addHole 67 = .ok (.getfield 38, 3) := dk180 0 38 (BX7_addHole_3_1 (67, 180, 0, 38) (List.mem_of_getElem? (i := 1) rfl))
theorem dX7_addHole_70 : decode cX7_addHole 70 = .ok (.iastore, 1) := dk79 (BX7_addHole_1_2 (70, 79) (List.mem_of_getElem? (i := 2) rfl))
theorem dX7_addHole_71 : decode cX7_addHole 71 = .ok (.aload_n 0, 1) := dk42 (BX7_addHole_1_2 (71, 42) (List.mem_of_getElem? (i := 3) rfl))
theorem dX7_addHole_72 : decode cX7_addHole 72 = .ok (.getfield 15, 3) := dk180 0 15 (BX7_addHole_3_1 (72, 180, 0, 15) (List.mem_of_getElem? (i := 2) rfl))
theorem dX7_addHole_75 : decode cX7_addHole 75 = .ok (.aload_n 0, 1) := dk42 (BX7_addHole_1_2 (75, 42) (List.mem_of_getElem? (i := 4) rfl))
theorem dX7_addHole_76 : decode cX7_addHole 76 = .ok (.getfield 38, 3) := dk180 0 38 (BX7_addHole_3_1 (76, 180, 0, 38) (List.mem_of_getElem? (i := 3) rfl))
theorem dX7_addHole_79 : decode cX7_addHole 79 = .ok (.iload_n 1, 1) := dk27 (BX7_addHole_1_2 (79, 27) (List.mem_of_getElem? (i := 5) rfl))
theorem dX7_addHole_80 : decode cX7_addHole 80 = .ok (.iastore, 1) := dk79 (BX7_addHole_1_2 (80, 79) (List.mem_of_getElem? (i := 6) rfl))
theorem dX7_addHole_81 : decode cX7_addHole 81 = .ok (.aload_n 0, 1) := dk42 (BX7_addHole_1_2 (81, 42) (List.mem_of_getElem? (i := 7) rfl))
theorem dX7_addHole_82 : decode cX7_addHole 82 = .ok (.getfield 18, 3) := dk180 0 18 (BX7_addHole_3_1 (82, 180, 0, 18) (List.mem_of_getElem? (i := 4) rfl))
theorem dX7_addHole_85 : decode cX7_addHole 85 = .ok (.aload_n 0, 1) := dk42 (BX7_addHole_1_2 (85, 42) (List.mem_of_getElem? (i := 8) rfl))
theorem dX7_addHole_86 : decode cX7_addHole 86 = .ok (.getfield 38, 3) := dk180 0 38 (BX7_addHole_3_1 (86, 180, 0, 38) (List.mem_of_getElem? (i := 5) rfl))
theorem dX7_addHole_89 : decode cX7_addHole 89 = .ok (.iload_n 2, 1) := dk28 (BX7_addHole_1_2 (89, 28) (List.mem_of_getElem? (i := 9) rfl))
theorem dX7_addHole_90 : decode cX7_addHole 90 = .ok (.iastore, 1) := dk79 (BX7_addHole_1_2 (90, 79) (List.mem_of_getElem? (i := 10) rfl))
theorem dX7_addHole_91 : decode cX7_addHole 91 = .ok (.aload_n 0, 1) := dk42 (BX7_addHole_1_2 (91, 42) (List.mem_of_getElem? (i := 11) rfl))
theorem dX7_addHole_92 : decode cX7_addHole 92 = .ok (.dup, 1) := dk89 (BX7_addHole_1_3 (92, 89) (List.mem_of_getElem? (i := 0) rfl))
theorem dX7_addHole_93 : decode cX7_addHole 93 = .ok (.getfield 38, 3) := dk180 0 38 (BX7_addHole_3_1 (93, 180, 0, 38) (List.mem_of_getElem? (i := 6) rfl))
theorem dX7_addHole_96 : decode cX7_addHole 96 = .ok (.dup_x1, 1) := dk90 (BX7_addHole_1_3 (96, 90) (List.mem_of_getElem? (i := 1) rfl))
theorem dX7_addHole_97 : decode cX7_addHole 97 = .ok (.iconst 1, 1) := dk4 (BX7_addHole_1_3 (97, 4) (List.mem_of_getElem? (i := 2) rfl))
theorem dX7_addHole_98 : decode cX7_addHole 98 = .ok (.iadd, 1) := dk96 (BX7_addHole_1_3 (98, 96) (List.mem_of_getElem? (i := 3) rfl))
theorem dX7_addHole_99 : decode cX7_addHole 99 = .ok (.putfield 38, 3) := dk181 0 38 (BX7_addHole_3_1 (99, 181, 0, 38) (List.mem_of_getElem? (i := 7) rfl))
theorem dX7_addHole_102 : decode cX7_addHole 102 = .ok (.ireturn, 1) := dk172 (BX7_addHole_1_3 (102, 172) (List.mem_of_getElem? (i := 4) rfl))
set_option maxRecDepth 20000 in
theorem SX7_findWorms : ∀ p : Nat, gb cX7_findWorms p = segF [[42, 3, 181, 0, 41, 2, 62, 3, 54, 4, 21, 4, 42, 180, 0, 38, 162, 0, 130, 42, 180, 0, 21, 21, 4, 46, 54, 5, 4, 42, 180, 0, 15, 21, 5, 46, 120, 54, 6, 28, 21, 6, 126, 154, 0, 6, 167, 0, 94, 29, 155, 0, 38, 42, 180, 0, 18, 21, 5, 46, 42, 180, 0, 18], [29, 46, 100, 27, 163, 0, 20, 42, 180, 0, 27, 42, 180, 0, 41, 4, 100, 46, 21, 6, 126, 153, 0, 23, 42, 180, 0, 27, 42, 180, 0, 41, 3, 79, 42, 89, 180, 0, 41, 4, 96, 181, 0, 41, 42, 180, 0, 27, 42, 180, 0, 41, 4, 100, 92, 46, 21, 6, 128, 79, 42, 180, 0, 24], [21, 5, 42, 180, 0, 41, 4, 100, 79, 21, 5, 62, 132, 4, 1, 167, 255, 123, 177]] p := seg_gb (S := [[42, 3, 181, 0, 41, 2, 62, 3, 54, 4, 21, 4, 42, 180, 0, 38, 162, 0, 130, 42, 180, 0, 21, 21, 4, 46, 54, 5, 4, 42, 180, 0, 15, 21, 5, 46, 120, 54, 6, 28, 21, 6, 126, 154, 0, 6, 167, 0, 94, 29, 155, 0, 38, 42, 180, 0, 18, 21, 5, 46, 42, 180, 0, 18], [29, 46, 100, 27, 163, 0, 20, 42, 180, 0, 27, 42, 180, 0, 41, 4, 100, 46, 21, 6, 126, 153, 0, 23, 42, 180, 0, 27, 42, 180, 0, 41, 3, 79, 42, 89, 180, 0, 41, 4, 96, 181, 0, 41, 42, 180, 0, 27, 42, 180, 0, 41, 4, 100, 92, 46, 21, 6, 128, 79, 42, 180, 0, 24], [21, 5, 42, 180, 0, 41, 4, 100, 79, 21, 5, 62, 132, 4, 1, 167, 255, 123, 177]]) (by decide +kernel) (by decide +kernel)
set_option maxRecDepth 20000 in
theorem BX7_findWorms_1_0 : ∀ q ∈ ([(0, 42), (1, 3), (5, 2), (6, 62), (7, 3), (12, 42), (19, 42), (25, 46), (28, 4), (29, 42), (35, 46), (36, 120)] : List (Nat × Nat)), gb cX7_findWorms q.1 = some q.2 := seg_1 SX7_findWorms _ (by decide +kernel)
set_option maxRecDepth 20000 in
theorem BX7_findWorms_1_1 : ∀ q ∈ ([(39, 28), (42, 126), (49, 29), (53, 42), (59, 46), (60, 42), (64, 29), (65, 46), (66, 100), (67, 27), (71, 42), (75, 42)] : List (Nat × Nat)), gb cX7_findWorms q.1 = some q.2 := seg_1 SX7_findWorms _ (by decide +kernel)
set_option maxRecDepth 20000 in
theorem BX7_findWorms_1_2 : ∀ q ∈ ([(79, 4), (80, 100), (81, 46), (84, 126), (88, 42), (92, 42), (96, 3), (97, 79), (98, 42), (99, 89), (103, 4), (104, 96)] : List (Nat × Nat)), gb cX7_findWorms q.1 = some q.2 := seg_1 SX7_findWorms _ (by decide +kernel)
set_option maxRecDepth 20000 in
theorem BX7_findWorms_1_3 : ∀ q ∈ ([(108, 42), (112, 42), (116, 4), (117, 100), (118, 92), (119, 46), (122, 128), (123, 79), (124, 42), (130, 42), (134, 4), (135, 100)] : List (Nat × Nat)), gb cX7_findWorms q.1 = some q.2 := seg_1 SX7_findWorms _ (by decide +kernel)
set_option maxRecDepth 20000 in
theorem BX7_findWorms_1_4 : ∀ q ∈ ([(136, 79), (139, 62), (146, 177)] : List (Nat × Nat)), gb cX7_findWorms q.1 = some q.2 := seg_1 SX7_findWorms _ (by decide +kernel)
set_option maxRecDepth 20000 in
theorem BX7_findWorms_2_0 : ∀ q ∈ ([(8, 54, 4), (10, 21, 4), (23, 21, 4), (26, 54, 5), (33, 21, 5), (37, 54, 6), (40, 21, 6), (57, 21, 5), (82, 21, 6), (120, 21, 6), (128, 21, 5), (137, 21, 5)] : List (Nat × Nat × Nat)), gb cX7_findWorms q.1 = some q.2.1 ∧ gb cX7_findWorms (q.1 + 1) = some q.2.2 := seg_2 SX7_findWorms _ (by decide +kernel)
set_option maxRecDepth 20000 in
theorem BX7_findWorms_3_0 : ∀ q ∈ ([(2, 181, 0, 41), (13, 180, 0, 38), (16, 162, 0, 130), (20, 180, 0, 21), (30, 180, 0, 15), (43, 154, 0, 6), (46, 167, 0, 94), (50, 155, 0, 38), (54, 180, 0, 18), (61, 180, 0, 18), (68, 163, 0, 20), (72, 180, 0, 27)] : List (Nat × Nat × Nat × Nat)), gb cX7_findWorms q.1 = some q.2.1 ∧ gb cX7_findWorms (q.1 + 1) = some q.2.2.1 ∧ gb cX7_findWorms (q.1 + 2) = some q.2.2.2 := seg_3 SX7_findWorms _ (by decide +kernel)
set_option maxRecDepth 20000 in
theorem BX7_findWorms_3_1 : ∀ q ∈ ([(76, 180, 0, 41), (85, 153, 0, 23), (89, 180, 0, 27), (93, 180, 0, 41), (100, 180, 0, 41), (105, 181, 0, 41), (109, 180, 0, 27), (113, 180, 0, 41), (125, 180, 0, 24), (131, 180, 0, 41), (140, 132, 4, 1), (143, 167, 255, 123)] : List (Nat × Nat × Nat × Nat)), gb cX7_findWorms q.1 = some q.2.1 ∧ gb cX7_findWorms (q.1 + 1) = some q.2.2.1 ∧ gb cX7_findWorms (q.1 + 2) = some q.2.2.2 := seg_3 SX7_findWorms _ (by decide +kernel)
theorem dX7_findWorms_0 : decode cX7_findWorms 0 = .ok (.aload_n 0, 1) := dk42 (BX7_findWorms_1_0 (0, 42) (List.mem_of_getElem? (i := 0) rfl))
theorem dX7_findWorms_1 : decode cX7_findWorms 1 = .ok (.iconst 0, 1) := dk3 (BX7_findWorms_1_0 (1, 3) (List.mem_of_getElem? (i := 1) rfl))
theorem dX7_findWorms_2 : decode cX7_findWorms 2 = .ok (.putfield 41, 3) := dk181 0 41 (BX7_findWorms_3_0 (2, 181, 0, 41) (List.mem_of_getElem? (i := 0) rfl))
theorem dX7_findWorms_5 : decode cX7_findWorms 5 = .ok (.iconst (-1), 1) := dk2 (BX7_findWorms_1_0 (5, 2) (List.mem_of_getElem? (i := 2) rfl))
theorem dX7_findWorms_6 : decode cX7_findWorms 6 = .ok (.istore_n 3, 1) := dk62 (BX7_findWorms_1_0 (6, 62) (List.mem_of_getElem? (i := 3) rfl))
theorem dX7_findWorms_7 : decode cX7_findWorms 7 = .ok (.iconst 0, 1) := dk3 (BX7_findWorms_1_0 (7, 3) (List.mem_of_getElem? (i := 4) rfl))
theorem dX7_findWorms_8 : decode cX7_findWorms 8 = .ok (.istore 4, 2) := dk54 4 (BX7_findWorms_2_0 (8, 54, 4) (List.mem_of_getElem? (i := 0) rfl))
theorem dX7_findWorms_10 : decode cX7_findWorms 10 = .ok (.iload 4, 2) := dk21 4 (BX7_findWorms_2_0 (10, 21, 4) (List.mem_of_getElem? (i := 1) rfl))
theorem dX7_findWorms_12 : decode cX7_findWorms 12 = .ok (.aload_n 0, 1) := dk42 (BX7_findWorms_1_0 (12, 42) (List.mem_of_getElem? (i := 5) rfl))
theorem dX7_findWorms_13 : decode cX7_findWorms 13 = .ok (.getfield 38, 3) := dk180 0 38 (BX7_findWorms_3_0 (13, 180, 0, 38) (List.mem_of_getElem? (i := 1) rfl))
theorem dX7_findWorms_16 : decode cX7_findWorms 16 = .ok (.if_icmp .ge 130, 3) := dk162 0 130 (BX7_findWorms_3_0 (16, 162, 0, 130) (List.mem_of_getElem? (i := 2) rfl))
theorem dX7_findWorms_19 : decode cX7_findWorms 19 = .ok (.aload_n 0, 1) := dk42 (BX7_findWorms_1_0 (19, 42) (List.mem_of_getElem? (i := 6) rfl))
theorem dX7_findWorms_20 : decode cX7_findWorms 20 = .ok (.getfield 21, 3) := dk180 0 21 (BX7_findWorms_3_0 (20, 180, 0, 21) (List.mem_of_getElem? (i := 3) rfl))
theorem dX7_findWorms_23 : decode cX7_findWorms 23 = .ok (.iload 4, 2) := dk21 4 (BX7_findWorms_2_0 (23, 21, 4) (List.mem_of_getElem? (i := 2) rfl))
theorem dX7_findWorms_25 : decode cX7_findWorms 25 = .ok (.iaload, 1) := dk46 (BX7_findWorms_1_0 (25, 46) (List.mem_of_getElem? (i := 7) rfl))
theorem dX7_findWorms_26 : decode cX7_findWorms 26 = .ok (.istore 5, 2) := dk54 5 (BX7_findWorms_2_0 (26, 54, 5) (List.mem_of_getElem? (i := 3) rfl))
theorem dX7_findWorms_28 : decode cX7_findWorms 28 = .ok (.iconst 1, 1) := dk4 (BX7_findWorms_1_0 (28, 4) (List.mem_of_getElem? (i := 8) rfl))
theorem dX7_findWorms_29 : decode cX7_findWorms 29 = .ok (.aload_n 0, 1) := dk42 (BX7_findWorms_1_0 (29, 42) (List.mem_of_getElem? (i := 9) rfl))
theorem dX7_findWorms_30 : decode cX7_findWorms 30 = .ok (.getfield 15, 3) := dk180 0 15 (BX7_findWorms_3_0 (30, 180, 0, 15) (List.mem_of_getElem? (i := 4) rfl))
theorem dX7_findWorms_33 : decode cX7_findWorms 33 = .ok (.iload 5, 2) := dk21 5 (BX7_findWorms_2_0 (33, 21, 5) (List.mem_of_getElem? (i := 4) rfl))
theorem dX7_findWorms_35 : decode cX7_findWorms 35 = .ok (.iaload, 1) := dk46 (BX7_findWorms_1_0 (35, 46) (List.mem_of_getElem? (i := 10) rfl))
theorem dX7_findWorms_36 : decode cX7_findWorms 36 = .ok (.ishl, 1) := dk120 (BX7_findWorms_1_0 (36, 120) (List.mem_of_getElem? (i := 11) rfl))
theorem dX7_findWorms_37 : decode cX7_findWorms 37 = .ok (.istore 6, 2) := dk54 6 (BX7_findWorms_2_0 (37, 54, 6) (List.mem_of_getElem? (i := 5) rfl))
theorem dX7_findWorms_39 : decode cX7_findWorms 39 = .ok (.iload_n 2, 1) := dk28 (BX7_findWorms_1_1 (39, 28) (List.mem_of_getElem? (i := 0) rfl))
theorem dX7_findWorms_40 : decode cX7_findWorms 40 = .ok (.iload 6, 2) := dk21 6 (BX7_findWorms_2_0 (40, 21, 6) (List.mem_of_getElem? (i := 6) rfl))
theorem dX7_findWorms_42 : decode cX7_findWorms 42 = .ok (.iand, 1) := dk126 (BX7_findWorms_1_1 (42, 126) (List.mem_of_getElem? (i := 1) rfl))
theorem dX7_findWorms_43 : decode cX7_findWorms 43 = .ok (.ifCond .ne 6, 3) := dk154 0 6 (BX7_findWorms_3_0 (43, 154, 0, 6) (List.mem_of_getElem? (i := 5) rfl))
theorem dX7_findWorms_46 : decode cX7_findWorms 46 = .ok (.goto 94, 3) := dk167 0 94 (BX7_findWorms_3_0 (46, 167, 0, 94) (List.mem_of_getElem? (i := 6) rfl))
theorem dX7_findWorms_49 : decode cX7_findWorms 49 = .ok (.iload_n 3, 1) := dk29 (BX7_findWorms_1_1 (49, 29) (List.mem_of_getElem? (i := 2) rfl))
theorem dX7_findWorms_50 : decode cX7_findWorms 50 = .ok (.ifCond .lt 38, 3) := dk155 0 38 (BX7_findWorms_3_0 (50, 155, 0, 38) (List.mem_of_getElem? (i := 7) rfl))
theorem dX7_findWorms_53 : decode cX7_findWorms 53 = .ok (.aload_n 0, 1) := dk42 (BX7_findWorms_1_1 (53, 42) (List.mem_of_getElem? (i := 3) rfl))
theorem dX7_findWorms_54 : decode cX7_findWorms 54 = .ok (.getfield 18, 3) := dk180 0 18 (BX7_findWorms_3_0 (54, 180, 0, 18) (List.mem_of_getElem? (i := 8) rfl))
theorem dX7_findWorms_57 : decode cX7_findWorms 57 = .ok (.iload 5, 2) := dk21 5 (BX7_findWorms_2_0 (57, 21, 5) (List.mem_of_getElem? (i := 7) rfl))
theorem dX7_findWorms_59 : decode cX7_findWorms 59 = .ok (.iaload, 1) := dk46 (BX7_findWorms_1_1 (59, 46) (List.mem_of_getElem? (i := 4) rfl))
theorem dX7_findWorms_60 : decode cX7_findWorms 60 = .ok (.aload_n 0, 1) := dk42 (BX7_findWorms_1_1 (60, 42) (List.mem_of_getElem? (i := 5) rfl))
theorem dX7_findWorms_61 : decode cX7_findWorms 61 = .ok (.getfield 18, 3) := dk180 0 18 (BX7_findWorms_3_0 (61, 180, 0, 18) (List.mem_of_getElem? (i := 9) rfl))
theorem dX7_findWorms_64 : decode cX7_findWorms 64 = .ok (.iload_n 3, 1) := dk29 (BX7_findWorms_1_1 (64, 29) (List.mem_of_getElem? (i := 6) rfl))
theorem dX7_findWorms_65 : decode cX7_findWorms 65 = .ok (.iaload, 1) := dk46 (BX7_findWorms_1_1 (65, 46) (List.mem_of_getElem? (i := 7) rfl))
theorem dX7_findWorms_66 : decode cX7_findWorms 66 = .ok (.isub, 1) := dk100 (BX7_findWorms_1_1 (66, 100) (List.mem_of_getElem? (i := 8) rfl))
theorem dX7_findWorms_67 : decode cX7_findWorms 67 = .ok (.iload_n 1, 1) := dk27 (BX7_findWorms_1_1 (67, 27) (List.mem_of_getElem? (i := 9) rfl))
theorem dX7_findWorms_68 : decode cX7_findWorms 68 = .ok (.if_icmp .gt 20, 3) := dk163 0 20 (BX7_findWorms_3_0 (68, 163, 0, 20) (List.mem_of_getElem? (i := 10) rfl))
theorem dX7_findWorms_71 : decode cX7_findWorms 71 = .ok (.aload_n 0, 1) := dk42 (BX7_findWorms_1_1 (71, 42) (List.mem_of_getElem? (i := 10) rfl))
theorem dX7_findWorms_72 : decode cX7_findWorms 72 = .ok (.getfield 27, 3) := dk180 0 27 (BX7_findWorms_3_0 (72, 180, 0, 27) (List.mem_of_getElem? (i := 11) rfl))
theorem dX7_findWorms_75 : decode cX7_findWorms 75 = .ok (.aload_n 0, 1) := dk42 (BX7_findWorms_1_1 (75, 42) (List.mem_of_getElem? (i := 11) rfl))
theorem dX7_findWorms_76 : decode cX7_findWorms 76 = .ok (.getfield 41, 3) := dk180 0 41 (BX7_findWorms_3_1 (76, 180, 0, 41) (List.mem_of_getElem? (i := 0) rfl))
theorem dX7_findWorms_79 : decode cX7_findWorms 79 = .ok (.iconst 1, 1) := dk4 (BX7_findWorms_1_2 (79, 4) (List.mem_of_getElem? (i := 0) rfl))
theorem dX7_findWorms_80 : decode cX7_findWorms 80 = .ok (.isub, 1) := dk100 (BX7_findWorms_1_2 (80, 100) (List.mem_of_getElem? (i := 1) rfl))
theorem dX7_findWorms_81 : decode cX7_findWorms 81 = .ok (.iaload, 1) := dk46 (BX7_findWorms_1_2 (81, 46) (List.mem_of_getElem? (i := 2) rfl))
theorem dX7_findWorms_82 : decode cX7_findWorms 82 = .ok (.iload 6, 2) := dk21 6 (BX7_findWorms_2_0 (82, 21, 6) (List.mem_of_getElem? (i := 8) rfl))
theorem dX7_findWorms_84 : decode cX7_findWorms 84 = .ok (.iand, 1) := dk126 (BX7_findWorms_1_2 (84, 126) (List.mem_of_getElem? (i := 3) rfl))
theorem dX7_findWorms_85 : decode cX7_findWorms 85 = .ok (.ifCond .eq 23, 3) := dk153 0 23 (BX7_findWorms_3_1 (85, 153, 0, 23) (List.mem_of_getElem? (i := 1) rfl))
theorem dX7_findWorms_88 : decode cX7_findWorms 88 = .ok (.aload_n 0, 1) := dk42 (BX7_findWorms_1_2 (88, 42) (List.mem_of_getElem? (i := 4) rfl))
theorem dX7_findWorms_89 : decode cX7_findWorms 89 = .ok (.getfield 27, 3) := dk180 0 27 (BX7_findWorms_3_1 (89, 180, 0, 27) (List.mem_of_getElem? (i := 2) rfl))
theorem dX7_findWorms_92 : decode cX7_findWorms 92 = .ok (.aload_n 0, 1) := dk42 (BX7_findWorms_1_2 (92, 42) (List.mem_of_getElem? (i := 5) rfl))
theorem dX7_findWorms_93 : decode cX7_findWorms 93 = .ok (.getfield 41, 3) := dk180 0 41 (BX7_findWorms_3_1 (93, 180, 0, 41) (List.mem_of_getElem? (i := 3) rfl))
theorem dX7_findWorms_96 : decode cX7_findWorms 96 = .ok (.iconst 0, 1) := dk3 (BX7_findWorms_1_2 (96, 3) (List.mem_of_getElem? (i := 6) rfl))
theorem dX7_findWorms_97 : decode cX7_findWorms 97 = .ok (.iastore, 1) := dk79 (BX7_findWorms_1_2 (97, 79) (List.mem_of_getElem? (i := 7) rfl))
theorem dX7_findWorms_98 : decode cX7_findWorms 98 = .ok (.aload_n 0, 1) := dk42 (BX7_findWorms_1_2 (98, 42) (List.mem_of_getElem? (i := 8) rfl))
theorem dX7_findWorms_99 : decode cX7_findWorms 99 = .ok (.dup, 1) := dk89 (BX7_findWorms_1_2 (99, 89) (List.mem_of_getElem? (i := 9) rfl))
theorem dX7_findWorms_100 : decode cX7_findWorms 100 = .ok (.getfield 41, 3) := dk180 0 41 (BX7_findWorms_3_1 (100, 180, 0, 41) (List.mem_of_getElem? (i := 4) rfl))
theorem dX7_findWorms_103 : decode cX7_findWorms 103 = .ok (.iconst 1, 1) := dk4 (BX7_findWorms_1_2 (103, 4) (List.mem_of_getElem? (i := 10) rfl))
theorem dX7_findWorms_104 : decode cX7_findWorms 104 = .ok (.iadd, 1) := dk96 (BX7_findWorms_1_2 (104, 96) (List.mem_of_getElem? (i := 11) rfl))
theorem dX7_findWorms_105 : decode cX7_findWorms 105 = .ok (.putfield 41, 3) := dk181 0 41 (BX7_findWorms_3_1 (105, 181, 0, 41) (List.mem_of_getElem? (i := 5) rfl))
theorem dX7_findWorms_108 : decode cX7_findWorms 108 = .ok (.aload_n 0, 1) := dk42 (BX7_findWorms_1_3 (108, 42) (List.mem_of_getElem? (i := 0) rfl))
theorem dX7_findWorms_109 : decode cX7_findWorms 109 = .ok (.getfield 27, 3) := dk180 0 27 (BX7_findWorms_3_1 (109, 180, 0, 27) (List.mem_of_getElem? (i := 6) rfl))
theorem dX7_findWorms_112 : decode cX7_findWorms 112 = .ok (.aload_n 0, 1) := dk42 (BX7_findWorms_1_3 (112, 42) (List.mem_of_getElem? (i := 1) rfl))
theorem dX7_findWorms_113 : decode cX7_findWorms 113 = .ok (.getfield 41, 3) := dk180 0 41 (BX7_findWorms_3_1 (113, 180, 0, 41) (List.mem_of_getElem? (i := 7) rfl))
theorem dX7_findWorms_116 : decode cX7_findWorms 116 = .ok (.iconst 1, 1) := dk4 (BX7_findWorms_1_3 (116, 4) (List.mem_of_getElem? (i := 2) rfl))
theorem dX7_findWorms_117 : decode cX7_findWorms 117 = .ok (.isub, 1) := dk100 (BX7_findWorms_1_3 (117, 100) (List.mem_of_getElem? (i := 3) rfl))
theorem dX7_findWorms_118 : decode cX7_findWorms 118 = .ok (.dup2, 1) := dk92 (BX7_findWorms_1_3 (118, 92) (List.mem_of_getElem? (i := 4) rfl))
theorem dX7_findWorms_119 : decode cX7_findWorms 119 = .ok (.iaload, 1) := dk46 (BX7_findWorms_1_3 (119, 46) (List.mem_of_getElem? (i := 5) rfl))
theorem dX7_findWorms_120 : decode cX7_findWorms 120 = .ok (.iload 6, 2) := dk21 6 (BX7_findWorms_2_0 (120, 21, 6) (List.mem_of_getElem? (i := 9) rfl))
theorem dX7_findWorms_122 : decode cX7_findWorms 122 = .ok (.ior, 1) := dk128 (BX7_findWorms_1_3 (122, 128) (List.mem_of_getElem? (i := 6) rfl))
theorem dX7_findWorms_123 : decode cX7_findWorms 123 = .ok (.iastore, 1) := dk79 (BX7_findWorms_1_3 (123, 79) (List.mem_of_getElem? (i := 7) rfl))
theorem dX7_findWorms_124 : decode cX7_findWorms 124 = .ok (.aload_n 0, 1) := dk42 (BX7_findWorms_1_3 (124, 42) (List.mem_of_getElem? (i := 8) rfl))
theorem dX7_findWorms_125 : decode cX7_findWorms 125 = .ok (.getfield 24, 3) := dk180 0 24 (BX7_findWorms_3_1 (125, 180, 0, 24) (List.mem_of_getElem? (i := 8) rfl))
theorem dX7_findWorms_128 : decode cX7_findWorms 128 = .ok (.iload 5, 2) := dk21 5 (BX7_findWorms_2_0 (128, 21, 5) (List.mem_of_getElem? (i := 10) rfl))
theorem dX7_findWorms_130 : decode cX7_findWorms 130 = .ok (.aload_n 0, 1) := dk42 (BX7_findWorms_1_3 (130, 42) (List.mem_of_getElem? (i := 9) rfl))
theorem dX7_findWorms_131 : decode cX7_findWorms 131 = .ok (.getfield 41, 3) := dk180 0 41 (BX7_findWorms_3_1 (131, 180, 0, 41) (List.mem_of_getElem? (i := 9) rfl))
theorem dX7_findWorms_134 : decode cX7_findWorms 134 = .ok (.iconst 1, 1) := dk4 (BX7_findWorms_1_3 (134, 4) (List.mem_of_getElem? (i := 10) rfl))
theorem dX7_findWorms_135 : decode cX7_findWorms 135 = .ok (.isub, 1) := dk100 (BX7_findWorms_1_3 (135, 100) (List.mem_of_getElem? (i := 11) rfl))
theorem dX7_findWorms_136 : decode cX7_findWorms 136 = .ok (.iastore, 1) := dk79 (BX7_findWorms_1_4 (136, 79) (List.mem_of_getElem? (i := 0) rfl))
theorem dX7_findWorms_137 : decode cX7_findWorms 137 = .ok (.iload 5, 2) := dk21 5 (BX7_findWorms_2_0 (137, 21, 5) (List.mem_of_getElem? (i := 11) rfl))
theorem dX7_findWorms_139 : decode cX7_findWorms 139 = .ok (.istore_n 3, 1) := dk62 (BX7_findWorms_1_4 (139, 62) (List.mem_of_getElem? (i := 1) rfl))
theorem dX7_findWorms_140 : decode cX7_findWorms 140 = .ok (.iinc 4 1, 3) := dk132 4 1 (BX7_findWorms_3_1 (140, 132, 4, 1) (List.mem_of_getElem? (i := 10) rfl))
theorem dX7_findWorms_143 : decode cX7_findWorms 143 = .ok (.goto (-133), 3) := dk167 255 123 (BX7_findWorms_3_1 (143, 167, 255, 123) (List.mem_of_getElem? (i := 11) rfl))
theorem dX7_findWorms_146 : decode cX7_findWorms 146 = .ok (.return_, 1) := dk177 (BX7_findWorms_1_4 (146, 177) (List.mem_of_getElem? (i := 2) rfl))
set_option maxRecDepth 20000 in
theorem SX7_youngest : ∀ p : Nat, gb cX7_youngest p = segF [[3, 60, 3, 61, 28, 42, 180, 0, 30, 162, 0, 20, 27, 42, 180, 0, 9, 28, 46, 184, 0, 44, 60, 132, 2, 1, 167, 255, 234, 27, 172]] p := seg_gb (S := [[3, 60, 3, 61, 28, 42, 180, 0, 30, 162, 0, 20, 27, 42, 180, 0, 9, 28, 46, 184, 0, 44, 60, 132, 2, 1, 167, 255, 234, 27, 172]]) (by decide +kernel) (by decide +kernel)
set_option maxRecDepth 20000 in
theorem BX7_youngest_1_0 : ∀ q ∈ ([(0, 3), (1, 60), (2, 3), (3, 61), (4, 28), (5, 42), (12, 27), (13, 42), (17, 28), (18, 46), (22, 60), (29, 27)] : List (Nat × Nat)), gb cX7_youngest q.1 = some q.2 := seg_1 SX7_youngest _ (by decide +kernel)
set_option maxRecDepth 20000 in
theorem BX7_youngest_1_1 : ∀ q ∈ ([(30, 172)] : List (Nat × Nat)), gb cX7_youngest q.1 = some q.2 := seg_1 SX7_youngest _ (by decide +kernel)
set_option maxRecDepth 20000 in
theorem BX7_youngest_3_0 : ∀ q ∈ ([(6, 180, 0, 30), (9, 162, 0, 20), (14, 180, 0, 9), (19, 184, 0, 44), (23, 132, 2, 1), (26, 167, 255, 234)] : List (Nat × Nat × Nat × Nat)), gb cX7_youngest q.1 = some q.2.1 ∧ gb cX7_youngest (q.1 + 1) = some q.2.2.1 ∧ gb cX7_youngest (q.1 + 2) = some q.2.2.2 := seg_3 SX7_youngest _ (by decide +kernel)
theorem dX7_youngest_0 : decode cX7_youngest 0 = .ok (.iconst 0, 1) := dk3 (BX7_youngest_1_0 (0, 3) (List.mem_of_getElem? (i := 0) rfl))
theorem dX7_youngest_1 : decode cX7_youngest 1 = .ok (.istore_n 1, 1) := dk60 (BX7_youngest_1_0 (1, 60) (List.mem_of_getElem? (i := 1) rfl))
theorem dX7_youngest_2 : decode cX7_youngest 2 = .ok (.iconst 0, 1) := dk3 (BX7_youngest_1_0 (2, 3) (List.mem_of_getElem? (i := 2) rfl))
theorem dX7_youngest_3 : decode cX7_youngest 3 = .ok (.istore_n 2, 1) := dk61 (BX7_youngest_1_0 (3, 61) (List.mem_of_getElem? (i := 3) rfl))
theorem dX7_youngest_4 : decode cX7_youngest 4 = .ok (.iload_n 2, 1) := dk28 (BX7_youngest_1_0 (4, 28) (List.mem_of_getElem? (i := 4) rfl))
theorem dX7_youngest_5 : decode cX7_youngest 5 = .ok (.aload_n 0, 1) := dk42 (BX7_youngest_1_0 (5, 42) (List.mem_of_getElem? (i := 5) rfl))
theorem dX7_youngest_6 : decode cX7_youngest 6 = .ok (.getfield 30, 3) := dk180 0 30 (BX7_youngest_3_0 (6, 180, 0, 30) (List.mem_of_getElem? (i := 0) rfl))
theorem dX7_youngest_9 : decode cX7_youngest 9 = .ok (.if_icmp .ge 20, 3) := dk162 0 20 (BX7_youngest_3_0 (9, 162, 0, 20) (List.mem_of_getElem? (i := 1) rfl))
theorem dX7_youngest_12 : decode cX7_youngest 12 = .ok (.iload_n 1, 1) := dk27 (BX7_youngest_1_0 (12, 27) (List.mem_of_getElem? (i := 6) rfl))
theorem dX7_youngest_13 : decode cX7_youngest 13 = .ok (.aload_n 0, 1) := dk42 (BX7_youngest_1_0 (13, 42) (List.mem_of_getElem? (i := 7) rfl))
theorem dX7_youngest_14 : decode cX7_youngest 14 = .ok (.getfield 9, 3) := dk180 0 9 (BX7_youngest_3_0 (14, 180, 0, 9) (List.mem_of_getElem? (i := 2) rfl))
theorem dX7_youngest_17 : decode cX7_youngest 17 = .ok (.iload_n 2, 1) := dk28 (BX7_youngest_1_0 (17, 28) (List.mem_of_getElem? (i := 8) rfl))
theorem dX7_youngest_18 : decode cX7_youngest 18 = .ok (.iaload, 1) := dk46 (BX7_youngest_1_0 (18, 46) (List.mem_of_getElem? (i := 9) rfl))
theorem dX7_youngest_19 : decode cX7_youngest 19 = .ok (.invokestatic 44, 3) := dk184 0 44 (BX7_youngest_3_0 (19, 184, 0, 44) (List.mem_of_getElem? (i := 3) rfl))
theorem dX7_youngest_22 : decode cX7_youngest 22 = .ok (.istore_n 1, 1) := dk60 (BX7_youngest_1_0 (22, 60) (List.mem_of_getElem? (i := 10) rfl))
theorem dX7_youngest_23 : decode cX7_youngest 23 = .ok (.iinc 2 1, 3) := dk132 2 1 (BX7_youngest_3_0 (23, 132, 2, 1) (List.mem_of_getElem? (i := 4) rfl))
theorem dX7_youngest_26 : decode cX7_youngest 26 = .ok (.goto (-22), 3) := dk167 255 234 (BX7_youngest_3_0 (26, 167, 255, 234) (List.mem_of_getElem? (i := 5) rfl))
theorem dX7_youngest_29 : decode cX7_youngest 29 = .ok (.iload_n 1, 1) := dk27 (BX7_youngest_1_0 (29, 27) (List.mem_of_getElem? (i := 11) rfl))
theorem dX7_youngest_30 : decode cX7_youngest 30 = .ok (.ireturn, 1) := dk172 (BX7_youngest_1_1 (30, 172) (List.mem_of_getElem? (i := 0) rfl))
set_option maxRecDepth 20000 in
theorem ggX11_sheet_X11_isYear : GoodIn wsX11_sheet wsX11_isYear := goodIn_r _ [5, 6, 7, 4, 8] (by decide +kernel) (by decide +kernel)
set_option maxRecDepth 20000 in
theorem gX11_sheet_X11_isYear : GoodIn wsX11_sheet (va_wsS RX11 98 yX11_isYear wsX11_isYear) := goodIn_app (goodIn_r _ [2, 3, 4] rfl (by decide +kernel)) ggX11_sheet_X11_isYear
set_option maxRecDepth 20000 in
theorem ggX11_sheet_X7_add : GoodIn wsX11_sheet wsX7_add := goodIn_r _ [13, 14, 15, 28, 29, 30, 31, 32, 33, 34, 35, 36] (by decide +kernel) (by decide +kernel)
set_option maxRecDepth 20000 in
theorem gX11_sheet_X7_add : GoodIn wsX11_sheet (wsV RX11 102 RX7 yX7_add wsX7_add) := goodIn_app (goodIn_r _ [9, 10, 11, 12] rfl (by decide +kernel)) ggX11_sheet_X7_add
set_option maxRecDepth 20000 in
theorem SX11_sheet : ∀ p : Nat, gb cX11_sheet p = segF [[27, 184, 0, 98, 154, 0, 5, 2, 172, 42, 180, 0, 10, 27, 182, 0, 102, 172]] p := seg_gb (S := [[27, 184, 0, 98, 154, 0, 5, 2, 172, 42, 180, 0, 10, 27, 182, 0, 102, 172]]) (by decide +kernel) (by decide +kernel)
set_option maxRecDepth 20000 in
theorem BX11_sheet_1_0 : ∀ q ∈ ([(0, 27), (7, 2), (8, 172), (9, 42), (13, 27), (17, 172)] : List (Nat × Nat)), gb cX11_sheet q.1 = some q.2 := seg_1 SX11_sheet _ (by decide +kernel)
set_option maxRecDepth 20000 in
theorem BX11_sheet_3_0 : ∀ q ∈ ([(1, 184, 0, 98), (4, 154, 0, 5), (10, 180, 0, 10), (14, 182, 0, 102)] : List (Nat × Nat × Nat × Nat)), gb cX11_sheet q.1 = some q.2.1 ∧ gb cX11_sheet (q.1 + 1) = some q.2.2.1 ∧ gb cX11_sheet (q.1 + 2) = some q.2.2.2 := seg_3 SX11_sheet _ (by decide +kernel)
theorem dX11_sheet_0 : decode cX11_sheet 0 = .ok (.iload_n 1, 1) := dk27 (BX11_sheet_1_0 (0, 27) (List.mem_of_getElem? (i := 0) rfl))
theorem dX11_sheet_1 : decode cX11_sheet 1 = .ok (.invokestatic 98, 3) := dk184 0 98 (BX11_sheet_3_0 (1, 184, 0, 98) (List.mem_of_getElem? (i := 0) rfl))
theorem dX11_sheet_4 : decode cX11_sheet 4 = .ok (.ifCond .ne 5, 3) := dk154 0 5 (BX11_sheet_3_0 (4, 154, 0, 5) (List.mem_of_getElem? (i := 1) rfl))
theorem dX11_sheet_7 : decode cX11_sheet 7 = .ok (.iconst (-1), 1) := dk2 (BX11_sheet_1_0 (7, 2) (List.mem_of_getElem? (i := 1) rfl))
theorem dX11_sheet_8 : decode cX11_sheet 8 = .ok (.ireturn, 1) := dk172 (BX11_sheet_1_0 (8, 172) (List.mem_of_getElem? (i := 2) rfl))
theorem dX11_sheet_9 : decode cX11_sheet 9 = .ok (.aload_n 0, 1) := dk42 (BX11_sheet_1_0 (9, 42) (List.mem_of_getElem? (i := 3) rfl))
theorem dX11_sheet_10 : decode cX11_sheet 10 = .ok (.getfield 10, 3) := dk180 0 10 (BX11_sheet_3_0 (10, 180, 0, 10) (List.mem_of_getElem? (i := 2) rfl))
theorem dX11_sheet_13 : decode cX11_sheet 13 = .ok (.iload_n 1, 1) := dk27 (BX11_sheet_1_0 (13, 27) (List.mem_of_getElem? (i := 4) rfl))
theorem dX11_sheet_14 : decode cX11_sheet 14 = .ok (.invokevirtual 102, 3) := dk182 0 102 (BX11_sheet_3_0 (14, 182, 0, 102) (List.mem_of_getElem? (i := 3) rfl))
theorem dX11_sheet_17 : decode cX11_sheet 17 = .ok (.ireturn, 1) := dk172 (BX11_sheet_1_0 (17, 172) (List.mem_of_getElem? (i := 5) rfl))
set_option maxRecDepth 20000 in
theorem ggX11_hole_X7_isSheet : GoodIn wsX11_hole wsX7_isSheet := goodIn_r _ [6, 7, 8, 9, 10, 32, 33, 34, 35, 36, 37, 38, 39, 40] (by decide +kernel) (by decide +kernel)
set_option maxRecDepth 20000 in
theorem gX11_hole_X7_isSheet : GoodIn wsX11_hole (wsV RX11 106 RX7 yX7_isSheet wsX7_isSheet) := goodIn_app (goodIn_g ch_wsX11_hole_flat gd_wsX11_hole _ [(1, 1), (1, 2), (1, 3), (1, 4)] rfl) ggX11_hole_X7_isSheet
set_option maxRecDepth 20000 in
theorem ggX11_hole_X11_within : GoodIn wsX11_hole wsX11_within := goodIn_r _ [10] (by decide +kernel) (by decide +kernel)
set_option maxRecDepth 20000 in
theorem gX11_hole_X11_within : GoodIn wsX11_hole (va_wsS RX11 113 yX11_within wsX11_within) := goodIn_app (goodIn_g ch_wsX11_hole_flat gd_wsX11_hole _ [(1, 10), (1, 7), (1, 8)] rfl) ggX11_hole_X11_within
set_option maxRecDepth 20000 in
theorem ggX11_hole_X7_addHole : GoodIn wsX11_hole wsX7_addHole := goodIn_r _ [15, 16, 17, 18, 19, 32, 33, 34, 35, 36, 37, 38, 39, 40] (by decide +kernel) (by decide +kernel)
set_option maxRecDepth 20000 in
theorem gX11_hole_X7_addHole : GoodIn wsX11_hole (wsV RX11 117 RX7 yX7_addHole wsX7_addHole) := goodIn_app (goodIn_g ch_wsX11_hole_flat gd_wsX11_hole _ [(1, 11), (1, 12), (1, 13), (1, 4)] rfl) ggX11_hole_X7_addHole
set_option maxRecDepth 20000 in
theorem SX11_hole : ∀ p : Nat, gb cX11_hole p = segF [[42, 180, 0, 10, 27, 182, 0, 106, 153, 0, 14, 28, 3, 17, 3, 231, 184, 0, 113, 154, 0, 5, 2, 172, 42, 180, 0, 10, 27, 28, 182, 0, 117, 172]] p := seg_gb (S := [[42, 180, 0, 10, 27, 182, 0, 106, 153, 0, 14, 28, 3, 17, 3, 231, 184, 0, 113, 154, 0, 5, 2, 172, 42, 180, 0, 10, 27, 28, 182, 0, 117, 172]]) (by decide +kernel) (by decide +kernel)
set_option maxRecDepth 20000 in
theorem BX11_hole_1_0 : ∀ q ∈ ([(0, 42), (4, 27), (11, 28), (12, 3), (22, 2), (23, 172), (24, 42), (28, 27), (29, 28), (33, 172)] : List (Nat × Nat)), gb cX11_hole q.1 = some q.2 := seg_1 SX11_hole _ (by decide +kernel)
set_option maxRecDepth 20000 in
theorem BX11_hole_3_0 : ∀ q ∈ ([(1, 180, 0, 10), (5, 182, 0, 106), (8, 153, 0, 14), (13, 17, 3, 231), (16, 184, 0, 113), (19, 154, 0, 5), (25, 180, 0, 10), (30, 182, 0, 117)] : List (Nat × Nat × Nat × Nat)), gb cX11_hole q.1 = some q.2.1 ∧ gb cX11_hole (q.1 + 1) = some q.2.2.1 ∧ gb cX11_hole (q.1 + 2) = some q.2.2.2 := seg_3 SX11_hole _ (by decide +kernel)
theorem dX11_hole_0 : decode cX11_hole 0 = .ok (.aload_n 0, 1) := dk42 (BX11_hole_1_0 (0, 42) (List.mem_of_getElem? (i := 0) rfl))
theorem dX11_hole_1 : decode cX11_hole 1 = .ok (.getfield 10, 3) := dk180 0 10 (BX11_hole_3_0 (1, 180, 0, 10) (List.mem_of_getElem? (i := 0) rfl))
theorem dX11_hole_4 : decode cX11_hole 4 = .ok (.iload_n 1, 1) := dk27 (BX11_hole_1_0 (4, 27) (List.mem_of_getElem? (i := 1) rfl))
theorem dX11_hole_5 : decode cX11_hole 5 = .ok (.invokevirtual 106, 3) := dk182 0 106 (BX11_hole_3_0 (5, 182, 0, 106) (List.mem_of_getElem? (i := 1) rfl))
theorem dX11_hole_8 : decode cX11_hole 8 = .ok (.ifCond .eq 14, 3) := dk153 0 14 (BX11_hole_3_0 (8, 153, 0, 14) (List.mem_of_getElem? (i := 2) rfl))
theorem dX11_hole_11 : decode cX11_hole 11 = .ok (.iload_n 2, 1) := dk28 (BX11_hole_1_0 (11, 28) (List.mem_of_getElem? (i := 2) rfl))
theorem dX11_hole_12 : decode cX11_hole 12 = .ok (.iconst 0, 1) := dk3 (BX11_hole_1_0 (12, 3) (List.mem_of_getElem? (i := 3) rfl))
theorem dX11_hole_13 : decode cX11_hole 13 = .ok (.sipush 999, 3) := dk17 3 231 (BX11_hole_3_0 (13, 17, 3, 231) (List.mem_of_getElem? (i := 3) rfl))
theorem dX11_hole_16 : decode cX11_hole 16 = .ok (.invokestatic 113, 3) := dk184 0 113 (BX11_hole_3_0 (16, 184, 0, 113) (List.mem_of_getElem? (i := 4) rfl))
theorem dX11_hole_19 : decode cX11_hole 19 = .ok (.ifCond .ne 5, 3) := dk154 0 5 (BX11_hole_3_0 (19, 154, 0, 5) (List.mem_of_getElem? (i := 5) rfl))
theorem dX11_hole_22 : decode cX11_hole 22 = .ok (.iconst (-1), 1) := dk2 (BX11_hole_1_0 (22, 2) (List.mem_of_getElem? (i := 4) rfl))
theorem dX11_hole_23 : decode cX11_hole 23 = .ok (.ireturn, 1) := dk172 (BX11_hole_1_0 (23, 172) (List.mem_of_getElem? (i := 5) rfl))
theorem dX11_hole_24 : decode cX11_hole 24 = .ok (.aload_n 0, 1) := dk42 (BX11_hole_1_0 (24, 42) (List.mem_of_getElem? (i := 6) rfl))
theorem dX11_hole_25 : decode cX11_hole 25 = .ok (.getfield 10, 3) := dk180 0 10 (BX11_hole_3_0 (25, 180, 0, 10) (List.mem_of_getElem? (i := 6) rfl))
theorem dX11_hole_28 : decode cX11_hole 28 = .ok (.iload_n 1, 1) := dk27 (BX11_hole_1_0 (28, 27) (List.mem_of_getElem? (i := 7) rfl))
theorem dX11_hole_29 : decode cX11_hole 29 = .ok (.iload_n 2, 1) := dk28 (BX11_hole_1_0 (29, 28) (List.mem_of_getElem? (i := 8) rfl))
theorem dX11_hole_30 : decode cX11_hole 30 = .ok (.invokevirtual 117, 3) := dk182 0 117 (BX11_hole_3_0 (30, 182, 0, 117) (List.mem_of_getElem? (i := 7) rfl))
theorem dX11_hole_33 : decode cX11_hole 33 = .ok (.ireturn, 1) := dk172 (BX11_hole_1_0 (33, 172) (List.mem_of_getElem? (i := 9) rfl))
set_option maxRecDepth 20000 in
theorem SX11_within : ∀ p : Nat, gb cX11_within p = segF [[27, 26, 163, 0, 12, 26, 28, 163, 0, 7, 4, 167, 0, 4, 3, 172]] p := seg_gb (S := [[27, 26, 163, 0, 12, 26, 28, 163, 0, 7, 4, 167, 0, 4, 3, 172]]) (by decide +kernel) (by decide +kernel)
set_option maxRecDepth 20000 in
theorem BX11_within_1_0 : ∀ q ∈ ([(0, 27), (1, 26), (5, 26), (6, 28), (10, 4), (14, 3), (15, 172)] : List (Nat × Nat)), gb cX11_within q.1 = some q.2 := seg_1 SX11_within _ (by decide +kernel)
set_option maxRecDepth 20000 in
theorem BX11_within_3_0 : ∀ q ∈ ([(2, 163, 0, 12), (7, 163, 0, 7), (11, 167, 0, 4)] : List (Nat × Nat × Nat × Nat)), gb cX11_within q.1 = some q.2.1 ∧ gb cX11_within (q.1 + 1) = some q.2.2.1 ∧ gb cX11_within (q.1 + 2) = some q.2.2.2 := seg_3 SX11_within _ (by decide +kernel)
theorem dX11_within_0 : decode cX11_within 0 = .ok (.iload_n 1, 1) := dk27 (BX11_within_1_0 (0, 27) (List.mem_of_getElem? (i := 0) rfl))
theorem dX11_within_1 : decode cX11_within 1 = .ok (.iload_n 0, 1) := dk26 (BX11_within_1_0 (1, 26) (List.mem_of_getElem? (i := 1) rfl))
theorem dX11_within_2 : decode cX11_within 2 = .ok (.if_icmp .gt 12, 3) := dk163 0 12 (BX11_within_3_0 (2, 163, 0, 12) (List.mem_of_getElem? (i := 0) rfl))
theorem dX11_within_5 : decode cX11_within 5 = .ok (.iload_n 0, 1) := dk26 (BX11_within_1_0 (5, 26) (List.mem_of_getElem? (i := 2) rfl))
theorem dX11_within_6 : decode cX11_within 6 = .ok (.iload_n 2, 1) := dk28 (BX11_within_1_0 (6, 28) (List.mem_of_getElem? (i := 3) rfl))
theorem dX11_within_7 : decode cX11_within 7 = .ok (.if_icmp .gt 7, 3) := dk163 0 7 (BX11_within_3_0 (7, 163, 0, 7) (List.mem_of_getElem? (i := 1) rfl))
theorem dX11_within_10 : decode cX11_within 10 = .ok (.iconst 1, 1) := dk4 (BX11_within_1_0 (10, 4) (List.mem_of_getElem? (i := 4) rfl))
theorem dX11_within_11 : decode cX11_within 11 = .ok (.goto 4, 3) := dk167 0 4 (BX11_within_3_0 (11, 167, 0, 4) (List.mem_of_getElem? (i := 2) rfl))
theorem dX11_within_14 : decode cX11_within 14 = .ok (.iconst 0, 1) := dk3 (BX11_within_1_0 (14, 3) (List.mem_of_getElem? (i := 5) rfl))
theorem dX11_within_15 : decode cX11_within 15 = .ok (.ireturn, 1) := dk172 (BX11_within_1_0 (15, 172) (List.mem_of_getElem? (i := 6) rfl))
set_option maxRecDepth 20000 in
theorem ggX11_isYear_X11_within : GoodIn wsX11_isYear wsX11_within := goodIn_r _ [4] (by decide +kernel) (by decide +kernel)
set_option maxRecDepth 20000 in
theorem gX11_isYear_X11_within : GoodIn wsX11_isYear (va_wsS RX11 113 yX11_within wsX11_within) := goodIn_app (goodIn_r _ [1, 2, 3] rfl (by decide +kernel)) ggX11_isYear_X11_within
set_option maxRecDepth 20000 in
theorem SX11_isYear : ∀ p : Nat, gb cX11_isYear p = segF [[26, 3, 17, 7, 208, 184, 0, 113, 172]] p := seg_gb (S := [[26, 3, 17, 7, 208, 184, 0, 113, 172]]) (by decide +kernel) (by decide +kernel)
set_option maxRecDepth 20000 in
theorem BX11_isYear_1_0 : ∀ q ∈ ([(0, 26), (1, 3), (8, 172)] : List (Nat × Nat)), gb cX11_isYear q.1 = some q.2 := seg_1 SX11_isYear _ (by decide +kernel)
set_option maxRecDepth 20000 in
theorem BX11_isYear_3_0 : ∀ q ∈ ([(2, 17, 7, 208), (5, 184, 0, 113)] : List (Nat × Nat × Nat × Nat)), gb cX11_isYear q.1 = some q.2.1 ∧ gb cX11_isYear (q.1 + 1) = some q.2.2.1 ∧ gb cX11_isYear (q.1 + 2) = some q.2.2.2 := seg_3 SX11_isYear _ (by decide +kernel)
theorem dX11_isYear_0 : decode cX11_isYear 0 = .ok (.iload_n 0, 1) := dk26 (BX11_isYear_1_0 (0, 26) (List.mem_of_getElem? (i := 0) rfl))
theorem dX11_isYear_1 : decode cX11_isYear 1 = .ok (.iconst 0, 1) := dk3 (BX11_isYear_1_0 (1, 3) (List.mem_of_getElem? (i := 1) rfl))
theorem dX11_isYear_2 : decode cX11_isYear 2 = .ok (.sipush 2000, 3) := dk17 7 208 (BX11_isYear_3_0 (2, 17, 7, 208) (List.mem_of_getElem? (i := 0) rfl))
theorem dX11_isYear_5 : decode cX11_isYear 5 = .ok (.invokestatic 113, 3) := dk184 0 113 (BX11_isYear_3_0 (5, 184, 0, 113) (List.mem_of_getElem? (i := 1) rfl))
theorem dX11_isYear_8 : decode cX11_isYear 8 = .ok (.ireturn, 1) := dk172 (BX11_isYear_1_0 (8, 172) (List.mem_of_getElem? (i := 2) rfl))
set_option maxRecDepth 20000 in
theorem ggX11_isSlack_X11_within : GoodIn wsX11_isSlack wsX11_within := goodIn_r _ [4] (by decide +kernel) (by decide +kernel)
set_option maxRecDepth 20000 in
theorem gX11_isSlack_X11_within : GoodIn wsX11_isSlack (va_wsS RX11 113 yX11_within wsX11_within) := goodIn_app (goodIn_r _ [1, 2, 3] rfl (by decide +kernel)) ggX11_isSlack_X11_within
set_option maxRecDepth 20000 in
theorem SX11_isSlack : ∀ p : Nat, gb cX11_isSlack p = segF [[26, 3, 16, 99, 184, 0, 113, 172]] p := seg_gb (S := [[26, 3, 16, 99, 184, 0, 113, 172]]) (by decide +kernel) (by decide +kernel)
set_option maxRecDepth 20000 in
theorem BX11_isSlack_1_0 : ∀ q ∈ ([(0, 26), (1, 3), (7, 172)] : List (Nat × Nat)), gb cX11_isSlack q.1 = some q.2 := seg_1 SX11_isSlack _ (by decide +kernel)
set_option maxRecDepth 20000 in
theorem BX11_isSlack_2_0 : ∀ q ∈ ([(2, 16, 99)] : List (Nat × Nat × Nat)), gb cX11_isSlack q.1 = some q.2.1 ∧ gb cX11_isSlack (q.1 + 1) = some q.2.2 := seg_2 SX11_isSlack _ (by decide +kernel)
set_option maxRecDepth 20000 in
theorem BX11_isSlack_3_0 : ∀ q ∈ ([(4, 184, 0, 113)] : List (Nat × Nat × Nat × Nat)), gb cX11_isSlack q.1 = some q.2.1 ∧ gb cX11_isSlack (q.1 + 1) = some q.2.2.1 ∧ gb cX11_isSlack (q.1 + 2) = some q.2.2.2 := seg_3 SX11_isSlack _ (by decide +kernel)
theorem dX11_isSlack_0 : decode cX11_isSlack 0 = .ok (.iload_n 0, 1) := dk26 (BX11_isSlack_1_0 (0, 26) (List.mem_of_getElem? (i := 0) rfl))
theorem dX11_isSlack_1 : decode cX11_isSlack 1 = .ok (.iconst 0, 1) := dk3 (BX11_isSlack_1_0 (1, 3) (List.mem_of_getElem? (i := 1) rfl))
theorem dX11_isSlack_2 : decode cX11_isSlack 2 = .ok (.bipush 99, 2) := dk16 99 (BX11_isSlack_2_0 (2, 16, 99) (List.mem_of_getElem? (i := 0) rfl))
theorem dX11_isSlack_4 : decode cX11_isSlack 4 = .ok (.invokestatic 113, 3) := dk184 0 113 (BX11_isSlack_3_0 (4, 184, 0, 113) (List.mem_of_getElem? (i := 0) rfl))
theorem dX11_isSlack_7 : decode cX11_isSlack 7 = .ok (.ireturn, 1) := dk172 (BX11_isSlack_1_0 (7, 172) (List.mem_of_getElem? (i := 2) rfl))
set_option maxRecDepth 20000 in
theorem SX11_isBit : ∀ p : Nat, gb cX11_isBit p = segF [[26, 153, 0, 8, 26, 4, 160, 0, 7, 4, 167, 0, 4, 3, 172]] p := seg_gb (S := [[26, 153, 0, 8, 26, 4, 160, 0, 7, 4, 167, 0, 4, 3, 172]]) (by decide +kernel) (by decide +kernel)
set_option maxRecDepth 20000 in
theorem BX11_isBit_1_0 : ∀ q ∈ ([(0, 26), (4, 26), (5, 4), (9, 4), (13, 3), (14, 172)] : List (Nat × Nat)), gb cX11_isBit q.1 = some q.2 := seg_1 SX11_isBit _ (by decide +kernel)
set_option maxRecDepth 20000 in
theorem BX11_isBit_3_0 : ∀ q ∈ ([(1, 153, 0, 8), (6, 160, 0, 7), (10, 167, 0, 4)] : List (Nat × Nat × Nat × Nat)), gb cX11_isBit q.1 = some q.2.1 ∧ gb cX11_isBit (q.1 + 1) = some q.2.2.1 ∧ gb cX11_isBit (q.1 + 2) = some q.2.2.2 := seg_3 SX11_isBit _ (by decide +kernel)
theorem dX11_isBit_0 : decode cX11_isBit 0 = .ok (.iload_n 0, 1) := dk26 (BX11_isBit_1_0 (0, 26) (List.mem_of_getElem? (i := 0) rfl))
theorem dX11_isBit_1 : decode cX11_isBit 1 = .ok (.ifCond .eq 8, 3) := dk153 0 8 (BX11_isBit_3_0 (1, 153, 0, 8) (List.mem_of_getElem? (i := 0) rfl))
theorem dX11_isBit_4 : decode cX11_isBit 4 = .ok (.iload_n 0, 1) := dk26 (BX11_isBit_1_0 (4, 26) (List.mem_of_getElem? (i := 1) rfl))
theorem dX11_isBit_5 : decode cX11_isBit 5 = .ok (.iconst 1, 1) := dk4 (BX11_isBit_1_0 (5, 4) (List.mem_of_getElem? (i := 2) rfl))
theorem dX11_isBit_6 : decode cX11_isBit 6 = .ok (.if_icmp .ne 7, 3) := dk160 0 7 (BX11_isBit_3_0 (6, 160, 0, 7) (List.mem_of_getElem? (i := 1) rfl))
theorem dX11_isBit_9 : decode cX11_isBit 9 = .ok (.iconst 1, 1) := dk4 (BX11_isBit_1_0 (9, 4) (List.mem_of_getElem? (i := 3) rfl))
theorem dX11_isBit_10 : decode cX11_isBit 10 = .ok (.goto 4, 3) := dk167 0 4 (BX11_isBit_3_0 (10, 167, 0, 4) (List.mem_of_getElem? (i := 2) rfl))
theorem dX11_isBit_13 : decode cX11_isBit 13 = .ok (.iconst 0, 1) := dk3 (BX11_isBit_1_0 (13, 3) (List.mem_of_getElem? (i := 4) rfl))
theorem dX11_isBit_14 : decode cX11_isBit 14 = .ok (.ireturn, 1) := dk172 (BX11_isBit_1_0 (14, 172) (List.mem_of_getElem? (i := 5) rfl))
set_option maxRecDepth 20000 in
theorem SX11_asBit : ∀ p : Nat, gb cX11_asBit p = segF [[26, 153, 0, 7, 4, 167, 0, 4, 3, 172]] p := seg_gb (S := [[26, 153, 0, 7, 4, 167, 0, 4, 3, 172]]) (by decide +kernel) (by decide +kernel)
set_option maxRecDepth 20000 in
theorem BX11_asBit_1_0 : ∀ q ∈ ([(0, 26), (4, 4), (8, 3), (9, 172)] : List (Nat × Nat)), gb cX11_asBit q.1 = some q.2 := seg_1 SX11_asBit _ (by decide +kernel)
set_option maxRecDepth 20000 in
theorem BX11_asBit_3_0 : ∀ q ∈ ([(1, 153, 0, 7), (5, 167, 0, 4)] : List (Nat × Nat × Nat × Nat)), gb cX11_asBit q.1 = some q.2.1 ∧ gb cX11_asBit (q.1 + 1) = some q.2.2.1 ∧ gb cX11_asBit (q.1 + 2) = some q.2.2.2 := seg_3 SX11_asBit _ (by decide +kernel)
theorem dX11_asBit_0 : decode cX11_asBit 0 = .ok (.iload_n 0, 1) := dk26 (BX11_asBit_1_0 (0, 26) (List.mem_of_getElem? (i := 0) rfl))
theorem dX11_asBit_1 : decode cX11_asBit 1 = .ok (.ifCond .eq 7, 3) := dk153 0 7 (BX11_asBit_3_0 (1, 153, 0, 7) (List.mem_of_getElem? (i := 0) rfl))
theorem dX11_asBit_4 : decode cX11_asBit 4 = .ok (.iconst 1, 1) := dk4 (BX11_asBit_1_0 (4, 4) (List.mem_of_getElem? (i := 1) rfl))
theorem dX11_asBit_5 : decode cX11_asBit 5 = .ok (.goto 4, 3) := dk167 0 4 (BX11_asBit_3_0 (5, 167, 0, 4) (List.mem_of_getElem? (i := 1) rfl))
theorem dX11_asBit_8 : decode cX11_asBit 8 = .ok (.iconst 0, 1) := dk3 (BX11_asBit_1_0 (8, 3) (List.mem_of_getElem? (i := 2) rfl))
theorem dX11_asBit_9 : decode cX11_asBit 9 = .ok (.ireturn, 1) := dk172 (BX11_asBit_1_0 (9, 172) (List.mem_of_getElem? (i := 3) rfl))
set_option maxRecDepth 20000 in
theorem ggX11_isInk_X11_within : GoodIn wsX11_isInk wsX11_within := goodIn_r _ [4] (by decide +kernel) (by decide +kernel)
set_option maxRecDepth 20000 in
theorem gX11_isInk_X11_within : GoodIn wsX11_isInk (va_wsS RX11 113 yX11_within wsX11_within) := goodIn_app (goodIn_r _ [1, 2, 3] rfl (by decide +kernel)) ggX11_isInk_X11_within
set_option maxRecDepth 20000 in
theorem SX11_isInk : ∀ p : Nat, gb cX11_isInk p = segF [[26, 3, 8, 184, 0, 113, 172]] p := seg_gb (S := [[26, 3, 8, 184, 0, 113, 172]]) (by decide +kernel) (by decide +kernel)
set_option maxRecDepth 20000 in
theorem BX11_isInk_1_0 : ∀ q ∈ ([(0, 26), (1, 3), (2, 8), (6, 172)] : List (Nat × Nat)), gb cX11_isInk q.1 = some q.2 := seg_1 SX11_isInk _ (by decide +kernel)
set_option maxRecDepth 20000 in
theorem BX11_isInk_3_0 : ∀ q ∈ ([(3, 184, 0, 113)] : List (Nat × Nat × Nat × Nat)), gb cX11_isInk q.1 = some q.2.1 ∧ gb cX11_isInk (q.1 + 1) = some q.2.2.1 ∧ gb cX11_isInk (q.1 + 2) = some q.2.2.2 := seg_3 SX11_isInk _ (by decide +kernel)
theorem dX11_isInk_0 : decode cX11_isInk 0 = .ok (.iload_n 0, 1) := dk26 (BX11_isInk_1_0 (0, 26) (List.mem_of_getElem? (i := 0) rfl))
theorem dX11_isInk_1 : decode cX11_isInk 1 = .ok (.iconst 0, 1) := dk3 (BX11_isInk_1_0 (1, 3) (List.mem_of_getElem? (i := 1) rfl))
theorem dX11_isInk_2 : decode cX11_isInk 2 = .ok (.iconst 5, 1) := dk8 (BX11_isInk_1_0 (2, 8) (List.mem_of_getElem? (i := 2) rfl))
theorem dX11_isInk_3 : decode cX11_isInk 3 = .ok (.invokestatic 113, 3) := dk184 0 113 (BX11_isInk_3_0 (3, 184, 0, 113) (List.mem_of_getElem? (i := 0) rfl))
theorem dX11_isInk_6 : decode cX11_isInk 6 = .ok (.ireturn, 1) := dk172 (BX11_isInk_1_0 (6, 172) (List.mem_of_getElem? (i := 3) rfl))
set_option maxRecDepth 20000 in
theorem ggX11_isStuff_X11_within : GoodIn wsX11_isStuff wsX11_within := goodIn_r _ [4] (by decide +kernel) (by decide +kernel)
set_option maxRecDepth 20000 in
theorem gX11_isStuff_X11_within : GoodIn wsX11_isStuff (va_wsS RX11 113 yX11_within wsX11_within) := goodIn_app (goodIn_r _ [1, 2, 3] rfl (by decide +kernel)) ggX11_isStuff_X11_within
set_option maxRecDepth 20000 in
theorem SX11_isStuff : ∀ p : Nat, gb cX11_isStuff p = segF [[26, 3, 17, 39, 15, 184, 0, 113, 172]] p := seg_gb (S := [[26, 3, 17, 39, 15, 184, 0, 113, 172]]) (by decide +kernel) (by decide +kernel)
set_option maxRecDepth 20000 in
theorem BX11_isStuff_1_0 : ∀ q ∈ ([(0, 26), (1, 3), (8, 172)] : List (Nat × Nat)), gb cX11_isStuff q.1 = some q.2 := seg_1 SX11_isStuff _ (by decide +kernel)
set_option maxRecDepth 20000 in
theorem BX11_isStuff_3_0 : ∀ q ∈ ([(2, 17, 39, 15), (5, 184, 0, 113)] : List (Nat × Nat × Nat × Nat)), gb cX11_isStuff q.1 = some q.2.1 ∧ gb cX11_isStuff (q.1 + 1) = some q.2.2.1 ∧ gb cX11_isStuff (q.1 + 2) = some q.2.2.2 := seg_3 SX11_isStuff _ (by decide +kernel)
theorem dX11_isStuff_0 : decode cX11_isStuff 0 = .ok (.iload_n 0, 1) := dk26 (BX11_isStuff_1_0 (0, 26) (List.mem_of_getElem? (i := 0) rfl))
theorem dX11_isStuff_1 : decode cX11_isStuff 1 = .ok (.iconst 0, 1) := dk3 (BX11_isStuff_1_0 (1, 3) (List.mem_of_getElem? (i := 1) rfl))
theorem dX11_isStuff_2 : decode cX11_isStuff 2 = .ok (.sipush 9999, 3) := dk17 39 15 (BX11_isStuff_3_0 (2, 17, 39, 15) (List.mem_of_getElem? (i := 0) rfl))
theorem dX11_isStuff_5 : decode cX11_isStuff 5 = .ok (.invokestatic 113, 3) := dk184 0 113 (BX11_isStuff_3_0 (5, 184, 0, 113) (List.mem_of_getElem? (i := 1) rfl))
theorem dX11_isStuff_8 : decode cX11_isStuff 8 = .ok (.ireturn, 1) := dk172 (BX11_isStuff_1_0 (8, 172) (List.mem_of_getElem? (i := 2) rfl))
set_option maxRecDepth 20000 in
theorem ggX11_isPrior_X11_within : GoodIn wsX11_isPrior wsX11_within := goodIn_r _ [4] (by decide +kernel) (by decide +kernel)
set_option maxRecDepth 20000 in
theorem gX11_isPrior_X11_within : GoodIn wsX11_isPrior (va_wsS RX11 113 yX11_within wsX11_within) := goodIn_app (goodIn_r _ [1, 2, 3] rfl (by decide +kernel)) ggX11_isPrior_X11_within
set_option maxRecDepth 20000 in
theorem SX11_isPrior : ∀ p : Nat, gb cX11_isPrior p = segF [[26, 4, 16, 99, 184, 0, 113, 172]] p := seg_gb (S := [[26, 4, 16, 99, 184, 0, 113, 172]]) (by decide +kernel) (by decide +kernel)
set_option maxRecDepth 20000 in
theorem BX11_isPrior_1_0 : ∀ q ∈ ([(0, 26), (1, 4), (7, 172)] : List (Nat × Nat)), gb cX11_isPrior q.1 = some q.2 := seg_1 SX11_isPrior _ (by decide +kernel)
set_option maxRecDepth 20000 in
theorem BX11_isPrior_2_0 : ∀ q ∈ ([(2, 16, 99)] : List (Nat × Nat × Nat)), gb cX11_isPrior q.1 = some q.2.1 ∧ gb cX11_isPrior (q.1 + 1) = some q.2.2 := seg_2 SX11_isPrior _ (by decide +kernel)
set_option maxRecDepth 20000 in
theorem BX11_isPrior_3_0 : ∀ q ∈ ([(4, 184, 0, 113)] : List (Nat × Nat × Nat × Nat)), gb cX11_isPrior q.1 = some q.2.1 ∧ gb cX11_isPrior (q.1 + 1) = some q.2.2.1 ∧ gb cX11_isPrior (q.1 + 2) = some q.2.2.2 := seg_3 SX11_isPrior _ (by decide +kernel)
theorem dX11_isPrior_0 : decode cX11_isPrior 0 = .ok (.iload_n 0, 1) := dk26 (BX11_isPrior_1_0 (0, 26) (List.mem_of_getElem? (i := 0) rfl))
theorem dX11_isPrior_1 : decode cX11_isPrior 1 = .ok (.iconst 1, 1) := dk4 (BX11_isPrior_1_0 (1, 4) (List.mem_of_getElem? (i := 1) rfl))
theorem dX11_isPrior_2 : decode cX11_isPrior 2 = .ok (.bipush 99, 2) := dk16 99 (BX11_isPrior_2_0 (2, 16, 99) (List.mem_of_getElem? (i := 0) rfl))
theorem dX11_isPrior_4 : decode cX11_isPrior 4 = .ok (.invokestatic 113, 3) := dk184 0 113 (BX11_isPrior_3_0 (4, 184, 0, 113) (List.mem_of_getElem? (i := 0) rfl))
theorem dX11_isPrior_7 : decode cX11_isPrior 7 = .ok (.ireturn, 1) := dk172 (BX11_isPrior_1_0 (7, 172) (List.mem_of_getElem? (i := 2) rfl))
set_option maxRecDepth 20000 in
theorem ggX11_isDot_X11_within : GoodIn wsX11_isDot wsX11_within := goodIn_r _ [4] (by decide +kernel) (by decide +kernel)
set_option maxRecDepth 20000 in
theorem gX11_isDot_X11_within : GoodIn wsX11_isDot (va_wsS RX11 113 yX11_within wsX11_within) := goodIn_app (goodIn_r _ [1, 2, 3] rfl (by decide +kernel)) ggX11_isDot_X11_within
set_option maxRecDepth 20000 in
theorem ggX11_isDot_X11_isStuff : GoodIn wsX11_isDot wsX11_isStuff := goodIn_r _ [7, 1, 2, 3, 4] (by decide +kernel) (by decide +kernel)
set_option maxRecDepth 20000 in
theorem gX11_isDot_X11_isStuff : GoodIn wsX11_isDot (va_wsS RX11 218 yX11_isStuff wsX11_isStuff) := goodIn_app (goodIn_r _ [5, 6, 3] rfl (by decide +kernel)) ggX11_isDot_X11_isStuff
set_option maxRecDepth 20000 in
theorem SX11_isDot : ∀ p : Nat, gb cX11_isDot p = segF [[26, 3, 7, 184, 0, 113, 153, 0, 24, 27, 3, 16, 7, 184, 0, 113, 153, 0, 14, 28, 184, 0, 218, 153, 0, 7, 4, 167, 0, 4, 3, 172]] p := seg_gb (S := [[26, 3, 7, 184, 0, 113, 153, 0, 24, 27, 3, 16, 7, 184, 0, 113, 153, 0, 14, 28, 184, 0, 218, 153, 0, 7, 4, 167, 0, 4, 3, 172]]) (by decide +kernel) (by decide +kernel)
set_option maxRecDepth 20000 in
theorem BX11_isDot_1_0 : ∀ q ∈ ([(0, 26), (1, 3), (2, 7), (9, 27), (10, 3), (19, 28), (26, 4), (30, 3), (31, 172)] : List (Nat × Nat)), gb cX11_isDot q.1 = some q.2 := seg_1 SX11_isDot _ (by decide +kernel)
set_option maxRecDepth 20000 in
theorem BX11_isDot_2_0 : ∀ q ∈ ([(11, 16, 7)] : List (Nat × Nat × Nat)), gb cX11_isDot q.1 = some q.2.1 ∧ gb cX11_isDot (q.1 + 1) = some q.2.2 := seg_2 SX11_isDot _ (by decide +kernel)
set_option maxRecDepth 20000 in
theorem BX11_isDot_3_0 : ∀ q ∈ ([(3, 184, 0, 113), (6, 153, 0, 24), (13, 184, 0, 113), (16, 153, 0, 14), (20, 184, 0, 218), (23, 153, 0, 7), (27, 167, 0, 4)] : List (Nat × Nat × Nat × Nat)), gb cX11_isDot q.1 = some q.2.1 ∧ gb cX11_isDot (q.1 + 1) = some q.2.2.1 ∧ gb cX11_isDot (q.1 + 2) = some q.2.2.2 := seg_3 SX11_isDot _ (by decide +kernel)
theorem dX11_isDot_0 : decode cX11_isDot 0 = .ok (.iload_n 0, 1) := dk26 (BX11_isDot_1_0 (0, 26) (List.mem_of_getElem? (i := 0) rfl))
theorem dX11_isDot_1 : decode cX11_isDot 1 = .ok (.iconst 0, 1) := dk3 (BX11_isDot_1_0 (1, 3) (List.mem_of_getElem? (i := 1) rfl))
theorem dX11_isDot_2 : decode cX11_isDot 2 = .ok (.iconst 4, 1) := dk7 (BX11_isDot_1_0 (2, 7) (List.mem_of_getElem? (i := 2) rfl))
theorem dX11_isDot_3 : decode cX11_isDot 3 = .ok (.invokestatic 113, 3) := dk184 0 113 (BX11_isDot_3_0 (3, 184, 0, 113) (List.mem_of_getElem? (i := 0) rfl))
theorem dX11_isDot_6 : decode cX11_isDot 6 = .ok (.ifCond .eq 24, 3) := dk153 0 24 (BX11_isDot_3_0 (6, 153, 0, 24) (List.mem_of_getElem? (i := 1) rfl))
theorem dX11_isDot_9 : decode cX11_isDot 9 = .ok (.iload_n 1, 1) := dk27 (BX11_isDot_1_0 (9, 27) (List.mem_of_getElem? (i := 3) rfl))
theorem dX11_isDot_10 : decode cX11_isDot 10 = .ok (.iconst 0, 1) := dk3 (BX11_isDot_1_0 (10, 3) (List.mem_of_getElem? (i := 4) rfl))
theorem dX11_isDot_11 : decode cX11_isDot 11 = .ok (.bipush 7, 2) := dk16 7 (BX11_isDot_2_0 (11, 16, 7) (List.mem_of_getElem? (i := 0) rfl))
theorem dX11_isDot_13 : decode cX11_isDot 13 = .ok (.invokestatic 113, 3) := dk184 0 113 (BX11_isDot_3_0 (13, 184, 0, 113) (List.mem_of_getElem? (i := 2) rfl))
theorem dX11_isDot_16 : decode cX11_isDot 16 = .ok (.ifCond .eq 14, 3) := dk153 0 14 (BX11_isDot_3_0 (16, 153, 0, 14) (List.mem_of_getElem? (i := 3) rfl))
theorem dX11_isDot_19 : decode cX11_isDot 19 = .ok (.iload_n 2, 1) := dk28 (BX11_isDot_1_0 (19, 28) (List.mem_of_getElem? (i := 5) rfl))
theorem dX11_isDot_20 : decode cX11_isDot 20 = .ok (.invokestatic 218, 3) := dk184 0 218 (BX11_isDot_3_0 (20, 184, 0, 218) (List.mem_of_getElem? (i := 4) rfl))
theorem dX11_isDot_23 : decode cX11_isDot 23 = .ok (.ifCond .eq 7, 3) := dk153 0 7 (BX11_isDot_3_0 (23, 153, 0, 7) (List.mem_of_getElem? (i := 5) rfl))
theorem dX11_isDot_26 : decode cX11_isDot 26 = .ok (.iconst 1, 1) := dk4 (BX11_isDot_1_0 (26, 4) (List.mem_of_getElem? (i := 6) rfl))
theorem dX11_isDot_27 : decode cX11_isDot 27 = .ok (.goto 4, 3) := dk167 0 4 (BX11_isDot_3_0 (27, 167, 0, 4) (List.mem_of_getElem? (i := 6) rfl))
theorem dX11_isDot_30 : decode cX11_isDot 30 = .ok (.iconst 0, 1) := dk3 (BX11_isDot_1_0 (30, 3) (List.mem_of_getElem? (i := 7) rfl))
theorem dX11_isDot_31 : decode cX11_isDot 31 = .ok (.ireturn, 1) := dk172 (BX11_isDot_1_0 (31, 172) (List.mem_of_getElem? (i := 8) rfl))
set_option maxRecDepth 20000 in
theorem SX11_hasBit : ∀ p : Nat, gb cX11_hasBit p = segF [[26, 27, 122, 4, 126, 153, 0, 7, 4, 167, 0, 4, 3, 172]] p := seg_gb (S := [[26, 27, 122, 4, 126, 153, 0, 7, 4, 167, 0, 4, 3, 172]]) (by decide +kernel) (by decide +kernel)
set_option maxRecDepth 20000 in
theorem BX11_hasBit_1_0 : ∀ q ∈ ([(0, 26), (1, 27), (2, 122), (3, 4), (4, 126), (8, 4), (12, 3), (13, 172)] : List (Nat × Nat)), gb cX11_hasBit q.1 = some q.2 := seg_1 SX11_hasBit _ (by decide +kernel)
set_option maxRecDepth 20000 in
theorem BX11_hasBit_3_0 : ∀ q ∈ ([(5, 153, 0, 7), (9, 167, 0, 4)] : List (Nat × Nat × Nat × Nat)), gb cX11_hasBit q.1 = some q.2.1 ∧ gb cX11_hasBit (q.1 + 1) = some q.2.2.1 ∧ gb cX11_hasBit (q.1 + 2) = some q.2.2.2 := seg_3 SX11_hasBit _ (by decide +kernel)
theorem dX11_hasBit_0 : decode cX11_hasBit 0 = .ok (.iload_n 0, 1) := dk26 (BX11_hasBit_1_0 (0, 26) (List.mem_of_getElem? (i := 0) rfl))
theorem dX11_hasBit_1 : decode cX11_hasBit 1 = .ok (.iload_n 1, 1) := dk27 (BX11_hasBit_1_0 (1, 27) (List.mem_of_getElem? (i := 1) rfl))
theorem dX11_hasBit_2 : decode cX11_hasBit 2 = .ok (.ishr, 1) := dk122 (BX11_hasBit_1_0 (2, 122) (List.mem_of_getElem? (i := 2) rfl))
theorem dX11_hasBit_3 : decode cX11_hasBit 3 = .ok (.iconst 1, 1) := dk4 (BX11_hasBit_1_0 (3, 4) (List.mem_of_getElem? (i := 3) rfl))
theorem dX11_hasBit_4 : decode cX11_hasBit 4 = .ok (.iand, 1) := dk126 (BX11_hasBit_1_0 (4, 126) (List.mem_of_getElem? (i := 4) rfl))
theorem dX11_hasBit_5 : decode cX11_hasBit 5 = .ok (.ifCond .eq 7, 3) := dk153 0 7 (BX11_hasBit_3_0 (5, 153, 0, 7) (List.mem_of_getElem? (i := 0) rfl))
theorem dX11_hasBit_8 : decode cX11_hasBit 8 = .ok (.iconst 1, 1) := dk4 (BX11_hasBit_1_0 (8, 4) (List.mem_of_getElem? (i := 5) rfl))
theorem dX11_hasBit_9 : decode cX11_hasBit 9 = .ok (.goto 4, 3) := dk167 0 4 (BX11_hasBit_3_0 (9, 167, 0, 4) (List.mem_of_getElem? (i := 1) rfl))
theorem dX11_hasBit_12 : decode cX11_hasBit 12 = .ok (.iconst 0, 1) := dk3 (BX11_hasBit_1_0 (12, 3) (List.mem_of_getElem? (i := 6) rfl))
theorem dX11_hasBit_13 : decode cX11_hasBit 13 = .ok (.ireturn, 1) := dk172 (BX11_hasBit_1_0 (13, 172) (List.mem_of_getElem? (i := 7) rfl))
set_option maxRecDepth 20000 in
theorem SX11_drawn : ∀ p : Nat, gb cX11_drawn p = segF [[26, 19, 1, 214, 104, 17, 48, 57, 96, 172]] p := seg_gb (S := [[26, 19, 1, 214, 104, 17, 48, 57, 96, 172]]) (by decide +kernel) (by decide +kernel)
set_option maxRecDepth 20000 in
theorem BX11_drawn_1_0 : ∀ q ∈ ([(0, 26), (4, 104), (8, 96), (9, 172)] : List (Nat × Nat)), gb cX11_drawn q.1 = some q.2 := seg_1 SX11_drawn _ (by decide +kernel)
set_option maxRecDepth 20000 in
theorem BX11_drawn_3_0 : ∀ q ∈ ([(1, 19, 1, 214), (5, 17, 48, 57)] : List (Nat × Nat × Nat × Nat)), gb cX11_drawn q.1 = some q.2.1 ∧ gb cX11_drawn (q.1 + 1) = some q.2.2.1 ∧ gb cX11_drawn (q.1 + 2) = some q.2.2.2 := seg_3 SX11_drawn _ (by decide +kernel)
theorem dX11_drawn_0 : decode cX11_drawn 0 = .ok (.iload_n 0, 1) := dk26 (BX11_drawn_1_0 (0, 26) (List.mem_of_getElem? (i := 0) rfl))
theorem dX11_drawn_1 : decode cX11_drawn 1 = .ok (.ldc_w 470, 3) := dk19 1 214 (BX11_drawn_3_0 (1, 19, 1, 214) (List.mem_of_getElem? (i := 0) rfl))
theorem dX11_drawn_4 : decode cX11_drawn 4 = .ok (.imul, 1) := dk104 (BX11_drawn_1_0 (4, 104) (List.mem_of_getElem? (i := 1) rfl))
theorem dX11_drawn_5 : decode cX11_drawn 5 = .ok (.sipush 12345, 3) := dk17 48 57 (BX11_drawn_3_0 (5, 17, 48, 57) (List.mem_of_getElem? (i := 1) rfl))
theorem dX11_drawn_8 : decode cX11_drawn 8 = .ok (.iadd, 1) := dk96 (BX11_drawn_1_0 (8, 96) (List.mem_of_getElem? (i := 2) rfl))
theorem dX11_drawn_9 : decode cX11_drawn 9 = .ok (.ireturn, 1) := dk172 (BX11_drawn_1_0 (9, 172) (List.mem_of_getElem? (i := 3) rfl))
