noncomputable def ch_wsX10_read : List (List Cond) := [([.code yX10_read cX10_read 2 (some .boolean)] : List Cond), wsX10_read_r1, wsX10_read_r2, wsX10_read_r3, wsX10_read_r4, wsX10_read_r5, wsX10_read_r6, wsX100]
set_option maxRecDepth 20000 in
theorem ch_wsX10_read_flat : ch_wsX10_read.flatten = wsX10_read := by
  simp only [ch_wsX10_read, wsX10_read, List.flatten_cons, List.flatten_nil, List.append_nil, List.nil_append, List.cons_append, List.append_assoc]
set_option maxRecDepth 20000 in
theorem gd_wsX10_read : wsX10_read.all goodWord = true := by decide +kernel
noncomputable def ch_wsX10_readLine : List (List Cond) := [([.code yX10_readLine cX10_readLine 1 (some .boolean)] : List Cond), wsX10_readLine_r1, wsX10_readLine_r2, wsX10_readLine_r3, wsX10_readLine_r4, wsX10_readLine_r5, wsX10_readLine_r6, wsX100]
set_option maxRecDepth 20000 in
theorem ch_wsX10_readLine_flat : ch_wsX10_readLine.flatten = wsX10_readLine := by
  simp only [ch_wsX10_readLine, wsX10_readLine, List.flatten_cons, List.flatten_nil, List.append_nil, List.nil_append, List.cons_append, List.append_assoc]
set_option maxRecDepth 20000 in
theorem gd_wsX10_readLine : wsX10_readLine.all goodWord = true := by decide +kernel
noncomputable def ch_wsX10_readLevel : List (List Cond) := [([.code yX10_readLevel cX10_readLevel 6 (some .boolean)] : List Cond), wsX10_readLevel_r1, wsX10_readLevel_r2, wsX10_readLevel_r3, wsX10_readLevel_r4, wsX10_readLevel_r5, wsX10_readLevel_r6, wsX100]
set_option maxRecDepth 20000 in
theorem ch_wsX10_readLevel_flat : ch_wsX10_readLevel.flatten = wsX10_readLevel := by
  simp only [ch_wsX10_readLevel, wsX10_readLevel, List.flatten_cons, List.flatten_nil, List.append_nil, List.nil_append, List.cons_append, List.append_assoc]
set_option maxRecDepth 20000 in
theorem gd_wsX10_readLevel : wsX10_readLevel.all goodWord = true := by decide +kernel
noncomputable def ch_wsX10_readOperand : List (List Cond) := [([.code yX10_readOperand cX10_readOperand 4 (some .boolean)] : List Cond), wsX10_readOperand_r1, wsX10_readOperand_r2, wsX10_readOperand_r3, wsX10_readOperand_r4, wsX10_readOperand_r5, wsX10_readOperand_r6, wsX100]
set_option maxRecDepth 20000 in
theorem ch_wsX10_readOperand_flat : ch_wsX10_readOperand.flatten = wsX10_readOperand := by
  simp only [ch_wsX10_readOperand, wsX10_readOperand, List.flatten_cons, List.flatten_nil, List.append_nil, List.nil_append, List.cons_append, List.append_assoc]
set_option maxRecDepth 20000 in
theorem gd_wsX10_readOperand : wsX10_readOperand.all goodWord = true := by decide +kernel
noncomputable def ch_wsJ0_indexOf_0f7a4 : List (List Cond) := [([.code yJ0_indexOf_0f7a4 cJ0_indexOf_0f7a4 2 (some .int)] : List Cond), wsJ0_indexOf_0f7a4_r1, wsJ0_indexOf_0f7a4_r2, wsJ0_indexOf_0f7a4_r3, wsJ0_indexOf_0f7a4_r4]
set_option maxRecDepth 20000 in
theorem ch_wsJ0_indexOf_0f7a4_flat : ch_wsJ0_indexOf_0f7a4.flatten = wsJ0_indexOf_0f7a4 := by
  simp only [ch_wsJ0_indexOf_0f7a4, wsJ0_indexOf_0f7a4, List.flatten_cons, List.flatten_nil, List.append_nil, List.nil_append, List.cons_append, List.append_assoc]
set_option maxRecDepth 20000 in
theorem gd_wsJ0_indexOf_0f7a4 : wsJ0_indexOf_0f7a4.all goodWord = true := by decide +kernel
noncomputable def ch_wsJ0_indexOf_7cf53 : List (List Cond) := [([.code yJ0_indexOf_7cf53 cJ0_indexOf_7cf53 3 (some .int)] : List Cond), wsJ0_indexOf_7cf53_r1, wsJ0_indexOf_7cf53_r2, wsJ0_indexOf_7cf53_r3, wsJ0_indexOf_7cf53_r4]
set_option maxRecDepth 20000 in
theorem ch_wsJ0_indexOf_7cf53_flat : ch_wsJ0_indexOf_7cf53.flatten = wsJ0_indexOf_7cf53 := by
  simp only [ch_wsJ0_indexOf_7cf53, wsJ0_indexOf_7cf53, List.flatten_cons, List.flatten_nil, List.append_nil, List.nil_append, List.cons_append, List.append_assoc]
set_option maxRecDepth 20000 in
theorem gd_wsJ0_indexOf_7cf53 : wsJ0_indexOf_7cf53.all goodWord = true := by decide +kernel
set_option maxRecDepth 20000 in
theorem SX9_init : ∀ p : Nat, gb cX9_init p = segF [[42, 183, 0, 3, 42, 16, 6, 188, 10, 181, 0, 9, 42, 16, 6, 188, 10, 181, 0, 15, 42, 16, 6, 188, 10, 181, 0, 18, 42, 16, 6, 3, 197, 0, 21, 2, 181, 0, 23, 42, 16, 6, 188, 10, 181, 0, 26, 42, 16, 40, 188, 10, 181, 0, 29, 177]] p := seg_gb (S := [[42, 183, 0, 3, 42, 16, 6, 188, 10, 181, 0, 9, 42, 16, 6, 188, 10, 181, 0, 15, 42, 16, 6, 188, 10, 181, 0, 18, 42, 16, 6, 3, 197, 0, 21, 2, 181, 0, 23, 42, 16, 6, 188, 10, 181, 0, 26, 42, 16, 40, 188, 10, 181, 0, 29, 177]]) (by decide +kernel) (by decide +kernel)
set_option maxRecDepth 20000 in
theorem BX9_init_1_0 : ∀ q ∈ ([(0, 42), (4, 42), (12, 42), (20, 42), (28, 42), (31, 3), (39, 42), (47, 42), (55, 177)] : List (Nat × Nat)), gb cX9_init q.1 = some q.2 := seg_1 SX9_init _ (by decide +kernel)
set_option maxRecDepth 20000 in
theorem BX9_init_2_0 : ∀ q ∈ ([(5, 16, 6), (7, 188, 10), (13, 16, 6), (15, 188, 10), (21, 16, 6), (23, 188, 10), (29, 16, 6), (40, 16, 6), (42, 188, 10), (48, 16, 40), (50, 188, 10)] : List (Nat × Nat × Nat)), gb cX9_init q.1 = some q.2.1 ∧ gb cX9_init (q.1 + 1) = some q.2.2 := seg_2 SX9_init _ (by decide +kernel)
set_option maxRecDepth 20000 in
theorem BX9_init_3_0 : ∀ q ∈ ([(1, 183, 0, 3), (9, 181, 0, 9), (17, 181, 0, 15), (25, 181, 0, 18), (36, 181, 0, 23), (44, 181, 0, 26), (52, 181, 0, 29)] : List (Nat × Nat × Nat × Nat)), gb cX9_init q.1 = some q.2.1 ∧ gb cX9_init (q.1 + 1) = some q.2.2.1 ∧ gb cX9_init (q.1 + 2) = some q.2.2.2 := seg_3 SX9_init _ (by decide +kernel)
theorem dX9_init_0 : decode cX9_init 0 = .ok (.aload_n 0, 1) := dk42 (BX9_init_1_0 (0, 42) (List.mem_of_getElem? (i := 0) rfl))
theorem dX9_init_1 : decode cX9_init 1 = .ok (.invokespecial 3, 3) := dk183 0 3 (BX9_init_3_0 (1, 183, 0, 3) (List.mem_of_getElem? (i := 0) rfl))
theorem dX9_init_4 : decode cX9_init 4 = .ok (.aload_n 0, 1) := dk42 (BX9_init_1_0 (4, 42) (List.mem_of_getElem? (i := 1) rfl))
theorem dX9_init_5 : decode cX9_init 5 = .ok (.bipush 6, 2) := dk16 6 (BX9_init_2_0 (5, 16, 6) (List.mem_of_getElem? (i := 0) rfl))
theorem dX9_init_7 : decode cX9_init 7 = .ok (.newarray .int, 2) := dk188_10 (BX9_init_2_0 (7, 188, 10) (List.mem_of_getElem? (i := 1) rfl))
theorem dX9_init_9 : decode cX9_init 9 = .ok (.putfield 9, 3) := dk181 0 9 (BX9_init_3_0 (9, 181, 0, 9) (List.mem_of_getElem? (i := 1) rfl))
theorem dX9_init_12 : decode cX9_init 12 = .ok (.aload_n 0, 1) := dk42 (BX9_init_1_0 (12, 42) (List.mem_of_getElem? (i := 2) rfl))
theorem dX9_init_13 : decode cX9_init 13 = .ok (.bipush 6, 2) := dk16 6 (BX9_init_2_0 (13, 16, 6) (List.mem_of_getElem? (i := 2) rfl))
theorem dX9_init_15 : decode cX9_init 15 = .ok (.newarray .int, 2) := dk188_10 (BX9_init_2_0 (15, 188, 10) (List.mem_of_getElem? (i := 3) rfl))
theorem dX9_init_17 : decode cX9_init 17 = .ok (.putfield 15, 3) := dk181 0 15 (BX9_init_3_0 (17, 181, 0, 15) (List.mem_of_getElem? (i := 2) rfl))
theorem dX9_init_20 : decode cX9_init 20 = .ok (.aload_n 0, 1) := dk42 (BX9_init_1_0 (20, 42) (List.mem_of_getElem? (i := 3) rfl))
theorem dX9_init_21 : decode cX9_init 21 = .ok (.bipush 6, 2) := dk16 6 (BX9_init_2_0 (21, 16, 6) (List.mem_of_getElem? (i := 4) rfl))
theorem dX9_init_23 : decode cX9_init 23 = .ok (.newarray .int, 2) := dk188_10 (BX9_init_2_0 (23, 188, 10) (List.mem_of_getElem? (i := 5) rfl))
theorem dX9_init_25 : decode cX9_init 25 = .ok (.putfield 18, 3) := dk181 0 18 (BX9_init_3_0 (25, 181, 0, 18) (List.mem_of_getElem? (i := 3) rfl))
theorem dX9_init_28 : decode cX9_init 28 = .ok (.aload_n 0, 1) := dk42 (BX9_init_1_0 (28, 42) (List.mem_of_getElem? (i := 4) rfl))
theorem dX9_init_29 : decode cX9_init 29 = .ok (.bipush 6, 2) := dk16 6 (BX9_init_2_0 (29, 16, 6) (List.mem_of_getElem? (i := 6) rfl))
theorem dX9_init_31 : decode cX9_init 31 = .ok (.iconst 0, 1) := dk3 (BX9_init_1_0 (31, 3) (List.mem_of_getElem? (i := 5) rfl))
theorem dX9_init_32 : decode cX9_init 32 = .ok (.multianewarray 21 2, 4) := by decide +kernel
theorem dX9_init_36 : decode cX9_init 36 = .ok (.putfield 23, 3) := dk181 0 23 (BX9_init_3_0 (36, 181, 0, 23) (List.mem_of_getElem? (i := 4) rfl))
theorem dX9_init_39 : decode cX9_init 39 = .ok (.aload_n 0, 1) := dk42 (BX9_init_1_0 (39, 42) (List.mem_of_getElem? (i := 6) rfl))
theorem dX9_init_40 : decode cX9_init 40 = .ok (.bipush 6, 2) := dk16 6 (BX9_init_2_0 (40, 16, 6) (List.mem_of_getElem? (i := 7) rfl))
theorem dX9_init_42 : decode cX9_init 42 = .ok (.newarray .int, 2) := dk188_10 (BX9_init_2_0 (42, 188, 10) (List.mem_of_getElem? (i := 8) rfl))
theorem dX9_init_44 : decode cX9_init 44 = .ok (.putfield 26, 3) := dk181 0 26 (BX9_init_3_0 (44, 181, 0, 26) (List.mem_of_getElem? (i := 5) rfl))
theorem dX9_init_47 : decode cX9_init 47 = .ok (.aload_n 0, 1) := dk42 (BX9_init_1_0 (47, 42) (List.mem_of_getElem? (i := 7) rfl))
theorem dX9_init_48 : decode cX9_init 48 = .ok (.bipush 40, 2) := dk16 40 (BX9_init_2_0 (48, 16, 40) (List.mem_of_getElem? (i := 9) rfl))
theorem dX9_init_50 : decode cX9_init 50 = .ok (.newarray .int, 2) := dk188_10 (BX9_init_2_0 (50, 188, 10) (List.mem_of_getElem? (i := 10) rfl))
theorem dX9_init_52 : decode cX9_init 52 = .ok (.putfield 29, 3) := dk181 0 29 (BX9_init_3_0 (52, 181, 0, 29) (List.mem_of_getElem? (i := 6) rfl))
theorem dX9_init_55 : decode cX9_init 55 = .ok (.return_, 1) := dk177 (BX9_init_1_0 (55, 177) (List.mem_of_getElem? (i := 8) rfl))
set_option maxRecDepth 20000 in
theorem ggX9_isStory_X11_within : GoodIn wsX9_isStory wsX11_within := goodIn_r _ [4] rfl (by decide +kernel)
set_option maxRecDepth 20000 in
theorem gX9_isStory_X11_within_n36 : GoodIn wsX9_isStory (wsX11_within) := ggX9_isStory_X11_within
set_option maxRecDepth 20000 in
theorem SX9_isStory : ∀ p : Nat, gb cX9_isStory p = segF [[27, 3, 42, 180, 0, 32, 4, 100, 184, 0, 36, 172]] p := seg_gb (S := [[27, 3, 42, 180, 0, 32, 4, 100, 184, 0, 36, 172]]) (by decide +kernel) (by decide +kernel)
set_option maxRecDepth 20000 in
theorem BX9_isStory_1_0 : ∀ q ∈ ([(0, 27), (1, 3), (2, 42), (6, 4), (7, 100), (11, 172)] : List (Nat × Nat)), gb cX9_isStory q.1 = some q.2 := seg_1 SX9_isStory _ (by decide +kernel)
set_option maxRecDepth 20000 in
theorem BX9_isStory_3_0 : ∀ q ∈ ([(3, 180, 0, 32), (8, 184, 0, 36)] : List (Nat × Nat × Nat × Nat)), gb cX9_isStory q.1 = some q.2.1 ∧ gb cX9_isStory (q.1 + 1) = some q.2.2.1 ∧ gb cX9_isStory (q.1 + 2) = some q.2.2.2 := seg_3 SX9_isStory _ (by decide +kernel)
theorem dX9_isStory_0 : decode cX9_isStory 0 = .ok (.iload_n 1, 1) := dk27 (BX9_isStory_1_0 (0, 27) (List.mem_of_getElem? (i := 0) rfl))
theorem dX9_isStory_1 : decode cX9_isStory 1 = .ok (.iconst 0, 1) := dk3 (BX9_isStory_1_0 (1, 3) (List.mem_of_getElem? (i := 1) rfl))
theorem dX9_isStory_2 : decode cX9_isStory 2 = .ok (.aload_n 0, 1) := dk42 (BX9_isStory_1_0 (2, 42) (List.mem_of_getElem? (i := 2) rfl))
theorem dX9_isStory_3 : decode cX9_isStory 3 = .ok (.getfield 32, 3) := dk180 0 32 (BX9_isStory_3_0 (3, 180, 0, 32) (List.mem_of_getElem? (i := 0) rfl))
theorem dX9_isStory_6 : decode cX9_isStory 6 = .ok (.iconst 1, 1) := dk4 (BX9_isStory_1_0 (6, 4) (List.mem_of_getElem? (i := 3) rfl))
theorem dX9_isStory_7 : decode cX9_isStory 7 = .ok (.isub, 1) := dk100 (BX9_isStory_1_0 (7, 100) (List.mem_of_getElem? (i := 4) rfl))
theorem dX9_isStory_8 : decode cX9_isStory 8 = .ok (.invokestatic 36, 3) := dk184 0 36 (BX9_isStory_3_0 (8, 184, 0, 36) (List.mem_of_getElem? (i := 1) rfl))
theorem dX9_isStory_11 : decode cX9_isStory 11 = .ok (.ireturn, 1) := dk172 (BX9_isStory_1_0 (11, 172) (List.mem_of_getElem? (i := 5) rfl))
set_option maxRecDepth 20000 in
theorem SX9_isFull : ∀ p : Nat, gb cX9_isFull p = segF [[42, 180, 0, 32, 42, 180, 0, 9, 190, 160, 0, 7, 4, 167, 0, 4, 3, 172]] p := seg_gb (S := [[42, 180, 0, 32, 42, 180, 0, 9, 190, 160, 0, 7, 4, 167, 0, 4, 3, 172]]) (by decide +kernel) (by decide +kernel)
set_option maxRecDepth 20000 in
theorem BX9_isFull_1_0 : ∀ q ∈ ([(0, 42), (4, 42), (8, 190), (12, 4), (16, 3), (17, 172)] : List (Nat × Nat)), gb cX9_isFull q.1 = some q.2 := seg_1 SX9_isFull _ (by decide +kernel)
set_option maxRecDepth 20000 in
theorem BX9_isFull_3_0 : ∀ q ∈ ([(1, 180, 0, 32), (5, 180, 0, 9), (9, 160, 0, 7), (13, 167, 0, 4)] : List (Nat × Nat × Nat × Nat)), gb cX9_isFull q.1 = some q.2.1 ∧ gb cX9_isFull (q.1 + 1) = some q.2.2.1 ∧ gb cX9_isFull (q.1 + 2) = some q.2.2.2 := seg_3 SX9_isFull _ (by decide +kernel)
theorem dX9_isFull_0 : decode cX9_isFull 0 = .ok (.aload_n 0, 1) := dk42 (BX9_isFull_1_0 (0, 42) (List.mem_of_getElem? (i := 0) rfl))
theorem dX9_isFull_1 : decode cX9_isFull 1 = .ok (.getfield 32, 3) := dk180 0 32 (BX9_isFull_3_0 (1, 180, 0, 32) (List.mem_of_getElem? (i := 0) rfl))
theorem dX9_isFull_4 : decode cX9_isFull 4 = .ok (.aload_n 0, 1) := dk42 (BX9_isFull_1_0 (4, 42) (List.mem_of_getElem? (i := 1) rfl))
theorem dX9_isFull_5 : decode cX9_isFull 5 = .ok (.getfield 9, 3) := dk180 0 9 (BX9_isFull_3_0 (5, 180, 0, 9) (List.mem_of_getElem? (i := 1) rfl))
theorem dX9_isFull_8 : decode cX9_isFull 8 = .ok (.arraylength, 1) := dk190 (BX9_isFull_1_0 (8, 190) (List.mem_of_getElem? (i := 2) rfl))
theorem dX9_isFull_9 : decode cX9_isFull 9 = .ok (.if_icmp .ne 7, 3) := dk160 0 7 (BX9_isFull_3_0 (9, 160, 0, 7) (List.mem_of_getElem? (i := 2) rfl))
theorem dX9_isFull_12 : decode cX9_isFull 12 = .ok (.iconst 1, 1) := dk4 (BX9_isFull_1_0 (12, 4) (List.mem_of_getElem? (i := 3) rfl))
theorem dX9_isFull_13 : decode cX9_isFull 13 = .ok (.goto 4, 3) := dk167 0 4 (BX9_isFull_3_0 (13, 167, 0, 4) (List.mem_of_getElem? (i := 3) rfl))
theorem dX9_isFull_16 : decode cX9_isFull 16 = .ok (.iconst 0, 1) := dk3 (BX9_isFull_1_0 (16, 3) (List.mem_of_getElem? (i := 4) rfl))
theorem dX9_isFull_17 : decode cX9_isFull 17 = .ok (.ireturn, 1) := dk172 (BX9_isFull_1_0 (17, 172) (List.mem_of_getElem? (i := 5) rfl))
set_option maxRecDepth 20000 in
theorem ggX9_add_X9_isFull : GoodIn wsX9_add wsX9_isFull := goodIn_r _ [10, 2, 1, 11, 12, 13, 14, 15, 16, 17] rfl (by decide +kernel)
set_option maxRecDepth 20000 in
theorem gX9_add_X9_isFull : GoodIn wsX9_add (wsV RX9 40 RX9 yX9_isFull wsX9_isFull) := goodIn_app (goodIn_r _ [6, 7, 8, 9] rfl (by decide +kernel)) ggX9_add_X9_isFull
set_option maxRecDepth 20000 in
theorem SX9_add : ∀ p : Nat, gb cX9_add p = segF [[42, 182, 0, 40, 154, 0, 10, 21, 4, 45, 190, 164, 0, 6, 16, 253, 172, 42, 180, 0, 9, 42, 180, 0, 32, 27, 79, 42, 180, 0, 15, 42, 180, 0, 32, 28, 79, 42, 180, 0, 23, 42, 180, 0, 32, 45, 83, 42, 180, 0, 26, 42, 180, 0, 32, 21, 4, 79, 42, 89, 180, 0, 32, 90], [4, 96, 181, 0, 32, 172]] p := seg_gb (S := [[42, 182, 0, 40, 154, 0, 10, 21, 4, 45, 190, 164, 0, 6, 16, 253, 172, 42, 180, 0, 9, 42, 180, 0, 32, 27, 79, 42, 180, 0, 15, 42, 180, 0, 32, 28, 79, 42, 180, 0, 23, 42, 180, 0, 32, 45, 83, 42, 180, 0, 26, 42, 180, 0, 32, 21, 4, 79, 42, 89, 180, 0, 32, 90], [4, 96, 181, 0, 32, 172]]) (by decide +kernel) (by decide +kernel)
set_option maxRecDepth 20000 in
theorem BX9_add_1_0 : ∀ q ∈ ([(0, 42), (9, 45), (10, 190), (16, 172), (17, 42), (21, 42), (25, 27), (26, 79), (27, 42), (31, 42), (35, 28), (36, 79)] : List (Nat × Nat)), gb cX9_add q.1 = some q.2 := seg_1 SX9_add _ (by decide +kernel)
set_option maxRecDepth 20000 in
theorem BX9_add_1_1 : ∀ q ∈ ([(37, 42), (41, 42), (45, 45), (46, 83), (47, 42), (51, 42), (57, 79), (58, 42), (59, 89), (63, 90), (64, 4), (65, 96)] : List (Nat × Nat)), gb cX9_add q.1 = some q.2 := seg_1 SX9_add _ (by decide +kernel)
set_option maxRecDepth 20000 in
theorem BX9_add_1_2 : ∀ q ∈ ([(69, 172)] : List (Nat × Nat)), gb cX9_add q.1 = some q.2 := seg_1 SX9_add _ (by decide +kernel)
set_option maxRecDepth 20000 in
theorem BX9_add_2_0 : ∀ q ∈ ([(7, 21, 4), (14, 16, 253), (55, 21, 4)] : List (Nat × Nat × Nat)), gb cX9_add q.1 = some q.2.1 ∧ gb cX9_add (q.1 + 1) = some q.2.2 := seg_2 SX9_add _ (by decide +kernel)
set_option maxRecDepth 20000 in
theorem BX9_add_3_0 : ∀ q ∈ ([(1, 182, 0, 40), (4, 154, 0, 10), (11, 164, 0, 6), (18, 180, 0, 9), (22, 180, 0, 32), (28, 180, 0, 15), (32, 180, 0, 32), (38, 180, 0, 23), (42, 180, 0, 32), (48, 180, 0, 26), (52, 180, 0, 32), (60, 180, 0, 32)] : List (Nat × Nat × Nat × Nat)), gb cX9_add q.1 = some q.2.1 ∧ gb cX9_add (q.1 + 1) = some q.2.2.1 ∧ gb cX9_add (q.1 + 2) = some q.2.2.2 := seg_3 SX9_add _ (by decide +kernel)
set_option maxRecDepth 20000 in
theorem BX9_add_3_1 : ∀ q ∈ ([(66, 181, 0, 32)] : List (Nat × Nat × Nat × Nat)), gb cX9_add q.1 = some q.2.1 ∧ gb cX9_add (q.1 + 1) = some q.2.2.1 ∧ gb cX9_add (q.1 + 2) = some q.2.2.2 := seg_3 SX9_add _ (by decide +kernel)
theorem dX9_add_0 : decode cX9_add 0 = .ok (.aload_n 0, 1) := dk42 (BX9_add_1_0 (0, 42) (List.mem_of_getElem? (i := 0) rfl))
theorem dX9_add_1 : decode cX9_add 1 = .ok (.invokevirtual 40, 3) := dk182 0 40 (BX9_add_3_0 (1, 182, 0, 40) (List.mem_of_getElem? (i := 0) rfl))
theorem dX9_add_4 : decode cX9_add 4 = .ok (.ifCond .ne 10, 3) := dk154 0 10 (BX9_add_3_0 (4, 154, 0, 10) (List.mem_of_getElem? (i := 1) rfl))
theorem dX9_add_7 : decode cX9_add 7 = .ok (.iload 4, 2) := dk21 4 (BX9_add_2_0 (7, 21, 4) (List.mem_of_getElem? (i := 0) rfl))
theorem dX9_add_9 : decode cX9_add 9 = .ok (.aload_n 3, 1) := dk45 (BX9_add_1_0 (9, 45) (List.mem_of_getElem? (i := 1) rfl))
theorem dX9_add_10 : decode cX9_add 10 = .ok (.arraylength, 1) := dk190 (BX9_add_1_0 (10, 190) (List.mem_of_getElem? (i := 2) rfl))
theorem dX9_add_11 : decode cX9_add 11 = .ok (.if_icmp .le 6, 3) := dk164 0 6 (BX9_add_3_0 (11, 164, 0, 6) (List.mem_of_getElem? (i := 2) rfl))
theorem dX9_add_14 : decode cX9_add 14 = .ok (.bipush (-3), 2) := dk16 253 (BX9_add_2_0 (14, 16, 253) (List.mem_of_getElem? (i := 1) rfl))
theorem dX9_add_16 : decode cX9_add 16 = .ok (.ireturn, 1) := dk172 (BX9_add_1_0 (16, 172) (List.mem_of_getElem? (i := 3) rfl))
theorem dX9_add_17 : decode cX9_add 17 = .ok (.aload_n 0, 1) := dk42 (BX9_add_1_0 (17, 42) (List.mem_of_getElem? (i := 4) rfl))
theorem dX9_add_18 : decode cX9_add 18 = .ok (.getfield 9, 3) := dk180 0 9 (BX9_add_3_0 (18, 180, 0, 9) (List.mem_of_getElem? (i := 3) rfl))
theorem dX9_add_21 : decode cX9_add 21 = .ok (.aload_n 0, 1) := dk42 (BX9_add_1_0 (21, 42) (List.mem_of_getElem? (i := 5) rfl))
theorem dX9_add_22 : decode cX9_add 22 = .ok (.getfield 32, 3) := dk180 0 32 (BX9_add_3_0 (22, 180, 0, 32) (List.mem_of_getElem? (i := 4) rfl))
theorem dX9_add_25 : decode cX9_add 25 = .ok (.iload_n 1, 1) := dk27 (BX9_add_1_0 (25, 27) (List.mem_of_getElem? (i := 6) rfl))
theorem dX9_add_26 : decode cX9_add 26 = .ok (.iastore, 1) := dk79 (BX9_add_1_0 (26, 79) (List.mem_of_getElem? (i := 7) rfl))
theorem dX9_add_27 : decode cX9_add 27 = .ok (.aload_n 0, 1) := dk42 (BX9_add_1_0 (27, 42) (List.mem_of_getElem? (i := 8) rfl))
theorem dX9_add_28 : decode cX9_add 28 = .ok (.getfield 15, 3) := dk180 0 15 (BX9_add_3_0 (28, 180, 0, 15) (List.mem_of_getElem? (i := 5) rfl))
theorem dX9_add_31 : decode cX9_add 31 = .ok (.aload_n 0, 1) := dk42 (BX9_add_1_0 (31, 42) (List.mem_of_getElem? (i := 9) rfl))
theorem dX9_add_32 : decode cX9_add 32 = .ok (.getfield 32, 3) := dk180 0 32 (BX9_add_3_0 (32, 180, 0, 32) (List.mem_of_getElem? (i := 6) rfl))
theorem dX9_add_35 : decode cX9_add 35 = .ok (.iload_n 2, 1) := dk28 (BX9_add_1_0 (35, 28) (List.mem_of_getElem? (i := 10) rfl))
theorem dX9_add_36 : decode cX9_add 36 = .ok (.iastore, 1) := dk79 (BX9_add_1_0 (36, 79) (List.mem_of_getElem? (i := 11) rfl))
theorem dX9_add_37 : decode cX9_add 37 = .ok (.aload_n 0, 1) := dk42 (BX9_add_1_1 (37, 42) (List.mem_of_getElem? (i := 0) rfl))
theorem dX9_add_38 : decode cX9_add 38 = .ok (.getfield 23, 3) := dk180 0 23 (BX9_add_3_0 (38, 180, 0, 23) (List.mem_of_getElem? (i := 7) rfl))
theorem dX9_add_41 : decode cX9_add 41 = .ok (.aload_n 0, 1) := dk42 (BX9_add_1_1 (41, 42) (List.mem_of_getElem? (i := 1) rfl))
theorem dX9_add_42 : decode cX9_add 42 = .ok (.getfield 32, 3) := dk180 0 32 (BX9_add_3_0 (42, 180, 0, 32) (List.mem_of_getElem? (i := 8) rfl))
theorem dX9_add_45 : decode cX9_add 45 = .ok (.aload_n 3, 1) := dk45 (BX9_add_1_1 (45, 45) (List.mem_of_getElem? (i := 2) rfl))
theorem dX9_add_46 : decode cX9_add 46 = .ok (.aastore, 1) := dk83 (BX9_add_1_1 (46, 83) (List.mem_of_getElem? (i := 3) rfl))
theorem dX9_add_47 : decode cX9_add 47 = .ok (.aload_n 0, 1) := dk42 (BX9_add_1_1 (47, 42) (List.mem_of_getElem? (i := 4) rfl))
theorem dX9_add_48 : decode cX9_add 48 = .ok (.getfield 26, 3) := dk180 0 26 (BX9_add_3_0 (48, 180, 0, 26) (List.mem_of_getElem? (i := 9) rfl))
theorem dX9_add_51 : decode cX9_add 51 = .ok (.aload_n 0, 1) := dk42 (BX9_add_1_1 (51, 42) (List.mem_of_getElem? (i := 5) rfl))
theorem dX9_add_52 : decode cX9_add 52 = .ok (.getfield 32, 3) := dk180 0 32 (BX9_add_3_0 (52, 180, 0, 32) (List.mem_of_getElem? (i := 10) rfl))
theorem dX9_add_55 : decode cX9_add 55 = .ok (.iload 4, 2) := dk21 4 (BX9_add_2_0 (55, 21, 4) (List.mem_of_getElem? (i := 2) rfl))
theorem dX9_add_57 : decode cX9_add 57 = .ok (.iastore, 1) := dk79 (BX9_add_1_1 (57, 79) (List.mem_of_getElem? (i := 6) rfl))
theorem dX9_add_58 : decode cX9_add 58 = .ok (.aload_n 0, 1) := dk42 (BX9_add_1_1 (58, 42) (List.mem_of_getElem? (i := 7) rfl))
theorem dX9_add_59 : decode cX9_add 59 = .ok (.dup, 1) := dk89 (BX9_add_1_1 (59, 89) (List.mem_of_getElem? (i := 8) rfl))
theorem dX9_add_60 : decode cX9_add 60 = .ok (.getfield 32, 3) := dk180 0 32 (BX9_add_3_0 (60, 180, 0, 32) (List.mem_of_getElem? (i := 11) rfl))
theorem dX9_add_63 : decode cX9_add 63 = .ok (.dup_x1, 1) := dk90 (BX9_add_1_1 (63, 90) (List.mem_of_getElem? (i := 9) rfl))
theorem dX9_add_64 : decode cX9_add 64 = .ok (.iconst 1, 1) := dk4 (BX9_add_1_1 (64, 4) (List.mem_of_getElem? (i := 10) rfl))
theorem dX9_add_65 : decode cX9_add 65 = .ok (.iadd, 1) := dk96 (BX9_add_1_1 (65, 96) (List.mem_of_getElem? (i := 11) rfl))
theorem dX9_add_66 : decode cX9_add 66 = .ok (.putfield 32, 3) := dk181 0 32 (BX9_add_3_1 (66, 181, 0, 32) (List.mem_of_getElem? (i := 0) rfl))
theorem dX9_add_69 : decode cX9_add 69 = .ok (.ireturn, 1) := dk172 (BX9_add_1_2 (69, 172) (List.mem_of_getElem? (i := 0) rfl))
set_option maxRecDepth 20000 in
theorem ggX9_weigh_X9_valueOf : GoodIn wsX9_weigh wsX9_valueOf := goodIn_r _ [15, 16, 17, 18, 19, 14, 20, 21, 22, 23, 24, 25, 26, 27, 28, 29, 30, 31, 32, 33] rfl (by decide +kernel)
set_option maxRecDepth 20000 in
theorem gX9_weigh_X9_valueOf : GoodIn wsX9_weigh (wsV RX9 44 RX9 yX9_valueOf wsX9_valueOf) := goodIn_app (goodIn_r _ [11, 12, 13, 14] rfl (by decide +kernel)) ggX9_weigh_X9_valueOf
set_option maxRecDepth 20000 in
theorem SX9_weigh : ∀ p : Nat, gb cX9_weigh p = segF [[42, 180, 0, 18, 27, 3, 42, 42, 180, 0, 23, 27, 50, 42, 180, 0, 26, 27, 46, 44, 182, 0, 44, 17, 39, 15, 184, 0, 48, 184, 0, 54, 79, 177]] p := seg_gb (S := [[42, 180, 0, 18, 27, 3, 42, 42, 180, 0, 23, 27, 50, 42, 180, 0, 26, 27, 46, 44, 182, 0, 44, 17, 39, 15, 184, 0, 48, 184, 0, 54, 79, 177]]) (by decide +kernel) (by decide +kernel)
set_option maxRecDepth 20000 in
theorem BX9_weigh_1_0 : ∀ q ∈ ([(0, 42), (4, 27), (5, 3), (6, 42), (7, 42), (11, 27), (12, 50), (13, 42), (17, 27), (18, 46), (19, 44), (32, 79)] : List (Nat × Nat)), gb cX9_weigh q.1 = some q.2 := seg_1 SX9_weigh _ (by decide +kernel)
set_option maxRecDepth 20000 in
theorem BX9_weigh_1_1 : ∀ q ∈ ([(33, 177)] : List (Nat × Nat)), gb cX9_weigh q.1 = some q.2 := seg_1 SX9_weigh _ (by decide +kernel)
set_option maxRecDepth 20000 in
theorem BX9_weigh_3_0 : ∀ q ∈ ([(1, 180, 0, 18), (8, 180, 0, 23), (14, 180, 0, 26), (20, 182, 0, 44), (23, 17, 39, 15), (26, 184, 0, 48), (29, 184, 0, 54)] : List (Nat × Nat × Nat × Nat)), gb cX9_weigh q.1 = some q.2.1 ∧ gb cX9_weigh (q.1 + 1) = some q.2.2.1 ∧ gb cX9_weigh (q.1 + 2) = some q.2.2.2 := seg_3 SX9_weigh _ (by decide +kernel)
theorem dX9_weigh_0 : decode cX9_weigh 0 = .ok (.aload_n 0, 1) := dk42 (BX9_weigh_1_0 (0, 42) (List.mem_of_getElem? (i := 0) rfl))
theorem dX9_weigh_1 : decode cX9_weigh 1 = .ok (.getfield 18, 3) := dk180 0 18 (BX9_weigh_3_0 (1, 180, 0, 18) (List.mem_of_getElem? (i := 0) rfl))
theorem dX9_weigh_4 : decode cX9_weigh 4 = .ok (.iload_n 1, 1) := dk27 (BX9_weigh_1_0 (4, 27) (List.mem_of_getElem? (i := 1) rfl))
theorem dX9_weigh_5 : decode cX9_weigh 5 = .ok (.iconst 0, 1) := dk3 (BX9_weigh_1_0 (5, 3) (List.mem_of_getElem? (i := 2) rfl))
theorem dX9_weigh_6 : decode cX9_weigh 6 = .ok (.aload_n 0, 1) := dk42 (BX9_weigh_1_0 (6, 42) (List.mem_of_getElem? (i := 3) rfl))
theorem dX9_weigh_7 : decode cX9_weigh 7 = .ok (.aload_n 0, 1) := dk42 (BX9_weigh_1_0 (7, 42) (List.mem_of_getElem? (i := 4) rfl))
theorem dX9_weigh_8 : decode cX9_weigh 8 = .ok (.getfield 23, 3) := dk180 0 23 (BX9_weigh_3_0 (8, 180, 0, 23) (List.mem_of_getElem? (i := 1) rfl))
theorem dX9_weigh_11 : decode cX9_weigh 11 = .ok (.iload_n 1, 1) := dk27 (BX9_weigh_1_0 (11, 27) (List.mem_of_getElem? (i := 5) rfl))
theorem dX9_weigh_12 : decode cX9_weigh 12 = .ok (.aaload, 1) := dk50 (BX9_weigh_1_0 (12, 50) (List.mem_of_getElem? (i := 6) rfl))
theorem dX9_weigh_13 : decode cX9_weigh 13 = .ok (.aload_n 0, 1) := dk42 (BX9_weigh_1_0 (13, 42) (List.mem_of_getElem? (i := 7) rfl))
theorem dX9_weigh_14 : decode cX9_weigh 14 = .ok (.getfield 26, 3) := dk180 0 26 (BX9_weigh_3_0 (14, 180, 0, 26) (List.mem_of_getElem? (i := 2) rfl))
theorem dX9_weigh_17 : decode cX9_weigh 17 = .ok (.iload_n 1, 1) := dk27 (BX9_weigh_1_0 (17, 27) (List.mem_of_getElem? (i := 8) rfl))
theorem dX9_weigh_18 : decode cX9_weigh 18 = .ok (.iaload, 1) := dk46 (BX9_weigh_1_0 (18, 46) (List.mem_of_getElem? (i := 9) rfl))
theorem dX9_weigh_19 : decode cX9_weigh 19 = .ok (.aload_n 2, 1) := dk44 (BX9_weigh_1_0 (19, 44) (List.mem_of_getElem? (i := 10) rfl))
theorem dX9_weigh_20 : decode cX9_weigh 20 = .ok (.invokevirtual 44, 3) := dk182 0 44 (BX9_weigh_3_0 (20, 182, 0, 44) (List.mem_of_getElem? (i := 3) rfl))
theorem dX9_weigh_23 : decode cX9_weigh 23 = .ok (.sipush 9999, 3) := dk17 39 15 (BX9_weigh_3_0 (23, 17, 39, 15) (List.mem_of_getElem? (i := 4) rfl))
theorem dX9_weigh_26 : decode cX9_weigh 26 = .ok (.invokestatic 48, 3) := dk184 0 48 (BX9_weigh_3_0 (26, 184, 0, 48) (List.mem_of_getElem? (i := 5) rfl))
theorem dX9_weigh_29 : decode cX9_weigh 29 = .ok (.invokestatic 54, 3) := dk184 0 54 (BX9_weigh_3_0 (29, 184, 0, 54) (List.mem_of_getElem? (i := 6) rfl))
theorem dX9_weigh_32 : decode cX9_weigh 32 = .ok (.iastore, 1) := dk79 (BX9_weigh_1_0 (32, 79) (List.mem_of_getElem? (i := 11) rfl))
theorem dX9_weigh_33 : decode cX9_weigh 33 = .ok (.return_, 1) := dk177 (BX9_weigh_1_1 (33, 177) (List.mem_of_getElem? (i := 0) rfl))
set_option maxRecDepth 20000 in
theorem ggX9_valueOf_X9_work : GoodIn wsX9_valueOf wsX9_work := goodIn_r _ [6, 1, 7, 8, 9, 10, 11, 5, 12, 13, 14, 15, 16, 17, 18, 19] rfl (by decide +kernel)
set_option maxRecDepth 20000 in
theorem gX9_valueOf_X9_work : GoodIn wsX9_valueOf (wsV RX9 57 RX9 yX9_work wsX9_work) := goodIn_app (goodIn_r _ [2, 3, 4, 5] rfl (by decide +kernel)) ggX9_valueOf_X9_work
set_option maxRecDepth 20000 in
theorem SX9_valueOf : ∀ p : Nat, gb cX9_valueOf p = segF [[3, 54, 4, 3, 54, 5, 3, 54, 6, 21, 6, 28, 162, 0, 140, 43, 21, 6, 46, 54, 7, 21, 5, 153, 0, 20, 21, 7, 16, 197, 159, 0, 7, 4, 167, 0, 4, 3, 54, 5, 167, 0, 106, 21, 7, 16, 197, 160, 0, 10, 42, 180, 0, 29, 3, 46, 172, 21, 7, 16, 193, 160, 0, 25], [42, 180, 0, 29, 3, 46, 154, 0, 7, 4, 167, 0, 4, 3, 54, 5, 3, 54, 4, 167, 0, 63, 21, 7, 45, 190, 116, 161, 0, 44, 21, 4, 42, 180, 0, 29, 190, 160, 0, 5, 3, 172, 42, 180, 0, 29, 21, 4, 21, 7, 155, 0, 8, 21, 7, 167, 0, 9, 45, 2, 21, 7, 100, 46], [79, 132, 4, 1, 167, 0, 14, 42, 21, 7, 116, 21, 4, 182, 0, 57, 54, 4, 132, 6, 1, 167, 255, 116, 3, 172]] p := seg_gb (S := [[3, 54, 4, 3, 54, 5, 3, 54, 6, 21, 6, 28, 162, 0, 140, 43, 21, 6, 46, 54, 7, 21, 5, 153, 0, 20, 21, 7, 16, 197, 159, 0, 7, 4, 167, 0, 4, 3, 54, 5, 167, 0, 106, 21, 7, 16, 197, 160, 0, 10, 42, 180, 0, 29, 3, 46, 172, 21, 7, 16, 193, 160, 0, 25], [42, 180, 0, 29, 3, 46, 154, 0, 7, 4, 167, 0, 4, 3, 54, 5, 3, 54, 4, 167, 0, 63, 21, 7, 45, 190, 116, 161, 0, 44, 21, 4, 42, 180, 0, 29, 190, 160, 0, 5, 3, 172, 42, 180, 0, 29, 21, 4, 21, 7, 155, 0, 8, 21, 7, 167, 0, 9, 45, 2, 21, 7, 100, 46], [79, 132, 4, 1, 167, 0, 14, 42, 21, 7, 116, 21, 4, 182, 0, 57, 54, 4, 132, 6, 1, 167, 255, 116, 3, 172]]) (by decide +kernel) (by decide +kernel)
set_option maxRecDepth 20000 in
theorem BX9_valueOf_1_0 : ∀ q ∈ ([(0, 3), (3, 3), (6, 3), (11, 28), (15, 43), (18, 46), (33, 4), (37, 3), (50, 42), (54, 3), (55, 46), (56, 172)] : List (Nat × Nat)), gb cX9_valueOf q.1 = some q.2 := seg_1 SX9_valueOf _ (by decide +kernel)
set_option maxRecDepth 20000 in
theorem BX9_valueOf_1_1 : ∀ q ∈ ([(64, 42), (68, 3), (69, 46), (73, 4), (77, 3), (80, 3), (88, 45), (89, 190), (90, 116), (96, 42), (100, 190), (104, 3)] : List (Nat × Nat)), gb cX9_valueOf q.1 = some q.2 := seg_1 SX9_valueOf _ (by decide +kernel)
set_option maxRecDepth 20000 in
theorem BX9_valueOf_1_2 : ∀ q ∈ ([(105, 172), (106, 42), (122, 45), (123, 2), (126, 100), (127, 46), (128, 79), (135, 42), (138, 116), (152, 3), (153, 172)] : List (Nat × Nat)), gb cX9_valueOf q.1 = some q.2 := seg_1 SX9_valueOf _ (by decide +kernel)
set_option maxRecDepth 20000 in
theorem BX9_valueOf_2_0 : ∀ q ∈ ([(1, 54, 4), (4, 54, 5), (7, 54, 6), (9, 21, 6), (16, 21, 6), (19, 54, 7), (21, 21, 5), (26, 21, 7), (28, 16, 197), (38, 54, 5), (43, 21, 7), (45, 16, 197)] : List (Nat × Nat × Nat)), gb cX9_valueOf q.1 = some q.2.1 ∧ gb cX9_valueOf (q.1 + 1) = some q.2.2 := seg_2 SX9_valueOf _ (by decide +kernel)
set_option maxRecDepth 20000 in
theorem BX9_valueOf_2_1 : ∀ q ∈ ([(57, 21, 7), (59, 16, 193), (78, 54, 5), (81, 54, 4), (86, 21, 7), (94, 21, 4), (110, 21, 4), (112, 21, 7), (117, 21, 7), (124, 21, 7), (136, 21, 7), (139, 21, 4)] : List (Nat × Nat × Nat)), gb cX9_valueOf q.1 = some q.2.1 ∧ gb cX9_valueOf (q.1 + 1) = some q.2.2 := seg_2 SX9_valueOf _ (by decide +kernel)
set_option maxRecDepth 20000 in
theorem BX9_valueOf_2_2 : ∀ q ∈ ([(144, 54, 4)] : List (Nat × Nat × Nat)), gb cX9_valueOf q.1 = some q.2.1 ∧ gb cX9_valueOf (q.1 + 1) = some q.2.2 := seg_2 SX9_valueOf _ (by decide +kernel)
set_option maxRecDepth 20000 in
theorem BX9_valueOf_3_0 : ∀ q ∈ ([(12, 162, 0, 140), (23, 153, 0, 20), (30, 159, 0, 7), (34, 167, 0, 4), (40, 167, 0, 106), (47, 160, 0, 10), (51, 180, 0, 29), (61, 160, 0, 25), (65, 180, 0, 29), (70, 154, 0, 7), (74, 167, 0, 4), (83, 167, 0, 63)] : List (Nat × Nat × Nat × Nat)), gb cX9_valueOf q.1 = some q.2.1 ∧ gb cX9_valueOf (q.1 + 1) = some q.2.2.1 ∧ gb cX9_valueOf (q.1 + 2) = some q.2.2.2 := seg_3 SX9_valueOf _ (by decide +kernel)
set_option maxRecDepth 20000 in
theorem BX9_valueOf_3_1 : ∀ q ∈ ([(91, 161, 0, 44), (97, 180, 0, 29), (101, 160, 0, 5), (107, 180, 0, 29), (114, 155, 0, 8), (119, 167, 0, 9), (129, 132, 4, 1), (132, 167, 0, 14), (141, 182, 0, 57), (146, 132, 6, 1), (149, 167, 255, 116)] : List (Nat × Nat × Nat × Nat)), gb cX9_valueOf q.1 = some q.2.1 ∧ gb cX9_valueOf (q.1 + 1) = some q.2.2.1 ∧ gb cX9_valueOf (q.1 + 2) = some q.2.2.2 := seg_3 SX9_valueOf _ (by decide +kernel)
theorem dX9_valueOf_0 : decode cX9_valueOf 0 = .ok (.iconst 0, 1) := dk3 (BX9_valueOf_1_0 (0, 3) (List.mem_of_getElem? (i := 0) rfl))
theorem dX9_valueOf_1 : decode cX9_valueOf 1 = .ok (.istore 4, 2) := dk54 4 (BX9_valueOf_2_0 (1, 54, 4) (List.mem_of_getElem? (i := 0) rfl))
theorem dX9_valueOf_3 : decode cX9_valueOf 3 = .ok (.iconst 0, 1) := dk3 (BX9_valueOf_1_0 (3, 3) (List.mem_of_getElem? (i := 1) rfl))
theorem dX9_valueOf_4 : decode cX9_valueOf 4 = .ok (.istore 5, 2) := dk54 5 (BX9_valueOf_2_0 (4, 54, 5) (List.mem_of_getElem? (i := 1) rfl))
theorem dX9_valueOf_6 : decode cX9_valueOf 6 = .ok (.iconst 0, 1) := dk3 (BX9_valueOf_1_0 (6, 3) (List.mem_of_getElem? (i := 2) rfl))
theorem dX9_valueOf_7 : decode cX9_valueOf 7 = .ok (.istore 6, 2) := dk54 6 (BX9_valueOf_2_0 (7, 54, 6) (List.mem_of_getElem? (i := 2) rfl))
theorem dX9_valueOf_9 : decode cX9_valueOf 9 = .ok (.iload 6, 2) := dk21 6 (BX9_valueOf_2_0 (9, 21, 6) (List.mem_of_getElem? (i := 3) rfl))
theorem dX9_valueOf_11 : decode cX9_valueOf 11 = .ok (.iload_n 2, 1) := dk28 (BX9_valueOf_1_0 (11, 28) (List.mem_of_getElem? (i := 3) rfl))
theorem dX9_valueOf_12 : decode cX9_valueOf 12 = .ok (.if_icmp .ge 140, 3) := dk162 0 140 (BX9_valueOf_3_0 (12, 162, 0, 140) (List.mem_of_getElem? (i := 0) rfl))
theorem dX9_valueOf_15 : decode cX9_valueOf 15 = .ok (.aload_n 1, 1) := dk43 (BX9_valueOf_1_0 (15, 43) (List.mem_of_getElem? (i := 4) rfl))
theorem dX9_valueOf_16 : decode cX9_valueOf 16 = .ok (.iload 6, 2) := dk21 6 (BX9_valueOf_2_0 (16, 21, 6) (List.mem_of_getElem? (i := 4) rfl))
theorem dX9_valueOf_18 : decode cX9_valueOf 18 = .ok (.iaload, 1) := dk46 (BX9_valueOf_1_0 (18, 46) (List.mem_of_getElem? (i := 5) rfl))
theorem dX9_valueOf_19 : decode cX9_valueOf 19 = .ok (.istore 7, 2) := dk54 7 (BX9_valueOf_2_0 (19, 54, 7) (List.mem_of_getElem? (i := 5) rfl))
theorem dX9_valueOf_21 : decode cX9_valueOf 21 = .ok (.iload 5, 2) := dk21 5 (BX9_valueOf_2_0 (21, 21, 5) (List.mem_of_getElem? (i := 6) rfl))
theorem dX9_valueOf_23 : decode cX9_valueOf 23 = .ok (.ifCond .eq 20, 3) := dk153 0 20 (BX9_valueOf_3_0 (23, 153, 0, 20) (List.mem_of_getElem? (i := 1) rfl))
theorem dX9_valueOf_26 : decode cX9_valueOf 26 = .ok (.iload 7, 2) := dk21 7 (BX9_valueOf_2_0 (26, 21, 7) (List.mem_of_getElem? (i := 7) rfl))
theorem dX9_valueOf_28 : decode cX9_valueOf 28 = .ok (.bipush (-59), 2) := dk16 197 (BX9_valueOf_2_0 (28, 16, 197) (List.mem_of_getElem? (i := 8) rfl))
theorem dX9_valueOf_30 : decode cX9_valueOf 30 = .ok (.if_icmp .eq 7, 3) := dk159 0 7 (BX9_valueOf_3_0 (30, 159, 0, 7) (List.mem_of_getElem? (i := 2) rfl))
theorem dX9_valueOf_33 : decode cX9_valueOf 33 = .ok (.iconst 1, 1) := dk4 (BX9_valueOf_1_0 (33, 4) (List.mem_of_getElem? (i := 6) rfl))
theorem dX9_valueOf_34 : decode cX9_valueOf 34 = .ok (.goto 4, 3) := dk167 0 4 (BX9_valueOf_3_0 (34, 167, 0, 4) (List.mem_of_getElem? (i := 3) rfl))
theorem dX9_valueOf_37 : decode cX9_valueOf 37 = .ok (.iconst 0, 1) := dk3 (BX9_valueOf_1_0 (37, 3) (List.mem_of_getElem? (i := 7) rfl))
theorem dX9_valueOf_38 : decode cX9_valueOf 38 = .ok (.istore 5, 2) := dk54 5 (BX9_valueOf_2_0 (38, 54, 5) (List.mem_of_getElem? (i := 9) rfl))
theorem dX9_valueOf_40 : decode cX9_valueOf 40 = .ok (.goto 106, 3) := dk167 0 106 (BX9_valueOf_3_0 (40, 167, 0, 106) (List.mem_of_getElem? (i := 4) rfl))
theorem dX9_valueOf_43 : decode cX9_valueOf 43 = .ok (.iload 7, 2) := dk21 7 (BX9_valueOf_2_0 (43, 21, 7) (List.mem_of_getElem? (i := 10) rfl))
theorem dX9_valueOf_45 : decode cX9_valueOf 45 = .ok (.bipush (-59), 2) := dk16 197 (BX9_valueOf_2_0 (45, 16, 197) (List.mem_of_getElem? (i := 11) rfl))
theorem dX9_valueOf_47 : decode cX9_valueOf 47 = .ok (.if_icmp .ne 10, 3) := dk160 0 10 (BX9_valueOf_3_0 (47, 160, 0, 10) (List.mem_of_getElem? (i := 5) rfl))
theorem dX9_valueOf_50 : decode cX9_valueOf 50 = .ok (.aload_n 0, 1) := dk42 (BX9_valueOf_1_0 (50, 42) (List.mem_of_getElem? (i := 8) rfl))
theorem dX9_valueOf_51 : decode cX9_valueOf 51 = .ok (.getfield 29, 3) := dk180 0 29 (BX9_valueOf_3_0 (51, 180, 0, 29) (List.mem_of_getElem? (i := 6) rfl))
theorem dX9_valueOf_54 : decode cX9_valueOf 54 = .ok (.iconst 0, 1) := dk3 (BX9_valueOf_1_0 (54, 3) (List.mem_of_getElem? (i := 9) rfl))
theorem dX9_valueOf_55 : decode cX9_valueOf 55 = .ok (.iaload, 1) := dk46 (BX9_valueOf_1_0 (55, 46) (List.mem_of_getElem? (i := 10) rfl))
theorem dX9_valueOf_56 : decode cX9_valueOf 56 = .ok (.ireturn, 1) := dk172 (BX9_valueOf_1_0 (56, 172) (List.mem_of_getElem? (i := 11) rfl))
theorem dX9_valueOf_57 : decode cX9_valueOf 57 = .ok (.iload 7, 2) := dk21 7 (BX9_valueOf_2_1 (57, 21, 7) (List.mem_of_getElem? (i := 0) rfl))
theorem dX9_valueOf_59 : decode cX9_valueOf 59 = .ok (.bipush (-63), 2) := dk16 193 (BX9_valueOf_2_1 (59, 16, 193) (List.mem_of_getElem? (i := 1) rfl))
theorem dX9_valueOf_61 : decode cX9_valueOf 61 = .ok (.if_icmp .ne 25, 3) := dk160 0 25 (BX9_valueOf_3_0 (61, 160, 0, 25) (List.mem_of_getElem? (i := 7) rfl))
theorem dX9_valueOf_64 : decode cX9_valueOf 64 = .ok (.aload_n 0, 1) := dk42 (BX9_valueOf_1_1 (64, 42) (List.mem_of_getElem? (i := 0) rfl))
theorem dX9_valueOf_65 : decode cX9_valueOf 65 = .ok (.getfield 29, 3) := dk180 0 29 (BX9_valueOf_3_0 (65, 180, 0, 29) (List.mem_of_getElem? (i := 8) rfl))
theorem dX9_valueOf_68 : decode cX9_valueOf 68 = .ok (.iconst 0, 1) := dk3 (BX9_valueOf_1_1 (68, 3) (List.mem_of_getElem? (i := 1) rfl))
theorem dX9_valueOf_69 : decode cX9_valueOf 69 = .ok (.iaload, 1) := dk46 (BX9_valueOf_1_1 (69, 46) (List.mem_of_getElem? (i := 2) rfl))
theorem dX9_valueOf_70 : decode cX9_valueOf 70 = .ok (.ifCond .ne 7, 3) := dk154 0 7 (BX9_valueOf_3_0 (70, 154, 0, 7) (List.mem_of_getElem? (i := 9) rfl))
theorem dX9_valueOf_73 : decode cX9_valueOf 73 = .ok (.iconst 1, 1) := dk4 (BX9_valueOf_1_1 (73, 4) (List.mem_of_getElem? (i := 3) rfl))
theorem dX9_valueOf_74 : decode cX9_valueOf 74 = .ok (.goto 4, 3) := dk167 0 4 (BX9_valueOf_3_0 (74, 167, 0, 4) (List.mem_of_getElem? (i := 10) rfl))
theorem dX9_valueOf_77 : decode cX9_valueOf 77 = .ok (.iconst 0, 1) := dk3 (BX9_valueOf_1_1 (77, 3) (List.mem_of_getElem? (i := 4) rfl))
theorem dX9_valueOf_78 : decode cX9_valueOf 78 = .ok (.istore 5, 2) := dk54 5 (BX9_valueOf_2_1 (78, 54, 5) (List.mem_of_getElem? (i := 2) rfl))
theorem dX9_valueOf_80 : decode cX9_valueOf 80 = .ok (.iconst 0, 1) := dk3 (BX9_valueOf_1_1 (80, 3) (List.mem_of_getElem? (i := 5) rfl))
theorem dX9_valueOf_81 : decode cX9_valueOf 81 = .ok (.istore 4, 2) := dk54 4 (BX9_valueOf_2_1 (81, 54, 4) (List.mem_of_getElem? (i := 3) rfl))
theorem dX9_valueOf_83 : decode cX9_valueOf 83 = .ok (.goto 63, 3) := dk167 0 63 (BX9_valueOf_3_0 (83, 167, 0, 63) (List.mem_of_getElem? (i := 11) rfl))
theorem dX9_valueOf_86 : decode cX9_valueOf 86 = .ok (.iload 7, 2) := dk21 7 (BX9_valueOf_2_1 (86, 21, 7) (List.mem_of_getElem? (i := 4) rfl))
theorem dX9_valueOf_88 : decode cX9_valueOf 88 = .ok (.aload_n 3, 1) := dk45 (BX9_valueOf_1_1 (88, 45) (List.mem_of_getElem? (i := 6) rfl))
theorem dX9_valueOf_89 : decode cX9_valueOf 89 = .ok (.arraylength, 1) := dk190 (BX9_valueOf_1_1 (89, 190) (List.mem_of_getElem? (i := 7) rfl))
theorem dX9_valueOf_90 : decode cX9_valueOf 90 = .ok (.ineg, 1) := dk116 (BX9_valueOf_1_1 (90, 116) (List.mem_of_getElem? (i := 8) rfl))
theorem dX9_valueOf_91 : decode cX9_valueOf 91 = .ok (.if_icmp .lt 44, 3) := dk161 0 44 (BX9_valueOf_3_1 (91, 161, 0, 44) (List.mem_of_getElem? (i := 0) rfl))
theorem dX9_valueOf_94 : decode cX9_valueOf 94 = .ok (.iload 4, 2) := dk21 4 (BX9_valueOf_2_1 (94, 21, 4) (List.mem_of_getElem? (i := 5) rfl))
theorem dX9_valueOf_96 : decode cX9_valueOf 96 = .ok (.aload_n 0, 1) := dk42 (BX9_valueOf_1_1 (96, 42) (List.mem_of_getElem? (i := 9) rfl))
theorem dX9_valueOf_97 : decode cX9_valueOf 97 = .ok (.getfield 29, 3) := dk180 0 29 (BX9_valueOf_3_1 (97, 180, 0, 29) (List.mem_of_getElem? (i := 1) rfl))
theorem dX9_valueOf_100 : decode cX9_valueOf 100 = .ok (.arraylength, 1) := dk190 (BX9_valueOf_1_1 (100, 190) (List.mem_of_getElem? (i := 10) rfl))
theorem dX9_valueOf_101 : decode cX9_valueOf 101 = .ok (.if_icmp .ne 5, 3) := dk160 0 5 (BX9_valueOf_3_1 (101, 160, 0, 5) (List.mem_of_getElem? (i := 2) rfl))
theorem dX9_valueOf_104 : decode cX9_valueOf 104 = .ok (.iconst 0, 1) := dk3 (BX9_valueOf_1_1 (104, 3) (List.mem_of_getElem? (i := 11) rfl))
theorem dX9_valueOf_105 : decode cX9_valueOf 105 = .ok (.ireturn, 1) := dk172 (BX9_valueOf_1_2 (105, 172) (List.mem_of_getElem? (i := 0) rfl))
theorem dX9_valueOf_106 : decode cX9_valueOf 106 = .ok (.aload_n 0, 1) := dk42 (BX9_valueOf_1_2 (106, 42) (List.mem_of_getElem? (i := 1) rfl))
theorem dX9_valueOf_107 : decode cX9_valueOf 107 = .ok (.getfield 29, 3) := dk180 0 29 (BX9_valueOf_3_1 (107, 180, 0, 29) (List.mem_of_getElem? (i := 3) rfl))
theorem dX9_valueOf_110 : decode cX9_valueOf 110 = .ok (.iload 4, 2) := dk21 4 (BX9_valueOf_2_1 (110, 21, 4) (List.mem_of_getElem? (i := 6) rfl))
theorem dX9_valueOf_112 : decode cX9_valueOf 112 = .ok (.iload 7, 2) := dk21 7 (BX9_valueOf_2_1 (112, 21, 7) (List.mem_of_getElem? (i := 7) rfl))
theorem dX9_valueOf_114 : decode cX9_valueOf 114 = .ok (.ifCond .lt 8, 3) := dk155 0 8 (BX9_valueOf_3_1 (114, 155, 0, 8) (List.mem_of_getElem? (i := 4) rfl))
theorem dX9_valueOf_117 : decode cX9_valueOf 117 = .ok (.iload 7, 2) := dk21 7 (BX9_valueOf_2_1 (117, 21, 7) (List.mem_of_getElem? (i := 8) rfl))
theorem dX9_valueOf_119 : decode cX9_valueOf 119 = .ok (.goto 9, 3) := dk167 0 9 (BX9_valueOf_3_1 (119, 167, 0, 9) (List.mem_of_getElem? (i := 5) rfl))
theorem dX9_valueOf_122 : decode cX9_valueOf 122 = .ok (.aload_n 3, 1) := dk45 (BX9_valueOf_1_2 (122, 45) (List.mem_of_getElem? (i := 2) rfl))
theorem dX9_valueOf_123 : decode cX9_valueOf 123 = .ok (.iconst (-1), 1) := dk2 (BX9_valueOf_1_2 (123, 2) (List.mem_of_getElem? (i := 3) rfl))
theorem dX9_valueOf_124 : decode cX9_valueOf 124 = .ok (.iload 7, 2) := dk21 7 (BX9_valueOf_2_1 (124, 21, 7) (List.mem_of_getElem? (i := 9) rfl))
theorem dX9_valueOf_126 : decode cX9_valueOf 126 = .ok (.isub, 1) := dk100 (BX9_valueOf_1_2 (126, 100) (List.mem_of_getElem? (i := 4) rfl))
theorem dX9_valueOf_127 : decode cX9_valueOf 127 = .ok (.iaload, 1) := dk46 (BX9_valueOf_1_2 (127, 46) (List.mem_of_getElem? (i := 5) rfl))
theorem dX9_valueOf_128 : decode cX9_valueOf 128 = .ok (.iastore, 1) := dk79 (BX9_valueOf_1_2 (128, 79) (List.mem_of_getElem? (i := 6) rfl))
theorem dX9_valueOf_129 : decode cX9_valueOf 129 = .ok (.iinc 4 1, 3) := dk132 4 1 (BX9_valueOf_3_1 (129, 132, 4, 1) (List.mem_of_getElem? (i := 6) rfl))
theorem dX9_valueOf_132 : decode cX9_valueOf 132 = .ok (.goto 14, 3) := dk167 0 14 (BX9_valueOf_3_1 (132, 167, 0, 14) (List.mem_of_getElem? (i := 7) rfl))
theorem dX9_valueOf_135 : decode cX9_valueOf 135 = .ok (.aload_n 0, 1) := dk42 (BX9_valueOf_1_2 (135, 42) (List.mem_of_getElem? (i := 7) rfl))
theorem dX9_valueOf_136 : decode cX9_valueOf 136 = .ok (.iload 7, 2) := dk21 7 (BX9_valueOf_2_1 (136, 21, 7) (List.mem_of_getElem? (i := 10) rfl))
theorem dX9_valueOf_138 : decode cX9_valueOf 138 = .ok (.ineg, 1) := dk116 (BX9_valueOf_1_2 (138, 116) (List.mem_of_getElem? (i := 8) rfl))
theorem dX9_valueOf_139 : decode cX9_valueOf 139 = .ok (.iload 4, 2) := dk21 4 (BX9_valueOf_2_1 (139, 21, 4) (List.mem_of_getElem? (i := 11) rfl))
theorem dX9_valueOf_141 : decode cX9_valueOf 141 = .ok (.invokevirtual 57, 3) := dk182 0 57 (BX9_valueOf_3_1 (141, 182, 0, 57) (List.mem_of_getElem? (i := 8) rfl))
theorem dX9_valueOf_144 : decode cX9_valueOf 144 = .ok (.istore 4, 2) := dk54 4 (BX9_valueOf_2_2 (144, 54, 4) (List.mem_of_getElem? (i := 0) rfl))
theorem dX9_valueOf_146 : decode cX9_valueOf 146 = .ok (.iinc 6 1, 3) := dk132 6 1 (BX9_valueOf_3_1 (146, 132, 6, 1) (List.mem_of_getElem? (i := 9) rfl))
theorem dX9_valueOf_149 : decode cX9_valueOf 149 = .ok (.goto (-140), 3) := dk167 255 116 (BX9_valueOf_3_1 (149, 167, 255, 116) (List.mem_of_getElem? (i := 10) rfl))
theorem dX9_valueOf_152 : decode cX9_valueOf 152 = .ok (.iconst 0, 1) := dk3 (BX9_valueOf_1_2 (152, 3) (List.mem_of_getElem? (i := 9) rfl))
theorem dX9_valueOf_153 : decode cX9_valueOf 153 = .ok (.ireturn, 1) := dk172 (BX9_valueOf_1_2 (153, 172) (List.mem_of_getElem? (i := 10) rfl))
set_option maxRecDepth 20000 in
theorem ggX9_work_X11_asBit : GoodIn wsX9_work wsX11_asBit := goodIn_r _ [4] rfl (by decide +kernel)
set_option maxRecDepth 20000 in
theorem gX9_work_X11_asBit_n60 : GoodIn wsX9_work (wsX11_asBit) := ggX9_work_X11_asBit
set_option maxRecDepth 20000 in
theorem ggX9_work_X9_joined : GoodIn wsX9_work wsX9_joined := goodIn_r _ [8, 2, 3, 4] rfl (by decide +kernel)
set_option maxRecDepth 20000 in
theorem gX9_work_X9_joined : GoodIn wsX9_work (va_wsS RX9 66 yX9_joined wsX9_joined) := goodIn_app (goodIn_r _ [5, 6, 7] rfl (by decide +kernel)) ggX9_work_X9_joined
set_option maxRecDepth 20000 in
theorem SX9_work : ∀ p : Nat, gb cX9_work p = segF [[28, 4, 161, 0, 38, 27, 16, 33, 160, 0, 32, 42, 180, 0, 29, 28, 4, 100, 42, 180, 0, 29, 28, 4, 100, 46, 154, 0, 7, 4, 167, 0, 4, 3, 184, 0, 60, 79, 28, 172, 28, 4, 161, 0, 28, 27, 16, 126, 160, 0, 22, 42, 180, 0, 29, 28, 4, 100, 42, 180, 0, 29, 28, 4], [100, 46, 116, 79, 28, 172, 28, 5, 161, 0, 35, 42, 180, 0, 29, 28, 5, 100, 27, 42, 180, 0, 29, 28, 5, 100, 46, 42, 180, 0, 29, 28, 4, 100, 46, 184, 0, 66, 79, 28, 4, 100, 172, 28, 172]] p := seg_gb (S := [[28, 4, 161, 0, 38, 27, 16, 33, 160, 0, 32, 42, 180, 0, 29, 28, 4, 100, 42, 180, 0, 29, 28, 4, 100, 46, 154, 0, 7, 4, 167, 0, 4, 3, 184, 0, 60, 79, 28, 172, 28, 4, 161, 0, 28, 27, 16, 126, 160, 0, 22, 42, 180, 0, 29, 28, 4, 100, 42, 180, 0, 29, 28, 4], [100, 46, 116, 79, 28, 172, 28, 5, 161, 0, 35, 42, 180, 0, 29, 28, 5, 100, 27, 42, 180, 0, 29, 28, 5, 100, 46, 42, 180, 0, 29, 28, 4, 100, 46, 184, 0, 66, 79, 28, 4, 100, 172, 28, 172]]) (by decide +kernel) (by decide +kernel)
set_option maxRecDepth 20000 in
theorem BX9_work_1_0 : ∀ q ∈ ([(0, 28), (1, 4), (5, 27), (11, 42), (15, 28), (16, 4), (17, 100), (18, 42), (22, 28), (23, 4), (24, 100), (25, 46)] : List (Nat × Nat)), gb cX9_work q.1 = some q.2 := seg_1 SX9_work _ (by decide +kernel)
set_option maxRecDepth 20000 in
theorem BX9_work_1_1 : ∀ q ∈ ([(29, 4), (33, 3), (37, 79), (38, 28), (39, 172), (40, 28), (41, 4), (45, 27), (51, 42), (55, 28), (56, 4), (57, 100)] : List (Nat × Nat)), gb cX9_work q.1 = some q.2 := seg_1 SX9_work _ (by decide +kernel)
set_option maxRecDepth 20000 in
theorem BX9_work_1_2 : ∀ q ∈ ([(58, 42), (62, 28), (63, 4), (64, 100), (65, 46), (66, 116), (67, 79), (68, 28), (69, 172), (70, 28), (71, 5), (75, 42)] : List (Nat × Nat)), gb cX9_work q.1 = some q.2 := seg_1 SX9_work _ (by decide +kernel)
set_option maxRecDepth 20000 in
theorem BX9_work_1_3 : ∀ q ∈ ([(79, 28), (80, 5), (81, 100), (82, 27), (83, 42), (87, 28), (88, 5), (89, 100), (90, 46), (91, 42), (95, 28), (96, 4)] : List (Nat × Nat)), gb cX9_work q.1 = some q.2 := seg_1 SX9_work _ (by decide +kernel)
set_option maxRecDepth 20000 in
theorem BX9_work_1_4 : ∀ q ∈ ([(97, 100), (98, 46), (102, 79), (103, 28), (104, 4), (105, 100), (106, 172), (107, 28), (108, 172)] : List (Nat × Nat)), gb cX9_work q.1 = some q.2 := seg_1 SX9_work _ (by decide +kernel)
set_option maxRecDepth 20000 in
theorem BX9_work_2_0 : ∀ q ∈ ([(6, 16, 33), (46, 16, 126)] : List (Nat × Nat × Nat)), gb cX9_work q.1 = some q.2.1 ∧ gb cX9_work (q.1 + 1) = some q.2.2 := seg_2 SX9_work _ (by decide +kernel)
set_option maxRecDepth 20000 in
theorem BX9_work_3_0 : ∀ q ∈ ([(2, 161, 0, 38), (8, 160, 0, 32), (12, 180, 0, 29), (19, 180, 0, 29), (26, 154, 0, 7), (30, 167, 0, 4), (34, 184, 0, 60), (42, 161, 0, 28), (48, 160, 0, 22), (52, 180, 0, 29), (59, 180, 0, 29), (72, 161, 0, 35)] : List (Nat × Nat × Nat × Nat)), gb cX9_work q.1 = some q.2.1 ∧ gb cX9_work (q.1 + 1) = some q.2.2.1 ∧ gb cX9_work (q.1 + 2) = some q.2.2.2 := seg_3 SX9_work _ (by decide +kernel)
set_option maxRecDepth 20000 in
theorem BX9_work_3_1 : ∀ q ∈ ([(76, 180, 0, 29), (84, 180, 0, 29), (92, 180, 0, 29), (99, 184, 0, 66)] : List (Nat × Nat × Nat × Nat)), gb cX9_work q.1 = some q.2.1 ∧ gb cX9_work (q.1 + 1) = some q.2.2.1 ∧ gb cX9_work (q.1 + 2) = some q.2.2.2 := seg_3 SX9_work _ (by decide +kernel)
theorem dX9_work_0 : decode cX9_work 0 = .ok (.iload_n 2, 1) := dk28 (BX9_work_1_0 (0, 28) (List.mem_of_getElem? (i := 0) rfl))
theorem dX9_work_1 : decode cX9_work 1 = .ok (.iconst 1, 1) := dk4 (BX9_work_1_0 (1, 4) (List.mem_of_getElem? (i := 1) rfl))
theorem dX9_work_2 : decode cX9_work 2 = .ok (.if_icmp .lt 38, 3) := dk161 0 38 (BX9_work_3_0 (2, 161, 0, 38) (List.mem_of_getElem? (i := 0) rfl))
theorem dX9_work_5 : decode cX9_work 5 = .ok (.iload_n 1, 1) := dk27 (BX9_work_1_0 (5, 27) (List.mem_of_getElem? (i := 2) rfl))
theorem dX9_work_6 : decode cX9_work 6 = .ok (.bipush 33, 2) := dk16 33 (BX9_work_2_0 (6, 16, 33) (List.mem_of_getElem? (i := 0) rfl))
theorem dX9_work_8 : decode cX9_work 8 = .ok (.if_icmp .ne 32, 3) := dk160 0 32 (BX9_work_3_0 (8, 160, 0, 32) (List.mem_of_getElem? (i := 1) rfl))
theorem dX9_work_11 : decode cX9_work 11 = .ok (.aload_n 0, 1) := dk42 (BX9_work_1_0 (11, 42) (List.mem_of_getElem? (i := 3) rfl))
theorem dX9_work_12 : decode cX9_work 12 = .ok (.getfield 29, 3) := dk180 0 29 (BX9_work_3_0 (12, 180, 0, 29) (List.mem_of_getElem? (i := 2) rfl))
theorem dX9_work_15 : decode cX9_work 15 = .ok (.iload_n 2, 1) := dk28 (BX9_work_1_0 (15, 28) (List.mem_of_getElem? (i := 4) rfl))
theorem dX9_work_16 : decode cX9_work 16 = .ok (.iconst 1, 1) := dk4 (BX9_work_1_0 (16, 4) (List.mem_of_getElem? (i := 5) rfl))
theorem dX9_work_17 : decode cX9_work 17 = .ok (.isub, 1) := dk100 (BX9_work_1_0 (17, 100) (List.mem_of_getElem? (i := 6) rfl))
theorem dX9_work_18 : decode cX9_work 18 = .ok (.aload_n 0, 1) := dk42 (BX9_work_1_0 (18, 42) (List.mem_of_getElem? (i := 7) rfl))
theorem dX9_work_19 : decode cX9_work 19 = .ok (.getfield 29, 3) := dk180 0 29 (BX9_work_3_0 (19, 180, 0, 29) (List.mem_of_getElem? (i := 3) rfl))
theorem dX9_work_22 : decode cX9_work 22 = .ok (.iload_n 2, 1) := dk28 (BX9_work_1_0 (22, 28) (List.mem_of_getElem? (i := 8) rfl))
theorem dX9_work_23 : decode cX9_work 23 = .ok (.iconst 1, 1) := dk4 (BX9_work_1_0 (23, 4) (List.mem_of_getElem? (i := 9) rfl))
theorem dX9_work_24 : decode cX9_work 24 = .ok (.isub, 1) := dk100 (BX9_work_1_0 (24, 100) (List.mem_of_getElem? (i := 10) rfl))
theorem dX9_work_25 : decode cX9_work 25 = .ok (.iaload, 1) := dk46 (BX9_work_1_0 (25, 46) (List.mem_of_getElem? (i := 11) rfl))
theorem dX9_work_26 : decode cX9_work 26 = .ok (.ifCond .ne 7, 3) := dk154 0 7 (BX9_work_3_0 (26, 154, 0, 7) (List.mem_of_getElem? (i := 4) rfl))
theorem dX9_work_29 : decode cX9_work 29 = .ok (.iconst 1, 1) := dk4 (BX9_work_1_1 (29, 4) (List.mem_of_getElem? (i := 0) rfl))
theorem dX9_work_30 : decode cX9_work 30 = .ok (.goto 4, 3) := dk167 0 4 (BX9_work_3_0 (30, 167, 0, 4) (List.mem_of_getElem? (i := 5) rfl))
theorem dX9_work_33 : decode cX9_work 33 = .ok (.iconst 0, 1) := dk3 (BX9_work_1_1 (33, 3) (List.mem_of_getElem? (i := 1) rfl))
theorem dX9_work_34 : decode cX9_work 34 = .ok (.invokestatic 60, 3) := dk184 0 60 (BX9_work_3_0 (34, 184, 0, 60) (List.mem_of_getElem? (i := 6) rfl))
theorem dX9_work_37 : decode cX9_work 37 = .ok (.iastore, 1) := dk79 (BX9_work_1_1 (37, 79) (List.mem_of_getElem? (i := 2) rfl))
theorem dX9_work_38 : decode cX9_work 38 = .ok (.iload_n 2, 1) := dk28 (BX9_work_1_1 (38, 28) (List.mem_of_getElem? (i := 3) rfl))
theorem dX9_work_39 : decode cX9_work 39 = .ok (.ireturn, 1) := dk172 (BX9_work_1_1 (39, 172) (List.mem_of_getElem? (i := 4) rfl))
theorem dX9_work_40 : decode cX9_work 40 = .ok (.iload_n 2, 1) := dk28 (BX9_work_1_1 (40, 28) (List.mem_of_getElem? (i := 5) rfl))
theorem dX9_work_41 : decode cX9_work 41 = .ok (.iconst 1, 1) := dk4 (BX9_work_1_1 (41, 4) (List.mem_of_getElem? (i := 6) rfl))
theorem dX9_work_42 : decode cX9_work 42 = .ok (.if_icmp .lt 28, 3) := dk161 0 28 (BX9_work_3_0 (42, 161, 0, 28) (List.mem_of_getElem? (i := 7) rfl))
theorem dX9_work_45 : decode cX9_work 45 = .ok (.iload_n 1, 1) := dk27 (BX9_work_1_1 (45, 27) (List.mem_of_getElem? (i := 7) rfl))
theorem dX9_work_46 : decode cX9_work 46 = .ok (.bipush 126, 2) := dk16 126 (BX9_work_2_0 (46, 16, 126) (List.mem_of_getElem? (i := 1) rfl))
theorem dX9_work_48 : decode cX9_work 48 = .ok (.if_icmp .ne 22, 3) := dk160 0 22 (BX9_work_3_0 (48, 160, 0, 22) (List.mem_of_getElem? (i := 8) rfl))
theorem dX9_work_51 : decode cX9_work 51 = .ok (.aload_n 0, 1) := dk42 (BX9_work_1_1 (51, 42) (List.mem_of_getElem? (i := 8) rfl))
theorem dX9_work_52 : decode cX9_work 52 = .ok (.getfield 29, 3) := dk180 0 29 (BX9_work_3_0 (52, 180, 0, 29) (List.mem_of_getElem? (i := 9) rfl))
theorem dX9_work_55 : decode cX9_work 55 = .ok (.iload_n 2, 1) := dk28 (BX9_work_1_1 (55, 28) (List.mem_of_getElem? (i := 9) rfl))
theorem dX9_work_56 : decode cX9_work 56 = .ok (.iconst 1, 1) := dk4 (BX9_work_1_1 (56, 4) (List.mem_of_getElem? (i := 10) rfl))
theorem dX9_work_57 : decode cX9_work 57 = .ok (.isub, 1) := dk100 (BX9_work_1_1 (57, 100) (List.mem_of_getElem? (i := 11) rfl))
theorem dX9_work_58 : decode cX9_work 58 = .ok (.aload_n 0, 1) := dk42 (BX9_work_1_2 (58, 42) (List.mem_of_getElem? (i := 0) rfl))
theorem dX9_work_59 : decode cX9_work 59 = .ok (.getfield 29, 3) := dk180 0 29 (BX9_work_3_0 (59, 180, 0, 29) (List.mem_of_getElem? (i := 10) rfl))
theorem dX9_work_62 : decode cX9_work 62 = .ok (.iload_n 2, 1) := dk28 (BX9_work_1_2 (62, 28) (List.mem_of_getElem? (i := 1) rfl))
theorem dX9_work_63 : decode cX9_work 63 = .ok (.iconst 1, 1) := dk4 (BX9_work_1_2 (63, 4) (List.mem_of_getElem? (i := 2) rfl))
theorem dX9_work_64 : decode cX9_work 64 = .ok (.isub, 1) := dk100 (BX9_work_1_2 (64, 100) (List.mem_of_getElem? (i := 3) rfl))
theorem dX9_work_65 : decode cX9_work 65 = .ok (.iaload, 1) := dk46 (BX9_work_1_2 (65, 46) (List.mem_of_getElem? (i := 4) rfl))
theorem dX9_work_66 : decode cX9_work 66 = .ok (.ineg, 1) := dk116 (BX9_work_1_2 (66, 116) (List.mem_of_getElem? (i := 5) rfl))
theorem dX9_work_67 : decode cX9_work 67 = .ok (.iastore, 1) := dk79 (BX9_work_1_2 (67, 79) (List.mem_of_getElem? (i := 6) rfl))
theorem dX9_work_68 : decode cX9_work 68 = .ok (.iload_n 2, 1) := dk28 (BX9_work_1_2 (68, 28) (List.mem_of_getElem? (i := 7) rfl))
theorem dX9_work_69 : decode cX9_work 69 = .ok (.ireturn, 1) := dk172 (BX9_work_1_2 (69, 172) (List.mem_of_getElem? (i := 8) rfl))
theorem dX9_work_70 : decode cX9_work 70 = .ok (.iload_n 2, 1) := dk28 (BX9_work_1_2 (70, 28) (List.mem_of_getElem? (i := 9) rfl))
theorem dX9_work_71 : decode cX9_work 71 = .ok (.iconst 2, 1) := dk5 (BX9_work_1_2 (71, 5) (List.mem_of_getElem? (i := 10) rfl))
theorem dX9_work_72 : decode cX9_work 72 = .ok (.if_icmp .lt 35, 3) := dk161 0 35 (BX9_work_3_0 (72, 161, 0, 35) (List.mem_of_getElem? (i := 11) rfl))
theorem dX9_work_75 : decode cX9_work 75 = .ok (.aload_n 0, 1) := dk42 (BX9_work_1_2 (75, 42) (List.mem_of_getElem? (i := 11) rfl))
theorem dX9_work_76 : decode cX9_work 76 = .ok (.getfield 29, 3) := dk180 0 29 (BX9_work_3_1 (76, 180, 0, 29) (List.mem_of_getElem? (i := 0) rfl))
theorem dX9_work_79 : decode cX9_work 79 = .ok (.iload_n 2, 1) := dk28 (BX9_work_1_3 (79, 28) (List.mem_of_getElem? (i := 0) rfl))
theorem dX9_work_80 : decode cX9_work 80 = .ok (.iconst 2, 1) := dk5 (BX9_work_1_3 (80, 5) (List.mem_of_getElem? (i := 1) rfl))
theorem dX9_work_81 : decode cX9_work 81 = .ok (.isub, 1) := dk100 (BX9_work_1_3 (81, 100) (List.mem_of_getElem? (i := 2) rfl))
theorem dX9_work_82 : decode cX9_work 82 = .ok (.iload_n 1, 1) := dk27 (BX9_work_1_3 (82, 27) (List.mem_of_getElem? (i := 3) rfl))
theorem dX9_work_83 : decode cX9_work 83 = .ok (.aload_n 0, 1) := dk42 (BX9_work_1_3 (83, 42) (List.mem_of_getElem? (i := 4) rfl))
theorem dX9_work_84 : decode cX9_work 84 = .ok (.getfield 29, 3) := dk180 0 29 (BX9_work_3_1 (84, 180, 0, 29) (List.mem_of_getElem? (i := 1) rfl))
theorem dX9_work_87 : decode cX9_work 87 = .ok (.iload_n 2, 1) := dk28 (BX9_work_1_3 (87, 28) (List.mem_of_getElem? (i := 5) rfl))
theorem dX9_work_88 : decode cX9_work 88 = .ok (.iconst 2, 1) := dk5 (BX9_work_1_3 (88, 5) (List.mem_of_getElem? (i := 6) rfl))
theorem dX9_work_89 : decode cX9_work 89 = .ok (.isub, 1) := dk100 (BX9_work_1_3 (89, 100) (List.mem_of_getElem? (i := 7) rfl))
theorem dX9_work_90 : decode cX9_work 90 = .ok (.iaload, 1) := dk46 (BX9_work_1_3 (90, 46) (List.mem_of_getElem? (i := 8) rfl))
theorem dX9_work_91 : decode cX9_work 91 = .ok (.aload_n 0, 1) := dk42 (BX9_work_1_3 (91, 42) (List.mem_of_getElem? (i := 9) rfl))
theorem dX9_work_92 : decode cX9_work 92 = .ok (.getfield 29, 3) := dk180 0 29 (BX9_work_3_1 (92, 180, 0, 29) (List.mem_of_getElem? (i := 2) rfl))
theorem dX9_work_95 : decode cX9_work 95 = .ok (.iload_n 2, 1) := dk28 (BX9_work_1_3 (95, 28) (List.mem_of_getElem? (i := 10) rfl))
theorem dX9_work_96 : decode cX9_work 96 = .ok (.iconst 1, 1) := dk4 (BX9_work_1_3 (96, 4) (List.mem_of_getElem? (i := 11) rfl))
theorem dX9_work_97 : decode cX9_work 97 = .ok (.isub, 1) := dk100 (BX9_work_1_4 (97, 100) (List.mem_of_getElem? (i := 0) rfl))
theorem dX9_work_98 : decode cX9_work 98 = .ok (.iaload, 1) := dk46 (BX9_work_1_4 (98, 46) (List.mem_of_getElem? (i := 1) rfl))
theorem dX9_work_99 : decode cX9_work 99 = .ok (.invokestatic 66, 3) := dk184 0 66 (BX9_work_3_1 (99, 184, 0, 66) (List.mem_of_getElem? (i := 3) rfl))
theorem dX9_work_102 : decode cX9_work 102 = .ok (.iastore, 1) := dk79 (BX9_work_1_4 (102, 79) (List.mem_of_getElem? (i := 2) rfl))
theorem dX9_work_103 : decode cX9_work 103 = .ok (.iload_n 2, 1) := dk28 (BX9_work_1_4 (103, 28) (List.mem_of_getElem? (i := 3) rfl))
theorem dX9_work_104 : decode cX9_work 104 = .ok (.iconst 1, 1) := dk4 (BX9_work_1_4 (104, 4) (List.mem_of_getElem? (i := 4) rfl))
theorem dX9_work_105 : decode cX9_work 105 = .ok (.isub, 1) := dk100 (BX9_work_1_4 (105, 100) (List.mem_of_getElem? (i := 5) rfl))
theorem dX9_work_106 : decode cX9_work 106 = .ok (.ireturn, 1) := dk172 (BX9_work_1_4 (106, 172) (List.mem_of_getElem? (i := 6) rfl))
theorem dX9_work_107 : decode cX9_work 107 = .ok (.iload_n 2, 1) := dk28 (BX9_work_1_4 (107, 28) (List.mem_of_getElem? (i := 7) rfl))
theorem dX9_work_108 : decode cX9_work 108 = .ok (.ireturn, 1) := dk172 (BX9_work_1_4 (108, 172) (List.mem_of_getElem? (i := 8) rfl))
set_option maxRecDepth 20000 in
theorem ggX9_joined_X11_asBit : GoodIn wsX9_joined wsX11_asBit := goodIn_r _ [3] rfl (by decide +kernel)
set_option maxRecDepth 20000 in
theorem gX9_joined_X11_asBit_n60 : GoodIn wsX9_joined (wsX11_asBit) := ggX9_joined_X11_asBit
set_option maxRecDepth 20000 in
theorem SX9_joined : ∀ p : Nat, gb cX9_joined p = segF [[26, 171, 0, 0, 0, 0, 0, 203, 0, 0, 0, 10, 0, 0, 0, 37, 0, 0, 0, 191, 0, 0, 0, 38, 0, 0, 0, 108, 0, 0, 0, 42, 0, 0, 0, 175, 0, 0, 0, 43, 0, 0, 0, 167, 0, 0, 0, 45, 0, 0, 0, 171, 0, 0, 0, 47, 0, 0, 0, 179, 0, 0, 0, 60], [0, 0, 0, 125, 0, 0, 0, 61, 0, 0, 0, 139, 0, 0, 0, 62, 0, 0, 0, 153, 0, 0, 0, 124, 0, 0, 0, 91, 27, 154, 0, 7, 28, 153, 0, 7, 4, 167, 0, 4, 3, 184, 0, 60, 172, 27, 153, 0, 11, 28, 153, 0, 7, 4, 167, 0, 4, 3, 184, 0, 60, 172, 27, 28], [162, 0, 7, 4, 167, 0, 4, 3, 184, 0, 60, 172, 27, 28, 160, 0, 7, 4, 167, 0, 4, 3, 184, 0, 60, 172, 27, 28, 164, 0, 7, 4, 167, 0, 4, 3, 184, 0, 60, 172, 27, 28, 96, 172, 27, 28, 100, 172, 27, 28, 104, 172, 28, 154, 0, 7, 3, 167, 0, 6, 27, 28, 108, 172], [28, 154, 0, 7, 3, 167, 0, 6, 27, 28, 112, 172, 3, 172]] p := seg_gb (S := [[26, 171, 0, 0, 0, 0, 0, 203, 0, 0, 0, 10, 0, 0, 0, 37, 0, 0, 0, 191, 0, 0, 0, 38, 0, 0, 0, 108, 0, 0, 0, 42, 0, 0, 0, 175, 0, 0, 0, 43, 0, 0, 0, 167, 0, 0, 0, 45, 0, 0, 0, 171, 0, 0, 0, 47, 0, 0, 0, 179, 0, 0, 0, 60], [0, 0, 0, 125, 0, 0, 0, 61, 0, 0, 0, 139, 0, 0, 0, 62, 0, 0, 0, 153, 0, 0, 0, 124, 0, 0, 0, 91, 27, 154, 0, 7, 28, 153, 0, 7, 4, 167, 0, 4, 3, 184, 0, 60, 172, 27, 153, 0, 11, 28, 153, 0, 7, 4, 167, 0, 4, 3, 184, 0, 60, 172, 27, 28], [162, 0, 7, 4, 167, 0, 4, 3, 184, 0, 60, 172, 27, 28, 160, 0, 7, 4, 167, 0, 4, 3, 184, 0, 60, 172, 27, 28, 164, 0, 7, 4, 167, 0, 4, 3, 184, 0, 60, 172, 27, 28, 96, 172, 27, 28, 100, 172, 27, 28, 104, 172, 28, 154, 0, 7, 3, 167, 0, 6, 27, 28, 108, 172], [28, 154, 0, 7, 3, 167, 0, 6, 27, 28, 112, 172, 3, 172]]) (by decide +kernel) (by decide +kernel)
set_option maxRecDepth 20000 in
theorem BX9_joined_1_0 : ∀ q ∈ ([(0, 26), (92, 27), (96, 28), (100, 4), (104, 3), (108, 172), (109, 27), (113, 28), (117, 4), (121, 3), (125, 172), (126, 27)] : List (Nat × Nat)), gb cX9_joined q.1 = some q.2 := seg_1 SX9_joined _ (by decide +kernel)
set_option maxRecDepth 20000 in
theorem BX9_joined_1_1 : ∀ q ∈ ([(127, 28), (131, 4), (135, 3), (139, 172), (140, 27), (141, 28), (145, 4), (149, 3), (153, 172), (154, 27), (155, 28), (159, 4)] : List (Nat × Nat)), gb cX9_joined q.1 = some q.2 := seg_1 SX9_joined _ (by decide +kernel)
set_option maxRecDepth 20000 in
theorem BX9_joined_1_2 : ∀ q ∈ ([(163, 3), (167, 172), (168, 27), (169, 28), (170, 96), (171, 172), (172, 27), (173, 28), (174, 100), (175, 172), (176, 27), (177, 28)] : List (Nat × Nat)), gb cX9_joined q.1 = some q.2 := seg_1 SX9_joined _ (by decide +kernel)
set_option maxRecDepth 20000 in
theorem BX9_joined_1_3 : ∀ q ∈ ([(178, 104), (179, 172), (180, 28), (184, 3), (188, 27), (189, 28), (190, 108), (191, 172), (192, 28), (196, 3), (200, 27), (201, 28)] : List (Nat × Nat)), gb cX9_joined q.1 = some q.2 := seg_1 SX9_joined _ (by decide +kernel)
set_option maxRecDepth 20000 in
theorem BX9_joined_1_4 : ∀ q ∈ ([(202, 112), (203, 172), (204, 3), (205, 172)] : List (Nat × Nat)), gb cX9_joined q.1 = some q.2 := seg_1 SX9_joined _ (by decide +kernel)
set_option maxRecDepth 20000 in
theorem BX9_joined_3_0 : ∀ q ∈ ([(93, 154, 0, 7), (97, 153, 0, 7), (101, 167, 0, 4), (105, 184, 0, 60), (110, 153, 0, 11), (114, 153, 0, 7), (118, 167, 0, 4), (122, 184, 0, 60), (128, 162, 0, 7), (132, 167, 0, 4), (136, 184, 0, 60), (142, 160, 0, 7)] : List (Nat × Nat × Nat × Nat)), gb cX9_joined q.1 = some q.2.1 ∧ gb cX9_joined (q.1 + 1) = some q.2.2.1 ∧ gb cX9_joined (q.1 + 2) = some q.2.2.2 := seg_3 SX9_joined _ (by decide +kernel)
set_option maxRecDepth 20000 in
theorem BX9_joined_3_1 : ∀ q ∈ ([(146, 167, 0, 4), (150, 184, 0, 60), (156, 164, 0, 7), (160, 167, 0, 4), (164, 184, 0, 60), (181, 154, 0, 7), (185, 167, 0, 6), (193, 154, 0, 7), (197, 167, 0, 6)] : List (Nat × Nat × Nat × Nat)), gb cX9_joined q.1 = some q.2.1 ∧ gb cX9_joined (q.1 + 1) = some q.2.2.1 ∧ gb cX9_joined (q.1 + 2) = some q.2.2.2 := seg_3 SX9_joined _ (by decide +kernel)
theorem dX9_joined_0 : decode cX9_joined 0 = .ok (.iload_n 0, 1) := dk26 (BX9_joined_1_0 (0, 26) (List.mem_of_getElem? (i := 0) rfl))
theorem dX9_joined_1 : decode cX9_joined 1 = .ok (.lookupswitch 203 #[(37, 191), (38, 108), (42, 175), (43, 167), (45, 171), (47, 179), (60, 125), (61, 139), (62, 153), (124, 91)], 91) := by decide +kernel
theorem dX9_joined_92 : decode cX9_joined 92 = .ok (.iload_n 1, 1) := dk27 (BX9_joined_1_0 (92, 27) (List.mem_of_getElem? (i := 1) rfl))
theorem dX9_joined_93 : decode cX9_joined 93 = .ok (.ifCond .ne 7, 3) := dk154 0 7 (BX9_joined_3_0 (93, 154, 0, 7) (List.mem_of_getElem? (i := 0) rfl))
theorem dX9_joined_96 : decode cX9_joined 96 = .ok (.iload_n 2, 1) := dk28 (BX9_joined_1_0 (96, 28) (List.mem_of_getElem? (i := 2) rfl))
theorem dX9_joined_97 : decode cX9_joined 97 = .ok (.ifCond .eq 7, 3) := dk153 0 7 (BX9_joined_3_0 (97, 153, 0, 7) (List.mem_of_getElem? (i := 1) rfl))
theorem dX9_joined_100 : decode cX9_joined 100 = .ok (.iconst 1, 1) := dk4 (BX9_joined_1_0 (100, 4) (List.mem_of_getElem? (i := 3) rfl))
theorem dX9_joined_101 : decode cX9_joined 101 = .ok (.goto 4, 3) := dk167 0 4 (BX9_joined_3_0 (101, 167, 0, 4) (List.mem_of_getElem? (i := 2) rfl))
theorem dX9_joined_104 : decode cX9_joined 104 = .ok (.iconst 0, 1) := dk3 (BX9_joined_1_0 (104, 3) (List.mem_of_getElem? (i := 4) rfl))
theorem dX9_joined_105 : decode cX9_joined 105 = .ok (.invokestatic 60, 3) := dk184 0 60 (BX9_joined_3_0 (105, 184, 0, 60) (List.mem_of_getElem? (i := 3) rfl))
theorem dX9_joined_108 : decode cX9_joined 108 = .ok (.ireturn, 1) := dk172 (BX9_joined_1_0 (108, 172) (List.mem_of_getElem? (i := 5) rfl))
theorem dX9_joined_109 : decode cX9_joined 109 = .ok (.iload_n 1, 1) := dk27 (BX9_joined_1_0 (109, 27) (List.mem_of_getElem? (i := 6) rfl))
theorem dX9_joined_110 : decode cX9_joined 110 = .ok (.ifCond .eq 11, 3) := dk153 0 11 (BX9_joined_3_0 (110, 153, 0, 11) (List.mem_of_getElem? (i := 4) rfl))
theorem dX9_joined_113 : decode cX9_joined 113 = .ok (.iload_n 2, 1) := dk28 (BX9_joined_1_0 (113, 28) (List.mem_of_getElem? (i := 7) rfl))
theorem dX9_joined_114 : decode cX9_joined 114 = .ok (.ifCond .eq 7, 3) := dk153 0 7 (BX9_joined_3_0 (114, 153, 0, 7) (List.mem_of_getElem? (i := 5) rfl))
theorem dX9_joined_117 : decode cX9_joined 117 = .ok (.iconst 1, 1) := dk4 (BX9_joined_1_0 (117, 4) (List.mem_of_getElem? (i := 8) rfl))
theorem dX9_joined_118 : decode cX9_joined 118 = .ok (.goto 4, 3) := dk167 0 4 (BX9_joined_3_0 (118, 167, 0, 4) (List.mem_of_getElem? (i := 6) rfl))
theorem dX9_joined_121 : decode cX9_joined 121 = .ok (.iconst 0, 1) := dk3 (BX9_joined_1_0 (121, 3) (List.mem_of_getElem? (i := 9) rfl))
theorem dX9_joined_122 : decode cX9_joined 122 = .ok (.invokestatic 60, 3) := dk184 0 60 (BX9_joined_3_0 (122, 184, 0, 60) (List.mem_of_getElem? (i := 7) rfl))
theorem dX9_joined_125 : decode cX9_joined 125 = .ok (.ireturn, 1) := dk172 (BX9_joined_1_0 (125, 172) (List.mem_of_getElem? (i := 10) rfl))
theorem dX9_joined_126 : decode cX9_joined 126 = .ok (.iload_n 1, 1) := dk27 (BX9_joined_1_0 (126, 27) (List.mem_of_getElem? (i := 11) rfl))
theorem dX9_joined_127 : decode cX9_joined 127 = .ok (.iload_n 2, 1) := dk28 (BX9_joined_1_1 (127, 28) (List.mem_of_getElem? (i := 0) rfl))
theorem dX9_joined_128 : decode cX9_joined 128 = .ok (.if_icmp .ge 7, 3) := dk162 0 7 (BX9_joined_3_0 (128, 162, 0, 7) (List.mem_of_getElem? (i := 8) rfl))
theorem dX9_joined_131 : decode cX9_joined 131 = .ok (.iconst 1, 1) := dk4 (BX9_joined_1_1 (131, 4) (List.mem_of_getElem? (i := 1) rfl))
theorem dX9_joined_132 : decode cX9_joined 132 = .ok (.goto 4, 3) := dk167 0 4 (BX9_joined_3_0 (132, 167, 0, 4) (List.mem_of_getElem? (i := 9) rfl))
theorem dX9_joined_135 : decode cX9_joined 135 = .ok (.iconst 0, 1) := dk3 (BX9_joined_1_1 (135, 3) (List.mem_of_getElem? (i := 2) rfl))
theorem dX9_joined_136 : decode cX9_joined 136 = .ok (.invokestatic 60, 3) := dk184 0 60 (BX9_joined_3_0 (136, 184, 0, 60) (List.mem_of_getElem? (i := 10) rfl))
theorem dX9_joined_139 : decode cX9_joined 139 = .ok (.ireturn, 1) := dk172 (BX9_joined_1_1 (139, 172) (List.mem_of_getElem? (i := 3) rfl))
theorem dX9_joined_140 : decode cX9_joined 140 = .ok (.iload_n 1, 1) := dk27 (BX9_joined_1_1 (140, 27) (List.mem_of_getElem? (i := 4) rfl))
theorem dX9_joined_141 : decode cX9_joined 141 = .ok (.iload_n 2, 1) := dk28 (BX9_joined_1_1 (141, 28) (List.mem_of_getElem? (i := 5) rfl))
theorem dX9_joined_142 : decode cX9_joined 142 = .ok (.if_icmp .ne 7, 3) := dk160 0 7 (BX9_joined_3_0 (142, 160, 0, 7) (List.mem_of_getElem? (i := 11) rfl))
theorem dX9_joined_145 : decode cX9_joined 145 = .ok (.iconst 1, 1) := dk4 (BX9_joined_1_1 (145, 4) (List.mem_of_getElem? (i := 6) rfl))
theorem dX9_joined_146 : decode cX9_joined 146 = .ok (.goto 4, 3) := dk167 0 4 (BX9_joined_3_1 (146, 167, 0, 4) (List.mem_of_getElem? (i := 0) rfl))
theorem dX9_joined_149 : decode cX9_joined 149 = .ok (.iconst 0, 1) := dk3 (BX9_joined_1_1 (149, 3) (List.mem_of_getElem? (i := 7) rfl))
theorem dX9_joined_150 : decode cX9_joined 150 = .ok (.invokestatic 60, 3) := dk184 0 60 (BX9_joined_3_1 (150, 184, 0, 60) (List.mem_of_getElem? (i := 1) rfl))
theorem dX9_joined_153 : decode cX9_joined 153 = .ok (.ireturn, 1) := dk172 (BX9_joined_1_1 (153, 172) (List.mem_of_getElem? (i := 8) rfl))
theorem dX9_joined_154 : decode cX9_joined 154 = .ok (.iload_n 1, 1) := dk27 (BX9_joined_1_1 (154, 27) (List.mem_of_getElem? (i := 9) rfl))
theorem dX9_joined_155 : decode cX9_joined 155 = .ok (.iload_n 2, 1) := dk28 (BX9_joined_1_1 (155, 28) (List.mem_of_getElem? (i := 10) rfl))
theorem dX9_joined_156 : decode cX9_joined 156 = .ok (.if_icmp .le 7, 3) := dk164 0 7 (BX9_joined_3_1 (156, 164, 0, 7) (List.mem_of_getElem? (i := 2) rfl))
theorem dX9_joined_159 : decode cX9_joined 159 = .ok (.iconst 1, 1) := dk4 (BX9_joined_1_1 (159, 4) (List.mem_of_getElem? (i := 11) rfl))
theorem dX9_joined_160 : decode cX9_joined 160 = .ok (.goto 4, 3) := dk167 0 4 (BX9_joined_3_1 (160, 167, 0, 4) (List.mem_of_getElem? (i := 3) rfl))
theorem dX9_joined_163 : decode cX9_joined 163 = .ok (.iconst 0, 1) := dk3 (BX9_joined_1_2 (163, 3) (List.mem_of_getElem? (i := 0) rfl))
theorem dX9_joined_164 : decode cX9_joined 164 = .ok (.invokestatic 60, 3) := dk184 0 60 (BX9_joined_3_1 (164, 184, 0, 60) (List.mem_of_getElem? (i := 4) rfl))
theorem dX9_joined_167 : decode cX9_joined 167 = .ok (.ireturn, 1) := dk172 (BX9_joined_1_2 (167, 172) (List.mem_of_getElem? (i := 1) rfl))
theorem dX9_joined_168 : decode cX9_joined 168 = .ok (.iload_n 1, 1) := dk27 (BX9_joined_1_2 (168, 27) (List.mem_of_getElem? (i := 2) rfl))
theorem dX9_joined_169 : decode cX9_joined 169 = .ok (.iload_n 2, 1) := dk28 (BX9_joined_1_2 (169, 28) (List.mem_of_getElem? (i := 3) rfl))
theorem dX9_joined_170 : decode cX9_joined 170 = .ok (.iadd, 1) := dk96 (BX9_joined_1_2 (170, 96) (List.mem_of_getElem? (i := 4) rfl))
theorem dX9_joined_171 : decode cX9_joined 171 = .ok (.ireturn, 1) := dk172 (BX9_joined_1_2 (171, 172) (List.mem_of_getElem? (i := 5) rfl))
theorem dX9_joined_172 : decode cX9_joined 172 = .ok (.iload_n 1, 1) := dk27 (BX9_joined_1_2 (172, 27) (List.mem_of_getElem? (i := 6) rfl))
theorem dX9_joined_173 : decode cX9_joined 173 = .ok (.iload_n 2, 1) := dk28 (BX9_joined_1_2 (173, 28) (List.mem_of_getElem? (i := 7) rfl))
theorem dX9_joined_174 : decode cX9_joined 174 = .ok (.isub, 1) := dk100 (BX9_joined_1_2 (174, 100) (List.mem_of_getElem? (i := 8) rfl))
theorem dX9_joined_175 : decode cX9_joined 175 = .ok (.ireturn, 1) := dk172 (BX9_joined_1_2 (175, 172) (List.mem_of_getElem? (i := 9) rfl))
theorem dX9_joined_176 : decode cX9_joined 176 = .ok (.iload_n 1, 1) := dk27 (BX9_joined_1_2 (176, 27) (List.mem_of_getElem? (i := 10) rfl))
theorem dX9_joined_177 : decode cX9_joined 177 = .ok (.iload_n 2, 1) := dk28 (BX9_joined_1_2 (177, 28) (List.mem_of_getElem? (i := 11) rfl))
theorem dX9_joined_178 : decode cX9_joined 178 = .ok (.imul, 1) := dk104 (BX9_joined_1_3 (178, 104) (List.mem_of_getElem? (i := 0) rfl))
theorem dX9_joined_179 : decode cX9_joined 179 = .ok (.ireturn, 1) := dk172 (BX9_joined_1_3 (179, 172) (List.mem_of_getElem? (i := 1) rfl))
theorem dX9_joined_180 : decode cX9_joined 180 = .ok (.iload_n 2, 1) := dk28 (BX9_joined_1_3 (180, 28) (List.mem_of_getElem? (i := 2) rfl))
theorem dX9_joined_181 : decode cX9_joined 181 = .ok (.ifCond .ne 7, 3) := dk154 0 7 (BX9_joined_3_1 (181, 154, 0, 7) (List.mem_of_getElem? (i := 5) rfl))
theorem dX9_joined_184 : decode cX9_joined 184 = .ok (.iconst 0, 1) := dk3 (BX9_joined_1_3 (184, 3) (List.mem_of_getElem? (i := 3) rfl))
theorem dX9_joined_185 : decode cX9_joined 185 = .ok (.goto 6, 3) := dk167 0 6 (BX9_joined_3_1 (185, 167, 0, 6) (List.mem_of_getElem? (i := 6) rfl))
theorem dX9_joined_188 : decode cX9_joined 188 = .ok (.iload_n 1, 1) := dk27 (BX9_joined_1_3 (188, 27) (List.mem_of_getElem? (i := 4) rfl))
theorem dX9_joined_189 : decode cX9_joined 189 = .ok (.iload_n 2, 1) := dk28 (BX9_joined_1_3 (189, 28) (List.mem_of_getElem? (i := 5) rfl))
theorem dX9_joined_190 : decode cX9_joined 190 = .ok (.idiv, 1) := dk108 (BX9_joined_1_3 (190, 108) (List.mem_of_getElem? (i := 6) rfl))
theorem dX9_joined_191 : decode cX9_joined 191 = .ok (.ireturn, 1) := dk172 (BX9_joined_1_3 (191, 172) (List.mem_of_getElem? (i := 7) rfl))
theorem dX9_joined_192 : decode cX9_joined 192 = .ok (.iload_n 2, 1) := dk28 (BX9_joined_1_3 (192, 28) (List.mem_of_getElem? (i := 8) rfl))
theorem dX9_joined_193 : decode cX9_joined 193 = .ok (.ifCond .ne 7, 3) := dk154 0 7 (BX9_joined_3_1 (193, 154, 0, 7) (List.mem_of_getElem? (i := 7) rfl))
theorem dX9_joined_196 : decode cX9_joined 196 = .ok (.iconst 0, 1) := dk3 (BX9_joined_1_3 (196, 3) (List.mem_of_getElem? (i := 9) rfl))
theorem dX9_joined_197 : decode cX9_joined 197 = .ok (.goto 6, 3) := dk167 0 6 (BX9_joined_3_1 (197, 167, 0, 6) (List.mem_of_getElem? (i := 8) rfl))
theorem dX9_joined_200 : decode cX9_joined 200 = .ok (.iload_n 1, 1) := dk27 (BX9_joined_1_3 (200, 27) (List.mem_of_getElem? (i := 10) rfl))
theorem dX9_joined_201 : decode cX9_joined 201 = .ok (.iload_n 2, 1) := dk28 (BX9_joined_1_3 (201, 28) (List.mem_of_getElem? (i := 11) rfl))
theorem dX9_joined_202 : decode cX9_joined 202 = .ok (.irem, 1) := dk112 (BX9_joined_1_4 (202, 112) (List.mem_of_getElem? (i := 0) rfl))
theorem dX9_joined_203 : decode cX9_joined 203 = .ok (.ireturn, 1) := dk172 (BX9_joined_1_4 (203, 172) (List.mem_of_getElem? (i := 1) rfl))
theorem dX9_joined_204 : decode cX9_joined 204 = .ok (.iconst 0, 1) := dk3 (BX9_joined_1_4 (204, 3) (List.mem_of_getElem? (i := 2) rfl))
theorem dX9_joined_205 : decode cX9_joined 205 = .ok (.ireturn, 1) := dk172 (BX9_joined_1_4 (205, 172) (List.mem_of_getElem? (i := 3) rfl))
set_option maxRecDepth 20000 in
theorem SX9_oddsOf : ∀ p : Nat, gb cX9_oddsOf p = segF [[3, 61, 3, 62, 29, 42, 180, 0, 32, 162, 0, 25, 28, 42, 180, 0, 15, 29, 46, 42, 180, 0, 18, 29, 46, 104, 96, 61, 132, 3, 1, 167, 255, 229, 28, 154, 0, 8, 16, 254, 167, 0, 22, 42, 180, 0, 15, 27, 46, 42, 180, 0, 18, 27, 46, 104, 17, 3, 232, 104, 28, 108, 172]] p := seg_gb (S := [[3, 61, 3, 62, 29, 42, 180, 0, 32, 162, 0, 25, 28, 42, 180, 0, 15, 29, 46, 42, 180, 0, 18, 29, 46, 104, 96, 61, 132, 3, 1, 167, 255, 229, 28, 154, 0, 8, 16, 254, 167, 0, 22, 42, 180, 0, 15, 27, 46, 42, 180, 0, 18, 27, 46, 104, 17, 3, 232, 104, 28, 108, 172]]) (by decide +kernel) (by decide +kernel)
set_option maxRecDepth 20000 in
theorem BX9_oddsOf_1_0 : ∀ q ∈ ([(0, 3), (1, 61), (2, 3), (3, 62), (4, 29), (5, 42), (12, 28), (13, 42), (17, 29), (18, 46), (19, 42), (23, 29)] : List (Nat × Nat)), gb cX9_oddsOf q.1 = some q.2 := seg_1 SX9_oddsOf _ (by decide +kernel)
set_option maxRecDepth 20000 in
theorem BX9_oddsOf_1_1 : ∀ q ∈ ([(24, 46), (25, 104), (26, 96), (27, 61), (34, 28), (43, 42), (47, 27), (48, 46), (49, 42), (53, 27), (54, 46), (55, 104)] : List (Nat × Nat)), gb cX9_oddsOf q.1 = some q.2 := seg_1 SX9_oddsOf _ (by decide +kernel)
set_option maxRecDepth 20000 in
theorem BX9_oddsOf_1_2 : ∀ q ∈ ([(59, 104), (60, 28), (61, 108), (62, 172)] : List (Nat × Nat)), gb cX9_oddsOf q.1 = some q.2 := seg_1 SX9_oddsOf _ (by decide +kernel)
set_option maxRecDepth 20000 in
theorem BX9_oddsOf_2_0 : ∀ q ∈ ([(38, 16, 254)] : List (Nat × Nat × Nat)), gb cX9_oddsOf q.1 = some q.2.1 ∧ gb cX9_oddsOf (q.1 + 1) = some q.2.2 := seg_2 SX9_oddsOf _ (by decide +kernel)
set_option maxRecDepth 20000 in
theorem BX9_oddsOf_3_0 : ∀ q ∈ ([(6, 180, 0, 32), (9, 162, 0, 25), (14, 180, 0, 15), (20, 180, 0, 18), (28, 132, 3, 1), (31, 167, 255, 229), (35, 154, 0, 8), (40, 167, 0, 22), (44, 180, 0, 15), (50, 180, 0, 18), (56, 17, 3, 232)] : List (Nat × Nat × Nat × Nat)), gb cX9_oddsOf q.1 = some q.2.1 ∧ gb cX9_oddsOf (q.1 + 1) = some q.2.2.1 ∧ gb cX9_oddsOf (q.1 + 2) = some q.2.2.2 := seg_3 SX9_oddsOf _ (by decide +kernel)
theorem dX9_oddsOf_0 : decode cX9_oddsOf 0 = .ok (.iconst 0, 1) := dk3 (BX9_oddsOf_1_0 (0, 3) (List.mem_of_getElem? (i := 0) rfl))
theorem dX9_oddsOf_1 : decode cX9_oddsOf 1 = .ok (.istore_n 2, 1) := dk61 (BX9_oddsOf_1_0 (1, 61) (List.mem_of_getElem? (i := 1) rfl))
theorem dX9_oddsOf_2 : decode cX9_oddsOf 2 = .ok (.iconst 0, 1) := dk3 (BX9_oddsOf_1_0 (2, 3) (List.mem_of_getElem? (i := 2) rfl))
theorem dX9_oddsOf_3 : decode cX9_oddsOf 3 = .ok (.istore_n 3, 1) := dk62 (BX9_oddsOf_1_0 (3, 62) (List.mem_of_getElem? (i := 3) rfl))
theorem dX9_oddsOf_4 : decode cX9_oddsOf 4 = .ok (.iload_n 3, 1) := dk29 (BX9_oddsOf_1_0 (4, 29) (List.mem_of_getElem? (i := 4) rfl))
theorem dX9_oddsOf_5 : decode cX9_oddsOf 5 = .ok (.aload_n 0, 1) := dk42 (BX9_oddsOf_1_0 (5, 42) (List.mem_of_getElem? (i := 5) rfl))
theorem dX9_oddsOf_6 : decode cX9_oddsOf 6 = .ok (.getfield 32, 3) := dk180 0 32 (BX9_oddsOf_3_0 (6, 180, 0, 32) (List.mem_of_getElem? (i := 0) rfl))
theorem dX9_oddsOf_9 : decode cX9_oddsOf 9 = .ok (.if_icmp .ge 25, 3) := dk162 0 25 (BX9_oddsOf_3_0 (9, 162, 0, 25) (List.mem_of_getElem? (i := 1) rfl))
theorem dX9_oddsOf_12 : decode cX9_oddsOf 12 = .ok (.iload_n 2, 1) := dk28 (BX9_oddsOf_1_0 (12, 28) (List.mem_of_getElem? (i := 6) rfl))
theorem dX9_oddsOf_13 : decode cX9_oddsOf 13 = .ok (.aload_n 0, 1) := dk42 (BX9_oddsOf_1_0 (13, 42) (List.mem_of_getElem? (i := 7) rfl))
theorem dX9_oddsOf_14 : decode cX9_oddsOf 14 = .ok (.getfield 15, 3) := dk180 0 15 (BX9_oddsOf_3_0 (14, 180, 0, 15) (List.mem_of_getElem? (i := 2) rfl))
theorem dX9_oddsOf_17 : decode cX9_oddsOf 17 = .ok (.iload_n 3, 1) := dk29 (BX9_oddsOf_1_0 (17, 29) (List.mem_of_getElem? (i := 8) rfl))
theorem dX9_oddsOf_18 : decode cX9_oddsOf 18 = .ok (.iaload, 1) := dk46 (BX9_oddsOf_1_0 (18, 46) (List.mem_of_getElem? (i := 9) rfl))
theorem dX9_oddsOf_19 : decode cX9_oddsOf 19 = .ok (.aload_n 0, 1) := dk42 (BX9_oddsOf_1_0 (19, 42) (List.mem_of_getElem? (i := 10) rfl))
theorem dX9_oddsOf_20 : decode cX9_oddsOf 20 = .ok (.getfield 18, 3) := dk180 0 18 (BX9_oddsOf_3_0 (20, 180, 0, 18) (List.mem_of_getElem? (i := 3) rfl))
theorem dX9_oddsOf_23 : decode cX9_oddsOf 23 = .ok (.iload_n 3, 1) := dk29 (BX9_oddsOf_1_0 (23, 29) (List.mem_of_getElem? (i := 11) rfl))
theorem dX9_oddsOf_24 : decode cX9_oddsOf 24 = .ok (.iaload, 1) := dk46 (BX9_oddsOf_1_1 (24, 46) (List.mem_of_getElem? (i := 0) rfl))
theorem dX9_oddsOf_25 : decode cX9_oddsOf 25 = .ok (.imul, 1) := dk104 (BX9_oddsOf_1_1 (25, 104) (List.mem_of_getElem? (i := 1) rfl))
theorem dX9_oddsOf_26 : decode cX9_oddsOf 26 = .ok (.iadd, 1) := dk96 (BX9_oddsOf_1_1 (26, 96) (List.mem_of_getElem? (i := 2) rfl))
theorem dX9_oddsOf_27 : decode cX9_oddsOf 27 = .ok (.istore_n 2, 1) := dk61 (BX9_oddsOf_1_1 (27, 61) (List.mem_of_getElem? (i := 3) rfl))
theorem dX9_oddsOf_28 : decode cX9_oddsOf 28 = .ok (.iinc 3 1, 3) := dk132 3 1 (BX9_oddsOf_3_0 (28, 132, 3, 1) (List.mem_of_getElem? (i := 4) rfl))
theorem dX9_oddsOf_31 : decode cX9_oddsOf 31 = .ok (.goto (-27), 3) := dk167 255 229 (BX9_oddsOf_3_0 (31, 167, 255, 229) (List.mem_of_getElem? (i := 5) rfl))
theorem dX9_oddsOf_34 : decode cX9_oddsOf 34 = .ok (.iload_n 2, 1) := dk28 (BX9_oddsOf_1_1 (34, 28) (List.mem_of_getElem? (i := 4) rfl))
theorem dX9_oddsOf_35 : decode cX9_oddsOf 35 = .ok (.ifCond .ne 8, 3) := dk154 0 8 (BX9_oddsOf_3_0 (35, 154, 0, 8) (List.mem_of_getElem? (i := 6) rfl))
theorem dX9_oddsOf_38 : decode cX9_oddsOf 38 = .ok (.bipush (-2), 2) := dk16 254 (BX9_oddsOf_2_0 (38, 16, 254) (List.mem_of_getElem? (i := 0) rfl))
theorem dX9_oddsOf_40 : decode cX9_oddsOf 40 = .ok (.goto 22, 3) := dk167 0 22 (BX9_oddsOf_3_0 (40, 167, 0, 22) (List.mem_of_getElem? (i := 7) rfl))
theorem dX9_oddsOf_43 : decode cX9_oddsOf 43 = .ok (.aload_n 0, 1) := dk42 (BX9_oddsOf_1_1 (43, 42) (List.mem_of_getElem? (i := 5) rfl))
theorem dX9_oddsOf_44 : decode cX9_oddsOf 44 = .ok (.getfield 15, 3) := dk180 0 15 (BX9_oddsOf_3_0 (44, 180, 0, 15) (List.mem_of_getElem? (i := 8) rfl))
theorem dX9_oddsOf_47 : decode cX9_oddsOf 47 = .ok (.iload_n 1, 1) := dk27 (BX9_oddsOf_1_1 (47, 27) (List.mem_of_getElem? (i := 6) rfl))
theorem dX9_oddsOf_48 : decode cX9_oddsOf 48 = .ok (.iaload, 1) := dk46 (BX9_oddsOf_1_1 (48, 46) (List.mem_of_getElem? (i := 7) rfl))
theorem dX9_oddsOf_49 : decode cX9_oddsOf 49 = .ok (.aload_n 0, 1) := dk42 (BX9_oddsOf_1_1 (49, 42) (List.mem_of_getElem? (i := 8) rfl))
theorem dX9_oddsOf_50 : decode cX9_oddsOf 50 = .ok (.getfield 18, 3) := dk180 0 18 (BX9_oddsOf_3_0 (50, 180, 0, 18) (List.mem_of_getElem? (i := 9) rfl))
theorem dX9_oddsOf_53 : decode cX9_oddsOf 53 = .ok (.iload_n 1, 1) := dk27 (BX9_oddsOf_1_1 (53, 27) (List.mem_of_getElem? (i := 9) rfl))
theorem dX9_oddsOf_54 : decode cX9_oddsOf 54 = .ok (.iaload, 1) := dk46 (BX9_oddsOf_1_1 (54, 46) (List.mem_of_getElem? (i := 10) rfl))
theorem dX9_oddsOf_55 : decode cX9_oddsOf 55 = .ok (.imul, 1) := dk104 (BX9_oddsOf_1_1 (55, 104) (List.mem_of_getElem? (i := 11) rfl))
theorem dX9_oddsOf_56 : decode cX9_oddsOf 56 = .ok (.sipush 1000, 3) := dk17 3 232 (BX9_oddsOf_3_0 (56, 17, 3, 232) (List.mem_of_getElem? (i := 10) rfl))
theorem dX9_oddsOf_59 : decode cX9_oddsOf 59 = .ok (.imul, 1) := dk104 (BX9_oddsOf_1_2 (59, 104) (List.mem_of_getElem? (i := 0) rfl))
theorem dX9_oddsOf_60 : decode cX9_oddsOf 60 = .ok (.iload_n 2, 1) := dk28 (BX9_oddsOf_1_2 (60, 28) (List.mem_of_getElem? (i := 1) rfl))
theorem dX9_oddsOf_61 : decode cX9_oddsOf 61 = .ok (.idiv, 1) := dk108 (BX9_oddsOf_1_2 (61, 108) (List.mem_of_getElem? (i := 2) rfl))
theorem dX9_oddsOf_62 : decode cX9_oddsOf 62 = .ok (.ireturn, 1) := dk172 (BX9_oddsOf_1_2 (62, 172) (List.mem_of_getElem? (i := 3) rfl))
set_option maxRecDepth 20000 in
theorem SX9_bestOne : ∀ p : Nat, gb cX9_bestOne p = segF [[3, 60, 4, 61, 28, 42, 180, 0, 32, 162, 0, 40, 42, 180, 0, 15, 28, 46, 42, 180, 0, 18, 28, 46, 104, 42, 180, 0, 15, 27, 46, 42, 180, 0, 18, 27, 46, 104, 164, 0, 5, 28, 60, 132, 2, 1, 167, 255, 214, 27, 172]] p := seg_gb (S := [[3, 60, 4, 61, 28, 42, 180, 0, 32, 162, 0, 40, 42, 180, 0, 15, 28, 46, 42, 180, 0, 18, 28, 46, 104, 42, 180, 0, 15, 27, 46, 42, 180, 0, 18, 27, 46, 104, 164, 0, 5, 28, 60, 132, 2, 1, 167, 255, 214, 27, 172]]) (by decide +kernel) (by decide +kernel)
set_option maxRecDepth 20000 in
theorem BX9_bestOne_1_0 : ∀ q ∈ ([(0, 3), (1, 60), (2, 4), (3, 61), (4, 28), (5, 42), (12, 42), (16, 28), (17, 46), (18, 42), (22, 28), (23, 46)] : List (Nat × Nat)), gb cX9_bestOne q.1 = some q.2 := seg_1 SX9_bestOne _ (by decide +kernel)
set_option maxRecDepth 20000 in
theorem BX9_bestOne_1_1 : ∀ q ∈ ([(24, 104), (25, 42), (29, 27), (30, 46), (31, 42), (35, 27), (36, 46), (37, 104), (41, 28), (42, 60), (49, 27), (50, 172)] : List (Nat × Nat)), gb cX9_bestOne q.1 = some q.2 := seg_1 SX9_bestOne _ (by decide +kernel)
set_option maxRecDepth 20000 in
theorem BX9_bestOne_3_0 : ∀ q ∈ ([(6, 180, 0, 32), (9, 162, 0, 40), (13, 180, 0, 15), (19, 180, 0, 18), (26, 180, 0, 15), (32, 180, 0, 18), (38, 164, 0, 5), (43, 132, 2, 1), (46, 167, 255, 214)] : List (Nat × Nat × Nat × Nat)), gb cX9_bestOne q.1 = some q.2.1 ∧ gb cX9_bestOne (q.1 + 1) = some q.2.2.1 ∧ gb cX9_bestOne (q.1 + 2) = some q.2.2.2 := seg_3 SX9_bestOne _ (by decide +kernel)
theorem dX9_bestOne_0 : decode cX9_bestOne 0 = .ok (.iconst 0, 1) := dk3 (BX9_bestOne_1_0 (0, 3) (List.mem_of_getElem? (i := 0) rfl))
theorem dX9_bestOne_1 : decode cX9_bestOne 1 = .ok (.istore_n 1, 1) := dk60 (BX9_bestOne_1_0 (1, 60) (List.mem_of_getElem? (i := 1) rfl))
theorem dX9_bestOne_2 : decode cX9_bestOne 2 = .ok (.iconst 1, 1) := dk4 (BX9_bestOne_1_0 (2, 4) (List.mem_of_getElem? (i := 2) rfl))
theorem dX9_bestOne_3 : decode cX9_bestOne 3 = .ok (.istore_n 2, 1) := dk61 (BX9_bestOne_1_0 (3, 61) (List.mem_of_getElem? (i := 3) rfl))
theorem dX9_bestOne_4 : decode cX9_bestOne 4 = .ok (.iload_n 2, 1) := dk28 (BX9_bestOne_1_0 (4, 28) (List.mem_of_getElem? (i := 4) rfl))
theorem dX9_bestOne_5 : decode cX9_bestOne 5 = .ok (.aload_n 0, 1) := dk42 (BX9_bestOne_1_0 (5, 42) (List.mem_of_getElem? (i := 5) rfl))
theorem dX9_bestOne_6 : decode cX9_bestOne 6 = .ok (.getfield 32, 3) := dk180 0 32 (BX9_bestOne_3_0 (6, 180, 0, 32) (List.mem_of_getElem? (i := 0) rfl))
theorem dX9_bestOne_9 : decode cX9_bestOne 9 = .ok (.if_icmp .ge 40, 3) := dk162 0 40 (BX9_bestOne_3_0 (9, 162, 0, 40) (List.mem_of_getElem? (i := 1) rfl))
theorem dX9_bestOne_12 : decode cX9_bestOne 12 = .ok (.aload_n 0, 1) := dk42 (BX9_bestOne_1_0 (12, 42) (List.mem_of_getElem? (i := 6) rfl))
theorem dX9_bestOne_13 : decode cX9_bestOne 13 = .ok (.getfield 15, 3) := dk180 0 15 (BX9_bestOne_3_0 (13, 180, 0, 15) (List.mem_of_getElem? (i := 2) rfl))
theorem dX9_bestOne_16 : decode cX9_bestOne 16 = .ok (.iload_n 2, 1) := dk28 (BX9_bestOne_1_0 (16, 28) (List.mem_of_getElem? (i := 7) rfl))
theorem dX9_bestOne_17 : decode cX9_bestOne 17 = .ok (.iaload, 1) := dk46 (BX9_bestOne_1_0 (17, 46) (List.mem_of_getElem? (i := 8) rfl))
theorem dX9_bestOne_18 : decode cX9_bestOne 18 = .ok (.aload_n 0, 1) := dk42 (BX9_bestOne_1_0 (18, 42) (List.mem_of_getElem? (i := 9) rfl))
theorem dX9_bestOne_19 : decode cX9_bestOne 19 = .ok (.getfield 18, 3) := dk180 0 18 (BX9_bestOne_3_0 (19, 180, 0, 18) (List.mem_of_getElem? (i := 3) rfl))
theorem dX9_bestOne_22 : decode cX9_bestOne 22 = .ok (.iload_n 2, 1) := dk28 (BX9_bestOne_1_0 (22, 28) (List.mem_of_getElem? (i := 10) rfl))
theorem dX9_bestOne_23 : decode cX9_bestOne 23 = .ok (.iaload, 1) := dk46 (BX9_bestOne_1_0 (23, 46) (List.mem_of_getElem? (i := 11) rfl))
theorem dX9_bestOne_24 : decode cX9_bestOne 24 = .ok (.imul, 1) := dk104 (BX9_bestOne_1_1 (24, 104) (List.mem_of_getElem? (i := 0) rfl))
theorem dX9_bestOne_25 : decode cX9_bestOne 25 = .ok (.aload_n 0, 1) := dk42 (BX9_bestOne_1_1 (25, 42) (List.mem_of_getElem? (i := 1) rfl))
theorem dX9_bestOne_26 : decode cX9_bestOne 26 = .ok (.getfield 15, 3) := dk180 0 15 (BX9_bestOne_3_0 (26, 180, 0, 15) (List.mem_of_getElem? (i := 4) rfl))
theorem dX9_bestOne_29 : decode cX9_bestOne 29 = .ok (.iload_n 1, 1) := dk27 (BX9_bestOne_1_1 (29, 27) (List.mem_of_getElem? (i := 2) rfl))
theorem dX9_bestOne_30 : decode cX9_bestOne 30 = .ok (.iaload, 1) := dk46 (BX9_bestOne_1_1 (30, 46) (List.mem_of_getElem? (i := 3) rfl))
theorem dX9_bestOne_31 : decode cX9_bestOne 31 = .ok (.aload_n 0, 1) := dk42 (BX9_bestOne_1_1 (31, 42) (List.mem_of_getElem? (i := 4) rfl))
theorem dX9_bestOne_32 : decode cX9_bestOne 32 = .ok (.getfield 18, 3) := dk180 0 18 (BX9_bestOne_3_0 (32, 180, 0, 18) (List.mem_of_getElem? (i := 5) rfl))
theorem dX9_bestOne_35 : decode cX9_bestOne 35 = .ok (.iload_n 1, 1) := dk27 (BX9_bestOne_1_1 (35, 27) (List.mem_of_getElem? (i := 5) rfl))
theorem dX9_bestOne_36 : decode cX9_bestOne 36 = .ok (.iaload, 1) := dk46 (BX9_bestOne_1_1 (36, 46) (List.mem_of_getElem? (i := 6) rfl))
theorem dX9_bestOne_37 : decode cX9_bestOne 37 = .ok (.imul, 1) := dk104 (BX9_bestOne_1_1 (37, 104) (List.mem_of_getElem? (i := 7) rfl))
theorem dX9_bestOne_38 : decode cX9_bestOne 38 = .ok (.if_icmp .le 5, 3) := dk164 0 5 (BX9_bestOne_3_0 (38, 164, 0, 5) (List.mem_of_getElem? (i := 6) rfl))
theorem dX9_bestOne_41 : decode cX9_bestOne 41 = .ok (.iload_n 2, 1) := dk28 (BX9_bestOne_1_1 (41, 28) (List.mem_of_getElem? (i := 8) rfl))
theorem dX9_bestOne_42 : decode cX9_bestOne 42 = .ok (.istore_n 1, 1) := dk60 (BX9_bestOne_1_1 (42, 60) (List.mem_of_getElem? (i := 9) rfl))
theorem dX9_bestOne_43 : decode cX9_bestOne 43 = .ok (.iinc 2 1, 3) := dk132 2 1 (BX9_bestOne_3_0 (43, 132, 2, 1) (List.mem_of_getElem? (i := 7) rfl))
theorem dX9_bestOne_46 : decode cX9_bestOne 46 = .ok (.goto (-42), 3) := dk167 255 214 (BX9_bestOne_3_0 (46, 167, 255, 214) (List.mem_of_getElem? (i := 8) rfl))
theorem dX9_bestOne_49 : decode cX9_bestOne 49 = .ok (.iload_n 1, 1) := dk27 (BX9_bestOne_1_1 (49, 27) (List.mem_of_getElem? (i := 10) rfl))
theorem dX9_bestOne_50 : decode cX9_bestOne 50 = .ok (.ireturn, 1) := dk172 (BX9_bestOne_1_1 (50, 172) (List.mem_of_getElem? (i := 11) rfl))
set_option maxRecDepth 20000 in
theorem SX10_init : ∀ p : Nat, gb cX10_init p = segF [[42, 183, 0, 3, 42, 16, 64, 188, 8, 181, 0, 9, 42, 3, 188, 10, 181, 0, 15, 177]] p := seg_gb (S := [[42, 183, 0, 3, 42, 16, 64, 188, 8, 181, 0, 9, 42, 3, 188, 10, 181, 0, 15, 177]]) (by decide +kernel) (by decide +kernel)
set_option maxRecDepth 20000 in
theorem BX10_init_1_0 : ∀ q ∈ ([(0, 42), (4, 42), (12, 42), (13, 3), (19, 177)] : List (Nat × Nat)), gb cX10_init q.1 = some q.2 := seg_1 SX10_init _ (by decide +kernel)
set_option maxRecDepth 20000 in
theorem BX10_init_2_0 : ∀ q ∈ ([(5, 16, 64), (7, 188, 8), (14, 188, 10)] : List (Nat × Nat × Nat)), gb cX10_init q.1 = some q.2.1 ∧ gb cX10_init (q.1 + 1) = some q.2.2 := seg_2 SX10_init _ (by decide +kernel)
set_option maxRecDepth 20000 in
theorem BX10_init_3_0 : ∀ q ∈ ([(1, 183, 0, 3), (9, 181, 0, 9), (16, 181, 0, 15)] : List (Nat × Nat × Nat × Nat)), gb cX10_init q.1 = some q.2.1 ∧ gb cX10_init (q.1 + 1) = some q.2.2.1 ∧ gb cX10_init (q.1 + 2) = some q.2.2.2 := seg_3 SX10_init _ (by decide +kernel)
theorem dX10_init_0 : decode cX10_init 0 = .ok (.aload_n 0, 1) := dk42 (BX10_init_1_0 (0, 42) (List.mem_of_getElem? (i := 0) rfl))
theorem dX10_init_1 : decode cX10_init 1 = .ok (.invokespecial 3, 3) := dk183 0 3 (BX10_init_3_0 (1, 183, 0, 3) (List.mem_of_getElem? (i := 0) rfl))
theorem dX10_init_4 : decode cX10_init 4 = .ok (.aload_n 0, 1) := dk42 (BX10_init_1_0 (4, 42) (List.mem_of_getElem? (i := 1) rfl))
theorem dX10_init_5 : decode cX10_init 5 = .ok (.bipush 64, 2) := dk16 64 (BX10_init_2_0 (5, 16, 64) (List.mem_of_getElem? (i := 0) rfl))
theorem dX10_init_7 : decode cX10_init 7 = .ok (.newarray .byte, 2) := dk188_8 (BX10_init_2_0 (7, 188, 8) (List.mem_of_getElem? (i := 1) rfl))
theorem dX10_init_9 : decode cX10_init 9 = .ok (.putfield 9, 3) := dk181 0 9 (BX10_init_3_0 (9, 181, 0, 9) (List.mem_of_getElem? (i := 1) rfl))
theorem dX10_init_12 : decode cX10_init 12 = .ok (.aload_n 0, 1) := dk42 (BX10_init_1_0 (12, 42) (List.mem_of_getElem? (i := 2) rfl))
theorem dX10_init_13 : decode cX10_init 13 = .ok (.iconst 0, 1) := dk3 (BX10_init_1_0 (13, 3) (List.mem_of_getElem? (i := 3) rfl))
theorem dX10_init_14 : decode cX10_init 14 = .ok (.newarray .int, 2) := dk188_10 (BX10_init_2_0 (14, 188, 10) (List.mem_of_getElem? (i := 2) rfl))
theorem dX10_init_16 : decode cX10_init 16 = .ok (.putfield 15, 3) := dk181 0 15 (BX10_init_3_0 (16, 181, 0, 15) (List.mem_of_getElem? (i := 2) rfl))
theorem dX10_init_19 : decode cX10_init 19 = .ok (.return_, 1) := dk177 (BX10_init_1_0 (19, 177) (List.mem_of_getElem? (i := 4) rfl))
set_option maxRecDepth 20000 in
theorem ggX10_take_J7_copyOf_9075b : GoodIn wsX10_take wsJ7_copyOf_9075b := goodIn_r _ [6, 7, 8, 9, 10, 11, 12, 13, 14, 15, 16, 17, 18, 19, 20, 21] rfl (by decide +kernel)
set_option maxRecDepth 20000 in
theorem gX10_take_J7_copyOf_9075b : GoodIn wsX10_take (va_wsS RX10 23 yJ7_copyOf_9075b wsJ7_copyOf_9075b) := goodIn_app (goodIn_r _ [3, 4, 5] rfl (by decide +kernel)) ggX10_take_J7_copyOf_9075b
set_option maxRecDepth 20000 in
theorem SX10_take : ∀ p : Nat, gb cX10_take p = segF [[42, 180, 0, 19, 27, 96, 17, 8, 0, 164, 0, 6, 16, 253, 172, 42, 180, 0, 19, 27, 96, 42, 180, 0, 9, 190, 164, 0, 21, 42, 42, 180, 0, 9, 5, 42, 180, 0, 9, 190, 104, 184, 0, 23, 181, 0, 9, 3, 62, 29, 27, 162, 0, 35, 42, 180, 0, 9, 42, 180, 0, 19, 28, 16], [8, 29, 104, 122, 145, 84, 42, 89, 180, 0, 19, 4, 96, 181, 0, 19, 132, 3, 1, 167, 255, 222, 42, 180, 0, 19, 172]] p := seg_gb (S := [[42, 180, 0, 19, 27, 96, 17, 8, 0, 164, 0, 6, 16, 253, 172, 42, 180, 0, 19, 27, 96, 42, 180, 0, 9, 190, 164, 0, 21, 42, 42, 180, 0, 9, 5, 42, 180, 0, 9, 190, 104, 184, 0, 23, 181, 0, 9, 3, 62, 29, 27, 162, 0, 35, 42, 180, 0, 9, 42, 180, 0, 19, 28, 16], [8, 29, 104, 122, 145, 84, 42, 89, 180, 0, 19, 4, 96, 181, 0, 19, 132, 3, 1, 167, 255, 222, 42, 180, 0, 19, 172]]) (by decide +kernel) (by decide +kernel)
set_option maxRecDepth 20000 in
theorem BX10_take_1_0 : ∀ q ∈ ([(0, 42), (4, 27), (5, 96), (14, 172), (15, 42), (19, 27), (20, 96), (21, 42), (25, 190), (29, 42), (30, 42), (34, 5)] : List (Nat × Nat)), gb cX10_take q.1 = some q.2 := seg_1 SX10_take _ (by decide +kernel)
set_option maxRecDepth 20000 in
theorem BX10_take_1_1 : ∀ q ∈ ([(35, 42), (39, 190), (40, 104), (47, 3), (48, 62), (49, 29), (50, 27), (54, 42), (58, 42), (62, 28), (65, 29), (66, 104)] : List (Nat × Nat)), gb cX10_take q.1 = some q.2 := seg_1 SX10_take _ (by decide +kernel)
set_option maxRecDepth 20000 in
theorem BX10_take_1_2 : ∀ q ∈ ([(67, 122), (68, 145), (69, 84), (70, 42), (71, 89), (75, 4), (76, 96), (86, 42), (90, 172)] : List (Nat × Nat)), gb cX10_take q.1 = some q.2 := seg_1 SX10_take _ (by decide +kernel)
set_option maxRecDepth 20000 in
theorem BX10_take_2_0 : ∀ q ∈ ([(12, 16, 253), (63, 16, 8)] : List (Nat × Nat × Nat)), gb cX10_take q.1 = some q.2.1 ∧ gb cX10_take (q.1 + 1) = some q.2.2 := seg_2 SX10_take _ (by decide +kernel)
set_option maxRecDepth 20000 in
theorem BX10_take_3_0 : ∀ q ∈ ([(1, 180, 0, 19), (6, 17, 8, 0), (9, 164, 0, 6), (16, 180, 0, 19), (22, 180, 0, 9), (26, 164, 0, 21), (31, 180, 0, 9), (36, 180, 0, 9), (41, 184, 0, 23), (44, 181, 0, 9), (51, 162, 0, 35), (55, 180, 0, 9)] : List (Nat × Nat × Nat × Nat)), gb cX10_take q.1 = some q.2.1 ∧ gb cX10_take (q.1 + 1) = some q.2.2.1 ∧ gb cX10_take (q.1 + 2) = some q.2.2.2 := seg_3 SX10_take _ (by decide +kernel)
set_option maxRecDepth 20000 in
theorem BX10_take_3_1 : ∀ q ∈ ([(59, 180, 0, 19), (72, 180, 0, 19), (77, 181, 0, 19), (80, 132, 3, 1), (83, 167, 255, 222), (87, 180, 0, 19)] : List (Nat × Nat × Nat × Nat)), gb cX10_take q.1 = some q.2.1 ∧ gb cX10_take (q.1 + 1) = some q.2.2.1 ∧ gb cX10_take (q.1 + 2) = some q.2.2.2 := seg_3 SX10_take _ (by decide +kernel)
theorem dX10_take_0 : decode cX10_take 0 = .ok (.aload_n 0, 1) := dk42 (BX10_take_1_0 (0, 42) (List.mem_of_getElem? (i := 0) rfl))
theorem dX10_take_1 : decode cX10_take 1 = .ok (.getfield 19, 3) := dk180 0 19 (BX10_take_3_0 (1, 180, 0, 19) (List.mem_of_getElem? (i := 0) rfl))
theorem dX10_take_4 : decode cX10_take 4 = .ok (.iload_n 1, 1) := dk27 (BX10_take_1_0 (4, 27) (List.mem_of_getElem? (i := 1) rfl))
theorem dX10_take_5 : decode cX10_take 5 = .ok (.iadd, 1) := dk96 (BX10_take_1_0 (5, 96) (List.mem_of_getElem? (i := 2) rfl))
theorem dX10_take_6 : decode cX10_take 6 = .ok (.sipush 2048, 3) := dk17 8 0 (BX10_take_3_0 (6, 17, 8, 0) (List.mem_of_getElem? (i := 1) rfl))
theorem dX10_take_9 : decode cX10_take 9 = .ok (.if_icmp .le 6, 3) := dk164 0 6 (BX10_take_3_0 (9, 164, 0, 6) (List.mem_of_getElem? (i := 2) rfl))
theorem dX10_take_12 : decode cX10_take 12 = .ok (.bipush (-3), 2) := dk16 253 (BX10_take_2_0 (12, 16, 253) (List.mem_of_getElem? (i := 0) rfl))
theorem dX10_take_14 : decode cX10_take 14 = .ok (.ireturn, 1) := dk172 (BX10_take_1_0 (14, 172) (List.mem_of_getElem? (i := 3) rfl))
theorem dX10_take_15 : decode cX10_take 15 = .ok (.aload_n 0, 1) := dk42 (BX10_take_1_0 (15, 42) (List.mem_of_getElem? (i := 4) rfl))
theorem dX10_take_16 : decode cX10_take 16 = .ok (.getfield 19, 3) := dk180 0 19 (BX10_take_3_0 (16, 180, 0, 19) (List.mem_of_getElem? (i := 3) rfl))
theorem dX10_take_19 : decode cX10_take 19 = .ok (.iload_n 1, 1) := dk27 (BX10_take_1_0 (19, 27) (List.mem_of_getElem? (i := 5) rfl))
theorem dX10_take_20 : decode cX10_take 20 = .ok (.iadd, 1) := dk96 (BX10_take_1_0 (20, 96) (List.mem_of_getElem? (i := 6) rfl))
theorem dX10_take_21 : decode cX10_take 21 = .ok (.aload_n 0, 1) := dk42 (BX10_take_1_0 (21, 42) (List.mem_of_getElem? (i := 7) rfl))
theorem dX10_take_22 : decode cX10_take 22 = .ok (.getfield 9, 3) := dk180 0 9 (BX10_take_3_0 (22, 180, 0, 9) (List.mem_of_getElem? (i := 4) rfl))
theorem dX10_take_25 : decode cX10_take 25 = .ok (.arraylength, 1) := dk190 (BX10_take_1_0 (25, 190) (List.mem_of_getElem? (i := 8) rfl))
theorem dX10_take_26 : decode cX10_take 26 = .ok (.if_icmp .le 21, 3) := dk164 0 21 (BX10_take_3_0 (26, 164, 0, 21) (List.mem_of_getElem? (i := 5) rfl))
theorem dX10_take_29 : decode cX10_take 29 = .ok (.aload_n 0, 1) := dk42 (BX10_take_1_0 (29, 42) (List.mem_of_getElem? (i := 9) rfl))
theorem dX10_take_30 : decode cX10_take 30 = .ok (.aload_n 0, 1) := dk42 (BX10_take_1_0 (30, 42) (List.mem_of_getElem? (i := 10) rfl))
theorem dX10_take_31 : decode cX10_take 31 = .ok (.getfield 9, 3) := dk180 0 9 (BX10_take_3_0 (31, 180, 0, 9) (List.mem_of_getElem? (i := 6) rfl))
theorem dX10_take_34 : decode cX10_take 34 = .ok (.iconst 2, 1) := dk5 (BX10_take_1_0 (34, 5) (List.mem_of_getElem? (i := 11) rfl))
theorem dX10_take_35 : decode cX10_take 35 = .ok (.aload_n 0, 1) := dk42 (BX10_take_1_1 (35, 42) (List.mem_of_getElem? (i := 0) rfl))
theorem dX10_take_36 : decode cX10_take 36 = .ok (.getfield 9, 3) := dk180 0 9 (BX10_take_3_0 (36, 180, 0, 9) (List.mem_of_getElem? (i := 7) rfl))
theorem dX10_take_39 : decode cX10_take 39 = .ok (.arraylength, 1) := dk190 (BX10_take_1_1 (39, 190) (List.mem_of_getElem? (i := 1) rfl))
theorem dX10_take_40 : decode cX10_take 40 = .ok (.imul, 1) := dk104 (BX10_take_1_1 (40, 104) (List.mem_of_getElem? (i := 2) rfl))
theorem dX10_take_41 : decode cX10_take 41 = .ok (.invokestatic 23, 3) := dk184 0 23 (BX10_take_3_0 (41, 184, 0, 23) (List.mem_of_getElem? (i := 8) rfl))
theorem dX10_take_44 : decode cX10_take 44 = .ok (.putfield 9, 3) := dk181 0 9 (BX10_take_3_0 (44, 181, 0, 9) (List.mem_of_getElem? (i := 9) rfl))
theorem dX10_take_47 : decode cX10_take 47 = .ok (.iconst 0, 1) := dk3 (BX10_take_1_1 (47, 3) (List.mem_of_getElem? (i := 3) rfl))
theorem dX10_take_48 : decode cX10_take 48 = .ok (.istore_n 3, 1) := dk62 (BX10_take_1_1 (48, 62) (List.mem_of_getElem? (i := 4) rfl))
theorem dX10_take_49 : decode cX10_take 49 = .ok (.iload_n 3, 1) := dk29 (BX10_take_1_1 (49, 29) (List.mem_of_getElem? (i := 5) rfl))
theorem dX10_take_50 : decode cX10_take 50 = .ok (.iload_n 1, 1) := dk27 (BX10_take_1_1 (50, 27) (List.mem_of_getElem? (i := 6) rfl))
theorem dX10_take_51 : decode cX10_take 51 = .ok (.if_icmp .ge 35, 3) := dk162 0 35 (BX10_take_3_0 (51, 162, 0, 35) (List.mem_of_getElem? (i := 10) rfl))
theorem dX10_take_54 : decode cX10_take 54 = .ok (.aload_n 0, 1) := dk42 (BX10_take_1_1 (54, 42) (List.mem_of_getElem? (i := 7) rfl))
theorem dX10_take_55 : decode cX10_take 55 = .ok (.getfield 9, 3) := dk180 0 9 (BX10_take_3_0 (55, 180, 0, 9) (List.mem_of_getElem? (i := 11) rfl))
theorem dX10_take_58 : decode cX10_take 58 = .ok (.aload_n 0, 1) := dk42 (BX10_take_1_1 (58, 42) (List.mem_of_getElem? (i := 8) rfl))
theorem dX10_take_59 : decode cX10_take 59 = .ok (.getfield 19, 3) := dk180 0 19 (BX10_take_3_1 (59, 180, 0, 19) (List.mem_of_getElem? (i := 0) rfl))
theorem dX10_take_62 : decode cX10_take 62 = .ok (.iload_n 2, 1) := dk28 (BX10_take_1_1 (62, 28) (List.mem_of_getElem? (i := 9) rfl))
theorem dX10_take_63 : decode cX10_take 63 = .ok (.bipush 8, 2) := dk16 8 (BX10_take_2_0 (63, 16, 8) (List.mem_of_getElem? (i := 1) rfl))
theorem dX10_take_65 : decode cX10_take 65 = .ok (.iload_n 3, 1) := dk29 (BX10_take_1_1 (65, 29) (List.mem_of_getElem? (i := 10) rfl))
theorem dX10_take_66 : decode cX10_take 66 = .ok (.imul, 1) := dk104 (BX10_take_1_1 (66, 104) (List.mem_of_getElem? (i := 11) rfl))
theorem dX10_take_67 : decode cX10_take 67 = .ok (.ishr, 1) := dk122 (BX10_take_1_2 (67, 122) (List.mem_of_getElem? (i := 0) rfl))
theorem dX10_take_68 : decode cX10_take 68 = .ok (.i2b, 1) := dk145 (BX10_take_1_2 (68, 145) (List.mem_of_getElem? (i := 1) rfl))
theorem dX10_take_69 : decode cX10_take 69 = .ok (.bastore, 1) := dk84 (BX10_take_1_2 (69, 84) (List.mem_of_getElem? (i := 2) rfl))
theorem dX10_take_70 : decode cX10_take 70 = .ok (.aload_n 0, 1) := dk42 (BX10_take_1_2 (70, 42) (List.mem_of_getElem? (i := 3) rfl))
theorem dX10_take_71 : decode cX10_take 71 = .ok (.dup, 1) := dk89 (BX10_take_1_2 (71, 89) (List.mem_of_getElem? (i := 4) rfl))
theorem dX10_take_72 : decode cX10_take 72 = .ok (.getfield 19, 3) := dk180 0 19 (BX10_take_3_1 (72, 180, 0, 19) (List.mem_of_getElem? (i := 1) rfl))
theorem dX10_take_75 : decode cX10_take 75 = .ok (.iconst 1, 1) := dk4 (BX10_take_1_2 (75, 4) (List.mem_of_getElem? (i := 5) rfl))
theorem dX10_take_76 : decode cX10_take 76 = .ok (.iadd, 1) := dk96 (BX10_take_1_2 (76, 96) (List.mem_of_getElem? (i := 6) rfl))
theorem dX10_take_77 : decode cX10_take 77 = .ok (.putfield 19, 3) := dk181 0 19 (BX10_take_3_1 (77, 181, 0, 19) (List.mem_of_getElem? (i := 2) rfl))
theorem dX10_take_80 : decode cX10_take 80 = .ok (.iinc 3 1, 3) := dk132 3 1 (BX10_take_3_1 (80, 132, 3, 1) (List.mem_of_getElem? (i := 3) rfl))
theorem dX10_take_83 : decode cX10_take 83 = .ok (.goto (-34), 3) := dk167 255 222 (BX10_take_3_1 (83, 167, 255, 222) (List.mem_of_getElem? (i := 4) rfl))
theorem dX10_take_86 : decode cX10_take 86 = .ok (.aload_n 0, 1) := dk42 (BX10_take_1_2 (86, 42) (List.mem_of_getElem? (i := 7) rfl))
theorem dX10_take_87 : decode cX10_take 87 = .ok (.getfield 19, 3) := dk180 0 19 (BX10_take_3_1 (87, 180, 0, 19) (List.mem_of_getElem? (i := 5) rfl))
theorem dX10_take_90 : decode cX10_take 90 = .ok (.ireturn, 1) := dk172 (BX10_take_1_2 (90, 172) (List.mem_of_getElem? (i := 8) rfl))
set_option maxRecDepth 20000 in
theorem ggX10_read_X10_readLine : GoodIn wsX10_read wsX10_readLine := gcons (goodIn_g ch_wsX10_read_flat gd_wsX10_read _ [(1, 9)] rfl) (goodIn_app (goodIn_app (goodIn_g ch_wsX10_read_flat gd_wsX10_read _ [(1, 10), (1, 11), (1, 12), (1, 8), (1, 13), (1, 2), (1, 0), (1, 14), (1, 15), (1, 16), (1, 17), (1, 18), (1, 19), (1, 20), (1, 21), (1, 22), (1, 23), (2, 0), (2, 1), (2, 2), (2, 3), (2, 4), (1, 1), (1, 4)] rfl) (goodIn_app (goodIn_g ch_wsX10_read_flat gd_wsX10_read _ [(2, 5), (2, 6), (2, 7), (2, 8), (2, 9), (2, 10), (2, 11), (2, 12), (2, 13), (2, 14), (2, 15), (2, 16), (2, 17), (2, 18), (2, 19), (2, 20), (2, 21), (2, 22), (2, 23), (3, 0), (3, 1), (3, 2), (3, 3), (3, 4)] rfl) (goodIn_app (goodIn_g ch_wsX10_read_flat gd_wsX10_read _ [(3, 5), (3, 6), (3, 7), (3, 8), (3, 9), (3, 10), (3, 11), (3, 12), (3, 13), (3, 14), (3, 15), (3, 16), (3, 17), (3, 18), (3, 19), (3, 20), (3, 21), (3, 22), (3, 23), (4, 0), (4, 1), (4, 2), (4, 3), (4, 4)] rfl) (goodIn_app (goodIn_g ch_wsX10_read_flat gd_wsX10_read _ [(4, 5), (4, 6), (4, 7), (4, 8), (4, 9), (4, 10), (4, 11), (4, 12), (4, 13), (4, 14), (4, 15), (4, 16), (4, 17), (4, 18), (4, 19), (4, 20), (4, 21), (4, 22), (4, 23), (5, 0), (5, 1), (5, 2), (5, 3), (5, 4)] rfl) (goodIn_app (goodIn_g ch_wsX10_read_flat gd_wsX10_read _ [(5, 5), (5, 6), (5, 7), (5, 8), (5, 9), (5, 10), (5, 11), (5, 12), (5, 13), (5, 14), (5, 15), (5, 16), (5, 17), (5, 18), (5, 19), (5, 20), (5, 21), (5, 22), (5, 23), (6, 0), (6, 1), (6, 2), (6, 3), (6, 4)] rfl) (goodIn_g ch_wsX10_read_flat gd_wsX10_read _ [(6, 5), (6, 6), (6, 7), (6, 8), (6, 9)] rfl)))))) (gchunk ch_wsX10_read_flat gd_wsX10_read 7 rfl))
set_option maxRecDepth 20000 in
theorem gX10_read_X10_readLine : GoodIn wsX10_read (wsV RX10 35 RX10 yX10_readLine wsX10_readLine) := goodIn_app (goodIn_g ch_wsX10_read_flat gd_wsX10_read _ [(1, 5), (1, 6), (1, 7), (1, 8)] rfl) ggX10_read_X10_readLine
set_option maxRecDepth 20000 in
theorem ggX10_read_X10_takes : GoodIn wsX10_read wsX10_takes := gcons (goodIn_g ch_wsX10_read_flat gd_wsX10_read _ [(6, 9)] rfl) (goodIn_app (goodIn_g ch_wsX10_read_flat gd_wsX10_read _ [(1, 0), (1, 17), (1, 18), (1, 19), (1, 8), (1, 20), (1, 2), (1, 21)] rfl) (gchunk ch_wsX10_read_flat gd_wsX10_read 7 rfl))
set_option maxRecDepth 20000 in
theorem gX10_read_X10_takes : GoodIn wsX10_read (wsV RX10 39 RX10 yX10_takes wsX10_takes) := goodIn_app (goodIn_g ch_wsX10_read_flat gd_wsX10_read _ [(6, 6), (6, 7), (6, 8), (1, 8)] rfl) ggX10_read_X10_takes
set_option maxRecDepth 20000 in
theorem SX10_read : ∀ p : Nat, gb cX10_read p = segF [[42, 3, 181, 0, 29, 42, 3, 181, 0, 32, 42, 42, 180, 0, 19, 4, 96, 188, 10, 181, 0, 15, 3, 60, 27, 42, 180, 0, 19, 163, 0, 42, 42, 182, 0, 35, 154, 0, 5, 3, 172, 42, 180, 0, 29, 42, 180, 0, 19, 160, 0, 5, 4, 172, 42, 16, 59, 182, 0, 39, 154, 0, 5, 3], [172, 132, 1, 1, 167, 255, 212, 3, 172]] p := seg_gb (S := [[42, 3, 181, 0, 29, 42, 3, 181, 0, 32, 42, 42, 180, 0, 19, 4, 96, 188, 10, 181, 0, 15, 3, 60, 27, 42, 180, 0, 19, 163, 0, 42, 42, 182, 0, 35, 154, 0, 5, 3, 172, 42, 180, 0, 29, 42, 180, 0, 19, 160, 0, 5, 4, 172, 42, 16, 59, 182, 0, 39, 154, 0, 5, 3], [172, 132, 1, 1, 167, 255, 212, 3, 172]]) (by decide +kernel) (by decide +kernel)
set_option maxRecDepth 20000 in
theorem BX10_read_1_0 : ∀ q ∈ ([(0, 42), (1, 3), (5, 42), (6, 3), (10, 42), (11, 42), (15, 4), (16, 96), (22, 3), (23, 60), (24, 27), (25, 42)] : List (Nat × Nat)), gb cX10_read q.1 = some q.2 := seg_1 SX10_read _ (by decide +kernel)
set_option maxRecDepth 20000 in
theorem BX10_read_1_1 : ∀ q ∈ ([(32, 42), (39, 3), (40, 172), (41, 42), (45, 42), (52, 4), (53, 172), (54, 42), (63, 3), (64, 172), (71, 3), (72, 172)] : List (Nat × Nat)), gb cX10_read q.1 = some q.2 := seg_1 SX10_read _ (by decide +kernel)
set_option maxRecDepth 20000 in
theorem BX10_read_2_0 : ∀ q ∈ ([(17, 188, 10), (55, 16, 59)] : List (Nat × Nat × Nat)), gb cX10_read q.1 = some q.2.1 ∧ gb cX10_read (q.1 + 1) = some q.2.2 := seg_2 SX10_read _ (by decide +kernel)
set_option maxRecDepth 20000 in
theorem BX10_read_3_0 : ∀ q ∈ ([(2, 181, 0, 29), (7, 181, 0, 32), (12, 180, 0, 19), (19, 181, 0, 15), (26, 180, 0, 19), (29, 163, 0, 42), (33, 182, 0, 35), (36, 154, 0, 5), (42, 180, 0, 29), (46, 180, 0, 19), (49, 160, 0, 5), (57, 182, 0, 39)] : List (Nat × Nat × Nat × Nat)), gb cX10_read q.1 = some q.2.1 ∧ gb cX10_read (q.1 + 1) = some q.2.2.1 ∧ gb cX10_read (q.1 + 2) = some q.2.2.2 := seg_3 SX10_read _ (by decide +kernel)
set_option maxRecDepth 20000 in
theorem BX10_read_3_1 : ∀ q ∈ ([(60, 154, 0, 5), (65, 132, 1, 1), (68, 167, 255, 212)] : List (Nat × Nat × Nat × Nat)), gb cX10_read q.1 = some q.2.1 ∧ gb cX10_read (q.1 + 1) = some q.2.2.1 ∧ gb cX10_read (q.1 + 2) = some q.2.2.2 := seg_3 SX10_read _ (by decide +kernel)
theorem dX10_read_0 : decode cX10_read 0 = .ok (.aload_n 0, 1) := dk42 (BX10_read_1_0 (0, 42) (List.mem_of_getElem? (i := 0) rfl))
theorem dX10_read_1 : decode cX10_read 1 = .ok (.iconst 0, 1) := dk3 (BX10_read_1_0 (1, 3) (List.mem_of_getElem? (i := 1) rfl))
theorem dX10_read_2 : decode cX10_read 2 = .ok (.putfield 29, 3) := dk181 0 29 (BX10_read_3_0 (2, 181, 0, 29) (List.mem_of_getElem? (i := 0) rfl))
theorem dX10_read_5 : decode cX10_read 5 = .ok (.aload_n 0, 1) := dk42 (BX10_read_1_0 (5, 42) (List.mem_of_getElem? (i := 2) rfl))
theorem dX10_read_6 : decode cX10_read 6 = .ok (.iconst 0, 1) := dk3 (BX10_read_1_0 (6, 3) (List.mem_of_getElem? (i := 3) rfl))
theorem dX10_read_7 : decode cX10_read 7 = .ok (.putfield 32, 3) := dk181 0 32 (BX10_read_3_0 (7, 181, 0, 32) (List.mem_of_getElem? (i := 1) rfl))
theorem dX10_read_10 : decode cX10_read 10 = .ok (.aload_n 0, 1) := dk42 (BX10_read_1_0 (10, 42) (List.mem_of_getElem? (i := 4) rfl))
theorem dX10_read_11 : decode cX10_read 11 = .ok (.aload_n 0, 1) := dk42 (BX10_read_1_0 (11, 42) (List.mem_of_getElem? (i := 5) rfl))
theorem dX10_read_12 : decode cX10_read 12 = .ok (.getfield 19, 3) := dk180 0 19 (BX10_read_3_0 (12, 180, 0, 19) (List.mem_of_getElem? (i := 2) rfl))
theorem dX10_read_15 : decode cX10_read 15 = .ok (.iconst 1, 1) := dk4 (BX10_read_1_0 (15, 4) (List.mem_of_getElem? (i := 6) rfl))
theorem dX10_read_16 : decode cX10_read 16 = .ok (.iadd, 1) := dk96 (BX10_read_1_0 (16, 96) (List.mem_of_getElem? (i := 7) rfl))
theorem dX10_read_17 : decode cX10_read 17 = .ok (.newarray .int, 2) := dk188_10 (BX10_read_2_0 (17, 188, 10) (List.mem_of_getElem? (i := 0) rfl))
theorem dX10_read_19 : decode cX10_read 19 = .ok (.putfield 15, 3) := dk181 0 15 (BX10_read_3_0 (19, 181, 0, 15) (List.mem_of_getElem? (i := 3) rfl))
theorem dX10_read_22 : decode cX10_read 22 = .ok (.iconst 0, 1) := dk3 (BX10_read_1_0 (22, 3) (List.mem_of_getElem? (i := 8) rfl))
theorem dX10_read_23 : decode cX10_read 23 = .ok (.istore_n 1, 1) := dk60 (BX10_read_1_0 (23, 60) (List.mem_of_getElem? (i := 9) rfl))
theorem dX10_read_24 : decode cX10_read 24 = .ok (.iload_n 1, 1) := dk27 (BX10_read_1_0 (24, 27) (List.mem_of_getElem? (i := 10) rfl))
theorem dX10_read_25 : decode cX10_read 25 = .ok (.aload_n 0, 1) := dk42 (BX10_read_1_0 (25, 42) (List.mem_of_getElem? (i := 11) rfl))
theorem dX10_read_26 : decode cX10_read 26 = .ok (.getfield 19, 3) := dk180 0 19 (BX10_read_3_0 (26, 180, 0, 19) (List.mem_of_getElem? (i := 4) rfl))
theorem dX10_read_29 : decode cX10_read 29 = .ok (.if_icmp .gt 42, 3) := dk163 0 42 (BX10_read_3_0 (29, 163, 0, 42) (List.mem_of_getElem? (i := 5) rfl))
theorem dX10_read_32 : decode cX10_read 32 = .ok (.aload_n 0, 1) := dk42 (BX10_read_1_1 (32, 42) (List.mem_of_getElem? (i := 0) rfl))
theorem dX10_read_33 : decode cX10_read 33 = .ok (.invokevirtual 35, 3) := dk182 0 35 (BX10_read_3_0 (33, 182, 0, 35) (List.mem_of_getElem? (i := 6) rfl))
theorem dX10_read_36 : decode cX10_read 36 = .ok (.ifCond .ne 5, 3) := dk154 0 5 (BX10_read_3_0 (36, 154, 0, 5) (List.mem_of_getElem? (i := 7) rfl))
theorem dX10_read_39 : decode cX10_read 39 = .ok (.iconst 0, 1) := dk3 (BX10_read_1_1 (39, 3) (List.mem_of_getElem? (i := 1) rfl))
theorem dX10_read_40 : decode cX10_read 40 = .ok (.ireturn, 1) := dk172 (BX10_read_1_1 (40, 172) (List.mem_of_getElem? (i := 2) rfl))
theorem dX10_read_41 : decode cX10_read 41 = .ok (.aload_n 0, 1) := dk42 (BX10_read_1_1 (41, 42) (List.mem_of_getElem? (i := 3) rfl))
theorem dX10_read_42 : decode cX10_read 42 = .ok (.getfield 29, 3) := dk180 0 29 (BX10_read_3_0 (42, 180, 0, 29) (List.mem_of_getElem? (i := 8) rfl))
theorem dX10_read_45 : decode cX10_read 45 = .ok (.aload_n 0, 1) := dk42 (BX10_read_1_1 (45, 42) (List.mem_of_getElem? (i := 4) rfl))
theorem dX10_read_46 : decode cX10_read 46 = .ok (.getfield 19, 3) := dk180 0 19 (BX10_read_3_0 (46, 180, 0, 19) (List.mem_of_getElem? (i := 9) rfl))
theorem dX10_read_49 : decode cX10_read 49 = .ok (.if_icmp .ne 5, 3) := dk160 0 5 (BX10_read_3_0 (49, 160, 0, 5) (List.mem_of_getElem? (i := 10) rfl))
theorem dX10_read_52 : decode cX10_read 52 = .ok (.iconst 1, 1) := dk4 (BX10_read_1_1 (52, 4) (List.mem_of_getElem? (i := 5) rfl))
theorem dX10_read_53 : decode cX10_read 53 = .ok (.ireturn, 1) := dk172 (BX10_read_1_1 (53, 172) (List.mem_of_getElem? (i := 6) rfl))
theorem dX10_read_54 : decode cX10_read 54 = .ok (.aload_n 0, 1) := dk42 (BX10_read_1_1 (54, 42) (List.mem_of_getElem? (i := 7) rfl))
theorem dX10_read_55 : decode cX10_read 55 = .ok (.bipush 59, 2) := dk16 59 (BX10_read_2_0 (55, 16, 59) (List.mem_of_getElem? (i := 1) rfl))
theorem dX10_read_57 : decode cX10_read 57 = .ok (.invokevirtual 39, 3) := dk182 0 39 (BX10_read_3_0 (57, 182, 0, 39) (List.mem_of_getElem? (i := 11) rfl))
theorem dX10_read_60 : decode cX10_read 60 = .ok (.ifCond .ne 5, 3) := dk154 0 5 (BX10_read_3_1 (60, 154, 0, 5) (List.mem_of_getElem? (i := 0) rfl))
theorem dX10_read_63 : decode cX10_read 63 = .ok (.iconst 0, 1) := dk3 (BX10_read_1_1 (63, 3) (List.mem_of_getElem? (i := 8) rfl))
theorem dX10_read_64 : decode cX10_read 64 = .ok (.ireturn, 1) := dk172 (BX10_read_1_1 (64, 172) (List.mem_of_getElem? (i := 9) rfl))
theorem dX10_read_65 : decode cX10_read 65 = .ok (.iinc 1 1, 3) := dk132 1 1 (BX10_read_3_1 (65, 132, 1, 1) (List.mem_of_getElem? (i := 1) rfl))
theorem dX10_read_68 : decode cX10_read 68 = .ok (.goto (-44), 3) := dk167 255 212 (BX10_read_3_1 (68, 167, 255, 212) (List.mem_of_getElem? (i := 2) rfl))
theorem dX10_read_71 : decode cX10_read 71 = .ok (.iconst 0, 1) := dk3 (BX10_read_1_1 (71, 3) (List.mem_of_getElem? (i := 10) rfl))
theorem dX10_read_72 : decode cX10_read 72 = .ok (.ireturn, 1) := dk172 (BX10_read_1_1 (72, 172) (List.mem_of_getElem? (i := 11) rfl))
set_option maxRecDepth 20000 in
theorem ggX10_readLine_X10_readLevel : GoodIn wsX10_readLine wsX10_readLevel := gcons (goodIn_g ch_wsX10_readLine_flat gd_wsX10_readLine _ [(1, 4)] rfl) (goodIn_app (goodIn_app (goodIn_g ch_wsX10_readLine_flat gd_wsX10_readLine _ [(1, 5), (1, 6), (1, 7), (1, 8), (1, 9), (1, 3), (1, 0), (1, 1), (1, 2), (1, 10), (1, 11), (1, 12), (1, 13), (1, 14), (1, 15), (1, 16), (1, 17), (1, 18), (1, 19), (1, 20), (1, 21), (1, 22), (1, 23), (2, 0)] rfl) (goodIn_app (goodIn_g ch_wsX10_readLine_flat gd_wsX10_readLine _ [(2, 1), (2, 2), (2, 3), (2, 4), (2, 5), (2, 6), (2, 7), (2, 8), (2, 9), (2, 10), (2, 11), (2, 12), (2, 13), (2, 14), (2, 15), (2, 16), (2, 17), (2, 18), (2, 19), (2, 20), (2, 21), (2, 22), (2, 23), (3, 0)] rfl) (goodIn_app (goodIn_g ch_wsX10_readLine_flat gd_wsX10_readLine _ [(3, 1), (3, 2), (3, 3), (3, 4), (3, 5), (3, 6), (3, 7), (3, 8), (3, 9), (3, 10), (3, 11), (3, 12), (3, 13), (3, 14), (3, 15), (3, 16), (3, 17), (3, 18), (3, 19), (3, 20), (3, 21), (3, 22), (3, 23), (4, 0)] rfl) (goodIn_app (goodIn_g ch_wsX10_readLine_flat gd_wsX10_readLine _ [(4, 1), (4, 2), (4, 3), (4, 4), (4, 5), (4, 6), (4, 7), (4, 8), (4, 9), (4, 10), (4, 11), (4, 12), (4, 13), (4, 14), (4, 15), (4, 16), (4, 17), (4, 18), (4, 19), (4, 20), (4, 21), (4, 22), (4, 23), (5, 0)] rfl) (goodIn_app (goodIn_g ch_wsX10_readLine_flat gd_wsX10_readLine _ [(5, 1), (5, 2), (5, 3), (5, 4), (5, 5), (5, 6), (5, 7), (5, 8), (5, 9), (5, 10), (5, 11), (5, 12), (5, 13), (5, 14), (5, 15), (5, 16), (5, 17), (5, 18), (5, 19), (5, 20), (5, 21), (5, 22), (5, 23), (6, 0)] rfl) (goodIn_g ch_wsX10_readLine_flat gd_wsX10_readLine _ [(6, 1), (6, 2), (6, 3), (6, 4)] rfl)))))) (gchunk ch_wsX10_readLine_flat gd_wsX10_readLine 7 rfl))
set_option maxRecDepth 20000 in
theorem gX10_readLine_X10_readLevel : GoodIn wsX10_readLine (wsV RX10 43 RX10 yX10_readLevel wsX10_readLevel) := goodIn_app (goodIn_g ch_wsX10_readLine_flat gd_wsX10_readLine _ [(1, 0), (1, 1), (1, 2), (1, 3)] rfl) ggX10_readLine_X10_readLevel
set_option maxRecDepth 20000 in
theorem ggX10_readLine_X10_takes : GoodIn wsX10_readLine wsX10_takes := gcons (goodIn_g ch_wsX10_readLine_flat gd_wsX10_readLine _ [(6, 4)] rfl) (goodIn_app (goodIn_g ch_wsX10_readLine_flat gd_wsX10_readLine _ [(1, 6), (1, 10), (1, 11), (1, 12), (1, 3), (1, 13), (1, 5), (1, 14)] rfl) (gchunk ch_wsX10_readLine_flat gd_wsX10_readLine 7 rfl))
set_option maxRecDepth 20000 in
theorem gX10_readLine_X10_takes : GoodIn wsX10_readLine (wsV RX10 39 RX10 yX10_takes wsX10_takes) := goodIn_app (goodIn_g ch_wsX10_readLine_flat gd_wsX10_readLine _ [(6, 1), (6, 2), (6, 3), (1, 3)] rfl) ggX10_readLine_X10_takes
set_option maxRecDepth 20000 in
theorem ggX10_readLine_X10_step : GoodIn wsX10_readLine wsX10_step := gcons (goodIn_g ch_wsX10_readLine_flat gd_wsX10_readLine _ [(1, 21)] rfl) (goodIn_app (goodIn_g ch_wsX10_readLine_flat gd_wsX10_readLine _ [(1, 22), (1, 23)] rfl) (gchunk ch_wsX10_readLine_flat gd_wsX10_readLine 7 rfl))
set_option maxRecDepth 20000 in
theorem gX10_readLine_X10_step : GoodIn wsX10_readLine (wsV RX10 47 RX10 yX10_step wsX10_step) := goodIn_app (goodIn_g ch_wsX10_readLine_flat gd_wsX10_readLine _ [(1, 18), (1, 19), (1, 20), (1, 3)] rfl) ggX10_readLine_X10_step
set_option maxRecDepth 20000 in
theorem SX10_readLine : ∀ p : Nat, gb cX10_readLine p = segF [[42, 3, 3, 182, 0, 43, 154, 0, 5, 3, 172, 42, 16, 63, 182, 0, 39, 153, 0, 20, 42, 16, 193, 182, 0, 47, 42, 3, 3, 182, 0, 43, 154, 0, 5, 3, 172, 42, 16, 197, 182, 0, 47, 4, 172]] p := seg_gb (S := [[42, 3, 3, 182, 0, 43, 154, 0, 5, 3, 172, 42, 16, 63, 182, 0, 39, 153, 0, 20, 42, 16, 193, 182, 0, 47, 42, 3, 3, 182, 0, 43, 154, 0, 5, 3, 172, 42, 16, 197, 182, 0, 47, 4, 172]]) (by decide +kernel) (by decide +kernel)
set_option maxRecDepth 20000 in
theorem BX10_readLine_1_0 : ∀ q ∈ ([(0, 42), (1, 3), (2, 3), (9, 3), (10, 172), (11, 42), (20, 42), (26, 42), (27, 3), (28, 3), (35, 3), (36, 172)] : List (Nat × Nat)), gb cX10_readLine q.1 = some q.2 := seg_1 SX10_readLine _ (by decide +kernel)
set_option maxRecDepth 20000 in
theorem BX10_readLine_1_1 : ∀ q ∈ ([(37, 42), (43, 4), (44, 172)] : List (Nat × Nat)), gb cX10_readLine q.1 = some q.2 := seg_1 SX10_readLine _ (by decide +kernel)
set_option maxRecDepth 20000 in
theorem BX10_readLine_2_0 : ∀ q ∈ ([(12, 16, 63), (21, 16, 193), (38, 16, 197)] : List (Nat × Nat × Nat)), gb cX10_readLine q.1 = some q.2.1 ∧ gb cX10_readLine (q.1 + 1) = some q.2.2 := seg_2 SX10_readLine _ (by decide +kernel)
set_option maxRecDepth 20000 in
theorem BX10_readLine_3_0 : ∀ q ∈ ([(3, 182, 0, 43), (6, 154, 0, 5), (14, 182, 0, 39), (17, 153, 0, 20), (23, 182, 0, 47), (29, 182, 0, 43), (32, 154, 0, 5), (40, 182, 0, 47)] : List (Nat × Nat × Nat × Nat)), gb cX10_readLine q.1 = some q.2.1 ∧ gb cX10_readLine (q.1 + 1) = some q.2.2.1 ∧ gb cX10_readLine (q.1 + 2) = some q.2.2.2 := seg_3 SX10_readLine _ (by decide +kernel)
theorem dX10_readLine_0 : decode cX10_readLine 0 = .ok (.aload_n 0, 1) := dk42 (BX10_readLine_1_0 (0, 42) (List.mem_of_getElem? (i := 0) rfl))
theorem dX10_readLine_1 : decode cX10_readLine 1 = .ok (.iconst 0, 1) := dk3 (BX10_readLine_1_0 (1, 3) (List.mem_of_getElem? (i := 1) rfl))
theorem dX10_readLine_2 : decode cX10_readLine 2 = .ok (.iconst 0, 1) := dk3 (BX10_readLine_1_0 (2, 3) (List.mem_of_getElem? (i := 2) rfl))
theorem dX10_readLine_3 : decode cX10_readLine 3 = .ok (.invokevirtual 43, 3) := dk182 0 43 (BX10_readLine_3_0 (3, 182, 0, 43) (List.mem_of_getElem? (i := 0) rfl))
theorem dX10_readLine_6 : decode cX10_readLine 6 = .ok (.ifCond .ne 5, 3) := dk154 0 5 (BX10_readLine_3_0 (6, 154, 0, 5) (List.mem_of_getElem? (i := 1) rfl))
theorem dX10_readLine_9 : decode cX10_readLine 9 = .ok (.iconst 0, 1) := dk3 (BX10_readLine_1_0 (9, 3) (List.mem_of_getElem? (i := 3) rfl))
theorem dX10_readLine_10 : decode cX10_readLine 10 = .ok (.ireturn, 1) := dk172 (BX10_readLine_1_0 (10, 172) (List.mem_of_getElem? (i := 4) rfl))
theorem dX10_readLine_11 : decode cX10_readLine 11 = .ok (.aload_n 0, 1) := dk42 (BX10_readLine_1_0 (11, 42) (List.mem_of_getElem? (i := 5) rfl))
theorem dX10_readLine_12 : decode cX10_readLine 12 = .ok (.bipush 63, 2) := dk16 63 (BX10_readLine_2_0 (12, 16, 63) (List.mem_of_getElem? (i := 0) rfl))
theorem dX10_readLine_14 : decode cX10_readLine 14 = .ok (.invokevirtual 39, 3) := dk182 0 39 (BX10_readLine_3_0 (14, 182, 0, 39) (List.mem_of_getElem? (i := 2) rfl))
theorem dX10_readLine_17 : decode cX10_readLine 17 = .ok (.ifCond .eq 20, 3) := dk153 0 20 (BX10_readLine_3_0 (17, 153, 0, 20) (List.mem_of_getElem? (i := 3) rfl))
theorem dX10_readLine_20 : decode cX10_readLine 20 = .ok (.aload_n 0, 1) := dk42 (BX10_readLine_1_0 (20, 42) (List.mem_of_getElem? (i := 6) rfl))
theorem dX10_readLine_21 : decode cX10_readLine 21 = .ok (.bipush (-63), 2) := dk16 193 (BX10_readLine_2_0 (21, 16, 193) (List.mem_of_getElem? (i := 1) rfl))
theorem dX10_readLine_23 : decode cX10_readLine 23 = .ok (.invokevirtual 47, 3) := dk182 0 47 (BX10_readLine_3_0 (23, 182, 0, 47) (List.mem_of_getElem? (i := 4) rfl))
theorem dX10_readLine_26 : decode cX10_readLine 26 = .ok (.aload_n 0, 1) := dk42 (BX10_readLine_1_0 (26, 42) (List.mem_of_getElem? (i := 7) rfl))
theorem dX10_readLine_27 : decode cX10_readLine 27 = .ok (.iconst 0, 1) := dk3 (BX10_readLine_1_0 (27, 3) (List.mem_of_getElem? (i := 8) rfl))
theorem dX10_readLine_28 : decode cX10_readLine 28 = .ok (.iconst 0, 1) := dk3 (BX10_readLine_1_0 (28, 3) (List.mem_of_getElem? (i := 9) rfl))
theorem dX10_readLine_29 : decode cX10_readLine 29 = .ok (.invokevirtual 43, 3) := dk182 0 43 (BX10_readLine_3_0 (29, 182, 0, 43) (List.mem_of_getElem? (i := 5) rfl))
theorem dX10_readLine_32 : decode cX10_readLine 32 = .ok (.ifCond .ne 5, 3) := dk154 0 5 (BX10_readLine_3_0 (32, 154, 0, 5) (List.mem_of_getElem? (i := 6) rfl))
theorem dX10_readLine_35 : decode cX10_readLine 35 = .ok (.iconst 0, 1) := dk3 (BX10_readLine_1_0 (35, 3) (List.mem_of_getElem? (i := 10) rfl))
theorem dX10_readLine_36 : decode cX10_readLine 36 = .ok (.ireturn, 1) := dk172 (BX10_readLine_1_0 (36, 172) (List.mem_of_getElem? (i := 11) rfl))
theorem dX10_readLine_37 : decode cX10_readLine 37 = .ok (.aload_n 0, 1) := dk42 (BX10_readLine_1_1 (37, 42) (List.mem_of_getElem? (i := 0) rfl))
theorem dX10_readLine_38 : decode cX10_readLine 38 = .ok (.bipush (-59), 2) := dk16 197 (BX10_readLine_2_0 (38, 16, 197) (List.mem_of_getElem? (i := 2) rfl))
theorem dX10_readLine_40 : decode cX10_readLine 40 = .ok (.invokevirtual 47, 3) := dk182 0 47 (BX10_readLine_3_0 (40, 182, 0, 47) (List.mem_of_getElem? (i := 7) rfl))
theorem dX10_readLine_43 : decode cX10_readLine 43 = .ok (.iconst 1, 1) := dk4 (BX10_readLine_1_1 (43, 4) (List.mem_of_getElem? (i := 1) rfl))
theorem dX10_readLine_44 : decode cX10_readLine 44 = .ok (.ireturn, 1) := dk172 (BX10_readLine_1_1 (44, 172) (List.mem_of_getElem? (i := 2) rfl))
set_option maxRecDepth 20000 in
theorem ggX10_readLevel_X10_readOperand : GoodIn wsX10_readLevel wsX10_readOperand := gcons (goodIn_g ch_wsX10_readLevel_flat gd_wsX10_readLevel _ [(1, 23)] rfl) (goodIn_app (goodIn_app (goodIn_g ch_wsX10_readLevel_flat gd_wsX10_readLevel _ [(1, 1), (1, 9), (1, 10), (1, 11), (1, 5), (1, 12), (1, 0), (1, 13), (2, 0), (2, 1), (2, 2), (2, 3), (2, 4), (2, 5), (2, 6), (1, 17), (1, 18), (1, 19), (1, 20), (1, 21), (1, 22), (2, 7), (2, 8), (2, 9)] rfl) (goodIn_app (goodIn_g ch_wsX10_readLevel_flat gd_wsX10_readLevel _ [(2, 10), (2, 11), (2, 12), (2, 13), (2, 14), (2, 15), (2, 16), (2, 17), (2, 18), (2, 19), (2, 20), (2, 21), (2, 22), (2, 23), (3, 0), (3, 1), (3, 2), (3, 3), (3, 4), (3, 5), (3, 6), (3, 7), (3, 8), (3, 9)] rfl) (goodIn_app (goodIn_g ch_wsX10_readLevel_flat gd_wsX10_readLevel _ [(3, 10), (3, 11), (3, 12), (3, 13), (3, 14), (3, 15), (3, 16), (3, 17), (3, 18), (3, 19), (3, 20), (3, 21), (3, 22), (3, 23), (4, 0), (4, 1), (4, 2), (4, 3), (4, 4), (4, 5), (4, 6), (4, 7), (4, 8), (4, 9)] rfl) (goodIn_app (goodIn_g ch_wsX10_readLevel_flat gd_wsX10_readLevel _ [(4, 10), (4, 11), (4, 12), (4, 13), (4, 14), (4, 15), (4, 16), (4, 17), (4, 18), (4, 19), (4, 20), (4, 21), (4, 22), (4, 23), (5, 0), (5, 1), (5, 2), (5, 3), (5, 4), (5, 5), (5, 6), (5, 7), (5, 8), (5, 9)] rfl) (goodIn_app (goodIn_g ch_wsX10_readLevel_flat gd_wsX10_readLevel _ [(5, 10), (5, 11), (5, 12), (5, 13), (5, 14), (5, 15), (5, 16), (5, 17), (5, 18), (5, 19), (5, 20), (5, 21), (5, 22), (5, 23), (1, 6), (1, 7), (1, 8), (6, 0), (6, 1), (6, 2), (6, 3), (1, 2), (1, 3), (1, 4)] rfl) (goodIn_g ch_wsX10_readLevel_flat gd_wsX10_readLevel _ [(0, 0), (1, 14), (1, 15), (1, 16)] rfl)))))) (gchunk ch_wsX10_readLevel_flat gd_wsX10_readLevel 7 rfl))
set_option maxRecDepth 20000 in
theorem gX10_readLevel_X10_readOperand : GoodIn wsX10_readLevel (wsV RX10 51 RX10 yX10_readOperand wsX10_readOperand) := goodIn_app (goodIn_g ch_wsX10_readLevel_flat gd_wsX10_readLevel _ [(1, 2), (1, 3), (1, 4), (1, 5)] rfl) ggX10_readLevel_X10_readOperand
set_option maxRecDepth 20000 in
theorem ggX10_readLevel_X10_readLevel : GoodIn wsX10_readLevel wsX10_readLevel := gcons (goodIn_g ch_wsX10_readLevel_flat gd_wsX10_readLevel _ [(0, 0)] rfl) (goodIn_app (goodIn_app (goodIn_g ch_wsX10_readLevel_flat gd_wsX10_readLevel _ [(1, 0), (1, 1), (1, 2), (1, 3), (1, 4), (1, 5), (1, 6), (1, 7), (1, 8), (1, 9), (1, 10), (1, 11), (1, 12), (1, 13), (1, 14), (1, 15), (1, 16), (1, 17), (1, 18), (1, 19), (1, 20), (1, 21), (1, 22), (1, 23)] rfl) (goodIn_app (goodIn_g ch_wsX10_readLevel_flat gd_wsX10_readLevel _ [(2, 0), (2, 1), (2, 2), (2, 3), (2, 4), (2, 5), (2, 6), (2, 7), (2, 8), (2, 9), (2, 10), (2, 11), (2, 12), (2, 13), (2, 14), (2, 15), (2, 16), (2, 17), (2, 18), (2, 19), (2, 20), (2, 21), (2, 22), (2, 23)] rfl) (goodIn_app (goodIn_g ch_wsX10_readLevel_flat gd_wsX10_readLevel _ [(3, 0), (3, 1), (3, 2), (3, 3), (3, 4), (3, 5), (3, 6), (3, 7), (3, 8), (3, 9), (3, 10), (3, 11), (3, 12), (3, 13), (3, 14), (3, 15), (3, 16), (3, 17), (3, 18), (3, 19), (3, 20), (3, 21), (3, 22), (3, 23)] rfl) (goodIn_app (goodIn_g ch_wsX10_readLevel_flat gd_wsX10_readLevel _ [(4, 0), (4, 1), (4, 2), (4, 3), (4, 4), (4, 5), (4, 6), (4, 7), (4, 8), (4, 9), (4, 10), (4, 11), (4, 12), (4, 13), (4, 14), (4, 15), (4, 16), (4, 17), (4, 18), (4, 19), (4, 20), (4, 21), (4, 22), (4, 23)] rfl) (goodIn_app (goodIn_g ch_wsX10_readLevel_flat gd_wsX10_readLevel _ [(5, 0), (5, 1), (5, 2), (5, 3), (5, 4), (5, 5), (5, 6), (5, 7), (5, 8), (5, 9), (5, 10), (5, 11), (5, 12), (5, 13), (5, 14), (5, 15), (5, 16), (5, 17), (5, 18), (5, 19), (5, 20), (5, 21), (5, 22), (5, 23)] rfl) (goodIn_g ch_wsX10_readLevel_flat gd_wsX10_readLevel _ [(6, 0), (6, 1), (6, 2), (6, 3)] rfl)))))) (gchunk ch_wsX10_readLevel_flat gd_wsX10_readLevel 7 rfl))
set_option maxRecDepth 20000 in
theorem gX10_readLevel_X10_readLevel : GoodIn wsX10_readLevel (wsV RX10 43 RX10 yX10_readLevel wsX10_readLevel) := goodIn_app (goodIn_g ch_wsX10_readLevel_flat gd_wsX10_readLevel _ [(1, 6), (1, 7), (1, 8), (1, 5)] rfl) ggX10_readLevel_X10_readLevel
set_option maxRecDepth 20000 in
theorem ggX10_readLevel_X10_sign : GoodIn wsX10_readLevel wsX10_sign := gcons (goodIn_g ch_wsX10_readLevel_flat gd_wsX10_readLevel _ [(1, 12)] rfl) (goodIn_app (goodIn_g ch_wsX10_readLevel_flat gd_wsX10_readLevel _ [(1, 1), (1, 0), (1, 13)] rfl) (gchunk ch_wsX10_readLevel_flat gd_wsX10_readLevel 7 rfl))
set_option maxRecDepth 20000 in
theorem gX10_readLevel_X10_sign : GoodIn wsX10_readLevel (wsV RX10 54 RX10 yX10_sign wsX10_sign) := goodIn_app (goodIn_g ch_wsX10_readLevel_flat gd_wsX10_readLevel _ [(1, 9), (1, 10), (1, 11), (1, 5)] rfl) ggX10_readLevel_X10_sign
set_option maxRecDepth 20000 in
theorem ggX10_readLevel_X10_levelOf : GoodIn wsX10_readLevel wsX10_levelOf := goodIn_g ch_wsX10_readLevel_flat gd_wsX10_readLevel _ [(1, 16)] rfl
set_option maxRecDepth 20000 in
theorem gX10_readLevel_X10_levelOf : GoodIn wsX10_readLevel (va_wsS RX10 58 yX10_levelOf wsX10_levelOf) := goodIn_app (goodIn_g ch_wsX10_readLevel_flat gd_wsX10_readLevel _ [(1, 14), (1, 15), (1, 5)] rfl) ggX10_readLevel_X10_levelOf
set_option maxRecDepth 20000 in
theorem ggX10_readLevel_X10_step : GoodIn wsX10_readLevel wsX10_step := gcons (goodIn_g ch_wsX10_readLevel_flat gd_wsX10_readLevel _ [(1, 20)] rfl) (goodIn_app (goodIn_g ch_wsX10_readLevel_flat gd_wsX10_readLevel _ [(1, 21), (1, 22)] rfl) (gchunk ch_wsX10_readLevel_flat gd_wsX10_readLevel 7 rfl))
set_option maxRecDepth 20000 in
theorem gX10_readLevel_X10_step : GoodIn wsX10_readLevel (wsV RX10 47 RX10 yX10_step wsX10_step) := goodIn_app (goodIn_g ch_wsX10_readLevel_flat gd_wsX10_readLevel _ [(1, 17), (1, 18), (1, 19), (1, 5)] rfl) ggX10_readLevel_X10_step
set_option maxRecDepth 20000 in
theorem SX10_readLevel : ∀ p : Nat, gb cX10_readLevel p = segF [[27, 7, 164, 0, 9, 42, 28, 182, 0, 51, 172, 42, 27, 4, 96, 28, 182, 0, 43, 154, 0, 5, 3, 172, 27, 5, 160, 0, 7, 4, 167, 0, 7, 42, 180, 0, 19, 62, 3, 54, 4, 21, 4, 29, 162, 0, 56, 42, 182, 0, 54, 54, 5, 21, 5, 184, 0, 58, 27, 159, 0, 5, 4, 172], [42, 89, 180, 0, 29, 4, 96, 181, 0, 29, 42, 27, 4, 96, 28, 182, 0, 43, 154, 0, 5, 3, 172, 42, 21, 5, 116, 182, 0, 47, 132, 4, 1, 167, 255, 200, 4, 172]] p := seg_gb (S := [[27, 7, 164, 0, 9, 42, 28, 182, 0, 51, 172, 42, 27, 4, 96, 28, 182, 0, 43, 154, 0, 5, 3, 172, 27, 5, 160, 0, 7, 4, 167, 0, 7, 42, 180, 0, 19, 62, 3, 54, 4, 21, 4, 29, 162, 0, 56, 42, 182, 0, 54, 54, 5, 21, 5, 184, 0, 58, 27, 159, 0, 5, 4, 172], [42, 89, 180, 0, 29, 4, 96, 181, 0, 29, 42, 27, 4, 96, 28, 182, 0, 43, 154, 0, 5, 3, 172, 42, 21, 5, 116, 182, 0, 47, 132, 4, 1, 167, 255, 200, 4, 172]]) (by decide +kernel) (by decide +kernel)
set_option maxRecDepth 20000 in
theorem BX10_readLevel_1_0 : ∀ q ∈ ([(0, 27), (1, 7), (5, 42), (6, 28), (10, 172), (11, 42), (12, 27), (13, 4), (14, 96), (15, 28), (22, 3), (23, 172)] : List (Nat × Nat)), gb cX10_readLevel q.1 = some q.2 := seg_1 SX10_readLevel _ (by decide +kernel)
set_option maxRecDepth 20000 in
theorem BX10_readLevel_1_1 : ∀ q ∈ ([(24, 27), (25, 5), (29, 4), (33, 42), (37, 62), (38, 3), (43, 29), (47, 42), (58, 27), (62, 4), (63, 172), (64, 42)] : List (Nat × Nat)), gb cX10_readLevel q.1 = some q.2 := seg_1 SX10_readLevel _ (by decide +kernel)
set_option maxRecDepth 20000 in
theorem BX10_readLevel_1_2 : ∀ q ∈ ([(65, 89), (69, 4), (70, 96), (74, 42), (75, 27), (76, 4), (77, 96), (78, 28), (85, 3), (86, 172), (87, 42), (90, 116)] : List (Nat × Nat)), gb cX10_readLevel q.1 = some q.2 := seg_1 SX10_readLevel _ (by decide +kernel)
set_option maxRecDepth 20000 in
theorem BX10_readLevel_1_3 : ∀ q ∈ ([(100, 4), (101, 172)] : List (Nat × Nat)), gb cX10_readLevel q.1 = some q.2 := seg_1 SX10_readLevel _ (by decide +kernel)
set_option maxRecDepth 20000 in
theorem BX10_readLevel_2_0 : ∀ q ∈ ([(39, 54, 4), (41, 21, 4), (51, 54, 5), (53, 21, 5), (88, 21, 5)] : List (Nat × Nat × Nat)), gb cX10_readLevel q.1 = some q.2.1 ∧ gb cX10_readLevel (q.1 + 1) = some q.2.2 := seg_2 SX10_readLevel _ (by decide +kernel)
set_option maxRecDepth 20000 in
theorem BX10_readLevel_3_0 : ∀ q ∈ ([(2, 164, 0, 9), (7, 182, 0, 51), (16, 182, 0, 43), (19, 154, 0, 5), (26, 160, 0, 7), (30, 167, 0, 7), (34, 180, 0, 19), (44, 162, 0, 56), (48, 182, 0, 54), (55, 184, 0, 58), (59, 159, 0, 5), (66, 180, 0, 29)] : List (Nat × Nat × Nat × Nat)), gb cX10_readLevel q.1 = some q.2.1 ∧ gb cX10_readLevel (q.1 + 1) = some q.2.2.1 ∧ gb cX10_readLevel (q.1 + 2) = some q.2.2.2 := seg_3 SX10_readLevel _ (by decide +kernel)
set_option maxRecDepth 20000 in
theorem BX10_readLevel_3_1 : ∀ q ∈ ([(71, 181, 0, 29), (79, 182, 0, 43), (82, 154, 0, 5), (91, 182, 0, 47), (94, 132, 4, 1), (97, 167, 255, 200)] : List (Nat × Nat × Nat × Nat)), gb cX10_readLevel q.1 = some q.2.1 ∧ gb cX10_readLevel (q.1 + 1) = some q.2.2.1 ∧ gb cX10_readLevel (q.1 + 2) = some q.2.2.2 := seg_3 SX10_readLevel _ (by decide +kernel)
theorem dX10_readLevel_0 : decode cX10_readLevel 0 = .ok (.iload_n 1, 1) := dk27 (BX10_readLevel_1_0 (0, 27) (List.mem_of_getElem? (i := 0) rfl))
theorem dX10_readLevel_1 : decode cX10_readLevel 1 = .ok (.iconst 4, 1) := dk7 (BX10_readLevel_1_0 (1, 7) (List.mem_of_getElem? (i := 1) rfl))
theorem dX10_readLevel_2 : decode cX10_readLevel 2 = .ok (.if_icmp .le 9, 3) := dk164 0 9 (BX10_readLevel_3_0 (2, 164, 0, 9) (List.mem_of_getElem? (i := 0) rfl))
theorem dX10_readLevel_5 : decode cX10_readLevel 5 = .ok (.aload_n 0, 1) := dk42 (BX10_readLevel_1_0 (5, 42) (List.mem_of_getElem? (i := 2) rfl))
theorem dX10_readLevel_6 : decode cX10_readLevel 6 = .ok (.iload_n 2, 1) := dk28 (BX10_readLevel_1_0 (6, 28) (List.mem_of_getElem? (i := 3) rfl))
theorem dX10_readLevel_7 : decode cX10_readLevel 7 = .ok (.invokevirtual 51, 3) := dk182 0 51 (BX10_readLevel_3_0 (7, 182, 0, 51) (List.mem_of_getElem? (i := 1) rfl))
theorem dX10_readLevel_10 : decode cX10_readLevel 10 = .ok (.ireturn, 1) := dk172 (BX10_readLevel_1_0 (10, 172) (List.mem_of_getElem? (i := 4) rfl))
theorem dX10_readLevel_11 : decode cX10_readLevel 11 = .ok (.aload_n 0, 1) := dk42 (BX10_readLevel_1_0 (11, 42) (List.mem_of_getElem? (i := 5) rfl))
theorem dX10_readLevel_12 : decode cX10_readLevel 12 = .ok (.iload_n 1, 1) := dk27 (BX10_readLevel_1_0 (12, 27) (List.mem_of_getElem? (i := 6) rfl))
theorem dX10_readLevel_13 : decode cX10_readLevel 13 = .ok (.iconst 1, 1) := dk4 (BX10_readLevel_1_0 (13, 4) (List.mem_of_getElem? (i := 7) rfl))
theorem dX10_readLevel_14 : decode cX10_readLevel 14 = .ok (.iadd, 1) := dk96 (BX10_readLevel_1_0 (14, 96) (List.mem_of_getElem? (i := 8) rfl))
theorem dX10_readLevel_15 : decode cX10_readLevel 15 = .ok (.iload_n 2, 1) := dk28 (BX10_readLevel_1_0 (15, 28) (List.mem_of_getElem? (i := 9) rfl))
theorem dX10_readLevel_16 : decode cX10_readLevel 16 = .ok (.invokevirtual 43, 3) := dk182 0 43 (BX10_readLevel_3_0 (16, 182, 0, 43) (List.mem_of_getElem? (i := 2) rfl))
theorem dX10_readLevel_19 : decode cX10_readLevel 19 = .ok (.ifCond .ne 5, 3) := dk154 0 5 (BX10_readLevel_3_0 (19, 154, 0, 5) (List.mem_of_getElem? (i := 3) rfl))
theorem dX10_readLevel_22 : decode cX10_readLevel 22 = .ok (.iconst 0, 1) := dk3 (BX10_readLevel_1_0 (22, 3) (List.mem_of_getElem? (i := 10) rfl))
theorem dX10_readLevel_23 : decode cX10_readLevel 23 = .ok (.ireturn, 1) := dk172 (BX10_readLevel_1_0 (23, 172) (List.mem_of_getElem? (i := 11) rfl))
theorem dX10_readLevel_24 : decode cX10_readLevel 24 = .ok (.iload_n 1, 1) := dk27 (BX10_readLevel_1_1 (24, 27) (List.mem_of_getElem? (i := 0) rfl))
theorem dX10_readLevel_25 : decode cX10_readLevel 25 = .ok (.iconst 2, 1) := dk5 (BX10_readLevel_1_1 (25, 5) (List.mem_of_getElem? (i := 1) rfl))
theorem dX10_readLevel_26 : decode cX10_readLevel 26 = .ok (.if_icmp .ne 7, 3) := dk160 0 7 (BX10_readLevel_3_0 (26, 160, 0, 7) (List.mem_of_getElem? (i := 4) rfl))
theorem dX10_readLevel_29 : decode cX10_readLevel 29 = .ok (.iconst 1, 1) := dk4 (BX10_readLevel_1_1 (29, 4) (List.mem_of_getElem? (i := 2) rfl))
theorem dX10_readLevel_30 : decode cX10_readLevel 30 = .ok (.goto 7, 3) := dk167 0 7 (BX10_readLevel_3_0 (30, 167, 0, 7) (List.mem_of_getElem? (i := 5) rfl))
theorem dX10_readLevel_33 : decode cX10_readLevel 33 = .ok (.aload_n 0, 1) := dk42 (BX10_readLevel_1_1 (33, 42) (List.mem_of_getElem? (i := 3) rfl))
theorem dX10_readLevel_34 : decode cX10_readLevel 34 = .ok (.getfield 19, 3) := dk180 0 19 (BX10_readLevel_3_0 (34, 180, 0, 19) (List.mem_of_getElem? (i := 6) rfl))
theorem dX10_readLevel_37 : decode cX10_readLevel 37 = .ok (.istore_n 3, 1) := dk62 (BX10_readLevel_1_1 (37, 62) (List.mem_of_getElem? (i := 4) rfl))
theorem dX10_readLevel_38 : decode cX10_readLevel 38 = .ok (.iconst 0, 1) := dk3 (BX10_readLevel_1_1 (38, 3) (List.mem_of_getElem? (i := 5) rfl))
theorem dX10_readLevel_39 : decode cX10_readLevel 39 = .ok (.istore 4, 2) := dk54 4 (BX10_readLevel_2_0 (39, 54, 4) (List.mem_of_getElem? (i := 0) rfl))
theorem dX10_readLevel_41 : decode cX10_readLevel 41 = .ok (.iload 4, 2) := dk21 4 (BX10_readLevel_2_0 (41, 21, 4) (List.mem_of_getElem? (i := 1) rfl))
theorem dX10_readLevel_43 : decode cX10_readLevel 43 = .ok (.iload_n 3, 1) := dk29 (BX10_readLevel_1_1 (43, 29) (List.mem_of_getElem? (i := 6) rfl))
theorem dX10_readLevel_44 : decode cX10_readLevel 44 = .ok (.if_icmp .ge 56, 3) := dk162 0 56 (BX10_readLevel_3_0 (44, 162, 0, 56) (List.mem_of_getElem? (i := 7) rfl))
theorem dX10_readLevel_47 : decode cX10_readLevel 47 = .ok (.aload_n 0, 1) := dk42 (BX10_readLevel_1_1 (47, 42) (List.mem_of_getElem? (i := 7) rfl))
theorem dX10_readLevel_48 : decode cX10_readLevel 48 = .ok (.invokevirtual 54, 3) := dk182 0 54 (BX10_readLevel_3_0 (48, 182, 0, 54) (List.mem_of_getElem? (i := 8) rfl))
theorem dX10_readLevel_51 : decode cX10_readLevel 51 = .ok (.istore 5, 2) := dk54 5 (BX10_readLevel_2_0 (51, 54, 5) (List.mem_of_getElem? (i := 2) rfl))
theorem dX10_readLevel_53 : decode cX10_readLevel 53 = .ok (.iload 5, 2) := dk21 5 (BX10_readLevel_2_0 (53, 21, 5) (List.mem_of_getElem? (i := 3) rfl))
theorem dX10_readLevel_55 : decode cX10_readLevel 55 = .ok (.invokestatic 58, 3) := dk184 0 58 (BX10_readLevel_3_0 (55, 184, 0, 58) (List.mem_of_getElem? (i := 9) rfl))
theorem dX10_readLevel_58 : decode cX10_readLevel 58 = .ok (.iload_n 1, 1) := dk27 (BX10_readLevel_1_1 (58, 27) (List.mem_of_getElem? (i := 8) rfl))
theorem dX10_readLevel_59 : decode cX10_readLevel 59 = .ok (.if_icmp .eq 5, 3) := dk159 0 5 (BX10_readLevel_3_0 (59, 159, 0, 5) (List.mem_of_getElem? (i := 10) rfl))
theorem dX10_readLevel_62 : decode cX10_readLevel 62 = .ok (.iconst 1, 1) := dk4 (BX10_readLevel_1_1 (62, 4) (List.mem_of_getElem? (i := 9) rfl))
theorem dX10_readLevel_63 : decode cX10_readLevel 63 = .ok (.ireturn, 1) := dk172 (BX10_readLevel_1_1 (63, 172) (List.mem_of_getElem? (i := 10) rfl))
theorem dX10_readLevel_64 : decode cX10_readLevel 64 = .ok (.aload_n 0, 1) := dk42 (BX10_readLevel_1_1 (64, 42) (List.mem_of_getElem? (i := 11) rfl))
theorem dX10_readLevel_65 : decode cX10_readLevel 65 = .ok (.dup, 1) := dk89 (BX10_readLevel_1_2 (65, 89) (List.mem_of_getElem? (i := 0) rfl))
theorem dX10_readLevel_66 : decode cX10_readLevel 66 = .ok (.getfield 29, 3) := dk180 0 29 (BX10_readLevel_3_0 (66, 180, 0, 29) (List.mem_of_getElem? (i := 11) rfl))
theorem dX10_readLevel_69 : decode cX10_readLevel 69 = .ok (.iconst 1, 1) := dk4 (BX10_readLevel_1_2 (69, 4) (List.mem_of_getElem? (i := 1) rfl))
theorem dX10_readLevel_70 : decode cX10_readLevel 70 = .ok (.iadd, 1) := dk96 (BX10_readLevel_1_2 (70, 96) (List.mem_of_getElem? (i := 2) rfl))
theorem dX10_readLevel_71 : decode cX10_readLevel 71 = .ok (.putfield 29, 3) := dk181 0 29 (BX10_readLevel_3_1 (71, 181, 0, 29) (List.mem_of_getElem? (i := 0) rfl))
theorem dX10_readLevel_74 : decode cX10_readLevel 74 = .ok (.aload_n 0, 1) := dk42 (BX10_readLevel_1_2 (74, 42) (List.mem_of_getElem? (i := 3) rfl))
theorem dX10_readLevel_75 : decode cX10_readLevel 75 = .ok (.iload_n 1, 1) := dk27 (BX10_readLevel_1_2 (75, 27) (List.mem_of_getElem? (i := 4) rfl))
theorem dX10_readLevel_76 : decode cX10_readLevel 76 = .ok (.iconst 1, 1) := dk4 (BX10_readLevel_1_2 (76, 4) (List.mem_of_getElem? (i := 5) rfl))
theorem dX10_readLevel_77 : decode cX10_readLevel 77 = .ok (.iadd, 1) := dk96 (BX10_readLevel_1_2 (77, 96) (List.mem_of_getElem? (i := 6) rfl))
theorem dX10_readLevel_78 : decode cX10_readLevel 78 = .ok (.iload_n 2, 1) := dk28 (BX10_readLevel_1_2 (78, 28) (List.mem_of_getElem? (i := 7) rfl))
theorem dX10_readLevel_79 : decode cX10_readLevel 79 = .ok (.invokevirtual 43, 3) := dk182 0 43 (BX10_readLevel_3_1 (79, 182, 0, 43) (List.mem_of_getElem? (i := 1) rfl))
theorem dX10_readLevel_82 : decode cX10_readLevel 82 = .ok (.ifCond .ne 5, 3) := dk154 0 5 (BX10_readLevel_3_1 (82, 154, 0, 5) (List.mem_of_getElem? (i := 2) rfl))
theorem dX10_readLevel_85 : decode cX10_readLevel 85 = .ok (.iconst 0, 1) := dk3 (BX10_readLevel_1_2 (85, 3) (List.mem_of_getElem? (i := 8) rfl))
theorem dX10_readLevel_86 : decode cX10_readLevel 86 = .ok (.ireturn, 1) := dk172 (BX10_readLevel_1_2 (86, 172) (List.mem_of_getElem? (i := 9) rfl))
theorem dX10_readLevel_87 : decode cX10_readLevel 87 = .ok (.aload_n 0, 1) := dk42 (BX10_readLevel_1_2 (87, 42) (List.mem_of_getElem? (i := 10) rfl))
theorem dX10_readLevel_88 : decode cX10_readLevel 88 = .ok (.iload 5, 2) := dk21 5 (BX10_readLevel_2_0 (88, 21, 5) (List.mem_of_getElem? (i := 4) rfl))
theorem dX10_readLevel_90 : decode cX10_readLevel 90 = .ok (.ineg, 1) := dk116 (BX10_readLevel_1_2 (90, 116) (List.mem_of_getElem? (i := 11) rfl))
theorem dX10_readLevel_91 : decode cX10_readLevel 91 = .ok (.invokevirtual 47, 3) := dk182 0 47 (BX10_readLevel_3_1 (91, 182, 0, 47) (List.mem_of_getElem? (i := 3) rfl))
theorem dX10_readLevel_94 : decode cX10_readLevel 94 = .ok (.iinc 4 1, 3) := dk132 4 1 (BX10_readLevel_3_1 (94, 132, 4, 1) (List.mem_of_getElem? (i := 4) rfl))
theorem dX10_readLevel_97 : decode cX10_readLevel 97 = .ok (.goto (-56), 3) := dk167 255 200 (BX10_readLevel_3_1 (97, 167, 255, 200) (List.mem_of_getElem? (i := 5) rfl))
theorem dX10_readLevel_100 : decode cX10_readLevel 100 = .ok (.iconst 1, 1) := dk4 (BX10_readLevel_1_3 (100, 4) (List.mem_of_getElem? (i := 0) rfl))
theorem dX10_readLevel_101 : decode cX10_readLevel 101 = .ok (.ireturn, 1) := dk172 (BX10_readLevel_1_3 (101, 172) (List.mem_of_getElem? (i := 1) rfl))
set_option maxRecDepth 20000 in
theorem ggX10_readOperand_X10_sign : GoodIn wsX10_readOperand wsX10_sign := gcons (goodIn_g ch_wsX10_readOperand_flat gd_wsX10_readOperand _ [(1, 5)] rfl) (goodIn_app (goodIn_g ch_wsX10_readOperand_flat gd_wsX10_readOperand _ [(1, 0), (1, 6), (1, 7)] rfl) (gchunk ch_wsX10_readOperand_flat gd_wsX10_readOperand 7 rfl))
set_option maxRecDepth 20000 in
theorem gX10_readOperand_X10_sign : GoodIn wsX10_readOperand (wsV RX10 54 RX10 yX10_sign wsX10_sign) := goodIn_app (goodIn_g ch_wsX10_readOperand_flat gd_wsX10_readOperand _ [(1, 1), (1, 2), (1, 3), (1, 4)] rfl) ggX10_readOperand_X10_sign
set_option maxRecDepth 20000 in
theorem ggX10_readOperand_X10_isDigit : GoodIn wsX10_readOperand wsX10_isDigit := goodIn_g ch_wsX10_readOperand_flat gd_wsX10_readOperand _ [(1, 10)] rfl
set_option maxRecDepth 20000 in
theorem gX10_readOperand_X10_isDigit : GoodIn wsX10_readOperand (va_wsS RX10 62 yX10_isDigit wsX10_isDigit) := goodIn_app (goodIn_g ch_wsX10_readOperand_flat gd_wsX10_readOperand _ [(1, 8), (1, 9), (1, 4)] rfl) ggX10_readOperand_X10_isDigit
set_option maxRecDepth 20000 in
theorem ggX10_readOperand_X10_readNumber : GoodIn wsX10_readOperand wsX10_readNumber := gcons (goodIn_g ch_wsX10_readOperand_flat gd_wsX10_readOperand _ [(1, 14)] rfl) (goodIn_app (goodIn_g ch_wsX10_readOperand_flat gd_wsX10_readOperand _ [(1, 0), (1, 1), (1, 2), (1, 3), (1, 4), (1, 5), (1, 6), (1, 7), (1, 8), (1, 9), (1, 10), (1, 15), (1, 16), (1, 17), (1, 18), (1, 19), (1, 20)] rfl) (gchunk ch_wsX10_readOperand_flat gd_wsX10_readOperand 7 rfl))
set_option maxRecDepth 20000 in
theorem gX10_readOperand_X10_readNumber : GoodIn wsX10_readOperand (wsV RX10 65 RX10 yX10_readNumber wsX10_readNumber) := goodIn_app (goodIn_g ch_wsX10_readOperand_flat gd_wsX10_readOperand _ [(1, 11), (1, 12), (1, 13), (1, 4)] rfl) ggX10_readOperand_X10_readNumber
set_option maxRecDepth 20000 in
theorem ggX10_readOperand_J0_indexOf_0f7a4 : GoodIn wsX10_readOperand wsJ0_indexOf_0f7a4 := goodIn_g ch_wsX10_readOperand_flat gd_wsX10_readOperand _ [(2, 1), (2, 2), (2, 3), (2, 4), (2, 0), (2, 5), (2, 6), (2, 7), (2, 8), (2, 9), (2, 10), (2, 11), (2, 12), (2, 13), (2, 14), (2, 15), (2, 16), (2, 17), (2, 18), (2, 19), (2, 20), (2, 21), (2, 22), (2, 23), (3, 0), (3, 1), (3, 2), (3, 3), (3, 4), (3, 5), (3, 6), (3, 7), (3, 8), (3, 9), (3, 10), (3, 11), (3, 12), (3, 13), (3, 14), (3, 15), (3, 16), (3, 17), (3, 18), (3, 19), (3, 20), (3, 21), (3, 22), (3, 23), (4, 0), (4, 1), (4, 2), (4, 3), (4, 4), (4, 5), (4, 6), (4, 7), (4, 8), (4, 9), (4, 10), (4, 11), (4, 12), (4, 13), (4, 14), (4, 15), (4, 16), (4, 17), (4, 18), (4, 19), (4, 20), (4, 21), (4, 22), (4, 23), (5, 0), (5, 1), (5, 2), (5, 3), (5, 4), (5, 5), (5, 6), (5, 7), (5, 8), (5, 9), (5, 10), (5, 11), (5, 12), (5, 13)] rfl
set_option maxRecDepth 20000 in
theorem gX10_readOperand_J0_indexOf_0f7a4 : GoodIn wsX10_readOperand (wsV RX10 70 RJ0 yJ0_indexOf_0f7a4 wsJ0_indexOf_0f7a4) := goodIn_app (goodIn_g ch_wsX10_readOperand_flat gd_wsX10_readOperand _ [(1, 21), (1, 22), (1, 23), (2, 0)] rfl) ggX10_readOperand_J0_indexOf_0f7a4
set_option maxRecDepth 20000 in
theorem ggX10_readOperand_X10_step : GoodIn wsX10_readOperand wsX10_step := gcons (goodIn_g ch_wsX10_readOperand_flat gd_wsX10_readOperand _ [(1, 18)] rfl) (goodIn_app (goodIn_g ch_wsX10_readOperand_flat gd_wsX10_readOperand _ [(1, 19), (1, 20)] rfl) (gchunk ch_wsX10_readOperand_flat gd_wsX10_readOperand 7 rfl))
set_option maxRecDepth 20000 in
theorem gX10_readOperand_X10_step : GoodIn wsX10_readOperand (wsV RX10 47 RX10 yX10_step wsX10_step) := goodIn_app (goodIn_g ch_wsX10_readOperand_flat gd_wsX10_readOperand _ [(1, 15), (1, 16), (1, 17), (1, 4)] rfl) ggX10_readOperand_X10_step
set_option maxRecDepth 20000 in
theorem ggX10_readOperand_X10_readLevel : GoodIn wsX10_readOperand wsX10_readLevel := gcons (goodIn_g ch_wsX10_readOperand_flat gd_wsX10_readOperand _ [(6, 0)] rfl) (goodIn_app (goodIn_app (goodIn_g ch_wsX10_readOperand_flat gd_wsX10_readOperand _ [(1, 6), (1, 0), (5, 21), (5, 22), (5, 23), (1, 4), (5, 14), (5, 15), (5, 16), (1, 1), (1, 2), (1, 3), (1, 5), (1, 7), (6, 1), (6, 2), (6, 3), (1, 15), (1, 16), (1, 17), (1, 18), (1, 19), (1, 20), (0, 0)] rfl) (goodIn_app (goodIn_g ch_wsX10_readOperand_flat gd_wsX10_readOperand _ [(1, 8), (1, 9), (1, 10), (1, 11), (1, 12), (1, 13), (1, 14), (1, 21), (1, 22), (1, 23), (2, 0), (2, 1), (2, 2), (2, 3), (2, 4), (2, 5), (2, 6), (2, 7), (2, 8), (2, 9), (2, 10), (2, 11), (2, 12), (2, 13)] rfl) (goodIn_app (goodIn_g ch_wsX10_readOperand_flat gd_wsX10_readOperand _ [(2, 14), (2, 15), (2, 16), (2, 17), (2, 18), (2, 19), (2, 20), (2, 21), (2, 22), (2, 23), (3, 0), (3, 1), (3, 2), (3, 3), (3, 4), (3, 5), (3, 6), (3, 7), (3, 8), (3, 9), (3, 10), (3, 11), (3, 12), (3, 13)] rfl) (goodIn_app (goodIn_g ch_wsX10_readOperand_flat gd_wsX10_readOperand _ [(3, 14), (3, 15), (3, 16), (3, 17), (3, 18), (3, 19), (3, 20), (3, 21), (3, 22), (3, 23), (4, 0), (4, 1), (4, 2), (4, 3), (4, 4), (4, 5), (4, 6), (4, 7), (4, 8), (4, 9), (4, 10), (4, 11), (4, 12), (4, 13)] rfl) (goodIn_app (goodIn_g ch_wsX10_readOperand_flat gd_wsX10_readOperand _ [(4, 14), (4, 15), (4, 16), (4, 17), (4, 18), (4, 19), (4, 20), (4, 21), (4, 22), (4, 23), (5, 0), (5, 1), (5, 2), (5, 3), (5, 4), (5, 5), (5, 6), (5, 7), (5, 8), (5, 9), (5, 10), (5, 11), (5, 12), (5, 13)] rfl) (goodIn_g ch_wsX10_readOperand_flat gd_wsX10_readOperand _ [(5, 17), (5, 18), (5, 19), (5, 20)] rfl)))))) (gchunk ch_wsX10_readOperand_flat gd_wsX10_readOperand 7 rfl))
set_option maxRecDepth 20000 in
theorem gX10_readOperand_X10_readLevel : GoodIn wsX10_readOperand (wsV RX10 43 RX10 yX10_readLevel wsX10_readLevel) := goodIn_app (goodIn_g ch_wsX10_readOperand_flat gd_wsX10_readOperand _ [(5, 14), (5, 15), (5, 16), (1, 4)] rfl) ggX10_readOperand_X10_readLevel
set_option maxRecDepth 20000 in
theorem ggX10_readOperand_X10_takes : GoodIn wsX10_readOperand wsX10_takes := gcons (goodIn_g ch_wsX10_readOperand_flat gd_wsX10_readOperand _ [(5, 20)] rfl) (goodIn_app (goodIn_g ch_wsX10_readOperand_flat gd_wsX10_readOperand _ [(1, 0), (1, 1), (1, 2), (1, 3), (1, 4), (1, 5), (1, 6), (1, 7)] rfl) (gchunk ch_wsX10_readOperand_flat gd_wsX10_readOperand 7 rfl))
set_option maxRecDepth 20000 in
theorem gX10_readOperand_X10_takes : GoodIn wsX10_readOperand (wsV RX10 39 RX10 yX10_takes wsX10_takes) := goodIn_app (goodIn_g ch_wsX10_readOperand_flat gd_wsX10_readOperand _ [(5, 17), (5, 18), (5, 19), (1, 4)] rfl) ggX10_readOperand_X10_takes
set_option maxRecDepth 20000 in
theorem ggX10_readOperand_X10_readOperand : GoodIn wsX10_readOperand wsX10_readOperand := gcons (goodIn_g ch_wsX10_readOperand_flat gd_wsX10_readOperand _ [(0, 0)] rfl) (goodIn_app (goodIn_app (goodIn_g ch_wsX10_readOperand_flat gd_wsX10_readOperand _ [(1, 0), (1, 1), (1, 2), (1, 3), (1, 4), (1, 5), (1, 6), (1, 7), (1, 8), (1, 9), (1, 10), (1, 11), (1, 12), (1, 13), (1, 14), (1, 15), (1, 16), (1, 17), (1, 18), (1, 19), (1, 20), (1, 21), (1, 22), (1, 23)] rfl) (goodIn_app (goodIn_g ch_wsX10_readOperand_flat gd_wsX10_readOperand _ [(2, 0), (2, 1), (2, 2), (2, 3), (2, 4), (2, 5), (2, 6), (2, 7), (2, 8), (2, 9), (2, 10), (2, 11), (2, 12), (2, 13), (2, 14), (2, 15), (2, 16), (2, 17), (2, 18), (2, 19), (2, 20), (2, 21), (2, 22), (2, 23)] rfl) (goodIn_app (goodIn_g ch_wsX10_readOperand_flat gd_wsX10_readOperand _ [(3, 0), (3, 1), (3, 2), (3, 3), (3, 4), (3, 5), (3, 6), (3, 7), (3, 8), (3, 9), (3, 10), (3, 11), (3, 12), (3, 13), (3, 14), (3, 15), (3, 16), (3, 17), (3, 18), (3, 19), (3, 20), (3, 21), (3, 22), (3, 23)] rfl) (goodIn_app (goodIn_g ch_wsX10_readOperand_flat gd_wsX10_readOperand _ [(4, 0), (4, 1), (4, 2), (4, 3), (4, 4), (4, 5), (4, 6), (4, 7), (4, 8), (4, 9), (4, 10), (4, 11), (4, 12), (4, 13), (4, 14), (4, 15), (4, 16), (4, 17), (4, 18), (4, 19), (4, 20), (4, 21), (4, 22), (4, 23)] rfl) (goodIn_app (goodIn_g ch_wsX10_readOperand_flat gd_wsX10_readOperand _ [(5, 0), (5, 1), (5, 2), (5, 3), (5, 4), (5, 5), (5, 6), (5, 7), (5, 8), (5, 9), (5, 10), (5, 11), (5, 12), (5, 13), (5, 14), (5, 15), (5, 16), (5, 17), (5, 18), (5, 19), (5, 20), (5, 21), (5, 22), (5, 23)] rfl) (goodIn_g ch_wsX10_readOperand_flat gd_wsX10_readOperand _ [(6, 0), (6, 1), (6, 2), (6, 3)] rfl)))))) (gchunk ch_wsX10_readOperand_flat gd_wsX10_readOperand 7 rfl))
set_option maxRecDepth 20000 in
theorem gX10_readOperand_X10_readOperand : GoodIn wsX10_readOperand (wsV RX10 51 RX10 yX10_readOperand wsX10_readOperand) := goodIn_app (goodIn_g ch_wsX10_readOperand_flat gd_wsX10_readOperand _ [(5, 21), (5, 22), (5, 23), (1, 4)] rfl) ggX10_readOperand_X10_readOperand
set_option maxRecDepth 20000 in
theorem SX10_readOperand : ∀ p : Nat, gb cX10_readOperand p = segF [[42, 182, 0, 54, 61, 28, 184, 0, 62, 153, 0, 8, 42, 182, 0, 65, 172, 28, 156, 0, 7, 2, 167, 0, 10, 18, 68, 28, 146, 182, 0, 70, 62, 29, 155, 0, 22, 42, 89, 180, 0, 29, 4, 96, 181, 0, 29, 42, 2, 29, 100, 182, 0, 47, 4, 172, 27, 16, 6, 162, 0, 21, 28, 16], [40, 159, 0, 17, 28, 16, 33, 159, 0, 11, 28, 16, 45, 159, 0, 5, 3, 172, 42, 89, 180, 0, 29, 4, 96, 181, 0, 29, 28, 16, 40, 160, 0, 29, 42, 3, 27, 4, 96, 182, 0, 43, 153, 0, 16, 42, 16, 41, 182, 0, 39, 153, 0, 7, 4, 167, 0, 4, 3, 172, 42, 27, 4, 96], [182, 0, 51, 154, 0, 5, 3, 172, 42, 28, 16, 33, 160, 0, 8, 16, 223, 167, 0, 5, 16, 130, 182, 0, 47, 4, 172]] p := seg_gb (S := [[42, 182, 0, 54, 61, 28, 184, 0, 62, 153, 0, 8, 42, 182, 0, 65, 172, 28, 156, 0, 7, 2, 167, 0, 10, 18, 68, 28, 146, 182, 0, 70, 62, 29, 155, 0, 22, 42, 89, 180, 0, 29, 4, 96, 181, 0, 29, 42, 2, 29, 100, 182, 0, 47, 4, 172, 27, 16, 6, 162, 0, 21, 28, 16], [40, 159, 0, 17, 28, 16, 33, 159, 0, 11, 28, 16, 45, 159, 0, 5, 3, 172, 42, 89, 180, 0, 29, 4, 96, 181, 0, 29, 28, 16, 40, 160, 0, 29, 42, 3, 27, 4, 96, 182, 0, 43, 153, 0, 16, 42, 16, 41, 182, 0, 39, 153, 0, 7, 4, 167, 0, 4, 3, 172, 42, 27, 4, 96], [182, 0, 51, 154, 0, 5, 3, 172, 42, 28, 16, 33, 160, 0, 8, 16, 223, 167, 0, 5, 16, 130, 182, 0, 47, 4, 172]]) (by decide +kernel) (by decide +kernel)
set_option maxRecDepth 20000 in
theorem BX10_readOperand_1_0 : ∀ q ∈ ([(0, 42), (4, 61), (5, 28), (12, 42), (16, 172), (17, 28), (21, 2), (27, 28), (28, 146), (32, 62), (33, 29), (37, 42)] : List (Nat × Nat)), gb cX10_readOperand q.1 = some q.2 := seg_1 SX10_readOperand _ (by decide +kernel)
set_option maxRecDepth 20000 in
theorem BX10_readOperand_1_1 : ∀ q ∈ ([(38, 89), (42, 4), (43, 96), (47, 42), (48, 2), (49, 29), (50, 100), (54, 4), (55, 172), (56, 27), (62, 28), (68, 28)] : List (Nat × Nat)), gb cX10_readOperand q.1 = some q.2 := seg_1 SX10_readOperand _ (by decide +kernel)
set_option maxRecDepth 20000 in
theorem BX10_readOperand_1_2 : ∀ q ∈ ([(74, 28), (80, 3), (81, 172), (82, 42), (83, 89), (87, 4), (88, 96), (92, 28), (98, 42), (99, 3), (100, 27), (101, 4)] : List (Nat × Nat)), gb cX10_readOperand q.1 = some q.2 := seg_1 SX10_readOperand _ (by decide +kernel)
set_option maxRecDepth 20000 in
theorem BX10_readOperand_1_3 : ∀ q ∈ ([(102, 96), (109, 42), (118, 4), (122, 3), (123, 172), (124, 42), (125, 27), (126, 4), (127, 96), (134, 3), (135, 172), (136, 42)] : List (Nat × Nat)), gb cX10_readOperand q.1 = some q.2 := seg_1 SX10_readOperand _ (by decide +kernel)
set_option maxRecDepth 20000 in
theorem BX10_readOperand_1_4 : ∀ q ∈ ([(137, 28), (153, 4), (154, 172)] : List (Nat × Nat)), gb cX10_readOperand q.1 = some q.2 := seg_1 SX10_readOperand _ (by decide +kernel)
set_option maxRecDepth 20000 in
theorem BX10_readOperand_2_0 : ∀ q ∈ ([(25, 18, 68), (57, 16, 6), (63, 16, 40), (69, 16, 33), (75, 16, 45), (93, 16, 40), (110, 16, 41), (138, 16, 33), (143, 16, 223), (148, 16, 130)] : List (Nat × Nat × Nat)), gb cX10_readOperand q.1 = some q.2.1 ∧ gb cX10_readOperand (q.1 + 1) = some q.2.2 := seg_2 SX10_readOperand _ (by decide +kernel)
set_option maxRecDepth 20000 in
theorem BX10_readOperand_3_0 : ∀ q ∈ ([(1, 182, 0, 54), (6, 184, 0, 62), (9, 153, 0, 8), (13, 182, 0, 65), (18, 156, 0, 7), (22, 167, 0, 10), (29, 182, 0, 70), (34, 155, 0, 22), (39, 180, 0, 29), (44, 181, 0, 29), (51, 182, 0, 47), (59, 162, 0, 21)] : List (Nat × Nat × Nat × Nat)), gb cX10_readOperand q.1 = some q.2.1 ∧ gb cX10_readOperand (q.1 + 1) = some q.2.2.1 ∧ gb cX10_readOperand (q.1 + 2) = some q.2.2.2 := seg_3 SX10_readOperand _ (by decide +kernel)
set_option maxRecDepth 20000 in
theorem BX10_readOperand_3_1 : ∀ q ∈ ([(65, 159, 0, 17), (71, 159, 0, 11), (77, 159, 0, 5), (84, 180, 0, 29), (89, 181, 0, 29), (95, 160, 0, 29), (103, 182, 0, 43), (106, 153, 0, 16), (112, 182, 0, 39), (115, 153, 0, 7), (119, 167, 0, 4), (128, 182, 0, 51)] : List (Nat × Nat × Nat × Nat)), gb cX10_readOperand q.1 = some q.2.1 ∧ gb cX10_readOperand (q.1 + 1) = some q.2.2.1 ∧ gb cX10_readOperand (q.1 + 2) = some q.2.2.2 := seg_3 SX10_readOperand _ (by decide +kernel)
set_option maxRecDepth 20000 in
theorem BX10_readOperand_3_2 : ∀ q ∈ ([(131, 154, 0, 5), (140, 160, 0, 8), (145, 167, 0, 5), (150, 182, 0, 47)] : List (Nat × Nat × Nat × Nat)), gb cX10_readOperand q.1 = some q.2.1 ∧ gb cX10_readOperand (q.1 + 1) = some q.2.2.1 ∧ gb cX10_readOperand (q.1 + 2) = some q.2.2.2 := seg_3 SX10_readOperand _ (by decide +kernel)
theorem dX10_readOperand_0 : decode cX10_readOperand 0 = .ok (.aload_n 0, 1) := dk42 (BX10_readOperand_1_0 (0, 42) (List.mem_of_getElem? (i := 0) rfl))
theorem dX10_readOperand_1 : decode cX10_readOperand 1 = .ok (.invokevirtual 54, 3) := dk182 0 54 (BX10_readOperand_3_0 (1, 182, 0, 54) (List.mem_of_getElem? (i := 0) rfl))
theorem dX10_readOperand_4 : decode cX10_readOperand 4 = .ok (.istore_n 2, 1) := dk61 (BX10_readOperand_1_0 (4, 61) (List.mem_of_getElem? (i := 1) rfl))
theorem dX10_readOperand_5 : decode cX10_readOperand 5 = .ok (.iload_n 2, 1) := dk28 (BX10_readOperand_1_0 (5, 28) (List.mem_of_getElem? (i := 2) rfl))
theorem dX10_readOperand_6 : decode cX10_readOperand 6 = .ok (.invokestatic 62, 3) := dk184 0 62 (BX10_readOperand_3_0 (6, 184, 0, 62) (List.mem_of_getElem? (i := 1) rfl))
theorem dX10_readOperand_9 : decode cX10_readOperand 9 = .ok (.ifCond .eq 8, 3) := dk153 0 8 (BX10_readOperand_3_0 (9, 153, 0, 8) (List.mem_of_getElem? (i := 2) rfl))
theorem dX10_readOperand_12 : decode cX10_readOperand 12 = .ok (.aload_n 0, 1) := dk42 (BX10_readOperand_1_0 (12, 42) (List.mem_of_getElem? (i := 3) rfl))
theorem dX10_readOperand_13 : decode cX10_readOperand 13 = .ok (.invokevirtual 65, 3) := dk182 0 65 (BX10_readOperand_3_0 (13, 182, 0, 65) (List.mem_of_getElem? (i := 3) rfl))
theorem dX10_readOperand_16 : decode cX10_readOperand 16 = .ok (.ireturn, 1) := dk172 (BX10_readOperand_1_0 (16, 172) (List.mem_of_getElem? (i := 4) rfl))
theorem dX10_readOperand_17 : decode cX10_readOperand 17 = .ok (.iload_n 2, 1) := dk28 (BX10_readOperand_1_0 (17, 28) (List.mem_of_getElem? (i := 5) rfl))
theorem dX10_readOperand_18 : decode cX10_readOperand 18 = .ok (.ifCond .ge 7, 3) := dk156 0 7 (BX10_readOperand_3_0 (18, 156, 0, 7) (List.mem_of_getElem? (i := 4) rfl))
theorem dX10_readOperand_21 : decode cX10_readOperand 21 = .ok (.iconst (-1), 1) := dk2 (BX10_readOperand_1_0 (21, 2) (List.mem_of_getElem? (i := 6) rfl))
theorem dX10_readOperand_22 : decode cX10_readOperand 22 = .ok (.goto 10, 3) := dk167 0 10 (BX10_readOperand_3_0 (22, 167, 0, 10) (List.mem_of_getElem? (i := 5) rfl))
theorem dX10_readOperand_25 : decode cX10_readOperand 25 = .ok (.ldc 68, 2) := dk18 68 (BX10_readOperand_2_0 (25, 18, 68) (List.mem_of_getElem? (i := 0) rfl))
theorem dX10_readOperand_27 : decode cX10_readOperand 27 = .ok (.iload_n 2, 1) := dk28 (BX10_readOperand_1_0 (27, 28) (List.mem_of_getElem? (i := 7) rfl))
theorem dX10_readOperand_28 : decode cX10_readOperand 28 = .ok (.i2c, 1) := dk146 (BX10_readOperand_1_0 (28, 146) (List.mem_of_getElem? (i := 8) rfl))
theorem dX10_readOperand_29 : decode cX10_readOperand 29 = .ok (.invokevirtual 70, 3) := dk182 0 70 (BX10_readOperand_3_0 (29, 182, 0, 70) (List.mem_of_getElem? (i := 6) rfl))
theorem dX10_readOperand_32 : decode cX10_readOperand 32 = .ok (.istore_n 3, 1) := dk62 (BX10_readOperand_1_0 (32, 62) (List.mem_of_getElem? (i := 9) rfl))
theorem dX10_readOperand_33 : decode cX10_readOperand 33 = .ok (.iload_n 3, 1) := dk29 (BX10_readOperand_1_0 (33, 29) (List.mem_of_getElem? (i := 10) rfl))
theorem dX10_readOperand_34 : decode cX10_readOperand 34 = .ok (.ifCond .lt 22, 3) := dk155 0 22 (BX10_readOperand_3_0 (34, 155, 0, 22) (List.mem_of_getElem? (i := 7) rfl))
theorem dX10_readOperand_37 : decode cX10_readOperand 37 = .ok (.aload_n 0, 1) := dk42 (BX10_readOperand_1_0 (37, 42) (List.mem_of_getElem? (i := 11) rfl))
theorem dX10_readOperand_38 : decode cX10_readOperand 38 = .ok (.dup, 1) := dk89 (BX10_readOperand_1_1 (38, 89) (List.mem_of_getElem? (i := 0) rfl))
theorem dX10_readOperand_39 : decode cX10_readOperand 39 = .ok (.getfield 29, 3) := dk180 0 29 (BX10_readOperand_3_0 (39, 180, 0, 29) (List.mem_of_getElem? (i := 8) rfl))
theorem dX10_readOperand_42 : decode cX10_readOperand 42 = .ok (.iconst 1, 1) := dk4 (BX10_readOperand_1_1 (42, 4) (List.mem_of_getElem? (i := 1) rfl))
theorem dX10_readOperand_43 : decode cX10_readOperand 43 = .ok (.iadd, 1) := dk96 (BX10_readOperand_1_1 (43, 96) (List.mem_of_getElem? (i := 2) rfl))
theorem dX10_readOperand_44 : decode cX10_readOperand 44 = .ok (.putfield 29, 3) := dk181 0 29 (BX10_readOperand_3_0 (44, 181, 0, 29) (List.mem_of_getElem? (i := 9) rfl))
theorem dX10_readOperand_47 : decode cX10_readOperand 47 = .ok (.aload_n 0, 1) := dk42 (BX10_readOperand_1_1 (47, 42) (List.mem_of_getElem? (i := 3) rfl))
theorem dX10_readOperand_48 : decode cX10_readOperand 48 = .ok (.iconst (-1), 1) := dk2 (BX10_readOperand_1_1 (48, 2) (List.mem_of_getElem? (i := 4) rfl))
theorem dX10_readOperand_49 : decode cX10_readOperand 49 = .ok (.iload_n 3, 1) := dk29 (BX10_readOperand_1_1 (49, 29) (List.mem_of_getElem? (i := 5) rfl))
theorem dX10_readOperand_50 : decode cX10_readOperand 50 = .ok (.isub, 1) := dk100 (BX10_readOperand_1_1 (50, 100) (List.mem_of_getElem? (i := 6) rfl))
theorem dX10_readOperand_51 : decode cX10_readOperand 51 = .ok (.invokevirtual 47, 3) := dk182 0 47 (BX10_readOperand_3_0 (51, 182, 0, 47) (List.mem_of_getElem? (i := 10) rfl))
theorem dX10_readOperand_54 : decode cX10_readOperand 54 = .ok (.iconst 1, 1) := dk4 (BX10_readOperand_1_1 (54, 4) (List.mem_of_getElem? (i := 7) rfl))
theorem dX10_readOperand_55 : decode cX10_readOperand 55 = .ok (.ireturn, 1) := dk172 (BX10_readOperand_1_1 (55, 172) (List.mem_of_getElem? (i := 8) rfl))
theorem dX10_readOperand_56 : decode cX10_readOperand 56 = .ok (.iload_n 1, 1) := dk27 (BX10_readOperand_1_1 (56, 27) (List.mem_of_getElem? (i := 9) rfl))
theorem dX10_readOperand_57 : decode cX10_readOperand 57 = .ok (.bipush 6, 2) := dk16 6 (BX10_readOperand_2_0 (57, 16, 6) (List.mem_of_getElem? (i := 1) rfl))
theorem dX10_readOperand_59 : decode cX10_readOperand 59 = .ok (.if_icmp .ge 21, 3) := dk162 0 21 (BX10_readOperand_3_0 (59, 162, 0, 21) (List.mem_of_getElem? (i := 11) rfl))
theorem dX10_readOperand_62 : decode cX10_readOperand 62 = .ok (.iload_n 2, 1) := dk28 (BX10_readOperand_1_1 (62, 28) (List.mem_of_getElem? (i := 10) rfl))
theorem dX10_readOperand_63 : decode cX10_readOperand 63 = .ok (.bipush 40, 2) := dk16 40 (BX10_readOperand_2_0 (63, 16, 40) (List.mem_of_getElem? (i := 2) rfl))
theorem dX10_readOperand_65 : decode cX10_readOperand 65 = .ok (.if_icmp .eq 17, 3) := dk159 0 17 (BX10_readOperand_3_1 (65, 159, 0, 17) (List.mem_of_getElem? (i := 0) rfl))
theorem dX10_readOperand_68 : decode cX10_readOperand 68 = .ok (.iload_n 2, 1) := dk28 (BX10_readOperand_1_1 (68, 28) (List.mem_of_getElem? (i := 11) rfl))
theorem dX10_readOperand_69 : decode cX10_readOperand 69 = .ok (.bipush 33, 2) := dk16 33 (BX10_readOperand_2_0 (69, 16, 33) (List.mem_of_getElem? (i := 3) rfl))
theorem dX10_readOperand_71 : decode cX10_readOperand 71 = .ok (.if_icmp .eq 11, 3) := dk159 0 11 (BX10_readOperand_3_1 (71, 159, 0, 11) (List.mem_of_getElem? (i := 1) rfl))
theorem dX10_readOperand_74 : decode cX10_readOperand 74 = .ok (.iload_n 2, 1) := dk28 (BX10_readOperand_1_2 (74, 28) (List.mem_of_getElem? (i := 0) rfl))
theorem dX10_readOperand_75 : decode cX10_readOperand 75 = .ok (.bipush 45, 2) := dk16 45 (BX10_readOperand_2_0 (75, 16, 45) (List.mem_of_getElem? (i := 4) rfl))
theorem dX10_readOperand_77 : decode cX10_readOperand 77 = .ok (.if_icmp .eq 5, 3) := dk159 0 5 (BX10_readOperand_3_1 (77, 159, 0, 5) (List.mem_of_getElem? (i := 2) rfl))
theorem dX10_readOperand_80 : decode cX10_readOperand 80 = .ok (.iconst 0, 1) := dk3 (BX10_readOperand_1_2 (80, 3) (List.mem_of_getElem? (i := 1) rfl))
theorem dX10_readOperand_81 : decode cX10_readOperand 81 = .ok (.ireturn, 1) := dk172 (BX10_readOperand_1_2 (81, 172) (List.mem_of_getElem? (i := 2) rfl))
theorem dX10_readOperand_82 : decode cX10_readOperand 82 = .ok (.aload_n 0, 1) := dk42 (BX10_readOperand_1_2 (82, 42) (List.mem_of_getElem? (i := 3) rfl))
theorem dX10_readOperand_83 : decode cX10_readOperand 83 = .ok (.dup, 1) := dk89 (BX10_readOperand_1_2 (83, 89) (List.mem_of_getElem? (i := 4) rfl))
theorem dX10_readOperand_84 : decode cX10_readOperand 84 = .ok (.getfield 29, 3) := dk180 0 29 (BX10_readOperand_3_1 (84, 180, 0, 29) (List.mem_of_getElem? (i := 3) rfl))
theorem dX10_readOperand_87 : decode cX10_readOperand 87 = .ok (.iconst 1, 1) := dk4 (BX10_readOperand_1_2 (87, 4) (List.mem_of_getElem? (i := 5) rfl))
theorem dX10_readOperand_88 : decode cX10_readOperand 88 = .ok (.iadd, 1) := dk96 (BX10_readOperand_1_2 (88, 96) (List.mem_of_getElem? (i := 6) rfl))
theorem dX10_readOperand_89 : decode cX10_readOperand 89 = .ok (.putfield 29, 3) := dk181 0 29 (BX10_readOperand_3_1 (89, 181, 0, 29) (List.mem_of_getElem? (i := 4) rfl))
theorem dX10_readOperand_92 : decode cX10_readOperand 92 = .ok (.iload_n 2, 1) := dk28 (BX10_readOperand_1_2 (92, 28) (List.mem_of_getElem? (i := 7) rfl))
theorem dX10_readOperand_93 : decode cX10_readOperand 93 = .ok (.bipush 40, 2) := dk16 40 (BX10_readOperand_2_0 (93, 16, 40) (List.mem_of_getElem? (i := 5) rfl))
theorem dX10_readOperand_95 : decode cX10_readOperand 95 = .ok (.if_icmp .ne 29, 3) := dk160 0 29 (BX10_readOperand_3_1 (95, 160, 0, 29) (List.mem_of_getElem? (i := 5) rfl))
theorem dX10_readOperand_98 : decode cX10_readOperand 98 = .ok (.aload_n 0, 1) := dk42 (BX10_readOperand_1_2 (98, 42) (List.mem_of_getElem? (i := 8) rfl))
theorem dX10_readOperand_99 : decode cX10_readOperand 99 = .ok (.iconst 0, 1) := dk3 (BX10_readOperand_1_2 (99, 3) (List.mem_of_getElem? (i := 9) rfl))
theorem dX10_readOperand_100 : decode cX10_readOperand 100 = .ok (.iload_n 1, 1) := dk27 (BX10_readOperand_1_2 (100, 27) (List.mem_of_getElem? (i := 10) rfl))
theorem dX10_readOperand_101 : decode cX10_readOperand 101 = .ok (.iconst 1, 1) := dk4 (BX10_readOperand_1_2 (101, 4) (List.mem_of_getElem? (i := 11) rfl))
theorem dX10_readOperand_102 : decode cX10_readOperand 102 = .ok (.iadd, 1) := dk96 (BX10_readOperand_1_3 (102, 96) (List.mem_of_getElem? (i := 0) rfl))
theorem dX10_readOperand_103 : decode cX10_readOperand 103 = .ok (.invokevirtual 43, 3) := dk182 0 43 (BX10_readOperand_3_1 (103, 182, 0, 43) (List.mem_of_getElem? (i := 6) rfl))
theorem dX10_readOperand_106 : decode cX10_readOperand 106 = .ok (.ifCond .eq 16, 3) := dk153 0 16 (BX10_readOperand_3_1 (106, 153, 0, 16) (List.mem_of_getElem? (i := 7) rfl))
theorem dX10_readOperand_109 : decode cX10_readOperand 109 = .ok (.aload_n 0, 1) := dk42 (BX10_readOperand_1_3 (109, 42) (List.mem_of_getElem? (i := 1) rfl))
theorem dX10_readOperand_110 : decode cX10_readOperand 110 = .ok (.bipush 41, 2) := dk16 41 (BX10_readOperand_2_0 (110, 16, 41) (List.mem_of_getElem? (i := 6) rfl))
theorem dX10_readOperand_112 : decode cX10_readOperand 112 = .ok (.invokevirtual 39, 3) := dk182 0 39 (BX10_readOperand_3_1 (112, 182, 0, 39) (List.mem_of_getElem? (i := 8) rfl))
theorem dX10_readOperand_115 : decode cX10_readOperand 115 = .ok (.ifCond .eq 7, 3) := dk153 0 7 (BX10_readOperand_3_1 (115, 153, 0, 7) (List.mem_of_getElem? (i := 9) rfl))
theorem dX10_readOperand_118 : decode cX10_readOperand 118 = .ok (.iconst 1, 1) := dk4 (BX10_readOperand_1_3 (118, 4) (List.mem_of_getElem? (i := 2) rfl))
theorem dX10_readOperand_119 : decode cX10_readOperand 119 = .ok (.goto 4, 3) := dk167 0 4 (BX10_readOperand_3_1 (119, 167, 0, 4) (List.mem_of_getElem? (i := 10) rfl))
theorem dX10_readOperand_122 : decode cX10_readOperand 122 = .ok (.iconst 0, 1) := dk3 (BX10_readOperand_1_3 (122, 3) (List.mem_of_getElem? (i := 3) rfl))
theorem dX10_readOperand_123 : decode cX10_readOperand 123 = .ok (.ireturn, 1) := dk172 (BX10_readOperand_1_3 (123, 172) (List.mem_of_getElem? (i := 4) rfl))
theorem dX10_readOperand_124 : decode cX10_readOperand 124 = .ok (.aload_n 0, 1) := dk42 (BX10_readOperand_1_3 (124, 42) (List.mem_of_getElem? (i := 5) rfl))
theorem dX10_readOperand_125 : decode cX10_readOperand 125 = .ok (.iload_n 1, 1) := dk27 (BX10_readOperand_1_3 (125, 27) (List.mem_of_getElem? (i := 6) rfl))
theorem dX10_readOperand_126 : decode cX10_readOperand 126 = .ok (.iconst 1, 1) := dk4 (BX10_readOperand_1_3 (126, 4) (List.mem_of_getElem? (i := 7) rfl))
theorem dX10_readOperand_127 : decode cX10_readOperand 127 = .ok (.iadd, 1) := dk96 (BX10_readOperand_1_3 (127, 96) (List.mem_of_getElem? (i := 8) rfl))
theorem dX10_readOperand_128 : decode cX10_readOperand 128 = .ok (.invokevirtual 51, 3) := dk182 0 51 (BX10_readOperand_3_1 (128, 182, 0, 51) (List.mem_of_getElem? (i := 11) rfl))
theorem dX10_readOperand_131 : decode cX10_readOperand 131 = .ok (.ifCond .ne 5, 3) := dk154 0 5 (BX10_readOperand_3_2 (131, 154, 0, 5) (List.mem_of_getElem? (i := 0) rfl))
theorem dX10_readOperand_134 : decode cX10_readOperand 134 = .ok (.iconst 0, 1) := dk3 (BX10_readOperand_1_3 (134, 3) (List.mem_of_getElem? (i := 9) rfl))
theorem dX10_readOperand_135 : decode cX10_readOperand 135 = .ok (.ireturn, 1) := dk172 (BX10_readOperand_1_3 (135, 172) (List.mem_of_getElem? (i := 10) rfl))
theorem dX10_readOperand_136 : decode cX10_readOperand 136 = .ok (.aload_n 0, 1) := dk42 (BX10_readOperand_1_3 (136, 42) (List.mem_of_getElem? (i := 11) rfl))
theorem dX10_readOperand_137 : decode cX10_readOperand 137 = .ok (.iload_n 2, 1) := dk28 (BX10_readOperand_1_4 (137, 28) (List.mem_of_getElem? (i := 0) rfl))
theorem dX10_readOperand_138 : decode cX10_readOperand 138 = .ok (.bipush 33, 2) := dk16 33 (BX10_readOperand_2_0 (138, 16, 33) (List.mem_of_getElem? (i := 7) rfl))
theorem dX10_readOperand_140 : decode cX10_readOperand 140 = .ok (.if_icmp .ne 8, 3) := dk160 0 8 (BX10_readOperand_3_2 (140, 160, 0, 8) (List.mem_of_getElem? (i := 1) rfl))
theorem dX10_readOperand_143 : decode cX10_readOperand 143 = .ok (.bipush (-33), 2) := dk16 223 (BX10_readOperand_2_0 (143, 16, 223) (List.mem_of_getElem? (i := 8) rfl))
theorem dX10_readOperand_145 : decode cX10_readOperand 145 = .ok (.goto 5, 3) := dk167 0 5 (BX10_readOperand_3_2 (145, 167, 0, 5) (List.mem_of_getElem? (i := 2) rfl))
theorem dX10_readOperand_148 : decode cX10_readOperand 148 = .ok (.bipush (-126), 2) := dk16 130 (BX10_readOperand_2_0 (148, 16, 130) (List.mem_of_getElem? (i := 9) rfl))
theorem dX10_readOperand_150 : decode cX10_readOperand 150 = .ok (.invokevirtual 47, 3) := dk182 0 47 (BX10_readOperand_3_2 (150, 182, 0, 47) (List.mem_of_getElem? (i := 3) rfl))
theorem dX10_readOperand_153 : decode cX10_readOperand 153 = .ok (.iconst 1, 1) := dk4 (BX10_readOperand_1_4 (153, 4) (List.mem_of_getElem? (i := 1) rfl))
theorem dX10_readOperand_154 : decode cX10_readOperand 154 = .ok (.ireturn, 1) := dk172 (BX10_readOperand_1_4 (154, 172) (List.mem_of_getElem? (i := 2) rfl))
set_option maxRecDepth 20000 in
theorem ggX10_readNumber_X10_sign : GoodIn wsX10_readNumber wsX10_sign := goodIn_r _ [6, 1, 7, 8, 18, 19, 20, 21, 22] rfl (by decide +kernel)
set_option maxRecDepth 20000 in
theorem gX10_readNumber_X10_sign : GoodIn wsX10_readNumber (wsV RX10 54 RX10 yX10_sign wsX10_sign) := goodIn_app (goodIn_r _ [2, 3, 4, 5] rfl (by decide +kernel)) ggX10_readNumber_X10_sign
set_option maxRecDepth 20000 in
theorem ggX10_readNumber_X10_isDigit : GoodIn wsX10_readNumber wsX10_isDigit := goodIn_r _ [11] rfl (by decide +kernel)
set_option maxRecDepth 20000 in
theorem gX10_readNumber_X10_isDigit : GoodIn wsX10_readNumber (va_wsS RX10 62 yX10_isDigit wsX10_isDigit) := goodIn_app (goodIn_r _ [9, 10, 5] rfl (by decide +kernel)) ggX10_readNumber_X10_isDigit
set_option maxRecDepth 20000 in
theorem ggX10_readNumber_X10_step : GoodIn wsX10_readNumber wsX10_step := goodIn_r _ [15, 16, 17, 18, 19, 20, 21, 22] rfl (by decide +kernel)
set_option maxRecDepth 20000 in
theorem gX10_readNumber_X10_step : GoodIn wsX10_readNumber (wsV RX10 47 RX10 yX10_step wsX10_step) := goodIn_app (goodIn_r _ [12, 13, 14, 5] rfl (by decide +kernel)) ggX10_readNumber_X10_step
set_option maxRecDepth 20000 in
theorem SX10_readNumber : ∀ p : Nat, gb cX10_readNumber p = segF [[3, 60, 3, 61, 28, 7, 162, 0, 42, 42, 182, 0, 54, 184, 0, 62, 153, 0, 32, 27, 16, 10, 104, 42, 182, 0, 54, 96, 16, 48, 100, 60, 42, 89, 180, 0, 29, 4, 96, 181, 0, 29, 132, 2, 1, 167, 255, 215, 42, 27, 182, 0, 47, 4, 172]] p := seg_gb (S := [[3, 60, 3, 61, 28, 7, 162, 0, 42, 42, 182, 0, 54, 184, 0, 62, 153, 0, 32, 27, 16, 10, 104, 42, 182, 0, 54, 96, 16, 48, 100, 60, 42, 89, 180, 0, 29, 4, 96, 181, 0, 29, 132, 2, 1, 167, 255, 215, 42, 27, 182, 0, 47, 4, 172]]) (by decide +kernel) (by decide +kernel)
set_option maxRecDepth 20000 in
theorem BX10_readNumber_1_0 : ∀ q ∈ ([(0, 3), (1, 60), (2, 3), (3, 61), (4, 28), (5, 7), (9, 42), (19, 27), (22, 104), (23, 42), (27, 96), (30, 100)] : List (Nat × Nat)), gb cX10_readNumber q.1 = some q.2 := seg_1 SX10_readNumber _ (by decide +kernel)
set_option maxRecDepth 20000 in
theorem BX10_readNumber_1_1 : ∀ q ∈ ([(31, 60), (32, 42), (33, 89), (37, 4), (38, 96), (48, 42), (49, 27), (53, 4), (54, 172)] : List (Nat × Nat)), gb cX10_readNumber q.1 = some q.2 := seg_1 SX10_readNumber _ (by decide +kernel)
set_option maxRecDepth 20000 in
theorem BX10_readNumber_2_0 : ∀ q ∈ ([(20, 16, 10), (28, 16, 48)] : List (Nat × Nat × Nat)), gb cX10_readNumber q.1 = some q.2.1 ∧ gb cX10_readNumber (q.1 + 1) = some q.2.2 := seg_2 SX10_readNumber _ (by decide +kernel)
set_option maxRecDepth 20000 in
theorem BX10_readNumber_3_0 : ∀ q ∈ ([(6, 162, 0, 42), (10, 182, 0, 54), (13, 184, 0, 62), (16, 153, 0, 32), (24, 182, 0, 54), (34, 180, 0, 29), (39, 181, 0, 29), (42, 132, 2, 1), (45, 167, 255, 215), (50, 182, 0, 47)] : List (Nat × Nat × Nat × Nat)), gb cX10_readNumber q.1 = some q.2.1 ∧ gb cX10_readNumber (q.1 + 1) = some q.2.2.1 ∧ gb cX10_readNumber (q.1 + 2) = some q.2.2.2 := seg_3 SX10_readNumber _ (by decide +kernel)
theorem dX10_readNumber_0 : decode cX10_readNumber 0 = .ok (.iconst 0, 1) := dk3 (BX10_readNumber_1_0 (0, 3) (List.mem_of_getElem? (i := 0) rfl))
theorem dX10_readNumber_1 : decode cX10_readNumber 1 = .ok (.istore_n 1, 1) := dk60 (BX10_readNumber_1_0 (1, 60) (List.mem_of_getElem? (i := 1) rfl))
theorem dX10_readNumber_2 : decode cX10_readNumber 2 = .ok (.iconst 0, 1) := dk3 (BX10_readNumber_1_0 (2, 3) (List.mem_of_getElem? (i := 2) rfl))
theorem dX10_readNumber_3 : decode cX10_readNumber 3 = .ok (.istore_n 2, 1) := dk61 (BX10_readNumber_1_0 (3, 61) (List.mem_of_getElem? (i := 3) rfl))
theorem dX10_readNumber_4 : decode cX10_readNumber 4 = .ok (.iload_n 2, 1) := dk28 (BX10_readNumber_1_0 (4, 28) (List.mem_of_getElem? (i := 4) rfl))
theorem dX10_readNumber_5 : decode cX10_readNumber 5 = .ok (.iconst 4, 1) := dk7 (BX10_readNumber_1_0 (5, 7) (List.mem_of_getElem? (i := 5) rfl))
theorem dX10_readNumber_6 : decode cX10_readNumber 6 = .ok (.if_icmp .ge 42, 3) := dk162 0 42 (BX10_readNumber_3_0 (6, 162, 0, 42) (List.mem_of_getElem? (i := 0) rfl))
theorem dX10_readNumber_9 : decode cX10_readNumber 9 = .ok (.aload_n 0, 1) := dk42 (BX10_readNumber_1_0 (9, 42) (List.mem_of_getElem? (i := 6) rfl))
theorem dX10_readNumber_10 : decode cX10_readNumber 10 = .ok (.invokevirtual 54, 3) := dk182 0 54 (BX10_readNumber_3_0 (10, 182, 0, 54) (List.mem_of_getElem? (i := 1) rfl))
theorem dX10_readNumber_13 : decode cX10_readNumber 13 = .ok (.invokestatic 62, 3) := dk184 0 62 (BX10_readNumber_3_0 (13, 184, 0, 62) (List.mem_of_getElem? (i := 2) rfl))
theorem dX10_readNumber_16 : decode cX10_readNumber 16 = .ok (.ifCond .eq 32, 3) := dk153 0 32 (BX10_readNumber_3_0 (16, 153, 0, 32) (List.mem_of_getElem? (i := 3) rfl))
theorem dX10_readNumber_19 : decode cX10_readNumber 19 = .ok (.iload_n 1, 1) := dk27 (BX10_readNumber_1_0 (19, 27) (List.mem_of_getElem? (i := 7) rfl))
theorem dX10_readNumber_20 : decode cX10_readNumber 20 = .ok (.bipush 10, 2) := dk16 10 (BX10_readNumber_2_0 (20, 16, 10) (List.mem_of_getElem? (i := 0) rfl))
theorem dX10_readNumber_22 : decode cX10_readNumber 22 = .ok (.imul, 1) := dk104 (BX10_readNumber_1_0 (22, 104) (List.mem_of_getElem? (i := 8) rfl))
theorem dX10_readNumber_23 : decode cX10_readNumber 23 = .ok (.aload_n 0, 1) := dk42 (BX10_readNumber_1_0 (23, 42) (List.mem_of_getElem? (i := 9) rfl))
theorem dX10_readNumber_24 : decode cX10_readNumber 24 = .ok (.invokevirtual 54, 3) := dk182 0 54 (BX10_readNumber_3_0 (24, 182, 0, 54) (List.mem_of_getElem? (i := 4) rfl))
theorem dX10_readNumber_27 : decode cX10_readNumber 27 = .ok (.iadd, 1) := dk96 (BX10_readNumber_1_0 (27, 96) (List.mem_of_getElem? (i := 10) rfl))
theorem dX10_readNumber_28 : decode cX10_readNumber 28 = .ok (.bipush 48, 2) := dk16 48 (BX10_readNumber_2_0 (28, 16, 48) (List.mem_of_getElem? (i := 1) rfl))
theorem dX10_readNumber_30 : decode cX10_readNumber 30 = .ok (.isub, 1) := dk100 (BX10_readNumber_1_0 (30, 100) (List.mem_of_getElem? (i := 11) rfl))
theorem dX10_readNumber_31 : decode cX10_readNumber 31 = .ok (.istore_n 1, 1) := dk60 (BX10_readNumber_1_1 (31, 60) (List.mem_of_getElem? (i := 0) rfl))
theorem dX10_readNumber_32 : decode cX10_readNumber 32 = .ok (.aload_n 0, 1) := dk42 (BX10_readNumber_1_1 (32, 42) (List.mem_of_getElem? (i := 1) rfl))
theorem dX10_readNumber_33 : decode cX10_readNumber 33 = .ok (.dup, 1) := dk89 (BX10_readNumber_1_1 (33, 89) (List.mem_of_getElem? (i := 2) rfl))
theorem dX10_readNumber_34 : decode cX10_readNumber 34 = .ok (.getfield 29, 3) := dk180 0 29 (BX10_readNumber_3_0 (34, 180, 0, 29) (List.mem_of_getElem? (i := 5) rfl))
theorem dX10_readNumber_37 : decode cX10_readNumber 37 = .ok (.iconst 1, 1) := dk4 (BX10_readNumber_1_1 (37, 4) (List.mem_of_getElem? (i := 3) rfl))
theorem dX10_readNumber_38 : decode cX10_readNumber 38 = .ok (.iadd, 1) := dk96 (BX10_readNumber_1_1 (38, 96) (List.mem_of_getElem? (i := 4) rfl))
theorem dX10_readNumber_39 : decode cX10_readNumber 39 = .ok (.putfield 29, 3) := dk181 0 29 (BX10_readNumber_3_0 (39, 181, 0, 29) (List.mem_of_getElem? (i := 6) rfl))
theorem dX10_readNumber_42 : decode cX10_readNumber 42 = .ok (.iinc 2 1, 3) := dk132 2 1 (BX10_readNumber_3_0 (42, 132, 2, 1) (List.mem_of_getElem? (i := 7) rfl))
theorem dX10_readNumber_45 : decode cX10_readNumber 45 = .ok (.goto (-41), 3) := dk167 255 215 (BX10_readNumber_3_0 (45, 167, 255, 215) (List.mem_of_getElem? (i := 8) rfl))
theorem dX10_readNumber_48 : decode cX10_readNumber 48 = .ok (.aload_n 0, 1) := dk42 (BX10_readNumber_1_1 (48, 42) (List.mem_of_getElem? (i := 5) rfl))
theorem dX10_readNumber_49 : decode cX10_readNumber 49 = .ok (.iload_n 1, 1) := dk27 (BX10_readNumber_1_1 (49, 27) (List.mem_of_getElem? (i := 6) rfl))
theorem dX10_readNumber_50 : decode cX10_readNumber 50 = .ok (.invokevirtual 47, 3) := dk182 0 47 (BX10_readNumber_3_0 (50, 182, 0, 47) (List.mem_of_getElem? (i := 9) rfl))
theorem dX10_readNumber_53 : decode cX10_readNumber 53 = .ok (.iconst 1, 1) := dk4 (BX10_readNumber_1_1 (53, 4) (List.mem_of_getElem? (i := 7) rfl))
theorem dX10_readNumber_54 : decode cX10_readNumber 54 = .ok (.ireturn, 1) := dk172 (BX10_readNumber_1_1 (54, 172) (List.mem_of_getElem? (i := 8) rfl))
set_option maxRecDepth 20000 in
theorem SX10_levelOf : ∀ p : Nat, gb cX10_levelOf p = segF [[26, 171, 0, 0, 0, 0, 0, 101, 0, 0, 0, 10, 0, 0, 0, 37, 0, 0, 0, 99, 0, 0, 0, 38, 0, 0, 0, 93, 0, 0, 0, 42, 0, 0, 0, 99, 0, 0, 0, 43, 0, 0, 0, 97, 0, 0, 0, 45, 0, 0, 0, 97, 0, 0, 0, 47, 0, 0, 0, 99, 0, 0, 0, 60], [0, 0, 0, 95, 0, 0, 0, 61, 0, 0, 0, 95, 0, 0, 0, 62, 0, 0, 0, 95, 0, 0, 0, 124, 0, 0, 0, 91, 3, 172, 4, 172, 5, 172, 6, 172, 7, 172, 2, 172]] p := seg_gb (S := [[26, 171, 0, 0, 0, 0, 0, 101, 0, 0, 0, 10, 0, 0, 0, 37, 0, 0, 0, 99, 0, 0, 0, 38, 0, 0, 0, 93, 0, 0, 0, 42, 0, 0, 0, 99, 0, 0, 0, 43, 0, 0, 0, 97, 0, 0, 0, 45, 0, 0, 0, 97, 0, 0, 0, 47, 0, 0, 0, 99, 0, 0, 0, 60], [0, 0, 0, 95, 0, 0, 0, 61, 0, 0, 0, 95, 0, 0, 0, 62, 0, 0, 0, 95, 0, 0, 0, 124, 0, 0, 0, 91, 3, 172, 4, 172, 5, 172, 6, 172, 7, 172, 2, 172]]) (by decide +kernel) (by decide +kernel)
set_option maxRecDepth 20000 in
theorem BX10_levelOf_1_0 : ∀ q ∈ ([(0, 26), (92, 3), (93, 172), (94, 4), (95, 172), (96, 5), (97, 172), (98, 6), (99, 172), (100, 7), (101, 172), (102, 2)] : List (Nat × Nat)), gb cX10_levelOf q.1 = some q.2 := seg_1 SX10_levelOf _ (by decide +kernel)
set_option maxRecDepth 20000 in
theorem BX10_levelOf_1_1 : ∀ q ∈ ([(103, 172)] : List (Nat × Nat)), gb cX10_levelOf q.1 = some q.2 := seg_1 SX10_levelOf _ (by decide +kernel)
theorem dX10_levelOf_0 : decode cX10_levelOf 0 = .ok (.iload_n 0, 1) := dk26 (BX10_levelOf_1_0 (0, 26) (List.mem_of_getElem? (i := 0) rfl))
theorem dX10_levelOf_1 : decode cX10_levelOf 1 = .ok (.lookupswitch 101 #[(37, 99), (38, 93), (42, 99), (43, 97), (45, 97), (47, 99), (60, 95), (61, 95), (62, 95), (124, 91)], 91) := by decide +kernel
theorem dX10_levelOf_92 : decode cX10_levelOf 92 = .ok (.iconst 0, 1) := dk3 (BX10_levelOf_1_0 (92, 3) (List.mem_of_getElem? (i := 1) rfl))
theorem dX10_levelOf_93 : decode cX10_levelOf 93 = .ok (.ireturn, 1) := dk172 (BX10_levelOf_1_0 (93, 172) (List.mem_of_getElem? (i := 2) rfl))
theorem dX10_levelOf_94 : decode cX10_levelOf 94 = .ok (.iconst 1, 1) := dk4 (BX10_levelOf_1_0 (94, 4) (List.mem_of_getElem? (i := 3) rfl))
theorem dX10_levelOf_95 : decode cX10_levelOf 95 = .ok (.ireturn, 1) := dk172 (BX10_levelOf_1_0 (95, 172) (List.mem_of_getElem? (i := 4) rfl))
theorem dX10_levelOf_96 : decode cX10_levelOf 96 = .ok (.iconst 2, 1) := dk5 (BX10_levelOf_1_0 (96, 5) (List.mem_of_getElem? (i := 5) rfl))
theorem dX10_levelOf_97 : decode cX10_levelOf 97 = .ok (.ireturn, 1) := dk172 (BX10_levelOf_1_0 (97, 172) (List.mem_of_getElem? (i := 6) rfl))
theorem dX10_levelOf_98 : decode cX10_levelOf 98 = .ok (.iconst 3, 1) := dk6 (BX10_levelOf_1_0 (98, 6) (List.mem_of_getElem? (i := 7) rfl))
theorem dX10_levelOf_99 : decode cX10_levelOf 99 = .ok (.ireturn, 1) := dk172 (BX10_levelOf_1_0 (99, 172) (List.mem_of_getElem? (i := 8) rfl))
theorem dX10_levelOf_100 : decode cX10_levelOf 100 = .ok (.iconst 4, 1) := dk7 (BX10_levelOf_1_0 (100, 7) (List.mem_of_getElem? (i := 9) rfl))
theorem dX10_levelOf_101 : decode cX10_levelOf 101 = .ok (.ireturn, 1) := dk172 (BX10_levelOf_1_0 (101, 172) (List.mem_of_getElem? (i := 10) rfl))
theorem dX10_levelOf_102 : decode cX10_levelOf 102 = .ok (.iconst (-1), 1) := dk2 (BX10_levelOf_1_0 (102, 2) (List.mem_of_getElem? (i := 11) rfl))
theorem dX10_levelOf_103 : decode cX10_levelOf 103 = .ok (.ireturn, 1) := dk172 (BX10_levelOf_1_1 (103, 172) (List.mem_of_getElem? (i := 0) rfl))
set_option maxRecDepth 20000 in
theorem SX10_isDigit : ∀ p : Nat, gb cX10_isDigit p = segF [[16, 48, 26, 163, 0, 13, 26, 16, 57, 163, 0, 7, 4, 167, 0, 4, 3, 172]] p := seg_gb (S := [[16, 48, 26, 163, 0, 13, 26, 16, 57, 163, 0, 7, 4, 167, 0, 4, 3, 172]]) (by decide +kernel) (by decide +kernel)
set_option maxRecDepth 20000 in
theorem BX10_isDigit_1_0 : ∀ q ∈ ([(2, 26), (6, 26), (12, 4), (16, 3), (17, 172)] : List (Nat × Nat)), gb cX10_isDigit q.1 = some q.2 := seg_1 SX10_isDigit _ (by decide +kernel)
set_option maxRecDepth 20000 in
theorem BX10_isDigit_2_0 : ∀ q ∈ ([(0, 16, 48), (7, 16, 57)] : List (Nat × Nat × Nat)), gb cX10_isDigit q.1 = some q.2.1 ∧ gb cX10_isDigit (q.1 + 1) = some q.2.2 := seg_2 SX10_isDigit _ (by decide +kernel)
set_option maxRecDepth 20000 in
theorem BX10_isDigit_3_0 : ∀ q ∈ ([(3, 163, 0, 13), (9, 163, 0, 7), (13, 167, 0, 4)] : List (Nat × Nat × Nat × Nat)), gb cX10_isDigit q.1 = some q.2.1 ∧ gb cX10_isDigit (q.1 + 1) = some q.2.2.1 ∧ gb cX10_isDigit (q.1 + 2) = some q.2.2.2 := seg_3 SX10_isDigit _ (by decide +kernel)
theorem dX10_isDigit_0 : decode cX10_isDigit 0 = .ok (.bipush 48, 2) := dk16 48 (BX10_isDigit_2_0 (0, 16, 48) (List.mem_of_getElem? (i := 0) rfl))
theorem dX10_isDigit_2 : decode cX10_isDigit 2 = .ok (.iload_n 0, 1) := dk26 (BX10_isDigit_1_0 (2, 26) (List.mem_of_getElem? (i := 0) rfl))
theorem dX10_isDigit_3 : decode cX10_isDigit 3 = .ok (.if_icmp .gt 13, 3) := dk163 0 13 (BX10_isDigit_3_0 (3, 163, 0, 13) (List.mem_of_getElem? (i := 0) rfl))
theorem dX10_isDigit_6 : decode cX10_isDigit 6 = .ok (.iload_n 0, 1) := dk26 (BX10_isDigit_1_0 (6, 26) (List.mem_of_getElem? (i := 1) rfl))
theorem dX10_isDigit_7 : decode cX10_isDigit 7 = .ok (.bipush 57, 2) := dk16 57 (BX10_isDigit_2_0 (7, 16, 57) (List.mem_of_getElem? (i := 1) rfl))
theorem dX10_isDigit_9 : decode cX10_isDigit 9 = .ok (.if_icmp .gt 7, 3) := dk163 0 7 (BX10_isDigit_3_0 (9, 163, 0, 7) (List.mem_of_getElem? (i := 1) rfl))
theorem dX10_isDigit_12 : decode cX10_isDigit 12 = .ok (.iconst 1, 1) := dk4 (BX10_isDigit_1_0 (12, 4) (List.mem_of_getElem? (i := 2) rfl))
theorem dX10_isDigit_13 : decode cX10_isDigit 13 = .ok (.goto 4, 3) := dk167 0 4 (BX10_isDigit_3_0 (13, 167, 0, 4) (List.mem_of_getElem? (i := 2) rfl))
theorem dX10_isDigit_16 : decode cX10_isDigit 16 = .ok (.iconst 0, 1) := dk3 (BX10_isDigit_1_0 (16, 3) (List.mem_of_getElem? (i := 3) rfl))
theorem dX10_isDigit_17 : decode cX10_isDigit 17 = .ok (.ireturn, 1) := dk172 (BX10_isDigit_1_0 (17, 172) (List.mem_of_getElem? (i := 4) rfl))
set_option maxRecDepth 20000 in
theorem SX10_sign : ∀ p : Nat, gb cX10_sign p = segF [[42, 180, 0, 29, 42, 180, 0, 19, 162, 0, 19, 42, 180, 0, 9, 42, 180, 0, 29, 51, 17, 0, 255, 126, 167, 0, 4, 2, 172]] p := seg_gb (S := [[42, 180, 0, 29, 42, 180, 0, 19, 162, 0, 19, 42, 180, 0, 9, 42, 180, 0, 29, 51, 17, 0, 255, 126, 167, 0, 4, 2, 172]]) (by decide +kernel) (by decide +kernel)
set_option maxRecDepth 20000 in
theorem BX10_sign_1_0 : ∀ q ∈ ([(0, 42), (4, 42), (11, 42), (15, 42), (19, 51), (23, 126), (27, 2), (28, 172)] : List (Nat × Nat)), gb cX10_sign q.1 = some q.2 := seg_1 SX10_sign _ (by decide +kernel)
set_option maxRecDepth 20000 in
theorem BX10_sign_3_0 : ∀ q ∈ ([(1, 180, 0, 29), (5, 180, 0, 19), (8, 162, 0, 19), (12, 180, 0, 9), (16, 180, 0, 29), (20, 17, 0, 255), (24, 167, 0, 4)] : List (Nat × Nat × Nat × Nat)), gb cX10_sign q.1 = some q.2.1 ∧ gb cX10_sign (q.1 + 1) = some q.2.2.1 ∧ gb cX10_sign (q.1 + 2) = some q.2.2.2 := seg_3 SX10_sign _ (by decide +kernel)
theorem dX10_sign_0 : decode cX10_sign 0 = .ok (.aload_n 0, 1) := dk42 (BX10_sign_1_0 (0, 42) (List.mem_of_getElem? (i := 0) rfl))
theorem dX10_sign_1 : decode cX10_sign 1 = .ok (.getfield 29, 3) := dk180 0 29 (BX10_sign_3_0 (1, 180, 0, 29) (List.mem_of_getElem? (i := 0) rfl))
theorem dX10_sign_4 : decode cX10_sign 4 = .ok (.aload_n 0, 1) := dk42 (BX10_sign_1_0 (4, 42) (List.mem_of_getElem? (i := 1) rfl))
theorem dX10_sign_5 : decode cX10_sign 5 = .ok (.getfield 19, 3) := dk180 0 19 (BX10_sign_3_0 (5, 180, 0, 19) (List.mem_of_getElem? (i := 1) rfl))
theorem dX10_sign_8 : decode cX10_sign 8 = .ok (.if_icmp .ge 19, 3) := dk162 0 19 (BX10_sign_3_0 (8, 162, 0, 19) (List.mem_of_getElem? (i := 2) rfl))
theorem dX10_sign_11 : decode cX10_sign 11 = .ok (.aload_n 0, 1) := dk42 (BX10_sign_1_0 (11, 42) (List.mem_of_getElem? (i := 2) rfl))
theorem dX10_sign_12 : decode cX10_sign 12 = .ok (.getfield 9, 3) := dk180 0 9 (BX10_sign_3_0 (12, 180, 0, 9) (List.mem_of_getElem? (i := 3) rfl))
theorem dX10_sign_15 : decode cX10_sign 15 = .ok (.aload_n 0, 1) := dk42 (BX10_sign_1_0 (15, 42) (List.mem_of_getElem? (i := 3) rfl))
theorem dX10_sign_16 : decode cX10_sign 16 = .ok (.getfield 29, 3) := dk180 0 29 (BX10_sign_3_0 (16, 180, 0, 29) (List.mem_of_getElem? (i := 4) rfl))
theorem dX10_sign_19 : decode cX10_sign 19 = .ok (.baload, 1) := dk51 (BX10_sign_1_0 (19, 51) (List.mem_of_getElem? (i := 4) rfl))
theorem dX10_sign_20 : decode cX10_sign 20 = .ok (.sipush 255, 3) := dk17 0 255 (BX10_sign_3_0 (20, 17, 0, 255) (List.mem_of_getElem? (i := 5) rfl))
theorem dX10_sign_23 : decode cX10_sign 23 = .ok (.iand, 1) := dk126 (BX10_sign_1_0 (23, 126) (List.mem_of_getElem? (i := 5) rfl))
theorem dX10_sign_24 : decode cX10_sign 24 = .ok (.goto 4, 3) := dk167 0 4 (BX10_sign_3_0 (24, 167, 0, 4) (List.mem_of_getElem? (i := 6) rfl))
theorem dX10_sign_27 : decode cX10_sign 27 = .ok (.iconst (-1), 1) := dk2 (BX10_sign_1_0 (27, 2) (List.mem_of_getElem? (i := 6) rfl))
theorem dX10_sign_28 : decode cX10_sign 28 = .ok (.ireturn, 1) := dk172 (BX10_sign_1_0 (28, 172) (List.mem_of_getElem? (i := 7) rfl))
set_option maxRecDepth 20000 in
theorem ggX10_takes_X10_sign : GoodIn wsX10_takes wsX10_sign := goodIn_r _ [6, 1, 7, 8, 9, 10, 11, 12, 13] rfl (by decide +kernel)
set_option maxRecDepth 20000 in
theorem gX10_takes_X10_sign : GoodIn wsX10_takes (wsV RX10 54 RX10 yX10_sign wsX10_sign) := goodIn_app (goodIn_r _ [2, 3, 4, 5] rfl (by decide +kernel)) ggX10_takes_X10_sign
set_option maxRecDepth 20000 in
theorem SX10_takes : ∀ p : Nat, gb cX10_takes p = segF [[42, 182, 0, 54, 27, 159, 0, 5, 3, 172, 42, 89, 180, 0, 29, 4, 96, 181, 0, 29, 4, 172]] p := seg_gb (S := [[42, 182, 0, 54, 27, 159, 0, 5, 3, 172, 42, 89, 180, 0, 29, 4, 96, 181, 0, 29, 4, 172]]) (by decide +kernel) (by decide +kernel)
set_option maxRecDepth 20000 in
theorem BX10_takes_1_0 : ∀ q ∈ ([(0, 42), (4, 27), (8, 3), (9, 172), (10, 42), (11, 89), (15, 4), (16, 96), (20, 4), (21, 172)] : List (Nat × Nat)), gb cX10_takes q.1 = some q.2 := seg_1 SX10_takes _ (by decide +kernel)
set_option maxRecDepth 20000 in
theorem BX10_takes_3_0 : ∀ q ∈ ([(1, 182, 0, 54), (5, 159, 0, 5), (12, 180, 0, 29), (17, 181, 0, 29)] : List (Nat × Nat × Nat × Nat)), gb cX10_takes q.1 = some q.2.1 ∧ gb cX10_takes (q.1 + 1) = some q.2.2.1 ∧ gb cX10_takes (q.1 + 2) = some q.2.2.2 := seg_3 SX10_takes _ (by decide +kernel)
theorem dX10_takes_0 : decode cX10_takes 0 = .ok (.aload_n 0, 1) := dk42 (BX10_takes_1_0 (0, 42) (List.mem_of_getElem? (i := 0) rfl))
theorem dX10_takes_1 : decode cX10_takes 1 = .ok (.invokevirtual 54, 3) := dk182 0 54 (BX10_takes_3_0 (1, 182, 0, 54) (List.mem_of_getElem? (i := 0) rfl))
theorem dX10_takes_4 : decode cX10_takes 4 = .ok (.iload_n 1, 1) := dk27 (BX10_takes_1_0 (4, 27) (List.mem_of_getElem? (i := 1) rfl))
theorem dX10_takes_5 : decode cX10_takes 5 = .ok (.if_icmp .eq 5, 3) := dk159 0 5 (BX10_takes_3_0 (5, 159, 0, 5) (List.mem_of_getElem? (i := 1) rfl))
theorem dX10_takes_8 : decode cX10_takes 8 = .ok (.iconst 0, 1) := dk3 (BX10_takes_1_0 (8, 3) (List.mem_of_getElem? (i := 2) rfl))
theorem dX10_takes_9 : decode cX10_takes 9 = .ok (.ireturn, 1) := dk172 (BX10_takes_1_0 (9, 172) (List.mem_of_getElem? (i := 3) rfl))
theorem dX10_takes_10 : decode cX10_takes 10 = .ok (.aload_n 0, 1) := dk42 (BX10_takes_1_0 (10, 42) (List.mem_of_getElem? (i := 4) rfl))
theorem dX10_takes_11 : decode cX10_takes 11 = .ok (.dup, 1) := dk89 (BX10_takes_1_0 (11, 89) (List.mem_of_getElem? (i := 5) rfl))
theorem dX10_takes_12 : decode cX10_takes 12 = .ok (.getfield 29, 3) := dk180 0 29 (BX10_takes_3_0 (12, 180, 0, 29) (List.mem_of_getElem? (i := 2) rfl))
theorem dX10_takes_15 : decode cX10_takes 15 = .ok (.iconst 1, 1) := dk4 (BX10_takes_1_0 (15, 4) (List.mem_of_getElem? (i := 6) rfl))
theorem dX10_takes_16 : decode cX10_takes 16 = .ok (.iadd, 1) := dk96 (BX10_takes_1_0 (16, 96) (List.mem_of_getElem? (i := 7) rfl))
theorem dX10_takes_17 : decode cX10_takes 17 = .ok (.putfield 29, 3) := dk181 0 29 (BX10_takes_3_0 (17, 181, 0, 29) (List.mem_of_getElem? (i := 3) rfl))
theorem dX10_takes_20 : decode cX10_takes 20 = .ok (.iconst 1, 1) := dk4 (BX10_takes_1_0 (20, 4) (List.mem_of_getElem? (i := 8) rfl))
theorem dX10_takes_21 : decode cX10_takes 21 = .ok (.ireturn, 1) := dk172 (BX10_takes_1_0 (21, 172) (List.mem_of_getElem? (i := 9) rfl))
set_option maxRecDepth 20000 in
theorem SX10_step : ∀ p : Nat, gb cX10_step p = segF [[42, 180, 0, 32, 42, 180, 0, 15, 190, 162, 0, 23, 42, 180, 0, 15, 42, 180, 0, 32, 27, 79, 42, 89, 180, 0, 32, 4, 96, 181, 0, 32, 177]] p := seg_gb (S := [[42, 180, 0, 32, 42, 180, 0, 15, 190, 162, 0, 23, 42, 180, 0, 15, 42, 180, 0, 32, 27, 79, 42, 89, 180, 0, 32, 4, 96, 181, 0, 32, 177]]) (by decide +kernel) (by decide +kernel)
set_option maxRecDepth 20000 in
theorem BX10_step_1_0 : ∀ q ∈ ([(0, 42), (4, 42), (8, 190), (12, 42), (16, 42), (20, 27), (21, 79), (22, 42), (23, 89), (27, 4), (28, 96), (32, 177)] : List (Nat × Nat)), gb cX10_step q.1 = some q.2 := seg_1 SX10_step _ (by decide +kernel)
set_option maxRecDepth 20000 in
theorem BX10_step_3_0 : ∀ q ∈ ([(1, 180, 0, 32), (5, 180, 0, 15), (9, 162, 0, 23), (13, 180, 0, 15), (17, 180, 0, 32), (24, 180, 0, 32), (29, 181, 0, 32)] : List (Nat × Nat × Nat × Nat)), gb cX10_step q.1 = some q.2.1 ∧ gb cX10_step (q.1 + 1) = some q.2.2.1 ∧ gb cX10_step (q.1 + 2) = some q.2.2.2 := seg_3 SX10_step _ (by decide +kernel)
theorem dX10_step_0 : decode cX10_step 0 = .ok (.aload_n 0, 1) := dk42 (BX10_step_1_0 (0, 42) (List.mem_of_getElem? (i := 0) rfl))
theorem dX10_step_1 : decode cX10_step 1 = .ok (.getfield 32, 3) := dk180 0 32 (BX10_step_3_0 (1, 180, 0, 32) (List.mem_of_getElem? (i := 0) rfl))
theorem dX10_step_4 : decode cX10_step 4 = .ok (.aload_n 0, 1) := dk42 (BX10_step_1_0 (4, 42) (List.mem_of_getElem? (i := 1) rfl))
theorem dX10_step_5 : decode cX10_step 5 = .ok (.getfield 15, 3) := dk180 0 15 (BX10_step_3_0 (5, 180, 0, 15) (List.mem_of_getElem? (i := 1) rfl))
theorem dX10_step_8 : decode cX10_step 8 = .ok (.arraylength, 1) := dk190 (BX10_step_1_0 (8, 190) (List.mem_of_getElem? (i := 2) rfl))
theorem dX10_step_9 : decode cX10_step 9 = .ok (.if_icmp .ge 23, 3) := dk162 0 23 (BX10_step_3_0 (9, 162, 0, 23) (List.mem_of_getElem? (i := 2) rfl))
theorem dX10_step_12 : decode cX10_step 12 = .ok (.aload_n 0, 1) := dk42 (BX10_step_1_0 (12, 42) (List.mem_of_getElem? (i := 3) rfl))
theorem dX10_step_13 : decode cX10_step 13 = .ok (.getfield 15, 3) := dk180 0 15 (BX10_step_3_0 (13, 180, 0, 15) (List.mem_of_getElem? (i := 3) rfl))
theorem dX10_step_16 : decode cX10_step 16 = .ok (.aload_n 0, 1) := dk42 (BX10_step_1_0 (16, 42) (List.mem_of_getElem? (i := 4) rfl))
theorem dX10_step_17 : decode cX10_step 17 = .ok (.getfield 32, 3) := dk180 0 32 (BX10_step_3_0 (17, 180, 0, 32) (List.mem_of_getElem? (i := 4) rfl))
theorem dX10_step_20 : decode cX10_step 20 = .ok (.iload_n 1, 1) := dk27 (BX10_step_1_0 (20, 27) (List.mem_of_getElem? (i := 5) rfl))
theorem dX10_step_21 : decode cX10_step 21 = .ok (.iastore, 1) := dk79 (BX10_step_1_0 (21, 79) (List.mem_of_getElem? (i := 6) rfl))
theorem dX10_step_22 : decode cX10_step 22 = .ok (.aload_n 0, 1) := dk42 (BX10_step_1_0 (22, 42) (List.mem_of_getElem? (i := 7) rfl))
theorem dX10_step_23 : decode cX10_step 23 = .ok (.dup, 1) := dk89 (BX10_step_1_0 (23, 89) (List.mem_of_getElem? (i := 8) rfl))
theorem dX10_step_24 : decode cX10_step 24 = .ok (.getfield 32, 3) := dk180 0 32 (BX10_step_3_0 (24, 180, 0, 32) (List.mem_of_getElem? (i := 5) rfl))
theorem dX10_step_27 : decode cX10_step 27 = .ok (.iconst 1, 1) := dk4 (BX10_step_1_0 (27, 4) (List.mem_of_getElem? (i := 9) rfl))
theorem dX10_step_28 : decode cX10_step 28 = .ok (.iadd, 1) := dk96 (BX10_step_1_0 (28, 96) (List.mem_of_getElem? (i := 10) rfl))
theorem dX10_step_29 : decode cX10_step 29 = .ok (.putfield 32, 3) := dk181 0 32 (BX10_step_3_0 (29, 181, 0, 32) (List.mem_of_getElem? (i := 6) rfl))
theorem dX10_step_32 : decode cX10_step 32 = .ok (.return_, 1) := dk177 (BX10_step_1_0 (32, 177) (List.mem_of_getElem? (i := 11) rfl))
set_option maxRecDepth 20000 in
theorem SX12_init : ∀ p : Nat, gb cX12_init p = segF [[42, 183, 0, 3, 42, 16, 55, 188, 10, 181, 0, 9, 42, 16, 40, 188, 10, 181, 0, 13, 42, 16, 40, 188, 10, 181, 0, 16, 42, 16, 40, 188, 10, 181, 0, 19, 42, 16, 40, 188, 10, 181, 0, 22, 42, 16, 40, 188, 10, 181, 0, 25, 42, 16, 40, 188, 10, 181, 0, 28, 42, 16, 40, 188], [10, 181, 0, 31, 42, 16, 40, 188, 10, 181, 0, 34, 42, 16, 8, 188, 10, 181, 0, 37, 42, 16, 64, 188, 10, 181, 0, 40, 42, 16, 20, 188, 10, 181, 0, 43, 42, 16, 20, 188, 10, 181, 0, 46, 42, 16, 60, 188, 10, 181, 0, 49, 42, 16, 60, 188, 10, 181, 0, 52, 42, 16, 60, 188], [4, 181, 0, 55, 42, 16, 41, 188, 10, 181, 0, 59, 42, 16, 41, 188, 10, 181, 0, 62, 42, 16, 40, 188, 10, 181, 0, 65, 42, 16, 40, 188, 4, 181, 0, 68, 42, 16, 20, 188, 10, 181, 0, 71, 42, 16, 20, 188, 10, 181, 0, 74, 42, 16, 20, 188, 10, 181, 0, 77, 42, 16, 8, 188], [10, 181, 0, 80, 42, 16, 8, 188, 10, 181, 0, 83, 42, 16, 120, 188, 10, 181, 0, 86, 42, 16, 6, 188, 10, 181, 0, 89, 42, 17, 2, 208, 188, 10, 181, 0, 92, 42, 16, 6, 188, 10, 181, 0, 95, 42, 16, 8, 188, 10, 181, 0, 98, 42, 16, 50, 188, 10, 181, 0, 101, 42, 16, 24], [188, 10, 181, 0, 104, 42, 16, 6, 188, 10, 181, 0, 107, 42, 16, 6, 188, 10, 181, 0, 110, 42, 17, 1, 104, 188, 11, 181, 0, 113, 42, 16, 60, 188, 11, 181, 0, 117, 3, 60, 27, 16, 6, 162, 0, 16, 42, 180, 0, 107, 27, 2, 79, 132, 1, 1, 167, 255, 240, 42, 17, 7, 209, 181], [0, 120, 42, 17, 39, 15, 181, 0, 124, 177]] p := seg_gb (S := [[42, 183, 0, 3, 42, 16, 55, 188, 10, 181, 0, 9, 42, 16, 40, 188, 10, 181, 0, 13, 42, 16, 40, 188, 10, 181, 0, 16, 42, 16, 40, 188, 10, 181, 0, 19, 42, 16, 40, 188, 10, 181, 0, 22, 42, 16, 40, 188, 10, 181, 0, 25, 42, 16, 40, 188, 10, 181, 0, 28, 42, 16, 40, 188], [10, 181, 0, 31, 42, 16, 40, 188, 10, 181, 0, 34, 42, 16, 8, 188, 10, 181, 0, 37, 42, 16, 64, 188, 10, 181, 0, 40, 42, 16, 20, 188, 10, 181, 0, 43, 42, 16, 20, 188, 10, 181, 0, 46, 42, 16, 60, 188, 10, 181, 0, 49, 42, 16, 60, 188, 10, 181, 0, 52, 42, 16, 60, 188], [4, 181, 0, 55, 42, 16, 41, 188, 10, 181, 0, 59, 42, 16, 41, 188, 10, 181, 0, 62, 42, 16, 40, 188, 10, 181, 0, 65, 42, 16, 40, 188, 4, 181, 0, 68, 42, 16, 20, 188, 10, 181, 0, 71, 42, 16, 20, 188, 10, 181, 0, 74, 42, 16, 20, 188, 10, 181, 0, 77, 42, 16, 8, 188], [10, 181, 0, 80, 42, 16, 8, 188, 10, 181, 0, 83, 42, 16, 120, 188, 10, 181, 0, 86, 42, 16, 6, 188, 10, 181, 0, 89, 42, 17, 2, 208, 188, 10, 181, 0, 92, 42, 16, 6, 188, 10, 181, 0, 95, 42, 16, 8, 188, 10, 181, 0, 98, 42, 16, 50, 188, 10, 181, 0, 101, 42, 16, 24], [188, 10, 181, 0, 104, 42, 16, 6, 188, 10, 181, 0, 107, 42, 16, 6, 188, 10, 181, 0, 110, 42, 17, 1, 104, 188, 11, 181, 0, 113, 42, 16, 60, 188, 11, 181, 0, 117, 3, 60, 27, 16, 6, 162, 0, 16, 42, 180, 0, 107, 27, 2, 79, 132, 1, 1, 167, 255, 240, 42, 17, 7, 209, 181], [0, 120, 42, 17, 39, 15, 181, 0, 124, 177]]) (by decide +kernel) (by decide +kernel)
set_option maxRecDepth 20000 in
theorem BX12_init_1_0 : ∀ q ∈ ([(0, 42), (4, 42), (12, 42), (20, 42), (28, 42), (36, 42), (44, 42), (52, 42), (60, 42), (68, 42), (76, 42), (84, 42)] : List (Nat × Nat)), gb cX12_init q.1 = some q.2 := seg_1 SX12_init _ (by decide +kernel)
set_option maxRecDepth 20000 in
theorem BX12_init_1_1 : ∀ q ∈ ([(92, 42), (100, 42), (108, 42), (116, 42), (124, 42), (132, 42), (140, 42), (148, 42), (156, 42), (164, 42), (172, 42), (180, 42)] : List (Nat × Nat)), gb cX12_init q.1 = some q.2 := seg_1 SX12_init _ (by decide +kernel)
set_option maxRecDepth 20000 in
theorem BX12_init_1_2 : ∀ q ∈ ([(188, 42), (196, 42), (204, 42), (212, 42), (220, 42), (229, 42), (237, 42), (245, 42), (253, 42), (261, 42), (269, 42), (277, 42)] : List (Nat × Nat)), gb cX12_init q.1 = some q.2 := seg_1 SX12_init _ (by decide +kernel)
set_option maxRecDepth 20000 in
theorem BX12_init_1_3 : ∀ q ∈ ([(286, 42), (294, 3), (295, 60), (296, 27), (302, 42), (306, 27), (307, 2), (308, 79), (315, 42), (322, 42), (329, 177)] : List (Nat × Nat)), gb cX12_init q.1 = some q.2 := seg_1 SX12_init _ (by decide +kernel)
set_option maxRecDepth 20000 in
theorem BX12_init_2_0 : ∀ q ∈ ([(5, 16, 55), (7, 188, 10), (13, 16, 40), (15, 188, 10), (21, 16, 40), (23, 188, 10), (29, 16, 40), (31, 188, 10), (37, 16, 40), (39, 188, 10), (45, 16, 40), (47, 188, 10)] : List (Nat × Nat × Nat)), gb cX12_init q.1 = some q.2.1 ∧ gb cX12_init (q.1 + 1) = some q.2.2 := seg_2 SX12_init _ (by decide +kernel)
set_option maxRecDepth 20000 in
theorem BX12_init_2_1 : ∀ q ∈ ([(53, 16, 40), (55, 188, 10), (61, 16, 40), (63, 188, 10), (69, 16, 40), (71, 188, 10), (77, 16, 8), (79, 188, 10), (85, 16, 64), (87, 188, 10), (93, 16, 20), (95, 188, 10)] : List (Nat × Nat × Nat)), gb cX12_init q.1 = some q.2.1 ∧ gb cX12_init (q.1 + 1) = some q.2.2 := seg_2 SX12_init _ (by decide +kernel)
set_option maxRecDepth 20000 in
theorem BX12_init_2_2 : ∀ q ∈ ([(101, 16, 20), (103, 188, 10), (109, 16, 60), (111, 188, 10), (117, 16, 60), (119, 188, 10), (125, 16, 60), (127, 188, 4), (133, 16, 41), (135, 188, 10), (141, 16, 41), (143, 188, 10)] : List (Nat × Nat × Nat)), gb cX12_init q.1 = some q.2.1 ∧ gb cX12_init (q.1 + 1) = some q.2.2 := seg_2 SX12_init _ (by decide +kernel)
set_option maxRecDepth 20000 in
theorem BX12_init_2_3 : ∀ q ∈ ([(149, 16, 40), (151, 188, 10), (157, 16, 40), (159, 188, 4), (165, 16, 20), (167, 188, 10), (173, 16, 20), (175, 188, 10), (181, 16, 20), (183, 188, 10), (189, 16, 8), (191, 188, 10)] : List (Nat × Nat × Nat)), gb cX12_init q.1 = some q.2.1 ∧ gb cX12_init (q.1 + 1) = some q.2.2 := seg_2 SX12_init _ (by decide +kernel)
set_option maxRecDepth 20000 in
theorem BX12_init_2_4 : ∀ q ∈ ([(197, 16, 8), (199, 188, 10), (205, 16, 120), (207, 188, 10), (213, 16, 6), (215, 188, 10), (224, 188, 10), (230, 16, 6), (232, 188, 10), (238, 16, 8), (240, 188, 10), (246, 16, 50)] : List (Nat × Nat × Nat)), gb cX12_init q.1 = some q.2.1 ∧ gb cX12_init (q.1 + 1) = some q.2.2 := seg_2 SX12_init _ (by decide +kernel)
set_option maxRecDepth 20000 in
theorem BX12_init_2_5 : ∀ q ∈ ([(248, 188, 10), (254, 16, 24), (256, 188, 10), (262, 16, 6), (264, 188, 10), (270, 16, 6), (272, 188, 10), (281, 188, 11), (287, 16, 60), (289, 188, 11), (297, 16, 6)] : List (Nat × Nat × Nat)), gb cX12_init q.1 = some q.2.1 ∧ gb cX12_init (q.1 + 1) = some q.2.2 := seg_2 SX12_init _ (by decide +kernel)
set_option maxRecDepth 20000 in
theorem BX12_init_3_0 : ∀ q ∈ ([(1, 183, 0, 3), (9, 181, 0, 9), (17, 181, 0, 13), (25, 181, 0, 16), (33, 181, 0, 19), (41, 181, 0, 22), (49, 181, 0, 25), (57, 181, 0, 28), (65, 181, 0, 31), (73, 181, 0, 34), (81, 181, 0, 37), (89, 181, 0, 40)] : List (Nat × Nat × Nat × Nat)), gb cX12_init q.1 = some q.2.1 ∧ gb cX12_init (q.1 + 1) = some q.2.2.1 ∧ gb cX12_init (q.1 + 2) = some q.2.2.2 := seg_3 SX12_init _ (by decide +kernel)
set_option maxRecDepth 20000 in
theorem BX12_init_3_1 : ∀ q ∈ ([(97, 181, 0, 43), (105, 181, 0, 46), (113, 181, 0, 49), (121, 181, 0, 52), (129, 181, 0, 55), (137, 181, 0, 59), (145, 181, 0, 62), (153, 181, 0, 65), (161, 181, 0, 68), (169, 181, 0, 71), (177, 181, 0, 74), (185, 181, 0, 77)] : List (Nat × Nat × Nat × Nat)), gb cX12_init q.1 = some q.2.1 ∧ gb cX12_init (q.1 + 1) = some q.2.2.1 ∧ gb cX12_init (q.1 + 2) = some q.2.2.2 := seg_3 SX12_init _ (by decide +kernel)
set_option maxRecDepth 20000 in
theorem BX12_init_3_2 : ∀ q ∈ ([(193, 181, 0, 80), (201, 181, 0, 83), (209, 181, 0, 86), (217, 181, 0, 89), (221, 17, 2, 208), (226, 181, 0, 92), (234, 181, 0, 95), (242, 181, 0, 98), (250, 181, 0, 101), (258, 181, 0, 104), (266, 181, 0, 107), (274, 181, 0, 110)] : List (Nat × Nat × Nat × Nat)), gb cX12_init q.1 = some q.2.1 ∧ gb cX12_init (q.1 + 1) = some q.2.2.1 ∧ gb cX12_init (q.1 + 2) = some q.2.2.2 := seg_3 SX12_init _ (by decide +kernel)
set_option maxRecDepth 20000 in
theorem BX12_init_3_3 : ∀ q ∈ ([(278, 17, 1, 104), (283, 181, 0, 113), (291, 181, 0, 117), (299, 162, 0, 16), (303, 180, 0, 107), (309, 132, 1, 1), (312, 167, 255, 240), (316, 17, 7, 209), (319, 181, 0, 120), (323, 17, 39, 15), (326, 181, 0, 124)] : List (Nat × Nat × Nat × Nat)), gb cX12_init q.1 = some q.2.1 ∧ gb cX12_init (q.1 + 1) = some q.2.2.1 ∧ gb cX12_init (q.1 + 2) = some q.2.2.2 := seg_3 SX12_init _ (by decide +kernel)
theorem dX12_init_0 : decode cX12_init 0 = .ok (.aload_n 0, 1) := dk42 (BX12_init_1_0 (0, 42) (List.mem_of_getElem? (i := 0) rfl))
theorem dX12_init_1 : decode cX12_init 1 = .ok (.invokespecial 3, 3) := dk183 0 3 (BX12_init_3_0 (1, 183, 0, 3) (List.mem_of_getElem? (i := 0) rfl))
theorem dX12_init_4 : decode cX12_init 4 = .ok (.aload_n 0, 1) := dk42 (BX12_init_1_0 (4, 42) (List.mem_of_getElem? (i := 1) rfl))
theorem dX12_init_5 : decode cX12_init 5 = .ok (.bipush 55, 2) := dk16 55 (BX12_init_2_0 (5, 16, 55) (List.mem_of_getElem? (i := 0) rfl))
theorem dX12_init_7 : decode cX12_init 7 = .ok (.newarray .int, 2) := dk188_10 (BX12_init_2_0 (7, 188, 10) (List.mem_of_getElem? (i := 1) rfl))
theorem dX12_init_9 : decode cX12_init 9 = .ok (.putfield 9, 3) := dk181 0 9 (BX12_init_3_0 (9, 181, 0, 9) (List.mem_of_getElem? (i := 1) rfl))
theorem dX12_init_12 : decode cX12_init 12 = .ok (.aload_n 0, 1) := dk42 (BX12_init_1_0 (12, 42) (List.mem_of_getElem? (i := 2) rfl))
theorem dX12_init_13 : decode cX12_init 13 = .ok (.bipush 40, 2) := dk16 40 (BX12_init_2_0 (13, 16, 40) (List.mem_of_getElem? (i := 2) rfl))
theorem dX12_init_15 : decode cX12_init 15 = .ok (.newarray .int, 2) := dk188_10 (BX12_init_2_0 (15, 188, 10) (List.mem_of_getElem? (i := 3) rfl))
theorem dX12_init_17 : decode cX12_init 17 = .ok (.putfield 13, 3) := dk181 0 13 (BX12_init_3_0 (17, 181, 0, 13) (List.mem_of_getElem? (i := 2) rfl))
theorem dX12_init_20 : decode cX12_init 20 = .ok (.aload_n 0, 1) := dk42 (BX12_init_1_0 (20, 42) (List.mem_of_getElem? (i := 3) rfl))
theorem dX12_init_21 : decode cX12_init 21 = .ok (.bipush 40, 2) := dk16 40 (BX12_init_2_0 (21, 16, 40) (List.mem_of_getElem? (i := 4) rfl))
theorem dX12_init_23 : decode cX12_init 23 = .ok (.newarray .int, 2) := dk188_10 (BX12_init_2_0 (23, 188, 10) (List.mem_of_getElem? (i := 5) rfl))
theorem dX12_init_25 : decode cX12_init 25 = .ok (.putfield 16, 3) := dk181 0 16 (BX12_init_3_0 (25, 181, 0, 16) (List.mem_of_getElem? (i := 3) rfl))
theorem dX12_init_28 : decode cX12_init 28 = .ok (.aload_n 0, 1) := dk42 (BX12_init_1_0 (28, 42) (List.mem_of_getElem? (i := 4) rfl))
theorem dX12_init_29 : decode cX12_init 29 = .ok (.bipush 40, 2) := dk16 40 (BX12_init_2_0 (29, 16, 40) (List.mem_of_getElem? (i := 6) rfl))
theorem dX12_init_31 : decode cX12_init 31 = .ok (.newarray .int, 2) := dk188_10 (BX12_init_2_0 (31, 188, 10) (List.mem_of_getElem? (i := 7) rfl))
theorem dX12_init_33 : decode cX12_init 33 = .ok (.putfield 19, 3) := dk181 0 19 (BX12_init_3_0 (33, 181, 0, 19) (List.mem_of_getElem? (i := 4) rfl))
theorem dX12_init_36 : decode cX12_init 36 = .ok (.aload_n 0, 1) := dk42 (BX12_init_1_0 (36, 42) (List.mem_of_getElem? (i := 5) rfl))
theorem dX12_init_37 : decode cX12_init 37 = .ok (.bipush 40, 2) := dk16 40 (BX12_init_2_0 (37, 16, 40) (List.mem_of_getElem? (i := 8) rfl))
theorem dX12_init_39 : decode cX12_init 39 = .ok (.newarray .int, 2) := dk188_10 (BX12_init_2_0 (39, 188, 10) (List.mem_of_getElem? (i := 9) rfl))
theorem dX12_init_41 : decode cX12_init 41 = .ok (.putfield 22, 3) := dk181 0 22 (BX12_init_3_0 (41, 181, 0, 22) (List.mem_of_getElem? (i := 5) rfl))
theorem dX12_init_44 : decode cX12_init 44 = .ok (.aload_n 0, 1) := dk42 (BX12_init_1_0 (44, 42) (List.mem_of_getElem? (i := 6) rfl))
theorem dX12_init_45 : decode cX12_init 45 = .ok (.bipush 40, 2) := dk16 40 (BX12_init_2_0 (45, 16, 40) (List.mem_of_getElem? (i := 10) rfl))
theorem dX12_init_47 : decode cX12_init 47 = .ok (.newarray .int, 2) := dk188_10 (BX12_init_2_0 (47, 188, 10) (List.mem_of_getElem? (i := 11) rfl))
theorem dX12_init_49 : decode cX12_init 49 = .ok (.putfield 25, 3) := dk181 0 25 (BX12_init_3_0 (49, 181, 0, 25) (List.mem_of_getElem? (i := 6) rfl))
theorem dX12_init_52 : decode cX12_init 52 = .ok (.aload_n 0, 1) := dk42 (BX12_init_1_0 (52, 42) (List.mem_of_getElem? (i := 7) rfl))
theorem dX12_init_53 : decode cX12_init 53 = .ok (.bipush 40, 2) := dk16 40 (BX12_init_2_1 (53, 16, 40) (List.mem_of_getElem? (i := 0) rfl))
theorem dX12_init_55 : decode cX12_init 55 = .ok (.newarray .int, 2) := dk188_10 (BX12_init_2_1 (55, 188, 10) (List.mem_of_getElem? (i := 1) rfl))
theorem dX12_init_57 : decode cX12_init 57 = .ok (.putfield 28, 3) := dk181 0 28 (BX12_init_3_0 (57, 181, 0, 28) (List.mem_of_getElem? (i := 7) rfl))
theorem dX12_init_60 : decode cX12_init 60 = .ok (.aload_n 0, 1) := dk42 (BX12_init_1_0 (60, 42) (List.mem_of_getElem? (i := 8) rfl))
theorem dX12_init_61 : decode cX12_init 61 = .ok (.bipush 40, 2) := dk16 40 (BX12_init_2_1 (61, 16, 40) (List.mem_of_getElem? (i := 2) rfl))
theorem dX12_init_63 : decode cX12_init 63 = .ok (.newarray .int, 2) := dk188_10 (BX12_init_2_1 (63, 188, 10) (List.mem_of_getElem? (i := 3) rfl))
theorem dX12_init_65 : decode cX12_init 65 = .ok (.putfield 31, 3) := dk181 0 31 (BX12_init_3_0 (65, 181, 0, 31) (List.mem_of_getElem? (i := 8) rfl))
theorem dX12_init_68 : decode cX12_init 68 = .ok (.aload_n 0, 1) := dk42 (BX12_init_1_0 (68, 42) (List.mem_of_getElem? (i := 9) rfl))
theorem dX12_init_69 : decode cX12_init 69 = .ok (.bipush 40, 2) := dk16 40 (BX12_init_2_1 (69, 16, 40) (List.mem_of_getElem? (i := 4) rfl))
theorem dX12_init_71 : decode cX12_init 71 = .ok (.newarray .int, 2) := dk188_10 (BX12_init_2_1 (71, 188, 10) (List.mem_of_getElem? (i := 5) rfl))
theorem dX12_init_73 : decode cX12_init 73 = .ok (.putfield 34, 3) := dk181 0 34 (BX12_init_3_0 (73, 181, 0, 34) (List.mem_of_getElem? (i := 9) rfl))
theorem dX12_init_76 : decode cX12_init 76 = .ok (.aload_n 0, 1) := dk42 (BX12_init_1_0 (76, 42) (List.mem_of_getElem? (i := 10) rfl))
theorem dX12_init_77 : decode cX12_init 77 = .ok (.bipush 8, 2) := dk16 8 (BX12_init_2_1 (77, 16, 8) (List.mem_of_getElem? (i := 6) rfl))
theorem dX12_init_79 : decode cX12_init 79 = .ok (.newarray .int, 2) := dk188_10 (BX12_init_2_1 (79, 188, 10) (List.mem_of_getElem? (i := 7) rfl))
theorem dX12_init_81 : decode cX12_init 81 = .ok (.putfield 37, 3) := dk181 0 37 (BX12_init_3_0 (81, 181, 0, 37) (List.mem_of_getElem? (i := 10) rfl))
theorem dX12_init_84 : decode cX12_init 84 = .ok (.aload_n 0, 1) := dk42 (BX12_init_1_0 (84, 42) (List.mem_of_getElem? (i := 11) rfl))
theorem dX12_init_85 : decode cX12_init 85 = .ok (.bipush 64, 2) := dk16 64 (BX12_init_2_1 (85, 16, 64) (List.mem_of_getElem? (i := 8) rfl))
theorem dX12_init_87 : decode cX12_init 87 = .ok (.newarray .int, 2) := dk188_10 (BX12_init_2_1 (87, 188, 10) (List.mem_of_getElem? (i := 9) rfl))
theorem dX12_init_89 : decode cX12_init 89 = .ok (.putfield 40, 3) := dk181 0 40 (BX12_init_3_0 (89, 181, 0, 40) (List.mem_of_getElem? (i := 11) rfl))
theorem dX12_init_92 : decode cX12_init 92 = .ok (.aload_n 0, 1) := dk42 (BX12_init_1_1 (92, 42) (List.mem_of_getElem? (i := 0) rfl))
theorem dX12_init_93 : decode cX12_init 93 = .ok (.bipush 20, 2) := dk16 20 (BX12_init_2_1 (93, 16, 20) (List.mem_of_getElem? (i := 10) rfl))
theorem dX12_init_95 : decode cX12_init 95 = .ok (.newarray .int, 2) := dk188_10 (BX12_init_2_1 (95, 188, 10) (List.mem_of_getElem? (i := 11) rfl))
theorem dX12_init_97 : decode cX12_init 97 = .ok (.putfield 43, 3) := dk181 0 43 (BX12_init_3_1 (97, 181, 0, 43) (List.mem_of_getElem? (i := 0) rfl))
theorem dX12_init_100 : decode cX12_init 100 = .ok (.aload_n 0, 1) := dk42 (BX12_init_1_1 (100, 42) (List.mem_of_getElem? (i := 1) rfl))
theorem dX12_init_101 : decode cX12_init 101 = .ok (.bipush 20, 2) := dk16 20 (BX12_init_2_2 (101, 16, 20) (List.mem_of_getElem? (i := 0) rfl))
theorem dX12_init_103 : decode cX12_init 103 = .ok (.newarray .int, 2) := dk188_10 (BX12_init_2_2 (103, 188, 10) (List.mem_of_getElem? (i := 1) rfl))
theorem dX12_init_105 : decode cX12_init 105 = .ok (.putfield 46, 3) := dk181 0 46 (BX12_init_3_1 (105, 181, 0, 46) (List.mem_of_getElem? (i := 1) rfl))
theorem dX12_init_108 : decode cX12_init 108 = .ok (.aload_n 0, 1) := dk42 (BX12_init_1_1 (108, 42) (List.mem_of_getElem? (i := 2) rfl))
theorem dX12_init_109 : decode cX12_init 109 = .ok (.bipush 60, 2) := dk16 60 (BX12_init_2_2 (109, 16, 60) (List.mem_of_getElem? (i := 2) rfl))
theorem dX12_init_111 : decode cX12_init 111 = .ok (.newarray .int, 2) := dk188_10 (BX12_init_2_2 (111, 188, 10) (List.mem_of_getElem? (i := 3) rfl))
theorem dX12_init_113 : decode cX12_init 113 = .ok (.putfield 49, 3) := dk181 0 49 (BX12_init_3_1 (113, 181, 0, 49) (List.mem_of_getElem? (i := 2) rfl))
theorem dX12_init_116 : decode cX12_init 116 = .ok (.aload_n 0, 1) := dk42 (BX12_init_1_1 (116, 42) (List.mem_of_getElem? (i := 3) rfl))
theorem dX12_init_117 : decode cX12_init 117 = .ok (.bipush 60, 2) := dk16 60 (BX12_init_2_2 (117, 16, 60) (List.mem_of_getElem? (i := 4) rfl))
theorem dX12_init_119 : decode cX12_init 119 = .ok (.newarray .int, 2) := dk188_10 (BX12_init_2_2 (119, 188, 10) (List.mem_of_getElem? (i := 5) rfl))
theorem dX12_init_121 : decode cX12_init 121 = .ok (.putfield 52, 3) := dk181 0 52 (BX12_init_3_1 (121, 181, 0, 52) (List.mem_of_getElem? (i := 3) rfl))
theorem dX12_init_124 : decode cX12_init 124 = .ok (.aload_n 0, 1) := dk42 (BX12_init_1_1 (124, 42) (List.mem_of_getElem? (i := 4) rfl))
theorem dX12_init_125 : decode cX12_init 125 = .ok (.bipush 60, 2) := dk16 60 (BX12_init_2_2 (125, 16, 60) (List.mem_of_getElem? (i := 6) rfl))
theorem dX12_init_127 : decode cX12_init 127 = .ok (.newarray .boolean, 2) := dk188_4 (BX12_init_2_2 (127, 188, 4) (List.mem_of_getElem? (i := 7) rfl))
theorem dX12_init_129 : decode cX12_init 129 = .ok (.putfield 55, 3) := dk181 0 55 (BX12_init_3_1 (129, 181, 0, 55) (List.mem_of_getElem? (i := 4) rfl))
theorem dX12_init_132 : decode cX12_init 132 = .ok (.aload_n 0, 1) := dk42 (BX12_init_1_1 (132, 42) (List.mem_of_getElem? (i := 5) rfl))
theorem dX12_init_133 : decode cX12_init 133 = .ok (.bipush 41, 2) := dk16 41 (BX12_init_2_2 (133, 16, 41) (List.mem_of_getElem? (i := 8) rfl))
theorem dX12_init_135 : decode cX12_init 135 = .ok (.newarray .int, 2) := dk188_10 (BX12_init_2_2 (135, 188, 10) (List.mem_of_getElem? (i := 9) rfl))
theorem dX12_init_137 : decode cX12_init 137 = .ok (.putfield 59, 3) := dk181 0 59 (BX12_init_3_1 (137, 181, 0, 59) (List.mem_of_getElem? (i := 5) rfl))
theorem dX12_init_140 : decode cX12_init 140 = .ok (.aload_n 0, 1) := dk42 (BX12_init_1_1 (140, 42) (List.mem_of_getElem? (i := 6) rfl))
theorem dX12_init_141 : decode cX12_init 141 = .ok (.bipush 41, 2) := dk16 41 (BX12_init_2_2 (141, 16, 41) (List.mem_of_getElem? (i := 10) rfl))
theorem dX12_init_143 : decode cX12_init 143 = .ok (.newarray .int, 2) := dk188_10 (BX12_init_2_2 (143, 188, 10) (List.mem_of_getElem? (i := 11) rfl))
theorem dX12_init_145 : decode cX12_init 145 = .ok (.putfield 62, 3) := dk181 0 62 (BX12_init_3_1 (145, 181, 0, 62) (List.mem_of_getElem? (i := 6) rfl))
theorem dX12_init_148 : decode cX12_init 148 = .ok (.aload_n 0, 1) := dk42 (BX12_init_1_1 (148, 42) (List.mem_of_getElem? (i := 7) rfl))
theorem dX12_init_149 : decode cX12_init 149 = .ok (.bipush 40, 2) := dk16 40 (BX12_init_2_3 (149, 16, 40) (List.mem_of_getElem? (i := 0) rfl))
theorem dX12_init_151 : decode cX12_init 151 = .ok (.newarray .int, 2) := dk188_10 (BX12_init_2_3 (151, 188, 10) (List.mem_of_getElem? (i := 1) rfl))
theorem dX12_init_153 : decode cX12_init 153 = .ok (.putfield 65, 3) := dk181 0 65 (BX12_init_3_1 (153, 181, 0, 65) (List.mem_of_getElem? (i := 7) rfl))
theorem dX12_init_156 : decode cX12_init 156 = .ok (.aload_n 0, 1) := dk42 (BX12_init_1_1 (156, 42) (List.mem_of_getElem? (i := 8) rfl))
theorem dX12_init_157 : decode cX12_init 157 = .ok (.bipush 40, 2) := dk16 40 (BX12_init_2_3 (157, 16, 40) (List.mem_of_getElem? (i := 2) rfl))
theorem dX12_init_159 : decode cX12_init 159 = .ok (.newarray .boolean, 2) := dk188_4 (BX12_init_2_3 (159, 188, 4) (List.mem_of_getElem? (i := 3) rfl))
theorem dX12_init_161 : decode cX12_init 161 = .ok (.putfield 68, 3) := dk181 0 68 (BX12_init_3_1 (161, 181, 0, 68) (List.mem_of_getElem? (i := 8) rfl))
theorem dX12_init_164 : decode cX12_init 164 = .ok (.aload_n 0, 1) := dk42 (BX12_init_1_1 (164, 42) (List.mem_of_getElem? (i := 9) rfl))
theorem dX12_init_165 : decode cX12_init 165 = .ok (.bipush 20, 2) := dk16 20 (BX12_init_2_3 (165, 16, 20) (List.mem_of_getElem? (i := 4) rfl))
theorem dX12_init_167 : decode cX12_init 167 = .ok (.newarray .int, 2) := dk188_10 (BX12_init_2_3 (167, 188, 10) (List.mem_of_getElem? (i := 5) rfl))
theorem dX12_init_169 : decode cX12_init 169 = .ok (.putfield 71, 3) := dk181 0 71 (BX12_init_3_1 (169, 181, 0, 71) (List.mem_of_getElem? (i := 9) rfl))
theorem dX12_init_172 : decode cX12_init 172 = .ok (.aload_n 0, 1) := dk42 (BX12_init_1_1 (172, 42) (List.mem_of_getElem? (i := 10) rfl))
theorem dX12_init_173 : decode cX12_init 173 = .ok (.bipush 20, 2) := dk16 20 (BX12_init_2_3 (173, 16, 20) (List.mem_of_getElem? (i := 6) rfl))
theorem dX12_init_175 : decode cX12_init 175 = .ok (.newarray .int, 2) := dk188_10 (BX12_init_2_3 (175, 188, 10) (List.mem_of_getElem? (i := 7) rfl))
theorem dX12_init_177 : decode cX12_init 177 = .ok (.putfield 74, 3) := dk181 0 74 (BX12_init_3_1 (177, 181, 0, 74) (List.mem_of_getElem? (i := 10) rfl))
theorem dX12_init_180 : decode cX12_init 180 = .ok (.aload_n 0, 1) := dk42 (BX12_init_1_1 (180, 42) (List.mem_of_getElem? (i := 11) rfl))
theorem dX12_init_181 : decode cX12_init 181 = .ok (.bipush 20, 2) := dk16 20 (BX12_init_2_3 (181, 16, 20) (List.mem_of_getElem? (i := 8) rfl))
theorem dX12_init_183 : decode cX12_init 183 = .ok (.newarray .int, 2) := dk188_10 (BX12_init_2_3 (183, 188, 10) (List.mem_of_getElem? (i := 9) rfl))
theorem dX12_init_185 : decode cX12_init 185 = .ok (.putfield 77, 3) := dk181 0 77 (BX12_init_3_1 (185, 181, 0, 77) (List.mem_of_getElem? (i := 11) rfl))
theorem dX12_init_188 : decode cX12_init 188 = .ok (.aload_n 0, 1) := dk42 (BX12_init_1_2 (188, 42) (List.mem_of_getElem? (i := 0) rfl))
theorem dX12_init_189 : decode cX12_init 189 = .ok (.bipush 8, 2) := dk16 8 (BX12_init_2_3 (189, 16, 8) (List.mem_of_getElem? (i := 10) rfl))
theorem dX12_init_191 : decode cX12_init 191 = .ok (.newarray .int, 2) := dk188_10 (BX12_init_2_3 (191, 188, 10) (List.mem_of_getElem? (i := 11) rfl))
theorem dX12_init_193 : decode cX12_init 193 = .ok (.putfield 80, 3) := dk181 0 80 (BX12_init_3_2 (193, 181, 0, 80) (List.mem_of_getElem? (i := 0) rfl))
theorem dX12_init_196 : decode cX12_init 196 = .ok (.aload_n 0, 1) := dk42 (BX12_init_1_2 (196, 42) (List.mem_of_getElem? (i := 1) rfl))
theorem dX12_init_197 : decode cX12_init 197 = .ok (.bipush 8, 2) := dk16 8 (BX12_init_2_4 (197, 16, 8) (List.mem_of_getElem? (i := 0) rfl))
theorem dX12_init_199 : decode cX12_init 199 = .ok (.newarray .int, 2) := dk188_10 (BX12_init_2_4 (199, 188, 10) (List.mem_of_getElem? (i := 1) rfl))
theorem dX12_init_201 : decode cX12_init 201 = .ok (.putfield 83, 3) := dk181 0 83 (BX12_init_3_2 (201, 181, 0, 83) (List.mem_of_getElem? (i := 1) rfl))
theorem dX12_init_204 : decode cX12_init 204 = .ok (.aload_n 0, 1) := dk42 (BX12_init_1_2 (204, 42) (List.mem_of_getElem? (i := 2) rfl))
theorem dX12_init_205 : decode cX12_init 205 = .ok (.bipush 120, 2) := dk16 120 (BX12_init_2_4 (205, 16, 120) (List.mem_of_getElem? (i := 2) rfl))
theorem dX12_init_207 : decode cX12_init 207 = .ok (.newarray .int, 2) := dk188_10 (BX12_init_2_4 (207, 188, 10) (List.mem_of_getElem? (i := 3) rfl))
theorem dX12_init_209 : decode cX12_init 209 = .ok (.putfield 86, 3) := dk181 0 86 (BX12_init_3_2 (209, 181, 0, 86) (List.mem_of_getElem? (i := 2) rfl))
theorem dX12_init_212 : decode cX12_init 212 = .ok (.aload_n 0, 1) := dk42 (BX12_init_1_2 (212, 42) (List.mem_of_getElem? (i := 3) rfl))
theorem dX12_init_213 : decode cX12_init 213 = .ok (.bipush 6, 2) := dk16 6 (BX12_init_2_4 (213, 16, 6) (List.mem_of_getElem? (i := 4) rfl))
theorem dX12_init_215 : decode cX12_init 215 = .ok (.newarray .int, 2) := dk188_10 (BX12_init_2_4 (215, 188, 10) (List.mem_of_getElem? (i := 5) rfl))
theorem dX12_init_217 : decode cX12_init 217 = .ok (.putfield 89, 3) := dk181 0 89 (BX12_init_3_2 (217, 181, 0, 89) (List.mem_of_getElem? (i := 3) rfl))
theorem dX12_init_220 : decode cX12_init 220 = .ok (.aload_n 0, 1) := dk42 (BX12_init_1_2 (220, 42) (List.mem_of_getElem? (i := 4) rfl))
theorem dX12_init_221 : decode cX12_init 221 = .ok (.sipush 720, 3) := dk17 2 208 (BX12_init_3_2 (221, 17, 2, 208) (List.mem_of_getElem? (i := 4) rfl))
theorem dX12_init_224 : decode cX12_init 224 = .ok (.newarray .int, 2) := dk188_10 (BX12_init_2_4 (224, 188, 10) (List.mem_of_getElem? (i := 6) rfl))
theorem dX12_init_226 : decode cX12_init 226 = .ok (.putfield 92, 3) := dk181 0 92 (BX12_init_3_2 (226, 181, 0, 92) (List.mem_of_getElem? (i := 5) rfl))
theorem dX12_init_229 : decode cX12_init 229 = .ok (.aload_n 0, 1) := dk42 (BX12_init_1_2 (229, 42) (List.mem_of_getElem? (i := 5) rfl))
theorem dX12_init_230 : decode cX12_init 230 = .ok (.bipush 6, 2) := dk16 6 (BX12_init_2_4 (230, 16, 6) (List.mem_of_getElem? (i := 7) rfl))
theorem dX12_init_232 : decode cX12_init 232 = .ok (.newarray .int, 2) := dk188_10 (BX12_init_2_4 (232, 188, 10) (List.mem_of_getElem? (i := 8) rfl))
theorem dX12_init_234 : decode cX12_init 234 = .ok (.putfield 95, 3) := dk181 0 95 (BX12_init_3_2 (234, 181, 0, 95) (List.mem_of_getElem? (i := 6) rfl))
theorem dX12_init_237 : decode cX12_init 237 = .ok (.aload_n 0, 1) := dk42 (BX12_init_1_2 (237, 42) (List.mem_of_getElem? (i := 6) rfl))
theorem dX12_init_238 : decode cX12_init 238 = .ok (.bipush 8, 2) := dk16 8 (BX12_init_2_4 (238, 16, 8) (List.mem_of_getElem? (i := 9) rfl))
theorem dX12_init_240 : decode cX12_init 240 = .ok (.newarray .int, 2) := dk188_10 (BX12_init_2_4 (240, 188, 10) (List.mem_of_getElem? (i := 10) rfl))
theorem dX12_init_242 : decode cX12_init 242 = .ok (.putfield 98, 3) := dk181 0 98 (BX12_init_3_2 (242, 181, 0, 98) (List.mem_of_getElem? (i := 7) rfl))
theorem dX12_init_245 : decode cX12_init 245 = .ok (.aload_n 0, 1) := dk42 (BX12_init_1_2 (245, 42) (List.mem_of_getElem? (i := 7) rfl))
theorem dX12_init_246 : decode cX12_init 246 = .ok (.bipush 50, 2) := dk16 50 (BX12_init_2_4 (246, 16, 50) (List.mem_of_getElem? (i := 11) rfl))
theorem dX12_init_248 : decode cX12_init 248 = .ok (.newarray .int, 2) := dk188_10 (BX12_init_2_5 (248, 188, 10) (List.mem_of_getElem? (i := 0) rfl))
theorem dX12_init_250 : decode cX12_init 250 = .ok (.putfield 101, 3) := dk181 0 101 (BX12_init_3_2 (250, 181, 0, 101) (List.mem_of_getElem? (i := 8) rfl))
theorem dX12_init_253 : decode cX12_init 253 = .ok (.aload_n 0, 1) := dk42 (BX12_init_1_2 (253, 42) (List.mem_of_getElem? (i := 8) rfl))
theorem dX12_init_254 : decode cX12_init 254 = .ok (.bipush 24, 2) := dk16 24 (BX12_init_2_5 (254, 16, 24) (List.mem_of_getElem? (i := 1) rfl))
theorem dX12_init_256 : decode cX12_init 256 = .ok (.newarray .int, 2) := dk188_10 (BX12_init_2_5 (256, 188, 10) (List.mem_of_getElem? (i := 2) rfl))
theorem dX12_init_258 : decode cX12_init 258 = .ok (.putfield 104, 3) := dk181 0 104 (BX12_init_3_2 (258, 181, 0, 104) (List.mem_of_getElem? (i := 9) rfl))
theorem dX12_init_261 : decode cX12_init 261 = .ok (.aload_n 0, 1) := dk42 (BX12_init_1_2 (261, 42) (List.mem_of_getElem? (i := 9) rfl))
theorem dX12_init_262 : decode cX12_init 262 = .ok (.bipush 6, 2) := dk16 6 (BX12_init_2_5 (262, 16, 6) (List.mem_of_getElem? (i := 3) rfl))
theorem dX12_init_264 : decode cX12_init 264 = .ok (.newarray .int, 2) := dk188_10 (BX12_init_2_5 (264, 188, 10) (List.mem_of_getElem? (i := 4) rfl))
theorem dX12_init_266 : decode cX12_init 266 = .ok (.putfield 107, 3) := dk181 0 107 (BX12_init_3_2 (266, 181, 0, 107) (List.mem_of_getElem? (i := 10) rfl))
theorem dX12_init_269 : decode cX12_init 269 = .ok (.aload_n 0, 1) := dk42 (BX12_init_1_2 (269, 42) (List.mem_of_getElem? (i := 10) rfl))
theorem dX12_init_270 : decode cX12_init 270 = .ok (.bipush 6, 2) := dk16 6 (BX12_init_2_5 (270, 16, 6) (List.mem_of_getElem? (i := 5) rfl))
theorem dX12_init_272 : decode cX12_init 272 = .ok (.newarray .int, 2) := dk188_10 (BX12_init_2_5 (272, 188, 10) (List.mem_of_getElem? (i := 6) rfl))
theorem dX12_init_274 : decode cX12_init 274 = .ok (.putfield 110, 3) := dk181 0 110 (BX12_init_3_2 (274, 181, 0, 110) (List.mem_of_getElem? (i := 11) rfl))
theorem dX12_init_277 : decode cX12_init 277 = .ok (.aload_n 0, 1) := dk42 (BX12_init_1_2 (277, 42) (List.mem_of_getElem? (i := 11) rfl))
theorem dX12_init_278 : decode cX12_init 278 = .ok (.sipush 360, 3) := dk17 1 104 (BX12_init_3_3 (278, 17, 1, 104) (List.mem_of_getElem? (i := 0) rfl))
theorem dX12_init_281 : decode cX12_init 281 = .ok (.newarray .long, 2) := dk188_11 (BX12_init_2_5 (281, 188, 11) (List.mem_of_getElem? (i := 7) rfl))
theorem dX12_init_283 : decode cX12_init 283 = .ok (.putfield 113, 3) := dk181 0 113 (BX12_init_3_3 (283, 181, 0, 113) (List.mem_of_getElem? (i := 1) rfl))
theorem dX12_init_286 : decode cX12_init 286 = .ok (.aload_n 0, 1) := dk42 (BX12_init_1_3 (286, 42) (List.mem_of_getElem? (i := 0) rfl))
theorem dX12_init_287 : decode cX12_init 287 = .ok (.bipush 60, 2) := dk16 60 (BX12_init_2_5 (287, 16, 60) (List.mem_of_getElem? (i := 8) rfl))
theorem dX12_init_289 : decode cX12_init 289 = .ok (.newarray .long, 2) := dk188_11 (BX12_init_2_5 (289, 188, 11) (List.mem_of_getElem? (i := 9) rfl))
theorem dX12_init_291 : decode cX12_init 291 = .ok (.putfield 117, 3) := dk181 0 117 (BX12_init_3_3 (291, 181, 0, 117) (List.mem_of_getElem? (i := 2) rfl))
theorem dX12_init_294 : decode cX12_init 294 = .ok (.iconst 0, 1) := dk3 (BX12_init_1_3 (294, 3) (List.mem_of_getElem? (i := 1) rfl))
theorem dX12_init_295 : decode cX12_init 295 = .ok (.istore_n 1, 1) := dk60 (BX12_init_1_3 (295, 60) (List.mem_of_getElem? (i := 2) rfl))
theorem dX12_init_296 : decode cX12_init 296 = .ok (.iload_n 1, 1) := dk27 (BX12_init_1_3 (296, 27) (List.mem_of_getElem? (i := 3) rfl))
theorem dX12_init_297 : decode cX12_init 297 = .ok (.bipush 6, 2) := dk16 6 (BX12_init_2_5 (297, 16, 6) (List.mem_of_getElem? (i := 10) rfl))
theorem dX12_init_299 : decode cX12_init 299 = .ok (.if_icmp .ge 16, 3) := dk162 0 16 (BX12_init_3_3 (299, 162, 0, 16) (List.mem_of_getElem? (i := 3) rfl))
theorem dX12_init_302 : decode cX12_init 302 = .ok (.aload_n 0, 1) := dk42 (BX12_init_1_3 (302, 42) (List.mem_of_getElem? (i := 4) rfl))
theorem dX12_init_303 : decode cX12_init 303 = .ok (.getfield 107, 3) := dk180 0 107 (BX12_init_3_3 (303, 180, 0, 107) (List.mem_of_getElem? (i := 4) rfl))
theorem dX12_init_306 : decode cX12_init 306 = .ok (.iload_n 1, 1) := dk27 (BX12_init_1_3 (306, 27) (List.mem_of_getElem? (i := 5) rfl))
theorem dX12_init_307 : decode cX12_init 307 = .ok (.iconst (-1), 1) := dk2 (BX12_init_1_3 (307, 2) (List.mem_of_getElem? (i := 6) rfl))
theorem dX12_init_308 : decode cX12_init 308 = .ok (.iastore, 1) := dk79 (BX12_init_1_3 (308, 79) (List.mem_of_getElem? (i := 7) rfl))
theorem dX12_init_309 : decode cX12_init 309 = .ok (.iinc 1 1, 3) := dk132 1 1 (BX12_init_3_3 (309, 132, 1, 1) (List.mem_of_getElem? (i := 5) rfl))
theorem dX12_init_312 : decode cX12_init 312 = .ok (.goto (-16), 3) := dk167 255 240 (BX12_init_3_3 (312, 167, 255, 240) (List.mem_of_getElem? (i := 6) rfl))
theorem dX12_init_315 : decode cX12_init 315 = .ok (.aload_n 0, 1) := dk42 (BX12_init_1_3 (315, 42) (List.mem_of_getElem? (i := 8) rfl))
theorem dX12_init_316 : decode cX12_init 316 = .ok (.sipush 2001, 3) := dk17 7 209 (BX12_init_3_3 (316, 17, 7, 209) (List.mem_of_getElem? (i := 7) rfl))
theorem dX12_init_319 : decode cX12_init 319 = .ok (.putfield 120, 3) := dk181 0 120 (BX12_init_3_3 (319, 181, 0, 120) (List.mem_of_getElem? (i := 8) rfl))
theorem dX12_init_322 : decode cX12_init 322 = .ok (.aload_n 0, 1) := dk42 (BX12_init_1_3 (322, 42) (List.mem_of_getElem? (i := 9) rfl))
theorem dX12_init_323 : decode cX12_init 323 = .ok (.sipush 9999, 3) := dk17 39 15 (BX12_init_3_3 (323, 17, 39, 15) (List.mem_of_getElem? (i := 9) rfl))
theorem dX12_init_326 : decode cX12_init 326 = .ok (.putfield 124, 3) := dk181 0 124 (BX12_init_3_3 (326, 181, 0, 124) (List.mem_of_getElem? (i := 10) rfl))
theorem dX12_init_329 : decode cX12_init 329 = .ok (.return_, 1) := dk177 (BX12_init_1_3 (329, 177) (List.mem_of_getElem? (i := 10) rfl))
set_option maxRecDepth 20000 in
theorem SJ9_abs_0f7a4 : ∀ p : Nat, gb cJ9_abs_0f7a4 p = segF [[26, 156, 0, 8, 26, 116, 167, 0, 4, 26, 172]] p := seg_gb (S := [[26, 156, 0, 8, 26, 116, 167, 0, 4, 26, 172]]) (by decide +kernel) (by decide +kernel)
set_option maxRecDepth 20000 in
theorem BJ9_abs_0f7a4_1_0 : ∀ q ∈ ([(0, 26), (4, 26), (5, 116), (9, 26), (10, 172)] : List (Nat × Nat)), gb cJ9_abs_0f7a4 q.1 = some q.2 := seg_1 SJ9_abs_0f7a4 _ (by decide +kernel)
set_option maxRecDepth 20000 in
theorem BJ9_abs_0f7a4_3_0 : ∀ q ∈ ([(1, 156, 0, 8), (6, 167, 0, 4)] : List (Nat × Nat × Nat × Nat)), gb cJ9_abs_0f7a4 q.1 = some q.2.1 ∧ gb cJ9_abs_0f7a4 (q.1 + 1) = some q.2.2.1 ∧ gb cJ9_abs_0f7a4 (q.1 + 2) = some q.2.2.2 := seg_3 SJ9_abs_0f7a4 _ (by decide +kernel)
theorem dJ9_abs_0f7a4_0 : decode cJ9_abs_0f7a4 0 = .ok (.iload_n 0, 1) := dk26 (BJ9_abs_0f7a4_1_0 (0, 26) (List.mem_of_getElem? (i := 0) rfl))
theorem dJ9_abs_0f7a4_1 : decode cJ9_abs_0f7a4 1 = .ok (.ifCond .ge 8, 3) := dk156 0 8 (BJ9_abs_0f7a4_3_0 (1, 156, 0, 8) (List.mem_of_getElem? (i := 0) rfl))
theorem dJ9_abs_0f7a4_4 : decode cJ9_abs_0f7a4 4 = .ok (.iload_n 0, 1) := dk26 (BJ9_abs_0f7a4_1_0 (4, 26) (List.mem_of_getElem? (i := 1) rfl))
theorem dJ9_abs_0f7a4_5 : decode cJ9_abs_0f7a4 5 = .ok (.ineg, 1) := dk116 (BJ9_abs_0f7a4_1_0 (5, 116) (List.mem_of_getElem? (i := 2) rfl))
theorem dJ9_abs_0f7a4_6 : decode cJ9_abs_0f7a4 6 = .ok (.goto 4, 3) := dk167 0 4 (BJ9_abs_0f7a4_3_0 (6, 167, 0, 4) (List.mem_of_getElem? (i := 1) rfl))
theorem dJ9_abs_0f7a4_9 : decode cJ9_abs_0f7a4 9 = .ok (.iload_n 0, 1) := dk26 (BJ9_abs_0f7a4_1_0 (9, 26) (List.mem_of_getElem? (i := 3) rfl))
theorem dJ9_abs_0f7a4_10 : decode cJ9_abs_0f7a4 10 = .ok (.ireturn, 1) := dk172 (BJ9_abs_0f7a4_1_0 (10, 172) (List.mem_of_getElem? (i := 4) rfl))
set_option maxRecDepth 20000 in
theorem SJ9_max_7cf53 : ∀ p : Nat, gb cJ9_max_7cf53 p = segF [[26, 27, 161, 0, 7, 26, 167, 0, 4, 27, 172]] p := seg_gb (S := [[26, 27, 161, 0, 7, 26, 167, 0, 4, 27, 172]]) (by decide +kernel) (by decide +kernel)
set_option maxRecDepth 20000 in
theorem BJ9_max_7cf53_1_0 : ∀ q ∈ ([(0, 26), (1, 27), (5, 26), (9, 27), (10, 172)] : List (Nat × Nat)), gb cJ9_max_7cf53 q.1 = some q.2 := seg_1 SJ9_max_7cf53 _ (by decide +kernel)
set_option maxRecDepth 20000 in
theorem BJ9_max_7cf53_3_0 : ∀ q ∈ ([(2, 161, 0, 7), (6, 167, 0, 4)] : List (Nat × Nat × Nat × Nat)), gb cJ9_max_7cf53 q.1 = some q.2.1 ∧ gb cJ9_max_7cf53 (q.1 + 1) = some q.2.2.1 ∧ gb cJ9_max_7cf53 (q.1 + 2) = some q.2.2.2 := seg_3 SJ9_max_7cf53 _ (by decide +kernel)
theorem dJ9_max_7cf53_0 : decode cJ9_max_7cf53 0 = .ok (.iload_n 0, 1) := dk26 (BJ9_max_7cf53_1_0 (0, 26) (List.mem_of_getElem? (i := 0) rfl))
theorem dJ9_max_7cf53_1 : decode cJ9_max_7cf53 1 = .ok (.iload_n 1, 1) := dk27 (BJ9_max_7cf53_1_0 (1, 27) (List.mem_of_getElem? (i := 1) rfl))
theorem dJ9_max_7cf53_2 : decode cJ9_max_7cf53 2 = .ok (.if_icmp .lt 7, 3) := dk161 0 7 (BJ9_max_7cf53_3_0 (2, 161, 0, 7) (List.mem_of_getElem? (i := 0) rfl))
theorem dJ9_max_7cf53_5 : decode cJ9_max_7cf53 5 = .ok (.iload_n 0, 1) := dk26 (BJ9_max_7cf53_1_0 (5, 26) (List.mem_of_getElem? (i := 2) rfl))
theorem dJ9_max_7cf53_6 : decode cJ9_max_7cf53 6 = .ok (.goto 4, 3) := dk167 0 4 (BJ9_max_7cf53_3_0 (6, 167, 0, 4) (List.mem_of_getElem? (i := 1) rfl))
theorem dJ9_max_7cf53_9 : decode cJ9_max_7cf53 9 = .ok (.iload_n 1, 1) := dk27 (BJ9_max_7cf53_1_0 (9, 27) (List.mem_of_getElem? (i := 3) rfl))
theorem dJ9_max_7cf53_10 : decode cJ9_max_7cf53 10 = .ok (.ireturn, 1) := dk172 (BJ9_max_7cf53_1_0 (10, 172) (List.mem_of_getElem? (i := 4) rfl))
set_option maxRecDepth 20000 in
theorem SJ9_min_7cf53 : ∀ p : Nat, gb cJ9_min_7cf53 p = segF [[26, 27, 163, 0, 7, 26, 167, 0, 4, 27, 172]] p := seg_gb (S := [[26, 27, 163, 0, 7, 26, 167, 0, 4, 27, 172]]) (by decide +kernel) (by decide +kernel)
set_option maxRecDepth 20000 in
theorem BJ9_min_7cf53_1_0 : ∀ q ∈ ([(0, 26), (1, 27), (5, 26), (9, 27), (10, 172)] : List (Nat × Nat)), gb cJ9_min_7cf53 q.1 = some q.2 := seg_1 SJ9_min_7cf53 _ (by decide +kernel)
set_option maxRecDepth 20000 in
theorem BJ9_min_7cf53_3_0 : ∀ q ∈ ([(2, 163, 0, 7), (6, 167, 0, 4)] : List (Nat × Nat × Nat × Nat)), gb cJ9_min_7cf53 q.1 = some q.2.1 ∧ gb cJ9_min_7cf53 (q.1 + 1) = some q.2.2.1 ∧ gb cJ9_min_7cf53 (q.1 + 2) = some q.2.2.2 := seg_3 SJ9_min_7cf53 _ (by decide +kernel)
theorem dJ9_min_7cf53_0 : decode cJ9_min_7cf53 0 = .ok (.iload_n 0, 1) := dk26 (BJ9_min_7cf53_1_0 (0, 26) (List.mem_of_getElem? (i := 0) rfl))
theorem dJ9_min_7cf53_1 : decode cJ9_min_7cf53 1 = .ok (.iload_n 1, 1) := dk27 (BJ9_min_7cf53_1_0 (1, 27) (List.mem_of_getElem? (i := 1) rfl))
theorem dJ9_min_7cf53_2 : decode cJ9_min_7cf53 2 = .ok (.if_icmp .gt 7, 3) := dk163 0 7 (BJ9_min_7cf53_3_0 (2, 163, 0, 7) (List.mem_of_getElem? (i := 0) rfl))
theorem dJ9_min_7cf53_5 : decode cJ9_min_7cf53 5 = .ok (.iload_n 0, 1) := dk26 (BJ9_min_7cf53_1_0 (5, 26) (List.mem_of_getElem? (i := 2) rfl))
theorem dJ9_min_7cf53_6 : decode cJ9_min_7cf53 6 = .ok (.goto 4, 3) := dk167 0 4 (BJ9_min_7cf53_3_0 (6, 167, 0, 4) (List.mem_of_getElem? (i := 1) rfl))
theorem dJ9_min_7cf53_9 : decode cJ9_min_7cf53 9 = .ok (.iload_n 1, 1) := dk27 (BJ9_min_7cf53_1_0 (9, 27) (List.mem_of_getElem? (i := 3) rfl))
theorem dJ9_min_7cf53_10 : decode cJ9_min_7cf53 10 = .ok (.ireturn, 1) := dk172 (BJ9_min_7cf53_1_0 (10, 172) (List.mem_of_getElem? (i := 4) rfl))
set_option maxRecDepth 20000 in
theorem ggJ0_length_8abf5_J0_coder_7d493 : GoodIn wsJ0_length_8abf5 wsJ0_coder_7d493 := goodIn_r _ [6, 7, 8] rfl (by decide +kernel)
set_option maxRecDepth 20000 in
theorem gJ0_length_8abf5_J0_coder_7d493 : GoodIn wsJ0_length_8abf5 (wsV RJ0 335 RJ0 yJ0_coder_7d493 wsJ0_coder_7d493) := goodIn_app (goodIn_r _ [2, 3, 4, 5] rfl (by decide +kernel)) ggJ0_length_8abf5_J0_coder_7d493
set_option maxRecDepth 20000 in
theorem SJ0_length_8abf5 : ∀ p : Nat, gb cJ0_length_8abf5 p = segF [[42, 180, 0, 9, 190, 42, 182, 1, 79, 122, 172]] p := seg_gb (S := [[42, 180, 0, 9, 190, 42, 182, 1, 79, 122, 172]]) (by decide +kernel) (by decide +kernel)
set_option maxRecDepth 20000 in
theorem BJ0_length_8abf5_1_0 : ∀ q ∈ ([(0, 42), (4, 190), (5, 42), (9, 122), (10, 172)] : List (Nat × Nat)), gb cJ0_length_8abf5 q.1 = some q.2 := seg_1 SJ0_length_8abf5 _ (by decide +kernel)
set_option maxRecDepth 20000 in
theorem BJ0_length_8abf5_3_0 : ∀ q ∈ ([(1, 180, 0, 9), (6, 182, 1, 79)] : List (Nat × Nat × Nat × Nat)), gb cJ0_length_8abf5 q.1 = some q.2.1 ∧ gb cJ0_length_8abf5 (q.1 + 1) = some q.2.2.1 ∧ gb cJ0_length_8abf5 (q.1 + 2) = some q.2.2.2 := seg_3 SJ0_length_8abf5 _ (by decide +kernel)
theorem dJ0_length_8abf5_0 : decode cJ0_length_8abf5 0 = .ok (.aload_n 0, 1) := dk42 (BJ0_length_8abf5_1_0 (0, 42) (List.mem_of_getElem? (i := 0) rfl))
theorem dJ0_length_8abf5_1 : decode cJ0_length_8abf5 1 = .ok (.getfield 9, 3) := dk180 0 9 (BJ0_length_8abf5_3_0 (1, 180, 0, 9) (List.mem_of_getElem? (i := 0) rfl))
theorem dJ0_length_8abf5_4 : decode cJ0_length_8abf5 4 = .ok (.arraylength, 1) := dk190 (BJ0_length_8abf5_1_0 (4, 190) (List.mem_of_getElem? (i := 1) rfl))
theorem dJ0_length_8abf5_5 : decode cJ0_length_8abf5 5 = .ok (.aload_n 0, 1) := dk42 (BJ0_length_8abf5_1_0 (5, 42) (List.mem_of_getElem? (i := 2) rfl))
theorem dJ0_length_8abf5_6 : decode cJ0_length_8abf5 6 = .ok (.invokevirtual 335, 3) := dk182 1 79 (BJ0_length_8abf5_3_0 (6, 182, 1, 79) (List.mem_of_getElem? (i := 1) rfl))
theorem dJ0_length_8abf5_9 : decode cJ0_length_8abf5 9 = .ok (.ishr, 1) := dk122 (BJ0_length_8abf5_1_0 (9, 122) (List.mem_of_getElem? (i := 3) rfl))
theorem dJ0_length_8abf5_10 : decode cJ0_length_8abf5 10 = .ok (.ireturn, 1) := dk172 (BJ0_length_8abf5_1_0 (10, 172) (List.mem_of_getElem? (i := 4) rfl))
set_option maxRecDepth 20000 in
theorem ggJ0_indexOf_0f7a4_J0_indexOf_7cf53 : GoodIn wsJ0_indexOf_0f7a4 wsJ0_indexOf_7cf53 := goodIn_g ch_wsJ0_indexOf_0f7a4_flat gd_wsJ0_indexOf_0f7a4 _ [(1, 4), (1, 5), (1, 6), (1, 7), (1, 8), (1, 3), (1, 9), (1, 10), (1, 11), (1, 12), (1, 13), (1, 14), (1, 15), (1, 16), (1, 17), (1, 18), (1, 19), (1, 20), (1, 21), (1, 22), (1, 23), (2, 0), (2, 1), (2, 2), (2, 3), (2, 4), (2, 5), (2, 6), (2, 7), (2, 8), (2, 9), (2, 10), (2, 11), (2, 12), (2, 13), (2, 14), (2, 15), (2, 16), (2, 17), (2, 18), (2, 19), (2, 20), (2, 21), (2, 22), (2, 23), (3, 0), (3, 1), (3, 2), (3, 3), (3, 4), (3, 5), (3, 6), (3, 7), (3, 8), (3, 9), (3, 10), (3, 11), (3, 12), (3, 13), (3, 14), (3, 15), (3, 16), (3, 17), (3, 18), (3, 19), (3, 20), (3, 21), (3, 22), (3, 23), (4, 0), (4, 1), (4, 2), (4, 3), (4, 4), (4, 5), (4, 6), (4, 7), (4, 8), (4, 9), (4, 10), (4, 11), (4, 12)] rfl
set_option maxRecDepth 20000 in
theorem gJ0_indexOf_0f7a4_J0_indexOf_7cf53 : GoodIn wsJ0_indexOf_0f7a4 (wsV RJ0 633 RJ0 yJ0_indexOf_7cf53 wsJ0_indexOf_7cf53) := goodIn_app (goodIn_g ch_wsJ0_indexOf_0f7a4_flat gd_wsJ0_indexOf_0f7a4 _ [(1, 0), (1, 1), (1, 2), (1, 3)] rfl) ggJ0_indexOf_0f7a4_J0_indexOf_7cf53
set_option maxRecDepth 20000 in
theorem SJ0_indexOf_0f7a4 : ∀ p : Nat, gb cJ0_indexOf_0f7a4 p = segF [[42, 27, 3, 182, 2, 121, 172]] p := seg_gb (S := [[42, 27, 3, 182, 2, 121, 172]]) (by decide +kernel) (by decide +kernel)
set_option maxRecDepth 20000 in
theorem BJ0_indexOf_0f7a4_1_0 : ∀ q ∈ ([(0, 42), (1, 27), (2, 3), (6, 172)] : List (Nat × Nat)), gb cJ0_indexOf_0f7a4 q.1 = some q.2 := seg_1 SJ0_indexOf_0f7a4 _ (by decide +kernel)
set_option maxRecDepth 20000 in
theorem BJ0_indexOf_0f7a4_3_0 : ∀ q ∈ ([(3, 182, 2, 121)] : List (Nat × Nat × Nat × Nat)), gb cJ0_indexOf_0f7a4 q.1 = some q.2.1 ∧ gb cJ0_indexOf_0f7a4 (q.1 + 1) = some q.2.2.1 ∧ gb cJ0_indexOf_0f7a4 (q.1 + 2) = some q.2.2.2 := seg_3 SJ0_indexOf_0f7a4 _ (by decide +kernel)
theorem dJ0_indexOf_0f7a4_0 : decode cJ0_indexOf_0f7a4 0 = .ok (.aload_n 0, 1) := dk42 (BJ0_indexOf_0f7a4_1_0 (0, 42) (List.mem_of_getElem? (i := 0) rfl))
theorem dJ0_indexOf_0f7a4_1 : decode cJ0_indexOf_0f7a4 1 = .ok (.iload_n 1, 1) := dk27 (BJ0_indexOf_0f7a4_1_0 (1, 27) (List.mem_of_getElem? (i := 1) rfl))
theorem dJ0_indexOf_0f7a4_2 : decode cJ0_indexOf_0f7a4 2 = .ok (.iconst 0, 1) := dk3 (BJ0_indexOf_0f7a4_1_0 (2, 3) (List.mem_of_getElem? (i := 2) rfl))
theorem dJ0_indexOf_0f7a4_3 : decode cJ0_indexOf_0f7a4 3 = .ok (.invokevirtual 633, 3) := dk182 2 121 (BJ0_indexOf_0f7a4_3_0 (3, 182, 2, 121) (List.mem_of_getElem? (i := 0) rfl))
theorem dJ0_indexOf_0f7a4_6 : decode cJ0_indexOf_0f7a4 6 = .ok (.ireturn, 1) := dk172 (BJ0_indexOf_0f7a4_1_0 (6, 172) (List.mem_of_getElem? (i := 3) rfl))
set_option maxRecDepth 20000 in
theorem ggJ0_indexOf_7cf53_J0_isLatin1_aae02 : GoodIn wsJ0_indexOf_7cf53 wsJ0_isLatin1_aae02 := goodIn_g ch_wsJ0_indexOf_7cf53_flat gd_wsJ0_indexOf_7cf53 _ [(1, 5), (1, 6), (1, 7)] rfl
set_option maxRecDepth 20000 in
theorem gJ0_indexOf_7cf53_J0_isLatin1_aae02 : GoodIn wsJ0_indexOf_7cf53 (wsV RJ0 492 RJ0 yJ0_isLatin1_aae02 wsJ0_isLatin1_aae02) := goodIn_app (goodIn_g ch_wsJ0_indexOf_7cf53_flat gd_wsJ0_indexOf_7cf53 _ [(1, 1), (1, 2), (1, 3), (1, 4)] rfl) ggJ0_indexOf_7cf53_J0_isLatin1_aae02
set_option maxRecDepth 20000 in
theorem ggJ0_indexOf_7cf53_J0_length_8abf5 : GoodIn wsJ0_indexOf_7cf53 wsJ0_length_8abf5 := goodIn_g ch_wsJ0_indexOf_7cf53_flat gd_wsJ0_indexOf_7cf53 _ [(1, 11), (1, 0), (1, 12), (1, 13), (1, 14), (1, 4), (1, 15), (1, 6), (1, 7)] rfl
set_option maxRecDepth 20000 in
theorem gJ0_indexOf_7cf53_J0_length_8abf5 : GoodIn wsJ0_indexOf_7cf53 (wsV RJ0 505 RJ0 yJ0_length_8abf5 wsJ0_length_8abf5) := goodIn_app (goodIn_g ch_wsJ0_indexOf_7cf53_flat gd_wsJ0_indexOf_7cf53 _ [(1, 8), (1, 9), (1, 10), (1, 4)] rfl) ggJ0_indexOf_7cf53_J0_length_8abf5
set_option maxRecDepth 20000 in
theorem ggJ0_indexOf_7cf53_J1_indexOf_4cfef : GoodIn wsJ0_indexOf_7cf53 wsJ1_indexOf_4cfef := goodIn_g ch_wsJ0_indexOf_7cf53_flat gd_wsJ0_indexOf_7cf53 _ [(1, 19), (1, 20), (1, 21), (1, 22), (1, 23), (2, 0), (2, 1), (2, 2), (2, 3), (2, 4), (1, 18), (2, 5), (2, 6), (2, 7), (2, 8)] rfl
set_option maxRecDepth 20000 in
theorem gJ0_indexOf_7cf53_J1_indexOf_4cfef : GoodIn wsJ0_indexOf_7cf53 (va_wsS RJ0 637 yJ1_indexOf_4cfef wsJ1_indexOf_4cfef) := goodIn_app (goodIn_g ch_wsJ0_indexOf_7cf53_flat gd_wsJ0_indexOf_7cf53 _ [(1, 16), (1, 17), (1, 18)] rfl) ggJ0_indexOf_7cf53_J1_indexOf_4cfef
set_option maxRecDepth 20000 in
theorem ggJ0_indexOf_7cf53_J2_indexOf_4cfef : GoodIn wsJ0_indexOf_7cf53 wsJ2_indexOf_4cfef := goodIn_g ch_wsJ0_indexOf_7cf53_flat gd_wsJ0_indexOf_7cf53 _ [(2, 12), (2, 13), (1, 21), (1, 22), (1, 23), (2, 14), (2, 1), (2, 2), (2, 15), (2, 16), (2, 17), (2, 11), (2, 18), (2, 19), (2, 20), (2, 21), (2, 22), (2, 23), (3, 0), (3, 1), (3, 2), (1, 4), (3, 3), (3, 4), (3, 5), (3, 6), (3, 7), (3, 8), (3, 9), (3, 10), (3, 11), (3, 12), (3, 13), (3, 14), (3, 15), (3, 16), (3, 17), (3, 18), (3, 19), (3, 20), (3, 21), (3, 22), (3, 23), (4, 0), (4, 1), (4, 2), (4, 3), (4, 4), (4, 5), (4, 6), (4, 7), (4, 8)] rfl
set_option maxRecDepth 20000 in
theorem gJ0_indexOf_7cf53_J2_indexOf_4cfef : GoodIn wsJ0_indexOf_7cf53 (va_wsS RJ0 640 yJ2_indexOf_4cfef wsJ2_indexOf_4cfef) := goodIn_app (goodIn_g ch_wsJ0_indexOf_7cf53_flat gd_wsJ0_indexOf_7cf53 _ [(2, 9), (2, 10), (2, 11)] rfl) ggJ0_indexOf_7cf53_J2_indexOf_4cfef
set_option maxRecDepth 20000 in
theorem SJ0_indexOf_7cf53 : ∀ p : Nat, gb cJ0_indexOf_7cf53 p = segF [[42, 182, 1, 236, 153, 0, 19, 42, 180, 0, 9, 27, 28, 42, 182, 1, 249, 184, 2, 125, 167, 0, 16, 42, 180, 0, 9, 27, 28, 42, 182, 1, 249, 184, 2, 128, 172]] p := seg_gb (S := [[42, 182, 1, 236, 153, 0, 19, 42, 180, 0, 9, 27, 28, 42, 182, 1, 249, 184, 2, 125, 167, 0, 16, 42, 180, 0, 9, 27, 28, 42, 182, 1, 249, 184, 2, 128, 172]]) (by decide +kernel) (by decide +kernel)
set_option maxRecDepth 20000 in
theorem BJ0_indexOf_7cf53_1_0 : ∀ q ∈ ([(0, 42), (7, 42), (11, 27), (12, 28), (13, 42), (23, 42), (27, 27), (28, 28), (29, 42), (36, 172)] : List (Nat × Nat)), gb cJ0_indexOf_7cf53 q.1 = some q.2 := seg_1 SJ0_indexOf_7cf53 _ (by decide +kernel)
set_option maxRecDepth 20000 in
theorem BJ0_indexOf_7cf53_3_0 : ∀ q ∈ ([(1, 182, 1, 236), (4, 153, 0, 19), (8, 180, 0, 9), (14, 182, 1, 249), (17, 184, 2, 125), (20, 167, 0, 16), (24, 180, 0, 9), (30, 182, 1, 249), (33, 184, 2, 128)] : List (Nat × Nat × Nat × Nat)), gb cJ0_indexOf_7cf53 q.1 = some q.2.1 ∧ gb cJ0_indexOf_7cf53 (q.1 + 1) = some q.2.2.1 ∧ gb cJ0_indexOf_7cf53 (q.1 + 2) = some q.2.2.2 := seg_3 SJ0_indexOf_7cf53 _ (by decide +kernel)
theorem dJ0_indexOf_7cf53_0 : decode cJ0_indexOf_7cf53 0 = .ok (.aload_n 0, 1) := dk42 (BJ0_indexOf_7cf53_1_0 (0, 42) (List.mem_of_getElem? (i := 0) rfl))
theorem dJ0_indexOf_7cf53_1 : decode cJ0_indexOf_7cf53 1 = .ok (.invokevirtual 492, 3) := dk182 1 236 (BJ0_indexOf_7cf53_3_0 (1, 182, 1, 236) (List.mem_of_getElem? (i := 0) rfl))
theorem dJ0_indexOf_7cf53_4 : decode cJ0_indexOf_7cf53 4 = .ok (.ifCond .eq 19, 3) := dk153 0 19 (BJ0_indexOf_7cf53_3_0 (4, 153, 0, 19) (List.mem_of_getElem? (i := 1) rfl))
theorem dJ0_indexOf_7cf53_7 : decode cJ0_indexOf_7cf53 7 = .ok (.aload_n 0, 1) := dk42 (BJ0_indexOf_7cf53_1_0 (7, 42) (List.mem_of_getElem? (i := 1) rfl))
theorem dJ0_indexOf_7cf53_8 : decode cJ0_indexOf_7cf53 8 = .ok (.getfield 9, 3) := dk180 0 9 (BJ0_indexOf_7cf53_3_0 (8, 180, 0, 9) (List.mem_of_getElem? (i := 2) rfl))
theorem dJ0_indexOf_7cf53_11 : decode cJ0_indexOf_7cf53 11 = .ok (.iload_n 1, 1) := dk27 (BJ0_indexOf_7cf53_1_0 (11, 27) (List.mem_of_getElem? (i := 2) rfl))
theorem dJ0_indexOf_7cf53_12 : decode cJ0_indexOf_7cf53 12 = .ok (.iload_n 2, 1) := dk28 (BJ0_indexOf_7cf53_1_0 (12, 28) (List.mem_of_getElem? (i := 3) rfl))
theorem dJ0_indexOf_7cf53_13 : decode cJ0_indexOf_7cf53 13 = .ok (.aload_n 0, 1) := dk42 (BJ0_indexOf_7cf53_1_0 (13, 42) (List.mem_of_getElem? (i := 4) rfl))
theorem dJ0_indexOf_7cf53_14 : decode cJ0_indexOf_7cf53 14 = .ok (.invokevirtual 505, 3) := dk182 1 249 (BJ0_indexOf_7cf53_3_0 (14, 182, 1, 249) (List.mem_of_getElem? (i := 3) rfl))
theorem dJ0_indexOf_7cf53_17 : decode cJ0_indexOf_7cf53 17 = .ok (.invokestatic 637, 3) := dk184 2 125 (BJ0_indexOf_7cf53_3_0 (17, 184, 2, 125) (List.mem_of_getElem? (i := 4) rfl))
theorem dJ0_indexOf_7cf53_20 : decode cJ0_indexOf_7cf53 20 = .ok (.goto 16, 3) := dk167 0 16 (BJ0_indexOf_7cf53_3_0 (20, 167, 0, 16) (List.mem_of_getElem? (i := 5) rfl))
theorem dJ0_indexOf_7cf53_23 : decode cJ0_indexOf_7cf53 23 = .ok (.aload_n 0, 1) := dk42 (BJ0_indexOf_7cf53_1_0 (23, 42) (List.mem_of_getElem? (i := 5) rfl))
theorem dJ0_indexOf_7cf53_24 : decode cJ0_indexOf_7cf53 24 = .ok (.getfield 9, 3) := dk180 0 9 (BJ0_indexOf_7cf53_3_0 (24, 180, 0, 9) (List.mem_of_getElem? (i := 6) rfl))
theorem dJ0_indexOf_7cf53_27 : decode cJ0_indexOf_7cf53 27 = .ok (.iload_n 1, 1) := dk27 (BJ0_indexOf_7cf53_1_0 (27, 27) (List.mem_of_getElem? (i := 6) rfl))
theorem dJ0_indexOf_7cf53_28 : decode cJ0_indexOf_7cf53 28 = .ok (.iload_n 2, 1) := dk28 (BJ0_indexOf_7cf53_1_0 (28, 28) (List.mem_of_getElem? (i := 7) rfl))
theorem dJ0_indexOf_7cf53_29 : decode cJ0_indexOf_7cf53 29 = .ok (.aload_n 0, 1) := dk42 (BJ0_indexOf_7cf53_1_0 (29, 42) (List.mem_of_getElem? (i := 8) rfl))
theorem dJ0_indexOf_7cf53_30 : decode cJ0_indexOf_7cf53 30 = .ok (.invokevirtual 505, 3) := dk182 1 249 (BJ0_indexOf_7cf53_3_0 (30, 182, 1, 249) (List.mem_of_getElem? (i := 7) rfl))
theorem dJ0_indexOf_7cf53_33 : decode cJ0_indexOf_7cf53 33 = .ok (.invokestatic 640, 3) := dk184 2 128 (BJ0_indexOf_7cf53_3_0 (33, 184, 2, 128) (List.mem_of_getElem? (i := 8) rfl))
theorem dJ0_indexOf_7cf53_36 : decode cJ0_indexOf_7cf53 36 = .ok (.ireturn, 1) := dk172 (BJ0_indexOf_7cf53_1_0 (36, 172) (List.mem_of_getElem? (i := 9) rfl))
set_option maxRecDepth 20000 in
theorem SJ0_coder_7d493 : ∀ p : Nat, gb cJ0_coder_7d493 p = segF [[178, 0, 38, 153, 0, 10, 42, 180, 0, 15, 167, 0, 4, 4, 172]] p := seg_gb (S := [[178, 0, 38, 153, 0, 10, 42, 180, 0, 15, 167, 0, 4, 4, 172]]) (by decide +kernel) (by decide +kernel)
set_option maxRecDepth 20000 in
theorem BJ0_coder_7d493_1_0 : ∀ q ∈ ([(6, 42), (13, 4), (14, 172)] : List (Nat × Nat)), gb cJ0_coder_7d493 q.1 = some q.2 := seg_1 SJ0_coder_7d493 _ (by decide +kernel)
set_option maxRecDepth 20000 in
theorem BJ0_coder_7d493_3_0 : ∀ q ∈ ([(0, 178, 0, 38), (3, 153, 0, 10), (7, 180, 0, 15), (10, 167, 0, 4)] : List (Nat × Nat × Nat × Nat)), gb cJ0_coder_7d493 q.1 = some q.2.1 ∧ gb cJ0_coder_7d493 (q.1 + 1) = some q.2.2.1 ∧ gb cJ0_coder_7d493 (q.1 + 2) = some q.2.2.2 := seg_3 SJ0_coder_7d493 _ (by decide +kernel)
theorem dJ0_coder_7d493_0 : decode cJ0_coder_7d493 0 = .ok (.getstatic 38, 3) := dk178 0 38 (BJ0_coder_7d493_3_0 (0, 178, 0, 38) (List.mem_of_getElem? (i := 0) rfl))
theorem dJ0_coder_7d493_3 : decode cJ0_coder_7d493 3 = .ok (.ifCond .eq 10, 3) := dk153 0 10 (BJ0_coder_7d493_3_0 (3, 153, 0, 10) (List.mem_of_getElem? (i := 1) rfl))
theorem dJ0_coder_7d493_6 : decode cJ0_coder_7d493 6 = .ok (.aload_n 0, 1) := dk42 (BJ0_coder_7d493_1_0 (6, 42) (List.mem_of_getElem? (i := 0) rfl))
theorem dJ0_coder_7d493_7 : decode cJ0_coder_7d493 7 = .ok (.getfield 15, 3) := dk180 0 15 (BJ0_coder_7d493_3_0 (7, 180, 0, 15) (List.mem_of_getElem? (i := 2) rfl))
theorem dJ0_coder_7d493_10 : decode cJ0_coder_7d493 10 = .ok (.goto 4, 3) := dk167 0 4 (BJ0_coder_7d493_3_0 (10, 167, 0, 4) (List.mem_of_getElem? (i := 3) rfl))
theorem dJ0_coder_7d493_13 : decode cJ0_coder_7d493 13 = .ok (.iconst 1, 1) := dk4 (BJ0_coder_7d493_1_0 (13, 4) (List.mem_of_getElem? (i := 1) rfl))
theorem dJ0_coder_7d493_14 : decode cJ0_coder_7d493 14 = .ok (.ireturn, 1) := dk172 (BJ0_coder_7d493_1_0 (14, 172) (List.mem_of_getElem? (i := 2) rfl))
set_option maxRecDepth 20000 in
theorem SJ0_isLatin1_aae02 : ∀ p : Nat, gb cJ0_isLatin1_aae02 p = segF [[178, 0, 38, 153, 0, 14, 42, 180, 0, 15, 154, 0, 7, 4, 167, 0, 4, 3, 172]] p := seg_gb (S := [[178, 0, 38, 153, 0, 14, 42, 180, 0, 15, 154, 0, 7, 4, 167, 0, 4, 3, 172]]) (by decide +kernel) (by decide +kernel)
set_option maxRecDepth 20000 in
theorem BJ0_isLatin1_aae02_1_0 : ∀ q ∈ ([(6, 42), (13, 4), (17, 3), (18, 172)] : List (Nat × Nat)), gb cJ0_isLatin1_aae02 q.1 = some q.2 := seg_1 SJ0_isLatin1_aae02 _ (by decide +kernel)
set_option maxRecDepth 20000 in
theorem BJ0_isLatin1_aae02_3_0 : ∀ q ∈ ([(0, 178, 0, 38), (3, 153, 0, 14), (7, 180, 0, 15), (10, 154, 0, 7), (14, 167, 0, 4)] : List (Nat × Nat × Nat × Nat)), gb cJ0_isLatin1_aae02 q.1 = some q.2.1 ∧ gb cJ0_isLatin1_aae02 (q.1 + 1) = some q.2.2.1 ∧ gb cJ0_isLatin1_aae02 (q.1 + 2) = some q.2.2.2 := seg_3 SJ0_isLatin1_aae02 _ (by decide +kernel)
theorem dJ0_isLatin1_aae02_0 : decode cJ0_isLatin1_aae02 0 = .ok (.getstatic 38, 3) := dk178 0 38 (BJ0_isLatin1_aae02_3_0 (0, 178, 0, 38) (List.mem_of_getElem? (i := 0) rfl))
theorem dJ0_isLatin1_aae02_3 : decode cJ0_isLatin1_aae02 3 = .ok (.ifCond .eq 14, 3) := dk153 0 14 (BJ0_isLatin1_aae02_3_0 (3, 153, 0, 14) (List.mem_of_getElem? (i := 1) rfl))
theorem dJ0_isLatin1_aae02_6 : decode cJ0_isLatin1_aae02 6 = .ok (.aload_n 0, 1) := dk42 (BJ0_isLatin1_aae02_1_0 (6, 42) (List.mem_of_getElem? (i := 0) rfl))
theorem dJ0_isLatin1_aae02_7 : decode cJ0_isLatin1_aae02 7 = .ok (.getfield 15, 3) := dk180 0 15 (BJ0_isLatin1_aae02_3_0 (7, 180, 0, 15) (List.mem_of_getElem? (i := 2) rfl))
theorem dJ0_isLatin1_aae02_10 : decode cJ0_isLatin1_aae02 10 = .ok (.ifCond .ne 7, 3) := dk154 0 7 (BJ0_isLatin1_aae02_3_0 (10, 154, 0, 7) (List.mem_of_getElem? (i := 3) rfl))
theorem dJ0_isLatin1_aae02_13 : decode cJ0_isLatin1_aae02 13 = .ok (.iconst 1, 1) := dk4 (BJ0_isLatin1_aae02_1_0 (13, 4) (List.mem_of_getElem? (i := 1) rfl))
theorem dJ0_isLatin1_aae02_14 : decode cJ0_isLatin1_aae02 14 = .ok (.goto 4, 3) := dk167 0 4 (BJ0_isLatin1_aae02_3_0 (14, 167, 0, 4) (List.mem_of_getElem? (i := 4) rfl))
theorem dJ0_isLatin1_aae02_17 : decode cJ0_isLatin1_aae02 17 = .ok (.iconst 0, 1) := dk3 (BJ0_isLatin1_aae02_1_0 (17, 3) (List.mem_of_getElem? (i := 2) rfl))
theorem dJ0_isLatin1_aae02_18 : decode cJ0_isLatin1_aae02 18 = .ok (.ireturn, 1) := dk172 (BJ0_isLatin1_aae02_1_0 (18, 172) (List.mem_of_getElem? (i := 3) rfl))
set_option maxRecDepth 20000 in
theorem SJ1_canEncode_9a6ad : ∀ p : Nat, gb cJ1_canEncode_9a6ad p = segF [[26, 155, 0, 14, 26, 17, 0, 255, 163, 0, 7, 4, 167, 0, 4, 3, 172]] p := seg_gb (S := [[26, 155, 0, 14, 26, 17, 0, 255, 163, 0, 7, 4, 167, 0, 4, 3, 172]]) (by decide +kernel) (by decide +kernel)
set_option maxRecDepth 20000 in
theorem BJ1_canEncode_9a6ad_1_0 : ∀ q ∈ ([(0, 26), (4, 26), (11, 4), (15, 3), (16, 172)] : List (Nat × Nat)), gb cJ1_canEncode_9a6ad q.1 = some q.2 := seg_1 SJ1_canEncode_9a6ad _ (by decide +kernel)
set_option maxRecDepth 20000 in
theorem BJ1_canEncode_9a6ad_3_0 : ∀ q ∈ ([(1, 155, 0, 14), (5, 17, 0, 255), (8, 163, 0, 7), (12, 167, 0, 4)] : List (Nat × Nat × Nat × Nat)), gb cJ1_canEncode_9a6ad q.1 = some q.2.1 ∧ gb cJ1_canEncode_9a6ad (q.1 + 1) = some q.2.2.1 ∧ gb cJ1_canEncode_9a6ad (q.1 + 2) = some q.2.2.2 := seg_3 SJ1_canEncode_9a6ad _ (by decide +kernel)
theorem dJ1_canEncode_9a6ad_0 : decode cJ1_canEncode_9a6ad 0 = .ok (.iload_n 0, 1) := dk26 (BJ1_canEncode_9a6ad_1_0 (0, 26) (List.mem_of_getElem? (i := 0) rfl))
theorem dJ1_canEncode_9a6ad_1 : decode cJ1_canEncode_9a6ad 1 = .ok (.ifCond .lt 14, 3) := dk155 0 14 (BJ1_canEncode_9a6ad_3_0 (1, 155, 0, 14) (List.mem_of_getElem? (i := 0) rfl))
theorem dJ1_canEncode_9a6ad_4 : decode cJ1_canEncode_9a6ad 4 = .ok (.iload_n 0, 1) := dk26 (BJ1_canEncode_9a6ad_1_0 (4, 26) (List.mem_of_getElem? (i := 1) rfl))
theorem dJ1_canEncode_9a6ad_5 : decode cJ1_canEncode_9a6ad 5 = .ok (.sipush 255, 3) := dk17 0 255 (BJ1_canEncode_9a6ad_3_0 (5, 17, 0, 255) (List.mem_of_getElem? (i := 1) rfl))
theorem dJ1_canEncode_9a6ad_8 : decode cJ1_canEncode_9a6ad 8 = .ok (.if_icmp .gt 7, 3) := dk163 0 7 (BJ1_canEncode_9a6ad_3_0 (8, 163, 0, 7) (List.mem_of_getElem? (i := 2) rfl))
theorem dJ1_canEncode_9a6ad_11 : decode cJ1_canEncode_9a6ad 11 = .ok (.iconst 1, 1) := dk4 (BJ1_canEncode_9a6ad_1_0 (11, 4) (List.mem_of_getElem? (i := 2) rfl))
theorem dJ1_canEncode_9a6ad_12 : decode cJ1_canEncode_9a6ad 12 = .ok (.goto 4, 3) := dk167 0 4 (BJ1_canEncode_9a6ad_3_0 (12, 167, 0, 4) (List.mem_of_getElem? (i := 3) rfl))
theorem dJ1_canEncode_9a6ad_15 : decode cJ1_canEncode_9a6ad 15 = .ok (.iconst 0, 1) := dk3 (BJ1_canEncode_9a6ad_1_0 (15, 3) (List.mem_of_getElem? (i := 3) rfl))
theorem dJ1_canEncode_9a6ad_16 : decode cJ1_canEncode_9a6ad 16 = .ok (.ireturn, 1) := dk172 (BJ1_canEncode_9a6ad_1_0 (16, 172) (List.mem_of_getElem? (i := 4) rfl))
set_option maxRecDepth 20000 in
theorem ggJ1_indexOf_4cfef_J1_canEncode_9a6ad : GoodIn wsJ1_indexOf_4cfef wsJ1_canEncode_9a6ad := goodIn_r _ [11] rfl (by decide +kernel)
set_option maxRecDepth 20000 in
theorem gJ1_indexOf_4cfef_J1_canEncode_9a6ad : GoodIn wsJ1_indexOf_4cfef (va_wsS RJ1 88 yJ1_canEncode_9a6ad wsJ1_canEncode_9a6ad) := goodIn_app (goodIn_r _ [8, 9, 10] rfl (by decide +kernel)) ggJ1_indexOf_4cfef_J1_canEncode_9a6ad
set_option maxRecDepth 20000 in
theorem ggJ1_indexOf_4cfef_J1_indexOfChar_4cfef : GoodIn wsJ1_indexOf_4cfef wsJ1_indexOfChar_4cfef := goodIn_r _ [14] rfl (by decide +kernel)
set_option maxRecDepth 20000 in
theorem gJ1_indexOf_4cfef_J1_indexOfChar_4cfef : GoodIn wsJ1_indexOf_4cfef (va_wsS RJ1 95 yJ1_indexOfChar_4cfef wsJ1_indexOfChar_4cfef) := goodIn_app (goodIn_r _ [12, 13, 10] rfl (by decide +kernel)) ggJ1_indexOf_4cfef_J1_indexOfChar_4cfef
set_option maxRecDepth 20000 in
theorem SJ1_indexOf_4cfef : ∀ p : Nat, gb cJ1_indexOf_4cfef p = segF [[27, 184, 0, 88, 154, 0, 5, 2, 172, 28, 3, 184, 0, 92, 61, 29, 42, 190, 184, 0, 38, 62, 28, 29, 161, 0, 5, 2, 172, 42, 27, 28, 29, 184, 0, 95, 172]] p := seg_gb (S := [[27, 184, 0, 88, 154, 0, 5, 2, 172, 28, 3, 184, 0, 92, 61, 29, 42, 190, 184, 0, 38, 62, 28, 29, 161, 0, 5, 2, 172, 42, 27, 28, 29, 184, 0, 95, 172]]) (by decide +kernel) (by decide +kernel)
set_option maxRecDepth 20000 in
theorem BJ1_indexOf_4cfef_1_0 : ∀ q ∈ ([(0, 27), (7, 2), (8, 172), (9, 28), (10, 3), (14, 61), (15, 29), (16, 42), (17, 190), (21, 62), (22, 28), (23, 29)] : List (Nat × Nat)), gb cJ1_indexOf_4cfef q.1 = some q.2 := seg_1 SJ1_indexOf_4cfef _ (by decide +kernel)
set_option maxRecDepth 20000 in
theorem BJ1_indexOf_4cfef_1_1 : ∀ q ∈ ([(27, 2), (28, 172), (29, 42), (30, 27), (31, 28), (32, 29), (36, 172)] : List (Nat × Nat)), gb cJ1_indexOf_4cfef q.1 = some q.2 := seg_1 SJ1_indexOf_4cfef _ (by decide +kernel)
set_option maxRecDepth 20000 in
theorem BJ1_indexOf_4cfef_3_0 : ∀ q ∈ ([(1, 184, 0, 88), (4, 154, 0, 5), (11, 184, 0, 92), (18, 184, 0, 38), (24, 161, 0, 5), (33, 184, 0, 95)] : List (Nat × Nat × Nat × Nat)), gb cJ1_indexOf_4cfef q.1 = some q.2.1 ∧ gb cJ1_indexOf_4cfef (q.1 + 1) = some q.2.2.1 ∧ gb cJ1_indexOf_4cfef (q.1 + 2) = some q.2.2.2 := seg_3 SJ1_indexOf_4cfef _ (by decide +kernel)
theorem dJ1_indexOf_4cfef_0 : decode cJ1_indexOf_4cfef 0 = .ok (.iload_n 1, 1) := dk27 (BJ1_indexOf_4cfef_1_0 (0, 27) (List.mem_of_getElem? (i := 0) rfl))
theorem dJ1_indexOf_4cfef_1 : decode cJ1_indexOf_4cfef 1 = .ok (.invokestatic 88, 3) := dk184 0 88 (BJ1_indexOf_4cfef_3_0 (1, 184, 0, 88) (List.mem_of_getElem? (i := 0) rfl))
theorem dJ1_indexOf_4cfef_4 : decode cJ1_indexOf_4cfef 4 = .ok (.ifCond .ne 5, 3) := dk154 0 5 (BJ1_indexOf_4cfef_3_0 (4, 154, 0, 5) (List.mem_of_getElem? (i := 1) rfl))
theorem dJ1_indexOf_4cfef_7 : decode cJ1_indexOf_4cfef 7 = .ok (.iconst (-1), 1) := dk2 (BJ1_indexOf_4cfef_1_0 (7, 2) (List.mem_of_getElem? (i := 1) rfl))
theorem dJ1_indexOf_4cfef_8 : decode cJ1_indexOf_4cfef 8 = .ok (.ireturn, 1) := dk172 (BJ1_indexOf_4cfef_1_0 (8, 172) (List.mem_of_getElem? (i := 2) rfl))
theorem dJ1_indexOf_4cfef_9 : decode cJ1_indexOf_4cfef 9 = .ok (.iload_n 2, 1) := dk28 (BJ1_indexOf_4cfef_1_0 (9, 28) (List.mem_of_getElem? (i := 3) rfl))
theorem dJ1_indexOf_4cfef_10 : decode cJ1_indexOf_4cfef 10 = .ok (.iconst 0, 1) := dk3 (BJ1_indexOf_4cfef_1_0 (10, 3) (List.mem_of_getElem? (i := 4) rfl))
theorem dJ1_indexOf_4cfef_11 : decode cJ1_indexOf_4cfef 11 = .ok (.invokestatic 92, 3) := dk184 0 92 (BJ1_indexOf_4cfef_3_0 (11, 184, 0, 92) (List.mem_of_getElem? (i := 2) rfl))
theorem dJ1_indexOf_4cfef_14 : decode cJ1_indexOf_4cfef 14 = .ok (.istore_n 2, 1) := dk61 (BJ1_indexOf_4cfef_1_0 (14, 61) (List.mem_of_getElem? (i := 5) rfl))
theorem dJ1_indexOf_4cfef_15 : decode cJ1_indexOf_4cfef 15 = .ok (.iload_n 3, 1) := dk29 (BJ1_indexOf_4cfef_1_0 (15, 29) (List.mem_of_getElem? (i := 6) rfl))
theorem dJ1_indexOf_4cfef_16 : decode cJ1_indexOf_4cfef 16 = .ok (.aload_n 0, 1) := dk42 (BJ1_indexOf_4cfef_1_0 (16, 42) (List.mem_of_getElem? (i := 7) rfl))
theorem dJ1_indexOf_4cfef_17 : decode cJ1_indexOf_4cfef 17 = .ok (.arraylength, 1) := dk190 (BJ1_indexOf_4cfef_1_0 (17, 190) (List.mem_of_getElem? (i := 8) rfl))
theorem dJ1_indexOf_4cfef_18 : decode cJ1_indexOf_4cfef 18 = .ok (.invokestatic 38, 3) := dk184 0 38 (BJ1_indexOf_4cfef_3_0 (18, 184, 0, 38) (List.mem_of_getElem? (i := 3) rfl))
theorem dJ1_indexOf_4cfef_21 : decode cJ1_indexOf_4cfef 21 = .ok (.istore_n 3, 1) := dk62 (BJ1_indexOf_4cfef_1_0 (21, 62) (List.mem_of_getElem? (i := 9) rfl))
theorem dJ1_indexOf_4cfef_22 : decode cJ1_indexOf_4cfef 22 = .ok (.iload_n 2, 1) := dk28 (BJ1_indexOf_4cfef_1_0 (22, 28) (List.mem_of_getElem? (i := 10) rfl))
theorem dJ1_indexOf_4cfef_23 : decode cJ1_indexOf_4cfef 23 = .ok (.iload_n 3, 1) := dk29 (BJ1_indexOf_4cfef_1_0 (23, 29) (List.mem_of_getElem? (i := 11) rfl))
theorem dJ1_indexOf_4cfef_24 : decode cJ1_indexOf_4cfef 24 = .ok (.if_icmp .lt 5, 3) := dk161 0 5 (BJ1_indexOf_4cfef_3_0 (24, 161, 0, 5) (List.mem_of_getElem? (i := 4) rfl))
theorem dJ1_indexOf_4cfef_27 : decode cJ1_indexOf_4cfef 27 = .ok (.iconst (-1), 1) := dk2 (BJ1_indexOf_4cfef_1_1 (27, 2) (List.mem_of_getElem? (i := 0) rfl))
theorem dJ1_indexOf_4cfef_28 : decode cJ1_indexOf_4cfef 28 = .ok (.ireturn, 1) := dk172 (BJ1_indexOf_4cfef_1_1 (28, 172) (List.mem_of_getElem? (i := 1) rfl))
theorem dJ1_indexOf_4cfef_29 : decode cJ1_indexOf_4cfef 29 = .ok (.aload_n 0, 1) := dk42 (BJ1_indexOf_4cfef_1_1 (29, 42) (List.mem_of_getElem? (i := 2) rfl))
theorem dJ1_indexOf_4cfef_30 : decode cJ1_indexOf_4cfef 30 = .ok (.iload_n 1, 1) := dk27 (BJ1_indexOf_4cfef_1_1 (30, 27) (List.mem_of_getElem? (i := 3) rfl))
theorem dJ1_indexOf_4cfef_31 : decode cJ1_indexOf_4cfef 31 = .ok (.iload_n 2, 1) := dk28 (BJ1_indexOf_4cfef_1_1 (31, 28) (List.mem_of_getElem? (i := 4) rfl))
theorem dJ1_indexOf_4cfef_32 : decode cJ1_indexOf_4cfef 32 = .ok (.iload_n 3, 1) := dk29 (BJ1_indexOf_4cfef_1_1 (32, 29) (List.mem_of_getElem? (i := 5) rfl))
theorem dJ1_indexOf_4cfef_33 : decode cJ1_indexOf_4cfef 33 = .ok (.invokestatic 95, 3) := dk184 0 95 (BJ1_indexOf_4cfef_3_0 (33, 184, 0, 95) (List.mem_of_getElem? (i := 5) rfl))
theorem dJ1_indexOf_4cfef_36 : decode cJ1_indexOf_4cfef 36 = .ok (.ireturn, 1) := dk172 (BJ1_indexOf_4cfef_1_1 (36, 172) (List.mem_of_getElem? (i := 6) rfl))
set_option maxRecDepth 20000 in
theorem SJ1_indexOfChar_4cfef : ∀ p : Nat, gb cJ1_indexOfChar_4cfef p = segF [[27, 145, 54, 4, 28, 54, 5, 21, 5, 29, 162, 0, 21, 42, 21, 5, 51, 21, 4, 160, 0, 6, 21, 5, 172, 132, 5, 1, 167, 255, 235, 2, 172]] p := seg_gb (S := [[27, 145, 54, 4, 28, 54, 5, 21, 5, 29, 162, 0, 21, 42, 21, 5, 51, 21, 4, 160, 0, 6, 21, 5, 172, 132, 5, 1, 167, 255, 235, 2, 172]]) (by decide +kernel) (by decide +kernel)
set_option maxRecDepth 20000 in
theorem BJ1_indexOfChar_4cfef_1_0 : ∀ q ∈ ([(0, 27), (1, 145), (4, 28), (9, 29), (13, 42), (16, 51), (24, 172), (31, 2), (32, 172)] : List (Nat × Nat)), gb cJ1_indexOfChar_4cfef q.1 = some q.2 := seg_1 SJ1_indexOfChar_4cfef _ (by decide +kernel)
set_option maxRecDepth 20000 in
theorem BJ1_indexOfChar_4cfef_2_0 : ∀ q ∈ ([(2, 54, 4), (5, 54, 5), (7, 21, 5), (14, 21, 5), (17, 21, 4), (22, 21, 5)] : List (Nat × Nat × Nat)), gb cJ1_indexOfChar_4cfef q.1 = some q.2.1 ∧ gb cJ1_indexOfChar_4cfef (q.1 + 1) = some q.2.2 := seg_2 SJ1_indexOfChar_4cfef _ (by decide +kernel)
set_option maxRecDepth 20000 in
theorem BJ1_indexOfChar_4cfef_3_0 : ∀ q ∈ ([(10, 162, 0, 21), (19, 160, 0, 6), (25, 132, 5, 1), (28, 167, 255, 235)] : List (Nat × Nat × Nat × Nat)), gb cJ1_indexOfChar_4cfef q.1 = some q.2.1 ∧ gb cJ1_indexOfChar_4cfef (q.1 + 1) = some q.2.2.1 ∧ gb cJ1_indexOfChar_4cfef (q.1 + 2) = some q.2.2.2 := seg_3 SJ1_indexOfChar_4cfef _ (by decide +kernel)
theorem dJ1_indexOfChar_4cfef_0 : decode cJ1_indexOfChar_4cfef 0 = .ok (.iload_n 1, 1) := dk27 (BJ1_indexOfChar_4cfef_1_0 (0, 27) (List.mem_of_getElem? (i := 0) rfl))
theorem dJ1_indexOfChar_4cfef_1 : decode cJ1_indexOfChar_4cfef 1 = .ok (.i2b, 1) := dk145 (BJ1_indexOfChar_4cfef_1_0 (1, 145) (List.mem_of_getElem? (i := 1) rfl))
theorem dJ1_indexOfChar_4cfef_2 : decode cJ1_indexOfChar_4cfef 2 = .ok (.istore 4, 2) := dk54 4 (BJ1_indexOfChar_4cfef_2_0 (2, 54, 4) (List.mem_of_getElem? (i := 0) rfl))
theorem dJ1_indexOfChar_4cfef_4 : decode cJ1_indexOfChar_4cfef 4 = .ok (.iload_n 2, 1) := dk28 (BJ1_indexOfChar_4cfef_1_0 (4, 28) (List.mem_of_getElem? (i := 2) rfl))
theorem dJ1_indexOfChar_4cfef_5 : decode cJ1_indexOfChar_4cfef 5 = .ok (.istore 5, 2) := dk54 5 (BJ1_indexOfChar_4cfef_2_0 (5, 54, 5) (List.mem_of_getElem? (i := 1) rfl))
theorem dJ1_indexOfChar_4cfef_7 : decode cJ1_indexOfChar_4cfef 7 = .ok (.iload 5, 2) := dk21 5 (BJ1_indexOfChar_4cfef_2_0 (7, 21, 5) (List.mem_of_getElem? (i := 2) rfl))
theorem dJ1_indexOfChar_4cfef_9 : decode cJ1_indexOfChar_4cfef 9 = .ok (.iload_n 3, 1) := dk29 (BJ1_indexOfChar_4cfef_1_0 (9, 29) (List.mem_of_getElem? (i := 3) rfl))
theorem dJ1_indexOfChar_4cfef_10 : decode cJ1_indexOfChar_4cfef 10 = .ok (.if_icmp .ge 21, 3) := dk162 0 21 (BJ1_indexOfChar_4cfef_3_0 (10, 162, 0, 21) (List.mem_of_getElem? (i := 0) rfl))
theorem dJ1_indexOfChar_4cfef_13 : decode cJ1_indexOfChar_4cfef 13 = .ok (.aload_n 0, 1) := dk42 (BJ1_indexOfChar_4cfef_1_0 (13, 42) (List.mem_of_getElem? (i := 4) rfl))
theorem dJ1_indexOfChar_4cfef_14 : decode cJ1_indexOfChar_4cfef 14 = .ok (.iload 5, 2) := dk21 5 (BJ1_indexOfChar_4cfef_2_0 (14, 21, 5) (List.mem_of_getElem? (i := 3) rfl))
theorem dJ1_indexOfChar_4cfef_16 : decode cJ1_indexOfChar_4cfef 16 = .ok (.baload, 1) := dk51 (BJ1_indexOfChar_4cfef_1_0 (16, 51) (List.mem_of_getElem? (i := 5) rfl))
theorem dJ1_indexOfChar_4cfef_17 : decode cJ1_indexOfChar_4cfef 17 = .ok (.iload 4, 2) := dk21 4 (BJ1_indexOfChar_4cfef_2_0 (17, 21, 4) (List.mem_of_getElem? (i := 4) rfl))
theorem dJ1_indexOfChar_4cfef_19 : decode cJ1_indexOfChar_4cfef 19 = .ok (.if_icmp .ne 6, 3) := dk160 0 6 (BJ1_indexOfChar_4cfef_3_0 (19, 160, 0, 6) (List.mem_of_getElem? (i := 1) rfl))
theorem dJ1_indexOfChar_4cfef_22 : decode cJ1_indexOfChar_4cfef 22 = .ok (.iload 5, 2) := dk21 5 (BJ1_indexOfChar_4cfef_2_0 (22, 21, 5) (List.mem_of_getElem? (i := 5) rfl))
theorem dJ1_indexOfChar_4cfef_24 : decode cJ1_indexOfChar_4cfef 24 = .ok (.ireturn, 1) := dk172 (BJ1_indexOfChar_4cfef_1_0 (24, 172) (List.mem_of_getElem? (i := 6) rfl))
theorem dJ1_indexOfChar_4cfef_25 : decode cJ1_indexOfChar_4cfef 25 = .ok (.iinc 5 1, 3) := dk132 5 1 (BJ1_indexOfChar_4cfef_3_0 (25, 132, 5, 1) (List.mem_of_getElem? (i := 2) rfl))
theorem dJ1_indexOfChar_4cfef_28 : decode cJ1_indexOfChar_4cfef 28 = .ok (.goto (-21), 3) := dk167 255 235 (BJ1_indexOfChar_4cfef_3_0 (28, 167, 255, 235) (List.mem_of_getElem? (i := 3) rfl))
theorem dJ1_indexOfChar_4cfef_31 : decode cJ1_indexOfChar_4cfef 31 = .ok (.iconst (-1), 1) := dk2 (BJ1_indexOfChar_4cfef_1_0 (31, 2) (List.mem_of_getElem? (i := 7) rfl))
theorem dJ1_indexOfChar_4cfef_32 : decode cJ1_indexOfChar_4cfef 32 = .ok (.ireturn, 1) := dk172 (BJ1_indexOfChar_4cfef_1_0 (32, 172) (List.mem_of_getElem? (i := 8) rfl))
set_option maxRecDepth 20000 in
theorem SJ7_copyOf_9075b : ∀ p : Nat, gb cJ7_copyOf_9075b p = segF [[27, 42, 190, 160, 0, 11, 42, 182, 1, 54, 192, 1, 55, 176, 27, 188, 8, 77, 42, 3, 44, 3, 42, 190, 27, 184, 1, 48, 184, 0, 150, 44, 176]] p := seg_gb (S := [[27, 42, 190, 160, 0, 11, 42, 182, 1, 54, 192, 1, 55, 176, 27, 188, 8, 77, 42, 3, 44, 3, 42, 190, 27, 184, 1, 48, 184, 0, 150, 44, 176]]) (by decide +kernel) (by decide +kernel)
set_option maxRecDepth 20000 in
theorem BJ7_copyOf_9075b_1_0 : ∀ q ∈ ([(0, 27), (1, 42), (2, 190), (6, 42), (13, 176), (14, 27), (17, 77), (18, 42), (19, 3), (20, 44), (21, 3), (22, 42)] : List (Nat × Nat)), gb cJ7_copyOf_9075b q.1 = some q.2 := seg_1 SJ7_copyOf_9075b _ (by decide +kernel)
set_option maxRecDepth 20000 in
theorem BJ7_copyOf_9075b_1_1 : ∀ q ∈ ([(23, 190), (24, 27), (31, 44), (32, 176)] : List (Nat × Nat)), gb cJ7_copyOf_9075b q.1 = some q.2 := seg_1 SJ7_copyOf_9075b _ (by decide +kernel)
set_option maxRecDepth 20000 in
theorem BJ7_copyOf_9075b_2_0 : ∀ q ∈ ([(15, 188, 8)] : List (Nat × Nat × Nat)), gb cJ7_copyOf_9075b q.1 = some q.2.1 ∧ gb cJ7_copyOf_9075b (q.1 + 1) = some q.2.2 := seg_2 SJ7_copyOf_9075b _ (by decide +kernel)
set_option maxRecDepth 20000 in
theorem BJ7_copyOf_9075b_3_0 : ∀ q ∈ ([(3, 160, 0, 11), (7, 182, 1, 54), (10, 192, 1, 55), (25, 184, 1, 48), (28, 184, 0, 150)] : List (Nat × Nat × Nat × Nat)), gb cJ7_copyOf_9075b q.1 = some q.2.1 ∧ gb cJ7_copyOf_9075b (q.1 + 1) = some q.2.2.1 ∧ gb cJ7_copyOf_9075b (q.1 + 2) = some q.2.2.2 := seg_3 SJ7_copyOf_9075b _ (by decide +kernel)
theorem dJ7_copyOf_9075b_0 : decode cJ7_copyOf_9075b 0 = .ok (.iload_n 1, 1) := dk27 (BJ7_copyOf_9075b_1_0 (0, 27) (List.mem_of_getElem? (i := 0) rfl))
theorem dJ7_copyOf_9075b_1 : decode cJ7_copyOf_9075b 1 = .ok (.aload_n 0, 1) := dk42 (BJ7_copyOf_9075b_1_0 (1, 42) (List.mem_of_getElem? (i := 1) rfl))
theorem dJ7_copyOf_9075b_2 : decode cJ7_copyOf_9075b 2 = .ok (.arraylength, 1) := dk190 (BJ7_copyOf_9075b_1_0 (2, 190) (List.mem_of_getElem? (i := 2) rfl))
theorem dJ7_copyOf_9075b_3 : decode cJ7_copyOf_9075b 3 = .ok (.if_icmp .ne 11, 3) := dk160 0 11 (BJ7_copyOf_9075b_3_0 (3, 160, 0, 11) (List.mem_of_getElem? (i := 0) rfl))
theorem dJ7_copyOf_9075b_6 : decode cJ7_copyOf_9075b 6 = .ok (.aload_n 0, 1) := dk42 (BJ7_copyOf_9075b_1_0 (6, 42) (List.mem_of_getElem? (i := 3) rfl))
theorem dJ7_copyOf_9075b_7 : decode cJ7_copyOf_9075b 7 = .ok (.invokevirtual 310, 3) := dk182 1 54 (BJ7_copyOf_9075b_3_0 (7, 182, 1, 54) (List.mem_of_getElem? (i := 1) rfl))
theorem dJ7_copyOf_9075b_10 : decode cJ7_copyOf_9075b 10 = .ok (.checkcast 311, 3) := dk192 1 55 (BJ7_copyOf_9075b_3_0 (10, 192, 1, 55) (List.mem_of_getElem? (i := 2) rfl))
theorem dJ7_copyOf_9075b_13 : decode cJ7_copyOf_9075b 13 = .ok (.areturn, 1) := dk176 (BJ7_copyOf_9075b_1_0 (13, 176) (List.mem_of_getElem? (i := 4) rfl))
theorem dJ7_copyOf_9075b_14 : decode cJ7_copyOf_9075b 14 = .ok (.iload_n 1, 1) := dk27 (BJ7_copyOf_9075b_1_0 (14, 27) (List.mem_of_getElem? (i := 5) rfl))
theorem dJ7_copyOf_9075b_15 : decode cJ7_copyOf_9075b 15 = .ok (.newarray .byte, 2) := dk188_8 (BJ7_copyOf_9075b_2_0 (15, 188, 8) (List.mem_of_getElem? (i := 0) rfl))
theorem dJ7_copyOf_9075b_17 : decode cJ7_copyOf_9075b 17 = .ok (.astore_n 2, 1) := dk77 (BJ7_copyOf_9075b_1_0 (17, 77) (List.mem_of_getElem? (i := 6) rfl))
theorem dJ7_copyOf_9075b_18 : decode cJ7_copyOf_9075b 18 = .ok (.aload_n 0, 1) := dk42 (BJ7_copyOf_9075b_1_0 (18, 42) (List.mem_of_getElem? (i := 7) rfl))
theorem dJ7_copyOf_9075b_19 : decode cJ7_copyOf_9075b 19 = .ok (.iconst 0, 1) := dk3 (BJ7_copyOf_9075b_1_0 (19, 3) (List.mem_of_getElem? (i := 8) rfl))
theorem dJ7_copyOf_9075b_20 : decode cJ7_copyOf_9075b 20 = .ok (.aload_n 2, 1) := dk44 (BJ7_copyOf_9075b_1_0 (20, 44) (List.mem_of_getElem? (i := 9) rfl))
theorem dJ7_copyOf_9075b_21 : decode cJ7_copyOf_9075b 21 = .ok (.iconst 0, 1) := dk3 (BJ7_copyOf_9075b_1_0 (21, 3) (List.mem_of_getElem? (i := 10) rfl))
theorem dJ7_copyOf_9075b_22 : decode cJ7_copyOf_9075b 22 = .ok (.aload_n 0, 1) := dk42 (BJ7_copyOf_9075b_1_0 (22, 42) (List.mem_of_getElem? (i := 11) rfl))
theorem dJ7_copyOf_9075b_23 : decode cJ7_copyOf_9075b 23 = .ok (.arraylength, 1) := dk190 (BJ7_copyOf_9075b_1_1 (23, 190) (List.mem_of_getElem? (i := 0) rfl))
theorem dJ7_copyOf_9075b_24 : decode cJ7_copyOf_9075b 24 = .ok (.iload_n 1, 1) := dk27 (BJ7_copyOf_9075b_1_1 (24, 27) (List.mem_of_getElem? (i := 1) rfl))
theorem dJ7_copyOf_9075b_25 : decode cJ7_copyOf_9075b 25 = .ok (.invokestatic 304, 3) := dk184 1 48 (BJ7_copyOf_9075b_3_0 (25, 184, 1, 48) (List.mem_of_getElem? (i := 3) rfl))
theorem dJ7_copyOf_9075b_28 : decode cJ7_copyOf_9075b 28 = .ok (.invokestatic 150, 3) := dk184 0 150 (BJ7_copyOf_9075b_3_0 (28, 184, 0, 150) (List.mem_of_getElem? (i := 4) rfl))
theorem dJ7_copyOf_9075b_31 : decode cJ7_copyOf_9075b 31 = .ok (.aload_n 2, 1) := dk44 (BJ7_copyOf_9075b_1_1 (31, 44) (List.mem_of_getElem? (i := 2) rfl))
theorem dJ7_copyOf_9075b_32 : decode cJ7_copyOf_9075b 32 = .ok (.areturn, 1) := dk176 (BJ7_copyOf_9075b_1_1 (32, 176) (List.mem_of_getElem? (i := 3) rfl))
