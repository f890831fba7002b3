noncomputable def ch_wsX11_init : List (List Cond) := [([.code yX11_init cX11_init 1 none] : List Cond), wsX11_init_r1, wsX11_init_r2, wsX11_init_r3, wsX11_init_r4, wsX11_init_r5, wsX11_init_r6, wsX11_init_r7, wsX70, wsX110, wsX50, wsX30, wsX20, wsX60, wsX40, wsX100, wsX90, wsX10, wsX00, wsX80]
set_option maxRecDepth 20000 in
theorem ch_wsX11_init_flat : ch_wsX11_init.flatten = wsX11_init := by
  simp only [ch_wsX11_init, wsX11_init, List.flatten_cons, List.flatten_nil, List.append_nil, List.nil_append, List.cons_append, List.append_assoc]
set_option maxRecDepth 20000 in
theorem gd_wsX11_init : wsX11_init.all goodWord = true := by decide +kernel
set_option maxRecDepth 20000 in
theorem SX0_init : ∀ p : Nat, gb cX0_init p = segF [[42, 183, 0, 3, 42, 16, 50, 188, 10, 181, 0, 9, 42, 16, 24, 188, 10, 181, 0, 15, 177]] p := seg_gb (S := [[42, 183, 0, 3, 42, 16, 50, 188, 10, 181, 0, 9, 42, 16, 24, 188, 10, 181, 0, 15, 177]]) (by decide +kernel) (by decide +kernel)
set_option maxRecDepth 20000 in
theorem BX0_init_1_0 : ∀ q ∈ ([(0, 42), (4, 42), (12, 42), (20, 177)] : List (Nat × Nat)), gb cX0_init q.1 = some q.2 := seg_1 SX0_init _ (by decide +kernel)
set_option maxRecDepth 20000 in
theorem BX0_init_2_0 : ∀ q ∈ ([(5, 16, 50), (7, 188, 10), (13, 16, 24), (15, 188, 10)] : List (Nat × Nat × Nat)), gb cX0_init q.1 = some q.2.1 ∧ gb cX0_init (q.1 + 1) = some q.2.2 := seg_2 SX0_init _ (by decide +kernel)
set_option maxRecDepth 20000 in
theorem BX0_init_3_0 : ∀ q ∈ ([(1, 183, 0, 3), (9, 181, 0, 9), (17, 181, 0, 15)] : List (Nat × Nat × Nat × Nat)), gb cX0_init q.1 = some q.2.1 ∧ gb cX0_init (q.1 + 1) = some q.2.2.1 ∧ gb cX0_init (q.1 + 2) = some q.2.2.2 := seg_3 SX0_init _ (by decide +kernel)
theorem dX0_init_0 : decode cX0_init 0 = .ok (.aload_n 0, 1) := dk42 (BX0_init_1_0 (0, 42) (List.mem_of_getElem? (i := 0) rfl))
theorem dX0_init_1 : decode cX0_init 1 = .ok (.invokespecial 3, 3) := dk183 0 3 (BX0_init_3_0 (1, 183, 0, 3) (List.mem_of_getElem? (i := 0) rfl))
theorem dX0_init_4 : decode cX0_init 4 = .ok (.aload_n 0, 1) := dk42 (BX0_init_1_0 (4, 42) (List.mem_of_getElem? (i := 1) rfl))
theorem dX0_init_5 : decode cX0_init 5 = .ok (.bipush 50, 2) := dk16 50 (BX0_init_2_0 (5, 16, 50) (List.mem_of_getElem? (i := 0) rfl))
theorem dX0_init_7 : decode cX0_init 7 = .ok (.newarray .int, 2) := dk188_10 (BX0_init_2_0 (7, 188, 10) (List.mem_of_getElem? (i := 1) rfl))
theorem dX0_init_9 : decode cX0_init 9 = .ok (.putfield 9, 3) := dk181 0 9 (BX0_init_3_0 (9, 181, 0, 9) (List.mem_of_getElem? (i := 1) rfl))
theorem dX0_init_12 : decode cX0_init 12 = .ok (.aload_n 0, 1) := dk42 (BX0_init_1_0 (12, 42) (List.mem_of_getElem? (i := 2) rfl))
theorem dX0_init_13 : decode cX0_init 13 = .ok (.bipush 24, 2) := dk16 24 (BX0_init_2_0 (13, 16, 24) (List.mem_of_getElem? (i := 2) rfl))
theorem dX0_init_15 : decode cX0_init 15 = .ok (.newarray .int, 2) := dk188_10 (BX0_init_2_0 (15, 188, 10) (List.mem_of_getElem? (i := 3) rfl))
theorem dX0_init_17 : decode cX0_init 17 = .ok (.putfield 15, 3) := dk181 0 15 (BX0_init_3_0 (17, 181, 0, 15) (List.mem_of_getElem? (i := 2) rfl))
theorem dX0_init_20 : decode cX0_init 20 = .ok (.return_, 1) := dk177 (BX0_init_1_0 (20, 177) (List.mem_of_getElem? (i := 3) rfl))
set_option maxRecDepth 20000 in
theorem ggX0_isBody_X11_within : GoodIn wsX0_isBody wsX11_within := goodIn_r _ [4] rfl (by decide +kernel)
set_option maxRecDepth 20000 in
theorem gX0_isBody_X11_within_n22 : GoodIn wsX0_isBody (wsX11_within) := ggX0_isBody_X11_within
set_option maxRecDepth 20000 in
theorem SX0_isBody : ∀ p : Nat, gb cX0_isBody p = segF [[27, 3, 42, 180, 0, 18, 4, 100, 184, 0, 22, 172]] p := seg_gb (S := [[27, 3, 42, 180, 0, 18, 4, 100, 184, 0, 22, 172]]) (by decide +kernel) (by decide +kernel)
set_option maxRecDepth 20000 in
theorem BX0_isBody_1_0 : ∀ q ∈ ([(0, 27), (1, 3), (2, 42), (6, 4), (7, 100), (11, 172)] : List (Nat × Nat)), gb cX0_isBody q.1 = some q.2 := seg_1 SX0_isBody _ (by decide +kernel)
set_option maxRecDepth 20000 in
theorem BX0_isBody_3_0 : ∀ q ∈ ([(3, 180, 0, 18), (8, 184, 0, 22)] : List (Nat × Nat × Nat × Nat)), gb cX0_isBody q.1 = some q.2.1 ∧ gb cX0_isBody (q.1 + 1) = some q.2.2.1 ∧ gb cX0_isBody (q.1 + 2) = some q.2.2.2 := seg_3 SX0_isBody _ (by decide +kernel)
theorem dX0_isBody_0 : decode cX0_isBody 0 = .ok (.iload_n 1, 1) := dk27 (BX0_isBody_1_0 (0, 27) (List.mem_of_getElem? (i := 0) rfl))
theorem dX0_isBody_1 : decode cX0_isBody 1 = .ok (.iconst 0, 1) := dk3 (BX0_isBody_1_0 (1, 3) (List.mem_of_getElem? (i := 1) rfl))
theorem dX0_isBody_2 : decode cX0_isBody 2 = .ok (.aload_n 0, 1) := dk42 (BX0_isBody_1_0 (2, 42) (List.mem_of_getElem? (i := 2) rfl))
theorem dX0_isBody_3 : decode cX0_isBody 3 = .ok (.getfield 18, 3) := dk180 0 18 (BX0_isBody_3_0 (3, 180, 0, 18) (List.mem_of_getElem? (i := 0) rfl))
theorem dX0_isBody_6 : decode cX0_isBody 6 = .ok (.iconst 1, 1) := dk4 (BX0_isBody_1_0 (6, 4) (List.mem_of_getElem? (i := 3) rfl))
theorem dX0_isBody_7 : decode cX0_isBody 7 = .ok (.isub, 1) := dk100 (BX0_isBody_1_0 (7, 100) (List.mem_of_getElem? (i := 4) rfl))
theorem dX0_isBody_8 : decode cX0_isBody 8 = .ok (.invokestatic 22, 3) := dk184 0 22 (BX0_isBody_3_0 (8, 184, 0, 22) (List.mem_of_getElem? (i := 1) rfl))
theorem dX0_isBody_11 : decode cX0_isBody 11 = .ok (.ireturn, 1) := dk172 (BX0_isBody_1_0 (11, 172) (List.mem_of_getElem? (i := 5) rfl))
set_option maxRecDepth 20000 in
theorem SX0_add : ∀ p : Nat, gb cX0_add p = segF [[42, 180, 0, 18, 42, 180, 0, 9, 190, 160, 0, 6, 16, 253, 172, 42, 180, 0, 9, 42, 180, 0, 18, 27, 79, 42, 89, 180, 0, 18, 90, 4, 96, 181, 0, 18, 172]] p := seg_gb (S := [[42, 180, 0, 18, 42, 180, 0, 9, 190, 160, 0, 6, 16, 253, 172, 42, 180, 0, 9, 42, 180, 0, 18, 27, 79, 42, 89, 180, 0, 18, 90, 4, 96, 181, 0, 18, 172]]) (by decide +kernel) (by decide +kernel)
set_option maxRecDepth 20000 in
theorem BX0_add_1_0 : ∀ q ∈ ([(0, 42), (4, 42), (8, 190), (14, 172), (15, 42), (19, 42), (23, 27), (24, 79), (25, 42), (26, 89), (30, 90), (31, 4)] : List (Nat × Nat)), gb cX0_add q.1 = some q.2 := seg_1 SX0_add _ (by decide +kernel)
set_option maxRecDepth 20000 in
theorem BX0_add_1_1 : ∀ q ∈ ([(32, 96), (36, 172)] : List (Nat × Nat)), gb cX0_add q.1 = some q.2 := seg_1 SX0_add _ (by decide +kernel)
set_option maxRecDepth 20000 in
theorem BX0_add_2_0 : ∀ q ∈ ([(12, 16, 253)] : List (Nat × Nat × Nat)), gb cX0_add q.1 = some q.2.1 ∧ gb cX0_add (q.1 + 1) = some q.2.2 := seg_2 SX0_add _ (by decide +kernel)
set_option maxRecDepth 20000 in
theorem BX0_add_3_0 : ∀ q ∈ ([(1, 180, 0, 18), (5, 180, 0, 9), (9, 160, 0, 6), (16, 180, 0, 9), (20, 180, 0, 18), (27, 180, 0, 18), (33, 181, 0, 18)] : List (Nat × Nat × Nat × Nat)), gb cX0_add q.1 = some q.2.1 ∧ gb cX0_add (q.1 + 1) = some q.2.2.1 ∧ gb cX0_add (q.1 + 2) = some q.2.2.2 := seg_3 SX0_add _ (by decide +kernel)
theorem dX0_add_0 : decode cX0_add 0 = .ok (.aload_n 0, 1) := dk42 (BX0_add_1_0 (0, 42) (List.mem_of_getElem? (i := 0) rfl))
theorem dX0_add_1 : decode cX0_add 1 = .ok (.getfield 18, 3) := dk180 0 18 (BX0_add_3_0 (1, 180, 0, 18) (List.mem_of_getElem? (i := 0) rfl))
theorem dX0_add_4 : decode cX0_add 4 = .ok (.aload_n 0, 1) := dk42 (BX0_add_1_0 (4, 42) (List.mem_of_getElem? (i := 1) rfl))
theorem dX0_add_5 : decode cX0_add 5 = .ok (.getfield 9, 3) := dk180 0 9 (BX0_add_3_0 (5, 180, 0, 9) (List.mem_of_getElem? (i := 1) rfl))
theorem dX0_add_8 : decode cX0_add 8 = .ok (.arraylength, 1) := dk190 (BX0_add_1_0 (8, 190) (List.mem_of_getElem? (i := 2) rfl))
theorem dX0_add_9 : decode cX0_add 9 = .ok (.if_icmp .ne 6, 3) := dk160 0 6 (BX0_add_3_0 (9, 160, 0, 6) (List.mem_of_getElem? (i := 2) rfl))
theorem dX0_add_12 : decode cX0_add 12 = .ok (.bipush (-3), 2) := dk16 253 (BX0_add_2_0 (12, 16, 253) (List.mem_of_getElem? (i := 0) rfl))
theorem dX0_add_14 : decode cX0_add 14 = .ok (.ireturn, 1) := dk172 (BX0_add_1_0 (14, 172) (List.mem_of_getElem? (i := 3) rfl))
theorem dX0_add_15 : decode cX0_add 15 = .ok (.aload_n 0, 1) := dk42 (BX0_add_1_0 (15, 42) (List.mem_of_getElem? (i := 4) rfl))
theorem dX0_add_16 : decode cX0_add 16 = .ok (.getfield 9, 3) := dk180 0 9 (BX0_add_3_0 (16, 180, 0, 9) (List.mem_of_getElem? (i := 3) rfl))
theorem dX0_add_19 : decode cX0_add 19 = .ok (.aload_n 0, 1) := dk42 (BX0_add_1_0 (19, 42) (List.mem_of_getElem? (i := 5) rfl))
theorem dX0_add_20 : decode cX0_add 20 = .ok (.getfield 18, 3) := dk180 0 18 (BX0_add_3_0 (20, 180, 0, 18) (List.mem_of_getElem? (i := 4) rfl))
theorem dX0_add_23 : decode cX0_add 23 = .ok (.iload_n 1, 1) := dk27 (BX0_add_1_0 (23, 27) (List.mem_of_getElem? (i := 6) rfl))
theorem dX0_add_24 : decode cX0_add 24 = .ok (.iastore, 1) := dk79 (BX0_add_1_0 (24, 79) (List.mem_of_getElem? (i := 7) rfl))
theorem dX0_add_25 : decode cX0_add 25 = .ok (.aload_n 0, 1) := dk42 (BX0_add_1_0 (25, 42) (List.mem_of_getElem? (i := 8) rfl))
theorem dX0_add_26 : decode cX0_add 26 = .ok (.dup, 1) := dk89 (BX0_add_1_0 (26, 89) (List.mem_of_getElem? (i := 9) rfl))
theorem dX0_add_27 : decode cX0_add 27 = .ok (.getfield 18, 3) := dk180 0 18 (BX0_add_3_0 (27, 180, 0, 18) (List.mem_of_getElem? (i := 5) rfl))
theorem dX0_add_30 : decode cX0_add 30 = .ok (.dup_x1, 1) := dk90 (BX0_add_1_0 (30, 90) (List.mem_of_getElem? (i := 10) rfl))
theorem dX0_add_31 : decode cX0_add 31 = .ok (.iconst 1, 1) := dk4 (BX0_add_1_0 (31, 4) (List.mem_of_getElem? (i := 11) rfl))
theorem dX0_add_32 : decode cX0_add 32 = .ok (.iadd, 1) := dk96 (BX0_add_1_1 (32, 96) (List.mem_of_getElem? (i := 0) rfl))
theorem dX0_add_33 : decode cX0_add 33 = .ok (.putfield 18, 3) := dk181 0 18 (BX0_add_3_0 (33, 181, 0, 18) (List.mem_of_getElem? (i := 6) rfl))
theorem dX0_add_36 : decode cX0_add 36 = .ok (.ireturn, 1) := dk172 (BX0_add_1_1 (36, 172) (List.mem_of_getElem? (i := 1) rfl))
set_option maxRecDepth 20000 in
theorem SX0_traced : ∀ p : Nat, gb cX0_traced p = segF [[42, 180, 0, 26, 42, 180, 0, 15, 190, 184, 0, 29, 172]] p := seg_gb (S := [[42, 180, 0, 26, 42, 180, 0, 15, 190, 184, 0, 29, 172]]) (by decide +kernel) (by decide +kernel)
set_option maxRecDepth 20000 in
theorem BX0_traced_1_0 : ∀ q ∈ ([(0, 42), (4, 42), (8, 190), (12, 172)] : List (Nat × Nat)), gb cX0_traced q.1 = some q.2 := seg_1 SX0_traced _ (by decide +kernel)
set_option maxRecDepth 20000 in
theorem BX0_traced_3_0 : ∀ q ∈ ([(1, 180, 0, 26), (5, 180, 0, 15), (9, 184, 0, 29)] : List (Nat × Nat × Nat × Nat)), gb cX0_traced q.1 = some q.2.1 ∧ gb cX0_traced (q.1 + 1) = some q.2.2.1 ∧ gb cX0_traced (q.1 + 2) = some q.2.2.2 := seg_3 SX0_traced _ (by decide +kernel)
theorem dX0_traced_0 : decode cX0_traced 0 = .ok (.aload_n 0, 1) := dk42 (BX0_traced_1_0 (0, 42) (List.mem_of_getElem? (i := 0) rfl))
theorem dX0_traced_1 : decode cX0_traced 1 = .ok (.getfield 26, 3) := dk180 0 26 (BX0_traced_3_0 (1, 180, 0, 26) (List.mem_of_getElem? (i := 0) rfl))
theorem dX0_traced_4 : decode cX0_traced 4 = .ok (.aload_n 0, 1) := dk42 (BX0_traced_1_0 (4, 42) (List.mem_of_getElem? (i := 1) rfl))
theorem dX0_traced_5 : decode cX0_traced 5 = .ok (.getfield 15, 3) := dk180 0 15 (BX0_traced_3_0 (5, 180, 0, 15) (List.mem_of_getElem? (i := 1) rfl))
theorem dX0_traced_8 : decode cX0_traced 8 = .ok (.arraylength, 1) := dk190 (BX0_traced_1_0 (8, 190) (List.mem_of_getElem? (i := 2) rfl))
theorem dX0_traced_9 : decode cX0_traced 9 = .ok (.invokestatic 29, 3) := dk184 0 29 (BX0_traced_3_0 (9, 184, 0, 29) (List.mem_of_getElem? (i := 2) rfl))
theorem dX0_traced_12 : decode cX0_traced 12 = .ok (.ireturn, 1) := dk172 (BX0_traced_1_0 (12, 172) (List.mem_of_getElem? (i := 3) rfl))
set_option maxRecDepth 20000 in
theorem SX0_isUnder : ∀ p : Nat, gb cX0_isUnder p = segF [[27, 62, 3, 54, 4, 21, 4, 16, 8, 162, 0, 26, 29, 155, 0, 22, 29, 28, 160, 0, 5, 4, 172, 178, 0, 35, 29, 46, 62, 132, 4, 1, 167, 255, 229, 3, 172]] p := seg_gb (S := [[27, 62, 3, 54, 4, 21, 4, 16, 8, 162, 0, 26, 29, 155, 0, 22, 29, 28, 160, 0, 5, 4, 172, 178, 0, 35, 29, 46, 62, 132, 4, 1, 167, 255, 229, 3, 172]]) (by decide +kernel) (by decide +kernel)
set_option maxRecDepth 20000 in
theorem BX0_isUnder_1_0 : ∀ q ∈ ([(0, 27), (1, 62), (2, 3), (12, 29), (16, 29), (17, 28), (21, 4), (22, 172), (26, 29), (27, 46), (28, 62), (35, 3)] : List (Nat × Nat)), gb cX0_isUnder q.1 = some q.2 := seg_1 SX0_isUnder _ (by decide +kernel)
set_option maxRecDepth 20000 in
theorem BX0_isUnder_1_1 : ∀ q ∈ ([(36, 172)] : List (Nat × Nat)), gb cX0_isUnder q.1 = some q.2 := seg_1 SX0_isUnder _ (by decide +kernel)
set_option maxRecDepth 20000 in
theorem BX0_isUnder_2_0 : ∀ q ∈ ([(3, 54, 4), (5, 21, 4), (7, 16, 8)] : List (Nat × Nat × Nat)), gb cX0_isUnder q.1 = some q.2.1 ∧ gb cX0_isUnder (q.1 + 1) = some q.2.2 := seg_2 SX0_isUnder _ (by decide +kernel)
set_option maxRecDepth 20000 in
theorem BX0_isUnder_3_0 : ∀ q ∈ ([(9, 162, 0, 26), (13, 155, 0, 22), (18, 160, 0, 5), (23, 178, 0, 35), (29, 132, 4, 1), (32, 167, 255, 229)] : List (Nat × Nat × Nat × Nat)), gb cX0_isUnder q.1 = some q.2.1 ∧ gb cX0_isUnder (q.1 + 1) = some q.2.2.1 ∧ gb cX0_isUnder (q.1 + 2) = some q.2.2.2 := seg_3 SX0_isUnder _ (by decide +kernel)
theorem dX0_isUnder_0 : decode cX0_isUnder 0 = .ok (.iload_n 1, 1) := dk27 (BX0_isUnder_1_0 (0, 27) (List.mem_of_getElem? (i := 0) rfl))
theorem dX0_isUnder_1 : decode cX0_isUnder 1 = .ok (.istore_n 3, 1) := dk62 (BX0_isUnder_1_0 (1, 62) (List.mem_of_getElem? (i := 1) rfl))
theorem dX0_isUnder_2 : decode cX0_isUnder 2 = .ok (.iconst 0, 1) := dk3 (BX0_isUnder_1_0 (2, 3) (List.mem_of_getElem? (i := 2) rfl))
theorem dX0_isUnder_3 : decode cX0_isUnder 3 = .ok (.istore 4, 2) := dk54 4 (BX0_isUnder_2_0 (3, 54, 4) (List.mem_of_getElem? (i := 0) rfl))
theorem dX0_isUnder_5 : decode cX0_isUnder 5 = .ok (.iload 4, 2) := dk21 4 (BX0_isUnder_2_0 (5, 21, 4) (List.mem_of_getElem? (i := 1) rfl))
theorem dX0_isUnder_7 : decode cX0_isUnder 7 = .ok (.bipush 8, 2) := dk16 8 (BX0_isUnder_2_0 (7, 16, 8) (List.mem_of_getElem? (i := 2) rfl))
theorem dX0_isUnder_9 : decode cX0_isUnder 9 = .ok (.if_icmp .ge 26, 3) := dk162 0 26 (BX0_isUnder_3_0 (9, 162, 0, 26) (List.mem_of_getElem? (i := 0) rfl))
theorem dX0_isUnder_12 : decode cX0_isUnder 12 = .ok (.iload_n 3, 1) := dk29 (BX0_isUnder_1_0 (12, 29) (List.mem_of_getElem? (i := 3) rfl))
theorem dX0_isUnder_13 : decode cX0_isUnder 13 = .ok (.ifCond .lt 22, 3) := dk155 0 22 (BX0_isUnder_3_0 (13, 155, 0, 22) (List.mem_of_getElem? (i := 1) rfl))
theorem dX0_isUnder_16 : decode cX0_isUnder 16 = .ok (.iload_n 3, 1) := dk29 (BX0_isUnder_1_0 (16, 29) (List.mem_of_getElem? (i := 4) rfl))
theorem dX0_isUnder_17 : decode cX0_isUnder 17 = .ok (.iload_n 2, 1) := dk28 (BX0_isUnder_1_0 (17, 28) (List.mem_of_getElem? (i := 5) rfl))
theorem dX0_isUnder_18 : decode cX0_isUnder 18 = .ok (.if_icmp .ne 5, 3) := dk160 0 5 (BX0_isUnder_3_0 (18, 160, 0, 5) (List.mem_of_getElem? (i := 2) rfl))
theorem dX0_isUnder_21 : decode cX0_isUnder 21 = .ok (.iconst 1, 1) := dk4 (BX0_isUnder_1_0 (21, 4) (List.mem_of_getElem? (i := 6) rfl))
theorem dX0_isUnder_22 : decode cX0_isUnder 22 = .ok (.ireturn, 1) := dk172 (BX0_isUnder_1_0 (22, 172) (List.mem_of_getElem? (i := 7) rfl))
theorem dX0_isUnder_23 : decode cX0_isUnder 23 = .ok (.getstatic 35, 3) := dk178 0 35 (BX0_isUnder_3_0 (23, 178, 0, 35) (List.mem_of_getElem? (i := 3) rfl))
theorem dX0_isUnder_26 : decode cX0_isUnder 26 = .ok (.iload_n 3, 1) := dk29 (BX0_isUnder_1_0 (26, 29) (List.mem_of_getElem? (i := 8) rfl))
theorem dX0_isUnder_27 : decode cX0_isUnder 27 = .ok (.iaload, 1) := dk46 (BX0_isUnder_1_0 (27, 46) (List.mem_of_getElem? (i := 9) rfl))
theorem dX0_isUnder_28 : decode cX0_isUnder 28 = .ok (.istore_n 3, 1) := dk62 (BX0_isUnder_1_0 (28, 62) (List.mem_of_getElem? (i := 10) rfl))
theorem dX0_isUnder_29 : decode cX0_isUnder 29 = .ok (.iinc 4 1, 3) := dk132 4 1 (BX0_isUnder_3_0 (29, 132, 4, 1) (List.mem_of_getElem? (i := 4) rfl))
theorem dX0_isUnder_32 : decode cX0_isUnder 32 = .ok (.goto (-27), 3) := dk167 255 229 (BX0_isUnder_3_0 (32, 167, 255, 229) (List.mem_of_getElem? (i := 5) rfl))
theorem dX0_isUnder_35 : decode cX0_isUnder 35 = .ok (.iconst 0, 1) := dk3 (BX0_isUnder_1_0 (35, 3) (List.mem_of_getElem? (i := 11) rfl))
theorem dX0_isUnder_36 : decode cX0_isUnder 36 = .ok (.ireturn, 1) := dk172 (BX0_isUnder_1_1 (36, 172) (List.mem_of_getElem? (i := 0) rfl))
set_option maxRecDepth 20000 in
theorem ggX0_start_X0_isBody : GoodIn wsX0_start wsX0_isBody := goodIn_r _ [7, 8, 9, 10, 11, 28, 29, 30, 31, 32] rfl (by decide +kernel)
set_option maxRecDepth 20000 in
theorem gX0_start_X0_isBody : GoodIn wsX0_start (wsV RX0 38 RX0 yX0_isBody wsX0_isBody) := goodIn_app (goodIn_r _ [3, 4, 5, 6] rfl (by decide +kernel)) ggX0_start_X0_isBody
set_option maxRecDepth 20000 in
theorem ggX0_start_X11_within : GoodIn wsX0_start wsX11_within := goodIn_r _ [11] rfl (by decide +kernel)
set_option maxRecDepth 20000 in
theorem gX0_start_X11_within_n22 : GoodIn wsX0_start (wsX11_within) := ggX0_start_X11_within
set_option maxRecDepth 20000 in
theorem ggX0_start_X0_own : GoodIn wsX0_start wsX0_own := goodIn_r _ [15, 16, 2, 17, 18, 19, 6, 20, 21, 22, 1, 23, 24, 25, 26, 27, 12, 13, 14, 28, 29, 30, 31, 32] rfl (by decide +kernel)
set_option maxRecDepth 20000 in
theorem gX0_start_X0_own : GoodIn wsX0_start (wsV RX0 45 RX0 yX0_own wsX0_own) := goodIn_app (goodIn_r _ [12, 13, 14, 6] rfl (by decide +kernel)) ggX0_start_X0_own
set_option maxRecDepth 20000 in
theorem SX0_start : ∀ p : Nat, gb cX0_start p = segF [[42, 3, 181, 0, 26, 42, 27, 182, 0, 38, 153, 0, 12, 28, 3, 6, 184, 0, 22, 154, 0, 5, 3, 172, 42, 27, 181, 0, 42, 42, 28, 29, 3, 182, 0, 45, 172]] p := seg_gb (S := [[42, 3, 181, 0, 26, 42, 27, 182, 0, 38, 153, 0, 12, 28, 3, 6, 184, 0, 22, 154, 0, 5, 3, 172, 42, 27, 181, 0, 42, 42, 28, 29, 3, 182, 0, 45, 172]]) (by decide +kernel) (by decide +kernel)
set_option maxRecDepth 20000 in
theorem BX0_start_1_0 : ∀ q ∈ ([(0, 42), (1, 3), (5, 42), (6, 27), (13, 28), (14, 3), (15, 6), (22, 3), (23, 172), (24, 42), (25, 27), (29, 42)] : List (Nat × Nat)), gb cX0_start q.1 = some q.2 := seg_1 SX0_start _ (by decide +kernel)
set_option maxRecDepth 20000 in
theorem BX0_start_1_1 : ∀ q ∈ ([(30, 28), (31, 29), (32, 3), (36, 172)] : List (Nat × Nat)), gb cX0_start q.1 = some q.2 := seg_1 SX0_start _ (by decide +kernel)
set_option maxRecDepth 20000 in
theorem BX0_start_3_0 : ∀ q ∈ ([(2, 181, 0, 26), (7, 182, 0, 38), (10, 153, 0, 12), (16, 184, 0, 22), (19, 154, 0, 5), (26, 181, 0, 42), (33, 182, 0, 45)] : List (Nat × Nat × Nat × Nat)), gb cX0_start q.1 = some q.2.1 ∧ gb cX0_start (q.1 + 1) = some q.2.2.1 ∧ gb cX0_start (q.1 + 2) = some q.2.2.2 := seg_3 SX0_start _ (by decide +kernel)
theorem dX0_start_0 : decode cX0_start 0 = .ok (.aload_n 0, 1) := dk42 (BX0_start_1_0 (0, 42) (List.mem_of_getElem? (i := 0) rfl))
theorem dX0_start_1 : decode cX0_start 1 = .ok (.iconst 0, 1) := dk3 (BX0_start_1_0 (1, 3) (List.mem_of_getElem? (i := 1) rfl))
theorem dX0_start_2 : decode cX0_start 2 = .ok (.putfield 26, 3) := dk181 0 26 (BX0_start_3_0 (2, 181, 0, 26) (List.mem_of_getElem? (i := 0) rfl))
theorem dX0_start_5 : decode cX0_start 5 = .ok (.aload_n 0, 1) := dk42 (BX0_start_1_0 (5, 42) (List.mem_of_getElem? (i := 2) rfl))
theorem dX0_start_6 : decode cX0_start 6 = .ok (.iload_n 1, 1) := dk27 (BX0_start_1_0 (6, 27) (List.mem_of_getElem? (i := 3) rfl))
theorem dX0_start_7 : decode cX0_start 7 = .ok (.invokevirtual 38, 3) := dk182 0 38 (BX0_start_3_0 (7, 182, 0, 38) (List.mem_of_getElem? (i := 1) rfl))
theorem dX0_start_10 : decode cX0_start 10 = .ok (.ifCond .eq 12, 3) := dk153 0 12 (BX0_start_3_0 (10, 153, 0, 12) (List.mem_of_getElem? (i := 2) rfl))
theorem dX0_start_13 : decode cX0_start 13 = .ok (.iload_n 2, 1) := dk28 (BX0_start_1_0 (13, 28) (List.mem_of_getElem? (i := 4) rfl))
theorem dX0_start_14 : decode cX0_start 14 = .ok (.iconst 0, 1) := dk3 (BX0_start_1_0 (14, 3) (List.mem_of_getElem? (i := 5) rfl))
theorem dX0_start_15 : decode cX0_start 15 = .ok (.iconst 3, 1) := dk6 (BX0_start_1_0 (15, 6) (List.mem_of_getElem? (i := 6) rfl))
theorem dX0_start_16 : decode cX0_start 16 = .ok (.invokestatic 22, 3) := dk184 0 22 (BX0_start_3_0 (16, 184, 0, 22) (List.mem_of_getElem? (i := 3) rfl))
theorem dX0_start_19 : decode cX0_start 19 = .ok (.ifCond .ne 5, 3) := dk154 0 5 (BX0_start_3_0 (19, 154, 0, 5) (List.mem_of_getElem? (i := 4) rfl))
theorem dX0_start_22 : decode cX0_start 22 = .ok (.iconst 0, 1) := dk3 (BX0_start_1_0 (22, 3) (List.mem_of_getElem? (i := 7) rfl))
theorem dX0_start_23 : decode cX0_start 23 = .ok (.ireturn, 1) := dk172 (BX0_start_1_0 (23, 172) (List.mem_of_getElem? (i := 8) rfl))
theorem dX0_start_24 : decode cX0_start 24 = .ok (.aload_n 0, 1) := dk42 (BX0_start_1_0 (24, 42) (List.mem_of_getElem? (i := 9) rfl))
theorem dX0_start_25 : decode cX0_start 25 = .ok (.iload_n 1, 1) := dk27 (BX0_start_1_0 (25, 27) (List.mem_of_getElem? (i := 10) rfl))
theorem dX0_start_26 : decode cX0_start 26 = .ok (.putfield 42, 3) := dk181 0 42 (BX0_start_3_0 (26, 181, 0, 42) (List.mem_of_getElem? (i := 5) rfl))
theorem dX0_start_29 : decode cX0_start 29 = .ok (.aload_n 0, 1) := dk42 (BX0_start_1_0 (29, 42) (List.mem_of_getElem? (i := 11) rfl))
theorem dX0_start_30 : decode cX0_start 30 = .ok (.iload_n 2, 1) := dk28 (BX0_start_1_1 (30, 28) (List.mem_of_getElem? (i := 0) rfl))
theorem dX0_start_31 : decode cX0_start 31 = .ok (.iload_n 3, 1) := dk29 (BX0_start_1_1 (31, 29) (List.mem_of_getElem? (i := 1) rfl))
theorem dX0_start_32 : decode cX0_start 32 = .ok (.iconst 0, 1) := dk3 (BX0_start_1_1 (32, 3) (List.mem_of_getElem? (i := 2) rfl))
theorem dX0_start_33 : decode cX0_start 33 = .ok (.invokevirtual 45, 3) := dk182 0 45 (BX0_start_3_0 (33, 182, 0, 45) (List.mem_of_getElem? (i := 6) rfl))
theorem dX0_start_36 : decode cX0_start 36 = .ok (.ireturn, 1) := dk172 (BX0_start_1_1 (36, 172) (List.mem_of_getElem? (i := 3) rfl))
set_option maxRecDepth 20000 in
theorem ggX0_own_X0_from : GoodIn wsX0_own wsX0_from := goodIn_r _ [7, 8, 9, 10, 11, 12, 13, 14, 6, 0, 1, 2, 3, 4, 5, 15, 16, 17, 18, 19, 20, 21, 22, 23] rfl (by decide +kernel)
set_option maxRecDepth 20000 in
theorem gX0_own_X0_from : GoodIn wsX0_own (wsV RX0 49 RX0 yX0_from wsX0_from) := goodIn_app (goodIn_r _ [3, 4, 5, 6] rfl (by decide +kernel)) ggX0_own_X0_from
set_option maxRecDepth 20000 in
theorem SX0_own : ∀ p : Nat, gb cX0_own p = segF [[42, 42, 180, 0, 9, 42, 180, 0, 42, 46, 27, 28, 29, 182, 0, 49, 172]] p := seg_gb (S := [[42, 42, 180, 0, 9, 42, 180, 0, 42, 46, 27, 28, 29, 182, 0, 49, 172]]) (by decide +kernel) (by decide +kernel)
set_option maxRecDepth 20000 in
theorem BX0_own_1_0 : ∀ q ∈ ([(0, 42), (1, 42), (5, 42), (9, 46), (10, 27), (11, 28), (12, 29), (16, 172)] : List (Nat × Nat)), gb cX0_own q.1 = some q.2 := seg_1 SX0_own _ (by decide +kernel)
set_option maxRecDepth 20000 in
theorem BX0_own_3_0 : ∀ q ∈ ([(2, 180, 0, 9), (6, 180, 0, 42), (13, 182, 0, 49)] : List (Nat × Nat × Nat × Nat)), gb cX0_own q.1 = some q.2.1 ∧ gb cX0_own (q.1 + 1) = some q.2.2.1 ∧ gb cX0_own (q.1 + 2) = some q.2.2.2 := seg_3 SX0_own _ (by decide +kernel)
theorem dX0_own_0 : decode cX0_own 0 = .ok (.aload_n 0, 1) := dk42 (BX0_own_1_0 (0, 42) (List.mem_of_getElem? (i := 0) rfl))
theorem dX0_own_1 : decode cX0_own 1 = .ok (.aload_n 0, 1) := dk42 (BX0_own_1_0 (1, 42) (List.mem_of_getElem? (i := 1) rfl))
theorem dX0_own_2 : decode cX0_own 2 = .ok (.getfield 9, 3) := dk180 0 9 (BX0_own_3_0 (2, 180, 0, 9) (List.mem_of_getElem? (i := 0) rfl))
theorem dX0_own_5 : decode cX0_own 5 = .ok (.aload_n 0, 1) := dk42 (BX0_own_1_0 (5, 42) (List.mem_of_getElem? (i := 2) rfl))
theorem dX0_own_6 : decode cX0_own 6 = .ok (.getfield 42, 3) := dk180 0 42 (BX0_own_3_0 (6, 180, 0, 42) (List.mem_of_getElem? (i := 1) rfl))
theorem dX0_own_9 : decode cX0_own 9 = .ok (.iaload, 1) := dk46 (BX0_own_1_0 (9, 46) (List.mem_of_getElem? (i := 3) rfl))
theorem dX0_own_10 : decode cX0_own 10 = .ok (.iload_n 1, 1) := dk27 (BX0_own_1_0 (10, 27) (List.mem_of_getElem? (i := 4) rfl))
theorem dX0_own_11 : decode cX0_own 11 = .ok (.iload_n 2, 1) := dk28 (BX0_own_1_0 (11, 28) (List.mem_of_getElem? (i := 5) rfl))
theorem dX0_own_12 : decode cX0_own 12 = .ok (.iload_n 3, 1) := dk29 (BX0_own_1_0 (12, 29) (List.mem_of_getElem? (i := 6) rfl))
theorem dX0_own_13 : decode cX0_own 13 = .ok (.invokevirtual 49, 3) := dk182 0 49 (BX0_own_3_0 (13, 182, 0, 49) (List.mem_of_getElem? (i := 2) rfl))
theorem dX0_own_16 : decode cX0_own 16 = .ok (.ireturn, 1) := dk172 (BX0_own_1_0 (16, 172) (List.mem_of_getElem? (i := 7) rfl))
set_option maxRecDepth 20000 in
theorem ggX0_from_X0_run : GoodIn wsX0_from wsX0_run := goodIn_r _ [15, 11, 16, 17, 18, 8, 12, 13, 14, 0, 1, 2, 3, 4, 5, 6, 7, 9, 10, 19, 20, 21, 22, 23] rfl (by decide +kernel)
set_option maxRecDepth 20000 in
theorem gX0_from_X0_run : GoodIn wsX0_from (wsV RX0 56 RX0 yX0_run wsX0_run) := goodIn_app (goodIn_r _ [5, 6, 7, 8] rfl (by decide +kernel)) ggX0_from_X0_run
set_option maxRecDepth 20000 in
theorem SX0_from : ∀ p : Nat, gb cX0_from p = segF [[27, 54, 5, 3, 54, 6, 21, 6, 16, 8, 162, 0, 35, 21, 5, 155, 0, 30, 178, 0, 53, 7, 21, 5, 104, 28, 96, 46, 154, 0, 17, 178, 0, 35, 21, 5, 46, 54, 5, 132, 6, 1, 167, 255, 220, 21, 5, 155, 0, 10, 21, 4, 16, 24, 164, 0, 5, 3, 172, 178, 0, 53, 7, 21], [5, 104, 28, 96, 46, 54, 6, 42, 180, 0, 26, 42, 180, 0, 15, 190, 162, 0, 14, 42, 180, 0, 15, 42, 180, 0, 26, 21, 6, 79, 42, 89, 180, 0, 26, 4, 96, 181, 0, 26, 42, 21, 6, 178, 0, 35, 21, 5, 46, 29, 21, 4, 4, 96, 182, 0, 56, 172]] p := seg_gb (S := [[27, 54, 5, 3, 54, 6, 21, 6, 16, 8, 162, 0, 35, 21, 5, 155, 0, 30, 178, 0, 53, 7, 21, 5, 104, 28, 96, 46, 154, 0, 17, 178, 0, 35, 21, 5, 46, 54, 5, 132, 6, 1, 167, 255, 220, 21, 5, 155, 0, 10, 21, 4, 16, 24, 164, 0, 5, 3, 172, 178, 0, 53, 7, 21], [5, 104, 28, 96, 46, 54, 6, 42, 180, 0, 26, 42, 180, 0, 15, 190, 162, 0, 14, 42, 180, 0, 15, 42, 180, 0, 26, 21, 6, 79, 42, 89, 180, 0, 26, 4, 96, 181, 0, 26, 42, 21, 6, 178, 0, 35, 21, 5, 46, 29, 21, 4, 4, 96, 182, 0, 56, 172]]) (by decide +kernel) (by decide +kernel)
set_option maxRecDepth 20000 in
theorem BX0_from_1_0 : ∀ q ∈ ([(0, 27), (3, 3), (21, 7), (24, 104), (25, 28), (26, 96), (27, 46), (36, 46), (57, 3), (58, 172), (62, 7), (65, 104)] : List (Nat × Nat)), gb cX0_from q.1 = some q.2 := seg_1 SX0_from _ (by decide +kernel)
set_option maxRecDepth 20000 in
theorem BX0_from_1_1 : ∀ q ∈ ([(66, 28), (67, 96), (68, 46), (71, 42), (75, 42), (79, 190), (83, 42), (87, 42), (93, 79), (94, 42), (95, 89), (99, 4)] : List (Nat × Nat)), gb cX0_from q.1 = some q.2 := seg_1 SX0_from _ (by decide +kernel)
set_option maxRecDepth 20000 in
theorem BX0_from_1_2 : ∀ q ∈ ([(100, 96), (104, 42), (112, 46), (113, 29), (116, 4), (117, 96), (121, 172)] : List (Nat × Nat)), gb cX0_from q.1 = some q.2 := seg_1 SX0_from _ (by decide +kernel)
set_option maxRecDepth 20000 in
theorem BX0_from_2_0 : ∀ q ∈ ([(1, 54, 5), (4, 54, 6), (6, 21, 6), (8, 16, 8), (13, 21, 5), (22, 21, 5), (34, 21, 5), (37, 54, 5), (45, 21, 5), (50, 21, 4), (52, 16, 24), (63, 21, 5)] : List (Nat × Nat × Nat)), gb cX0_from q.1 = some q.2.1 ∧ gb cX0_from (q.1 + 1) = some q.2.2 := seg_2 SX0_from _ (by decide +kernel)
set_option maxRecDepth 20000 in
theorem BX0_from_2_1 : ∀ q ∈ ([(69, 54, 6), (91, 21, 6), (105, 21, 6), (110, 21, 5), (114, 21, 4)] : List (Nat × Nat × Nat)), gb cX0_from q.1 = some q.2.1 ∧ gb cX0_from (q.1 + 1) = some q.2.2 := seg_2 SX0_from _ (by decide +kernel)
set_option maxRecDepth 20000 in
theorem BX0_from_3_0 : ∀ q ∈ ([(10, 162, 0, 35), (15, 155, 0, 30), (18, 178, 0, 53), (28, 154, 0, 17), (31, 178, 0, 35), (39, 132, 6, 1), (42, 167, 255, 220), (47, 155, 0, 10), (54, 164, 0, 5), (59, 178, 0, 53), (72, 180, 0, 26), (76, 180, 0, 15)] : List (Nat × Nat × Nat × Nat)), gb cX0_from q.1 = some q.2.1 ∧ gb cX0_from (q.1 + 1) = some q.2.2.1 ∧ gb cX0_from (q.1 + 2) = some q.2.2.2 := seg_3 SX0_from _ (by decide +kernel)
set_option maxRecDepth 20000 in
theorem BX0_from_3_1 : ∀ q ∈ ([(80, 162, 0, 14), (84, 180, 0, 15), (88, 180, 0, 26), (96, 180, 0, 26), (101, 181, 0, 26), (107, 178, 0, 35), (118, 182, 0, 56)] : List (Nat × Nat × Nat × Nat)), gb cX0_from q.1 = some q.2.1 ∧ gb cX0_from (q.1 + 1) = some q.2.2.1 ∧ gb cX0_from (q.1 + 2) = some q.2.2.2 := seg_3 SX0_from _ (by decide +kernel)
theorem dX0_from_0 : decode cX0_from 0 = .ok (.iload_n 1, 1) := dk27 (BX0_from_1_0 (0, 27) (List.mem_of_getElem? (i := 0) rfl))
theorem dX0_from_1 : decode cX0_from 1 = .ok (.istore 5, 2) := dk54 5 (BX0_from_2_0 (1, 54, 5) (List.mem_of_getElem? (i := 0) rfl))
theorem dX0_from_3 : decode cX0_from 3 = .ok (.iconst 0, 1) := dk3 (BX0_from_1_0 (3, 3) (List.mem_of_getElem? (i := 1) rfl))
theorem dX0_from_4 : decode cX0_from 4 = .ok (.istore 6, 2) := dk54 6 (BX0_from_2_0 (4, 54, 6) (List.mem_of_getElem? (i := 1) rfl))
theorem dX0_from_6 : decode cX0_from 6 = .ok (.iload 6, 2) := dk21 6 (BX0_from_2_0 (6, 21, 6) (List.mem_of_getElem? (i := 2) rfl))
theorem dX0_from_8 : decode cX0_from 8 = .ok (.bipush 8, 2) := dk16 8 (BX0_from_2_0 (8, 16, 8) (List.mem_of_getElem? (i := 3) rfl))
theorem dX0_from_10 : decode cX0_from 10 = .ok (.if_icmp .ge 35, 3) := dk162 0 35 (BX0_from_3_0 (10, 162, 0, 35) (List.mem_of_getElem? (i := 0) rfl))
theorem dX0_from_13 : decode cX0_from 13 = .ok (.iload 5, 2) := dk21 5 (BX0_from_2_0 (13, 21, 5) (List.mem_of_getElem? (i := 4) rfl))
theorem dX0_from_15 : decode cX0_from 15 = .ok (.ifCond .lt 30, 3) := dk155 0 30 (BX0_from_3_0 (15, 155, 0, 30) (List.mem_of_getElem? (i := 1) rfl))
theorem dX0_from_18 : decode cX0_from 18 = .ok (.getstatic 53, 3) := dk178 0 53 (BX0_from_3_0 (18, 178, 0, 53) (List.mem_of_getElem? (i := 2) rfl))
theorem dX0_from_21 : decode cX0_from 21 = .ok (.iconst 4, 1) := dk7 (BX0_from_1_0 (21, 7) (List.mem_of_getElem? (i := 2) rfl))
theorem dX0_from_22 : decode cX0_from 22 = .ok (.iload 5, 2) := dk21 5 (BX0_from_2_0 (22, 21, 5) (List.mem_of_getElem? (i := 5) rfl))
theorem dX0_from_24 : decode cX0_from 24 = .ok (.imul, 1) := dk104 (BX0_from_1_0 (24, 104) (List.mem_of_getElem? (i := 3) rfl))
theorem dX0_from_25 : decode cX0_from 25 = .ok (.iload_n 2, 1) := dk28 (BX0_from_1_0 (25, 28) (List.mem_of_getElem? (i := 4) rfl))
theorem dX0_from_26 : decode cX0_from 26 = .ok (.iadd, 1) := dk96 (BX0_from_1_0 (26, 96) (List.mem_of_getElem? (i := 5) rfl))
theorem dX0_from_27 : decode cX0_from 27 = .ok (.iaload, 1) := dk46 (BX0_from_1_0 (27, 46) (List.mem_of_getElem? (i := 6) rfl))
theorem dX0_from_28 : decode cX0_from 28 = .ok (.ifCond .ne 17, 3) := dk154 0 17 (BX0_from_3_0 (28, 154, 0, 17) (List.mem_of_getElem? (i := 3) rfl))
theorem dX0_from_31 : decode cX0_from 31 = .ok (.getstatic 35, 3) := dk178 0 35 (BX0_from_3_0 (31, 178, 0, 35) (List.mem_of_getElem? (i := 4) rfl))
theorem dX0_from_34 : decode cX0_from 34 = .ok (.iload 5, 2) := dk21 5 (BX0_from_2_0 (34, 21, 5) (List.mem_of_getElem? (i := 6) rfl))
theorem dX0_from_36 : decode cX0_from 36 = .ok (.iaload, 1) := dk46 (BX0_from_1_0 (36, 46) (List.mem_of_getElem? (i := 7) rfl))
theorem dX0_from_37 : decode cX0_from 37 = .ok (.istore 5, 2) := dk54 5 (BX0_from_2_0 (37, 54, 5) (List.mem_of_getElem? (i := 7) rfl))
theorem dX0_from_39 : decode cX0_from 39 = .ok (.iinc 6 1, 3) := dk132 6 1 (BX0_from_3_0 (39, 132, 6, 1) (List.mem_of_getElem? (i := 5) rfl))
theorem dX0_from_42 : decode cX0_from 42 = .ok (.goto (-36), 3) := dk167 255 220 (BX0_from_3_0 (42, 167, 255, 220) (List.mem_of_getElem? (i := 6) rfl))
theorem dX0_from_45 : decode cX0_from 45 = .ok (.iload 5, 2) := dk21 5 (BX0_from_2_0 (45, 21, 5) (List.mem_of_getElem? (i := 8) rfl))
theorem dX0_from_47 : decode cX0_from 47 = .ok (.ifCond .lt 10, 3) := dk155 0 10 (BX0_from_3_0 (47, 155, 0, 10) (List.mem_of_getElem? (i := 7) rfl))
theorem dX0_from_50 : decode cX0_from 50 = .ok (.iload 4, 2) := dk21 4 (BX0_from_2_0 (50, 21, 4) (List.mem_of_getElem? (i := 9) rfl))
theorem dX0_from_52 : decode cX0_from 52 = .ok (.bipush 24, 2) := dk16 24 (BX0_from_2_0 (52, 16, 24) (List.mem_of_getElem? (i := 10) rfl))
theorem dX0_from_54 : decode cX0_from 54 = .ok (.if_icmp .le 5, 3) := dk164 0 5 (BX0_from_3_0 (54, 164, 0, 5) (List.mem_of_getElem? (i := 8) rfl))
theorem dX0_from_57 : decode cX0_from 57 = .ok (.iconst 0, 1) := dk3 (BX0_from_1_0 (57, 3) (List.mem_of_getElem? (i := 8) rfl))
theorem dX0_from_58 : decode cX0_from 58 = .ok (.ireturn, 1) := dk172 (BX0_from_1_0 (58, 172) (List.mem_of_getElem? (i := 9) rfl))
theorem dX0_from_59 : decode cX0_from 59 = .ok (.getstatic 53, 3) := dk178 0 53 (BX0_from_3_0 (59, 178, 0, 53) (List.mem_of_getElem? (i := 9) rfl))
theorem dX0_from_62 : decode cX0_from 62 = .ok (.iconst 4, 1) := dk7 (BX0_from_1_0 (62, 7) (List.mem_of_getElem? (i := 10) rfl))
theorem dX0_from_63 : decode cX0_from 63 = .ok (.iload 5, 2) := dk21 5 (BX0_from_2_0 (63, 21, 5) (List.mem_of_getElem? (i := 11) rfl))
theorem dX0_from_65 : decode cX0_from 65 = .ok (.imul, 1) := dk104 (BX0_from_1_0 (65, 104) (List.mem_of_getElem? (i := 11) rfl))
theorem dX0_from_66 : decode cX0_from 66 = .ok (.iload_n 2, 1) := dk28 (BX0_from_1_1 (66, 28) (List.mem_of_getElem? (i := 0) rfl))
theorem dX0_from_67 : decode cX0_from 67 = .ok (.iadd, 1) := dk96 (BX0_from_1_1 (67, 96) (List.mem_of_getElem? (i := 1) rfl))
theorem dX0_from_68 : decode cX0_from 68 = .ok (.iaload, 1) := dk46 (BX0_from_1_1 (68, 46) (List.mem_of_getElem? (i := 2) rfl))
theorem dX0_from_69 : decode cX0_from 69 = .ok (.istore 6, 2) := dk54 6 (BX0_from_2_1 (69, 54, 6) (List.mem_of_getElem? (i := 0) rfl))
theorem dX0_from_71 : decode cX0_from 71 = .ok (.aload_n 0, 1) := dk42 (BX0_from_1_1 (71, 42) (List.mem_of_getElem? (i := 3) rfl))
theorem dX0_from_72 : decode cX0_from 72 = .ok (.getfield 26, 3) := dk180 0 26 (BX0_from_3_0 (72, 180, 0, 26) (List.mem_of_getElem? (i := 10) rfl))
theorem dX0_from_75 : decode cX0_from 75 = .ok (.aload_n 0, 1) := dk42 (BX0_from_1_1 (75, 42) (List.mem_of_getElem? (i := 4) rfl))
theorem dX0_from_76 : decode cX0_from 76 = .ok (.getfield 15, 3) := dk180 0 15 (BX0_from_3_0 (76, 180, 0, 15) (List.mem_of_getElem? (i := 11) rfl))
theorem dX0_from_79 : decode cX0_from 79 = .ok (.arraylength, 1) := dk190 (BX0_from_1_1 (79, 190) (List.mem_of_getElem? (i := 5) rfl))
theorem dX0_from_80 : decode cX0_from 80 = .ok (.if_icmp .ge 14, 3) := dk162 0 14 (BX0_from_3_1 (80, 162, 0, 14) (List.mem_of_getElem? (i := 0) rfl))
theorem dX0_from_83 : decode cX0_from 83 = .ok (.aload_n 0, 1) := dk42 (BX0_from_1_1 (83, 42) (List.mem_of_getElem? (i := 6) rfl))
theorem dX0_from_84 : decode cX0_from 84 = .ok (.getfield 15, 3) := dk180 0 15 (BX0_from_3_1 (84, 180, 0, 15) (List.mem_of_getElem? (i := 1) rfl))
theorem dX0_from_87 : decode cX0_from 87 = .ok (.aload_n 0, 1) := dk42 (BX0_from_1_1 (87, 42) (List.mem_of_getElem? (i := 7) rfl))
theorem dX0_from_88 : decode cX0_from 88 = .ok (.getfield 26, 3) := dk180 0 26 (BX0_from_3_1 (88, 180, 0, 26) (List.mem_of_getElem? (i := 2) rfl))
theorem dX0_from_91 : decode cX0_from 91 = .ok (.iload 6, 2) := dk21 6 (BX0_from_2_1 (91, 21, 6) (List.mem_of_getElem? (i := 1) rfl))
theorem dX0_from_93 : decode cX0_from 93 = .ok (.iastore, 1) := dk79 (BX0_from_1_1 (93, 79) (List.mem_of_getElem? (i := 8) rfl))
theorem dX0_from_94 : decode cX0_from 94 = .ok (.aload_n 0, 1) := dk42 (BX0_from_1_1 (94, 42) (List.mem_of_getElem? (i := 9) rfl))
theorem dX0_from_95 : decode cX0_from 95 = .ok (.dup, 1) := dk89 (BX0_from_1_1 (95, 89) (List.mem_of_getElem? (i := 10) rfl))
theorem dX0_from_96 : decode cX0_from 96 = .ok (.getfield 26, 3) := dk180 0 26 (BX0_from_3_1 (96, 180, 0, 26) (List.mem_of_getElem? (i := 3) rfl))
theorem dX0_from_99 : decode cX0_from 99 = .ok (.iconst 1, 1) := dk4 (BX0_from_1_1 (99, 4) (List.mem_of_getElem? (i := 11) rfl))
theorem dX0_from_100 : decode cX0_from 100 = .ok (.iadd, 1) := dk96 (BX0_from_1_2 (100, 96) (List.mem_of_getElem? (i := 0) rfl))
theorem dX0_from_101 : decode cX0_from 101 = .ok (.putfield 26, 3) := dk181 0 26 (BX0_from_3_1 (101, 181, 0, 26) (List.mem_of_getElem? (i := 4) rfl))
theorem dX0_from_104 : decode cX0_from 104 = .ok (.aload_n 0, 1) := dk42 (BX0_from_1_2 (104, 42) (List.mem_of_getElem? (i := 1) rfl))
theorem dX0_from_105 : decode cX0_from 105 = .ok (.iload 6, 2) := dk21 6 (BX0_from_2_1 (105, 21, 6) (List.mem_of_getElem? (i := 2) rfl))
theorem dX0_from_107 : decode cX0_from 107 = .ok (.getstatic 35, 3) := dk178 0 35 (BX0_from_3_1 (107, 178, 0, 35) (List.mem_of_getElem? (i := 5) rfl))
theorem dX0_from_110 : decode cX0_from 110 = .ok (.iload 5, 2) := dk21 5 (BX0_from_2_1 (110, 21, 5) (List.mem_of_getElem? (i := 3) rfl))
theorem dX0_from_112 : decode cX0_from 112 = .ok (.iaload, 1) := dk46 (BX0_from_1_2 (112, 46) (List.mem_of_getElem? (i := 2) rfl))
theorem dX0_from_113 : decode cX0_from 113 = .ok (.iload_n 3, 1) := dk29 (BX0_from_1_2 (113, 29) (List.mem_of_getElem? (i := 3) rfl))
theorem dX0_from_114 : decode cX0_from 114 = .ok (.iload 4, 2) := dk21 4 (BX0_from_2_1 (114, 21, 4) (List.mem_of_getElem? (i := 4) rfl))
theorem dX0_from_116 : decode cX0_from 116 = .ok (.iconst 1, 1) := dk4 (BX0_from_1_2 (116, 4) (List.mem_of_getElem? (i := 4) rfl))
theorem dX0_from_117 : decode cX0_from 117 = .ok (.iadd, 1) := dk96 (BX0_from_1_2 (117, 96) (List.mem_of_getElem? (i := 5) rfl))
theorem dX0_from_118 : decode cX0_from 118 = .ok (.invokevirtual 56, 3) := dk182 0 56 (BX0_from_3_1 (118, 182, 0, 56) (List.mem_of_getElem? (i := 6) rfl))
theorem dX0_from_121 : decode cX0_from 121 = .ok (.ireturn, 1) := dk172 (BX0_from_1_2 (121, 172) (List.mem_of_getElem? (i := 6) rfl))
set_option maxRecDepth 20000 in
theorem ggX0_run_X0_own : GoodIn wsX0_run wsX0_own := goodIn_r _ [17, 18, 1, 6, 7, 8, 5, 9, 10, 11, 12, 13, 14, 15, 16, 0, 2, 3, 4, 19, 20, 21, 22, 23] rfl (by decide +kernel)
set_option maxRecDepth 20000 in
theorem gX0_run_X0_own : GoodIn wsX0_run (wsV RX0 45 RX0 yX0_own wsX0_own) := goodIn_app (goodIn_r _ [2, 3, 4, 5] rfl (by decide +kernel)) ggX0_run_X0_own
set_option maxRecDepth 20000 in
theorem ggX0_run_X0_from : GoodIn wsX0_run wsX0_from := goodIn_r _ [9, 10, 11, 12, 13, 14, 15, 16, 5, 17, 18, 1, 6, 7, 8, 0, 2, 3, 4, 19, 20, 21, 22, 23] rfl (by decide +kernel)
set_option maxRecDepth 20000 in
theorem gX0_run_X0_from : GoodIn wsX0_run (wsV RX0 49 RX0 yX0_from wsX0_from) := goodIn_app (goodIn_r _ [6, 7, 8, 5] rfl (by decide +kernel)) ggX0_run_X0_from
set_option maxRecDepth 20000 in
theorem SX0_run : ∀ p : Nat, gb cX0_run p = segF [[27, 171, 0, 0, 0, 0, 1, 23, 0, 0, 0, 13, 0, 0, 0, 1, 0, 0, 0, 115, 0, 0, 0, 2, 0, 0, 0, 122, 0, 0, 0, 10, 0, 0, 0, 140, 0, 0, 0, 11, 0, 0, 0, 151, 0, 0, 0, 20, 0, 0, 0, 158, 0, 0, 0, 30, 0, 0, 0, 170, 0, 0, 0, 40], [0, 0, 0, 181, 0, 0, 0, 50, 0, 0, 0, 193, 0, 0, 0, 51, 0, 0, 0, 205, 0, 0, 0, 60, 0, 0, 0, 217, 0, 0, 0, 70, 0, 0, 0, 236, 0, 0, 0, 80, 0, 0, 0, 248, 0, 0, 0, 81, 0, 0, 1, 11, 29, 42, 180, 0, 42, 96, 172, 42, 4, 29, 21, 4], [182, 0, 45, 42, 5, 4, 21, 4, 182, 0, 45, 100, 172, 42, 3, 29, 21, 4, 182, 0, 45, 5, 104, 172, 29, 42, 180, 0, 42, 130, 172, 42, 28, 3, 29, 21, 4, 182, 0, 49, 6, 96, 172, 42, 28, 4, 29, 21, 4, 182, 0, 49, 116, 172, 42, 28, 5, 29, 21, 4, 182, 0, 49, 6], [104, 172, 42, 28, 6, 29, 21, 4, 182, 0, 49, 8, 130, 172, 42, 28, 4, 29, 4, 96, 21, 4, 182, 0, 49, 172, 42, 28, 5, 29, 21, 4, 182, 0, 49, 42, 3, 5, 21, 4, 182, 0, 45, 100, 172, 42, 28, 3, 29, 21, 4, 182, 0, 49, 5, 104, 172, 42, 28, 4, 29, 21, 4, 182], [0, 49, 42, 5, 5, 21, 4, 182, 0, 45, 96, 172, 42, 28, 6, 29, 21, 4, 182, 0, 49, 4, 100, 172, 3, 172]] p := seg_gb (S := [[27, 171, 0, 0, 0, 0, 1, 23, 0, 0, 0, 13, 0, 0, 0, 1, 0, 0, 0, 115, 0, 0, 0, 2, 0, 0, 0, 122, 0, 0, 0, 10, 0, 0, 0, 140, 0, 0, 0, 11, 0, 0, 0, 151, 0, 0, 0, 20, 0, 0, 0, 158, 0, 0, 0, 30, 0, 0, 0, 170, 0, 0, 0, 40], [0, 0, 0, 181, 0, 0, 0, 50, 0, 0, 0, 193, 0, 0, 0, 51, 0, 0, 0, 205, 0, 0, 0, 60, 0, 0, 0, 217, 0, 0, 0, 70, 0, 0, 0, 236, 0, 0, 0, 80, 0, 0, 0, 248, 0, 0, 0, 81, 0, 0, 1, 11, 29, 42, 180, 0, 42, 96, 172, 42, 4, 29, 21, 4], [182, 0, 45, 42, 5, 4, 21, 4, 182, 0, 45, 100, 172, 42, 3, 29, 21, 4, 182, 0, 45, 5, 104, 172, 29, 42, 180, 0, 42, 130, 172, 42, 28, 3, 29, 21, 4, 182, 0, 49, 6, 96, 172, 42, 28, 4, 29, 21, 4, 182, 0, 49, 116, 172, 42, 28, 5, 29, 21, 4, 182, 0, 49, 6], [104, 172, 42, 28, 6, 29, 21, 4, 182, 0, 49, 8, 130, 172, 42, 28, 4, 29, 4, 96, 21, 4, 182, 0, 49, 172, 42, 28, 5, 29, 21, 4, 182, 0, 49, 42, 3, 5, 21, 4, 182, 0, 45, 100, 172, 42, 28, 3, 29, 21, 4, 182, 0, 49, 5, 104, 172, 42, 28, 4, 29, 21, 4, 182], [0, 49, 42, 5, 5, 21, 4, 182, 0, 45, 96, 172, 42, 28, 6, 29, 21, 4, 182, 0, 49, 4, 100, 172, 3, 172]]) (by decide +kernel) (by decide +kernel)
set_option maxRecDepth 20000 in
theorem BX0_run_1_0 : ∀ q ∈ ([(0, 27), (116, 29), (117, 42), (121, 96), (122, 172), (123, 42), (124, 4), (125, 29), (131, 42), (132, 5), (133, 4), (139, 100)] : List (Nat × Nat)), gb cX0_run q.1 = some q.2 := seg_1 SX0_run _ (by decide +kernel)
set_option maxRecDepth 20000 in
theorem BX0_run_1_1 : ∀ q ∈ ([(140, 172), (141, 42), (142, 3), (143, 29), (149, 5), (150, 104), (151, 172), (152, 29), (153, 42), (157, 130), (158, 172), (159, 42)] : List (Nat × Nat)), gb cX0_run q.1 = some q.2 := seg_1 SX0_run _ (by decide +kernel)
set_option maxRecDepth 20000 in
theorem BX0_run_1_2 : ∀ q ∈ ([(160, 28), (161, 3), (162, 29), (168, 6), (169, 96), (170, 172), (171, 42), (172, 28), (173, 4), (174, 29), (180, 116), (181, 172)] : List (Nat × Nat)), gb cX0_run q.1 = some q.2 := seg_1 SX0_run _ (by decide +kernel)
set_option maxRecDepth 20000 in
theorem BX0_run_1_3 : ∀ q ∈ ([(182, 42), (183, 28), (184, 5), (185, 29), (191, 6), (192, 104), (193, 172), (194, 42), (195, 28), (196, 6), (197, 29), (203, 8)] : List (Nat × Nat)), gb cX0_run q.1 = some q.2 := seg_1 SX0_run _ (by decide +kernel)
set_option maxRecDepth 20000 in
theorem BX0_run_1_4 : ∀ q ∈ ([(204, 130), (205, 172), (206, 42), (207, 28), (208, 4), (209, 29), (210, 4), (211, 96), (217, 172), (218, 42), (219, 28), (220, 5)] : List (Nat × Nat)), gb cX0_run q.1 = some q.2 := seg_1 SX0_run _ (by decide +kernel)
set_option maxRecDepth 20000 in
theorem BX0_run_1_5 : ∀ q ∈ ([(221, 29), (227, 42), (228, 3), (229, 5), (235, 100), (236, 172), (237, 42), (238, 28), (239, 3), (240, 29), (246, 5), (247, 104)] : List (Nat × Nat)), gb cX0_run q.1 = some q.2 := seg_1 SX0_run _ (by decide +kernel)
set_option maxRecDepth 20000 in
theorem BX0_run_1_6 : ∀ q ∈ ([(248, 172), (249, 42), (250, 28), (251, 4), (252, 29), (258, 42), (259, 5), (260, 5), (266, 96), (267, 172), (268, 42), (269, 28)] : List (Nat × Nat)), gb cX0_run q.1 = some q.2 := seg_1 SX0_run _ (by decide +kernel)
set_option maxRecDepth 20000 in
theorem BX0_run_1_7 : ∀ q ∈ ([(270, 6), (271, 29), (277, 4), (278, 100), (279, 172), (280, 3), (281, 172)] : List (Nat × Nat)), gb cX0_run q.1 = some q.2 := seg_1 SX0_run _ (by decide +kernel)
set_option maxRecDepth 20000 in
theorem BX0_run_2_0 : ∀ q ∈ ([(126, 21, 4), (134, 21, 4), (144, 21, 4), (163, 21, 4), (175, 21, 4), (186, 21, 4), (198, 21, 4), (212, 21, 4), (222, 21, 4), (230, 21, 4), (241, 21, 4), (253, 21, 4)] : List (Nat × Nat × Nat)), gb cX0_run q.1 = some q.2.1 ∧ gb cX0_run (q.1 + 1) = some q.2.2 := seg_2 SX0_run _ (by decide +kernel)
set_option maxRecDepth 20000 in
theorem BX0_run_2_1 : ∀ q ∈ ([(261, 21, 4), (272, 21, 4)] : List (Nat × Nat × Nat)), gb cX0_run q.1 = some q.2.1 ∧ gb cX0_run (q.1 + 1) = some q.2.2 := seg_2 SX0_run _ (by decide +kernel)
set_option maxRecDepth 20000 in
theorem BX0_run_3_0 : ∀ q ∈ ([(118, 180, 0, 42), (128, 182, 0, 45), (136, 182, 0, 45), (146, 182, 0, 45), (154, 180, 0, 42), (165, 182, 0, 49), (177, 182, 0, 49), (188, 182, 0, 49), (200, 182, 0, 49), (214, 182, 0, 49), (224, 182, 0, 49), (232, 182, 0, 45)] : List (Nat × Nat × Nat × Nat)), gb cX0_run q.1 = some q.2.1 ∧ gb cX0_run (q.1 + 1) = some q.2.2.1 ∧ gb cX0_run (q.1 + 2) = some q.2.2.2 := seg_3 SX0_run _ (by decide +kernel)
set_option maxRecDepth 20000 in
theorem BX0_run_3_1 : ∀ q ∈ ([(243, 182, 0, 49), (255, 182, 0, 49), (263, 182, 0, 45), (274, 182, 0, 49)] : List (Nat × Nat × Nat × Nat)), gb cX0_run q.1 = some q.2.1 ∧ gb cX0_run (q.1 + 1) = some q.2.2.1 ∧ gb cX0_run (q.1 + 2) = some q.2.2.2 := seg_3 SX0_run _ (by decide +kernel)
theorem dX0_run_0 : decode cX0_run 0 = .ok (.iload_n 1, 1) := dk27 (BX0_run_1_0 (0, 27) (List.mem_of_getElem? (i := 0) rfl))
theorem dX0_run_1 : decode cX0_run 1 = .ok (.lookupswitch 279 #[(1, 115), (2, 122), (10, 140), (11, 151), (20, 158), (30, 170), (40, 181), (50, 193), (51, 205), (60, 217), (70, 236), (80, 248), (81, 267)], 115) := by decide +kernel
theorem dX0_run_116 : decode cX0_run 116 = .ok (.iload_n 3, 1) := dk29 (BX0_run_1_0 (116, 29) (List.mem_of_getElem? (i := 1) rfl))
theorem dX0_run_117 : decode cX0_run 117 = .ok (.aload_n 0, 1) := dk42 (BX0_run_1_0 (117, 42) (List.mem_of_getElem? (i := 2) rfl))
theorem dX0_run_118 : decode cX0_run 118 = .ok (.getfield 42, 3) := dk180 0 42 (BX0_run_3_0 (118, 180, 0, 42) (List.mem_of_getElem? (i := 0) rfl))
theorem dX0_run_121 : decode cX0_run 121 = .ok (.iadd, 1) := dk96 (BX0_run_1_0 (121, 96) (List.mem_of_getElem? (i := 3) rfl))
theorem dX0_run_122 : decode cX0_run 122 = .ok (.ireturn, 1) := dk172 (BX0_run_1_0 (122, 172) (List.mem_of_getElem? (i := 4) rfl))
theorem dX0_run_123 : decode cX0_run 123 = .ok (.aload_n 0, 1) := dk42 (BX0_run_1_0 (123, 42) (List.mem_of_getElem? (i := 5) rfl))
theorem dX0_run_124 : decode cX0_run 124 = .ok (.iconst 1, 1) := dk4 (BX0_run_1_0 (124, 4) (List.mem_of_getElem? (i := 6) rfl))
theorem dX0_run_125 : decode cX0_run 125 = .ok (.iload_n 3, 1) := dk29 (BX0_run_1_0 (125, 29) (List.mem_of_getElem? (i := 7) rfl))
theorem dX0_run_126 : decode cX0_run 126 = .ok (.iload 4, 2) := dk21 4 (BX0_run_2_0 (126, 21, 4) (List.mem_of_getElem? (i := 0) rfl))
theorem dX0_run_128 : decode cX0_run 128 = .ok (.invokevirtual 45, 3) := dk182 0 45 (BX0_run_3_0 (128, 182, 0, 45) (List.mem_of_getElem? (i := 1) rfl))
theorem dX0_run_131 : decode cX0_run 131 = .ok (.aload_n 0, 1) := dk42 (BX0_run_1_0 (131, 42) (List.mem_of_getElem? (i := 8) rfl))
theorem dX0_run_132 : decode cX0_run 132 = .ok (.iconst 2, 1) := dk5 (BX0_run_1_0 (132, 5) (List.mem_of_getElem? (i := 9) rfl))
theorem dX0_run_133 : decode cX0_run 133 = .ok (.iconst 1, 1) := dk4 (BX0_run_1_0 (133, 4) (List.mem_of_getElem? (i := 10) rfl))
theorem dX0_run_134 : decode cX0_run 134 = .ok (.iload 4, 2) := dk21 4 (BX0_run_2_0 (134, 21, 4) (List.mem_of_getElem? (i := 1) rfl))
theorem dX0_run_136 : decode cX0_run 136 = .ok (.invokevirtual 45, 3) := dk182 0 45 (BX0_run_3_0 (136, 182, 0, 45) (List.mem_of_getElem? (i := 2) rfl))
theorem dX0_run_139 : decode cX0_run 139 = .ok (.isub, 1) := dk100 (BX0_run_1_0 (139, 100) (List.mem_of_getElem? (i := 11) rfl))
theorem dX0_run_140 : decode cX0_run 140 = .ok (.ireturn, 1) := dk172 (BX0_run_1_1 (140, 172) (List.mem_of_getElem? (i := 0) rfl))
theorem dX0_run_141 : decode cX0_run 141 = .ok (.aload_n 0, 1) := dk42 (BX0_run_1_1 (141, 42) (List.mem_of_getElem? (i := 1) rfl))
theorem dX0_run_142 : decode cX0_run 142 = .ok (.iconst 0, 1) := dk3 (BX0_run_1_1 (142, 3) (List.mem_of_getElem? (i := 2) rfl))
theorem dX0_run_143 : decode cX0_run 143 = .ok (.iload_n 3, 1) := dk29 (BX0_run_1_1 (143, 29) (List.mem_of_getElem? (i := 3) rfl))
theorem dX0_run_144 : decode cX0_run 144 = .ok (.iload 4, 2) := dk21 4 (BX0_run_2_0 (144, 21, 4) (List.mem_of_getElem? (i := 2) rfl))
theorem dX0_run_146 : decode cX0_run 146 = .ok (.invokevirtual 45, 3) := dk182 0 45 (BX0_run_3_0 (146, 182, 0, 45) (List.mem_of_getElem? (i := 3) rfl))
theorem dX0_run_149 : decode cX0_run 149 = .ok (.iconst 2, 1) := dk5 (BX0_run_1_1 (149, 5) (List.mem_of_getElem? (i := 4) rfl))
theorem dX0_run_150 : decode cX0_run 150 = .ok (.imul, 1) := dk104 (BX0_run_1_1 (150, 104) (List.mem_of_getElem? (i := 5) rfl))
theorem dX0_run_151 : decode cX0_run 151 = .ok (.ireturn, 1) := dk172 (BX0_run_1_1 (151, 172) (List.mem_of_getElem? (i := 6) rfl))
theorem dX0_run_152 : decode cX0_run 152 = .ok (.iload_n 3, 1) := dk29 (BX0_run_1_1 (152, 29) (List.mem_of_getElem? (i := 7) rfl))
theorem dX0_run_153 : decode cX0_run 153 = .ok (.aload_n 0, 1) := dk42 (BX0_run_1_1 (153, 42) (List.mem_of_getElem? (i := 8) rfl))
theorem dX0_run_154 : decode cX0_run 154 = .ok (.getfield 42, 3) := dk180 0 42 (BX0_run_3_0 (154, 180, 0, 42) (List.mem_of_getElem? (i := 4) rfl))
theorem dX0_run_157 : decode cX0_run 157 = .ok (.ixor, 1) := dk130 (BX0_run_1_1 (157, 130) (List.mem_of_getElem? (i := 9) rfl))
theorem dX0_run_158 : decode cX0_run 158 = .ok (.ireturn, 1) := dk172 (BX0_run_1_1 (158, 172) (List.mem_of_getElem? (i := 10) rfl))
theorem dX0_run_159 : decode cX0_run 159 = .ok (.aload_n 0, 1) := dk42 (BX0_run_1_1 (159, 42) (List.mem_of_getElem? (i := 11) rfl))
theorem dX0_run_160 : decode cX0_run 160 = .ok (.iload_n 2, 1) := dk28 (BX0_run_1_2 (160, 28) (List.mem_of_getElem? (i := 0) rfl))
theorem dX0_run_161 : decode cX0_run 161 = .ok (.iconst 0, 1) := dk3 (BX0_run_1_2 (161, 3) (List.mem_of_getElem? (i := 1) rfl))
theorem dX0_run_162 : decode cX0_run 162 = .ok (.iload_n 3, 1) := dk29 (BX0_run_1_2 (162, 29) (List.mem_of_getElem? (i := 2) rfl))
theorem dX0_run_163 : decode cX0_run 163 = .ok (.iload 4, 2) := dk21 4 (BX0_run_2_0 (163, 21, 4) (List.mem_of_getElem? (i := 3) rfl))
theorem dX0_run_165 : decode cX0_run 165 = .ok (.invokevirtual 49, 3) := dk182 0 49 (BX0_run_3_0 (165, 182, 0, 49) (List.mem_of_getElem? (i := 5) rfl))
theorem dX0_run_168 : decode cX0_run 168 = .ok (.iconst 3, 1) := dk6 (BX0_run_1_2 (168, 6) (List.mem_of_getElem? (i := 3) rfl))
theorem dX0_run_169 : decode cX0_run 169 = .ok (.iadd, 1) := dk96 (BX0_run_1_2 (169, 96) (List.mem_of_getElem? (i := 4) rfl))
theorem dX0_run_170 : decode cX0_run 170 = .ok (.ireturn, 1) := dk172 (BX0_run_1_2 (170, 172) (List.mem_of_getElem? (i := 5) rfl))
theorem dX0_run_171 : decode cX0_run 171 = .ok (.aload_n 0, 1) := dk42 (BX0_run_1_2 (171, 42) (List.mem_of_getElem? (i := 6) rfl))
theorem dX0_run_172 : decode cX0_run 172 = .ok (.iload_n 2, 1) := dk28 (BX0_run_1_2 (172, 28) (List.mem_of_getElem? (i := 7) rfl))
theorem dX0_run_173 : decode cX0_run 173 = .ok (.iconst 1, 1) := dk4 (BX0_run_1_2 (173, 4) (List.mem_of_getElem? (i := 8) rfl))
theorem dX0_run_174 : decode cX0_run 174 = .ok (.iload_n 3, 1) := dk29 (BX0_run_1_2 (174, 29) (List.mem_of_getElem? (i := 9) rfl))
theorem dX0_run_175 : decode cX0_run 175 = .ok (.iload 4, 2) := dk21 4 (BX0_run_2_0 (175, 21, 4) (List.mem_of_getElem? (i := 4) rfl))
theorem dX0_run_177 : decode cX0_run 177 = .ok (.invokevirtual 49, 3) := dk182 0 49 (BX0_run_3_0 (177, 182, 0, 49) (List.mem_of_getElem? (i := 6) rfl))
theorem dX0_run_180 : decode cX0_run 180 = .ok (.ineg, 1) := dk116 (BX0_run_1_2 (180, 116) (List.mem_of_getElem? (i := 10) rfl))
theorem dX0_run_181 : decode cX0_run 181 = .ok (.ireturn, 1) := dk172 (BX0_run_1_2 (181, 172) (List.mem_of_getElem? (i := 11) rfl))
theorem dX0_run_182 : decode cX0_run 182 = .ok (.aload_n 0, 1) := dk42 (BX0_run_1_3 (182, 42) (List.mem_of_getElem? (i := 0) rfl))
theorem dX0_run_183 : decode cX0_run 183 = .ok (.iload_n 2, 1) := dk28 (BX0_run_1_3 (183, 28) (List.mem_of_getElem? (i := 1) rfl))
theorem dX0_run_184 : decode cX0_run 184 = .ok (.iconst 2, 1) := dk5 (BX0_run_1_3 (184, 5) (List.mem_of_getElem? (i := 2) rfl))
theorem dX0_run_185 : decode cX0_run 185 = .ok (.iload_n 3, 1) := dk29 (BX0_run_1_3 (185, 29) (List.mem_of_getElem? (i := 3) rfl))
theorem dX0_run_186 : decode cX0_run 186 = .ok (.iload 4, 2) := dk21 4 (BX0_run_2_0 (186, 21, 4) (List.mem_of_getElem? (i := 5) rfl))
theorem dX0_run_188 : decode cX0_run 188 = .ok (.invokevirtual 49, 3) := dk182 0 49 (BX0_run_3_0 (188, 182, 0, 49) (List.mem_of_getElem? (i := 7) rfl))
theorem dX0_run_191 : decode cX0_run 191 = .ok (.iconst 3, 1) := dk6 (BX0_run_1_3 (191, 6) (List.mem_of_getElem? (i := 4) rfl))
theorem dX0_run_192 : decode cX0_run 192 = .ok (.imul, 1) := dk104 (BX0_run_1_3 (192, 104) (List.mem_of_getElem? (i := 5) rfl))
theorem dX0_run_193 : decode cX0_run 193 = .ok (.ireturn, 1) := dk172 (BX0_run_1_3 (193, 172) (List.mem_of_getElem? (i := 6) rfl))
theorem dX0_run_194 : decode cX0_run 194 = .ok (.aload_n 0, 1) := dk42 (BX0_run_1_3 (194, 42) (List.mem_of_getElem? (i := 7) rfl))
theorem dX0_run_195 : decode cX0_run 195 = .ok (.iload_n 2, 1) := dk28 (BX0_run_1_3 (195, 28) (List.mem_of_getElem? (i := 8) rfl))
theorem dX0_run_196 : decode cX0_run 196 = .ok (.iconst 3, 1) := dk6 (BX0_run_1_3 (196, 6) (List.mem_of_getElem? (i := 9) rfl))
theorem dX0_run_197 : decode cX0_run 197 = .ok (.iload_n 3, 1) := dk29 (BX0_run_1_3 (197, 29) (List.mem_of_getElem? (i := 10) rfl))
theorem dX0_run_198 : decode cX0_run 198 = .ok (.iload 4, 2) := dk21 4 (BX0_run_2_0 (198, 21, 4) (List.mem_of_getElem? (i := 6) rfl))
theorem dX0_run_200 : decode cX0_run 200 = .ok (.invokevirtual 49, 3) := dk182 0 49 (BX0_run_3_0 (200, 182, 0, 49) (List.mem_of_getElem? (i := 8) rfl))
theorem dX0_run_203 : decode cX0_run 203 = .ok (.iconst 5, 1) := dk8 (BX0_run_1_3 (203, 8) (List.mem_of_getElem? (i := 11) rfl))
theorem dX0_run_204 : decode cX0_run 204 = .ok (.ixor, 1) := dk130 (BX0_run_1_4 (204, 130) (List.mem_of_getElem? (i := 0) rfl))
theorem dX0_run_205 : decode cX0_run 205 = .ok (.ireturn, 1) := dk172 (BX0_run_1_4 (205, 172) (List.mem_of_getElem? (i := 1) rfl))
theorem dX0_run_206 : decode cX0_run 206 = .ok (.aload_n 0, 1) := dk42 (BX0_run_1_4 (206, 42) (List.mem_of_getElem? (i := 2) rfl))
theorem dX0_run_207 : decode cX0_run 207 = .ok (.iload_n 2, 1) := dk28 (BX0_run_1_4 (207, 28) (List.mem_of_getElem? (i := 3) rfl))
theorem dX0_run_208 : decode cX0_run 208 = .ok (.iconst 1, 1) := dk4 (BX0_run_1_4 (208, 4) (List.mem_of_getElem? (i := 4) rfl))
theorem dX0_run_209 : decode cX0_run 209 = .ok (.iload_n 3, 1) := dk29 (BX0_run_1_4 (209, 29) (List.mem_of_getElem? (i := 5) rfl))
theorem dX0_run_210 : decode cX0_run 210 = .ok (.iconst 1, 1) := dk4 (BX0_run_1_4 (210, 4) (List.mem_of_getElem? (i := 6) rfl))
theorem dX0_run_211 : decode cX0_run 211 = .ok (.iadd, 1) := dk96 (BX0_run_1_4 (211, 96) (List.mem_of_getElem? (i := 7) rfl))
theorem dX0_run_212 : decode cX0_run 212 = .ok (.iload 4, 2) := dk21 4 (BX0_run_2_0 (212, 21, 4) (List.mem_of_getElem? (i := 7) rfl))
theorem dX0_run_214 : decode cX0_run 214 = .ok (.invokevirtual 49, 3) := dk182 0 49 (BX0_run_3_0 (214, 182, 0, 49) (List.mem_of_getElem? (i := 9) rfl))
theorem dX0_run_217 : decode cX0_run 217 = .ok (.ireturn, 1) := dk172 (BX0_run_1_4 (217, 172) (List.mem_of_getElem? (i := 8) rfl))
theorem dX0_run_218 : decode cX0_run 218 = .ok (.aload_n 0, 1) := dk42 (BX0_run_1_4 (218, 42) (List.mem_of_getElem? (i := 9) rfl))
theorem dX0_run_219 : decode cX0_run 219 = .ok (.iload_n 2, 1) := dk28 (BX0_run_1_4 (219, 28) (List.mem_of_getElem? (i := 10) rfl))
theorem dX0_run_220 : decode cX0_run 220 = .ok (.iconst 2, 1) := dk5 (BX0_run_1_4 (220, 5) (List.mem_of_getElem? (i := 11) rfl))
theorem dX0_run_221 : decode cX0_run 221 = .ok (.iload_n 3, 1) := dk29 (BX0_run_1_5 (221, 29) (List.mem_of_getElem? (i := 0) rfl))
theorem dX0_run_222 : decode cX0_run 222 = .ok (.iload 4, 2) := dk21 4 (BX0_run_2_0 (222, 21, 4) (List.mem_of_getElem? (i := 8) rfl))
theorem dX0_run_224 : decode cX0_run 224 = .ok (.invokevirtual 49, 3) := dk182 0 49 (BX0_run_3_0 (224, 182, 0, 49) (List.mem_of_getElem? (i := 10) rfl))
theorem dX0_run_227 : decode cX0_run 227 = .ok (.aload_n 0, 1) := dk42 (BX0_run_1_5 (227, 42) (List.mem_of_getElem? (i := 1) rfl))
theorem dX0_run_228 : decode cX0_run 228 = .ok (.iconst 0, 1) := dk3 (BX0_run_1_5 (228, 3) (List.mem_of_getElem? (i := 2) rfl))
theorem dX0_run_229 : decode cX0_run 229 = .ok (.iconst 2, 1) := dk5 (BX0_run_1_5 (229, 5) (List.mem_of_getElem? (i := 3) rfl))
theorem dX0_run_230 : decode cX0_run 230 = .ok (.iload 4, 2) := dk21 4 (BX0_run_2_0 (230, 21, 4) (List.mem_of_getElem? (i := 9) rfl))
theorem dX0_run_232 : decode cX0_run 232 = .ok (.invokevirtual 45, 3) := dk182 0 45 (BX0_run_3_0 (232, 182, 0, 45) (List.mem_of_getElem? (i := 11) rfl))
theorem dX0_run_235 : decode cX0_run 235 = .ok (.isub, 1) := dk100 (BX0_run_1_5 (235, 100) (List.mem_of_getElem? (i := 4) rfl))
theorem dX0_run_236 : decode cX0_run 236 = .ok (.ireturn, 1) := dk172 (BX0_run_1_5 (236, 172) (List.mem_of_getElem? (i := 5) rfl))
theorem dX0_run_237 : decode cX0_run 237 = .ok (.aload_n 0, 1) := dk42 (BX0_run_1_5 (237, 42) (List.mem_of_getElem? (i := 6) rfl))
theorem dX0_run_238 : decode cX0_run 238 = .ok (.iload_n 2, 1) := dk28 (BX0_run_1_5 (238, 28) (List.mem_of_getElem? (i := 7) rfl))
theorem dX0_run_239 : decode cX0_run 239 = .ok (.iconst 0, 1) := dk3 (BX0_run_1_5 (239, 3) (List.mem_of_getElem? (i := 8) rfl))
theorem dX0_run_240 : decode cX0_run 240 = .ok (.iload_n 3, 1) := dk29 (BX0_run_1_5 (240, 29) (List.mem_of_getElem? (i := 9) rfl))
theorem dX0_run_241 : decode cX0_run 241 = .ok (.iload 4, 2) := dk21 4 (BX0_run_2_0 (241, 21, 4) (List.mem_of_getElem? (i := 10) rfl))
theorem dX0_run_243 : decode cX0_run 243 = .ok (.invokevirtual 49, 3) := dk182 0 49 (BX0_run_3_1 (243, 182, 0, 49) (List.mem_of_getElem? (i := 0) rfl))
theorem dX0_run_246 : decode cX0_run 246 = .ok (.iconst 2, 1) := dk5 (BX0_run_1_5 (246, 5) (List.mem_of_getElem? (i := 10) rfl))
theorem dX0_run_247 : decode cX0_run 247 = .ok (.imul, 1) := dk104 (BX0_run_1_5 (247, 104) (List.mem_of_getElem? (i := 11) rfl))
theorem dX0_run_248 : decode cX0_run 248 = .ok (.ireturn, 1) := dk172 (BX0_run_1_6 (248, 172) (List.mem_of_getElem? (i := 0) rfl))
theorem dX0_run_249 : decode cX0_run 249 = .ok (.aload_n 0, 1) := dk42 (BX0_run_1_6 (249, 42) (List.mem_of_getElem? (i := 1) rfl))
theorem dX0_run_250 : decode cX0_run 250 = .ok (.iload_n 2, 1) := dk28 (BX0_run_1_6 (250, 28) (List.mem_of_getElem? (i := 2) rfl))
theorem dX0_run_251 : decode cX0_run 251 = .ok (.iconst 1, 1) := dk4 (BX0_run_1_6 (251, 4) (List.mem_of_getElem? (i := 3) rfl))
theorem dX0_run_252 : decode cX0_run 252 = .ok (.iload_n 3, 1) := dk29 (BX0_run_1_6 (252, 29) (List.mem_of_getElem? (i := 4) rfl))
theorem dX0_run_253 : decode cX0_run 253 = .ok (.iload 4, 2) := dk21 4 (BX0_run_2_0 (253, 21, 4) (List.mem_of_getElem? (i := 11) rfl))
theorem dX0_run_255 : decode cX0_run 255 = .ok (.invokevirtual 49, 3) := dk182 0 49 (BX0_run_3_1 (255, 182, 0, 49) (List.mem_of_getElem? (i := 1) rfl))
theorem dX0_run_258 : decode cX0_run 258 = .ok (.aload_n 0, 1) := dk42 (BX0_run_1_6 (258, 42) (List.mem_of_getElem? (i := 5) rfl))
theorem dX0_run_259 : decode cX0_run 259 = .ok (.iconst 2, 1) := dk5 (BX0_run_1_6 (259, 5) (List.mem_of_getElem? (i := 6) rfl))
theorem dX0_run_260 : decode cX0_run 260 = .ok (.iconst 2, 1) := dk5 (BX0_run_1_6 (260, 5) (List.mem_of_getElem? (i := 7) rfl))
theorem dX0_run_261 : decode cX0_run 261 = .ok (.iload 4, 2) := dk21 4 (BX0_run_2_1 (261, 21, 4) (List.mem_of_getElem? (i := 0) rfl))
theorem dX0_run_263 : decode cX0_run 263 = .ok (.invokevirtual 45, 3) := dk182 0 45 (BX0_run_3_1 (263, 182, 0, 45) (List.mem_of_getElem? (i := 2) rfl))
theorem dX0_run_266 : decode cX0_run 266 = .ok (.iadd, 1) := dk96 (BX0_run_1_6 (266, 96) (List.mem_of_getElem? (i := 8) rfl))
theorem dX0_run_267 : decode cX0_run 267 = .ok (.ireturn, 1) := dk172 (BX0_run_1_6 (267, 172) (List.mem_of_getElem? (i := 9) rfl))
theorem dX0_run_268 : decode cX0_run 268 = .ok (.aload_n 0, 1) := dk42 (BX0_run_1_6 (268, 42) (List.mem_of_getElem? (i := 10) rfl))
theorem dX0_run_269 : decode cX0_run 269 = .ok (.iload_n 2, 1) := dk28 (BX0_run_1_6 (269, 28) (List.mem_of_getElem? (i := 11) rfl))
theorem dX0_run_270 : decode cX0_run 270 = .ok (.iconst 3, 1) := dk6 (BX0_run_1_7 (270, 6) (List.mem_of_getElem? (i := 0) rfl))
theorem dX0_run_271 : decode cX0_run 271 = .ok (.iload_n 3, 1) := dk29 (BX0_run_1_7 (271, 29) (List.mem_of_getElem? (i := 1) rfl))
theorem dX0_run_272 : decode cX0_run 272 = .ok (.iload 4, 2) := dk21 4 (BX0_run_2_1 (272, 21, 4) (List.mem_of_getElem? (i := 1) rfl))
theorem dX0_run_274 : decode cX0_run 274 = .ok (.invokevirtual 49, 3) := dk182 0 49 (BX0_run_3_1 (274, 182, 0, 49) (List.mem_of_getElem? (i := 3) rfl))
theorem dX0_run_277 : decode cX0_run 277 = .ok (.iconst 1, 1) := dk4 (BX0_run_1_7 (277, 4) (List.mem_of_getElem? (i := 2) rfl))
theorem dX0_run_278 : decode cX0_run 278 = .ok (.isub, 1) := dk100 (BX0_run_1_7 (278, 100) (List.mem_of_getElem? (i := 3) rfl))
theorem dX0_run_279 : decode cX0_run 279 = .ok (.ireturn, 1) := dk172 (BX0_run_1_7 (279, 172) (List.mem_of_getElem? (i := 4) rfl))
theorem dX0_run_280 : decode cX0_run 280 = .ok (.iconst 0, 1) := dk3 (BX0_run_1_7 (280, 3) (List.mem_of_getElem? (i := 5) rfl))
theorem dX0_run_281 : decode cX0_run 281 = .ok (.ireturn, 1) := dk172 (BX0_run_1_7 (281, 172) (List.mem_of_getElem? (i := 6) rfl))
set_option maxRecDepth 20000 in
theorem SX8_init : ∀ p : Nat, gb cX8_init p = segF [[42, 183, 0, 3, 42, 16, 6, 188, 10, 89, 3, 2, 79, 89, 4, 2, 79, 89, 5, 2, 79, 89, 6, 2, 79, 89, 7, 2, 79, 89, 8, 2, 79, 181, 0, 11, 42, 16, 6, 188, 10, 181, 0, 15, 42, 16, 6, 188, 10, 181, 0, 18, 42, 16, 6, 16, 60, 197, 0, 21, 2, 181, 0, 23], [177]] p := seg_gb (S := [[42, 183, 0, 3, 42, 16, 6, 188, 10, 89, 3, 2, 79, 89, 4, 2, 79, 89, 5, 2, 79, 89, 6, 2, 79, 89, 7, 2, 79, 89, 8, 2, 79, 181, 0, 11, 42, 16, 6, 188, 10, 181, 0, 15, 42, 16, 6, 188, 10, 181, 0, 18, 42, 16, 6, 16, 60, 197, 0, 21, 2, 181, 0, 23], [177]]) (by decide +kernel) (by decide +kernel)
set_option maxRecDepth 20000 in
theorem BX8_init_1_0 : ∀ q ∈ ([(0, 42), (4, 42), (9, 89), (10, 3), (11, 2), (12, 79), (13, 89), (14, 4), (15, 2), (16, 79), (17, 89), (18, 5)] : List (Nat × Nat)), gb cX8_init q.1 = some q.2 := seg_1 SX8_init _ (by decide +kernel)
set_option maxRecDepth 20000 in
theorem BX8_init_1_1 : ∀ q ∈ ([(19, 2), (20, 79), (21, 89), (22, 6), (23, 2), (24, 79), (25, 89), (26, 7), (27, 2), (28, 79), (29, 89), (30, 8)] : List (Nat × Nat)), gb cX8_init q.1 = some q.2 := seg_1 SX8_init _ (by decide +kernel)
set_option maxRecDepth 20000 in
theorem BX8_init_1_2 : ∀ q ∈ ([(31, 2), (32, 79), (36, 42), (44, 42), (52, 42), (64, 177)] : List (Nat × Nat)), gb cX8_init q.1 = some q.2 := seg_1 SX8_init _ (by decide +kernel)
set_option maxRecDepth 20000 in
theorem BX8_init_2_0 : ∀ q ∈ ([(5, 16, 6), (7, 188, 10), (37, 16, 6), (39, 188, 10), (45, 16, 6), (47, 188, 10), (53, 16, 6), (55, 16, 60)] : List (Nat × Nat × Nat)), gb cX8_init q.1 = some q.2.1 ∧ gb cX8_init (q.1 + 1) = some q.2.2 := seg_2 SX8_init _ (by decide +kernel)
set_option maxRecDepth 20000 in
theorem BX8_init_3_0 : ∀ q ∈ ([(1, 183, 0, 3), (33, 181, 0, 11), (41, 181, 0, 15), (49, 181, 0, 18), (61, 181, 0, 23)] : List (Nat × Nat × Nat × Nat)), gb cX8_init q.1 = some q.2.1 ∧ gb cX8_init (q.1 + 1) = some q.2.2.1 ∧ gb cX8_init (q.1 + 2) = some q.2.2.2 := seg_3 SX8_init _ (by decide +kernel)
theorem dX8_init_0 : decode cX8_init 0 = .ok (.aload_n 0, 1) := dk42 (BX8_init_1_0 (0, 42) (List.mem_of_getElem? (i := 0) rfl))
theorem dX8_init_1 : decode cX8_init 1 = .ok (.invokespecial 3, 3) := dk183 0 3 (BX8_init_3_0 (1, 183, 0, 3) (List.mem_of_getElem? (i := 0) rfl))
theorem dX8_init_4 : decode cX8_init 4 = .ok (.aload_n 0, 1) := dk42 (BX8_init_1_0 (4, 42) (List.mem_of_getElem? (i := 1) rfl))
theorem dX8_init_5 : decode cX8_init 5 = .ok (.bipush 6, 2) := dk16 6 (BX8_init_2_0 (5, 16, 6) (List.mem_of_getElem? (i := 0) rfl))
theorem dX8_init_7 : decode cX8_init 7 = .ok (.newarray .int, 2) := dk188_10 (BX8_init_2_0 (7, 188, 10) (List.mem_of_getElem? (i := 1) rfl))
theorem dX8_init_9 : decode cX8_init 9 = .ok (.dup, 1) := dk89 (BX8_init_1_0 (9, 89) (List.mem_of_getElem? (i := 2) rfl))
theorem dX8_init_10 : decode cX8_init 10 = .ok (.iconst 0, 1) := dk3 (BX8_init_1_0 (10, 3) (List.mem_of_getElem? (i := 3) rfl))
theorem dX8_init_11 : decode cX8_init 11 = .ok (.iconst (-1), 1) := dk2 (BX8_init_1_0 (11, 2) (List.mem_of_getElem? (i := 4) rfl))
theorem dX8_init_12 : decode cX8_init 12 = .ok (.iastore, 1) := dk79 (BX8_init_1_0 (12, 79) (List.mem_of_getElem? (i := 5) rfl))
theorem dX8_init_13 : decode cX8_init 13 = .ok (.dup, 1) := dk89 (BX8_init_1_0 (13, 89) (List.mem_of_getElem? (i := 6) rfl))
theorem dX8_init_14 : decode cX8_init 14 = .ok (.iconst 1, 1) := dk4 (BX8_init_1_0 (14, 4) (List.mem_of_getElem? (i := 7) rfl))
theorem dX8_init_15 : decode cX8_init 15 = .ok (.iconst (-1), 1) := dk2 (BX8_init_1_0 (15, 2) (List.mem_of_getElem? (i := 8) rfl))
theorem dX8_init_16 : decode cX8_init 16 = .ok (.iastore, 1) := dk79 (BX8_init_1_0 (16, 79) (List.mem_of_getElem? (i := 9) rfl))
theorem dX8_init_17 : decode cX8_init 17 = .ok (.dup, 1) := dk89 (BX8_init_1_0 (17, 89) (List.mem_of_getElem? (i := 10) rfl))
theorem dX8_init_18 : decode cX8_init 18 = .ok (.iconst 2, 1) := dk5 (BX8_init_1_0 (18, 5) (List.mem_of_getElem? (i := 11) rfl))
theorem dX8_init_19 : decode cX8_init 19 = .ok (.iconst (-1), 1) := dk2 (BX8_init_1_1 (19, 2) (List.mem_of_getElem? (i := 0) rfl))
theorem dX8_init_20 : decode cX8_init 20 = .ok (.iastore, 1) := dk79 (BX8_init_1_1 (20, 79) (List.mem_of_getElem? (i := 1) rfl))
theorem dX8_init_21 : decode cX8_init 21 = .ok (.dup, 1) := dk89 (BX8_init_1_1 (21, 89) (List.mem_of_getElem? (i := 2) rfl))
theorem dX8_init_22 : decode cX8_init 22 = .ok (.iconst 3, 1) := dk6 (BX8_init_1_1 (22, 6) (List.mem_of_getElem? (i := 3) rfl))
theorem dX8_init_23 : decode cX8_init 23 = .ok (.iconst (-1), 1) := dk2 (BX8_init_1_1 (23, 2) (List.mem_of_getElem? (i := 4) rfl))
theorem dX8_init_24 : decode cX8_init 24 = .ok (.iastore, 1) := dk79 (BX8_init_1_1 (24, 79) (List.mem_of_getElem? (i := 5) rfl))
theorem dX8_init_25 : decode cX8_init 25 = .ok (.dup, 1) := dk89 (BX8_init_1_1 (25, 89) (List.mem_of_getElem? (i := 6) rfl))
theorem dX8_init_26 : decode cX8_init 26 = .ok (.iconst 4, 1) := dk7 (BX8_init_1_1 (26, 7) (List.mem_of_getElem? (i := 7) rfl))
theorem dX8_init_27 : decode cX8_init 27 = .ok (.iconst (-1), 1) := dk2 (BX8_init_1_1 (27, 2) (List.mem_of_getElem? (i := 8) rfl))
theorem dX8_init_28 : decode cX8_init 28 = .ok (.iastore, 1) := dk79 (BX8_init_1_1 (28, 79) (List.mem_of_getElem? (i := 9) rfl))
theorem dX8_init_29 : decode cX8_init 29 = .ok (.dup, 1) := dk89 (BX8_init_1_1 (29, 89) (List.mem_of_getElem? (i := 10) rfl))
theorem dX8_init_30 : decode cX8_init 30 = .ok (.iconst 5, 1) := dk8 (BX8_init_1_1 (30, 8) (List.mem_of_getElem? (i := 11) rfl))
theorem dX8_init_31 : decode cX8_init 31 = .ok (.iconst (-1), 1) := dk2 (BX8_init_1_2 (31, 2) (List.mem_of_getElem? (i := 0) rfl))
theorem dX8_init_32 : decode cX8_init 32 = .ok (.iastore, 1) := dk79 (BX8_init_1_2 (32, 79) (List.mem_of_getElem? (i := 1) rfl))
theorem dX8_init_33 : decode cX8_init 33 = .ok (.putfield 11, 3) := dk181 0 11 (BX8_init_3_0 (33, 181, 0, 11) (List.mem_of_getElem? (i := 1) rfl))
theorem dX8_init_36 : decode cX8_init 36 = .ok (.aload_n 0, 1) := dk42 (BX8_init_1_2 (36, 42) (List.mem_of_getElem? (i := 2) rfl))
theorem dX8_init_37 : decode cX8_init 37 = .ok (.bipush 6, 2) := dk16 6 (BX8_init_2_0 (37, 16, 6) (List.mem_of_getElem? (i := 2) rfl))
theorem dX8_init_39 : decode cX8_init 39 = .ok (.newarray .int, 2) := dk188_10 (BX8_init_2_0 (39, 188, 10) (List.mem_of_getElem? (i := 3) rfl))
theorem dX8_init_41 : decode cX8_init 41 = .ok (.putfield 15, 3) := dk181 0 15 (BX8_init_3_0 (41, 181, 0, 15) (List.mem_of_getElem? (i := 2) rfl))
theorem dX8_init_44 : decode cX8_init 44 = .ok (.aload_n 0, 1) := dk42 (BX8_init_1_2 (44, 42) (List.mem_of_getElem? (i := 3) rfl))
theorem dX8_init_45 : decode cX8_init 45 = .ok (.bipush 6, 2) := dk16 6 (BX8_init_2_0 (45, 16, 6) (List.mem_of_getElem? (i := 4) rfl))
theorem dX8_init_47 : decode cX8_init 47 = .ok (.newarray .int, 2) := dk188_10 (BX8_init_2_0 (47, 188, 10) (List.mem_of_getElem? (i := 5) rfl))
theorem dX8_init_49 : decode cX8_init 49 = .ok (.putfield 18, 3) := dk181 0 18 (BX8_init_3_0 (49, 181, 0, 18) (List.mem_of_getElem? (i := 3) rfl))
theorem dX8_init_52 : decode cX8_init 52 = .ok (.aload_n 0, 1) := dk42 (BX8_init_1_2 (52, 42) (List.mem_of_getElem? (i := 4) rfl))
theorem dX8_init_53 : decode cX8_init 53 = .ok (.bipush 6, 2) := dk16 6 (BX8_init_2_0 (53, 16, 6) (List.mem_of_getElem? (i := 6) rfl))
theorem dX8_init_55 : decode cX8_init 55 = .ok (.bipush 60, 2) := dk16 60 (BX8_init_2_0 (55, 16, 60) (List.mem_of_getElem? (i := 7) rfl))
theorem dX8_init_57 : decode cX8_init 57 = .ok (.multianewarray 21 2, 4) := by decide +kernel
theorem dX8_init_61 : decode cX8_init 61 = .ok (.putfield 23, 3) := dk181 0 23 (BX8_init_3_0 (61, 181, 0, 23) (List.mem_of_getElem? (i := 4) rfl))
theorem dX8_init_64 : decode cX8_init 64 = .ok (.return_, 1) := dk177 (BX8_init_1_2 (64, 177) (List.mem_of_getElem? (i := 5) rfl))
set_option maxRecDepth 20000 in
theorem ggX8_isShelf_X11_within : GoodIn wsX8_isShelf wsX11_within := goodIn_r _ [4] rfl (by decide +kernel)
set_option maxRecDepth 20000 in
theorem gX8_isShelf_X11_within_n26 : GoodIn wsX8_isShelf (wsX11_within) := ggX8_isShelf_X11_within
set_option maxRecDepth 20000 in
theorem SX8_isShelf : ∀ p : Nat, gb cX8_isShelf p = segF [[27, 3, 42, 180, 0, 11, 190, 4, 100, 184, 0, 26, 172]] p := seg_gb (S := [[27, 3, 42, 180, 0, 11, 190, 4, 100, 184, 0, 26, 172]]) (by decide +kernel) (by decide +kernel)
set_option maxRecDepth 20000 in
theorem BX8_isShelf_1_0 : ∀ q ∈ ([(0, 27), (1, 3), (2, 42), (6, 190), (7, 4), (8, 100), (12, 172)] : List (Nat × Nat)), gb cX8_isShelf q.1 = some q.2 := seg_1 SX8_isShelf _ (by decide +kernel)
set_option maxRecDepth 20000 in
theorem BX8_isShelf_3_0 : ∀ q ∈ ([(3, 180, 0, 11), (9, 184, 0, 26)] : List (Nat × Nat × Nat × Nat)), gb cX8_isShelf q.1 = some q.2.1 ∧ gb cX8_isShelf (q.1 + 1) = some q.2.2.1 ∧ gb cX8_isShelf (q.1 + 2) = some q.2.2.2 := seg_3 SX8_isShelf _ (by decide +kernel)
theorem dX8_isShelf_0 : decode cX8_isShelf 0 = .ok (.iload_n 1, 1) := dk27 (BX8_isShelf_1_0 (0, 27) (List.mem_of_getElem? (i := 0) rfl))
theorem dX8_isShelf_1 : decode cX8_isShelf 1 = .ok (.iconst 0, 1) := dk3 (BX8_isShelf_1_0 (1, 3) (List.mem_of_getElem? (i := 1) rfl))
theorem dX8_isShelf_2 : decode cX8_isShelf 2 = .ok (.aload_n 0, 1) := dk42 (BX8_isShelf_1_0 (2, 42) (List.mem_of_getElem? (i := 2) rfl))
theorem dX8_isShelf_3 : decode cX8_isShelf 3 = .ok (.getfield 11, 3) := dk180 0 11 (BX8_isShelf_3_0 (3, 180, 0, 11) (List.mem_of_getElem? (i := 0) rfl))
theorem dX8_isShelf_6 : decode cX8_isShelf 6 = .ok (.arraylength, 1) := dk190 (BX8_isShelf_1_0 (6, 190) (List.mem_of_getElem? (i := 3) rfl))
theorem dX8_isShelf_7 : decode cX8_isShelf 7 = .ok (.iconst 1, 1) := dk4 (BX8_isShelf_1_0 (7, 4) (List.mem_of_getElem? (i := 4) rfl))
theorem dX8_isShelf_8 : decode cX8_isShelf 8 = .ok (.isub, 1) := dk100 (BX8_isShelf_1_0 (8, 100) (List.mem_of_getElem? (i := 5) rfl))
theorem dX8_isShelf_9 : decode cX8_isShelf 9 = .ok (.invokestatic 26, 3) := dk184 0 26 (BX8_isShelf_3_0 (9, 184, 0, 26) (List.mem_of_getElem? (i := 1) rfl))
theorem dX8_isShelf_12 : decode cX8_isShelf 12 = .ok (.ireturn, 1) := dk172 (BX8_isShelf_1_0 (12, 172) (List.mem_of_getElem? (i := 6) rfl))
set_option maxRecDepth 20000 in
theorem SX8_isBare : ∀ p : Nat, gb cX8_isBare p = segF [[42, 180, 0, 11, 27, 46, 2, 160, 0, 7, 4, 167, 0, 4, 3, 172]] p := seg_gb (S := [[42, 180, 0, 11, 27, 46, 2, 160, 0, 7, 4, 167, 0, 4, 3, 172]]) (by decide +kernel) (by decide +kernel)
set_option maxRecDepth 20000 in
theorem BX8_isBare_1_0 : ∀ q ∈ ([(0, 42), (4, 27), (5, 46), (6, 2), (10, 4), (14, 3), (15, 172)] : List (Nat × Nat)), gb cX8_isBare q.1 = some q.2 := seg_1 SX8_isBare _ (by decide +kernel)
set_option maxRecDepth 20000 in
theorem BX8_isBare_3_0 : ∀ q ∈ ([(1, 180, 0, 11), (7, 160, 0, 7), (11, 167, 0, 4)] : List (Nat × Nat × Nat × Nat)), gb cX8_isBare q.1 = some q.2.1 ∧ gb cX8_isBare (q.1 + 1) = some q.2.2.1 ∧ gb cX8_isBare (q.1 + 2) = some q.2.2.2 := seg_3 SX8_isBare _ (by decide +kernel)
theorem dX8_isBare_0 : decode cX8_isBare 0 = .ok (.aload_n 0, 1) := dk42 (BX8_isBare_1_0 (0, 42) (List.mem_of_getElem? (i := 0) rfl))
theorem dX8_isBare_1 : decode cX8_isBare 1 = .ok (.getfield 11, 3) := dk180 0 11 (BX8_isBare_3_0 (1, 180, 0, 11) (List.mem_of_getElem? (i := 0) rfl))
theorem dX8_isBare_4 : decode cX8_isBare 4 = .ok (.iload_n 1, 1) := dk27 (BX8_isBare_1_0 (4, 27) (List.mem_of_getElem? (i := 1) rfl))
theorem dX8_isBare_5 : decode cX8_isBare 5 = .ok (.iaload, 1) := dk46 (BX8_isBare_1_0 (5, 46) (List.mem_of_getElem? (i := 2) rfl))
theorem dX8_isBare_6 : decode cX8_isBare 6 = .ok (.iconst (-1), 1) := dk2 (BX8_isBare_1_0 (6, 2) (List.mem_of_getElem? (i := 3) rfl))
theorem dX8_isBare_7 : decode cX8_isBare 7 = .ok (.if_icmp .ne 7, 3) := dk160 0 7 (BX8_isBare_3_0 (7, 160, 0, 7) (List.mem_of_getElem? (i := 1) rfl))
theorem dX8_isBare_10 : decode cX8_isBare 10 = .ok (.iconst 1, 1) := dk4 (BX8_isBare_1_0 (10, 4) (List.mem_of_getElem? (i := 4) rfl))
theorem dX8_isBare_11 : decode cX8_isBare 11 = .ok (.goto 4, 3) := dk167 0 4 (BX8_isBare_3_0 (11, 167, 0, 4) (List.mem_of_getElem? (i := 2) rfl))
theorem dX8_isBare_14 : decode cX8_isBare 14 = .ok (.iconst 0, 1) := dk3 (BX8_isBare_1_0 (14, 3) (List.mem_of_getElem? (i := 5) rfl))
theorem dX8_isBare_15 : decode cX8_isBare 15 = .ok (.ireturn, 1) := dk172 (BX8_isBare_1_0 (15, 172) (List.mem_of_getElem? (i := 6) rfl))
set_option maxRecDepth 20000 in
theorem SX8_holdsSort : ∀ p : Nat, gb cX8_holdsSort p = segF [[42, 180, 0, 11, 27, 46, 28, 160, 0, 7, 4, 167, 0, 4, 3, 172]] p := seg_gb (S := [[42, 180, 0, 11, 27, 46, 28, 160, 0, 7, 4, 167, 0, 4, 3, 172]]) (by decide +kernel) (by decide +kernel)
set_option maxRecDepth 20000 in
theorem BX8_holdsSort_1_0 : ∀ q ∈ ([(0, 42), (4, 27), (5, 46), (6, 28), (10, 4), (14, 3), (15, 172)] : List (Nat × Nat)), gb cX8_holdsSort q.1 = some q.2 := seg_1 SX8_holdsSort _ (by decide +kernel)
set_option maxRecDepth 20000 in
theorem BX8_holdsSort_3_0 : ∀ q ∈ ([(1, 180, 0, 11), (7, 160, 0, 7), (11, 167, 0, 4)] : List (Nat × Nat × Nat × Nat)), gb cX8_holdsSort q.1 = some q.2.1 ∧ gb cX8_holdsSort (q.1 + 1) = some q.2.2.1 ∧ gb cX8_holdsSort (q.1 + 2) = some q.2.2.2 := seg_3 SX8_holdsSort _ (by decide +kernel)
theorem dX8_holdsSort_0 : decode cX8_holdsSort 0 = .ok (.aload_n 0, 1) := dk42 (BX8_holdsSort_1_0 (0, 42) (List.mem_of_getElem? (i := 0) rfl))
theorem dX8_holdsSort_1 : decode cX8_holdsSort 1 = .ok (.getfield 11, 3) := dk180 0 11 (BX8_holdsSort_3_0 (1, 180, 0, 11) (List.mem_of_getElem? (i := 0) rfl))
theorem dX8_holdsSort_4 : decode cX8_holdsSort 4 = .ok (.iload_n 1, 1) := dk27 (BX8_holdsSort_1_0 (4, 27) (List.mem_of_getElem? (i := 1) rfl))
theorem dX8_holdsSort_5 : decode cX8_holdsSort 5 = .ok (.iaload, 1) := dk46 (BX8_holdsSort_1_0 (5, 46) (List.mem_of_getElem? (i := 2) rfl))
theorem dX8_holdsSort_6 : decode cX8_holdsSort 6 = .ok (.iload_n 2, 1) := dk28 (BX8_holdsSort_1_0 (6, 28) (List.mem_of_getElem? (i := 3) rfl))
theorem dX8_holdsSort_7 : decode cX8_holdsSort 7 = .ok (.if_icmp .ne 7, 3) := dk160 0 7 (BX8_holdsSort_3_0 (7, 160, 0, 7) (List.mem_of_getElem? (i := 1) rfl))
theorem dX8_holdsSort_10 : decode cX8_holdsSort 10 = .ok (.iconst 1, 1) := dk4 (BX8_holdsSort_1_0 (10, 4) (List.mem_of_getElem? (i := 4) rfl))
theorem dX8_holdsSort_11 : decode cX8_holdsSort 11 = .ok (.goto 4, 3) := dk167 0 4 (BX8_holdsSort_3_0 (11, 167, 0, 4) (List.mem_of_getElem? (i := 2) rfl))
theorem dX8_holdsSort_14 : decode cX8_holdsSort 14 = .ok (.iconst 0, 1) := dk3 (BX8_holdsSort_1_0 (14, 3) (List.mem_of_getElem? (i := 5) rfl))
theorem dX8_holdsSort_15 : decode cX8_holdsSort 15 = .ok (.ireturn, 1) := dk172 (BX8_holdsSort_1_0 (15, 172) (List.mem_of_getElem? (i := 6) rfl))
set_option maxRecDepth 20000 in
theorem SX8_areAlikeRows : ∀ p : Nat, gb cX8_areAlikeRows p = segF [[42, 180, 0, 11, 27, 46, 8, 159, 0, 22, 42, 180, 0, 11, 27, 46, 42, 180, 0, 11, 28, 46, 160, 0, 7, 4, 167, 0, 4, 3, 172]] p := seg_gb (S := [[42, 180, 0, 11, 27, 46, 8, 159, 0, 22, 42, 180, 0, 11, 27, 46, 42, 180, 0, 11, 28, 46, 160, 0, 7, 4, 167, 0, 4, 3, 172]]) (by decide +kernel) (by decide +kernel)
set_option maxRecDepth 20000 in
theorem BX8_areAlikeRows_1_0 : ∀ q ∈ ([(0, 42), (4, 27), (5, 46), (6, 8), (10, 42), (14, 27), (15, 46), (16, 42), (20, 28), (21, 46), (25, 4), (29, 3)] : List (Nat × Nat)), gb cX8_areAlikeRows q.1 = some q.2 := seg_1 SX8_areAlikeRows _ (by decide +kernel)
set_option maxRecDepth 20000 in
theorem BX8_areAlikeRows_1_1 : ∀ q ∈ ([(30, 172)] : List (Nat × Nat)), gb cX8_areAlikeRows q.1 = some q.2 := seg_1 SX8_areAlikeRows _ (by decide +kernel)
set_option maxRecDepth 20000 in
theorem BX8_areAlikeRows_3_0 : ∀ q ∈ ([(1, 180, 0, 11), (7, 159, 0, 22), (11, 180, 0, 11), (17, 180, 0, 11), (22, 160, 0, 7), (26, 167, 0, 4)] : List (Nat × Nat × Nat × Nat)), gb cX8_areAlikeRows q.1 = some q.2.1 ∧ gb cX8_areAlikeRows (q.1 + 1) = some q.2.2.1 ∧ gb cX8_areAlikeRows (q.1 + 2) = some q.2.2.2 := seg_3 SX8_areAlikeRows _ (by decide +kernel)
theorem dX8_areAlikeRows_0 : decode cX8_areAlikeRows 0 = .ok (.aload_n 0, 1) := dk42 (BX8_areAlikeRows_1_0 (0, 42) (List.mem_of_getElem? (i := 0) rfl))
theorem dX8_areAlikeRows_1 : decode cX8_areAlikeRows 1 = .ok (.getfield 11, 3) := dk180 0 11 (BX8_areAlikeRows_3_0 (1, 180, 0, 11) (List.mem_of_getElem? (i := 0) rfl))
theorem dX8_areAlikeRows_4 : decode cX8_areAlikeRows 4 = .ok (.iload_n 1, 1) := dk27 (BX8_areAlikeRows_1_0 (4, 27) (List.mem_of_getElem? (i := 1) rfl))
theorem dX8_areAlikeRows_5 : decode cX8_areAlikeRows 5 = .ok (.iaload, 1) := dk46 (BX8_areAlikeRows_1_0 (5, 46) (List.mem_of_getElem? (i := 2) rfl))
theorem dX8_areAlikeRows_6 : decode cX8_areAlikeRows 6 = .ok (.iconst 5, 1) := dk8 (BX8_areAlikeRows_1_0 (6, 8) (List.mem_of_getElem? (i := 3) rfl))
theorem dX8_areAlikeRows_7 : decode cX8_areAlikeRows 7 = .ok (.if_icmp .eq 22, 3) := dk159 0 22 (BX8_areAlikeRows_3_0 (7, 159, 0, 22) (List.mem_of_getElem? (i := 1) rfl))
theorem dX8_areAlikeRows_10 : decode cX8_areAlikeRows 10 = .ok (.aload_n 0, 1) := dk42 (BX8_areAlikeRows_1_0 (10, 42) (List.mem_of_getElem? (i := 4) rfl))
theorem dX8_areAlikeRows_11 : decode cX8_areAlikeRows 11 = .ok (.getfield 11, 3) := dk180 0 11 (BX8_areAlikeRows_3_0 (11, 180, 0, 11) (List.mem_of_getElem? (i := 2) rfl))
theorem dX8_areAlikeRows_14 : decode cX8_areAlikeRows 14 = .ok (.iload_n 1, 1) := dk27 (BX8_areAlikeRows_1_0 (14, 27) (List.mem_of_getElem? (i := 5) rfl))
theorem dX8_areAlikeRows_15 : decode cX8_areAlikeRows 15 = .ok (.iaload, 1) := dk46 (BX8_areAlikeRows_1_0 (15, 46) (List.mem_of_getElem? (i := 6) rfl))
theorem dX8_areAlikeRows_16 : decode cX8_areAlikeRows 16 = .ok (.aload_n 0, 1) := dk42 (BX8_areAlikeRows_1_0 (16, 42) (List.mem_of_getElem? (i := 7) rfl))
theorem dX8_areAlikeRows_17 : decode cX8_areAlikeRows 17 = .ok (.getfield 11, 3) := dk180 0 11 (BX8_areAlikeRows_3_0 (17, 180, 0, 11) (List.mem_of_getElem? (i := 3) rfl))
theorem dX8_areAlikeRows_20 : decode cX8_areAlikeRows 20 = .ok (.iload_n 2, 1) := dk28 (BX8_areAlikeRows_1_0 (20, 28) (List.mem_of_getElem? (i := 8) rfl))
theorem dX8_areAlikeRows_21 : decode cX8_areAlikeRows 21 = .ok (.iaload, 1) := dk46 (BX8_areAlikeRows_1_0 (21, 46) (List.mem_of_getElem? (i := 9) rfl))
theorem dX8_areAlikeRows_22 : decode cX8_areAlikeRows 22 = .ok (.if_icmp .ne 7, 3) := dk160 0 7 (BX8_areAlikeRows_3_0 (22, 160, 0, 7) (List.mem_of_getElem? (i := 4) rfl))
theorem dX8_areAlikeRows_25 : decode cX8_areAlikeRows 25 = .ok (.iconst 1, 1) := dk4 (BX8_areAlikeRows_1_0 (25, 4) (List.mem_of_getElem? (i := 10) rfl))
theorem dX8_areAlikeRows_26 : decode cX8_areAlikeRows 26 = .ok (.goto 4, 3) := dk167 0 4 (BX8_areAlikeRows_3_0 (26, 167, 0, 4) (List.mem_of_getElem? (i := 5) rfl))
theorem dX8_areAlikeRows_29 : decode cX8_areAlikeRows 29 = .ok (.iconst 0, 1) := dk3 (BX8_areAlikeRows_1_0 (29, 3) (List.mem_of_getElem? (i := 11) rfl))
theorem dX8_areAlikeRows_30 : decode cX8_areAlikeRows 30 = .ok (.ireturn, 1) := dk172 (BX8_areAlikeRows_1_1 (30, 172) (List.mem_of_getElem? (i := 0) rfl))
set_option maxRecDepth 20000 in
theorem SX8_hasPlaces : ∀ p : Nat, gb cX8_hasPlaces p = segF [[28, 155, 0, 33, 29, 155, 0, 29, 28, 42, 180, 0, 15, 27, 46, 163, 0, 19, 29, 42, 180, 0, 15, 27, 46, 28, 100, 163, 0, 7, 4, 167, 0, 4, 3, 172]] p := seg_gb (S := [[28, 155, 0, 33, 29, 155, 0, 29, 28, 42, 180, 0, 15, 27, 46, 163, 0, 19, 29, 42, 180, 0, 15, 27, 46, 28, 100, 163, 0, 7, 4, 167, 0, 4, 3, 172]]) (by decide +kernel) (by decide +kernel)
set_option maxRecDepth 20000 in
theorem BX8_hasPlaces_1_0 : ∀ q ∈ ([(0, 28), (4, 29), (8, 28), (9, 42), (13, 27), (14, 46), (18, 29), (19, 42), (23, 27), (24, 46), (25, 28), (26, 100)] : List (Nat × Nat)), gb cX8_hasPlaces q.1 = some q.2 := seg_1 SX8_hasPlaces _ (by decide +kernel)
set_option maxRecDepth 20000 in
theorem BX8_hasPlaces_1_1 : ∀ q ∈ ([(30, 4), (34, 3), (35, 172)] : List (Nat × Nat)), gb cX8_hasPlaces q.1 = some q.2 := seg_1 SX8_hasPlaces _ (by decide +kernel)
set_option maxRecDepth 20000 in
theorem BX8_hasPlaces_3_0 : ∀ q ∈ ([(1, 155, 0, 33), (5, 155, 0, 29), (10, 180, 0, 15), (15, 163, 0, 19), (20, 180, 0, 15), (27, 163, 0, 7), (31, 167, 0, 4)] : List (Nat × Nat × Nat × Nat)), gb cX8_hasPlaces q.1 = some q.2.1 ∧ gb cX8_hasPlaces (q.1 + 1) = some q.2.2.1 ∧ gb cX8_hasPlaces (q.1 + 2) = some q.2.2.2 := seg_3 SX8_hasPlaces _ (by decide +kernel)
theorem dX8_hasPlaces_0 : decode cX8_hasPlaces 0 = .ok (.iload_n 2, 1) := dk28 (BX8_hasPlaces_1_0 (0, 28) (List.mem_of_getElem? (i := 0) rfl))
theorem dX8_hasPlaces_1 : decode cX8_hasPlaces 1 = .ok (.ifCond .lt 33, 3) := dk155 0 33 (BX8_hasPlaces_3_0 (1, 155, 0, 33) (List.mem_of_getElem? (i := 0) rfl))
theorem dX8_hasPlaces_4 : decode cX8_hasPlaces 4 = .ok (.iload_n 3, 1) := dk29 (BX8_hasPlaces_1_0 (4, 29) (List.mem_of_getElem? (i := 1) rfl))
theorem dX8_hasPlaces_5 : decode cX8_hasPlaces 5 = .ok (.ifCond .lt 29, 3) := dk155 0 29 (BX8_hasPlaces_3_0 (5, 155, 0, 29) (List.mem_of_getElem? (i := 1) rfl))
theorem dX8_hasPlaces_8 : decode cX8_hasPlaces 8 = .ok (.iload_n 2, 1) := dk28 (BX8_hasPlaces_1_0 (8, 28) (List.mem_of_getElem? (i := 2) rfl))
theorem dX8_hasPlaces_9 : decode cX8_hasPlaces 9 = .ok (.aload_n 0, 1) := dk42 (BX8_hasPlaces_1_0 (9, 42) (List.mem_of_getElem? (i := 3) rfl))
theorem dX8_hasPlaces_10 : decode cX8_hasPlaces 10 = .ok (.getfield 15, 3) := dk180 0 15 (BX8_hasPlaces_3_0 (10, 180, 0, 15) (List.mem_of_getElem? (i := 2) rfl))
theorem dX8_hasPlaces_13 : decode cX8_hasPlaces 13 = .ok (.iload_n 1, 1) := dk27 (BX8_hasPlaces_1_0 (13, 27) (List.mem_of_getElem? (i := 4) rfl))
theorem dX8_hasPlaces_14 : decode cX8_hasPlaces 14 = .ok (.iaload, 1) := dk46 (BX8_hasPlaces_1_0 (14, 46) (List.mem_of_getElem? (i := 5) rfl))
theorem dX8_hasPlaces_15 : decode cX8_hasPlaces 15 = .ok (.if_icmp .gt 19, 3) := dk163 0 19 (BX8_hasPlaces_3_0 (15, 163, 0, 19) (List.mem_of_getElem? (i := 3) rfl))
theorem dX8_hasPlaces_18 : decode cX8_hasPlaces 18 = .ok (.iload_n 3, 1) := dk29 (BX8_hasPlaces_1_0 (18, 29) (List.mem_of_getElem? (i := 6) rfl))
theorem dX8_hasPlaces_19 : decode cX8_hasPlaces 19 = .ok (.aload_n 0, 1) := dk42 (BX8_hasPlaces_1_0 (19, 42) (List.mem_of_getElem? (i := 7) rfl))
theorem dX8_hasPlaces_20 : decode cX8_hasPlaces 20 = .ok (.getfield 15, 3) := dk180 0 15 (BX8_hasPlaces_3_0 (20, 180, 0, 15) (List.mem_of_getElem? (i := 4) rfl))
theorem dX8_hasPlaces_23 : decode cX8_hasPlaces 23 = .ok (.iload_n 1, 1) := dk27 (BX8_hasPlaces_1_0 (23, 27) (List.mem_of_getElem? (i := 8) rfl))
theorem dX8_hasPlaces_24 : decode cX8_hasPlaces 24 = .ok (.iaload, 1) := dk46 (BX8_hasPlaces_1_0 (24, 46) (List.mem_of_getElem? (i := 9) rfl))
theorem dX8_hasPlaces_25 : decode cX8_hasPlaces 25 = .ok (.iload_n 2, 1) := dk28 (BX8_hasPlaces_1_0 (25, 28) (List.mem_of_getElem? (i := 10) rfl))
theorem dX8_hasPlaces_26 : decode cX8_hasPlaces 26 = .ok (.isub, 1) := dk100 (BX8_hasPlaces_1_0 (26, 100) (List.mem_of_getElem? (i := 11) rfl))
theorem dX8_hasPlaces_27 : decode cX8_hasPlaces 27 = .ok (.if_icmp .gt 7, 3) := dk163 0 7 (BX8_hasPlaces_3_0 (27, 163, 0, 7) (List.mem_of_getElem? (i := 5) rfl))
theorem dX8_hasPlaces_30 : decode cX8_hasPlaces 30 = .ok (.iconst 1, 1) := dk4 (BX8_hasPlaces_1_1 (30, 4) (List.mem_of_getElem? (i := 0) rfl))
theorem dX8_hasPlaces_31 : decode cX8_hasPlaces 31 = .ok (.goto 4, 3) := dk167 0 4 (BX8_hasPlaces_3_0 (31, 167, 0, 4) (List.mem_of_getElem? (i := 6) rfl))
theorem dX8_hasPlaces_34 : decode cX8_hasPlaces 34 = .ok (.iconst 0, 1) := dk3 (BX8_hasPlaces_1_1 (34, 3) (List.mem_of_getElem? (i := 1) rfl))
theorem dX8_hasPlaces_35 : decode cX8_hasPlaces 35 = .ok (.ireturn, 1) := dk172 (BX8_hasPlaces_1_1 (35, 172) (List.mem_of_getElem? (i := 2) rfl))
set_option maxRecDepth 20000 in
theorem SX8_clear : ∀ p : Nat, gb cX8_clear p = segF [[42, 180, 0, 11, 27, 2, 79, 177]] p := seg_gb (S := [[42, 180, 0, 11, 27, 2, 79, 177]]) (by decide +kernel) (by decide +kernel)
set_option maxRecDepth 20000 in
theorem BX8_clear_1_0 : ∀ q ∈ ([(0, 42), (4, 27), (5, 2), (6, 79), (7, 177)] : List (Nat × Nat)), gb cX8_clear q.1 = some q.2 := seg_1 SX8_clear _ (by decide +kernel)
set_option maxRecDepth 20000 in
theorem BX8_clear_3_0 : ∀ q ∈ ([(1, 180, 0, 11)] : List (Nat × Nat × Nat × Nat)), gb cX8_clear q.1 = some q.2.1 ∧ gb cX8_clear (q.1 + 1) = some q.2.2.1 ∧ gb cX8_clear (q.1 + 2) = some q.2.2.2 := seg_3 SX8_clear _ (by decide +kernel)
theorem dX8_clear_0 : decode cX8_clear 0 = .ok (.aload_n 0, 1) := dk42 (BX8_clear_1_0 (0, 42) (List.mem_of_getElem? (i := 0) rfl))
theorem dX8_clear_1 : decode cX8_clear 1 = .ok (.getfield 11, 3) := dk180 0 11 (BX8_clear_3_0 (1, 180, 0, 11) (List.mem_of_getElem? (i := 0) rfl))
theorem dX8_clear_4 : decode cX8_clear 4 = .ok (.iload_n 1, 1) := dk27 (BX8_clear_1_0 (4, 27) (List.mem_of_getElem? (i := 1) rfl))
theorem dX8_clear_5 : decode cX8_clear 5 = .ok (.iconst (-1), 1) := dk2 (BX8_clear_1_0 (5, 2) (List.mem_of_getElem? (i := 2) rfl))
theorem dX8_clear_6 : decode cX8_clear 6 = .ok (.iastore, 1) := dk79 (BX8_clear_1_0 (6, 79) (List.mem_of_getElem? (i := 3) rfl))
theorem dX8_clear_7 : decode cX8_clear 7 = .ok (.return_, 1) := dk177 (BX8_clear_1_0 (7, 177) (List.mem_of_getElem? (i := 4) rfl))
set_option maxRecDepth 20000 in
theorem SX8_layBody : ∀ p : Nat, gb cX8_layBody p = segF [[42, 180, 0, 11, 27, 8, 79, 42, 180, 0, 18, 27, 28, 79, 177]] p := seg_gb (S := [[42, 180, 0, 11, 27, 8, 79, 42, 180, 0, 18, 27, 28, 79, 177]]) (by decide +kernel) (by decide +kernel)
set_option maxRecDepth 20000 in
theorem BX8_layBody_1_0 : ∀ q ∈ ([(0, 42), (4, 27), (5, 8), (6, 79), (7, 42), (11, 27), (12, 28), (13, 79), (14, 177)] : List (Nat × Nat)), gb cX8_layBody q.1 = some q.2 := seg_1 SX8_layBody _ (by decide +kernel)
set_option maxRecDepth 20000 in
theorem BX8_layBody_3_0 : ∀ q ∈ ([(1, 180, 0, 11), (8, 180, 0, 18)] : List (Nat × Nat × Nat × Nat)), gb cX8_layBody q.1 = some q.2.1 ∧ gb cX8_layBody (q.1 + 1) = some q.2.2.1 ∧ gb cX8_layBody (q.1 + 2) = some q.2.2.2 := seg_3 SX8_layBody _ (by decide +kernel)
theorem dX8_layBody_0 : decode cX8_layBody 0 = .ok (.aload_n 0, 1) := dk42 (BX8_layBody_1_0 (0, 42) (List.mem_of_getElem? (i := 0) rfl))
theorem dX8_layBody_1 : decode cX8_layBody 1 = .ok (.getfield 11, 3) := dk180 0 11 (BX8_layBody_3_0 (1, 180, 0, 11) (List.mem_of_getElem? (i := 0) rfl))
theorem dX8_layBody_4 : decode cX8_layBody 4 = .ok (.iload_n 1, 1) := dk27 (BX8_layBody_1_0 (4, 27) (List.mem_of_getElem? (i := 1) rfl))
theorem dX8_layBody_5 : decode cX8_layBody 5 = .ok (.iconst 5, 1) := dk8 (BX8_layBody_1_0 (5, 8) (List.mem_of_getElem? (i := 2) rfl))
theorem dX8_layBody_6 : decode cX8_layBody 6 = .ok (.iastore, 1) := dk79 (BX8_layBody_1_0 (6, 79) (List.mem_of_getElem? (i := 3) rfl))
theorem dX8_layBody_7 : decode cX8_layBody 7 = .ok (.aload_n 0, 1) := dk42 (BX8_layBody_1_0 (7, 42) (List.mem_of_getElem? (i := 4) rfl))
theorem dX8_layBody_8 : decode cX8_layBody 8 = .ok (.getfield 18, 3) := dk180 0 18 (BX8_layBody_3_0 (8, 180, 0, 18) (List.mem_of_getElem? (i := 1) rfl))
theorem dX8_layBody_11 : decode cX8_layBody 11 = .ok (.iload_n 1, 1) := dk27 (BX8_layBody_1_0 (11, 27) (List.mem_of_getElem? (i := 5) rfl))
theorem dX8_layBody_12 : decode cX8_layBody 12 = .ok (.iload_n 2, 1) := dk28 (BX8_layBody_1_0 (12, 28) (List.mem_of_getElem? (i := 6) rfl))
theorem dX8_layBody_13 : decode cX8_layBody 13 = .ok (.iastore, 1) := dk79 (BX8_layBody_1_0 (13, 79) (List.mem_of_getElem? (i := 7) rfl))
theorem dX8_layBody_14 : decode cX8_layBody 14 = .ok (.return_, 1) := dk177 (BX8_layBody_1_0 (14, 177) (List.mem_of_getElem? (i := 8) rfl))
set_option maxRecDepth 20000 in
theorem ggX8_layRow_J7_fill_d0a16 : GoodIn wsX8_layRow wsJ7_fill_d0a16 := goodIn_r _ [7] rfl (by decide +kernel)
set_option maxRecDepth 20000 in
theorem gX8_layRow_J7_fill_d0a16 : GoodIn wsX8_layRow (va_wsS RX8 30 yJ7_fill_d0a16 wsJ7_fill_d0a16) := goodIn_app (goodIn_r _ [4, 5, 6] rfl (by decide +kernel)) ggX8_layRow_J7_fill_d0a16
set_option maxRecDepth 20000 in
theorem SX8_layRow : ∀ p : Nat, gb cX8_layRow p = segF [[42, 180, 0, 11, 27, 28, 79, 42, 180, 0, 15, 27, 29, 79, 42, 180, 0, 23, 27, 50, 9, 184, 0, 30, 177]] p := seg_gb (S := [[42, 180, 0, 11, 27, 28, 79, 42, 180, 0, 15, 27, 29, 79, 42, 180, 0, 23, 27, 50, 9, 184, 0, 30, 177]]) (by decide +kernel) (by decide +kernel)
set_option maxRecDepth 20000 in
theorem BX8_layRow_1_0 : ∀ q ∈ ([(0, 42), (4, 27), (5, 28), (6, 79), (7, 42), (11, 27), (12, 29), (13, 79), (14, 42), (18, 27), (19, 50), (20, 9)] : List (Nat × Nat)), gb cX8_layRow q.1 = some q.2 := seg_1 SX8_layRow _ (by decide +kernel)
set_option maxRecDepth 20000 in
theorem BX8_layRow_1_1 : ∀ q ∈ ([(24, 177)] : List (Nat × Nat)), gb cX8_layRow q.1 = some q.2 := seg_1 SX8_layRow _ (by decide +kernel)
set_option maxRecDepth 20000 in
theorem BX8_layRow_3_0 : ∀ q ∈ ([(1, 180, 0, 11), (8, 180, 0, 15), (15, 180, 0, 23), (21, 184, 0, 30)] : List (Nat × Nat × Nat × Nat)), gb cX8_layRow q.1 = some q.2.1 ∧ gb cX8_layRow (q.1 + 1) = some q.2.2.1 ∧ gb cX8_layRow (q.1 + 2) = some q.2.2.2 := seg_3 SX8_layRow _ (by decide +kernel)
theorem dX8_layRow_0 : decode cX8_layRow 0 = .ok (.aload_n 0, 1) := dk42 (BX8_layRow_1_0 (0, 42) (List.mem_of_getElem? (i := 0) rfl))
theorem dX8_layRow_1 : decode cX8_layRow 1 = .ok (.getfield 11, 3) := dk180 0 11 (BX8_layRow_3_0 (1, 180, 0, 11) (List.mem_of_getElem? (i := 0) rfl))
theorem dX8_layRow_4 : decode cX8_layRow 4 = .ok (.iload_n 1, 1) := dk27 (BX8_layRow_1_0 (4, 27) (List.mem_of_getElem? (i := 1) rfl))
theorem dX8_layRow_5 : decode cX8_layRow 5 = .ok (.iload_n 2, 1) := dk28 (BX8_layRow_1_0 (5, 28) (List.mem_of_getElem? (i := 2) rfl))
theorem dX8_layRow_6 : decode cX8_layRow 6 = .ok (.iastore, 1) := dk79 (BX8_layRow_1_0 (6, 79) (List.mem_of_getElem? (i := 3) rfl))
theorem dX8_layRow_7 : decode cX8_layRow 7 = .ok (.aload_n 0, 1) := dk42 (BX8_layRow_1_0 (7, 42) (List.mem_of_getElem? (i := 4) rfl))
theorem dX8_layRow_8 : decode cX8_layRow 8 = .ok (.getfield 15, 3) := dk180 0 15 (BX8_layRow_3_0 (8, 180, 0, 15) (List.mem_of_getElem? (i := 1) rfl))
theorem dX8_layRow_11 : decode cX8_layRow 11 = .ok (.iload_n 1, 1) := dk27 (BX8_layRow_1_0 (11, 27) (List.mem_of_getElem? (i := 5) rfl))
theorem dX8_layRow_12 : decode cX8_layRow 12 = .ok (.iload_n 3, 1) := dk29 (BX8_layRow_1_0 (12, 29) (List.mem_of_getElem? (i := 6) rfl))
theorem dX8_layRow_13 : decode cX8_layRow 13 = .ok (.iastore, 1) := dk79 (BX8_layRow_1_0 (13, 79) (List.mem_of_getElem? (i := 7) rfl))
theorem dX8_layRow_14 : decode cX8_layRow 14 = .ok (.aload_n 0, 1) := dk42 (BX8_layRow_1_0 (14, 42) (List.mem_of_getElem? (i := 8) rfl))
theorem dX8_layRow_15 : decode cX8_layRow 15 = .ok (.getfield 23, 3) := dk180 0 23 (BX8_layRow_3_0 (15, 180, 0, 23) (List.mem_of_getElem? (i := 2) rfl))
theorem dX8_layRow_18 : decode cX8_layRow 18 = .ok (.iload_n 1, 1) := dk27 (BX8_layRow_1_0 (18, 27) (List.mem_of_getElem? (i := 9) rfl))
theorem dX8_layRow_19 : decode cX8_layRow 19 = .ok (.aaload, 1) := dk50 (BX8_layRow_1_0 (19, 50) (List.mem_of_getElem? (i := 10) rfl))
theorem dX8_layRow_20 : decode cX8_layRow 20 = .ok (.lconst 0, 1) := dk9 (BX8_layRow_1_0 (20, 9) (List.mem_of_getElem? (i := 11) rfl))
theorem dX8_layRow_21 : decode cX8_layRow 21 = .ok (.invokestatic 30, 3) := dk184 0 30 (BX8_layRow_3_0 (21, 184, 0, 30) (List.mem_of_getElem? (i := 3) rfl))
theorem dX8_layRow_24 : decode cX8_layRow 24 = .ok (.return_, 1) := dk177 (BX8_layRow_1_1 (24, 177) (List.mem_of_getElem? (i := 0) rfl))
set_option maxRecDepth 20000 in
theorem ggX8_refusal_X8_isShelf : GoodIn wsX8_refusal wsX8_isShelf := goodIn_r _ [7, 1, 8, 9, 10, 15, 16, 17, 18] rfl (by decide +kernel)
set_option maxRecDepth 20000 in
theorem gX8_refusal_X8_isShelf : GoodIn wsX8_refusal (wsV RX8 36 RX8 yX8_isShelf wsX8_isShelf) := goodIn_app (goodIn_r _ [3, 4, 5, 6] rfl (by decide +kernel)) ggX8_refusal_X8_isShelf
set_option maxRecDepth 20000 in
theorem ggX8_refusal_X8_isBare : GoodIn wsX8_refusal wsX8_isBare := goodIn_r _ [14, 1, 15, 16, 17, 18] rfl (by decide +kernel)
set_option maxRecDepth 20000 in
theorem gX8_refusal_X8_isBare : GoodIn wsX8_refusal (wsV RX8 40 RX8 yX8_isBare wsX8_isBare) := goodIn_app (goodIn_r _ [11, 12, 13, 6] rfl (by decide +kernel)) ggX8_refusal_X8_isBare
set_option maxRecDepth 20000 in
theorem ggX8_refusal_X11_within : GoodIn wsX8_refusal wsX11_within := goodIn_r _ [10] rfl (by decide +kernel)
set_option maxRecDepth 20000 in
theorem gX8_refusal_X11_within_n26 : GoodIn wsX8_refusal (wsX11_within) := ggX8_refusal_X11_within
set_option maxRecDepth 20000 in
theorem SX8_refusal : ∀ p : Nat, gb cX8_refusal p = segF [[42, 27, 182, 0, 36, 154, 0, 5, 2, 172, 42, 27, 182, 0, 40, 153, 0, 6, 16, 245, 172, 42, 180, 0, 11, 27, 46, 8, 160, 0, 6, 16, 244, 172, 28, 3, 42, 180, 0, 15, 27, 46, 4, 100, 184, 0, 26, 153, 0, 7, 3, 167, 0, 5, 16, 243, 172]] p := seg_gb (S := [[42, 27, 182, 0, 36, 154, 0, 5, 2, 172, 42, 27, 182, 0, 40, 153, 0, 6, 16, 245, 172, 42, 180, 0, 11, 27, 46, 8, 160, 0, 6, 16, 244, 172, 28, 3, 42, 180, 0, 15, 27, 46, 4, 100, 184, 0, 26, 153, 0, 7, 3, 167, 0, 5, 16, 243, 172]]) (by decide +kernel) (by decide +kernel)
set_option maxRecDepth 20000 in
theorem BX8_refusal_1_0 : ∀ q ∈ ([(0, 42), (1, 27), (8, 2), (9, 172), (10, 42), (11, 27), (20, 172), (21, 42), (25, 27), (26, 46), (27, 8), (33, 172)] : List (Nat × Nat)), gb cX8_refusal q.1 = some q.2 := seg_1 SX8_refusal _ (by decide +kernel)
set_option maxRecDepth 20000 in
theorem BX8_refusal_1_1 : ∀ q ∈ ([(34, 28), (35, 3), (36, 42), (40, 27), (41, 46), (42, 4), (43, 100), (50, 3), (56, 172)] : List (Nat × Nat)), gb cX8_refusal q.1 = some q.2 := seg_1 SX8_refusal _ (by decide +kernel)
set_option maxRecDepth 20000 in
theorem BX8_refusal_2_0 : ∀ q ∈ ([(18, 16, 245), (31, 16, 244), (54, 16, 243)] : List (Nat × Nat × Nat)), gb cX8_refusal q.1 = some q.2.1 ∧ gb cX8_refusal (q.1 + 1) = some q.2.2 := seg_2 SX8_refusal _ (by decide +kernel)
set_option maxRecDepth 20000 in
theorem BX8_refusal_3_0 : ∀ q ∈ ([(2, 182, 0, 36), (5, 154, 0, 5), (12, 182, 0, 40), (15, 153, 0, 6), (22, 180, 0, 11), (28, 160, 0, 6), (37, 180, 0, 15), (44, 184, 0, 26), (47, 153, 0, 7), (51, 167, 0, 5)] : List (Nat × Nat × Nat × Nat)), gb cX8_refusal q.1 = some q.2.1 ∧ gb cX8_refusal (q.1 + 1) = some q.2.2.1 ∧ gb cX8_refusal (q.1 + 2) = some q.2.2.2 := seg_3 SX8_refusal _ (by decide +kernel)
theorem dX8_refusal_0 : decode cX8_refusal 0 = .ok (.aload_n 0, 1) := dk42 (BX8_refusal_1_0 (0, 42) (List.mem_of_getElem? (i := 0) rfl))
theorem dX8_refusal_1 : decode cX8_refusal 1 = .ok (.iload_n 1, 1) := dk27 (BX8_refusal_1_0 (1, 27) (List.mem_of_getElem? (i := 1) rfl))
theorem dX8_refusal_2 : decode cX8_refusal 2 = .ok (.invokevirtual 36, 3) := dk182 0 36 (BX8_refusal_3_0 (2, 182, 0, 36) (List.mem_of_getElem? (i := 0) rfl))
theorem dX8_refusal_5 : decode cX8_refusal 5 = .ok (.ifCond .ne 5, 3) := dk154 0 5 (BX8_refusal_3_0 (5, 154, 0, 5) (List.mem_of_getElem? (i := 1) rfl))
theorem dX8_refusal_8 : decode cX8_refusal 8 = .ok (.iconst (-1), 1) := dk2 (BX8_refusal_1_0 (8, 2) (List.mem_of_getElem? (i := 2) rfl))
theorem dX8_refusal_9 : decode cX8_refusal 9 = .ok (.ireturn, 1) := dk172 (BX8_refusal_1_0 (9, 172) (List.mem_of_getElem? (i := 3) rfl))
theorem dX8_refusal_10 : decode cX8_refusal 10 = .ok (.aload_n 0, 1) := dk42 (BX8_refusal_1_0 (10, 42) (List.mem_of_getElem? (i := 4) rfl))
theorem dX8_refusal_11 : decode cX8_refusal 11 = .ok (.iload_n 1, 1) := dk27 (BX8_refusal_1_0 (11, 27) (List.mem_of_getElem? (i := 5) rfl))
theorem dX8_refusal_12 : decode cX8_refusal 12 = .ok (.invokevirtual 40, 3) := dk182 0 40 (BX8_refusal_3_0 (12, 182, 0, 40) (List.mem_of_getElem? (i := 2) rfl))
theorem dX8_refusal_15 : decode cX8_refusal 15 = .ok (.ifCond .eq 6, 3) := dk153 0 6 (BX8_refusal_3_0 (15, 153, 0, 6) (List.mem_of_getElem? (i := 3) rfl))
theorem dX8_refusal_18 : decode cX8_refusal 18 = .ok (.bipush (-11), 2) := dk16 245 (BX8_refusal_2_0 (18, 16, 245) (List.mem_of_getElem? (i := 0) rfl))
theorem dX8_refusal_20 : decode cX8_refusal 20 = .ok (.ireturn, 1) := dk172 (BX8_refusal_1_0 (20, 172) (List.mem_of_getElem? (i := 6) rfl))
theorem dX8_refusal_21 : decode cX8_refusal 21 = .ok (.aload_n 0, 1) := dk42 (BX8_refusal_1_0 (21, 42) (List.mem_of_getElem? (i := 7) rfl))
theorem dX8_refusal_22 : decode cX8_refusal 22 = .ok (.getfield 11, 3) := dk180 0 11 (BX8_refusal_3_0 (22, 180, 0, 11) (List.mem_of_getElem? (i := 4) rfl))
theorem dX8_refusal_25 : decode cX8_refusal 25 = .ok (.iload_n 1, 1) := dk27 (BX8_refusal_1_0 (25, 27) (List.mem_of_getElem? (i := 8) rfl))
theorem dX8_refusal_26 : decode cX8_refusal 26 = .ok (.iaload, 1) := dk46 (BX8_refusal_1_0 (26, 46) (List.mem_of_getElem? (i := 9) rfl))
theorem dX8_refusal_27 : decode cX8_refusal 27 = .ok (.iconst 5, 1) := dk8 (BX8_refusal_1_0 (27, 8) (List.mem_of_getElem? (i := 10) rfl))
theorem dX8_refusal_28 : decode cX8_refusal 28 = .ok (.if_icmp .ne 6, 3) := dk160 0 6 (BX8_refusal_3_0 (28, 160, 0, 6) (List.mem_of_getElem? (i := 5) rfl))
theorem dX8_refusal_31 : decode cX8_refusal 31 = .ok (.bipush (-12), 2) := dk16 244 (BX8_refusal_2_0 (31, 16, 244) (List.mem_of_getElem? (i := 1) rfl))
theorem dX8_refusal_33 : decode cX8_refusal 33 = .ok (.ireturn, 1) := dk172 (BX8_refusal_1_0 (33, 172) (List.mem_of_getElem? (i := 11) rfl))
theorem dX8_refusal_34 : decode cX8_refusal 34 = .ok (.iload_n 2, 1) := dk28 (BX8_refusal_1_1 (34, 28) (List.mem_of_getElem? (i := 0) rfl))
theorem dX8_refusal_35 : decode cX8_refusal 35 = .ok (.iconst 0, 1) := dk3 (BX8_refusal_1_1 (35, 3) (List.mem_of_getElem? (i := 1) rfl))
theorem dX8_refusal_36 : decode cX8_refusal 36 = .ok (.aload_n 0, 1) := dk42 (BX8_refusal_1_1 (36, 42) (List.mem_of_getElem? (i := 2) rfl))
theorem dX8_refusal_37 : decode cX8_refusal 37 = .ok (.getfield 15, 3) := dk180 0 15 (BX8_refusal_3_0 (37, 180, 0, 15) (List.mem_of_getElem? (i := 6) rfl))
theorem dX8_refusal_40 : decode cX8_refusal 40 = .ok (.iload_n 1, 1) := dk27 (BX8_refusal_1_1 (40, 27) (List.mem_of_getElem? (i := 3) rfl))
theorem dX8_refusal_41 : decode cX8_refusal 41 = .ok (.iaload, 1) := dk46 (BX8_refusal_1_1 (41, 46) (List.mem_of_getElem? (i := 4) rfl))
theorem dX8_refusal_42 : decode cX8_refusal 42 = .ok (.iconst 1, 1) := dk4 (BX8_refusal_1_1 (42, 4) (List.mem_of_getElem? (i := 5) rfl))
theorem dX8_refusal_43 : decode cX8_refusal 43 = .ok (.isub, 1) := dk100 (BX8_refusal_1_1 (43, 100) (List.mem_of_getElem? (i := 6) rfl))
theorem dX8_refusal_44 : decode cX8_refusal 44 = .ok (.invokestatic 26, 3) := dk184 0 26 (BX8_refusal_3_0 (44, 184, 0, 26) (List.mem_of_getElem? (i := 7) rfl))
theorem dX8_refusal_47 : decode cX8_refusal 47 = .ok (.ifCond .eq 7, 3) := dk153 0 7 (BX8_refusal_3_0 (47, 153, 0, 7) (List.mem_of_getElem? (i := 8) rfl))
theorem dX8_refusal_50 : decode cX8_refusal 50 = .ok (.iconst 0, 1) := dk3 (BX8_refusal_1_1 (50, 3) (List.mem_of_getElem? (i := 7) rfl))
theorem dX8_refusal_51 : decode cX8_refusal 51 = .ok (.goto 5, 3) := dk167 0 5 (BX8_refusal_3_0 (51, 167, 0, 5) (List.mem_of_getElem? (i := 9) rfl))
theorem dX8_refusal_54 : decode cX8_refusal 54 = .ok (.bipush (-13), 2) := dk16 243 (BX8_refusal_2_0 (54, 16, 243) (List.mem_of_getElem? (i := 2) rfl))
theorem dX8_refusal_56 : decode cX8_refusal 56 = .ok (.ireturn, 1) := dk172 (BX8_refusal_1_1 (56, 172) (List.mem_of_getElem? (i := 8) rfl))
set_option maxRecDepth 20000 in
theorem SX8_lowBits : ∀ p : Nat, gb cX8_lowBits p = segF [[42, 180, 0, 11, 27, 46, 170, 0, 0, 0, 0, 60, 0, 0, 0, 0, 0, 0, 0, 4, 0, 0, 0, 34, 0, 0, 0, 39, 0, 0, 0, 44, 0, 0, 0, 60, 0, 0, 0, 48, 32, 136, 145, 133, 173, 32, 136, 147, 133, 173, 32, 136, 133, 173, 32, 9, 148, 154, 0, 7, 9, 167, 0, 4], [10, 173, 32, 173]] p := seg_gb (S := [[42, 180, 0, 11, 27, 46, 170, 0, 0, 0, 0, 60, 0, 0, 0, 0, 0, 0, 0, 4, 0, 0, 0, 34, 0, 0, 0, 39, 0, 0, 0, 44, 0, 0, 0, 60, 0, 0, 0, 48, 32, 136, 145, 133, 173, 32, 136, 147, 133, 173, 32, 136, 133, 173, 32, 9, 148, 154, 0, 7, 9, 167, 0, 4], [10, 173, 32, 173]]) (by decide +kernel) (by decide +kernel)
set_option maxRecDepth 20000 in
theorem BX8_lowBits_1_0 : ∀ q ∈ ([(0, 42), (4, 27), (5, 46), (40, 32), (41, 136), (42, 145), (43, 133), (44, 173), (45, 32), (46, 136), (47, 147), (48, 133)] : List (Nat × Nat)), gb cX8_lowBits q.1 = some q.2 := seg_1 SX8_lowBits _ (by decide +kernel)
set_option maxRecDepth 20000 in
theorem BX8_lowBits_1_1 : ∀ q ∈ ([(49, 173), (50, 32), (51, 136), (52, 133), (53, 173), (54, 32), (55, 9), (56, 148), (60, 9), (64, 10), (65, 173), (66, 32)] : List (Nat × Nat)), gb cX8_lowBits q.1 = some q.2 := seg_1 SX8_lowBits _ (by decide +kernel)
set_option maxRecDepth 20000 in
theorem BX8_lowBits_1_2 : ∀ q ∈ ([(67, 173)] : List (Nat × Nat)), gb cX8_lowBits q.1 = some q.2 := seg_1 SX8_lowBits _ (by decide +kernel)
set_option maxRecDepth 20000 in
theorem BX8_lowBits_3_0 : ∀ q ∈ ([(1, 180, 0, 11), (57, 154, 0, 7), (61, 167, 0, 4)] : List (Nat × Nat × Nat × Nat)), gb cX8_lowBits q.1 = some q.2.1 ∧ gb cX8_lowBits (q.1 + 1) = some q.2.2.1 ∧ gb cX8_lowBits (q.1 + 2) = some q.2.2.2 := seg_3 SX8_lowBits _ (by decide +kernel)
theorem dX8_lowBits_0 : decode cX8_lowBits 0 = .ok (.aload_n 0, 1) := dk42 (BX8_lowBits_1_0 (0, 42) (List.mem_of_getElem? (i := 0) rfl))
theorem dX8_lowBits_1 : decode cX8_lowBits 1 = .ok (.getfield 11, 3) := dk180 0 11 (BX8_lowBits_3_0 (1, 180, 0, 11) (List.mem_of_getElem? (i := 0) rfl))
theorem dX8_lowBits_4 : decode cX8_lowBits 4 = .ok (.iload_n 1, 1) := dk27 (BX8_lowBits_1_0 (4, 27) (List.mem_of_getElem? (i := 1) rfl))
theorem dX8_lowBits_5 : decode cX8_lowBits 5 = .ok (.iaload, 1) := dk46 (BX8_lowBits_1_0 (5, 46) (List.mem_of_getElem? (i := 2) rfl))
theorem dX8_lowBits_6 : decode cX8_lowBits 6 = .ok (.tableswitch 60 0 4 #[34, 39, 44, 60, 48], 34) := by decide +kernel
theorem dX8_lowBits_40 : decode cX8_lowBits 40 = .ok (.lload_n 2, 1) := dk32 (BX8_lowBits_1_0 (40, 32) (List.mem_of_getElem? (i := 3) rfl))
theorem dX8_lowBits_41 : decode cX8_lowBits 41 = .ok (.l2i, 1) := dk136 (BX8_lowBits_1_0 (41, 136) (List.mem_of_getElem? (i := 4) rfl))
theorem dX8_lowBits_42 : decode cX8_lowBits 42 = .ok (.i2b, 1) := dk145 (BX8_lowBits_1_0 (42, 145) (List.mem_of_getElem? (i := 5) rfl))
theorem dX8_lowBits_43 : decode cX8_lowBits 43 = .ok (.i2l, 1) := dk133 (BX8_lowBits_1_0 (43, 133) (List.mem_of_getElem? (i := 6) rfl))
theorem dX8_lowBits_44 : decode cX8_lowBits 44 = .ok (.lreturn, 1) := dk173 (BX8_lowBits_1_0 (44, 173) (List.mem_of_getElem? (i := 7) rfl))
theorem dX8_lowBits_45 : decode cX8_lowBits 45 = .ok (.lload_n 2, 1) := dk32 (BX8_lowBits_1_0 (45, 32) (List.mem_of_getElem? (i := 8) rfl))
theorem dX8_lowBits_46 : decode cX8_lowBits 46 = .ok (.l2i, 1) := dk136 (BX8_lowBits_1_0 (46, 136) (List.mem_of_getElem? (i := 9) rfl))
theorem dX8_lowBits_47 : decode cX8_lowBits 47 = .ok (.i2s, 1) := dk147 (BX8_lowBits_1_0 (47, 147) (List.mem_of_getElem? (i := 10) rfl))
theorem dX8_lowBits_48 : decode cX8_lowBits 48 = .ok (.i2l, 1) := dk133 (BX8_lowBits_1_0 (48, 133) (List.mem_of_getElem? (i := 11) rfl))
theorem dX8_lowBits_49 : decode cX8_lowBits 49 = .ok (.lreturn, 1) := dk173 (BX8_lowBits_1_1 (49, 173) (List.mem_of_getElem? (i := 0) rfl))
theorem dX8_lowBits_50 : decode cX8_lowBits 50 = .ok (.lload_n 2, 1) := dk32 (BX8_lowBits_1_1 (50, 32) (List.mem_of_getElem? (i := 1) rfl))
theorem dX8_lowBits_51 : decode cX8_lowBits 51 = .ok (.l2i, 1) := dk136 (BX8_lowBits_1_1 (51, 136) (List.mem_of_getElem? (i := 2) rfl))
theorem dX8_lowBits_52 : decode cX8_lowBits 52 = .ok (.i2l, 1) := dk133 (BX8_lowBits_1_1 (52, 133) (List.mem_of_getElem? (i := 3) rfl))
theorem dX8_lowBits_53 : decode cX8_lowBits 53 = .ok (.lreturn, 1) := dk173 (BX8_lowBits_1_1 (53, 173) (List.mem_of_getElem? (i := 4) rfl))
theorem dX8_lowBits_54 : decode cX8_lowBits 54 = .ok (.lload_n 2, 1) := dk32 (BX8_lowBits_1_1 (54, 32) (List.mem_of_getElem? (i := 5) rfl))
theorem dX8_lowBits_55 : decode cX8_lowBits 55 = .ok (.lconst 0, 1) := dk9 (BX8_lowBits_1_1 (55, 9) (List.mem_of_getElem? (i := 6) rfl))
theorem dX8_lowBits_56 : decode cX8_lowBits 56 = .ok (.lcmp, 1) := dk148 (BX8_lowBits_1_1 (56, 148) (List.mem_of_getElem? (i := 7) rfl))
theorem dX8_lowBits_57 : decode cX8_lowBits 57 = .ok (.ifCond .ne 7, 3) := dk154 0 7 (BX8_lowBits_3_0 (57, 154, 0, 7) (List.mem_of_getElem? (i := 1) rfl))
theorem dX8_lowBits_60 : decode cX8_lowBits 60 = .ok (.lconst 0, 1) := dk9 (BX8_lowBits_1_1 (60, 9) (List.mem_of_getElem? (i := 8) rfl))
theorem dX8_lowBits_61 : decode cX8_lowBits 61 = .ok (.goto 4, 3) := dk167 0 4 (BX8_lowBits_3_0 (61, 167, 0, 4) (List.mem_of_getElem? (i := 2) rfl))
theorem dX8_lowBits_64 : decode cX8_lowBits 64 = .ok (.lconst 1, 1) := dk10 (BX8_lowBits_1_1 (64, 10) (List.mem_of_getElem? (i := 9) rfl))
theorem dX8_lowBits_65 : decode cX8_lowBits 65 = .ok (.lreturn, 1) := dk173 (BX8_lowBits_1_1 (65, 173) (List.mem_of_getElem? (i := 10) rfl))
theorem dX8_lowBits_66 : decode cX8_lowBits 66 = .ok (.lload_n 2, 1) := dk32 (BX8_lowBits_1_1 (66, 32) (List.mem_of_getElem? (i := 11) rfl))
theorem dX8_lowBits_67 : decode cX8_lowBits 67 = .ok (.lreturn, 1) := dk173 (BX8_lowBits_1_2 (67, 173) (List.mem_of_getElem? (i := 0) rfl))
set_option maxRecDepth 20000 in
theorem ggX11_init_X7_init : GoodIn wsX11_init wsX7_init := gcons (goodIn_g ch_wsX11_init_flat gd_wsX11_init _ [(3, 2)] rfl) (goodIn_app (goodIn_g ch_wsX11_init_flat gd_wsX11_init _ [(3, 3), (1, 1), (1, 2), (2, 23), (3, 4), (3, 5), (3, 6), (3, 7), (3, 8), (3, 9)] rfl) (gchunk ch_wsX11_init_flat gd_wsX11_init 8 rfl))
set_option maxRecDepth 20000 in
theorem gX11_init_X7_init_n9 : GoodIn wsX11_init (wsX7_init) := ggX11_init_X7_init
set_option maxRecDepth 20000 in
theorem ggX11_init_X5_init : GoodIn wsX11_init wsX5_init := gcons (goodIn_g ch_wsX11_init_flat gd_wsX11_init _ [(3, 11)] rfl) (goodIn_app (goodIn_g ch_wsX11_init_flat gd_wsX11_init _ [(3, 12), (1, 1), (1, 2), (2, 23), (3, 13), (3, 14), (3, 15)] rfl) (gchunk ch_wsX11_init_flat gd_wsX11_init 10 rfl))
set_option maxRecDepth 20000 in
theorem gX11_init_X5_init_n18 : GoodIn wsX11_init (wsX5_init) := ggX11_init_X5_init
set_option maxRecDepth 20000 in
theorem ggX11_init_X3_init : GoodIn wsX11_init wsX3_init := gcons (goodIn_g ch_wsX11_init_flat gd_wsX11_init _ [(3, 17)] rfl) (goodIn_app (goodIn_g ch_wsX11_init_flat gd_wsX11_init _ [(3, 18), (1, 1), (1, 2), (2, 23), (3, 19), (3, 20), (3, 21), (3, 22), (3, 23), (4, 0), (4, 1), (4, 2)] rfl) (gchunk ch_wsX11_init_flat gd_wsX11_init 11 rfl))
set_option maxRecDepth 20000 in
theorem gX11_init_X3_init_n25 : GoodIn wsX11_init (wsX3_init) := ggX11_init_X3_init
set_option maxRecDepth 20000 in
theorem ggX11_init_X2_init : GoodIn wsX11_init wsX2_init := gcons (goodIn_g ch_wsX11_init_flat gd_wsX11_init _ [(4, 4)] rfl) (goodIn_app (goodIn_g ch_wsX11_init_flat gd_wsX11_init _ [(4, 5), (1, 1), (1, 2), (2, 23), (4, 6), (4, 7), (4, 8), (4, 9), (4, 10), (4, 11), (4, 12)] rfl) (gchunk ch_wsX11_init_flat gd_wsX11_init 12 rfl))
set_option maxRecDepth 20000 in
theorem gX11_init_X2_init_n32 : GoodIn wsX11_init (wsX2_init) := ggX11_init_X2_init
set_option maxRecDepth 20000 in
theorem ggX11_init_X6_init : GoodIn wsX11_init wsX6_init := gcons (goodIn_g ch_wsX11_init_flat gd_wsX11_init _ [(4, 14)] rfl) (goodIn_app (goodIn_g ch_wsX11_init_flat gd_wsX11_init _ [(4, 15), (1, 1), (1, 2), (2, 23), (4, 16), (4, 17), (4, 18)] rfl) (gchunk ch_wsX11_init_flat gd_wsX11_init 13 rfl))
set_option maxRecDepth 20000 in
theorem gX11_init_X6_init_n39 : GoodIn wsX11_init (wsX6_init) := ggX11_init_X6_init
set_option maxRecDepth 20000 in
theorem ggX11_init_X4_init : GoodIn wsX11_init wsX4_init := gcons (goodIn_g ch_wsX11_init_flat gd_wsX11_init _ [(4, 20)] rfl) (goodIn_app (goodIn_g ch_wsX11_init_flat gd_wsX11_init _ [(4, 21), (1, 1), (1, 2), (2, 23), (4, 22), (4, 23)] rfl) (gchunk ch_wsX11_init_flat gd_wsX11_init 14 rfl))
set_option maxRecDepth 20000 in
theorem gX11_init_X4_init_n46 : GoodIn wsX11_init (wsX4_init) := ggX11_init_X4_init
set_option maxRecDepth 20000 in
theorem ggX11_init_X10_init : GoodIn wsX11_init wsX10_init := gcons (goodIn_g ch_wsX11_init_flat gd_wsX11_init _ [(5, 1)] rfl) (goodIn_app (goodIn_g ch_wsX11_init_flat gd_wsX11_init _ [(5, 2), (1, 1), (1, 2), (5, 3), (5, 4), (2, 23), (5, 5)] rfl) (gchunk ch_wsX11_init_flat gd_wsX11_init 15 rfl))
set_option maxRecDepth 20000 in
theorem gX11_init_X10_init_n53 : GoodIn wsX11_init (wsX10_init) := ggX11_init_X10_init
set_option maxRecDepth 20000 in
theorem ggX11_init_X9_init : GoodIn wsX11_init wsX9_init := gcons (goodIn_g ch_wsX11_init_flat gd_wsX11_init _ [(5, 7)] rfl) (goodIn_app (goodIn_g ch_wsX11_init_flat gd_wsX11_init _ [(5, 8), (1, 1), (1, 2), (2, 23), (5, 9), (5, 10), (5, 11), (5, 12), (5, 13), (5, 14), (5, 15)] rfl) (gchunk ch_wsX11_init_flat gd_wsX11_init 16 rfl))
set_option maxRecDepth 20000 in
theorem gX11_init_X9_init_n60 : GoodIn wsX11_init (wsX9_init) := ggX11_init_X9_init
set_option maxRecDepth 20000 in
theorem ggX11_init_X1_init : GoodIn wsX11_init wsX1_init := gcons (goodIn_g ch_wsX11_init_flat gd_wsX11_init _ [(5, 17)] rfl) (goodIn_app (goodIn_g ch_wsX11_init_flat gd_wsX11_init _ [(5, 18), (1, 1), (1, 2), (2, 23), (5, 19), (5, 20), (5, 21), (5, 22)] rfl) (gchunk ch_wsX11_init_flat gd_wsX11_init 17 rfl))
set_option maxRecDepth 20000 in
theorem gX11_init_X1_init_n67 : GoodIn wsX11_init (wsX1_init) := ggX11_init_X1_init
set_option maxRecDepth 20000 in
theorem ggX11_init_X0_init : GoodIn wsX11_init wsX0_init := gcons (goodIn_g ch_wsX11_init_flat gd_wsX11_init _ [(6, 0)] rfl) (goodIn_app (goodIn_g ch_wsX11_init_flat gd_wsX11_init _ [(6, 1), (1, 1), (1, 2), (2, 23), (6, 2), (6, 3)] rfl) (gchunk ch_wsX11_init_flat gd_wsX11_init 18 rfl))
set_option maxRecDepth 20000 in
theorem gX11_init_X0_init_n74 : GoodIn wsX11_init (wsX0_init) := ggX11_init_X0_init
set_option maxRecDepth 20000 in
theorem ggX11_init_X8_init : GoodIn wsX11_init wsX8_init := gcons (goodIn_g ch_wsX11_init_flat gd_wsX11_init _ [(6, 5)] rfl) (goodIn_app (goodIn_g ch_wsX11_init_flat gd_wsX11_init _ [(6, 6), (1, 1), (1, 2), (2, 23), (6, 7), (6, 8), (6, 9), (6, 10), (6, 11), (6, 12)] rfl) (gchunk ch_wsX11_init_flat gd_wsX11_init 19 rfl))
set_option maxRecDepth 20000 in
theorem gX11_init_X8_init_n81 : GoodIn wsX11_init (wsX8_init) := ggX11_init_X8_init
set_option maxRecDepth 20000 in
theorem ggX11_init_J0_length_8abf5 : GoodIn wsX11_init wsJ0_length_8abf5 := goodIn_g ch_wsX11_init_flat gd_wsX11_init _ [(6, 17), (6, 18), (6, 19), (6, 20), (6, 21), (6, 16), (6, 22), (6, 23), (7, 0)] rfl
set_option maxRecDepth 20000 in
theorem gX11_init_J0_length_8abf5 : GoodIn wsX11_init (wsV RX11 88 RJ0 yJ0_length_8abf5 wsJ0_length_8abf5) := goodIn_app (goodIn_g ch_wsX11_init_flat gd_wsX11_init _ [(6, 13), (6, 14), (6, 15), (6, 16)] rfl) ggX11_init_J0_length_8abf5
set_option maxRecDepth 20000 in
theorem SX11_init : ∀ p : Nat, gb cX11_init p = segF [[42, 183, 0, 1, 42, 187, 0, 7, 89, 183, 0, 9, 181, 0, 10, 42, 187, 0, 16, 89, 183, 0, 18, 181, 0, 19, 42, 187, 0, 23, 89, 183, 0, 25, 181, 0, 26, 42, 187, 0, 30, 89, 183, 0, 32, 181, 0, 33, 42, 187, 0, 37, 89, 183, 0, 39, 181, 0, 40, 42, 187, 0, 44, 89], [183, 0, 46, 181, 0, 47, 42, 187, 0, 51, 89, 183, 0, 53, 181, 0, 54, 42, 187, 0, 58, 89, 183, 0, 60, 181, 0, 61, 42, 187, 0, 65, 89, 183, 0, 67, 181, 0, 68, 42, 187, 0, 72, 89, 183, 0, 74, 181, 0, 75, 42, 187, 0, 79, 89, 183, 0, 81, 181, 0, 82, 42, 18, 86], [182, 0, 88, 188, 10, 181, 0, 94, 177]] p := seg_gb (S := [[42, 183, 0, 1, 42, 187, 0, 7, 89, 183, 0, 9, 181, 0, 10, 42, 187, 0, 16, 89, 183, 0, 18, 181, 0, 19, 42, 187, 0, 23, 89, 183, 0, 25, 181, 0, 26, 42, 187, 0, 30, 89, 183, 0, 32, 181, 0, 33, 42, 187, 0, 37, 89, 183, 0, 39, 181, 0, 40, 42, 187, 0, 44, 89], [183, 0, 46, 181, 0, 47, 42, 187, 0, 51, 89, 183, 0, 53, 181, 0, 54, 42, 187, 0, 58, 89, 183, 0, 60, 181, 0, 61, 42, 187, 0, 65, 89, 183, 0, 67, 181, 0, 68, 42, 187, 0, 72, 89, 183, 0, 74, 181, 0, 75, 42, 187, 0, 79, 89, 183, 0, 81, 181, 0, 82, 42, 18, 86], [182, 0, 88, 188, 10, 181, 0, 94, 177]]) (by decide +kernel) (by decide +kernel)
set_option maxRecDepth 20000 in
theorem BX11_init_1_0 : ∀ q ∈ ([(0, 42), (4, 42), (8, 89), (15, 42), (19, 89), (26, 42), (30, 89), (37, 42), (41, 89), (48, 42), (52, 89), (59, 42)] : List (Nat × Nat)), gb cX11_init q.1 = some q.2 := seg_1 SX11_init _ (by decide +kernel)
set_option maxRecDepth 20000 in
theorem BX11_init_1_1 : ∀ q ∈ ([(63, 89), (70, 42), (74, 89), (81, 42), (85, 89), (92, 42), (96, 89), (103, 42), (107, 89), (114, 42), (118, 89), (125, 42)] : List (Nat × Nat)), gb cX11_init q.1 = some q.2 := seg_1 SX11_init _ (by decide +kernel)
set_option maxRecDepth 20000 in
theorem BX11_init_1_2 : ∀ q ∈ ([(136, 177)] : List (Nat × Nat)), gb cX11_init q.1 = some q.2 := seg_1 SX11_init _ (by decide +kernel)
set_option maxRecDepth 20000 in
theorem BX11_init_2_0 : ∀ q ∈ ([(126, 18, 86), (131, 188, 10)] : List (Nat × Nat × Nat)), gb cX11_init q.1 = some q.2.1 ∧ gb cX11_init (q.1 + 1) = some q.2.2 := seg_2 SX11_init _ (by decide +kernel)
set_option maxRecDepth 20000 in
theorem BX11_init_3_0 : ∀ q ∈ ([(1, 183, 0, 1), (5, 187, 0, 7), (9, 183, 0, 9), (12, 181, 0, 10), (16, 187, 0, 16), (20, 183, 0, 18), (23, 181, 0, 19), (27, 187, 0, 23), (31, 183, 0, 25), (34, 181, 0, 26), (38, 187, 0, 30), (42, 183, 0, 32)] : List (Nat × Nat × Nat × Nat)), gb cX11_init q.1 = some q.2.1 ∧ gb cX11_init (q.1 + 1) = some q.2.2.1 ∧ gb cX11_init (q.1 + 2) = some q.2.2.2 := seg_3 SX11_init _ (by decide +kernel)
set_option maxRecDepth 20000 in
theorem BX11_init_3_1 : ∀ q ∈ ([(45, 181, 0, 33), (49, 187, 0, 37), (53, 183, 0, 39), (56, 181, 0, 40), (60, 187, 0, 44), (64, 183, 0, 46), (67, 181, 0, 47), (71, 187, 0, 51), (75, 183, 0, 53), (78, 181, 0, 54), (82, 187, 0, 58), (86, 183, 0, 60)] : List (Nat × Nat × Nat × Nat)), gb cX11_init q.1 = some q.2.1 ∧ gb cX11_init (q.1 + 1) = some q.2.2.1 ∧ gb cX11_init (q.1 + 2) = some q.2.2.2 := seg_3 SX11_init _ (by decide +kernel)
set_option maxRecDepth 20000 in
theorem BX11_init_3_2 : ∀ q ∈ ([(89, 181, 0, 61), (93, 187, 0, 65), (97, 183, 0, 67), (100, 181, 0, 68), (104, 187, 0, 72), (108, 183, 0, 74), (111, 181, 0, 75), (115, 187, 0, 79), (119, 183, 0, 81), (122, 181, 0, 82), (128, 182, 0, 88), (133, 181, 0, 94)] : List (Nat × Nat × Nat × Nat)), gb cX11_init q.1 = some q.2.1 ∧ gb cX11_init (q.1 + 1) = some q.2.2.1 ∧ gb cX11_init (q.1 + 2) = some q.2.2.2 := seg_3 SX11_init _ (by decide +kernel)
theorem dX11_init_0 : decode cX11_init 0 = .ok (.aload_n 0, 1) := dk42 (BX11_init_1_0 (0, 42) (List.mem_of_getElem? (i := 0) rfl))
theorem dX11_init_1 : decode cX11_init 1 = .ok (.invokespecial 1, 3) := dk183 0 1 (BX11_init_3_0 (1, 183, 0, 1) (List.mem_of_getElem? (i := 0) rfl))
theorem dX11_init_4 : decode cX11_init 4 = .ok (.aload_n 0, 1) := dk42 (BX11_init_1_0 (4, 42) (List.mem_of_getElem? (i := 1) rfl))
theorem dX11_init_5 : decode cX11_init 5 = .ok (.new 7, 3) := dk187 0 7 (BX11_init_3_0 (5, 187, 0, 7) (List.mem_of_getElem? (i := 1) rfl))
theorem dX11_init_8 : decode cX11_init 8 = .ok (.dup, 1) := dk89 (BX11_init_1_0 (8, 89) (List.mem_of_getElem? (i := 2) rfl))
theorem dX11_init_9 : decode cX11_init 9 = .ok (.invokespecial 9, 3) := dk183 0 9 (BX11_init_3_0 (9, 183, 0, 9) (List.mem_of_getElem? (i := 2) rfl))
theorem dX11_init_12 : decode cX11_init 12 = .ok (.putfield 10, 3) := dk181 0 10 (BX11_init_3_0 (12, 181, 0, 10) (List.mem_of_getElem? (i := 3) rfl))
theorem dX11_init_15 : decode cX11_init 15 = .ok (.aload_n 0, 1) := dk42 (BX11_init_1_0 (15, 42) (List.mem_of_getElem? (i := 3) rfl))
theorem dX11_init_16 : decode cX11_init 16 = .ok (.new 16, 3) := dk187 0 16 (BX11_init_3_0 (16, 187, 0, 16) (List.mem_of_getElem? (i := 4) rfl))
theorem dX11_init_19 : decode cX11_init 19 = .ok (.dup, 1) := dk89 (BX11_init_1_0 (19, 89) (List.mem_of_getElem? (i := 4) rfl))
theorem dX11_init_20 : decode cX11_init 20 = .ok (.invokespecial 18, 3) := dk183 0 18 (BX11_init_3_0 (20, 183, 0, 18) (List.mem_of_getElem? (i := 5) rfl))
theorem dX11_init_23 : decode cX11_init 23 = .ok (.putfield 19, 3) := dk181 0 19 (BX11_init_3_0 (23, 181, 0, 19) (List.mem_of_getElem? (i := 6) rfl))
theorem dX11_init_26 : decode cX11_init 26 = .ok (.aload_n 0, 1) := dk42 (BX11_init_1_0 (26, 42) (List.mem_of_getElem? (i := 5) rfl))
theorem dX11_init_27 : decode cX11_init 27 = .ok (.new 23, 3) := dk187 0 23 (BX11_init_3_0 (27, 187, 0, 23) (List.mem_of_getElem? (i := 7) rfl))
theorem dX11_init_30 : decode cX11_init 30 = .ok (.dup, 1) := dk89 (BX11_init_1_0 (30, 89) (List.mem_of_getElem? (i := 6) rfl))
theorem dX11_init_31 : decode cX11_init 31 = .ok (.invokespecial 25, 3) := dk183 0 25 (BX11_init_3_0 (31, 183, 0, 25) (List.mem_of_getElem? (i := 8) rfl))
theorem dX11_init_34 : decode cX11_init 34 = .ok (.putfield 26, 3) := dk181 0 26 (BX11_init_3_0 (34, 181, 0, 26) (List.mem_of_getElem? (i := 9) rfl))
theorem dX11_init_37 : decode cX11_init 37 = .ok (.aload_n 0, 1) := dk42 (BX11_init_1_0 (37, 42) (List.mem_of_getElem? (i := 7) rfl))
theorem dX11_init_38 : decode cX11_init 38 = .ok (.new 30, 3) := dk187 0 30 (BX11_init_3_0 (38, 187, 0, 30) (List.mem_of_getElem? (i := 10) rfl))
theorem dX11_init_41 : decode cX11_init 41 = .ok (.dup, 1) := dk89 (BX11_init_1_0 (41, 89) (List.mem_of_getElem? (i := 8) rfl))
theorem dX11_init_42 : decode cX11_init 42 = .ok (.invokespecial 32, 3) := dk183 0 32 (BX11_init_3_0 (42, 183, 0, 32) (List.mem_of_getElem? (i := 11) rfl))
theorem dX11_init_45 : decode cX11_init 45 = .ok (.putfield 33, 3) := dk181 0 33 (BX11_init_3_1 (45, 181, 0, 33) (List.mem_of_getElem? (i := 0) rfl))
theorem dX11_init_48 : decode cX11_init 48 = .ok (.aload_n 0, 1) := dk42 (BX11_init_1_0 (48, 42) (List.mem_of_getElem? (i := 9) rfl))
theorem dX11_init_49 : decode cX11_init 49 = .ok (.new 37, 3) := dk187 0 37 (BX11_init_3_1 (49, 187, 0, 37) (List.mem_of_getElem? (i := 1) rfl))
theorem dX11_init_52 : decode cX11_init 52 = .ok (.dup, 1) := dk89 (BX11_init_1_0 (52, 89) (List.mem_of_getElem? (i := 10) rfl))
theorem dX11_init_53 : decode cX11_init 53 = .ok (.invokespecial 39, 3) := dk183 0 39 (BX11_init_3_1 (53, 183, 0, 39) (List.mem_of_getElem? (i := 2) rfl))
theorem dX11_init_56 : decode cX11_init 56 = .ok (.putfield 40, 3) := dk181 0 40 (BX11_init_3_1 (56, 181, 0, 40) (List.mem_of_getElem? (i := 3) rfl))
theorem dX11_init_59 : decode cX11_init 59 = .ok (.aload_n 0, 1) := dk42 (BX11_init_1_0 (59, 42) (List.mem_of_getElem? (i := 11) rfl))
theorem dX11_init_60 : decode cX11_init 60 = .ok (.new 44, 3) := dk187 0 44 (BX11_init_3_1 (60, 187, 0, 44) (List.mem_of_getElem? (i := 4) rfl))
theorem dX11_init_63 : decode cX11_init 63 = .ok (.dup, 1) := dk89 (BX11_init_1_1 (63, 89) (List.mem_of_getElem? (i := 0) rfl))
theorem dX11_init_64 : decode cX11_init 64 = .ok (.invokespecial 46, 3) := dk183 0 46 (BX11_init_3_1 (64, 183, 0, 46) (List.mem_of_getElem? (i := 5) rfl))
theorem dX11_init_67 : decode cX11_init 67 = .ok (.putfield 47, 3) := dk181 0 47 (BX11_init_3_1 (67, 181, 0, 47) (List.mem_of_getElem? (i := 6) rfl))
theorem dX11_init_70 : decode cX11_init 70 = .ok (.aload_n 0, 1) := dk42 (BX11_init_1_1 (70, 42) (List.mem_of_getElem? (i := 1) rfl))
theorem dX11_init_71 : decode cX11_init 71 = .ok (.new 51, 3) := dk187 0 51 (BX11_init_3_1 (71, 187, 0, 51) (List.mem_of_getElem? (i := 7) rfl))
theorem dX11_init_74 : decode cX11_init 74 = .ok (.dup, 1) := dk89 (BX11_init_1_1 (74, 89) (List.mem_of_getElem? (i := 2) rfl))
theorem dX11_init_75 : decode cX11_init 75 = .ok (.invokespecial 53, 3) := dk183 0 53 (BX11_init_3_1 (75, 183, 0, 53) (List.mem_of_getElem? (i := 8) rfl))
theorem dX11_init_78 : decode cX11_init 78 = .ok (.putfield 54, 3) := dk181 0 54 (BX11_init_3_1 (78, 181, 0, 54) (List.mem_of_getElem? (i := 9) rfl))
theorem dX11_init_81 : decode cX11_init 81 = .ok (.aload_n 0, 1) := dk42 (BX11_init_1_1 (81, 42) (List.mem_of_getElem? (i := 3) rfl))
theorem dX11_init_82 : decode cX11_init 82 = .ok (.new 58, 3) := dk187 0 58 (BX11_init_3_1 (82, 187, 0, 58) (List.mem_of_getElem? (i := 10) rfl))
theorem dX11_init_85 : decode cX11_init 85 = .ok (.dup, 1) := dk89 (BX11_init_1_1 (85, 89) (List.mem_of_getElem? (i := 4) rfl))
theorem dX11_init_86 : decode cX11_init 86 = .ok (.invokespecial 60, 3) := dk183 0 60 (BX11_init_3_1 (86, 183, 0, 60) (List.mem_of_getElem? (i := 11) rfl))
theorem dX11_init_89 : decode cX11_init 89 = .ok (.putfield 61, 3) := dk181 0 61 (BX11_init_3_2 (89, 181, 0, 61) (List.mem_of_getElem? (i := 0) rfl))
theorem dX11_init_92 : decode cX11_init 92 = .ok (.aload_n 0, 1) := dk42 (BX11_init_1_1 (92, 42) (List.mem_of_getElem? (i := 5) rfl))
theorem dX11_init_93 : decode cX11_init 93 = .ok (.new 65, 3) := dk187 0 65 (BX11_init_3_2 (93, 187, 0, 65) (List.mem_of_getElem? (i := 1) rfl))
theorem dX11_init_96 : decode cX11_init 96 = .ok (.dup, 1) := dk89 (BX11_init_1_1 (96, 89) (List.mem_of_getElem? (i := 6) rfl))
theorem dX11_init_97 : decode cX11_init 97 = .ok (.invokespecial 67, 3) := dk183 0 67 (BX11_init_3_2 (97, 183, 0, 67) (List.mem_of_getElem? (i := 2) rfl))
theorem dX11_init_100 : decode cX11_init 100 = .ok (.putfield 68, 3) := dk181 0 68 (BX11_init_3_2 (100, 181, 0, 68) (List.mem_of_getElem? (i := 3) rfl))
theorem dX11_init_103 : decode cX11_init 103 = .ok (.aload_n 0, 1) := dk42 (BX11_init_1_1 (103, 42) (List.mem_of_getElem? (i := 7) rfl))
theorem dX11_init_104 : decode cX11_init 104 = .ok (.new 72, 3) := dk187 0 72 (BX11_init_3_2 (104, 187, 0, 72) (List.mem_of_getElem? (i := 4) rfl))
theorem dX11_init_107 : decode cX11_init 107 = .ok (.dup, 1) := dk89 (BX11_init_1_1 (107, 89) (List.mem_of_getElem? (i := 8) rfl))
theorem dX11_init_108 : decode cX11_init 108 = .ok (.invokespecial 74, 3) := dk183 0 74 (BX11_init_3_2 (108, 183, 0, 74) (List.mem_of_getElem? (i := 5) rfl))
theorem dX11_init_111 : decode cX11_init 111 = .ok (.putfield 75, 3) := dk181 0 75 (BX11_init_3_2 (111, 181, 0, 75) (List.mem_of_getElem? (i := 6) rfl))
theorem dX11_init_114 : decode cX11_init 114 = .ok (.aload_n 0, 1) := dk42 (BX11_init_1_1 (114, 42) (List.mem_of_getElem? (i := 9) rfl))
theorem dX11_init_115 : decode cX11_init 115 = .ok (.new 79, 3) := dk187 0 79 (BX11_init_3_2 (115, 187, 0, 79) (List.mem_of_getElem? (i := 7) rfl))
theorem dX11_init_118 : decode cX11_init 118 = .ok (.dup, 1) := dk89 (BX11_init_1_1 (118, 89) (List.mem_of_getElem? (i := 10) rfl))
theorem dX11_init_119 : decode cX11_init 119 = .ok (.invokespecial 81, 3) := dk183 0 81 (BX11_init_3_2 (119, 183, 0, 81) (List.mem_of_getElem? (i := 8) rfl))
theorem dX11_init_122 : decode cX11_init 122 = .ok (.putfield 82, 3) := dk181 0 82 (BX11_init_3_2 (122, 181, 0, 82) (List.mem_of_getElem? (i := 9) rfl))
theorem dX11_init_125 : decode cX11_init 125 = .ok (.aload_n 0, 1) := dk42 (BX11_init_1_1 (125, 42) (List.mem_of_getElem? (i := 11) rfl))
theorem dX11_init_126 : decode cX11_init 126 = .ok (.ldc 86, 2) := dk18 86 (BX11_init_2_0 (126, 18, 86) (List.mem_of_getElem? (i := 0) rfl))
theorem dX11_init_128 : decode cX11_init 128 = .ok (.invokevirtual 88, 3) := dk182 0 88 (BX11_init_3_2 (128, 182, 0, 88) (List.mem_of_getElem? (i := 10) rfl))
theorem dX11_init_131 : decode cX11_init 131 = .ok (.newarray .int, 2) := dk188_10 (BX11_init_2_0 (131, 188, 10) (List.mem_of_getElem? (i := 1) rfl))
theorem dX11_init_133 : decode cX11_init 133 = .ok (.putfield 94, 3) := dk181 0 94 (BX11_init_3_2 (133, 181, 0, 94) (List.mem_of_getElem? (i := 11) rfl))
theorem dX11_init_136 : decode cX11_init 136 = .ok (.return_, 1) := dk177 (BX11_init_1_2 (136, 177) (List.mem_of_getElem? (i := 0) rfl))
