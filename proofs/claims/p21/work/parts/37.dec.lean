theorem dX0_init_0 : decode cX0_init 0 = .ok (.aload_n 0, 1) := by decide +kernel
theorem dX0_init_1 : decode cX0_init 1 = .ok (.invokespecial 3, 3) := by decide +kernel
theorem dX0_init_4 : decode cX0_init 4 = .ok (.aload_n 0, 1) := by decide +kernel
theorem dX0_init_5 : decode cX0_init 5 = .ok (.bipush 50, 2) := by decide +kernel
theorem dX0_init_7 : decode cX0_init 7 = .ok (.newarray .int, 2) := by decide +kernel
theorem dX0_init_9 : decode cX0_init 9 = .ok (.putfield 9, 3) := by decide +kernel
theorem dX0_init_12 : decode cX0_init 12 = .ok (.aload_n 0, 1) := by decide +kernel
theorem dX0_init_13 : decode cX0_init 13 = .ok (.bipush 24, 2) := by decide +kernel
theorem dX0_init_15 : decode cX0_init 15 = .ok (.newarray .int, 2) := by decide +kernel
theorem dX0_init_17 : decode cX0_init 17 = .ok (.putfield 15, 3) := by decide +kernel
theorem dX0_init_20 : decode cX0_init 20 = .ok (.return_, 1) := by decide +kernel
set_option maxRecDepth 20000 in
theorem ggX0_isBody_X11_within : GoodIn wsX0_isBody wsX11_within := goodIn_r _ [4] rfl (by decide +kernel)
set_option maxRecDepth 20000 in
theorem gX0_isBody_X11_within_n22 : GoodIn wsX0_isBody (wsX11_within) := ggX0_isBody_X11_within
theorem dX0_isBody_0 : decode cX0_isBody 0 = .ok (.iload_n 1, 1) := by decide +kernel
theorem dX0_isBody_1 : decode cX0_isBody 1 = .ok (.iconst 0, 1) := by decide +kernel
theorem dX0_isBody_2 : decode cX0_isBody 2 = .ok (.aload_n 0, 1) := by decide +kernel
theorem dX0_isBody_3 : decode cX0_isBody 3 = .ok (.getfield 18, 3) := by decide +kernel
theorem dX0_isBody_6 : decode cX0_isBody 6 = .ok (.iconst 1, 1) := by decide +kernel
theorem dX0_isBody_7 : decode cX0_isBody 7 = .ok (.isub, 1) := by decide +kernel
theorem dX0_isBody_8 : decode cX0_isBody 8 = .ok (.invokestatic 22, 3) := by decide +kernel
theorem dX0_isBody_11 : decode cX0_isBody 11 = .ok (.ireturn, 1) := by decide +kernel
theorem dX0_add_0 : decode cX0_add 0 = .ok (.aload_n 0, 1) := by decide +kernel
theorem dX0_add_1 : decode cX0_add 1 = .ok (.getfield 18, 3) := by decide +kernel
theorem dX0_add_4 : decode cX0_add 4 = .ok (.aload_n 0, 1) := by decide +kernel
theorem dX0_add_5 : decode cX0_add 5 = .ok (.getfield 9, 3) := by decide +kernel
theorem dX0_add_8 : decode cX0_add 8 = .ok (.arraylength, 1) := by decide +kernel
theorem dX0_add_9 : decode cX0_add 9 = .ok (.if_icmp .ne 6, 3) := by decide +kernel
theorem dX0_add_12 : decode cX0_add 12 = .ok (.bipush (-3), 2) := by decide +kernel
theorem dX0_add_14 : decode cX0_add 14 = .ok (.ireturn, 1) := by decide +kernel
theorem dX0_add_15 : decode cX0_add 15 = .ok (.aload_n 0, 1) := by decide +kernel
theorem dX0_add_16 : decode cX0_add 16 = .ok (.getfield 9, 3) := by decide +kernel
theorem dX0_add_19 : decode cX0_add 19 = .ok (.aload_n 0, 1) := by decide +kernel
theorem dX0_add_20 : decode cX0_add 20 = .ok (.getfield 18, 3) := by decide +kernel
theorem dX0_add_23 : decode cX0_add 23 = .ok (.iload_n 1, 1) := by decide +kernel
theorem dX0_add_24 : decode cX0_add 24 = .ok (.iastore, 1) := by decide +kernel
theorem dX0_add_25 : decode cX0_add 25 = .ok (.aload_n 0, 1) := by decide +kernel
theorem dX0_add_26 : decode cX0_add 26 = .ok (.dup, 1) := by decide +kernel
theorem dX0_add_27 : decode cX0_add 27 = .ok (.getfield 18, 3) := by decide +kernel
theorem dX0_add_30 : decode cX0_add 30 = .ok (.dup_x1, 1) := by decide +kernel
theorem dX0_add_31 : decode cX0_add 31 = .ok (.iconst 1, 1) := by decide +kernel
theorem dX0_add_32 : decode cX0_add 32 = .ok (.iadd, 1) := by decide +kernel
theorem dX0_add_33 : decode cX0_add 33 = .ok (.putfield 18, 3) := by decide +kernel
theorem dX0_add_36 : decode cX0_add 36 = .ok (.ireturn, 1) := by decide +kernel
theorem dX0_traced_0 : decode cX0_traced 0 = .ok (.aload_n 0, 1) := by decide +kernel
theorem dX0_traced_1 : decode cX0_traced 1 = .ok (.getfield 26, 3) := by decide +kernel
theorem dX0_traced_4 : decode cX0_traced 4 = .ok (.aload_n 0, 1) := by decide +kernel
theorem dX0_traced_5 : decode cX0_traced 5 = .ok (.getfield 15, 3) := by decide +kernel
theorem dX0_traced_8 : decode cX0_traced 8 = .ok (.arraylength, 1) := by decide +kernel
theorem dX0_traced_9 : decode cX0_traced 9 = .ok (.invokestatic 29, 3) := by decide +kernel
theorem dX0_traced_12 : decode cX0_traced 12 = .ok (.ireturn, 1) := by decide +kernel
theorem dX0_isUnder_0 : decode cX0_isUnder 0 = .ok (.iload_n 1, 1) := by decide +kernel
theorem dX0_isUnder_1 : decode cX0_isUnder 1 = .ok (.istore_n 3, 1) := by decide +kernel
theorem dX0_isUnder_2 : decode cX0_isUnder 2 = .ok (.iconst 0, 1) := by decide +kernel
theorem dX0_isUnder_3 : decode cX0_isUnder 3 = .ok (.istore 4, 2) := by decide +kernel
theorem dX0_isUnder_5 : decode cX0_isUnder 5 = .ok (.iload 4, 2) := by decide +kernel
theorem dX0_isUnder_7 : decode cX0_isUnder 7 = .ok (.bipush 8, 2) := by decide +kernel
theorem dX0_isUnder_9 : decode cX0_isUnder 9 = .ok (.if_icmp .ge 26, 3) := by decide +kernel
theorem dX0_isUnder_12 : decode cX0_isUnder 12 = .ok (.iload_n 3, 1) := by decide +kernel
theorem dX0_isUnder_13 : decode cX0_isUnder 13 = .ok (.ifCond .lt 22, 3) := by decide +kernel
theorem dX0_isUnder_16 : decode cX0_isUnder 16 = .ok (.iload_n 3, 1) := by decide +kernel
theorem dX0_isUnder_17 : decode cX0_isUnder 17 = .ok (.iload_n 2, 1) := by decide +kernel
theorem dX0_isUnder_18 : decode cX0_isUnder 18 = .ok (.if_icmp .ne 5, 3) := by decide +kernel
theorem dX0_isUnder_21 : decode cX0_isUnder 21 = .ok (.iconst 1, 1) := by decide +kernel
theorem dX0_isUnder_22 : decode cX0_isUnder 22 = .ok (.ireturn, 1) := by decide +kernel
theorem dX0_isUnder_23 : decode cX0_isUnder 23 = .ok (.getstatic 35, 3) := by decide +kernel
theorem dX0_isUnder_26 : decode cX0_isUnder 26 = .ok (.iload_n 3, 1) := by decide +kernel
theorem dX0_isUnder_27 : decode cX0_isUnder 27 = .ok (.iaload, 1) := by decide +kernel
theorem dX0_isUnder_28 : decode cX0_isUnder 28 = .ok (.istore_n 3, 1) := by decide +kernel
theorem dX0_isUnder_29 : decode cX0_isUnder 29 = .ok (.iinc 4 1, 3) := by decide +kernel
theorem dX0_isUnder_32 : decode cX0_isUnder 32 = .ok (.goto (-27), 3) := by decide +kernel
theorem dX0_isUnder_35 : decode cX0_isUnder 35 = .ok (.iconst 0, 1) := by decide +kernel
theorem dX0_isUnder_36 : decode cX0_isUnder 36 = .ok (.ireturn, 1) := by decide +kernel
set_option maxRecDepth 20000 in
theorem ggX0_start_X0_isBody : GoodIn wsX0_start wsX0_isBody := goodIn_r _ [7, 8, 9, 10, 11, 28, 29, 30, 31, 32] rfl (by decide +kernel)
set_option maxRecDepth 20000 in
theorem gX0_start_X0_isBody : GoodIn wsX0_start (wsV RX0 38 RX0 yX0_isBody wsX0_isBody) := goodIn_app (goodIn_of _ (by decide +kernel)) ggX0_start_X0_isBody
set_option maxRecDepth 20000 in
theorem ggX0_start_X11_within : GoodIn wsX0_start wsX11_within := goodIn_r _ [11] rfl (by decide +kernel)
set_option maxRecDepth 20000 in
theorem gX0_start_X11_within_n22 : GoodIn wsX0_start (wsX11_within) := ggX0_start_X11_within
set_option maxRecDepth 20000 in
theorem ggX0_start_X0_own : GoodIn wsX0_start wsX0_own := goodIn_r _ [15, 16, 2, 17, 18, 19, 6, 20, 21, 22, 1, 23, 24, 25, 26, 27, 12, 13, 14, 28, 29, 30, 31, 32] rfl (by decide +kernel)
set_option maxRecDepth 20000 in
theorem gX0_start_X0_own : GoodIn wsX0_start (wsV RX0 45 RX0 yX0_own wsX0_own) := goodIn_app (goodIn_of _ (by decide +kernel)) ggX0_start_X0_own
theorem dX0_start_0 : decode cX0_start 0 = .ok (.aload_n 0, 1) := by decide +kernel
theorem dX0_start_1 : decode cX0_start 1 = .ok (.iconst 0, 1) := by decide +kernel
theorem dX0_start_2 : decode cX0_start 2 = .ok (.putfield 26, 3) := by decide +kernel
theorem dX0_start_5 : decode cX0_start 5 = .ok (.aload_n 0, 1) := by decide +kernel
theorem dX0_start_6 : decode cX0_start 6 = .ok (.iload_n 1, 1) := by decide +kernel
theorem dX0_start_7 : decode cX0_start 7 = .ok (.invokevirtual 38, 3) := by decide +kernel
theorem dX0_start_10 : decode cX0_start 10 = .ok (.ifCond .eq 12, 3) := by decide +kernel
theorem dX0_start_13 : decode cX0_start 13 = .ok (.iload_n 2, 1) := by decide +kernel
theorem dX0_start_14 : decode cX0_start 14 = .ok (.iconst 0, 1) := by decide +kernel
theorem dX0_start_15 : decode cX0_start 15 = .ok (.iconst 3, 1) := by decide +kernel
theorem dX0_start_16 : decode cX0_start 16 = .ok (.invokestatic 22, 3) := by decide +kernel
theorem dX0_start_19 : decode cX0_start 19 = .ok (.ifCond .ne 5, 3) := by decide +kernel
theorem dX0_start_22 : decode cX0_start 22 = .ok (.iconst 0, 1) := by decide +kernel
theorem dX0_start_23 : decode cX0_start 23 = .ok (.ireturn, 1) := by decide +kernel
theorem dX0_start_24 : decode cX0_start 24 = .ok (.aload_n 0, 1) := by decide +kernel
theorem dX0_start_25 : decode cX0_start 25 = .ok (.iload_n 1, 1) := by decide +kernel
theorem dX0_start_26 : decode cX0_start 26 = .ok (.putfield 42, 3) := by decide +kernel
theorem dX0_start_29 : decode cX0_start 29 = .ok (.aload_n 0, 1) := by decide +kernel
theorem dX0_start_30 : decode cX0_start 30 = .ok (.iload_n 2, 1) := by decide +kernel
theorem dX0_start_31 : decode cX0_start 31 = .ok (.iload_n 3, 1) := by decide +kernel
theorem dX0_start_32 : decode cX0_start 32 = .ok (.iconst 0, 1) := by decide +kernel
theorem dX0_start_33 : decode cX0_start 33 = .ok (.invokevirtual 45, 3) := by decide +kernel
theorem dX0_start_36 : decode cX0_start 36 = .ok (.ireturn, 1) := by decide +kernel
set_option maxRecDepth 20000 in
theorem ggX0_own_X0_from : GoodIn wsX0_own wsX0_from := goodIn_r _ [7, 8, 9, 10, 11, 12, 13, 14, 6, 0, 1, 2, 3, 4, 5, 15, 16, 17, 18, 19, 20, 21, 22, 23] rfl (by decide +kernel)
set_option maxRecDepth 20000 in
theorem gX0_own_X0_from : GoodIn wsX0_own (wsV RX0 49 RX0 yX0_from wsX0_from) := goodIn_app (goodIn_of _ (by decide +kernel)) ggX0_own_X0_from
theorem dX0_own_0 : decode cX0_own 0 = .ok (.aload_n 0, 1) := by decide +kernel
theorem dX0_own_1 : decode cX0_own 1 = .ok (.aload_n 0, 1) := by decide +kernel
theorem dX0_own_2 : decode cX0_own 2 = .ok (.getfield 9, 3) := by decide +kernel
theorem dX0_own_5 : decode cX0_own 5 = .ok (.aload_n 0, 1) := by decide +kernel
theorem dX0_own_6 : decode cX0_own 6 = .ok (.getfield 42, 3) := by decide +kernel
theorem dX0_own_9 : decode cX0_own 9 = .ok (.iaload, 1) := by decide +kernel
theorem dX0_own_10 : decode cX0_own 10 = .ok (.iload_n 1, 1) := by decide +kernel
theorem dX0_own_11 : decode cX0_own 11 = .ok (.iload_n 2, 1) := by decide +kernel
theorem dX0_own_12 : decode cX0_own 12 = .ok (.iload_n 3, 1) := by decide +kernel
theorem dX0_own_13 : decode cX0_own 13 = .ok (.invokevirtual 49, 3) := by decide +kernel
theorem dX0_own_16 : decode cX0_own 16 = .ok (.ireturn, 1) := by decide +kernel
set_option maxRecDepth 20000 in
theorem ggX0_from_X0_run : GoodIn wsX0_from wsX0_run := goodIn_r _ [15, 11, 16, 17, 18, 8, 12, 13, 14, 0, 1, 2, 3, 4, 5, 6, 7, 9, 10, 19, 20, 21, 22, 23] rfl (by decide +kernel)
set_option maxRecDepth 20000 in
theorem gX0_from_X0_run : GoodIn wsX0_from (wsV RX0 56 RX0 yX0_run wsX0_run) := goodIn_app (goodIn_of _ (by decide +kernel)) ggX0_from_X0_run
theorem dX0_from_0 : decode cX0_from 0 = .ok (.iload_n 1, 1) := by decide +kernel
theorem dX0_from_1 : decode cX0_from 1 = .ok (.istore 5, 2) := by decide +kernel
theorem dX0_from_3 : decode cX0_from 3 = .ok (.iconst 0, 1) := by decide +kernel
theorem dX0_from_4 : decode cX0_from 4 = .ok (.istore 6, 2) := by decide +kernel
theorem dX0_from_6 : decode cX0_from 6 = .ok (.iload 6, 2) := by decide +kernel
theorem dX0_from_8 : decode cX0_from 8 = .ok (.bipush 8, 2) := by decide +kernel
theorem dX0_from_10 : decode cX0_from 10 = .ok (.if_icmp .ge 35, 3) := by decide +kernel
theorem dX0_from_13 : decode cX0_from 13 = .ok (.iload 5, 2) := by decide +kernel
theorem dX0_from_15 : decode cX0_from 15 = .ok (.ifCond .lt 30, 3) := by decide +kernel
theorem dX0_from_18 : decode cX0_from 18 = .ok (.getstatic 53, 3) := by decide +kernel
theorem dX0_from_21 : decode cX0_from 21 = .ok (.iconst 4, 1) := by decide +kernel
theorem dX0_from_22 : decode cX0_from 22 = .ok (.iload 5, 2) := by decide +kernel
theorem dX0_from_24 : decode cX0_from 24 = .ok (.imul, 1) := by decide +kernel
theorem dX0_from_25 : decode cX0_from 25 = .ok (.iload_n 2, 1) := by decide +kernel
theorem dX0_from_26 : decode cX0_from 26 = .ok (.iadd, 1) := by decide +kernel
theorem dX0_from_27 : decode cX0_from 27 = .ok (.iaload, 1) := by decide +kernel
theorem dX0_from_28 : decode cX0_from 28 = .ok (.ifCond .ne 17, 3) := by decide +kernel
theorem dX0_from_31 : decode cX0_from 31 = .ok (.getstatic 35, 3) := by decide +kernel
theorem dX0_from_34 : decode cX0_from 34 = .ok (.iload 5, 2) := by decide +kernel
theorem dX0_from_36 : decode cX0_from 36 = .ok (.iaload, 1) := by decide +kernel
theorem dX0_from_37 : decode cX0_from 37 = .ok (.istore 5, 2) := by decide +kernel
theorem dX0_from_39 : decode cX0_from 39 = .ok (.iinc 6 1, 3) := by decide +kernel
theorem dX0_from_42 : decode cX0_from 42 = .ok (.goto (-36), 3) := by decide +kernel
theorem dX0_from_45 : decode cX0_from 45 = .ok (.iload 5, 2) := by decide +kernel
theorem dX0_from_47 : decode cX0_from 47 = .ok (.ifCond .lt 10, 3) := by decide +kernel
theorem dX0_from_50 : decode cX0_from 50 = .ok (.iload 4, 2) := by decide +kernel
theorem dX0_from_52 : decode cX0_from 52 = .ok (.bipush 24, 2) := by decide +kernel
theorem dX0_from_54 : decode cX0_from 54 = .ok (.if_icmp .le 5, 3) := by decide +kernel
theorem dX0_from_57 : decode cX0_from 57 = .ok (.iconst 0, 1) := by decide +kernel
theorem dX0_from_58 : decode cX0_from 58 = .ok (.ireturn, 1) := by decide +kernel
theorem dX0_from_59 : decode cX0_from 59 = .ok (.getstatic 53, 3) := by decide +kernel
theorem dX0_from_62 : decode cX0_from 62 = .ok (.iconst 4, 1) := by decide +kernel
theorem dX0_from_63 : decode cX0_from 63 = .ok (.iload 5, 2) := by decide +kernel
theorem dX0_from_65 : decode cX0_from 65 = .ok (.imul, 1) := by decide +kernel
theorem dX0_from_66 : decode cX0_from 66 = .ok (.iload_n 2, 1) := by decide +kernel
theorem dX0_from_67 : decode cX0_from 67 = .ok (.iadd, 1) := by decide +kernel
theorem dX0_from_68 : decode cX0_from 68 = .ok (.iaload, 1) := by decide +kernel
theorem dX0_from_69 : decode cX0_from 69 = .ok (.istore 6, 2) := by decide +kernel
theorem dX0_from_71 : decode cX0_from 71 = .ok (.aload_n 0, 1) := by decide +kernel
theorem dX0_from_72 : decode cX0_from 72 = .ok (.getfield 26, 3) := by decide +kernel
theorem dX0_from_75 : decode cX0_from 75 = .ok (.aload_n 0, 1) := by decide +kernel
theorem dX0_from_76 : decode cX0_from 76 = .ok (.getfield 15, 3) := by decide +kernel
theorem dX0_from_79 : decode cX0_from 79 = .ok (.arraylength, 1) := by decide +kernel
theorem dX0_from_80 : decode cX0_from 80 = .ok (.if_icmp .ge 14, 3) := by decide +kernel
theorem dX0_from_83 : decode cX0_from 83 = .ok (.aload_n 0, 1) := by decide +kernel
theorem dX0_from_84 : decode cX0_from 84 = .ok (.getfield 15, 3) := by decide +kernel
theorem dX0_from_87 : decode cX0_from 87 = .ok (.aload_n 0, 1) := by decide +kernel
theorem dX0_from_88 : decode cX0_from 88 = .ok (.getfield 26, 3) := by decide +kernel
theorem dX0_from_91 : decode cX0_from 91 = .ok (.iload 6, 2) := by decide +kernel
theorem dX0_from_93 : decode cX0_from 93 = .ok (.iastore, 1) := by decide +kernel
theorem dX0_from_94 : decode cX0_from 94 = .ok (.aload_n 0, 1) := by decide +kernel
theorem dX0_from_95 : decode cX0_from 95 = .ok (.dup, 1) := by decide +kernel
theorem dX0_from_96 : decode cX0_from 96 = .ok (.getfield 26, 3) := by decide +kernel
theorem dX0_from_99 : decode cX0_from 99 = .ok (.iconst 1, 1) := by decide +kernel
theorem dX0_from_100 : decode cX0_from 100 = .ok (.iadd, 1) := by decide +kernel
theorem dX0_from_101 : decode cX0_from 101 = .ok (.putfield 26, 3) := by decide +kernel
theorem dX0_from_104 : decode cX0_from 104 = .ok (.aload_n 0, 1) := by decide +kernel
theorem dX0_from_105 : decode cX0_from 105 = .ok (.iload 6, 2) := by decide +kernel
theorem dX0_from_107 : decode cX0_from 107 = .ok (.getstatic 35, 3) := by decide +kernel
theorem dX0_from_110 : decode cX0_from 110 = .ok (.iload 5, 2) := by decide +kernel
theorem dX0_from_112 : decode cX0_from 112 = .ok (.iaload, 1) := by decide +kernel
theorem dX0_from_113 : decode cX0_from 113 = .ok (.iload_n 3, 1) := by decide +kernel
theorem dX0_from_114 : decode cX0_from 114 = .ok (.iload 4, 2) := by decide +kernel
theorem dX0_from_116 : decode cX0_from 116 = .ok (.iconst 1, 1) := by decide +kernel
theorem dX0_from_117 : decode cX0_from 117 = .ok (.iadd, 1) := by decide +kernel
theorem dX0_from_118 : decode cX0_from 118 = .ok (.invokevirtual 56, 3) := by decide +kernel
theorem dX0_from_121 : decode cX0_from 121 = .ok (.ireturn, 1) := by decide +kernel
set_option maxRecDepth 20000 in
theorem ggX0_run_X0_own : GoodIn wsX0_run wsX0_own := goodIn_r _ [17, 18, 1, 6, 7, 8, 5, 9, 10, 11, 12, 13, 14, 15, 16, 0, 2, 3, 4, 19, 20, 21, 22, 23] rfl (by decide +kernel)
set_option maxRecDepth 20000 in
theorem gX0_run_X0_own : GoodIn wsX0_run (wsV RX0 45 RX0 yX0_own wsX0_own) := goodIn_app (goodIn_of _ (by decide +kernel)) ggX0_run_X0_own
set_option maxRecDepth 20000 in
theorem ggX0_run_X0_from : GoodIn wsX0_run wsX0_from := goodIn_r _ [9, 10, 11, 12, 13, 14, 15, 16, 5, 17, 18, 1, 6, 7, 8, 0, 2, 3, 4, 19, 20, 21, 22, 23] rfl (by decide +kernel)
set_option maxRecDepth 20000 in
theorem gX0_run_X0_from : GoodIn wsX0_run (wsV RX0 49 RX0 yX0_from wsX0_from) := goodIn_app (goodIn_of _ (by decide +kernel)) ggX0_run_X0_from
theorem dX0_run_0 : decode cX0_run 0 = .ok (.iload_n 1, 1) := by decide +kernel
theorem dX0_run_1 : decode cX0_run 1 = .ok (.lookupswitch 279 #[(1, 115), (2, 122), (10, 140), (11, 151), (20, 158), (30, 170), (40, 181), (50, 193), (51, 205), (60, 217), (70, 236), (80, 248), (81, 267)], 115) := by decide +kernel
theorem dX0_run_116 : decode cX0_run 116 = .ok (.iload_n 3, 1) := by decide +kernel
theorem dX0_run_117 : decode cX0_run 117 = .ok (.aload_n 0, 1) := by decide +kernel
theorem dX0_run_118 : decode cX0_run 118 = .ok (.getfield 42, 3) := by decide +kernel
theorem dX0_run_121 : decode cX0_run 121 = .ok (.iadd, 1) := by decide +kernel
theorem dX0_run_122 : decode cX0_run 122 = .ok (.ireturn, 1) := by decide +kernel
theorem dX0_run_123 : decode cX0_run 123 = .ok (.aload_n 0, 1) := by decide +kernel
theorem dX0_run_124 : decode cX0_run 124 = .ok (.iconst 1, 1) := by decide +kernel
theorem dX0_run_125 : decode cX0_run 125 = .ok (.iload_n 3, 1) := by decide +kernel
theorem dX0_run_126 : decode cX0_run 126 = .ok (.iload 4, 2) := by decide +kernel
theorem dX0_run_128 : decode cX0_run 128 = .ok (.invokevirtual 45, 3) := by decide +kernel
theorem dX0_run_131 : decode cX0_run 131 = .ok (.aload_n 0, 1) := by decide +kernel
theorem dX0_run_132 : decode cX0_run 132 = .ok (.iconst 2, 1) := by decide +kernel
theorem dX0_run_133 : decode cX0_run 133 = .ok (.iconst 1, 1) := by decide +kernel
theorem dX0_run_134 : decode cX0_run 134 = .ok (.iload 4, 2) := by decide +kernel
theorem dX0_run_136 : decode cX0_run 136 = .ok (.invokevirtual 45, 3) := by decide +kernel
theorem dX0_run_139 : decode cX0_run 139 = .ok (.isub, 1) := by decide +kernel
theorem dX0_run_140 : decode cX0_run 140 = .ok (.ireturn, 1) := by decide +kernel
theorem dX0_run_141 : decode cX0_run 141 = .ok (.aload_n 0, 1) := by decide +kernel
theorem dX0_run_142 : decode cX0_run 142 = .ok (.iconst 0, 1) := by decide +kernel
theorem dX0_run_143 : decode cX0_run 143 = .ok (.iload_n 3, 1) := by decide +kernel
theorem dX0_run_144 : decode cX0_run 144 = .ok (.iload 4, 2) := by decide +kernel
theorem dX0_run_146 : decode cX0_run 146 = .ok (.invokevirtual 45, 3) := by decide +kernel
theorem dX0_run_149 : decode cX0_run 149 = .ok (.iconst 2, 1) := by decide +kernel
theorem dX0_run_150 : decode cX0_run 150 = .ok (.imul, 1) := by decide +kernel
theorem dX0_run_151 : decode cX0_run 151 = .ok (.ireturn, 1) := by decide +kernel
theorem dX0_run_152 : decode cX0_run 152 = .ok (.iload_n 3, 1) := by decide +kernel
theorem dX0_run_153 : decode cX0_run 153 = .ok (.aload_n 0, 1) := by decide +kernel
theorem dX0_run_154 : decode cX0_run 154 = .ok (.getfield 42, 3) := by decide +kernel
theorem dX0_run_157 : decode cX0_run 157 = .ok (.ixor, 1) := by decide +kernel
theorem dX0_run_158 : decode cX0_run 158 = .ok (.ireturn, 1) := by decide +kernel
theorem dX0_run_159 : decode cX0_run 159 = .ok (.aload_n 0, 1) := by decide +kernel
theorem dX0_run_160 : decode cX0_run 160 = .ok (.iload_n 2, 1) := by decide +kernel
theorem dX0_run_161 : decode cX0_run 161 = .ok (.iconst 0, 1) := by decide +kernel
theorem dX0_run_162 : decode cX0_run 162 = .ok (.iload_n 3, 1) := by decide +kernel
theorem dX0_run_163 : decode cX0_run 163 = .ok (.iload 4, 2) := by decide +kernel
theorem dX0_run_165 : decode cX0_run 165 = .ok (.invokevirtual 49, 3) := by decide +kernel
theorem dX0_run_168 : decode cX0_run 168 = .ok (.iconst 3, 1) := by decide +kernel
theorem dX0_run_169 : decode cX0_run 169 = .ok (.iadd, 1) := by decide +kernel
theorem dX0_run_170 : decode cX0_run 170 = .ok (.ireturn, 1) := by decide +kernel
theorem dX0_run_171 : decode cX0_run 171 = .ok (.aload_n 0, 1) := by decide +kernel
theorem dX0_run_172 : decode cX0_run 172 = .ok (.iload_n 2, 1) := by decide +kernel
theorem dX0_run_173 : decode cX0_run 173 = .ok (.iconst 1, 1) := by decide +kernel
theorem dX0_run_174 : decode cX0_run 174 = .ok (.iload_n 3, 1) := by decide +kernel
theorem dX0_run_175 : decode cX0_run 175 = .ok (.iload 4, 2) := by decide +kernel
theorem dX0_run_177 : decode cX0_run 177 = .ok (.invokevirtual 49, 3) := by decide +kernel
theorem dX0_run_180 : decode cX0_run 180 = .ok (.ineg, 1) := by decide +kernel
theorem dX0_run_181 : decode cX0_run 181 = .ok (.ireturn, 1) := by decide +kernel
theorem dX0_run_182 : decode cX0_run 182 = .ok (.aload_n 0, 1) := by decide +kernel
theorem dX0_run_183 : decode cX0_run 183 = .ok (.iload_n 2, 1) := by decide +kernel
theorem dX0_run_184 : decode cX0_run 184 = .ok (.iconst 2, 1) := by decide +kernel
theorem dX0_run_185 : decode cX0_run 185 = .ok (.iload_n 3, 1) := by decide +kernel
theorem dX0_run_186 : decode cX0_run 186 = .ok (.iload 4, 2) := by decide +kernel
theorem dX0_run_188 : decode cX0_run 188 = .ok (.invokevirtual 49, 3) := by decide +kernel
theorem dX0_run_191 : decode cX0_run 191 = .ok (.iconst 3, 1) := by decide +kernel
theorem dX0_run_192 : decode cX0_run 192 = .ok (.imul, 1) := by decide +kernel
theorem dX0_run_193 : decode cX0_run 193 = .ok (.ireturn, 1) := by decide +kernel
theorem dX0_run_194 : decode cX0_run 194 = .ok (.aload_n 0, 1) := by decide +kernel
theorem dX0_run_195 : decode cX0_run 195 = .ok (.iload_n 2, 1) := by decide +kernel
theorem dX0_run_196 : decode cX0_run 196 = .ok (.iconst 3, 1) := by decide +kernel
theorem dX0_run_197 : decode cX0_run 197 = .ok (.iload_n 3, 1) := by decide +kernel
theorem dX0_run_198 : decode cX0_run 198 = .ok (.iload 4, 2) := by decide +kernel
theorem dX0_run_200 : decode cX0_run 200 = .ok (.invokevirtual 49, 3) := by decide +kernel
theorem dX0_run_203 : decode cX0_run 203 = .ok (.iconst 5, 1) := by decide +kernel
theorem dX0_run_204 : decode cX0_run 204 = .ok (.ixor, 1) := by decide +kernel
theorem dX0_run_205 : decode cX0_run 205 = .ok (.ireturn, 1) := by decide +kernel
theorem dX0_run_206 : decode cX0_run 206 = .ok (.aload_n 0, 1) := by decide +kernel
theorem dX0_run_207 : decode cX0_run 207 = .ok (.iload_n 2, 1) := by decide +kernel
theorem dX0_run_208 : decode cX0_run 208 = .ok (.iconst 1, 1) := by decide +kernel
theorem dX0_run_209 : decode cX0_run 209 = .ok (.iload_n 3, 1) := by decide +kernel
theorem dX0_run_210 : decode cX0_run 210 = .ok (.iconst 1, 1) := by decide +kernel
theorem dX0_run_211 : decode cX0_run 211 = .ok (.iadd, 1) := by decide +kernel
theorem dX0_run_212 : decode cX0_run 212 = .ok (.iload 4, 2) := by decide +kernel
theorem dX0_run_214 : decode cX0_run 214 = .ok (.invokevirtual 49, 3) := by decide +kernel
theorem dX0_run_217 : decode cX0_run 217 = .ok (.ireturn, 1) := by decide +kernel
theorem dX0_run_218 : decode cX0_run 218 = .ok (.aload_n 0, 1) := by decide +kernel
theorem dX0_run_219 : decode cX0_run 219 = .ok (.iload_n 2, 1) := by decide +kernel
theorem dX0_run_220 : decode cX0_run 220 = .ok (.iconst 2, 1) := by decide +kernel
theorem dX0_run_221 : decode cX0_run 221 = .ok (.iload_n 3, 1) := by decide +kernel
theorem dX0_run_222 : decode cX0_run 222 = .ok (.iload 4, 2) := by decide +kernel
theorem dX0_run_224 : decode cX0_run 224 = .ok (.invokevirtual 49, 3) := by decide +kernel
theorem dX0_run_227 : decode cX0_run 227 = .ok (.aload_n 0, 1) := by decide +kernel
theorem dX0_run_228 : decode cX0_run 228 = .ok (.iconst 0, 1) := by decide +kernel
theorem dX0_run_229 : decode cX0_run 229 = .ok (.iconst 2, 1) := by decide +kernel
theorem dX0_run_230 : decode cX0_run 230 = .ok (.iload 4, 2) := by decide +kernel
theorem dX0_run_232 : decode cX0_run 232 = .ok (.invokevirtual 45, 3) := by decide +kernel
theorem dX0_run_235 : decode cX0_run 235 = .ok (.isub, 1) := by decide +kernel
theorem dX0_run_236 : decode cX0_run 236 = .ok (.ireturn, 1) := by decide +kernel
theorem dX0_run_237 : decode cX0_run 237 = .ok (.aload_n 0, 1) := by decide +kernel
theorem dX0_run_238 : decode cX0_run 238 = .ok (.iload_n 2, 1) := by decide +kernel
theorem dX0_run_239 : decode cX0_run 239 = .ok (.iconst 0, 1) := by decide +kernel
theorem dX0_run_240 : decode cX0_run 240 = .ok (.iload_n 3, 1) := by decide +kernel
theorem dX0_run_241 : decode cX0_run 241 = .ok (.iload 4, 2) := by decide +kernel
theorem dX0_run_243 : decode cX0_run 243 = .ok (.invokevirtual 49, 3) := by decide +kernel
theorem dX0_run_246 : decode cX0_run 246 = .ok (.iconst 2, 1) := by decide +kernel
theorem dX0_run_247 : decode cX0_run 247 = .ok (.imul, 1) := by decide +kernel
theorem dX0_run_248 : decode cX0_run 248 = .ok (.ireturn, 1) := by decide +kernel
theorem dX0_run_249 : decode cX0_run 249 = .ok (.aload_n 0, 1) := by decide +kernel
theorem dX0_run_250 : decode cX0_run 250 = .ok (.iload_n 2, 1) := by decide +kernel
theorem dX0_run_251 : decode cX0_run 251 = .ok (.iconst 1, 1) := by decide +kernel
theorem dX0_run_252 : decode cX0_run 252 = .ok (.iload_n 3, 1) := by decide +kernel
theorem dX0_run_253 : decode cX0_run 253 = .ok (.iload 4, 2) := by decide +kernel
theorem dX0_run_255 : decode cX0_run 255 = .ok (.invokevirtual 49, 3) := by decide +kernel
theorem dX0_run_258 : decode cX0_run 258 = .ok (.aload_n 0, 1) := by decide +kernel
theorem dX0_run_259 : decode cX0_run 259 = .ok (.iconst 2, 1) := by decide +kernel
theorem dX0_run_260 : decode cX0_run 260 = .ok (.iconst 2, 1) := by decide +kernel
theorem dX0_run_261 : decode cX0_run 261 = .ok (.iload 4, 2) := by decide +kernel
theorem dX0_run_263 : decode cX0_run 263 = .ok (.invokevirtual 45, 3) := by decide +kernel
theorem dX0_run_266 : decode cX0_run 266 = .ok (.iadd, 1) := by decide +kernel
theorem dX0_run_267 : decode cX0_run 267 = .ok (.ireturn, 1) := by decide +kernel
theorem dX0_run_268 : decode cX0_run 268 = .ok (.aload_n 0, 1) := by decide +kernel
theorem dX0_run_269 : decode cX0_run 269 = .ok (.iload_n 2, 1) := by decide +kernel
theorem dX0_run_270 : decode cX0_run 270 = .ok (.iconst 3, 1) := by decide +kernel
theorem dX0_run_271 : decode cX0_run 271 = .ok (.iload_n 3, 1) := by decide +kernel
theorem dX0_run_272 : decode cX0_run 272 = .ok (.iload 4, 2) := by decide +kernel
theorem dX0_run_274 : decode cX0_run 274 = .ok (.invokevirtual 49, 3) := by decide +kernel
theorem dX0_run_277 : decode cX0_run 277 = .ok (.iconst 1, 1) := by decide +kernel
theorem dX0_run_278 : decode cX0_run 278 = .ok (.isub, 1) := by decide +kernel
theorem dX0_run_279 : decode cX0_run 279 = .ok (.ireturn, 1) := by decide +kernel
theorem dX0_run_280 : decode cX0_run 280 = .ok (.iconst 0, 1) := by decide +kernel
theorem dX0_run_281 : decode cX0_run 281 = .ok (.ireturn, 1) := by decide +kernel
theorem dX8_init_0 : decode cX8_init 0 = .ok (.aload_n 0, 1) := by decide +kernel
theorem dX8_init_1 : decode cX8_init 1 = .ok (.invokespecial 3, 3) := by decide +kernel
theorem dX8_init_4 : decode cX8_init 4 = .ok (.aload_n 0, 1) := by decide +kernel
theorem dX8_init_5 : decode cX8_init 5 = .ok (.bipush 6, 2) := by decide +kernel
theorem dX8_init_7 : decode cX8_init 7 = .ok (.newarray .int, 2) := by decide +kernel
theorem dX8_init_9 : decode cX8_init 9 = .ok (.dup, 1) := by decide +kernel
theorem dX8_init_10 : decode cX8_init 10 = .ok (.iconst 0, 1) := by decide +kernel
theorem dX8_init_11 : decode cX8_init 11 = .ok (.iconst (-1), 1) := by decide +kernel
theorem dX8_init_12 : decode cX8_init 12 = .ok (.iastore, 1) := by decide +kernel
theorem dX8_init_13 : decode cX8_init 13 = .ok (.dup, 1) := by decide +kernel
theorem dX8_init_14 : decode cX8_init 14 = .ok (.iconst 1, 1) := by decide +kernel
theorem dX8_init_15 : decode cX8_init 15 = .ok (.iconst (-1), 1) := by decide +kernel
theorem dX8_init_16 : decode cX8_init 16 = .ok (.iastore, 1) := by decide +kernel
theorem dX8_init_17 : decode cX8_init 17 = .ok (.dup, 1) := by decide +kernel
theorem dX8_init_18 : decode cX8_init 18 = .ok (.iconst 2, 1) := by decide +kernel
theorem dX8_init_19 : decode cX8_init 19 = .ok (.iconst (-1), 1) := by decide +kernel
theorem dX8_init_20 : decode cX8_init 20 = .ok (.iastore, 1) := by decide +kernel
theorem dX8_init_21 : decode cX8_init 21 = .ok (.dup, 1) := by decide +kernel
theorem dX8_init_22 : decode cX8_init 22 = .ok (.iconst 3, 1) := by decide +kernel
theorem dX8_init_23 : decode cX8_init 23 = .ok (.iconst (-1), 1) := by decide +kernel
theorem dX8_init_24 : decode cX8_init 24 = .ok (.iastore, 1) := by decide +kernel
theorem dX8_init_25 : decode cX8_init 25 = .ok (.dup, 1) := by decide +kernel
theorem dX8_init_26 : decode cX8_init 26 = .ok (.iconst 4, 1) := by decide +kernel
theorem dX8_init_27 : decode cX8_init 27 = .ok (.iconst (-1), 1) := by decide +kernel
theorem dX8_init_28 : decode cX8_init 28 = .ok (.iastore, 1) := by decide +kernel
theorem dX8_init_29 : decode cX8_init 29 = .ok (.dup, 1) := by decide +kernel
theorem dX8_init_30 : decode cX8_init 30 = .ok (.iconst 5, 1) := by decide +kernel
theorem dX8_init_31 : decode cX8_init 31 = .ok (.iconst (-1), 1) := by decide +kernel
theorem dX8_init_32 : decode cX8_init 32 = .ok (.iastore, 1) := by decide +kernel
theorem dX8_init_33 : decode cX8_init 33 = .ok (.putfield 11, 3) := by decide +kernel
theorem dX8_init_36 : decode cX8_init 36 = .ok (.aload_n 0, 1) := by decide +kernel
theorem dX8_init_37 : decode cX8_init 37 = .ok (.bipush 6, 2) := by decide +kernel
theorem dX8_init_39 : decode cX8_init 39 = .ok (.newarray .int, 2) := by decide +kernel
theorem dX8_init_41 : decode cX8_init 41 = .ok (.putfield 15, 3) := by decide +kernel
theorem dX8_init_44 : decode cX8_init 44 = .ok (.aload_n 0, 1) := by decide +kernel
theorem dX8_init_45 : decode cX8_init 45 = .ok (.bipush 6, 2) := by decide +kernel
theorem dX8_init_47 : decode cX8_init 47 = .ok (.newarray .int, 2) := by decide +kernel
theorem dX8_init_49 : decode cX8_init 49 = .ok (.putfield 18, 3) := by decide +kernel
theorem dX8_init_52 : decode cX8_init 52 = .ok (.aload_n 0, 1) := by decide +kernel
theorem dX8_init_53 : decode cX8_init 53 = .ok (.bipush 6, 2) := by decide +kernel
theorem dX8_init_55 : decode cX8_init 55 = .ok (.bipush 60, 2) := by decide +kernel
theorem dX8_init_57 : decode cX8_init 57 = .ok (.multianewarray 21 2, 4) := by decide +kernel
theorem dX8_init_61 : decode cX8_init 61 = .ok (.putfield 23, 3) := by decide +kernel
theorem dX8_init_64 : decode cX8_init 64 = .ok (.return_, 1) := by decide +kernel
set_option maxRecDepth 20000 in
theorem ggX8_isShelf_X11_within : GoodIn wsX8_isShelf wsX11_within := goodIn_r _ [4] rfl (by decide +kernel)
set_option maxRecDepth 20000 in
theorem gX8_isShelf_X11_within_n26 : GoodIn wsX8_isShelf (wsX11_within) := ggX8_isShelf_X11_within
theorem dX8_isShelf_0 : decode cX8_isShelf 0 = .ok (.iload_n 1, 1) := by decide +kernel
theorem dX8_isShelf_1 : decode cX8_isShelf 1 = .ok (.iconst 0, 1) := by decide +kernel
theorem dX8_isShelf_2 : decode cX8_isShelf 2 = .ok (.aload_n 0, 1) := by decide +kernel
theorem dX8_isShelf_3 : decode cX8_isShelf 3 = .ok (.getfield 11, 3) := by decide +kernel
theorem dX8_isShelf_6 : decode cX8_isShelf 6 = .ok (.arraylength, 1) := by decide +kernel
theorem dX8_isShelf_7 : decode cX8_isShelf 7 = .ok (.iconst 1, 1) := by decide +kernel
theorem dX8_isShelf_8 : decode cX8_isShelf 8 = .ok (.isub, 1) := by decide +kernel
theorem dX8_isShelf_9 : decode cX8_isShelf 9 = .ok (.invokestatic 26, 3) := by decide +kernel
theorem dX8_isShelf_12 : decode cX8_isShelf 12 = .ok (.ireturn, 1) := by decide +kernel
theorem dX8_isBare_0 : decode cX8_isBare 0 = .ok (.aload_n 0, 1) := by decide +kernel
theorem dX8_isBare_1 : decode cX8_isBare 1 = .ok (.getfield 11, 3) := by decide +kernel
theorem dX8_isBare_4 : decode cX8_isBare 4 = .ok (.iload_n 1, 1) := by decide +kernel
theorem dX8_isBare_5 : decode cX8_isBare 5 = .ok (.iaload, 1) := by decide +kernel
theorem dX8_isBare_6 : decode cX8_isBare 6 = .ok (.iconst (-1), 1) := by decide +kernel
theorem dX8_isBare_7 : decode cX8_isBare 7 = .ok (.if_icmp .ne 7, 3) := by decide +kernel
theorem dX8_isBare_10 : decode cX8_isBare 10 = .ok (.iconst 1, 1) := by decide +kernel
theorem dX8_isBare_11 : decode cX8_isBare 11 = .ok (.goto 4, 3) := by decide +kernel
theorem dX8_isBare_14 : decode cX8_isBare 14 = .ok (.iconst 0, 1) := by decide +kernel
theorem dX8_isBare_15 : decode cX8_isBare 15 = .ok (.ireturn, 1) := by decide +kernel
theorem dX8_holdsSort_0 : decode cX8_holdsSort 0 = .ok (.aload_n 0, 1) := by decide +kernel
theorem dX8_holdsSort_1 : decode cX8_holdsSort 1 = .ok (.getfield 11, 3) := by decide +kernel
theorem dX8_holdsSort_4 : decode cX8_holdsSort 4 = .ok (.iload_n 1, 1) := by decide +kernel
theorem dX8_holdsSort_5 : decode cX8_holdsSort 5 = .ok (.iaload, 1) := by decide +kernel
theorem dX8_holdsSort_6 : decode cX8_holdsSort 6 = .ok (.iload_n 2, 1) := by decide +kernel
theorem dX8_holdsSort_7 : decode cX8_holdsSort 7 = .ok (.if_icmp .ne 7, 3) := by decide +kernel
theorem dX8_holdsSort_10 : decode cX8_holdsSort 10 = .ok (.iconst 1, 1) := by decide +kernel
theorem dX8_holdsSort_11 : decode cX8_holdsSort 11 = .ok (.goto 4, 3) := by decide +kernel
theorem dX8_holdsSort_14 : decode cX8_holdsSort 14 = .ok (.iconst 0, 1) := by decide +kernel
theorem dX8_holdsSort_15 : decode cX8_holdsSort 15 = .ok (.ireturn, 1) := by decide +kernel
theorem dX8_areAlikeRows_0 : decode cX8_areAlikeRows 0 = .ok (.aload_n 0, 1) := by decide +kernel
theorem dX8_areAlikeRows_1 : decode cX8_areAlikeRows 1 = .ok (.getfield 11, 3) := by decide +kernel
theorem dX8_areAlikeRows_4 : decode cX8_areAlikeRows 4 = .ok (.iload_n 1, 1) := by decide +kernel
theorem dX8_areAlikeRows_5 : decode cX8_areAlikeRows 5 = .ok (.iaload, 1) := by decide +kernel
theorem dX8_areAlikeRows_6 : decode cX8_areAlikeRows 6 = .ok (.iconst 5, 1) := by decide +kernel
theorem dX8_areAlikeRows_7 : decode cX8_areAlikeRows 7 = .ok (.if_icmp .eq 22, 3) := by decide +kernel
theorem dX8_areAlikeRows_10 : decode cX8_areAlikeRows 10 = .ok (.aload_n 0, 1) := by decide +kernel
theorem dX8_areAlikeRows_11 : decode cX8_areAlikeRows 11 = .ok (.getfield 11, 3) := by decide +kernel
theorem dX8_areAlikeRows_14 : decode cX8_areAlikeRows 14 = .ok (.iload_n 1, 1) := by decide +kernel
theorem dX8_areAlikeRows_15 : decode cX8_areAlikeRows 15 = .ok (.iaload, 1) := by decide +kernel
theorem dX8_areAlikeRows_16 : decode cX8_areAlikeRows 16 = .ok (.aload_n 0, 1) := by decide +kernel
theorem dX8_areAlikeRows_17 : decode cX8_areAlikeRows 17 = .ok (.getfield 11, 3) := by decide +kernel
theorem dX8_areAlikeRows_20 : decode cX8_areAlikeRows 20 = .ok (.iload_n 2, 1) := by decide +kernel
theorem dX8_areAlikeRows_21 : decode cX8_areAlikeRows 21 = .ok (.iaload, 1) := by decide +kernel
theorem dX8_areAlikeRows_22 : decode cX8_areAlikeRows 22 = .ok (.if_icmp .ne 7, 3) := by decide +kernel
theorem dX8_areAlikeRows_25 : decode cX8_areAlikeRows 25 = .ok (.iconst 1, 1) := by decide +kernel
theorem dX8_areAlikeRows_26 : decode cX8_areAlikeRows 26 = .ok (.goto 4, 3) := by decide +kernel
theorem dX8_areAlikeRows_29 : decode cX8_areAlikeRows 29 = .ok (.iconst 0, 1) := by decide +kernel
theorem dX8_areAlikeRows_30 : decode cX8_areAlikeRows 30 = .ok (.ireturn, 1) := by decide +kernel
theorem dX8_hasPlaces_0 : decode cX8_hasPlaces 0 = .ok (.iload_n 2, 1) := by decide +kernel
theorem dX8_hasPlaces_1 : decode cX8_hasPlaces 1 = .ok (.ifCond .lt 33, 3) := by decide +kernel
theorem dX8_hasPlaces_4 : decode cX8_hasPlaces 4 = .ok (.iload_n 3, 1) := by decide +kernel
theorem dX8_hasPlaces_5 : decode cX8_hasPlaces 5 = .ok (.ifCond .lt 29, 3) := by decide +kernel
theorem dX8_hasPlaces_8 : decode cX8_hasPlaces 8 = .ok (.iload_n 2, 1) := by decide +kernel
theorem dX8_hasPlaces_9 : decode cX8_hasPlaces 9 = .ok (.aload_n 0, 1) := by decide +kernel
theorem dX8_hasPlaces_10 : decode cX8_hasPlaces 10 = .ok (.getfield 15, 3) := by decide +kernel
theorem dX8_hasPlaces_13 : decode cX8_hasPlaces 13 = .ok (.iload_n 1, 1) := by decide +kernel
theorem dX8_hasPlaces_14 : decode cX8_hasPlaces 14 = .ok (.iaload, 1) := by decide +kernel
theorem dX8_hasPlaces_15 : decode cX8_hasPlaces 15 = .ok (.if_icmp .gt 19, 3) := by decide +kernel
theorem dX8_hasPlaces_18 : decode cX8_hasPlaces 18 = .ok (.iload_n 3, 1) := by decide +kernel
theorem dX8_hasPlaces_19 : decode cX8_hasPlaces 19 = .ok (.aload_n 0, 1) := by decide +kernel
theorem dX8_hasPlaces_20 : decode cX8_hasPlaces 20 = .ok (.getfield 15, 3) := by decide +kernel
theorem dX8_hasPlaces_23 : decode cX8_hasPlaces 23 = .ok (.iload_n 1, 1) := by decide +kernel
theorem dX8_hasPlaces_24 : decode cX8_hasPlaces 24 = .ok (.iaload, 1) := by decide +kernel
theorem dX8_hasPlaces_25 : decode cX8_hasPlaces 25 = .ok (.iload_n 2, 1) := by decide +kernel
theorem dX8_hasPlaces_26 : decode cX8_hasPlaces 26 = .ok (.isub, 1) := by decide +kernel
theorem dX8_hasPlaces_27 : decode cX8_hasPlaces 27 = .ok (.if_icmp .gt 7, 3) := by decide +kernel
theorem dX8_hasPlaces_30 : decode cX8_hasPlaces 30 = .ok (.iconst 1, 1) := by decide +kernel
theorem dX8_hasPlaces_31 : decode cX8_hasPlaces 31 = .ok (.goto 4, 3) := by decide +kernel
theorem dX8_hasPlaces_34 : decode cX8_hasPlaces 34 = .ok (.iconst 0, 1) := by decide +kernel
theorem dX8_hasPlaces_35 : decode cX8_hasPlaces 35 = .ok (.ireturn, 1) := by decide +kernel
theorem dX8_clear_0 : decode cX8_clear 0 = .ok (.aload_n 0, 1) := by decide +kernel
theorem dX8_clear_1 : decode cX8_clear 1 = .ok (.getfield 11, 3) := by decide +kernel
theorem dX8_clear_4 : decode cX8_clear 4 = .ok (.iload_n 1, 1) := by decide +kernel
theorem dX8_clear_5 : decode cX8_clear 5 = .ok (.iconst (-1), 1) := by decide +kernel
theorem dX8_clear_6 : decode cX8_clear 6 = .ok (.iastore, 1) := by decide +kernel
theorem dX8_clear_7 : decode cX8_clear 7 = .ok (.return_, 1) := by decide +kernel
theorem dX8_layBody_0 : decode cX8_layBody 0 = .ok (.aload_n 0, 1) := by decide +kernel
theorem dX8_layBody_1 : decode cX8_layBody 1 = .ok (.getfield 11, 3) := by decide +kernel
theorem dX8_layBody_4 : decode cX8_layBody 4 = .ok (.iload_n 1, 1) := by decide +kernel
theorem dX8_layBody_5 : decode cX8_layBody 5 = .ok (.iconst 5, 1) := by decide +kernel
theorem dX8_layBody_6 : decode cX8_layBody 6 = .ok (.iastore, 1) := by decide +kernel
theorem dX8_layBody_7 : decode cX8_layBody 7 = .ok (.aload_n 0, 1) := by decide +kernel
theorem dX8_layBody_8 : decode cX8_layBody 8 = .ok (.getfield 18, 3) := by decide +kernel
theorem dX8_layBody_11 : decode cX8_layBody 11 = .ok (.iload_n 1, 1) := by decide +kernel
theorem dX8_layBody_12 : decode cX8_layBody 12 = .ok (.iload_n 2, 1) := by decide +kernel
theorem dX8_layBody_13 : decode cX8_layBody 13 = .ok (.iastore, 1) := by decide +kernel
theorem dX8_layBody_14 : decode cX8_layBody 14 = .ok (.return_, 1) := by decide +kernel
set_option maxRecDepth 20000 in
theorem ggX8_layRow_J7_fill_d0a16 : GoodIn wsX8_layRow wsJ7_fill_d0a16 := goodIn_r _ [7] rfl (by decide +kernel)
set_option maxRecDepth 20000 in
theorem gX8_layRow_J7_fill_d0a16 : GoodIn wsX8_layRow (va_wsS RX8 30 yJ7_fill_d0a16 wsJ7_fill_d0a16) := goodIn_app (goodIn_of _ (by decide +kernel)) ggX8_layRow_J7_fill_d0a16
theorem dX8_layRow_0 : decode cX8_layRow 0 = .ok (.aload_n 0, 1) := by decide +kernel
theorem dX8_layRow_1 : decode cX8_layRow 1 = .ok (.getfield 11, 3) := by decide +kernel
theorem dX8_layRow_4 : decode cX8_layRow 4 = .ok (.iload_n 1, 1) := by decide +kernel
theorem dX8_layRow_5 : decode cX8_layRow 5 = .ok (.iload_n 2, 1) := by decide +kernel
theorem dX8_layRow_6 : decode cX8_layRow 6 = .ok (.iastore, 1) := by decide +kernel
theorem dX8_layRow_7 : decode cX8_layRow 7 = .ok (.aload_n 0, 1) := by decide +kernel
theorem dX8_layRow_8 : decode cX8_layRow 8 = .ok (.getfield 15, 3) := by decide +kernel
theorem dX8_layRow_11 : decode cX8_layRow 11 = .ok (.iload_n 1, 1) := by decide +kernel
theorem dX8_layRow_12 : decode cX8_layRow 12 = .ok (.iload_n 3, 1) := by decide +kernel
theorem dX8_layRow_13 : decode cX8_layRow 13 = .ok (.iastore, 1) := by decide +kernel
theorem dX8_layRow_14 : decode cX8_layRow 14 = .ok (.aload_n 0, 1) := by decide +kernel
theorem dX8_layRow_15 : decode cX8_layRow 15 = .ok (.getfield 23, 3) := by decide +kernel
theorem dX8_layRow_18 : decode cX8_layRow 18 = .ok (.iload_n 1, 1) := by decide +kernel
theorem dX8_layRow_19 : decode cX8_layRow 19 = .ok (.aaload, 1) := by decide +kernel
theorem dX8_layRow_20 : decode cX8_layRow 20 = .ok (.lconst 0, 1) := by decide +kernel
theorem dX8_layRow_21 : decode cX8_layRow 21 = .ok (.invokestatic 30, 3) := by decide +kernel
theorem dX8_layRow_24 : decode cX8_layRow 24 = .ok (.return_, 1) := by decide +kernel
set_option maxRecDepth 20000 in
theorem ggX8_refusal_X8_isShelf : GoodIn wsX8_refusal wsX8_isShelf := goodIn_r _ [7, 1, 8, 9, 10, 15, 16, 17, 18] rfl (by decide +kernel)
set_option maxRecDepth 20000 in
theorem gX8_refusal_X8_isShelf : GoodIn wsX8_refusal (wsV RX8 36 RX8 yX8_isShelf wsX8_isShelf) := goodIn_app (goodIn_of _ (by decide +kernel)) ggX8_refusal_X8_isShelf
set_option maxRecDepth 20000 in
theorem ggX8_refusal_X8_isBare : GoodIn wsX8_refusal wsX8_isBare := goodIn_r _ [14, 1, 15, 16, 17, 18] rfl (by decide +kernel)
set_option maxRecDepth 20000 in
theorem gX8_refusal_X8_isBare : GoodIn wsX8_refusal (wsV RX8 40 RX8 yX8_isBare wsX8_isBare) := goodIn_app (goodIn_of _ (by decide +kernel)) ggX8_refusal_X8_isBare
set_option maxRecDepth 20000 in
theorem ggX8_refusal_X11_within : GoodIn wsX8_refusal wsX11_within := goodIn_r _ [10] rfl (by decide +kernel)
set_option maxRecDepth 20000 in
theorem gX8_refusal_X11_within_n26 : GoodIn wsX8_refusal (wsX11_within) := ggX8_refusal_X11_within
theorem dX8_refusal_0 : decode cX8_refusal 0 = .ok (.aload_n 0, 1) := by decide +kernel
theorem dX8_refusal_1 : decode cX8_refusal 1 = .ok (.iload_n 1, 1) := by decide +kernel
theorem dX8_refusal_2 : decode cX8_refusal 2 = .ok (.invokevirtual 36, 3) := by decide +kernel
theorem dX8_refusal_5 : decode cX8_refusal 5 = .ok (.ifCond .ne 5, 3) := by decide +kernel
theorem dX8_refusal_8 : decode cX8_refusal 8 = .ok (.iconst (-1), 1) := by decide +kernel
theorem dX8_refusal_9 : decode cX8_refusal 9 = .ok (.ireturn, 1) := by decide +kernel
theorem dX8_refusal_10 : decode cX8_refusal 10 = .ok (.aload_n 0, 1) := by decide +kernel
theorem dX8_refusal_11 : decode cX8_refusal 11 = .ok (.iload_n 1, 1) := by decide +kernel
theorem dX8_refusal_12 : decode cX8_refusal 12 = .ok (.invokevirtual 40, 3) := by decide +kernel
theorem dX8_refusal_15 : decode cX8_refusal 15 = .ok (.ifCond .eq 6, 3) := by decide +kernel
theorem dX8_refusal_18 : decode cX8_refusal 18 = .ok (.bipush (-11), 2) := by decide +kernel
theorem dX8_refusal_20 : decode cX8_refusal 20 = .ok (.ireturn, 1) := by decide +kernel
theorem dX8_refusal_21 : decode cX8_refusal 21 = .ok (.aload_n 0, 1) := by decide +kernel
theorem dX8_refusal_22 : decode cX8_refusal 22 = .ok (.getfield 11, 3) := by decide +kernel
theorem dX8_refusal_25 : decode cX8_refusal 25 = .ok (.iload_n 1, 1) := by decide +kernel
theorem dX8_refusal_26 : decode cX8_refusal 26 = .ok (.iaload, 1) := by decide +kernel
theorem dX8_refusal_27 : decode cX8_refusal 27 = .ok (.iconst 5, 1) := by decide +kernel
theorem dX8_refusal_28 : decode cX8_refusal 28 = .ok (.if_icmp .ne 6, 3) := by decide +kernel
theorem dX8_refusal_31 : decode cX8_refusal 31 = .ok (.bipush (-12), 2) := by decide +kernel
theorem dX8_refusal_33 : decode cX8_refusal 33 = .ok (.ireturn, 1) := by decide +kernel
theorem dX8_refusal_34 : decode cX8_refusal 34 = .ok (.iload_n 2, 1) := by decide +kernel
theorem dX8_refusal_35 : decode cX8_refusal 35 = .ok (.iconst 0, 1) := by decide +kernel
theorem dX8_refusal_36 : decode cX8_refusal 36 = .ok (.aload_n 0, 1) := by decide +kernel
theorem dX8_refusal_37 : decode cX8_refusal 37 = .ok (.getfield 15, 3) := by decide +kernel
theorem dX8_refusal_40 : decode cX8_refusal 40 = .ok (.iload_n 1, 1) := by decide +kernel
theorem dX8_refusal_41 : decode cX8_refusal 41 = .ok (.iaload, 1) := by decide +kernel
theorem dX8_refusal_42 : decode cX8_refusal 42 = .ok (.iconst 1, 1) := by decide +kernel
theorem dX8_refusal_43 : decode cX8_refusal 43 = .ok (.isub, 1) := by decide +kernel
theorem dX8_refusal_44 : decode cX8_refusal 44 = .ok (.invokestatic 26, 3) := by decide +kernel
theorem dX8_refusal_47 : decode cX8_refusal 47 = .ok (.ifCond .eq 7, 3) := by decide +kernel
theorem dX8_refusal_50 : decode cX8_refusal 50 = .ok (.iconst 0, 1) := by decide +kernel
theorem dX8_refusal_51 : decode cX8_refusal 51 = .ok (.goto 5, 3) := by decide +kernel
theorem dX8_refusal_54 : decode cX8_refusal 54 = .ok (.bipush (-13), 2) := by decide +kernel
theorem dX8_refusal_56 : decode cX8_refusal 56 = .ok (.ireturn, 1) := by decide +kernel
theorem dX8_lowBits_0 : decode cX8_lowBits 0 = .ok (.aload_n 0, 1) := by decide +kernel
theorem dX8_lowBits_1 : decode cX8_lowBits 1 = .ok (.getfield 11, 3) := by decide +kernel
theorem dX8_lowBits_4 : decode cX8_lowBits 4 = .ok (.iload_n 1, 1) := by decide +kernel
theorem dX8_lowBits_5 : decode cX8_lowBits 5 = .ok (.iaload, 1) := by decide +kernel
theorem dX8_lowBits_6 : decode cX8_lowBits 6 = .ok (.tableswitch 60 0 4 #[34, 39, 44, 60, 48], 34) := by decide +kernel
theorem dX8_lowBits_40 : decode cX8_lowBits 40 = .ok (.lload_n 2, 1) := by decide +kernel
theorem dX8_lowBits_41 : decode cX8_lowBits 41 = .ok (.l2i, 1) := by decide +kernel
theorem dX8_lowBits_42 : decode cX8_lowBits 42 = .ok (.i2b, 1) := by decide +kernel
theorem dX8_lowBits_43 : decode cX8_lowBits 43 = .ok (.i2l, 1) := by decide +kernel
theorem dX8_lowBits_44 : decode cX8_lowBits 44 = .ok (.lreturn, 1) := by decide +kernel
theorem dX8_lowBits_45 : decode cX8_lowBits 45 = .ok (.lload_n 2, 1) := by decide +kernel
theorem dX8_lowBits_46 : decode cX8_lowBits 46 = .ok (.l2i, 1) := by decide +kernel
theorem dX8_lowBits_47 : decode cX8_lowBits 47 = .ok (.i2s, 1) := by decide +kernel
theorem dX8_lowBits_48 : decode cX8_lowBits 48 = .ok (.i2l, 1) := by decide +kernel
theorem dX8_lowBits_49 : decode cX8_lowBits 49 = .ok (.lreturn, 1) := by decide +kernel
theorem dX8_lowBits_50 : decode cX8_lowBits 50 = .ok (.lload_n 2, 1) := by decide +kernel
theorem dX8_lowBits_51 : decode cX8_lowBits 51 = .ok (.l2i, 1) := by decide +kernel
theorem dX8_lowBits_52 : decode cX8_lowBits 52 = .ok (.i2l, 1) := by decide +kernel
theorem dX8_lowBits_53 : decode cX8_lowBits 53 = .ok (.lreturn, 1) := by decide +kernel
theorem dX8_lowBits_54 : decode cX8_lowBits 54 = .ok (.lload_n 2, 1) := by decide +kernel
theorem dX8_lowBits_55 : decode cX8_lowBits 55 = .ok (.lconst 0, 1) := by decide +kernel
theorem dX8_lowBits_56 : decode cX8_lowBits 56 = .ok (.lcmp, 1) := by decide +kernel
theorem dX8_lowBits_57 : decode cX8_lowBits 57 = .ok (.ifCond .ne 7, 3) := by decide +kernel
theorem dX8_lowBits_60 : decode cX8_lowBits 60 = .ok (.lconst 0, 1) := by decide +kernel
theorem dX8_lowBits_61 : decode cX8_lowBits 61 = .ok (.goto 4, 3) := by decide +kernel
theorem dX8_lowBits_64 : decode cX8_lowBits 64 = .ok (.lconst 1, 1) := by decide +kernel
theorem dX8_lowBits_65 : decode cX8_lowBits 65 = .ok (.lreturn, 1) := by decide +kernel
theorem dX8_lowBits_66 : decode cX8_lowBits 66 = .ok (.lload_n 2, 1) := by decide +kernel
theorem dX8_lowBits_67 : decode cX8_lowBits 67 = .ok (.lreturn, 1) := by decide +kernel
set_option maxRecDepth 20000 in
theorem ggX11_init_X7_init : GoodIn wsX11_init wsX7_init := goodIn_r _ [51, 52, 2, 3, 48, 53, 54, 55, 56, 57, 58, 146, 147, 148, 149, 150, 151, 152, 153, 154] rfl (by decide +kernel)
set_option maxRecDepth 20000 in
theorem gX11_init_X7_init_n9 : GoodIn wsX11_init (wsX7_init) := ggX11_init_X7_init
set_option maxRecDepth 20000 in
theorem ggX11_init_X5_init : GoodIn wsX11_init wsX5_init := goodIn_r _ [60, 61, 2, 3, 48, 62, 63, 64, 167, 168, 169, 170] rfl (by decide +kernel)
set_option maxRecDepth 20000 in
theorem gX11_init_X5_init_n18 : GoodIn wsX11_init (wsX5_init) := ggX11_init_X5_init
set_option maxRecDepth 20000 in
theorem ggX11_init_X3_init : GoodIn wsX11_init wsX3_init := goodIn_r _ [66, 67, 2, 3, 48, 68, 69, 70, 71, 72, 73, 74, 75, 171, 172, 173, 174, 175, 176, 177, 178, 179, 180] rfl (by decide +kernel)
set_option maxRecDepth 20000 in
theorem gX11_init_X3_init_n25 : GoodIn wsX11_init (wsX3_init) := ggX11_init_X3_init
set_option maxRecDepth 20000 in
theorem ggX11_init_X2_init : GoodIn wsX11_init wsX2_init := goodIn_r _ [77, 78, 2, 3, 48, 79, 80, 81, 82, 83, 84, 85, 181, 182, 183, 184, 185, 186, 187, 188] rfl (by decide +kernel)
set_option maxRecDepth 20000 in
theorem gX11_init_X2_init_n32 : GoodIn wsX11_init (wsX2_init) := ggX11_init_X2_init
set_option maxRecDepth 20000 in
theorem ggX11_init_X6_init : GoodIn wsX11_init wsX6_init := goodIn_r _ [87, 88, 2, 3, 48, 89, 90, 91, 189, 190, 191, 192] rfl (by decide +kernel)
set_option maxRecDepth 20000 in
theorem gX11_init_X6_init_n39 : GoodIn wsX11_init (wsX6_init) := ggX11_init_X6_init
set_option maxRecDepth 20000 in
theorem ggX11_init_X4_init : GoodIn wsX11_init wsX4_init := goodIn_r _ [93, 94, 2, 3, 48, 95, 96, 193, 194, 195] rfl (by decide +kernel)
set_option maxRecDepth 20000 in
theorem gX11_init_X4_init_n46 : GoodIn wsX11_init (wsX4_init) := ggX11_init_X4_init
set_option maxRecDepth 20000 in
theorem ggX11_init_X10_init : GoodIn wsX11_init wsX10_init := goodIn_r _ [98, 99, 2, 3, 100, 101, 48, 102, 196, 197, 198, 199, 200] rfl (by decide +kernel)
set_option maxRecDepth 20000 in
theorem gX11_init_X10_init_n53 : GoodIn wsX11_init (wsX10_init) := ggX11_init_X10_init
set_option maxRecDepth 20000 in
theorem ggX11_init_X9_init : GoodIn wsX11_init wsX9_init := goodIn_r _ [104, 105, 2, 3, 48, 106, 107, 108, 109, 110, 111, 112, 201, 202, 203, 204, 205, 206, 207] rfl (by decide +kernel)
set_option maxRecDepth 20000 in
theorem gX11_init_X9_init_n60 : GoodIn wsX11_init (wsX9_init) := ggX11_init_X9_init
set_option maxRecDepth 20000 in
theorem ggX11_init_X1_init : GoodIn wsX11_init wsX1_init := goodIn_r _ [114, 115, 2, 3, 48, 116, 117, 118, 119, 208, 209, 210, 211, 212, 213] rfl (by decide +kernel)
set_option maxRecDepth 20000 in
theorem gX11_init_X1_init_n67 : GoodIn wsX11_init (wsX1_init) := ggX11_init_X1_init
set_option maxRecDepth 20000 in
theorem ggX11_init_X0_init : GoodIn wsX11_init wsX0_init := goodIn_r _ [121, 122, 2, 3, 48, 123, 124, 214, 215, 216, 217, 218] rfl (by decide +kernel)
set_option maxRecDepth 20000 in
theorem gX11_init_X0_init_n74 : GoodIn wsX11_init (wsX0_init) := ggX11_init_X0_init
set_option maxRecDepth 20000 in
theorem ggX11_init_X8_init : GoodIn wsX11_init wsX8_init := goodIn_r _ [126, 127, 2, 3, 48, 128, 129, 130, 131, 132, 133, 219, 220, 221, 222] rfl (by decide +kernel)
set_option maxRecDepth 20000 in
theorem gX11_init_X8_init_n81 : GoodIn wsX11_init (wsX8_init) := ggX11_init_X8_init
set_option maxRecDepth 20000 in
theorem ggX11_init_J0_length_8abf5 : GoodIn wsX11_init wsJ0_length_8abf5 := goodIn_r _ [138, 139, 140, 141, 142, 137, 143, 144, 145] rfl (by decide +kernel)
set_option maxRecDepth 20000 in
theorem gX11_init_J0_length_8abf5 : GoodIn wsX11_init (wsV RX11 88 RJ0 yJ0_length_8abf5 wsJ0_length_8abf5) := goodIn_app (goodIn_of _ (by decide +kernel)) ggX11_init_J0_length_8abf5
theorem dX11_init_0 : decode cX11_init 0 = .ok (.aload_n 0, 1) := by decide +kernel
theorem dX11_init_1 : decode cX11_init 1 = .ok (.invokespecial 1, 3) := by decide +kernel
theorem dX11_init_4 : decode cX11_init 4 = .ok (.aload_n 0, 1) := by decide +kernel
theorem dX11_init_5 : decode cX11_init 5 = .ok (.new 7, 3) := by decide +kernel
theorem dX11_init_8 : decode cX11_init 8 = .ok (.dup, 1) := by decide +kernel
theorem dX11_init_9 : decode cX11_init 9 = .ok (.invokespecial 9, 3) := by decide +kernel
theorem dX11_init_12 : decode cX11_init 12 = .ok (.putfield 10, 3) := by decide +kernel
theorem dX11_init_15 : decode cX11_init 15 = .ok (.aload_n 0, 1) := by decide +kernel
theorem dX11_init_16 : decode cX11_init 16 = .ok (.new 16, 3) := by decide +kernel
theorem dX11_init_19 : decode cX11_init 19 = .ok (.dup, 1) := by decide +kernel
theorem dX11_init_20 : decode cX11_init 20 = .ok (.invokespecial 18, 3) := by decide +kernel
theorem dX11_init_23 : decode cX11_init 23 = .ok (.putfield 19, 3) := by decide +kernel
theorem dX11_init_26 : decode cX11_init 26 = .ok (.aload_n 0, 1) := by decide +kernel
theorem dX11_init_27 : decode cX11_init 27 = .ok (.new 23, 3) := by decide +kernel
theorem dX11_init_30 : decode cX11_init 30 = .ok (.dup, 1) := by decide +kernel
theorem dX11_init_31 : decode cX11_init 31 = .ok (.invokespecial 25, 3) := by decide +kernel
theorem dX11_init_34 : decode cX11_init 34 = .ok (.putfield 26, 3) := by decide +kernel
theorem dX11_init_37 : decode cX11_init 37 = .ok (.aload_n 0, 1) := by decide +kernel
theorem dX11_init_38 : decode cX11_init 38 = .ok (.new 30, 3) := by decide +kernel
theorem dX11_init_41 : decode cX11_init 41 = .ok (.dup, 1) := by decide +kernel
theorem dX11_init_42 : decode cX11_init 42 = .ok (.invokespecial 32, 3) := by decide +kernel
theorem dX11_init_45 : decode cX11_init 45 = .ok (.putfield 33, 3) := by decide +kernel
theorem dX11_init_48 : decode cX11_init 48 = .ok (.aload_n 0, 1) := by decide +kernel
theorem dX11_init_49 : decode cX11_init 49 = .ok (.new 37, 3) := by decide +kernel
theorem dX11_init_52 : decode cX11_init 52 = .ok (.dup, 1) := by decide +kernel
theorem dX11_init_53 : decode cX11_init 53 = .ok (.invokespecial 39, 3) := by decide +kernel
theorem dX11_init_56 : decode cX11_init 56 = .ok (.putfield 40, 3) := by decide +kernel
theorem dX11_init_59 : decode cX11_init 59 = .ok (.aload_n 0, 1) := by decide +kernel
theorem dX11_init_60 : decode cX11_init 60 = .ok (.new 44, 3) := by decide +kernel
theorem dX11_init_63 : decode cX11_init 63 = .ok (.dup, 1) := by decide +kernel
theorem dX11_init_64 : decode cX11_init 64 = .ok (.invokespecial 46, 3) := by decide +kernel
theorem dX11_init_67 : decode cX11_init 67 = .ok (.putfield 47, 3) := by decide +kernel
theorem dX11_init_70 : decode cX11_init 70 = .ok (.aload_n 0, 1) := by decide +kernel
theorem dX11_init_71 : decode cX11_init 71 = .ok (.new 51, 3) := by decide +kernel
theorem dX11_init_74 : decode cX11_init 74 = .ok (.dup, 1) := by decide +kernel
theorem dX11_init_75 : decode cX11_init 75 = .ok (.invokespecial 53, 3) := by decide +kernel
theorem dX11_init_78 : decode cX11_init 78 = .ok (.putfield 54, 3) := by decide +kernel
theorem dX11_init_81 : decode cX11_init 81 = .ok (.aload_n 0, 1) := by decide +kernel
theorem dX11_init_82 : decode cX11_init 82 = .ok (.new 58, 3) := by decide +kernel
theorem dX11_init_85 : decode cX11_init 85 = .ok (.dup, 1) := by decide +kernel
theorem dX11_init_86 : decode cX11_init 86 = .ok (.invokespecial 60, 3) := by decide +kernel
theorem dX11_init_89 : decode cX11_init 89 = .ok (.putfield 61, 3) := by decide +kernel
theorem dX11_init_92 : decode cX11_init 92 = .ok (.aload_n 0, 1) := by decide +kernel
theorem dX11_init_93 : decode cX11_init 93 = .ok (.new 65, 3) := by decide +kernel
theorem dX11_init_96 : decode cX11_init 96 = .ok (.dup, 1) := by decide +kernel
theorem dX11_init_97 : decode cX11_init 97 = .ok (.invokespecial 67, 3) := by decide +kernel
theorem dX11_init_100 : decode cX11_init 100 = .ok (.putfield 68, 3) := by decide +kernel
theorem dX11_init_103 : decode cX11_init 103 = .ok (.aload_n 0, 1) := by decide +kernel
theorem dX11_init_104 : decode cX11_init 104 = .ok (.new 72, 3) := by decide +kernel
theorem dX11_init_107 : decode cX11_init 107 = .ok (.dup, 1) := by decide +kernel
theorem dX11_init_108 : decode cX11_init 108 = .ok (.invokespecial 74, 3) := by decide +kernel
theorem dX11_init_111 : decode cX11_init 111 = .ok (.putfield 75, 3) := by decide +kernel
theorem dX11_init_114 : decode cX11_init 114 = .ok (.aload_n 0, 1) := by decide +kernel
theorem dX11_init_115 : decode cX11_init 115 = .ok (.new 79, 3) := by decide +kernel
theorem dX11_init_118 : decode cX11_init 118 = .ok (.dup, 1) := by decide +kernel
theorem dX11_init_119 : decode cX11_init 119 = .ok (.invokespecial 81, 3) := by decide +kernel
theorem dX11_init_122 : decode cX11_init 122 = .ok (.putfield 82, 3) := by decide +kernel
theorem dX11_init_125 : decode cX11_init 125 = .ok (.aload_n 0, 1) := by decide +kernel
theorem dX11_init_126 : decode cX11_init 126 = .ok (.ldc 86, 2) := by decide +kernel
theorem dX11_init_128 : decode cX11_init 128 = .ok (.invokevirtual 88, 3) := by decide +kernel
theorem dX11_init_131 : decode cX11_init 131 = .ok (.newarray .int, 2) := by decide +kernel
theorem dX11_init_133 : decode cX11_init 133 = .ok (.putfield 94, 3) := by decide +kernel
theorem dX11_init_136 : decode cX11_init 136 = .ok (.return_, 1) := by decide +kernel
