theorem dX9_init_0 : decode cX9_init 0 = .ok (.aload_n 0, 1) := by decide +kernel
theorem dX9_init_1 : decode cX9_init 1 = .ok (.invokespecial 3, 3) := by decide +kernel
theorem dX9_init_4 : decode cX9_init 4 = .ok (.aload_n 0, 1) := by decide +kernel
theorem dX9_init_5 : decode cX9_init 5 = .ok (.bipush 6, 2) := by decide +kernel
theorem dX9_init_7 : decode cX9_init 7 = .ok (.newarray .int, 2) := by decide +kernel
theorem dX9_init_9 : decode cX9_init 9 = .ok (.putfield 9, 3) := by decide +kernel
theorem dX9_init_12 : decode cX9_init 12 = .ok (.aload_n 0, 1) := by decide +kernel
theorem dX9_init_13 : decode cX9_init 13 = .ok (.bipush 6, 2) := by decide +kernel
theorem dX9_init_15 : decode cX9_init 15 = .ok (.newarray .int, 2) := by decide +kernel
theorem dX9_init_17 : decode cX9_init 17 = .ok (.putfield 15, 3) := by decide +kernel
theorem dX9_init_20 : decode cX9_init 20 = .ok (.aload_n 0, 1) := by decide +kernel
theorem dX9_init_21 : decode cX9_init 21 = .ok (.bipush 6, 2) := by decide +kernel
theorem dX9_init_23 : decode cX9_init 23 = .ok (.newarray .int, 2) := by decide +kernel
theorem dX9_init_25 : decode cX9_init 25 = .ok (.putfield 18, 3) := by decide +kernel
theorem dX9_init_28 : decode cX9_init 28 = .ok (.aload_n 0, 1) := by decide +kernel
theorem dX9_init_29 : decode cX9_init 29 = .ok (.bipush 6, 2) := by decide +kernel
theorem dX9_init_31 : decode cX9_init 31 = .ok (.iconst 0, 1) := by decide +kernel
theorem dX9_init_32 : decode cX9_init 32 = .ok (.multianewarray 21 2, 4) := by decide +kernel
theorem dX9_init_36 : decode cX9_init 36 = .ok (.putfield 23, 3) := by decide +kernel
theorem dX9_init_39 : decode cX9_init 39 = .ok (.aload_n 0, 1) := by decide +kernel
theorem dX9_init_40 : decode cX9_init 40 = .ok (.bipush 6, 2) := by decide +kernel
theorem dX9_init_42 : decode cX9_init 42 = .ok (.newarray .int, 2) := by decide +kernel
theorem dX9_init_44 : decode cX9_init 44 = .ok (.putfield 26, 3) := by decide +kernel
theorem dX9_init_47 : decode cX9_init 47 = .ok (.aload_n 0, 1) := by decide +kernel
theorem dX9_init_48 : decode cX9_init 48 = .ok (.bipush 40, 2) := by decide +kernel
theorem dX9_init_50 : decode cX9_init 50 = .ok (.newarray .int, 2) := by decide +kernel
theorem dX9_init_52 : decode cX9_init 52 = .ok (.putfield 29, 3) := by decide +kernel
theorem dX9_init_55 : decode cX9_init 55 = .ok (.return_, 1) := by decide +kernel
set_option maxRecDepth 20000 in
theorem ggX9_isStory_X11_within : GoodIn wsX9_isStory wsX11_within := goodIn_r _ [4] rfl (by decide +kernel)
set_option maxRecDepth 20000 in
theorem gX9_isStory_X11_within_n36 : GoodIn wsX9_isStory (wsX11_within) := ggX9_isStory_X11_within
theorem dX9_isStory_0 : decode cX9_isStory 0 = .ok (.iload_n 1, 1) := by decide +kernel
theorem dX9_isStory_1 : decode cX9_isStory 1 = .ok (.iconst 0, 1) := by decide +kernel
theorem dX9_isStory_2 : decode cX9_isStory 2 = .ok (.aload_n 0, 1) := by decide +kernel
theorem dX9_isStory_3 : decode cX9_isStory 3 = .ok (.getfield 32, 3) := by decide +kernel
theorem dX9_isStory_6 : decode cX9_isStory 6 = .ok (.iconst 1, 1) := by decide +kernel
theorem dX9_isStory_7 : decode cX9_isStory 7 = .ok (.isub, 1) := by decide +kernel
theorem dX9_isStory_8 : decode cX9_isStory 8 = .ok (.invokestatic 36, 3) := by decide +kernel
theorem dX9_isStory_11 : decode cX9_isStory 11 = .ok (.ireturn, 1) := by decide +kernel
theorem dX9_isFull_0 : decode cX9_isFull 0 = .ok (.aload_n 0, 1) := by decide +kernel
theorem dX9_isFull_1 : decode cX9_isFull 1 = .ok (.getfield 32, 3) := by decide +kernel
theorem dX9_isFull_4 : decode cX9_isFull 4 = .ok (.aload_n 0, 1) := by decide +kernel
theorem dX9_isFull_5 : decode cX9_isFull 5 = .ok (.getfield 9, 3) := by decide +kernel
theorem dX9_isFull_8 : decode cX9_isFull 8 = .ok (.arraylength, 1) := by decide +kernel
theorem dX9_isFull_9 : decode cX9_isFull 9 = .ok (.if_icmp .ne 7, 3) := by decide +kernel
theorem dX9_isFull_12 : decode cX9_isFull 12 = .ok (.iconst 1, 1) := by decide +kernel
theorem dX9_isFull_13 : decode cX9_isFull 13 = .ok (.goto 4, 3) := by decide +kernel
theorem dX9_isFull_16 : decode cX9_isFull 16 = .ok (.iconst 0, 1) := by decide +kernel
theorem dX9_isFull_17 : decode cX9_isFull 17 = .ok (.ireturn, 1) := by decide +kernel
set_option maxRecDepth 20000 in
theorem ggX9_add_X9_isFull : GoodIn wsX9_add wsX9_isFull := goodIn_r _ [10, 2, 1, 11, 12, 13, 14, 15, 16, 17] rfl (by decide +kernel)
set_option maxRecDepth 20000 in
theorem gX9_add_X9_isFull : GoodIn wsX9_add (wsV RX9 40 RX9 yX9_isFull wsX9_isFull) := goodIn_app (goodIn_of _ (by decide +kernel)) ggX9_add_X9_isFull
theorem dX9_add_0 : decode cX9_add 0 = .ok (.aload_n 0, 1) := by decide +kernel
theorem dX9_add_1 : decode cX9_add 1 = .ok (.invokevirtual 40, 3) := by decide +kernel
theorem dX9_add_4 : decode cX9_add 4 = .ok (.ifCond .ne 10, 3) := by decide +kernel
theorem dX9_add_7 : decode cX9_add 7 = .ok (.iload 4, 2) := by decide +kernel
theorem dX9_add_9 : decode cX9_add 9 = .ok (.aload_n 3, 1) := by decide +kernel
theorem dX9_add_10 : decode cX9_add 10 = .ok (.arraylength, 1) := by decide +kernel
theorem dX9_add_11 : decode cX9_add 11 = .ok (.if_icmp .le 6, 3) := by decide +kernel
theorem dX9_add_14 : decode cX9_add 14 = .ok (.bipush (-3), 2) := by decide +kernel
theorem dX9_add_16 : decode cX9_add 16 = .ok (.ireturn, 1) := by decide +kernel
theorem dX9_add_17 : decode cX9_add 17 = .ok (.aload_n 0, 1) := by decide +kernel
theorem dX9_add_18 : decode cX9_add 18 = .ok (.getfield 9, 3) := by decide +kernel
theorem dX9_add_21 : decode cX9_add 21 = .ok (.aload_n 0, 1) := by decide +kernel
theorem dX9_add_22 : decode cX9_add 22 = .ok (.getfield 32, 3) := by decide +kernel
theorem dX9_add_25 : decode cX9_add 25 = .ok (.iload_n 1, 1) := by decide +kernel
theorem dX9_add_26 : decode cX9_add 26 = .ok (.iastore, 1) := by decide +kernel
theorem dX9_add_27 : decode cX9_add 27 = .ok (.aload_n 0, 1) := by decide +kernel
theorem dX9_add_28 : decode cX9_add 28 = .ok (.getfield 15, 3) := by decide +kernel
theorem dX9_add_31 : decode cX9_add 31 = .ok (.aload_n 0, 1) := by decide +kernel
theorem dX9_add_32 : decode cX9_add 32 = .ok (.getfield 32, 3) := by decide +kernel
theorem dX9_add_35 : decode cX9_add 35 = .ok (.iload_n 2, 1) := by decide +kernel
theorem dX9_add_36 : decode cX9_add 36 = .ok (.iastore, 1) := by decide +kernel
theorem dX9_add_37 : decode cX9_add 37 = .ok (.aload_n 0, 1) := by decide +kernel
theorem dX9_add_38 : decode cX9_add 38 = .ok (.getfield 23, 3) := by decide +kernel
theorem dX9_add_41 : decode cX9_add 41 = .ok (.aload_n 0, 1) := by decide +kernel
theorem dX9_add_42 : decode cX9_add 42 = .ok (.getfield 32, 3) := by decide +kernel
theorem dX9_add_45 : decode cX9_add 45 = .ok (.aload_n 3, 1) := by decide +kernel
theorem dX9_add_46 : decode cX9_add 46 = .ok (.aastore, 1) := by decide +kernel
theorem dX9_add_47 : decode cX9_add 47 = .ok (.aload_n 0, 1) := by decide +kernel
theorem dX9_add_48 : decode cX9_add 48 = .ok (.getfield 26, 3) := by decide +kernel
theorem dX9_add_51 : decode cX9_add 51 = .ok (.aload_n 0, 1) := by decide +kernel
theorem dX9_add_52 : decode cX9_add 52 = .ok (.getfield 32, 3) := by decide +kernel
theorem dX9_add_55 : decode cX9_add 55 = .ok (.iload 4, 2) := by decide +kernel
theorem dX9_add_57 : decode cX9_add 57 = .ok (.iastore, 1) := by decide +kernel
theorem dX9_add_58 : decode cX9_add 58 = .ok (.aload_n 0, 1) := by decide +kernel
theorem dX9_add_59 : decode cX9_add 59 = .ok (.dup, 1) := by decide +kernel
theorem dX9_add_60 : decode cX9_add 60 = .ok (.getfield 32, 3) := by decide +kernel
theorem dX9_add_63 : decode cX9_add 63 = .ok (.dup_x1, 1) := by decide +kernel
theorem dX9_add_64 : decode cX9_add 64 = .ok (.iconst 1, 1) := by decide +kernel
theorem dX9_add_65 : decode cX9_add 65 = .ok (.iadd, 1) := by decide +kernel
theorem dX9_add_66 : decode cX9_add 66 = .ok (.putfield 32, 3) := by decide +kernel
theorem dX9_add_69 : decode cX9_add 69 = .ok (.ireturn, 1) := by decide +kernel
set_option maxRecDepth 20000 in
theorem ggX9_weigh_X9_valueOf : GoodIn wsX9_weigh wsX9_valueOf := goodIn_r _ [15, 16, 17, 18, 19, 14, 20, 21, 22, 23, 24, 25, 26, 27, 28, 29, 30, 31, 32, 33] rfl (by decide +kernel)
set_option maxRecDepth 20000 in
theorem gX9_weigh_X9_valueOf : GoodIn wsX9_weigh (wsV RX9 44 RX9 yX9_valueOf wsX9_valueOf) := goodIn_app (goodIn_of _ (by decide +kernel)) ggX9_weigh_X9_valueOf
theorem dX9_weigh_0 : decode cX9_weigh 0 = .ok (.aload_n 0, 1) := by decide +kernel
theorem dX9_weigh_1 : decode cX9_weigh 1 = .ok (.getfield 18, 3) := by decide +kernel
theorem dX9_weigh_4 : decode cX9_weigh 4 = .ok (.iload_n 1, 1) := by decide +kernel
theorem dX9_weigh_5 : decode cX9_weigh 5 = .ok (.iconst 0, 1) := by decide +kernel
theorem dX9_weigh_6 : decode cX9_weigh 6 = .ok (.aload_n 0, 1) := by decide +kernel
theorem dX9_weigh_7 : decode cX9_weigh 7 = .ok (.aload_n 0, 1) := by decide +kernel
theorem dX9_weigh_8 : decode cX9_weigh 8 = .ok (.getfield 23, 3) := by decide +kernel
theorem dX9_weigh_11 : decode cX9_weigh 11 = .ok (.iload_n 1, 1) := by decide +kernel
theorem dX9_weigh_12 : decode cX9_weigh 12 = .ok (.aaload, 1) := by decide +kernel
theorem dX9_weigh_13 : decode cX9_weigh 13 = .ok (.aload_n 0, 1) := by decide +kernel
theorem dX9_weigh_14 : decode cX9_weigh 14 = .ok (.getfield 26, 3) := by decide +kernel
theorem dX9_weigh_17 : decode cX9_weigh 17 = .ok (.iload_n 1, 1) := by decide +kernel
theorem dX9_weigh_18 : decode cX9_weigh 18 = .ok (.iaload, 1) := by decide +kernel
theorem dX9_weigh_19 : decode cX9_weigh 19 = .ok (.aload_n 2, 1) := by decide +kernel
theorem dX9_weigh_20 : decode cX9_weigh 20 = .ok (.invokevirtual 44, 3) := by decide +kernel
theorem dX9_weigh_23 : decode cX9_weigh 23 = .ok (.sipush 9999, 3) := by decide +kernel
theorem dX9_weigh_26 : decode cX9_weigh 26 = .ok (.invokestatic 48, 3) := by decide +kernel
theorem dX9_weigh_29 : decode cX9_weigh 29 = .ok (.invokestatic 54, 3) := by decide +kernel
theorem dX9_weigh_32 : decode cX9_weigh 32 = .ok (.iastore, 1) := by decide +kernel
theorem dX9_weigh_33 : decode cX9_weigh 33 = .ok (.return_, 1) := by decide +kernel
set_option maxRecDepth 20000 in
theorem ggX9_valueOf_X9_work : GoodIn wsX9_valueOf wsX9_work := goodIn_r _ [6, 1, 7, 8, 9, 10, 11, 5, 12, 13, 14, 15, 16, 17, 18, 19] rfl (by decide +kernel)
set_option maxRecDepth 20000 in
theorem gX9_valueOf_X9_work : GoodIn wsX9_valueOf (wsV RX9 57 RX9 yX9_work wsX9_work) := goodIn_app (goodIn_of _ (by decide +kernel)) ggX9_valueOf_X9_work
theorem dX9_valueOf_0 : decode cX9_valueOf 0 = .ok (.iconst 0, 1) := by decide +kernel
theorem dX9_valueOf_1 : decode cX9_valueOf 1 = .ok (.istore 4, 2) := by decide +kernel
theorem dX9_valueOf_3 : decode cX9_valueOf 3 = .ok (.iconst 0, 1) := by decide +kernel
theorem dX9_valueOf_4 : decode cX9_valueOf 4 = .ok (.istore 5, 2) := by decide +kernel
theorem dX9_valueOf_6 : decode cX9_valueOf 6 = .ok (.iconst 0, 1) := by decide +kernel
theorem dX9_valueOf_7 : decode cX9_valueOf 7 = .ok (.istore 6, 2) := by decide +kernel
theorem dX9_valueOf_9 : decode cX9_valueOf 9 = .ok (.iload 6, 2) := by decide +kernel
theorem dX9_valueOf_11 : decode cX9_valueOf 11 = .ok (.iload_n 2, 1) := by decide +kernel
theorem dX9_valueOf_12 : decode cX9_valueOf 12 = .ok (.if_icmp .ge 140, 3) := by decide +kernel
theorem dX9_valueOf_15 : decode cX9_valueOf 15 = .ok (.aload_n 1, 1) := by decide +kernel
theorem dX9_valueOf_16 : decode cX9_valueOf 16 = .ok (.iload 6, 2) := by decide +kernel
theorem dX9_valueOf_18 : decode cX9_valueOf 18 = .ok (.iaload, 1) := by decide +kernel
theorem dX9_valueOf_19 : decode cX9_valueOf 19 = .ok (.istore 7, 2) := by decide +kernel
theorem dX9_valueOf_21 : decode cX9_valueOf 21 = .ok (.iload 5, 2) := by decide +kernel
theorem dX9_valueOf_23 : decode cX9_valueOf 23 = .ok (.ifCond .eq 20, 3) := by decide +kernel
theorem dX9_valueOf_26 : decode cX9_valueOf 26 = .ok (.iload 7, 2) := by decide +kernel
theorem dX9_valueOf_28 : decode cX9_valueOf 28 = .ok (.bipush (-59), 2) := by decide +kernel
theorem dX9_valueOf_30 : decode cX9_valueOf 30 = .ok (.if_icmp .eq 7, 3) := by decide +kernel
theorem dX9_valueOf_33 : decode cX9_valueOf 33 = .ok (.iconst 1, 1) := by decide +kernel
theorem dX9_valueOf_34 : decode cX9_valueOf 34 = .ok (.goto 4, 3) := by decide +kernel
theorem dX9_valueOf_37 : decode cX9_valueOf 37 = .ok (.iconst 0, 1) := by decide +kernel
theorem dX9_valueOf_38 : decode cX9_valueOf 38 = .ok (.istore 5, 2) := by decide +kernel
theorem dX9_valueOf_40 : decode cX9_valueOf 40 = .ok (.goto 106, 3) := by decide +kernel
theorem dX9_valueOf_43 : decode cX9_valueOf 43 = .ok (.iload 7, 2) := by decide +kernel
theorem dX9_valueOf_45 : decode cX9_valueOf 45 = .ok (.bipush (-59), 2) := by decide +kernel
theorem dX9_valueOf_47 : decode cX9_valueOf 47 = .ok (.if_icmp .ne 10, 3) := by decide +kernel
theorem dX9_valueOf_50 : decode cX9_valueOf 50 = .ok (.aload_n 0, 1) := by decide +kernel
theorem dX9_valueOf_51 : decode cX9_valueOf 51 = .ok (.getfield 29, 3) := by decide +kernel
theorem dX9_valueOf_54 : decode cX9_valueOf 54 = .ok (.iconst 0, 1) := by decide +kernel
theorem dX9_valueOf_55 : decode cX9_valueOf 55 = .ok (.iaload, 1) := by decide +kernel
theorem dX9_valueOf_56 : decode cX9_valueOf 56 = .ok (.ireturn, 1) := by decide +kernel
theorem dX9_valueOf_57 : decode cX9_valueOf 57 = .ok (.iload 7, 2) := by decide +kernel
theorem dX9_valueOf_59 : decode cX9_valueOf 59 = .ok (.bipush (-63), 2) := by decide +kernel
theorem dX9_valueOf_61 : decode cX9_valueOf 61 = .ok (.if_icmp .ne 25, 3) := by decide +kernel
theorem dX9_valueOf_64 : decode cX9_valueOf 64 = .ok (.aload_n 0, 1) := by decide +kernel
theorem dX9_valueOf_65 : decode cX9_valueOf 65 = .ok (.getfield 29, 3) := by decide +kernel
theorem dX9_valueOf_68 : decode cX9_valueOf 68 = .ok (.iconst 0, 1) := by decide +kernel
theorem dX9_valueOf_69 : decode cX9_valueOf 69 = .ok (.iaload, 1) := by decide +kernel
theorem dX9_valueOf_70 : decode cX9_valueOf 70 = .ok (.ifCond .ne 7, 3) := by decide +kernel
theorem dX9_valueOf_73 : decode cX9_valueOf 73 = .ok (.iconst 1, 1) := by decide +kernel
theorem dX9_valueOf_74 : decode cX9_valueOf 74 = .ok (.goto 4, 3) := by decide +kernel
theorem dX9_valueOf_77 : decode cX9_valueOf 77 = .ok (.iconst 0, 1) := by decide +kernel
theorem dX9_valueOf_78 : decode cX9_valueOf 78 = .ok (.istore 5, 2) := by decide +kernel
theorem dX9_valueOf_80 : decode cX9_valueOf 80 = .ok (.iconst 0, 1) := by decide +kernel
theorem dX9_valueOf_81 : decode cX9_valueOf 81 = .ok (.istore 4, 2) := by decide +kernel
theorem dX9_valueOf_83 : decode cX9_valueOf 83 = .ok (.goto 63, 3) := by decide +kernel
theorem dX9_valueOf_86 : decode cX9_valueOf 86 = .ok (.iload 7, 2) := by decide +kernel
theorem dX9_valueOf_88 : decode cX9_valueOf 88 = .ok (.aload_n 3, 1) := by decide +kernel
theorem dX9_valueOf_89 : decode cX9_valueOf 89 = .ok (.arraylength, 1) := by decide +kernel
theorem dX9_valueOf_90 : decode cX9_valueOf 90 = .ok (.ineg, 1) := by decide +kernel
theorem dX9_valueOf_91 : decode cX9_valueOf 91 = .ok (.if_icmp .lt 44, 3) := by decide +kernel
theorem dX9_valueOf_94 : decode cX9_valueOf 94 = .ok (.iload 4, 2) := by decide +kernel
theorem dX9_valueOf_96 : decode cX9_valueOf 96 = .ok (.aload_n 0, 1) := by decide +kernel
theorem dX9_valueOf_97 : decode cX9_valueOf 97 = .ok (.getfield 29, 3) := by decide +kernel
theorem dX9_valueOf_100 : decode cX9_valueOf 100 = .ok (.arraylength, 1) := by decide +kernel
theorem dX9_valueOf_101 : decode cX9_valueOf 101 = .ok (.if_icmp .ne 5, 3) := by decide +kernel
theorem dX9_valueOf_104 : decode cX9_valueOf 104 = .ok (.iconst 0, 1) := by decide +kernel
theorem dX9_valueOf_105 : decode cX9_valueOf 105 = .ok (.ireturn, 1) := by decide +kernel
theorem dX9_valueOf_106 : decode cX9_valueOf 106 = .ok (.aload_n 0, 1) := by decide +kernel
theorem dX9_valueOf_107 : decode cX9_valueOf 107 = .ok (.getfield 29, 3) := by decide +kernel
theorem dX9_valueOf_110 : decode cX9_valueOf 110 = .ok (.iload 4, 2) := by decide +kernel
theorem dX9_valueOf_112 : decode cX9_valueOf 112 = .ok (.iload 7, 2) := by decide +kernel
theorem dX9_valueOf_114 : decode cX9_valueOf 114 = .ok (.ifCond .lt 8, 3) := by decide +kernel
theorem dX9_valueOf_117 : decode cX9_valueOf 117 = .ok (.iload 7, 2) := by decide +kernel
theorem dX9_valueOf_119 : decode cX9_valueOf 119 = .ok (.goto 9, 3) := by decide +kernel
theorem dX9_valueOf_122 : decode cX9_valueOf 122 = .ok (.aload_n 3, 1) := by decide +kernel
theorem dX9_valueOf_123 : decode cX9_valueOf 123 = .ok (.iconst (-1), 1) := by decide +kernel
theorem dX9_valueOf_124 : decode cX9_valueOf 124 = .ok (.iload 7, 2) := by decide +kernel
theorem dX9_valueOf_126 : decode cX9_valueOf 126 = .ok (.isub, 1) := by decide +kernel
theorem dX9_valueOf_127 : decode cX9_valueOf 127 = .ok (.iaload, 1) := by decide +kernel
theorem dX9_valueOf_128 : decode cX9_valueOf 128 = .ok (.iastore, 1) := by decide +kernel
theorem dX9_valueOf_129 : decode cX9_valueOf 129 = .ok (.iinc 4 1, 3) := by decide +kernel
theorem dX9_valueOf_132 : decode cX9_valueOf 132 = .ok (.goto 14, 3) := by decide +kernel
theorem dX9_valueOf_135 : decode cX9_valueOf 135 = .ok (.aload_n 0, 1) := by decide +kernel
theorem dX9_valueOf_136 : decode cX9_valueOf 136 = .ok (.iload 7, 2) := by decide +kernel
theorem dX9_valueOf_138 : decode cX9_valueOf 138 = .ok (.ineg, 1) := by decide +kernel
theorem dX9_valueOf_139 : decode cX9_valueOf 139 = .ok (.iload 4, 2) := by decide +kernel
theorem dX9_valueOf_141 : decode cX9_valueOf 141 = .ok (.invokevirtual 57, 3) := by decide +kernel
theorem dX9_valueOf_144 : decode cX9_valueOf 144 = .ok (.istore 4, 2) := by decide +kernel
theorem dX9_valueOf_146 : decode cX9_valueOf 146 = .ok (.iinc 6 1, 3) := by decide +kernel
theorem dX9_valueOf_149 : decode cX9_valueOf 149 = .ok (.goto (-140), 3) := by decide +kernel
theorem dX9_valueOf_152 : decode cX9_valueOf 152 = .ok (.iconst 0, 1) := by decide +kernel
theorem dX9_valueOf_153 : decode cX9_valueOf 153 = .ok (.ireturn, 1) := by decide +kernel
set_option maxRecDepth 20000 in
theorem ggX9_work_X11_asBit : GoodIn wsX9_work wsX11_asBit := goodIn_r _ [4] rfl (by decide +kernel)
set_option maxRecDepth 20000 in
theorem gX9_work_X11_asBit_n60 : GoodIn wsX9_work (wsX11_asBit) := ggX9_work_X11_asBit
set_option maxRecDepth 20000 in
theorem ggX9_work_X9_joined : GoodIn wsX9_work wsX9_joined := goodIn_r _ [8, 2, 3, 4] rfl (by decide +kernel)
set_option maxRecDepth 20000 in
theorem gX9_work_X9_joined : GoodIn wsX9_work (va_wsS RX9 66 yX9_joined wsX9_joined) := goodIn_app (goodIn_of _ (by decide +kernel)) ggX9_work_X9_joined
theorem dX9_work_0 : decode cX9_work 0 = .ok (.iload_n 2, 1) := by decide +kernel
theorem dX9_work_1 : decode cX9_work 1 = .ok (.iconst 1, 1) := by decide +kernel
theorem dX9_work_2 : decode cX9_work 2 = .ok (.if_icmp .lt 38, 3) := by decide +kernel
theorem dX9_work_5 : decode cX9_work 5 = .ok (.iload_n 1, 1) := by decide +kernel
theorem dX9_work_6 : decode cX9_work 6 = .ok (.bipush 33, 2) := by decide +kernel
theorem dX9_work_8 : decode cX9_work 8 = .ok (.if_icmp .ne 32, 3) := by decide +kernel
theorem dX9_work_11 : decode cX9_work 11 = .ok (.aload_n 0, 1) := by decide +kernel
theorem dX9_work_12 : decode cX9_work 12 = .ok (.getfield 29, 3) := by decide +kernel
theorem dX9_work_15 : decode cX9_work 15 = .ok (.iload_n 2, 1) := by decide +kernel
theorem dX9_work_16 : decode cX9_work 16 = .ok (.iconst 1, 1) := by decide +kernel
theorem dX9_work_17 : decode cX9_work 17 = .ok (.isub, 1) := by decide +kernel
theorem dX9_work_18 : decode cX9_work 18 = .ok (.aload_n 0, 1) := by decide +kernel
theorem dX9_work_19 : decode cX9_work 19 = .ok (.getfield 29, 3) := by decide +kernel
theorem dX9_work_22 : decode cX9_work 22 = .ok (.iload_n 2, 1) := by decide +kernel
theorem dX9_work_23 : decode cX9_work 23 = .ok (.iconst 1, 1) := by decide +kernel
theorem dX9_work_24 : decode cX9_work 24 = .ok (.isub, 1) := by decide +kernel
theorem dX9_work_25 : decode cX9_work 25 = .ok (.iaload, 1) := by decide +kernel
theorem dX9_work_26 : decode cX9_work 26 = .ok (.ifCond .ne 7, 3) := by decide +kernel
theorem dX9_work_29 : decode cX9_work 29 = .ok (.iconst 1, 1) := by decide +kernel
theorem dX9_work_30 : decode cX9_work 30 = .ok (.goto 4, 3) := by decide +kernel
theorem dX9_work_33 : decode cX9_work 33 = .ok (.iconst 0, 1) := by decide +kernel
theorem dX9_work_34 : decode cX9_work 34 = .ok (.invokestatic 60, 3) := by decide +kernel
theorem dX9_work_37 : decode cX9_work 37 = .ok (.iastore, 1) := by decide +kernel
theorem dX9_work_38 : decode cX9_work 38 = .ok (.iload_n 2, 1) := by decide +kernel
theorem dX9_work_39 : decode cX9_work 39 = .ok (.ireturn, 1) := by decide +kernel
theorem dX9_work_40 : decode cX9_work 40 = .ok (.iload_n 2, 1) := by decide +kernel
theorem dX9_work_41 : decode cX9_work 41 = .ok (.iconst 1, 1) := by decide +kernel
theorem dX9_work_42 : decode cX9_work 42 = .ok (.if_icmp .lt 28, 3) := by decide +kernel
theorem dX9_work_45 : decode cX9_work 45 = .ok (.iload_n 1, 1) := by decide +kernel
theorem dX9_work_46 : decode cX9_work 46 = .ok (.bipush 126, 2) := by decide +kernel
theorem dX9_work_48 : decode cX9_work 48 = .ok (.if_icmp .ne 22, 3) := by decide +kernel
theorem dX9_work_51 : decode cX9_work 51 = .ok (.aload_n 0, 1) := by decide +kernel
theorem dX9_work_52 : decode cX9_work 52 = .ok (.getfield 29, 3) := by decide +kernel
theorem dX9_work_55 : decode cX9_work 55 = .ok (.iload_n 2, 1) := by decide +kernel
theorem dX9_work_56 : decode cX9_work 56 = .ok (.iconst 1, 1) := by decide +kernel
theorem dX9_work_57 : decode cX9_work 57 = .ok (.isub, 1) := by decide +kernel
theorem dX9_work_58 : decode cX9_work 58 = .ok (.aload_n 0, 1) := by decide +kernel
theorem dX9_work_59 : decode cX9_work 59 = .ok (.getfield 29, 3) := by decide +kernel
theorem dX9_work_62 : decode cX9_work 62 = .ok (.iload_n 2, 1) := by decide +kernel
theorem dX9_work_63 : decode cX9_work 63 = .ok (.iconst 1, 1) := by decide +kernel
theorem dX9_work_64 : decode cX9_work 64 = .ok (.isub, 1) := by decide +kernel
theorem dX9_work_65 : decode cX9_work 65 = .ok (.iaload, 1) := by decide +kernel
theorem dX9_work_66 : decode cX9_work 66 = .ok (.ineg, 1) := by decide +kernel
theorem dX9_work_67 : decode cX9_work 67 = .ok (.iastore, 1) := by decide +kernel
theorem dX9_work_68 : decode cX9_work 68 = .ok (.iload_n 2, 1) := by decide +kernel
theorem dX9_work_69 : decode cX9_work 69 = .ok (.ireturn, 1) := by decide +kernel
theorem dX9_work_70 : decode cX9_work 70 = .ok (.iload_n 2, 1) := by decide +kernel
theorem dX9_work_71 : decode cX9_work 71 = .ok (.iconst 2, 1) := by decide +kernel
theorem dX9_work_72 : decode cX9_work 72 = .ok (.if_icmp .lt 35, 3) := by decide +kernel
theorem dX9_work_75 : decode cX9_work 75 = .ok (.aload_n 0, 1) := by decide +kernel
theorem dX9_work_76 : decode cX9_work 76 = .ok (.getfield 29, 3) := by decide +kernel
theorem dX9_work_79 : decode cX9_work 79 = .ok (.iload_n 2, 1) := by decide +kernel
theorem dX9_work_80 : decode cX9_work 80 = .ok (.iconst 2, 1) := by decide +kernel
theorem dX9_work_81 : decode cX9_work 81 = .ok (.isub, 1) := by decide +kernel
theorem dX9_work_82 : decode cX9_work 82 = .ok (.iload_n 1, 1) := by decide +kernel
theorem dX9_work_83 : decode cX9_work 83 = .ok (.aload_n 0, 1) := by decide +kernel
theorem dX9_work_84 : decode cX9_work 84 = .ok (.getfield 29, 3) := by decide +kernel
theorem dX9_work_87 : decode cX9_work 87 = .ok (.iload_n 2, 1) := by decide +kernel
theorem dX9_work_88 : decode cX9_work 88 = .ok (.iconst 2, 1) := by decide +kernel
theorem dX9_work_89 : decode cX9_work 89 = .ok (.isub, 1) := by decide +kernel
theorem dX9_work_90 : decode cX9_work 90 = .ok (.iaload, 1) := by decide +kernel
theorem dX9_work_91 : decode cX9_work 91 = .ok (.aload_n 0, 1) := by decide +kernel
theorem dX9_work_92 : decode cX9_work 92 = .ok (.getfield 29, 3) := by decide +kernel
theorem dX9_work_95 : decode cX9_work 95 = .ok (.iload_n 2, 1) := by decide +kernel
theorem dX9_work_96 : decode cX9_work 96 = .ok (.iconst 1, 1) := by decide +kernel
theorem dX9_work_97 : decode cX9_work 97 = .ok (.isub, 1) := by decide +kernel
theorem dX9_work_98 : decode cX9_work 98 = .ok (.iaload, 1) := by decide +kernel
theorem dX9_work_99 : decode cX9_work 99 = .ok (.invokestatic 66, 3) := by decide +kernel
theorem dX9_work_102 : decode cX9_work 102 = .ok (.iastore, 1) := by decide +kernel
theorem dX9_work_103 : decode cX9_work 103 = .ok (.iload_n 2, 1) := by decide +kernel
theorem dX9_work_104 : decode cX9_work 104 = .ok (.iconst 1, 1) := by decide +kernel
theorem dX9_work_105 : decode cX9_work 105 = .ok (.isub, 1) := by decide +kernel
theorem dX9_work_106 : decode cX9_work 106 = .ok (.ireturn, 1) := by decide +kernel
theorem dX9_work_107 : decode cX9_work 107 = .ok (.iload_n 2, 1) := by decide +kernel
theorem dX9_work_108 : decode cX9_work 108 = .ok (.ireturn, 1) := by decide +kernel
set_option maxRecDepth 20000 in
theorem ggX9_joined_X11_asBit : GoodIn wsX9_joined wsX11_asBit := goodIn_r _ [3] rfl (by decide +kernel)
set_option maxRecDepth 20000 in
theorem gX9_joined_X11_asBit_n60 : GoodIn wsX9_joined (wsX11_asBit) := ggX9_joined_X11_asBit
theorem dX9_joined_0 : decode cX9_joined 0 = .ok (.iload_n 0, 1) := by decide +kernel
theorem dX9_joined_1 : decode cX9_joined 1 = .ok (.lookupswitch 203 #[(37, 191), (38, 108), (42, 175), (43, 167), (45, 171), (47, 179), (60, 125), (61, 139), (62, 153), (124, 91)], 91) := by decide +kernel
theorem dX9_joined_92 : decode cX9_joined 92 = .ok (.iload_n 1, 1) := by decide +kernel
theorem dX9_joined_93 : decode cX9_joined 93 = .ok (.ifCond .ne 7, 3) := by decide +kernel
theorem dX9_joined_96 : decode cX9_joined 96 = .ok (.iload_n 2, 1) := by decide +kernel
theorem dX9_joined_97 : decode cX9_joined 97 = .ok (.ifCond .eq 7, 3) := by decide +kernel
theorem dX9_joined_100 : decode cX9_joined 100 = .ok (.iconst 1, 1) := by decide +kernel
theorem dX9_joined_101 : decode cX9_joined 101 = .ok (.goto 4, 3) := by decide +kernel
theorem dX9_joined_104 : decode cX9_joined 104 = .ok (.iconst 0, 1) := by decide +kernel
theorem dX9_joined_105 : decode cX9_joined 105 = .ok (.invokestatic 60, 3) := by decide +kernel
theorem dX9_joined_108 : decode cX9_joined 108 = .ok (.ireturn, 1) := by decide +kernel
theorem dX9_joined_109 : decode cX9_joined 109 = .ok (.iload_n 1, 1) := by decide +kernel
theorem dX9_joined_110 : decode cX9_joined 110 = .ok (.ifCond .eq 11, 3) := by decide +kernel
theorem dX9_joined_113 : decode cX9_joined 113 = .ok (.iload_n 2, 1) := by decide +kernel
theorem dX9_joined_114 : decode cX9_joined 114 = .ok (.ifCond .eq 7, 3) := by decide +kernel
theorem dX9_joined_117 : decode cX9_joined 117 = .ok (.iconst 1, 1) := by decide +kernel
theorem dX9_joined_118 : decode cX9_joined 118 = .ok (.goto 4, 3) := by decide +kernel
theorem dX9_joined_121 : decode cX9_joined 121 = .ok (.iconst 0, 1) := by decide +kernel
theorem dX9_joined_122 : decode cX9_joined 122 = .ok (.invokestatic 60, 3) := by decide +kernel
theorem dX9_joined_125 : decode cX9_joined 125 = .ok (.ireturn, 1) := by decide +kernel
theorem dX9_joined_126 : decode cX9_joined 126 = .ok (.iload_n 1, 1) := by decide +kernel
theorem dX9_joined_127 : decode cX9_joined 127 = .ok (.iload_n 2, 1) := by decide +kernel
theorem dX9_joined_128 : decode cX9_joined 128 = .ok (.if_icmp .ge 7, 3) := by decide +kernel
theorem dX9_joined_131 : decode cX9_joined 131 = .ok (.iconst 1, 1) := by decide +kernel
theorem dX9_joined_132 : decode cX9_joined 132 = .ok (.goto 4, 3) := by decide +kernel
theorem dX9_joined_135 : decode cX9_joined 135 = .ok (.iconst 0, 1) := by decide +kernel
theorem dX9_joined_136 : decode cX9_joined 136 = .ok (.invokestatic 60, 3) := by decide +kernel
theorem dX9_joined_139 : decode cX9_joined 139 = .ok (.ireturn, 1) := by decide +kernel
theorem dX9_joined_140 : decode cX9_joined 140 = .ok (.iload_n 1, 1) := by decide +kernel
theorem dX9_joined_141 : decode cX9_joined 141 = .ok (.iload_n 2, 1) := by decide +kernel
theorem dX9_joined_142 : decode cX9_joined 142 = .ok (.if_icmp .ne 7, 3) := by decide +kernel
theorem dX9_joined_145 : decode cX9_joined 145 = .ok (.iconst 1, 1) := by decide +kernel
theorem dX9_joined_146 : decode cX9_joined 146 = .ok (.goto 4, 3) := by decide +kernel
theorem dX9_joined_149 : decode cX9_joined 149 = .ok (.iconst 0, 1) := by decide +kernel
theorem dX9_joined_150 : decode cX9_joined 150 = .ok (.invokestatic 60, 3) := by decide +kernel
theorem dX9_joined_153 : decode cX9_joined 153 = .ok (.ireturn, 1) := by decide +kernel
theorem dX9_joined_154 : decode cX9_joined 154 = .ok (.iload_n 1, 1) := by decide +kernel
theorem dX9_joined_155 : decode cX9_joined 155 = .ok (.iload_n 2, 1) := by decide +kernel
theorem dX9_joined_156 : decode cX9_joined 156 = .ok (.if_icmp .le 7, 3) := by decide +kernel
theorem dX9_joined_159 : decode cX9_joined 159 = .ok (.iconst 1, 1) := by decide +kernel
theorem dX9_joined_160 : decode cX9_joined 160 = .ok (.goto 4, 3) := by decide +kernel
theorem dX9_joined_163 : decode cX9_joined 163 = .ok (.iconst 0, 1) := by decide +kernel
theorem dX9_joined_164 : decode cX9_joined 164 = .ok (.invokestatic 60, 3) := by decide +kernel
theorem dX9_joined_167 : decode cX9_joined 167 = .ok (.ireturn, 1) := by decide +kernel
theorem dX9_joined_168 : decode cX9_joined 168 = .ok (.iload_n 1, 1) := by decide +kernel
theorem dX9_joined_169 : decode cX9_joined 169 = .ok (.iload_n 2, 1) := by decide +kernel
theorem dX9_joined_170 : decode cX9_joined 170 = .ok (.iadd, 1) := by decide +kernel
theorem dX9_joined_171 : decode cX9_joined 171 = .ok (.ireturn, 1) := by decide +kernel
theorem dX9_joined_172 : decode cX9_joined 172 = .ok (.iload_n 1, 1) := by decide +kernel
theorem dX9_joined_173 : decode cX9_joined 173 = .ok (.iload_n 2, 1) := by decide +kernel
theorem dX9_joined_174 : decode cX9_joined 174 = .ok (.isub, 1) := by decide +kernel
theorem dX9_joined_175 : decode cX9_joined 175 = .ok (.ireturn, 1) := by decide +kernel
theorem dX9_joined_176 : decode cX9_joined 176 = .ok (.iload_n 1, 1) := by decide +kernel
theorem dX9_joined_177 : decode cX9_joined 177 = .ok (.iload_n 2, 1) := by decide +kernel
theorem dX9_joined_178 : decode cX9_joined 178 = .ok (.imul, 1) := by decide +kernel
theorem dX9_joined_179 : decode cX9_joined 179 = .ok (.ireturn, 1) := by decide +kernel
theorem dX9_joined_180 : decode cX9_joined 180 = .ok (.iload_n 2, 1) := by decide +kernel
theorem dX9_joined_181 : decode cX9_joined 181 = .ok (.ifCond .ne 7, 3) := by decide +kernel
theorem dX9_joined_184 : decode cX9_joined 184 = .ok (.iconst 0, 1) := by decide +kernel
theorem dX9_joined_185 : decode cX9_joined 185 = .ok (.goto 6, 3) := by decide +kernel
theorem dX9_joined_188 : decode cX9_joined 188 = .ok (.iload_n 1, 1) := by decide +kernel
theorem dX9_joined_189 : decode cX9_joined 189 = .ok (.iload_n 2, 1) := by decide +kernel
theorem dX9_joined_190 : decode cX9_joined 190 = .ok (.idiv, 1) := by decide +kernel
theorem dX9_joined_191 : decode cX9_joined 191 = .ok (.ireturn, 1) := by decide +kernel
theorem dX9_joined_192 : decode cX9_joined 192 = .ok (.iload_n 2, 1) := by decide +kernel
theorem dX9_joined_193 : decode cX9_joined 193 = .ok (.ifCond .ne 7, 3) := by decide +kernel
theorem dX9_joined_196 : decode cX9_joined 196 = .ok (.iconst 0, 1) := by decide +kernel
theorem dX9_joined_197 : decode cX9_joined 197 = .ok (.goto 6, 3) := by decide +kernel
theorem dX9_joined_200 : decode cX9_joined 200 = .ok (.iload_n 1, 1) := by decide +kernel
theorem dX9_joined_201 : decode cX9_joined 201 = .ok (.iload_n 2, 1) := by decide +kernel
theorem dX9_joined_202 : decode cX9_joined 202 = .ok (.irem, 1) := by decide +kernel
theorem dX9_joined_203 : decode cX9_joined 203 = .ok (.ireturn, 1) := by decide +kernel
theorem dX9_joined_204 : decode cX9_joined 204 = .ok (.iconst 0, 1) := by decide +kernel
theorem dX9_joined_205 : decode cX9_joined 205 = .ok (.ireturn, 1) := by decide +kernel
theorem dX9_oddsOf_0 : decode cX9_oddsOf 0 = .ok (.iconst 0, 1) := by decide +kernel
theorem dX9_oddsOf_1 : decode cX9_oddsOf 1 = .ok (.istore_n 2, 1) := by decide +kernel
theorem dX9_oddsOf_2 : decode cX9_oddsOf 2 = .ok (.iconst 0, 1) := by decide +kernel
theorem dX9_oddsOf_3 : decode cX9_oddsOf 3 = .ok (.istore_n 3, 1) := by decide +kernel
theorem dX9_oddsOf_4 : decode cX9_oddsOf 4 = .ok (.iload_n 3, 1) := by decide +kernel
theorem dX9_oddsOf_5 : decode cX9_oddsOf 5 = .ok (.aload_n 0, 1) := by decide +kernel
theorem dX9_oddsOf_6 : decode cX9_oddsOf 6 = .ok (.getfield 32, 3) := by decide +kernel
theorem dX9_oddsOf_9 : decode cX9_oddsOf 9 = .ok (.if_icmp .ge 25, 3) := by decide +kernel
theorem dX9_oddsOf_12 : decode cX9_oddsOf 12 = .ok (.iload_n 2, 1) := by decide +kernel
theorem dX9_oddsOf_13 : decode cX9_oddsOf 13 = .ok (.aload_n 0, 1) := by decide +kernel
theorem dX9_oddsOf_14 : decode cX9_oddsOf 14 = .ok (.getfield 15, 3) := by decide +kernel
theorem dX9_oddsOf_17 : decode cX9_oddsOf 17 = .ok (.iload_n 3, 1) := by decide +kernel
theorem dX9_oddsOf_18 : decode cX9_oddsOf 18 = .ok (.iaload, 1) := by decide +kernel
theorem dX9_oddsOf_19 : decode cX9_oddsOf 19 = .ok (.aload_n 0, 1) := by decide +kernel
theorem dX9_oddsOf_20 : decode cX9_oddsOf 20 = .ok (.getfield 18, 3) := by decide +kernel
theorem dX9_oddsOf_23 : decode cX9_oddsOf 23 = .ok (.iload_n 3, 1) := by decide +kernel
theorem dX9_oddsOf_24 : decode cX9_oddsOf 24 = .ok (.iaload, 1) := by decide +kernel
theorem dX9_oddsOf_25 : decode cX9_oddsOf 25 = .ok (.imul, 1) := by decide +kernel
theorem dX9_oddsOf_26 : decode cX9_oddsOf 26 = .ok (.iadd, 1) := by decide +kernel
theorem dX9_oddsOf_27 : decode cX9_oddsOf 27 = .ok (.istore_n 2, 1) := by decide +kernel
theorem dX9_oddsOf_28 : decode cX9_oddsOf 28 = .ok (.iinc 3 1, 3) := by decide +kernel
theorem dX9_oddsOf_31 : decode cX9_oddsOf 31 = .ok (.goto (-27), 3) := by decide +kernel
theorem dX9_oddsOf_34 : decode cX9_oddsOf 34 = .ok (.iload_n 2, 1) := by decide +kernel
theorem dX9_oddsOf_35 : decode cX9_oddsOf 35 = .ok (.ifCond .ne 8, 3) := by decide +kernel
theorem dX9_oddsOf_38 : decode cX9_oddsOf 38 = .ok (.bipush (-2), 2) := by decide +kernel
theorem dX9_oddsOf_40 : decode cX9_oddsOf 40 = .ok (.goto 22, 3) := by decide +kernel
theorem dX9_oddsOf_43 : decode cX9_oddsOf 43 = .ok (.aload_n 0, 1) := by decide +kernel
theorem dX9_oddsOf_44 : decode cX9_oddsOf 44 = .ok (.getfield 15, 3) := by decide +kernel
theorem dX9_oddsOf_47 : decode cX9_oddsOf 47 = .ok (.iload_n 1, 1) := by decide +kernel
theorem dX9_oddsOf_48 : decode cX9_oddsOf 48 = .ok (.iaload, 1) := by decide +kernel
theorem dX9_oddsOf_49 : decode cX9_oddsOf 49 = .ok (.aload_n 0, 1) := by decide +kernel
theorem dX9_oddsOf_50 : decode cX9_oddsOf 50 = .ok (.getfield 18, 3) := by decide +kernel
theorem dX9_oddsOf_53 : decode cX9_oddsOf 53 = .ok (.iload_n 1, 1) := by decide +kernel
theorem dX9_oddsOf_54 : decode cX9_oddsOf 54 = .ok (.iaload, 1) := by decide +kernel
theorem dX9_oddsOf_55 : decode cX9_oddsOf 55 = .ok (.imul, 1) := by decide +kernel
theorem dX9_oddsOf_56 : decode cX9_oddsOf 56 = .ok (.sipush 1000, 3) := by decide +kernel
theorem dX9_oddsOf_59 : decode cX9_oddsOf 59 = .ok (.imul, 1) := by decide +kernel
theorem dX9_oddsOf_60 : decode cX9_oddsOf 60 = .ok (.iload_n 2, 1) := by decide +kernel
theorem dX9_oddsOf_61 : decode cX9_oddsOf 61 = .ok (.idiv, 1) := by decide +kernel
theorem dX9_oddsOf_62 : decode cX9_oddsOf 62 = .ok (.ireturn, 1) := by decide +kernel
theorem dX9_bestOne_0 : decode cX9_bestOne 0 = .ok (.iconst 0, 1) := by decide +kernel
theorem dX9_bestOne_1 : decode cX9_bestOne 1 = .ok (.istore_n 1, 1) := by decide +kernel
theorem dX9_bestOne_2 : decode cX9_bestOne 2 = .ok (.iconst 1, 1) := by decide +kernel
theorem dX9_bestOne_3 : decode cX9_bestOne 3 = .ok (.istore_n 2, 1) := by decide +kernel
theorem dX9_bestOne_4 : decode cX9_bestOne 4 = .ok (.iload_n 2, 1) := by decide +kernel
theorem dX9_bestOne_5 : decode cX9_bestOne 5 = .ok (.aload_n 0, 1) := by decide +kernel
theorem dX9_bestOne_6 : decode cX9_bestOne 6 = .ok (.getfield 32, 3) := by decide +kernel
theorem dX9_bestOne_9 : decode cX9_bestOne 9 = .ok (.if_icmp .ge 40, 3) := by decide +kernel
theorem dX9_bestOne_12 : decode cX9_bestOne 12 = .ok (.aload_n 0, 1) := by decide +kernel
theorem dX9_bestOne_13 : decode cX9_bestOne 13 = .ok (.getfield 15, 3) := by decide +kernel
theorem dX9_bestOne_16 : decode cX9_bestOne 16 = .ok (.iload_n 2, 1) := by decide +kernel
theorem dX9_bestOne_17 : decode cX9_bestOne 17 = .ok (.iaload, 1) := by decide +kernel
theorem dX9_bestOne_18 : decode cX9_bestOne 18 = .ok (.aload_n 0, 1) := by decide +kernel
theorem dX9_bestOne_19 : decode cX9_bestOne 19 = .ok (.getfield 18, 3) := by decide +kernel
theorem dX9_bestOne_22 : decode cX9_bestOne 22 = .ok (.iload_n 2, 1) := by decide +kernel
theorem dX9_bestOne_23 : decode cX9_bestOne 23 = .ok (.iaload, 1) := by decide +kernel
theorem dX9_bestOne_24 : decode cX9_bestOne 24 = .ok (.imul, 1) := by decide +kernel
theorem dX9_bestOne_25 : decode cX9_bestOne 25 = .ok (.aload_n 0, 1) := by decide +kernel
theorem dX9_bestOne_26 : decode cX9_bestOne 26 = .ok (.getfield 15, 3) := by decide +kernel
theorem dX9_bestOne_29 : decode cX9_bestOne 29 = .ok (.iload_n 1, 1) := by decide +kernel
theorem dX9_bestOne_30 : decode cX9_bestOne 30 = .ok (.iaload, 1) := by decide +kernel
theorem dX9_bestOne_31 : decode cX9_bestOne 31 = .ok (.aload_n 0, 1) := by decide +kernel
theorem dX9_bestOne_32 : decode cX9_bestOne 32 = .ok (.getfield 18, 3) := by decide +kernel
theorem dX9_bestOne_35 : decode cX9_bestOne 35 = .ok (.iload_n 1, 1) := by decide +kernel
theorem dX9_bestOne_36 : decode cX9_bestOne 36 = .ok (.iaload, 1) := by decide +kernel
theorem dX9_bestOne_37 : decode cX9_bestOne 37 = .ok (.imul, 1) := by decide +kernel
theorem dX9_bestOne_38 : decode cX9_bestOne 38 = .ok (.if_icmp .le 5, 3) := by decide +kernel
theorem dX9_bestOne_41 : decode cX9_bestOne 41 = .ok (.iload_n 2, 1) := by decide +kernel
theorem dX9_bestOne_42 : decode cX9_bestOne 42 = .ok (.istore_n 1, 1) := by decide +kernel
theorem dX9_bestOne_43 : decode cX9_bestOne 43 = .ok (.iinc 2 1, 3) := by decide +kernel
theorem dX9_bestOne_46 : decode cX9_bestOne 46 = .ok (.goto (-42), 3) := by decide +kernel
theorem dX9_bestOne_49 : decode cX9_bestOne 49 = .ok (.iload_n 1, 1) := by decide +kernel
theorem dX9_bestOne_50 : decode cX9_bestOne 50 = .ok (.ireturn, 1) := by decide +kernel
theorem dX10_init_0 : decode cX10_init 0 = .ok (.aload_n 0, 1) := by decide +kernel
theorem dX10_init_1 : decode cX10_init 1 = .ok (.invokespecial 3, 3) := by decide +kernel
theorem dX10_init_4 : decode cX10_init 4 = .ok (.aload_n 0, 1) := by decide +kernel
theorem dX10_init_5 : decode cX10_init 5 = .ok (.bipush 64, 2) := by decide +kernel
theorem dX10_init_7 : decode cX10_init 7 = .ok (.newarray .byte, 2) := by decide +kernel
theorem dX10_init_9 : decode cX10_init 9 = .ok (.putfield 9, 3) := by decide +kernel
theorem dX10_init_12 : decode cX10_init 12 = .ok (.aload_n 0, 1) := by decide +kernel
theorem dX10_init_13 : decode cX10_init 13 = .ok (.iconst 0, 1) := by decide +kernel
theorem dX10_init_14 : decode cX10_init 14 = .ok (.newarray .int, 2) := by decide +kernel
theorem dX10_init_16 : decode cX10_init 16 = .ok (.putfield 15, 3) := by decide +kernel
theorem dX10_init_19 : decode cX10_init 19 = .ok (.return_, 1) := by decide +kernel
set_option maxRecDepth 20000 in
theorem ggX10_take_J7_copyOf_9075b : GoodIn wsX10_take wsJ7_copyOf_9075b := goodIn_r _ [6, 7, 8, 9, 10, 11, 12, 13, 14, 15, 16, 17, 18, 19, 20, 21] rfl (by decide +kernel)
set_option maxRecDepth 20000 in
theorem gX10_take_J7_copyOf_9075b : GoodIn wsX10_take (va_wsS RX10 23 yJ7_copyOf_9075b wsJ7_copyOf_9075b) := goodIn_app (goodIn_of _ (by decide +kernel)) ggX10_take_J7_copyOf_9075b
theorem dX10_take_0 : decode cX10_take 0 = .ok (.aload_n 0, 1) := by decide +kernel
theorem dX10_take_1 : decode cX10_take 1 = .ok (.getfield 19, 3) := by decide +kernel
theorem dX10_take_4 : decode cX10_take 4 = .ok (.iload_n 1, 1) := by decide +kernel
theorem dX10_take_5 : decode cX10_take 5 = .ok (.iadd, 1) := by decide +kernel
theorem dX10_take_6 : decode cX10_take 6 = .ok (.sipush 2048, 3) := by decide +kernel
theorem dX10_take_9 : decode cX10_take 9 = .ok (.if_icmp .le 6, 3) := by decide +kernel
theorem dX10_take_12 : decode cX10_take 12 = .ok (.bipush (-3), 2) := by decide +kernel
theorem dX10_take_14 : decode cX10_take 14 = .ok (.ireturn, 1) := by decide +kernel
theorem dX10_take_15 : decode cX10_take 15 = .ok (.aload_n 0, 1) := by decide +kernel
theorem dX10_take_16 : decode cX10_take 16 = .ok (.getfield 19, 3) := by decide +kernel
theorem dX10_take_19 : decode cX10_take 19 = .ok (.iload_n 1, 1) := by decide +kernel
theorem dX10_take_20 : decode cX10_take 20 = .ok (.iadd, 1) := by decide +kernel
theorem dX10_take_21 : decode cX10_take 21 = .ok (.aload_n 0, 1) := by decide +kernel
theorem dX10_take_22 : decode cX10_take 22 = .ok (.getfield 9, 3) := by decide +kernel
theorem dX10_take_25 : decode cX10_take 25 = .ok (.arraylength, 1) := by decide +kernel
theorem dX10_take_26 : decode cX10_take 26 = .ok (.if_icmp .le 21, 3) := by decide +kernel
theorem dX10_take_29 : decode cX10_take 29 = .ok (.aload_n 0, 1) := by decide +kernel
theorem dX10_take_30 : decode cX10_take 30 = .ok (.aload_n 0, 1) := by decide +kernel
theorem dX10_take_31 : decode cX10_take 31 = .ok (.getfield 9, 3) := by decide +kernel
theorem dX10_take_34 : decode cX10_take 34 = .ok (.iconst 2, 1) := by decide +kernel
theorem dX10_take_35 : decode cX10_take 35 = .ok (.aload_n 0, 1) := by decide +kernel
theorem dX10_take_36 : decode cX10_take 36 = .ok (.getfield 9, 3) := by decide +kernel
theorem dX10_take_39 : decode cX10_take 39 = .ok (.arraylength, 1) := by decide +kernel
theorem dX10_take_40 : decode cX10_take 40 = .ok (.imul, 1) := by decide +kernel
theorem dX10_take_41 : decode cX10_take 41 = .ok (.invokestatic 23, 3) := by decide +kernel
theorem dX10_take_44 : decode cX10_take 44 = .ok (.putfield 9, 3) := by decide +kernel
theorem dX10_take_47 : decode cX10_take 47 = .ok (.iconst 0, 1) := by decide +kernel
theorem dX10_take_48 : decode cX10_take 48 = .ok (.istore_n 3, 1) := by decide +kernel
theorem dX10_take_49 : decode cX10_take 49 = .ok (.iload_n 3, 1) := by decide +kernel
theorem dX10_take_50 : decode cX10_take 50 = .ok (.iload_n 1, 1) := by decide +kernel
theorem dX10_take_51 : decode cX10_take 51 = .ok (.if_icmp .ge 35, 3) := by decide +kernel
theorem dX10_take_54 : decode cX10_take 54 = .ok (.aload_n 0, 1) := by decide +kernel
theorem dX10_take_55 : decode cX10_take 55 = .ok (.getfield 9, 3) := by decide +kernel
theorem dX10_take_58 : decode cX10_take 58 = .ok (.aload_n 0, 1) := by decide +kernel
theorem dX10_take_59 : decode cX10_take 59 = .ok (.getfield 19, 3) := by decide +kernel
theorem dX10_take_62 : decode cX10_take 62 = .ok (.iload_n 2, 1) := by decide +kernel
theorem dX10_take_63 : decode cX10_take 63 = .ok (.bipush 8, 2) := by decide +kernel
theorem dX10_take_65 : decode cX10_take 65 = .ok (.iload_n 3, 1) := by decide +kernel
theorem dX10_take_66 : decode cX10_take 66 = .ok (.imul, 1) := by decide +kernel
theorem dX10_take_67 : decode cX10_take 67 = .ok (.ishr, 1) := by decide +kernel
theorem dX10_take_68 : decode cX10_take 68 = .ok (.i2b, 1) := by decide +kernel
theorem dX10_take_69 : decode cX10_take 69 = .ok (.bastore, 1) := by decide +kernel
theorem dX10_take_70 : decode cX10_take 70 = .ok (.aload_n 0, 1) := by decide +kernel
theorem dX10_take_71 : decode cX10_take 71 = .ok (.dup, 1) := by decide +kernel
theorem dX10_take_72 : decode cX10_take 72 = .ok (.getfield 19, 3) := by decide +kernel
theorem dX10_take_75 : decode cX10_take 75 = .ok (.iconst 1, 1) := by decide +kernel
theorem dX10_take_76 : decode cX10_take 76 = .ok (.iadd, 1) := by decide +kernel
theorem dX10_take_77 : decode cX10_take 77 = .ok (.putfield 19, 3) := by decide +kernel
theorem dX10_take_80 : decode cX10_take 80 = .ok (.iinc 3 1, 3) := by decide +kernel
theorem dX10_take_83 : decode cX10_take 83 = .ok (.goto (-34), 3) := by decide +kernel
theorem dX10_take_86 : decode cX10_take 86 = .ok (.aload_n 0, 1) := by decide +kernel
theorem dX10_take_87 : decode cX10_take 87 = .ok (.getfield 19, 3) := by decide +kernel
theorem dX10_take_90 : decode cX10_take 90 = .ok (.ireturn, 1) := by decide +kernel
set_option maxRecDepth 20000 in
theorem ggX10_read_X10_readLine : GoodIn wsX10_read wsX10_readLine := goodIn_r _ [10, 11, 12, 13, 9, 14, 3, 1, 15, 16, 17, 18, 19, 20, 21, 22, 23, 24, 25, 26, 27, 28, 29, 2, 5, 30, 31, 32, 33, 34, 35, 36, 37, 38, 39, 40, 41, 42, 43, 44, 45, 46, 47, 48, 49, 50, 51, 52, 53, 54, 55, 56, 57, 58, 59, 60, 61, 62, 63, 64, 65, 66, 67, 68, 69, 70, 71, 72, 73, 74, 75, 76, 77, 78, 79, 80, 81, 82, 83, 84, 85, 86, 87, 88, 89, 90, 91, 92, 93, 94, 95, 96, 97, 98, 99, 100, 101, 102, 103, 104, 105, 106, 107, 108, 109, 110, 111, 112, 113, 114, 115, 116, 117, 118, 119, 120, 121, 122, 123, 124, 125, 126, 127, 128, 129, 130, 131, 132, 133, 134, 135] rfl (by decide +kernel)
set_option maxRecDepth 20000 in
theorem gX10_read_X10_readLine : GoodIn wsX10_read (wsV RX10 35 RX10 yX10_readLine wsX10_readLine) := goodIn_app (goodIn_of _ (by decide +kernel)) ggX10_read_X10_readLine
set_option maxRecDepth 20000 in
theorem ggX10_read_X10_takes : GoodIn wsX10_read wsX10_takes := goodIn_r _ [130, 1, 18, 19, 20, 9, 21, 3, 22, 131, 132, 133, 134, 135] rfl (by decide +kernel)
set_option maxRecDepth 20000 in
theorem gX10_read_X10_takes : GoodIn wsX10_read (wsV RX10 39 RX10 yX10_takes wsX10_takes) := goodIn_app (goodIn_of _ (by decide +kernel)) ggX10_read_X10_takes
theorem dX10_read_0 : decode cX10_read 0 = .ok (.aload_n 0, 1) := by decide +kernel
theorem dX10_read_1 : decode cX10_read 1 = .ok (.iconst 0, 1) := by decide +kernel
theorem dX10_read_2 : decode cX10_read 2 = .ok (.putfield 29, 3) := by decide +kernel
theorem dX10_read_5 : decode cX10_read 5 = .ok (.aload_n 0, 1) := by decide +kernel
theorem dX10_read_6 : decode cX10_read 6 = .ok (.iconst 0, 1) := by decide +kernel
theorem dX10_read_7 : decode cX10_read 7 = .ok (.putfield 32, 3) := by decide +kernel
theorem dX10_read_10 : decode cX10_read 10 = .ok (.aload_n 0, 1) := by decide +kernel
theorem dX10_read_11 : decode cX10_read 11 = .ok (.aload_n 0, 1) := by decide +kernel
theorem dX10_read_12 : decode cX10_read 12 = .ok (.getfield 19, 3) := by decide +kernel
theorem dX10_read_15 : decode cX10_read 15 = .ok (.iconst 1, 1) := by decide +kernel
theorem dX10_read_16 : decode cX10_read 16 = .ok (.iadd, 1) := by decide +kernel
theorem dX10_read_17 : decode cX10_read 17 = .ok (.newarray .int, 2) := by decide +kernel
theorem dX10_read_19 : decode cX10_read 19 = .ok (.putfield 15, 3) := by decide +kernel
theorem dX10_read_22 : decode cX10_read 22 = .ok (.iconst 0, 1) := by decide +kernel
theorem dX10_read_23 : decode cX10_read 23 = .ok (.istore_n 1, 1) := by decide +kernel
theorem dX10_read_24 : decode cX10_read 24 = .ok (.iload_n 1, 1) := by decide +kernel
theorem dX10_read_25 : decode cX10_read 25 = .ok (.aload_n 0, 1) := by decide +kernel
theorem dX10_read_26 : decode cX10_read 26 = .ok (.getfield 19, 3) := by decide +kernel
theorem dX10_read_29 : decode cX10_read 29 = .ok (.if_icmp .gt 42, 3) := by decide +kernel
theorem dX10_read_32 : decode cX10_read 32 = .ok (.aload_n 0, 1) := by decide +kernel
theorem dX10_read_33 : decode cX10_read 33 = .ok (.invokevirtual 35, 3) := by decide +kernel
theorem dX10_read_36 : decode cX10_read 36 = .ok (.ifCond .ne 5, 3) := by decide +kernel
theorem dX10_read_39 : decode cX10_read 39 = .ok (.iconst 0, 1) := by decide +kernel
theorem dX10_read_40 : decode cX10_read 40 = .ok (.ireturn, 1) := by decide +kernel
theorem dX10_read_41 : decode cX10_read 41 = .ok (.aload_n 0, 1) := by decide +kernel
theorem dX10_read_42 : decode cX10_read 42 = .ok (.getfield 29, 3) := by decide +kernel
theorem dX10_read_45 : decode cX10_read 45 = .ok (.aload_n 0, 1) := by decide +kernel
theorem dX10_read_46 : decode cX10_read 46 = .ok (.getfield 19, 3) := by decide +kernel
theorem dX10_read_49 : decode cX10_read 49 = .ok (.if_icmp .ne 5, 3) := by decide +kernel
theorem dX10_read_52 : decode cX10_read 52 = .ok (.iconst 1, 1) := by decide +kernel
theorem dX10_read_53 : decode cX10_read 53 = .ok (.ireturn, 1) := by decide +kernel
theorem dX10_read_54 : decode cX10_read 54 = .ok (.aload_n 0, 1) := by decide +kernel
theorem dX10_read_55 : decode cX10_read 55 = .ok (.bipush 59, 2) := by decide +kernel
theorem dX10_read_57 : decode cX10_read 57 = .ok (.invokevirtual 39, 3) := by decide +kernel
theorem dX10_read_60 : decode cX10_read 60 = .ok (.ifCond .ne 5, 3) := by decide +kernel
theorem dX10_read_63 : decode cX10_read 63 = .ok (.iconst 0, 1) := by decide +kernel
theorem dX10_read_64 : decode cX10_read 64 = .ok (.ireturn, 1) := by decide +kernel
theorem dX10_read_65 : decode cX10_read 65 = .ok (.iinc 1 1, 3) := by decide +kernel
theorem dX10_read_68 : decode cX10_read 68 = .ok (.goto (-44), 3) := by decide +kernel
theorem dX10_read_71 : decode cX10_read 71 = .ok (.iconst 0, 1) := by decide +kernel
theorem dX10_read_72 : decode cX10_read 72 = .ok (.ireturn, 1) := by decide +kernel
set_option maxRecDepth 20000 in
theorem ggX10_readLine_X10_readLevel : GoodIn wsX10_readLine wsX10_readLevel := goodIn_r _ [5, 6, 7, 8, 9, 10, 4, 1, 2, 3, 11, 12, 13, 14, 15, 16, 17, 18, 19, 20, 21, 22, 23, 24, 25, 26, 27, 28, 29, 30, 31, 32, 33, 34, 35, 36, 37, 38, 39, 40, 41, 42, 43, 44, 45, 46, 47, 48, 49, 50, 51, 52, 53, 54, 55, 56, 57, 58, 59, 60, 61, 62, 63, 64, 65, 66, 67, 68, 69, 70, 71, 72, 73, 74, 75, 76, 77, 78, 79, 80, 81, 82, 83, 84, 85, 86, 87, 88, 89, 90, 91, 92, 93, 94, 95, 96, 97, 98, 99, 100, 101, 102, 103, 104, 105, 106, 107, 108, 109, 110, 111, 112, 113, 114, 115, 116, 117, 118, 119, 120, 121, 122, 123, 124, 125, 126, 127, 128, 129, 130] rfl (by decide +kernel)
set_option maxRecDepth 20000 in
theorem gX10_readLine_X10_readLevel : GoodIn wsX10_readLine (wsV RX10 43 RX10 yX10_readLevel wsX10_readLevel) := goodIn_app (goodIn_of _ (by decide +kernel)) ggX10_readLine_X10_readLevel
set_option maxRecDepth 20000 in
theorem ggX10_readLine_X10_takes : GoodIn wsX10_readLine wsX10_takes := goodIn_r _ [125, 7, 11, 12, 13, 4, 14, 6, 15, 126, 127, 128, 129, 130] rfl (by decide +kernel)
set_option maxRecDepth 20000 in
theorem gX10_readLine_X10_takes : GoodIn wsX10_readLine (wsV RX10 39 RX10 yX10_takes wsX10_takes) := goodIn_app (goodIn_of _ (by decide +kernel)) ggX10_readLine_X10_takes
set_option maxRecDepth 20000 in
theorem ggX10_readLine_X10_step : GoodIn wsX10_readLine wsX10_step := goodIn_r _ [22, 23, 24, 126, 127, 128, 129, 130] rfl (by decide +kernel)
set_option maxRecDepth 20000 in
theorem gX10_readLine_X10_step : GoodIn wsX10_readLine (wsV RX10 47 RX10 yX10_step wsX10_step) := goodIn_app (goodIn_of _ (by decide +kernel)) ggX10_readLine_X10_step
theorem dX10_readLine_0 : decode cX10_readLine 0 = .ok (.aload_n 0, 1) := by decide +kernel
theorem dX10_readLine_1 : decode cX10_readLine 1 = .ok (.iconst 0, 1) := by decide +kernel
theorem dX10_readLine_2 : decode cX10_readLine 2 = .ok (.iconst 0, 1) := by decide +kernel
theorem dX10_readLine_3 : decode cX10_readLine 3 = .ok (.invokevirtual 43, 3) := by decide +kernel
theorem dX10_readLine_6 : decode cX10_readLine 6 = .ok (.ifCond .ne 5, 3) := by decide +kernel
theorem dX10_readLine_9 : decode cX10_readLine 9 = .ok (.iconst 0, 1) := by decide +kernel
theorem dX10_readLine_10 : decode cX10_readLine 10 = .ok (.ireturn, 1) := by decide +kernel
theorem dX10_readLine_11 : decode cX10_readLine 11 = .ok (.aload_n 0, 1) := by decide +kernel
theorem dX10_readLine_12 : decode cX10_readLine 12 = .ok (.bipush 63, 2) := by decide +kernel
theorem dX10_readLine_14 : decode cX10_readLine 14 = .ok (.invokevirtual 39, 3) := by decide +kernel
theorem dX10_readLine_17 : decode cX10_readLine 17 = .ok (.ifCond .eq 20, 3) := by decide +kernel
theorem dX10_readLine_20 : decode cX10_readLine 20 = .ok (.aload_n 0, 1) := by decide +kernel
theorem dX10_readLine_21 : decode cX10_readLine 21 = .ok (.bipush (-63), 2) := by decide +kernel
theorem dX10_readLine_23 : decode cX10_readLine 23 = .ok (.invokevirtual 47, 3) := by decide +kernel
theorem dX10_readLine_26 : decode cX10_readLine 26 = .ok (.aload_n 0, 1) := by decide +kernel
theorem dX10_readLine_27 : decode cX10_readLine 27 = .ok (.iconst 0, 1) := by decide +kernel
theorem dX10_readLine_28 : decode cX10_readLine 28 = .ok (.iconst 0, 1) := by decide +kernel
theorem dX10_readLine_29 : decode cX10_readLine 29 = .ok (.invokevirtual 43, 3) := by decide +kernel
theorem dX10_readLine_32 : decode cX10_readLine 32 = .ok (.ifCond .ne 5, 3) := by decide +kernel
theorem dX10_readLine_35 : decode cX10_readLine 35 = .ok (.iconst 0, 1) := by decide +kernel
theorem dX10_readLine_36 : decode cX10_readLine 36 = .ok (.ireturn, 1) := by decide +kernel
theorem dX10_readLine_37 : decode cX10_readLine 37 = .ok (.aload_n 0, 1) := by decide +kernel
theorem dX10_readLine_38 : decode cX10_readLine 38 = .ok (.bipush (-59), 2) := by decide +kernel
theorem dX10_readLine_40 : decode cX10_readLine 40 = .ok (.invokevirtual 47, 3) := by decide +kernel
theorem dX10_readLine_43 : decode cX10_readLine 43 = .ok (.iconst 1, 1) := by decide +kernel
theorem dX10_readLine_44 : decode cX10_readLine 44 = .ok (.ireturn, 1) := by decide +kernel
set_option maxRecDepth 20000 in
theorem ggX10_readLevel_X10_readOperand : GoodIn wsX10_readLevel wsX10_readOperand := goodIn_r _ [24, 2, 10, 11, 12, 6, 13, 1, 14, 25, 26, 27, 28, 29, 30, 31, 18, 19, 20, 21, 22, 23, 32, 33, 34, 35, 36, 37, 38, 39, 40, 41, 42, 43, 44, 45, 46, 47, 48, 49, 50, 51, 52, 53, 54, 55, 56, 57, 58, 59, 60, 61, 62, 63, 64, 65, 66, 67, 68, 69, 70, 71, 72, 73, 74, 75, 76, 77, 78, 79, 80, 81, 82, 83, 84, 85, 86, 87, 88, 89, 90, 91, 92, 93, 94, 95, 96, 97, 98, 99, 100, 101, 102, 103, 104, 105, 106, 107, 108, 109, 110, 111, 112, 113, 114, 115, 116, 117, 118, 119, 120, 7, 8, 9, 121, 122, 123, 124, 3, 4, 5, 0, 15, 16, 17, 125, 126, 127, 128, 129] rfl (by decide +kernel)
set_option maxRecDepth 20000 in
theorem gX10_readLevel_X10_readOperand : GoodIn wsX10_readLevel (wsV RX10 51 RX10 yX10_readOperand wsX10_readOperand) := goodIn_app (goodIn_of _ (by decide +kernel)) ggX10_readLevel_X10_readOperand
set_option maxRecDepth 20000 in
theorem ggX10_readLevel_X10_readLevel : GoodIn wsX10_readLevel wsX10_readLevel := goodIn_r _ [0, 1, 2, 3, 4, 5, 6, 7, 8, 9, 10, 11, 12, 13, 14, 15, 16, 17, 18, 19, 20, 21, 22, 23, 24, 25, 26, 27, 28, 29, 30, 31, 32, 33, 34, 35, 36, 37, 38, 39, 40, 41, 42, 43, 44, 45, 46, 47, 48, 49, 50, 51, 52, 53, 54, 55, 56, 57, 58, 59, 60, 61, 62, 63, 64, 65, 66, 67, 68, 69, 70, 71, 72, 73, 74, 75, 76, 77, 78, 79, 80, 81, 82, 83, 84, 85, 86, 87, 88, 89, 90, 91, 92, 93, 94, 95, 96, 97, 98, 99, 100, 101, 102, 103, 104, 105, 106, 107, 108, 109, 110, 111, 112, 113, 114, 115, 116, 117, 118, 119, 120, 121, 122, 123, 124, 125, 126, 127, 128, 129] rfl (by decide +kernel)
set_option maxRecDepth 20000 in
theorem gX10_readLevel_X10_readLevel : GoodIn wsX10_readLevel (wsV RX10 43 RX10 yX10_readLevel wsX10_readLevel) := goodIn_app (goodIn_of _ (by decide +kernel)) ggX10_readLevel_X10_readLevel
set_option maxRecDepth 20000 in
theorem ggX10_readLevel_X10_sign : GoodIn wsX10_readLevel wsX10_sign := goodIn_r _ [13, 2, 1, 14, 125, 126, 127, 128, 129] rfl (by decide +kernel)
set_option maxRecDepth 20000 in
theorem gX10_readLevel_X10_sign : GoodIn wsX10_readLevel (wsV RX10 54 RX10 yX10_sign wsX10_sign) := goodIn_app (goodIn_of _ (by decide +kernel)) ggX10_readLevel_X10_sign
set_option maxRecDepth 20000 in
theorem ggX10_readLevel_X10_levelOf : GoodIn wsX10_readLevel wsX10_levelOf := goodIn_r _ [17] rfl (by decide +kernel)
set_option maxRecDepth 20000 in
theorem gX10_readLevel_X10_levelOf : GoodIn wsX10_readLevel (va_wsS RX10 58 yX10_levelOf wsX10_levelOf) := goodIn_app (goodIn_of _ (by decide +kernel)) ggX10_readLevel_X10_levelOf
set_option maxRecDepth 20000 in
theorem ggX10_readLevel_X10_step : GoodIn wsX10_readLevel wsX10_step := goodIn_r _ [21, 22, 23, 125, 126, 127, 128, 129] rfl (by decide +kernel)
set_option maxRecDepth 20000 in
theorem gX10_readLevel_X10_step : GoodIn wsX10_readLevel (wsV RX10 47 RX10 yX10_step wsX10_step) := goodIn_app (goodIn_of _ (by decide +kernel)) ggX10_readLevel_X10_step
theorem dX10_readLevel_0 : decode cX10_readLevel 0 = .ok (.iload_n 1, 1) := by decide +kernel
theorem dX10_readLevel_1 : decode cX10_readLevel 1 = .ok (.iconst 4, 1) := by decide +kernel
theorem dX10_readLevel_2 : decode cX10_readLevel 2 = .ok (.if_icmp .le 9, 3) := by decide +kernel
theorem dX10_readLevel_5 : decode cX10_readLevel 5 = .ok (.aload_n 0, 1) := by decide +kernel
theorem dX10_readLevel_6 : decode cX10_readLevel 6 = .ok (.iload_n 2, 1) := by decide +kernel
theorem dX10_readLevel_7 : decode cX10_readLevel 7 = .ok (.invokevirtual 51, 3) := by decide +kernel
theorem dX10_readLevel_10 : decode cX10_readLevel 10 = .ok (.ireturn, 1) := by decide +kernel
theorem dX10_readLevel_11 : decode cX10_readLevel 11 = .ok (.aload_n 0, 1) := by decide +kernel
theorem dX10_readLevel_12 : decode cX10_readLevel 12 = .ok (.iload_n 1, 1) := by decide +kernel
theorem dX10_readLevel_13 : decode cX10_readLevel 13 = .ok (.iconst 1, 1) := by decide +kernel
theorem dX10_readLevel_14 : decode cX10_readLevel 14 = .ok (.iadd, 1) := by decide +kernel
theorem dX10_readLevel_15 : decode cX10_readLevel 15 = .ok (.iload_n 2, 1) := by decide +kernel
theorem dX10_readLevel_16 : decode cX10_readLevel 16 = .ok (.invokevirtual 43, 3) := by decide +kernel
theorem dX10_readLevel_19 : decode cX10_readLevel 19 = .ok (.ifCond .ne 5, 3) := by decide +kernel
theorem dX10_readLevel_22 : decode cX10_readLevel 22 = .ok (.iconst 0, 1) := by decide +kernel
theorem dX10_readLevel_23 : decode cX10_readLevel 23 = .ok (.ireturn, 1) := by decide +kernel
theorem dX10_readLevel_24 : decode cX10_readLevel 24 = .ok (.iload_n 1, 1) := by decide +kernel
theorem dX10_readLevel_25 : decode cX10_readLevel 25 = .ok (.iconst 2, 1) := by decide +kernel
theorem dX10_readLevel_26 : decode cX10_readLevel 26 = .ok (.if_icmp .ne 7, 3) := by decide +kernel
theorem dX10_readLevel_29 : decode cX10_readLevel 29 = .ok (.iconst 1, 1) := by decide +kernel
theorem dX10_readLevel_30 : decode cX10_readLevel 30 = .ok (.goto 7, 3) := by decide +kernel
theorem dX10_readLevel_33 : decode cX10_readLevel 33 = .ok (.aload_n 0, 1) := by decide +kernel
theorem dX10_readLevel_34 : decode cX10_readLevel 34 = .ok (.getfield 19, 3) := by decide +kernel
theorem dX10_readLevel_37 : decode cX10_readLevel 37 = .ok (.istore_n 3, 1) := by decide +kernel
theorem dX10_readLevel_38 : decode cX10_readLevel 38 = .ok (.iconst 0, 1) := by decide +kernel
theorem dX10_readLevel_39 : decode cX10_readLevel 39 = .ok (.istore 4, 2) := by decide +kernel
theorem dX10_readLevel_41 : decode cX10_readLevel 41 = .ok (.iload 4, 2) := by decide +kernel
theorem dX10_readLevel_43 : decode cX10_readLevel 43 = .ok (.iload_n 3, 1) := by decide +kernel
theorem dX10_readLevel_44 : decode cX10_readLevel 44 = .ok (.if_icmp .ge 56, 3) := by decide +kernel
theorem dX10_readLevel_47 : decode cX10_readLevel 47 = .ok (.aload_n 0, 1) := by decide +kernel
theorem dX10_readLevel_48 : decode cX10_readLevel 48 = .ok (.invokevirtual 54, 3) := by decide +kernel
theorem dX10_readLevel_51 : decode cX10_readLevel 51 = .ok (.istore 5, 2) := by decide +kernel
theorem dX10_readLevel_53 : decode cX10_readLevel 53 = .ok (.iload 5, 2) := by decide +kernel
theorem dX10_readLevel_55 : decode cX10_readLevel 55 = .ok (.invokestatic 58, 3) := by decide +kernel
theorem dX10_readLevel_58 : decode cX10_readLevel 58 = .ok (.iload_n 1, 1) := by decide +kernel
theorem dX10_readLevel_59 : decode cX10_readLevel 59 = .ok (.if_icmp .eq 5, 3) := by decide +kernel
theorem dX10_readLevel_62 : decode cX10_readLevel 62 = .ok (.iconst 1, 1) := by decide +kernel
theorem dX10_readLevel_63 : decode cX10_readLevel 63 = .ok (.ireturn, 1) := by decide +kernel
theorem dX10_readLevel_64 : decode cX10_readLevel 64 = .ok (.aload_n 0, 1) := by decide +kernel
theorem dX10_readLevel_65 : decode cX10_readLevel 65 = .ok (.dup, 1) := by decide +kernel
theorem dX10_readLevel_66 : decode cX10_readLevel 66 = .ok (.getfield 29, 3) := by decide +kernel
theorem dX10_readLevel_69 : decode cX10_readLevel 69 = .ok (.iconst 1, 1) := by decide +kernel
theorem dX10_readLevel_70 : decode cX10_readLevel 70 = .ok (.iadd, 1) := by decide +kernel
theorem dX10_readLevel_71 : decode cX10_readLevel 71 = .ok (.putfield 29, 3) := by decide +kernel
theorem dX10_readLevel_74 : decode cX10_readLevel 74 = .ok (.aload_n 0, 1) := by decide +kernel
theorem dX10_readLevel_75 : decode cX10_readLevel 75 = .ok (.iload_n 1, 1) := by decide +kernel
theorem dX10_readLevel_76 : decode cX10_readLevel 76 = .ok (.iconst 1, 1) := by decide +kernel
theorem dX10_readLevel_77 : decode cX10_readLevel 77 = .ok (.iadd, 1) := by decide +kernel
theorem dX10_readLevel_78 : decode cX10_readLevel 78 = .ok (.iload_n 2, 1) := by decide +kernel
theorem dX10_readLevel_79 : decode cX10_readLevel 79 = .ok (.invokevirtual 43, 3) := by decide +kernel
theorem dX10_readLevel_82 : decode cX10_readLevel 82 = .ok (.ifCond .ne 5, 3) := by decide +kernel
theorem dX10_readLevel_85 : decode cX10_readLevel 85 = .ok (.iconst 0, 1) := by decide +kernel
theorem dX10_readLevel_86 : decode cX10_readLevel 86 = .ok (.ireturn, 1) := by decide +kernel
theorem dX10_readLevel_87 : decode cX10_readLevel 87 = .ok (.aload_n 0, 1) := by decide +kernel
theorem dX10_readLevel_88 : decode cX10_readLevel 88 = .ok (.iload 5, 2) := by decide +kernel
theorem dX10_readLevel_90 : decode cX10_readLevel 90 = .ok (.ineg, 1) := by decide +kernel
theorem dX10_readLevel_91 : decode cX10_readLevel 91 = .ok (.invokevirtual 47, 3) := by decide +kernel
theorem dX10_readLevel_94 : decode cX10_readLevel 94 = .ok (.iinc 4 1, 3) := by decide +kernel
theorem dX10_readLevel_97 : decode cX10_readLevel 97 = .ok (.goto (-56), 3) := by decide +kernel
theorem dX10_readLevel_100 : decode cX10_readLevel 100 = .ok (.iconst 1, 1) := by decide +kernel
theorem dX10_readLevel_101 : decode cX10_readLevel 101 = .ok (.ireturn, 1) := by decide +kernel
set_option maxRecDepth 20000 in
theorem ggX10_readOperand_X10_sign : GoodIn wsX10_readOperand wsX10_sign := goodIn_r _ [6, 1, 7, 8, 125, 126, 127, 128, 129] rfl (by decide +kernel)
set_option maxRecDepth 20000 in
theorem gX10_readOperand_X10_sign : GoodIn wsX10_readOperand (wsV RX10 54 RX10 yX10_sign wsX10_sign) := goodIn_app (goodIn_of _ (by decide +kernel)) ggX10_readOperand_X10_sign
set_option maxRecDepth 20000 in
theorem ggX10_readOperand_X10_isDigit : GoodIn wsX10_readOperand wsX10_isDigit := goodIn_r _ [11] rfl (by decide +kernel)
set_option maxRecDepth 20000 in
theorem gX10_readOperand_X10_isDigit : GoodIn wsX10_readOperand (va_wsS RX10 62 yX10_isDigit wsX10_isDigit) := goodIn_app (goodIn_of _ (by decide +kernel)) ggX10_readOperand_X10_isDigit
set_option maxRecDepth 20000 in
theorem ggX10_readOperand_X10_readNumber : GoodIn wsX10_readOperand wsX10_readNumber := goodIn_r _ [15, 1, 2, 3, 4, 5, 6, 7, 8, 9, 10, 11, 16, 17, 18, 19, 20, 21, 125, 126, 127, 128, 129] rfl (by decide +kernel)
set_option maxRecDepth 20000 in
theorem gX10_readOperand_X10_readNumber : GoodIn wsX10_readOperand (wsV RX10 65 RX10 yX10_readNumber wsX10_readNumber) := goodIn_app (goodIn_of _ (by decide +kernel)) ggX10_readOperand_X10_readNumber
set_option maxRecDepth 20000 in
theorem ggX10_readOperand_J0_indexOf_0f7a4 : GoodIn wsX10_readOperand wsJ0_indexOf_0f7a4 := goodIn_r _ [26, 27, 28, 29, 25, 30, 31, 32, 33, 34, 35, 36, 37, 38, 39, 40, 41, 42, 43, 44, 45, 46, 47, 48, 49, 50, 51, 52, 53, 54, 55, 56, 57, 58, 59, 60, 61, 62, 63, 64, 65, 66, 67, 68, 69, 70, 71, 72, 73, 74, 75, 76, 77, 78, 79, 80, 81, 82, 83, 84, 85, 86, 87, 88, 89, 90, 91, 92, 93, 94, 95, 96, 97, 98, 99, 100, 101, 102, 103, 104, 105, 106, 107, 108, 109, 110] rfl (by decide +kernel)
set_option maxRecDepth 20000 in
theorem gX10_readOperand_J0_indexOf_0f7a4 : GoodIn wsX10_readOperand (wsV RX10 70 RJ0 yJ0_indexOf_0f7a4 wsJ0_indexOf_0f7a4) := goodIn_app (goodIn_of _ (by decide +kernel)) ggX10_readOperand_J0_indexOf_0f7a4
set_option maxRecDepth 20000 in
theorem ggX10_readOperand_X10_step : GoodIn wsX10_readOperand wsX10_step := goodIn_r _ [19, 20, 21, 125, 126, 127, 128, 129] rfl (by decide +kernel)
set_option maxRecDepth 20000 in
theorem gX10_readOperand_X10_step : GoodIn wsX10_readOperand (wsV RX10 47 RX10 yX10_step wsX10_step) := goodIn_app (goodIn_of _ (by decide +kernel)) ggX10_readOperand_X10_step
set_option maxRecDepth 20000 in
theorem ggX10_readOperand_X10_readLevel : GoodIn wsX10_readOperand wsX10_readLevel := goodIn_r _ [121, 7, 1, 118, 119, 120, 5, 111, 112, 113, 2, 3, 4, 6, 8, 122, 123, 124, 16, 17, 18, 19, 20, 21, 0, 9, 10, 11, 12, 13, 14, 15, 22, 23, 24, 25, 26, 27, 28, 29, 30, 31, 32, 33, 34, 35, 36, 37, 38, 39, 40, 41, 42, 43, 44, 45, 46, 47, 48, 49, 50, 51, 52, 53, 54, 55, 56, 57, 58, 59, 60, 61, 62, 63, 64, 65, 66, 67, 68, 69, 70, 71, 72, 73, 74, 75, 76, 77, 78, 79, 80, 81, 82, 83, 84, 85, 86, 87, 88, 89, 90, 91, 92, 93, 94, 95, 96, 97, 98, 99, 100, 101, 102, 103, 104, 105, 106, 107, 108, 109, 110, 114, 115, 116, 117, 125, 126, 127, 128, 129] rfl (by decide +kernel)
set_option maxRecDepth 20000 in
theorem gX10_readOperand_X10_readLevel : GoodIn wsX10_readOperand (wsV RX10 43 RX10 yX10_readLevel wsX10_readLevel) := goodIn_app (goodIn_of _ (by decide +kernel)) ggX10_readOperand_X10_readLevel
set_option maxRecDepth 20000 in
theorem ggX10_readOperand_X10_takes : GoodIn wsX10_readOperand wsX10_takes := goodIn_r _ [117, 1, 2, 3, 4, 5, 6, 7, 8, 125, 126, 127, 128, 129] rfl (by decide +kernel)
set_option maxRecDepth 20000 in
theorem gX10_readOperand_X10_takes : GoodIn wsX10_readOperand (wsV RX10 39 RX10 yX10_takes wsX10_takes) := goodIn_app (goodIn_of _ (by decide +kernel)) ggX10_readOperand_X10_takes
set_option maxRecDepth 20000 in
theorem ggX10_readOperand_X10_readOperand : GoodIn wsX10_readOperand wsX10_readOperand := goodIn_r _ [0, 1, 2, 3, 4, 5, 6, 7, 8, 9, 10, 11, 12, 13, 14, 15, 16, 17, 18, 19, 20, 21, 22, 23, 24, 25, 26, 27, 28, 29, 30, 31, 32, 33, 34, 35, 36, 37, 38, 39, 40, 41, 42, 43, 44, 45, 46, 47, 48, 49, 50, 51, 52, 53, 54, 55, 56, 57, 58, 59, 60, 61, 62, 63, 64, 65, 66, 67, 68, 69, 70, 71, 72, 73, 74, 75, 76, 77, 78, 79, 80, 81, 82, 83, 84, 85, 86, 87, 88, 89, 90, 91, 92, 93, 94, 95, 96, 97, 98, 99, 100, 101, 102, 103, 104, 105, 106, 107, 108, 109, 110, 111, 112, 113, 114, 115, 116, 117, 118, 119, 120, 121, 122, 123, 124, 125, 126, 127, 128, 129] rfl (by decide +kernel)
set_option maxRecDepth 20000 in
theorem gX10_readOperand_X10_readOperand : GoodIn wsX10_readOperand (wsV RX10 51 RX10 yX10_readOperand wsX10_readOperand) := goodIn_app (goodIn_of _ (by decide +kernel)) ggX10_readOperand_X10_readOperand
theorem dX10_readOperand_0 : decode cX10_readOperand 0 = .ok (.aload_n 0, 1) := by decide +kernel
theorem dX10_readOperand_1 : decode cX10_readOperand 1 = .ok (.invokevirtual 54, 3) := by decide +kernel
theorem dX10_readOperand_4 : decode cX10_readOperand 4 = .ok (.istore_n 2, 1) := by decide +kernel
theorem dX10_readOperand_5 : decode cX10_readOperand 5 = .ok (.iload_n 2, 1) := by decide +kernel
theorem dX10_readOperand_6 : decode cX10_readOperand 6 = .ok (.invokestatic 62, 3) := by decide +kernel
theorem dX10_readOperand_9 : decode cX10_readOperand 9 = .ok (.ifCond .eq 8, 3) := by decide +kernel
theorem dX10_readOperand_12 : decode cX10_readOperand 12 = .ok (.aload_n 0, 1) := by decide +kernel
theorem dX10_readOperand_13 : decode cX10_readOperand 13 = .ok (.invokevirtual 65, 3) := by decide +kernel
theorem dX10_readOperand_16 : decode cX10_readOperand 16 = .ok (.ireturn, 1) := by decide +kernel
theorem dX10_readOperand_17 : decode cX10_readOperand 17 = .ok (.iload_n 2, 1) := by decide +kernel
theorem dX10_readOperand_18 : decode cX10_readOperand 18 = .ok (.ifCond .ge 7, 3) := by decide +kernel
theorem dX10_readOperand_21 : decode cX10_readOperand 21 = .ok (.iconst (-1), 1) := by decide +kernel
theorem dX10_readOperand_22 : decode cX10_readOperand 22 = .ok (.goto 10, 3) := by decide +kernel
theorem dX10_readOperand_25 : decode cX10_readOperand 25 = .ok (.ldc 68, 2) := by decide +kernel
theorem dX10_readOperand_27 : decode cX10_readOperand 27 = .ok (.iload_n 2, 1) := by decide +kernel
theorem dX10_readOperand_28 : decode cX10_readOperand 28 = .ok (.i2c, 1) := by decide +kernel
theorem dX10_readOperand_29 : decode cX10_readOperand 29 = .ok (.invokevirtual 70, 3) := by decide +kernel
theorem dX10_readOperand_32 : decode cX10_readOperand 32 = .ok (.istore_n 3, 1) := by decide +kernel
theorem dX10_readOperand_33 : decode cX10_readOperand 33 = .ok (.iload_n 3, 1) := by decide +kernel
theorem dX10_readOperand_34 : decode cX10_readOperand 34 = .ok (.ifCond .lt 22, 3) := by decide +kernel
theorem dX10_readOperand_37 : decode cX10_readOperand 37 = .ok (.aload_n 0, 1) := by decide +kernel
theorem dX10_readOperand_38 : decode cX10_readOperand 38 = .ok (.dup, 1) := by decide +kernel
theorem dX10_readOperand_39 : decode cX10_readOperand 39 = .ok (.getfield 29, 3) := by decide +kernel
theorem dX10_readOperand_42 : decode cX10_readOperand 42 = .ok (.iconst 1, 1) := by decide +kernel
theorem dX10_readOperand_43 : decode cX10_readOperand 43 = .ok (.iadd, 1) := by decide +kernel
theorem dX10_readOperand_44 : decode cX10_readOperand 44 = .ok (.putfield 29, 3) := by decide +kernel
theorem dX10_readOperand_47 : decode cX10_readOperand 47 = .ok (.aload_n 0, 1) := by decide +kernel
theorem dX10_readOperand_48 : decode cX10_readOperand 48 = .ok (.iconst (-1), 1) := by decide +kernel
theorem dX10_readOperand_49 : decode cX10_readOperand 49 = .ok (.iload_n 3, 1) := by decide +kernel
theorem dX10_readOperand_50 : decode cX10_readOperand 50 = .ok (.isub, 1) := by decide +kernel
theorem dX10_readOperand_51 : decode cX10_readOperand 51 = .ok (.invokevirtual 47, 3) := by decide +kernel
theorem dX10_readOperand_54 : decode cX10_readOperand 54 = .ok (.iconst 1, 1) := by decide +kernel
theorem dX10_readOperand_55 : decode cX10_readOperand 55 = .ok (.ireturn, 1) := by decide +kernel
theorem dX10_readOperand_56 : decode cX10_readOperand 56 = .ok (.iload_n 1, 1) := by decide +kernel
theorem dX10_readOperand_57 : decode cX10_readOperand 57 = .ok (.bipush 6, 2) := by decide +kernel
theorem dX10_readOperand_59 : decode cX10_readOperand 59 = .ok (.if_icmp .ge 21, 3) := by decide +kernel
theorem dX10_readOperand_62 : decode cX10_readOperand 62 = .ok (.iload_n 2, 1) := by decide +kernel
theorem dX10_readOperand_63 : decode cX10_readOperand 63 = .ok (.bipush 40, 2) := by decide +kernel
theorem dX10_readOperand_65 : decode cX10_readOperand 65 = .ok (.if_icmp .eq 17, 3) := by decide +kernel
theorem dX10_readOperand_68 : decode cX10_readOperand 68 = .ok (.iload_n 2, 1) := by decide +kernel
theorem dX10_readOperand_69 : decode cX10_readOperand 69 = .ok (.bipush 33, 2) := by decide +kernel
theorem dX10_readOperand_71 : decode cX10_readOperand 71 = .ok (.if_icmp .eq 11, 3) := by decide +kernel
theorem dX10_readOperand_74 : decode cX10_readOperand 74 = .ok (.iload_n 2, 1) := by decide +kernel
theorem dX10_readOperand_75 : decode cX10_readOperand 75 = .ok (.bipush 45, 2) := by decide +kernel
theorem dX10_readOperand_77 : decode cX10_readOperand 77 = .ok (.if_icmp .eq 5, 3) := by decide +kernel
theorem dX10_readOperand_80 : decode cX10_readOperand 80 = .ok (.iconst 0, 1) := by decide +kernel
theorem dX10_readOperand_81 : decode cX10_readOperand 81 = .ok (.ireturn, 1) := by decide +kernel
theorem dX10_readOperand_82 : decode cX10_readOperand 82 = .ok (.aload_n 0, 1) := by decide +kernel
theorem dX10_readOperand_83 : decode cX10_readOperand 83 = .ok (.dup, 1) := by decide +kernel
theorem dX10_readOperand_84 : decode cX10_readOperand 84 = .ok (.getfield 29, 3) := by decide +kernel
theorem dX10_readOperand_87 : decode cX10_readOperand 87 = .ok (.iconst 1, 1) := by decide +kernel
theorem dX10_readOperand_88 : decode cX10_readOperand 88 = .ok (.iadd, 1) := by decide +kernel
theorem dX10_readOperand_89 : decode cX10_readOperand 89 = .ok (.putfield 29, 3) := by decide +kernel
theorem dX10_readOperand_92 : decode cX10_readOperand 92 = .ok (.iload_n 2, 1) := by decide +kernel
theorem dX10_readOperand_93 : decode cX10_readOperand 93 = .ok (.bipush 40, 2) := by decide +kernel
theorem dX10_readOperand_95 : decode cX10_readOperand 95 = .ok (.if_icmp .ne 29, 3) := by decide +kernel
theorem dX10_readOperand_98 : decode cX10_readOperand 98 = .ok (.aload_n 0, 1) := by decide +kernel
theorem dX10_readOperand_99 : decode cX10_readOperand 99 = .ok (.iconst 0, 1) := by decide +kernel
theorem dX10_readOperand_100 : decode cX10_readOperand 100 = .ok (.iload_n 1, 1) := by decide +kernel
theorem dX10_readOperand_101 : decode cX10_readOperand 101 = .ok (.iconst 1, 1) := by decide +kernel
theorem dX10_readOperand_102 : decode cX10_readOperand 102 = .ok (.iadd, 1) := by decide +kernel
theorem dX10_readOperand_103 : decode cX10_readOperand 103 = .ok (.invokevirtual 43, 3) := by decide +kernel
theorem dX10_readOperand_106 : decode cX10_readOperand 106 = .ok (.ifCond .eq 16, 3) := by decide +kernel
theorem dX10_readOperand_109 : decode cX10_readOperand 109 = .ok (.aload_n 0, 1) := by decide +kernel
theorem dX10_readOperand_110 : decode cX10_readOperand 110 = .ok (.bipush 41, 2) := by decide +kernel
theorem dX10_readOperand_112 : decode cX10_readOperand 112 = .ok (.invokevirtual 39, 3) := by decide +kernel
theorem dX10_readOperand_115 : decode cX10_readOperand 115 = .ok (.ifCond .eq 7, 3) := by decide +kernel
theorem dX10_readOperand_118 : decode cX10_readOperand 118 = .ok (.iconst 1, 1) := by decide +kernel
theorem dX10_readOperand_119 : decode cX10_readOperand 119 = .ok (.goto 4, 3) := by decide +kernel
theorem dX10_readOperand_122 : decode cX10_readOperand 122 = .ok (.iconst 0, 1) := by decide +kernel
theorem dX10_readOperand_123 : decode cX10_readOperand 123 = .ok (.ireturn, 1) := by decide +kernel
theorem dX10_readOperand_124 : decode cX10_readOperand 124 = .ok (.aload_n 0, 1) := by decide +kernel
theorem dX10_readOperand_125 : decode cX10_readOperand 125 = .ok (.iload_n 1, 1) := by decide +kernel
theorem dX10_readOperand_126 : decode cX10_readOperand 126 = .ok (.iconst 1, 1) := by decide +kernel
theorem dX10_readOperand_127 : decode cX10_readOperand 127 = .ok (.iadd, 1) := by decide +kernel
theorem dX10_readOperand_128 : decode cX10_readOperand 128 = .ok (.invokevirtual 51, 3) := by decide +kernel
theorem dX10_readOperand_131 : decode cX10_readOperand 131 = .ok (.ifCond .ne 5, 3) := by decide +kernel
theorem dX10_readOperand_134 : decode cX10_readOperand 134 = .ok (.iconst 0, 1) := by decide +kernel
theorem dX10_readOperand_135 : decode cX10_readOperand 135 = .ok (.ireturn, 1) := by decide +kernel
theorem dX10_readOperand_136 : decode cX10_readOperand 136 = .ok (.aload_n 0, 1) := by decide +kernel
theorem dX10_readOperand_137 : decode cX10_readOperand 137 = .ok (.iload_n 2, 1) := by decide +kernel
theorem dX10_readOperand_138 : decode cX10_readOperand 138 = .ok (.bipush 33, 2) := by decide +kernel
theorem dX10_readOperand_140 : decode cX10_readOperand 140 = .ok (.if_icmp .ne 8, 3) := by decide +kernel
theorem dX10_readOperand_143 : decode cX10_readOperand 143 = .ok (.bipush (-33), 2) := by decide +kernel
theorem dX10_readOperand_145 : decode cX10_readOperand 145 = .ok (.goto 5, 3) := by decide +kernel
theorem dX10_readOperand_148 : decode cX10_readOperand 148 = .ok (.bipush (-126), 2) := by decide +kernel
theorem dX10_readOperand_150 : decode cX10_readOperand 150 = .ok (.invokevirtual 47, 3) := by decide +kernel
theorem dX10_readOperand_153 : decode cX10_readOperand 153 = .ok (.iconst 1, 1) := by decide +kernel
theorem dX10_readOperand_154 : decode cX10_readOperand 154 = .ok (.ireturn, 1) := by decide +kernel
set_option maxRecDepth 20000 in
theorem ggX10_readNumber_X10_sign : GoodIn wsX10_readNumber wsX10_sign := goodIn_r _ [6, 1, 7, 8, 18, 19, 20, 21, 22] rfl (by decide +kernel)
set_option maxRecDepth 20000 in
theorem gX10_readNumber_X10_sign : GoodIn wsX10_readNumber (wsV RX10 54 RX10 yX10_sign wsX10_sign) := goodIn_app (goodIn_of _ (by decide +kernel)) ggX10_readNumber_X10_sign
set_option maxRecDepth 20000 in
theorem ggX10_readNumber_X10_isDigit : GoodIn wsX10_readNumber wsX10_isDigit := goodIn_r _ [11] rfl (by decide +kernel)
set_option maxRecDepth 20000 in
theorem gX10_readNumber_X10_isDigit : GoodIn wsX10_readNumber (va_wsS RX10 62 yX10_isDigit wsX10_isDigit) := goodIn_app (goodIn_of _ (by decide +kernel)) ggX10_readNumber_X10_isDigit
set_option maxRecDepth 20000 in
theorem ggX10_readNumber_X10_step : GoodIn wsX10_readNumber wsX10_step := goodIn_r _ [15, 16, 17, 18, 19, 20, 21, 22] rfl (by decide +kernel)
set_option maxRecDepth 20000 in
theorem gX10_readNumber_X10_step : GoodIn wsX10_readNumber (wsV RX10 47 RX10 yX10_step wsX10_step) := goodIn_app (goodIn_of _ (by decide +kernel)) ggX10_readNumber_X10_step
theorem dX10_readNumber_0 : decode cX10_readNumber 0 = .ok (.iconst 0, 1) := by decide +kernel
theorem dX10_readNumber_1 : decode cX10_readNumber 1 = .ok (.istore_n 1, 1) := by decide +kernel
theorem dX10_readNumber_2 : decode cX10_readNumber 2 = .ok (.iconst 0, 1) := by decide +kernel
theorem dX10_readNumber_3 : decode cX10_readNumber 3 = .ok (.istore_n 2, 1) := by decide +kernel
theorem dX10_readNumber_4 : decode cX10_readNumber 4 = .ok (.iload_n 2, 1) := by decide +kernel
theorem dX10_readNumber_5 : decode cX10_readNumber 5 = .ok (.iconst 4, 1) := by decide +kernel
theorem dX10_readNumber_6 : decode cX10_readNumber 6 = .ok (.if_icmp .ge 42, 3) := by decide +kernel
theorem dX10_readNumber_9 : decode cX10_readNumber 9 = .ok (.aload_n 0, 1) := by decide +kernel
theorem dX10_readNumber_10 : decode cX10_readNumber 10 = .ok (.invokevirtual 54, 3) := by decide +kernel
theorem dX10_readNumber_13 : decode cX10_readNumber 13 = .ok (.invokestatic 62, 3) := by decide +kernel
theorem dX10_readNumber_16 : decode cX10_readNumber 16 = .ok (.ifCond .eq 32, 3) := by decide +kernel
theorem dX10_readNumber_19 : decode cX10_readNumber 19 = .ok (.iload_n 1, 1) := by decide +kernel
theorem dX10_readNumber_20 : decode cX10_readNumber 20 = .ok (.bipush 10, 2) := by decide +kernel
theorem dX10_readNumber_22 : decode cX10_readNumber 22 = .ok (.imul, 1) := by decide +kernel
theorem dX10_readNumber_23 : decode cX10_readNumber 23 = .ok (.aload_n 0, 1) := by decide +kernel
theorem dX10_readNumber_24 : decode cX10_readNumber 24 = .ok (.invokevirtual 54, 3) := by decide +kernel
theorem dX10_readNumber_27 : decode cX10_readNumber 27 = .ok (.iadd, 1) := by decide +kernel
theorem dX10_readNumber_28 : decode cX10_readNumber 28 = .ok (.bipush 48, 2) := by decide +kernel
theorem dX10_readNumber_30 : decode cX10_readNumber 30 = .ok (.isub, 1) := by decide +kernel
theorem dX10_readNumber_31 : decode cX10_readNumber 31 = .ok (.istore_n 1, 1) := by decide +kernel
theorem dX10_readNumber_32 : decode cX10_readNumber 32 = .ok (.aload_n 0, 1) := by decide +kernel
theorem dX10_readNumber_33 : decode cX10_readNumber 33 = .ok (.dup, 1) := by decide +kernel
theorem dX10_readNumber_34 : decode cX10_readNumber 34 = .ok (.getfield 29, 3) := by decide +kernel
theorem dX10_readNumber_37 : decode cX10_readNumber 37 = .ok (.iconst 1, 1) := by decide +kernel
theorem dX10_readNumber_38 : decode cX10_readNumber 38 = .ok (.iadd, 1) := by decide +kernel
theorem dX10_readNumber_39 : decode cX10_readNumber 39 = .ok (.putfield 29, 3) := by decide +kernel
theorem dX10_readNumber_42 : decode cX10_readNumber 42 = .ok (.iinc 2 1, 3) := by decide +kernel
theorem dX10_readNumber_45 : decode cX10_readNumber 45 = .ok (.goto (-41), 3) := by decide +kernel
theorem dX10_readNumber_48 : decode cX10_readNumber 48 = .ok (.aload_n 0, 1) := by decide +kernel
theorem dX10_readNumber_49 : decode cX10_readNumber 49 = .ok (.iload_n 1, 1) := by decide +kernel
theorem dX10_readNumber_50 : decode cX10_readNumber 50 = .ok (.invokevirtual 47, 3) := by decide +kernel
theorem dX10_readNumber_53 : decode cX10_readNumber 53 = .ok (.iconst 1, 1) := by decide +kernel
theorem dX10_readNumber_54 : decode cX10_readNumber 54 = .ok (.ireturn, 1) := by decide +kernel
theorem dX10_levelOf_0 : decode cX10_levelOf 0 = .ok (.iload_n 0, 1) := by decide +kernel
theorem dX10_levelOf_1 : decode cX10_levelOf 1 = .ok (.lookupswitch 101 #[(37, 99), (38, 93), (42, 99), (43, 97), (45, 97), (47, 99), (60, 95), (61, 95), (62, 95), (124, 91)], 91) := by decide +kernel
theorem dX10_levelOf_92 : decode cX10_levelOf 92 = .ok (.iconst 0, 1) := by decide +kernel
theorem dX10_levelOf_93 : decode cX10_levelOf 93 = .ok (.ireturn, 1) := by decide +kernel
theorem dX10_levelOf_94 : decode cX10_levelOf 94 = .ok (.iconst 1, 1) := by decide +kernel
theorem dX10_levelOf_95 : decode cX10_levelOf 95 = .ok (.ireturn, 1) := by decide +kernel
theorem dX10_levelOf_96 : decode cX10_levelOf 96 = .ok (.iconst 2, 1) := by decide +kernel
theorem dX10_levelOf_97 : decode cX10_levelOf 97 = .ok (.ireturn, 1) := by decide +kernel
theorem dX10_levelOf_98 : decode cX10_levelOf 98 = .ok (.iconst 3, 1) := by decide +kernel
theorem dX10_levelOf_99 : decode cX10_levelOf 99 = .ok (.ireturn, 1) := by decide +kernel
theorem dX10_levelOf_100 : decode cX10_levelOf 100 = .ok (.iconst 4, 1) := by decide +kernel
theorem dX10_levelOf_101 : decode cX10_levelOf 101 = .ok (.ireturn, 1) := by decide +kernel
theorem dX10_levelOf_102 : decode cX10_levelOf 102 = .ok (.iconst (-1), 1) := by decide +kernel
theorem dX10_levelOf_103 : decode cX10_levelOf 103 = .ok (.ireturn, 1) := by decide +kernel
theorem dX10_isDigit_0 : decode cX10_isDigit 0 = .ok (.bipush 48, 2) := by decide +kernel
theorem dX10_isDigit_2 : decode cX10_isDigit 2 = .ok (.iload_n 0, 1) := by decide +kernel
theorem dX10_isDigit_3 : decode cX10_isDigit 3 = .ok (.if_icmp .gt 13, 3) := by decide +kernel
theorem dX10_isDigit_6 : decode cX10_isDigit 6 = .ok (.iload_n 0, 1) := by decide +kernel
theorem dX10_isDigit_7 : decode cX10_isDigit 7 = .ok (.bipush 57, 2) := by decide +kernel
theorem dX10_isDigit_9 : decode cX10_isDigit 9 = .ok (.if_icmp .gt 7, 3) := by decide +kernel
theorem dX10_isDigit_12 : decode cX10_isDigit 12 = .ok (.iconst 1, 1) := by decide +kernel
theorem dX10_isDigit_13 : decode cX10_isDigit 13 = .ok (.goto 4, 3) := by decide +kernel
theorem dX10_isDigit_16 : decode cX10_isDigit 16 = .ok (.iconst 0, 1) := by decide +kernel
theorem dX10_isDigit_17 : decode cX10_isDigit 17 = .ok (.ireturn, 1) := by decide +kernel
theorem dX10_sign_0 : decode cX10_sign 0 = .ok (.aload_n 0, 1) := by decide +kernel
theorem dX10_sign_1 : decode cX10_sign 1 = .ok (.getfield 29, 3) := by decide +kernel
theorem dX10_sign_4 : decode cX10_sign 4 = .ok (.aload_n 0, 1) := by decide +kernel
theorem dX10_sign_5 : decode cX10_sign 5 = .ok (.getfield 19, 3) := by decide +kernel
theorem dX10_sign_8 : decode cX10_sign 8 = .ok (.if_icmp .ge 19, 3) := by decide +kernel
theorem dX10_sign_11 : decode cX10_sign 11 = .ok (.aload_n 0, 1) := by decide +kernel
theorem dX10_sign_12 : decode cX10_sign 12 = .ok (.getfield 9, 3) := by decide +kernel
theorem dX10_sign_15 : decode cX10_sign 15 = .ok (.aload_n 0, 1) := by decide +kernel
theorem dX10_sign_16 : decode cX10_sign 16 = .ok (.getfield 29, 3) := by decide +kernel
theorem dX10_sign_19 : decode cX10_sign 19 = .ok (.baload, 1) := by decide +kernel
theorem dX10_sign_20 : decode cX10_sign 20 = .ok (.sipush 255, 3) := by decide +kernel
theorem dX10_sign_23 : decode cX10_sign 23 = .ok (.iand, 1) := by decide +kernel
theorem dX10_sign_24 : decode cX10_sign 24 = .ok (.goto 4, 3) := by decide +kernel
theorem dX10_sign_27 : decode cX10_sign 27 = .ok (.iconst (-1), 1) := by decide +kernel
theorem dX10_sign_28 : decode cX10_sign 28 = .ok (.ireturn, 1) := by decide +kernel
set_option maxRecDepth 20000 in
theorem ggX10_takes_X10_sign : GoodIn wsX10_takes wsX10_sign := goodIn_r _ [6, 1, 7, 8, 9, 10, 11, 12, 13] rfl (by decide +kernel)
set_option maxRecDepth 20000 in
theorem gX10_takes_X10_sign : GoodIn wsX10_takes (wsV RX10 54 RX10 yX10_sign wsX10_sign) := goodIn_app (goodIn_of _ (by decide +kernel)) ggX10_takes_X10_sign
theorem dX10_takes_0 : decode cX10_takes 0 = .ok (.aload_n 0, 1) := by decide +kernel
theorem dX10_takes_1 : decode cX10_takes 1 = .ok (.invokevirtual 54, 3) := by decide +kernel
theorem dX10_takes_4 : decode cX10_takes 4 = .ok (.iload_n 1, 1) := by decide +kernel
theorem dX10_takes_5 : decode cX10_takes 5 = .ok (.if_icmp .eq 5, 3) := by decide +kernel
theorem dX10_takes_8 : decode cX10_takes 8 = .ok (.iconst 0, 1) := by decide +kernel
theorem dX10_takes_9 : decode cX10_takes 9 = .ok (.ireturn, 1) := by decide +kernel
theorem dX10_takes_10 : decode cX10_takes 10 = .ok (.aload_n 0, 1) := by decide +kernel
theorem dX10_takes_11 : decode cX10_takes 11 = .ok (.dup, 1) := by decide +kernel
theorem dX10_takes_12 : decode cX10_takes 12 = .ok (.getfield 29, 3) := by decide +kernel
theorem dX10_takes_15 : decode cX10_takes 15 = .ok (.iconst 1, 1) := by decide +kernel
theorem dX10_takes_16 : decode cX10_takes 16 = .ok (.iadd, 1) := by decide +kernel
theorem dX10_takes_17 : decode cX10_takes 17 = .ok (.putfield 29, 3) := by decide +kernel
theorem dX10_takes_20 : decode cX10_takes 20 = .ok (.iconst 1, 1) := by decide +kernel
theorem dX10_takes_21 : decode cX10_takes 21 = .ok (.ireturn, 1) := by decide +kernel
theorem dX10_step_0 : decode cX10_step 0 = .ok (.aload_n 0, 1) := by decide +kernel
theorem dX10_step_1 : decode cX10_step 1 = .ok (.getfield 32, 3) := by decide +kernel
theorem dX10_step_4 : decode cX10_step 4 = .ok (.aload_n 0, 1) := by decide +kernel
theorem dX10_step_5 : decode cX10_step 5 = .ok (.getfield 15, 3) := by decide +kernel
theorem dX10_step_8 : decode cX10_step 8 = .ok (.arraylength, 1) := by decide +kernel
theorem dX10_step_9 : decode cX10_step 9 = .ok (.if_icmp .ge 23, 3) := by decide +kernel
theorem dX10_step_12 : decode cX10_step 12 = .ok (.aload_n 0, 1) := by decide +kernel
theorem dX10_step_13 : decode cX10_step 13 = .ok (.getfield 15, 3) := by decide +kernel
theorem dX10_step_16 : decode cX10_step 16 = .ok (.aload_n 0, 1) := by decide +kernel
theorem dX10_step_17 : decode cX10_step 17 = .ok (.getfield 32, 3) := by decide +kernel
theorem dX10_step_20 : decode cX10_step 20 = .ok (.iload_n 1, 1) := by decide +kernel
theorem dX10_step_21 : decode cX10_step 21 = .ok (.iastore, 1) := by decide +kernel
theorem dX10_step_22 : decode cX10_step 22 = .ok (.aload_n 0, 1) := by decide +kernel
theorem dX10_step_23 : decode cX10_step 23 = .ok (.dup, 1) := by decide +kernel
theorem dX10_step_24 : decode cX10_step 24 = .ok (.getfield 32, 3) := by decide +kernel
theorem dX10_step_27 : decode cX10_step 27 = .ok (.iconst 1, 1) := by decide +kernel
theorem dX10_step_28 : decode cX10_step 28 = .ok (.iadd, 1) := by decide +kernel
theorem dX10_step_29 : decode cX10_step 29 = .ok (.putfield 32, 3) := by decide +kernel
theorem dX10_step_32 : decode cX10_step 32 = .ok (.return_, 1) := by decide +kernel
theorem dX12_init_0 : decode cX12_init 0 = .ok (.aload_n 0, 1) := by decide +kernel
theorem dX12_init_1 : decode cX12_init 1 = .ok (.invokespecial 3, 3) := by decide +kernel
theorem dX12_init_4 : decode cX12_init 4 = .ok (.aload_n 0, 1) := by decide +kernel
theorem dX12_init_5 : decode cX12_init 5 = .ok (.bipush 55, 2) := by decide +kernel
theorem dX12_init_7 : decode cX12_init 7 = .ok (.newarray .int, 2) := by decide +kernel
theorem dX12_init_9 : decode cX12_init 9 = .ok (.putfield 9, 3) := by decide +kernel
theorem dX12_init_12 : decode cX12_init 12 = .ok (.aload_n 0, 1) := by decide +kernel
theorem dX12_init_13 : decode cX12_init 13 = .ok (.bipush 40, 2) := by decide +kernel
theorem dX12_init_15 : decode cX12_init 15 = .ok (.newarray .int, 2) := by decide +kernel
theorem dX12_init_17 : decode cX12_init 17 = .ok (.putfield 13, 3) := by decide +kernel
theorem dX12_init_20 : decode cX12_init 20 = .ok (.aload_n 0, 1) := by decide +kernel
theorem dX12_init_21 : decode cX12_init 21 = .ok (.bipush 40, 2) := by decide +kernel
theorem dX12_init_23 : decode cX12_init 23 = .ok (.newarray .int, 2) := by decide +kernel
theorem dX12_init_25 : decode cX12_init 25 = .ok (.putfield 16, 3) := by decide +kernel
theorem dX12_init_28 : decode cX12_init 28 = .ok (.aload_n 0, 1) := by decide +kernel
theorem dX12_init_29 : decode cX12_init 29 = .ok (.bipush 40, 2) := by decide +kernel
theorem dX12_init_31 : decode cX12_init 31 = .ok (.newarray .int, 2) := by decide +kernel
theorem dX12_init_33 : decode cX12_init 33 = .ok (.putfield 19, 3) := by decide +kernel
theorem dX12_init_36 : decode cX12_init 36 = .ok (.aload_n 0, 1) := by decide +kernel
theorem dX12_init_37 : decode cX12_init 37 = .ok (.bipush 40, 2) := by decide +kernel
theorem dX12_init_39 : decode cX12_init 39 = .ok (.newarray .int, 2) := by decide +kernel
theorem dX12_init_41 : decode cX12_init 41 = .ok (.putfield 22, 3) := by decide +kernel
theorem dX12_init_44 : decode cX12_init 44 = .ok (.aload_n 0, 1) := by decide +kernel
theorem dX12_init_45 : decode cX12_init 45 = .ok (.bipush 40, 2) := by decide +kernel
theorem dX12_init_47 : decode cX12_init 47 = .ok (.newarray .int, 2) := by decide +kernel
theorem dX12_init_49 : decode cX12_init 49 = .ok (.putfield 25, 3) := by decide +kernel
theorem dX12_init_52 : decode cX12_init 52 = .ok (.aload_n 0, 1) := by decide +kernel
theorem dX12_init_53 : decode cX12_init 53 = .ok (.bipush 40, 2) := by decide +kernel
theorem dX12_init_55 : decode cX12_init 55 = .ok (.newarray .int, 2) := by decide +kernel
theorem dX12_init_57 : decode cX12_init 57 = .ok (.putfield 28, 3) := by decide +kernel
theorem dX12_init_60 : decode cX12_init 60 = .ok (.aload_n 0, 1) := by decide +kernel
theorem dX12_init_61 : decode cX12_init 61 = .ok (.bipush 40, 2) := by decide +kernel
theorem dX12_init_63 : decode cX12_init 63 = .ok (.newarray .int, 2) := by decide +kernel
theorem dX12_init_65 : decode cX12_init 65 = .ok (.putfield 31, 3) := by decide +kernel
theorem dX12_init_68 : decode cX12_init 68 = .ok (.aload_n 0, 1) := by decide +kernel
theorem dX12_init_69 : decode cX12_init 69 = .ok (.bipush 40, 2) := by decide +kernel
theorem dX12_init_71 : decode cX12_init 71 = .ok (.newarray .int, 2) := by decide +kernel
theorem dX12_init_73 : decode cX12_init 73 = .ok (.putfield 34, 3) := by decide +kernel
theorem dX12_init_76 : decode cX12_init 76 = .ok (.aload_n 0, 1) := by decide +kernel
theorem dX12_init_77 : decode cX12_init 77 = .ok (.bipush 8, 2) := by decide +kernel
theorem dX12_init_79 : decode cX12_init 79 = .ok (.newarray .int, 2) := by decide +kernel
theorem dX12_init_81 : decode cX12_init 81 = .ok (.putfield 37, 3) := by decide +kernel
theorem dX12_init_84 : decode cX12_init 84 = .ok (.aload_n 0, 1) := by decide +kernel
theorem dX12_init_85 : decode cX12_init 85 = .ok (.bipush 64, 2) := by decide +kernel
theorem dX12_init_87 : decode cX12_init 87 = .ok (.newarray .int, 2) := by decide +kernel
theorem dX12_init_89 : decode cX12_init 89 = .ok (.putfield 40, 3) := by decide +kernel
theorem dX12_init_92 : decode cX12_init 92 = .ok (.aload_n 0, 1) := by decide +kernel
theorem dX12_init_93 : decode cX12_init 93 = .ok (.bipush 20, 2) := by decide +kernel
theorem dX12_init_95 : decode cX12_init 95 = .ok (.newarray .int, 2) := by decide +kernel
theorem dX12_init_97 : decode cX12_init 97 = .ok (.putfield 43, 3) := by decide +kernel
theorem dX12_init_100 : decode cX12_init 100 = .ok (.aload_n 0, 1) := by decide +kernel
theorem dX12_init_101 : decode cX12_init 101 = .ok (.bipush 20, 2) := by decide +kernel
theorem dX12_init_103 : decode cX12_init 103 = .ok (.newarray .int, 2) := by decide +kernel
theorem dX12_init_105 : decode cX12_init 105 = .ok (.putfield 46, 3) := by decide +kernel
theorem dX12_init_108 : decode cX12_init 108 = .ok (.aload_n 0, 1) := by decide +kernel
theorem dX12_init_109 : decode cX12_init 109 = .ok (.bipush 60, 2) := by decide +kernel
theorem dX12_init_111 : decode cX12_init 111 = .ok (.newarray .int, 2) := by decide +kernel
theorem dX12_init_113 : decode cX12_init 113 = .ok (.putfield 49, 3) := by decide +kernel
theorem dX12_init_116 : decode cX12_init 116 = .ok (.aload_n 0, 1) := by decide +kernel
theorem dX12_init_117 : decode cX12_init 117 = .ok (.bipush 60, 2) := by decide +kernel
theorem dX12_init_119 : decode cX12_init 119 = .ok (.newarray .int, 2) := by decide +kernel
theorem dX12_init_121 : decode cX12_init 121 = .ok (.putfield 52, 3) := by decide +kernel
theorem dX12_init_124 : decode cX12_init 124 = .ok (.aload_n 0, 1) := by decide +kernel
theorem dX12_init_125 : decode cX12_init 125 = .ok (.bipush 60, 2) := by decide +kernel
theorem dX12_init_127 : decode cX12_init 127 = .ok (.newarray .boolean, 2) := by decide +kernel
theorem dX12_init_129 : decode cX12_init 129 = .ok (.putfield 55, 3) := by decide +kernel
theorem dX12_init_132 : decode cX12_init 132 = .ok (.aload_n 0, 1) := by decide +kernel
theorem dX12_init_133 : decode cX12_init 133 = .ok (.bipush 41, 2) := by decide +kernel
theorem dX12_init_135 : decode cX12_init 135 = .ok (.newarray .int, 2) := by decide +kernel
theorem dX12_init_137 : decode cX12_init 137 = .ok (.putfield 59, 3) := by decide +kernel
theorem dX12_init_140 : decode cX12_init 140 = .ok (.aload_n 0, 1) := by decide +kernel
theorem dX12_init_141 : decode cX12_init 141 = .ok (.bipush 41, 2) := by decide +kernel
theorem dX12_init_143 : decode cX12_init 143 = .ok (.newarray .int, 2) := by decide +kernel
theorem dX12_init_145 : decode cX12_init 145 = .ok (.putfield 62, 3) := by decide +kernel
theorem dX12_init_148 : decode cX12_init 148 = .ok (.aload_n 0, 1) := by decide +kernel
theorem dX12_init_149 : decode cX12_init 149 = .ok (.bipush 40, 2) := by decide +kernel
theorem dX12_init_151 : decode cX12_init 151 = .ok (.newarray .int, 2) := by decide +kernel
theorem dX12_init_153 : decode cX12_init 153 = .ok (.putfield 65, 3) := by decide +kernel
theorem dX12_init_156 : decode cX12_init 156 = .ok (.aload_n 0, 1) := by decide +kernel
theorem dX12_init_157 : decode cX12_init 157 = .ok (.bipush 40, 2) := by decide +kernel
theorem dX12_init_159 : decode cX12_init 159 = .ok (.newarray .boolean, 2) := by decide +kernel
theorem dX12_init_161 : decode cX12_init 161 = .ok (.putfield 68, 3) := by decide +kernel
theorem dX12_init_164 : decode cX12_init 164 = .ok (.aload_n 0, 1) := by decide +kernel
theorem dX12_init_165 : decode cX12_init 165 = .ok (.bipush 20, 2) := by decide +kernel
theorem dX12_init_167 : decode cX12_init 167 = .ok (.newarray .int, 2) := by decide +kernel
theorem dX12_init_169 : decode cX12_init 169 = .ok (.putfield 71, 3) := by decide +kernel
theorem dX12_init_172 : decode cX12_init 172 = .ok (.aload_n 0, 1) := by decide +kernel
theorem dX12_init_173 : decode cX12_init 173 = .ok (.bipush 20, 2) := by decide +kernel
theorem dX12_init_175 : decode cX12_init 175 = .ok (.newarray .int, 2) := by decide +kernel
theorem dX12_init_177 : decode cX12_init 177 = .ok (.putfield 74, 3) := by decide +kernel
theorem dX12_init_180 : decode cX12_init 180 = .ok (.aload_n 0, 1) := by decide +kernel
theorem dX12_init_181 : decode cX12_init 181 = .ok (.bipush 20, 2) := by decide +kernel
theorem dX12_init_183 : decode cX12_init 183 = .ok (.newarray .int, 2) := by decide +kernel
theorem dX12_init_185 : decode cX12_init 185 = .ok (.putfield 77, 3) := by decide +kernel
theorem dX12_init_188 : decode cX12_init 188 = .ok (.aload_n 0, 1) := by decide +kernel
theorem dX12_init_189 : decode cX12_init 189 = .ok (.bipush 8, 2) := by decide +kernel
theorem dX12_init_191 : decode cX12_init 191 = .ok (.newarray .int, 2) := by decide +kernel
theorem dX12_init_193 : decode cX12_init 193 = .ok (.putfield 80, 3) := by decide +kernel
theorem dX12_init_196 : decode cX12_init 196 = .ok (.aload_n 0, 1) := by decide +kernel
theorem dX12_init_197 : decode cX12_init 197 = .ok (.bipush 8, 2) := by decide +kernel
theorem dX12_init_199 : decode cX12_init 199 = .ok (.newarray .int, 2) := by decide +kernel
theorem dX12_init_201 : decode cX12_init 201 = .ok (.putfield 83, 3) := by decide +kernel
theorem dX12_init_204 : decode cX12_init 204 = .ok (.aload_n 0, 1) := by decide +kernel
theorem dX12_init_205 : decode cX12_init 205 = .ok (.bipush 120, 2) := by decide +kernel
theorem dX12_init_207 : decode cX12_init 207 = .ok (.newarray .int, 2) := by decide +kernel
theorem dX12_init_209 : decode cX12_init 209 = .ok (.putfield 86, 3) := by decide +kernel
theorem dX12_init_212 : decode cX12_init 212 = .ok (.aload_n 0, 1) := by decide +kernel
theorem dX12_init_213 : decode cX12_init 213 = .ok (.bipush 6, 2) := by decide +kernel
theorem dX12_init_215 : decode cX12_init 215 = .ok (.newarray .int, 2) := by decide +kernel
theorem dX12_init_217 : decode cX12_init 217 = .ok (.putfield 89, 3) := by decide +kernel
theorem dX12_init_220 : decode cX12_init 220 = .ok (.aload_n 0, 1) := by decide +kernel
theorem dX12_init_221 : decode cX12_init 221 = .ok (.sipush 720, 3) := by decide +kernel
theorem dX12_init_224 : decode cX12_init 224 = .ok (.newarray .int, 2) := by decide +kernel
theorem dX12_init_226 : decode cX12_init 226 = .ok (.putfield 92, 3) := by decide +kernel
theorem dX12_init_229 : decode cX12_init 229 = .ok (.aload_n 0, 1) := by decide +kernel
theorem dX12_init_230 : decode cX12_init 230 = .ok (.bipush 6, 2) := by decide +kernel
theorem dX12_init_232 : decode cX12_init 232 = .ok (.newarray .int, 2) := by decide +kernel
theorem dX12_init_234 : decode cX12_init 234 = .ok (.putfield 95, 3) := by decide +kernel
theorem dX12_init_237 : decode cX12_init 237 = .ok (.aload_n 0, 1) := by decide +kernel
theorem dX12_init_238 : decode cX12_init 238 = .ok (.bipush 8, 2) := by decide +kernel
theorem dX12_init_240 : decode cX12_init 240 = .ok (.newarray .int, 2) := by decide +kernel
theorem dX12_init_242 : decode cX12_init 242 = .ok (.putfield 98, 3) := by decide +kernel
theorem dX12_init_245 : decode cX12_init 245 = .ok (.aload_n 0, 1) := by decide +kernel
theorem dX12_init_246 : decode cX12_init 246 = .ok (.bipush 50, 2) := by decide +kernel
theorem dX12_init_248 : decode cX12_init 248 = .ok (.newarray .int, 2) := by decide +kernel
theorem dX12_init_250 : decode cX12_init 250 = .ok (.putfield 101, 3) := by decide +kernel
theorem dX12_init_253 : decode cX12_init 253 = .ok (.aload_n 0, 1) := by decide +kernel
theorem dX12_init_254 : decode cX12_init 254 = .ok (.bipush 24, 2) := by decide +kernel
theorem dX12_init_256 : decode cX12_init 256 = .ok (.newarray .int, 2) := by decide +kernel
theorem dX12_init_258 : decode cX12_init 258 = .ok (.putfield 104, 3) := by decide +kernel
theorem dX12_init_261 : decode cX12_init 261 = .ok (.aload_n 0, 1) := by decide +kernel
theorem dX12_init_262 : decode cX12_init 262 = .ok (.bipush 6, 2) := by decide +kernel
theorem dX12_init_264 : decode cX12_init 264 = .ok (.newarray .int, 2) := by decide +kernel
theorem dX12_init_266 : decode cX12_init 266 = .ok (.putfield 107, 3) := by decide +kernel
theorem dX12_init_269 : decode cX12_init 269 = .ok (.aload_n 0, 1) := by decide +kernel
theorem dX12_init_270 : decode cX12_init 270 = .ok (.bipush 6, 2) := by decide +kernel
theorem dX12_init_272 : decode cX12_init 272 = .ok (.newarray .int, 2) := by decide +kernel
theorem dX12_init_274 : decode cX12_init 274 = .ok (.putfield 110, 3) := by decide +kernel
theorem dX12_init_277 : decode cX12_init 277 = .ok (.aload_n 0, 1) := by decide +kernel
theorem dX12_init_278 : decode cX12_init 278 = .ok (.sipush 360, 3) := by decide +kernel
theorem dX12_init_281 : decode cX12_init 281 = .ok (.newarray .long, 2) := by decide +kernel
theorem dX12_init_283 : decode cX12_init 283 = .ok (.putfield 113, 3) := by decide +kernel
theorem dX12_init_286 : decode cX12_init 286 = .ok (.aload_n 0, 1) := by decide +kernel
theorem dX12_init_287 : decode cX12_init 287 = .ok (.bipush 60, 2) := by decide +kernel
theorem dX12_init_289 : decode cX12_init 289 = .ok (.newarray .long, 2) := by decide +kernel
theorem dX12_init_291 : decode cX12_init 291 = .ok (.putfield 117, 3) := by decide +kernel
theorem dX12_init_294 : decode cX12_init 294 = .ok (.iconst 0, 1) := by decide +kernel
theorem dX12_init_295 : decode cX12_init 295 = .ok (.istore_n 1, 1) := by decide +kernel
theorem dX12_init_296 : decode cX12_init 296 = .ok (.iload_n 1, 1) := by decide +kernel
theorem dX12_init_297 : decode cX12_init 297 = .ok (.bipush 6, 2) := by decide +kernel
theorem dX12_init_299 : decode cX12_init 299 = .ok (.if_icmp .ge 16, 3) := by decide +kernel
theorem dX12_init_302 : decode cX12_init 302 = .ok (.aload_n 0, 1) := by decide +kernel
theorem dX12_init_303 : decode cX12_init 303 = .ok (.getfield 107, 3) := by decide +kernel
theorem dX12_init_306 : decode cX12_init 306 = .ok (.iload_n 1, 1) := by decide +kernel
theorem dX12_init_307 : decode cX12_init 307 = .ok (.iconst (-1), 1) := by decide +kernel
theorem dX12_init_308 : decode cX12_init 308 = .ok (.iastore, 1) := by decide +kernel
theorem dX12_init_309 : decode cX12_init 309 = .ok (.iinc 1 1, 3) := by decide +kernel
theorem dX12_init_312 : decode cX12_init 312 = .ok (.goto (-16), 3) := by decide +kernel
theorem dX12_init_315 : decode cX12_init 315 = .ok (.aload_n 0, 1) := by decide +kernel
theorem dX12_init_316 : decode cX12_init 316 = .ok (.sipush 2001, 3) := by decide +kernel
theorem dX12_init_319 : decode cX12_init 319 = .ok (.putfield 120, 3) := by decide +kernel
theorem dX12_init_322 : decode cX12_init 322 = .ok (.aload_n 0, 1) := by decide +kernel
theorem dX12_init_323 : decode cX12_init 323 = .ok (.sipush 9999, 3) := by decide +kernel
theorem dX12_init_326 : decode cX12_init 326 = .ok (.putfield 124, 3) := by decide +kernel
theorem dX12_init_329 : decode cX12_init 329 = .ok (.return_, 1) := by decide +kernel
theorem dJ9_abs_0f7a4_0 : decode cJ9_abs_0f7a4 0 = .ok (.iload_n 0, 1) := by decide +kernel
theorem dJ9_abs_0f7a4_1 : decode cJ9_abs_0f7a4 1 = .ok (.ifCond .ge 8, 3) := by decide +kernel
theorem dJ9_abs_0f7a4_4 : decode cJ9_abs_0f7a4 4 = .ok (.iload_n 0, 1) := by decide +kernel
theorem dJ9_abs_0f7a4_5 : decode cJ9_abs_0f7a4 5 = .ok (.ineg, 1) := by decide +kernel
theorem dJ9_abs_0f7a4_6 : decode cJ9_abs_0f7a4 6 = .ok (.goto 4, 3) := by decide +kernel
theorem dJ9_abs_0f7a4_9 : decode cJ9_abs_0f7a4 9 = .ok (.iload_n 0, 1) := by decide +kernel
theorem dJ9_abs_0f7a4_10 : decode cJ9_abs_0f7a4 10 = .ok (.ireturn, 1) := by decide +kernel
theorem dJ9_max_7cf53_0 : decode cJ9_max_7cf53 0 = .ok (.iload_n 0, 1) := by decide +kernel
theorem dJ9_max_7cf53_1 : decode cJ9_max_7cf53 1 = .ok (.iload_n 1, 1) := by decide +kernel
theorem dJ9_max_7cf53_2 : decode cJ9_max_7cf53 2 = .ok (.if_icmp .lt 7, 3) := by decide +kernel
theorem dJ9_max_7cf53_5 : decode cJ9_max_7cf53 5 = .ok (.iload_n 0, 1) := by decide +kernel
theorem dJ9_max_7cf53_6 : decode cJ9_max_7cf53 6 = .ok (.goto 4, 3) := by decide +kernel
theorem dJ9_max_7cf53_9 : decode cJ9_max_7cf53 9 = .ok (.iload_n 1, 1) := by decide +kernel
theorem dJ9_max_7cf53_10 : decode cJ9_max_7cf53 10 = .ok (.ireturn, 1) := by decide +kernel
theorem dJ9_min_7cf53_0 : decode cJ9_min_7cf53 0 = .ok (.iload_n 0, 1) := by decide +kernel
theorem dJ9_min_7cf53_1 : decode cJ9_min_7cf53 1 = .ok (.iload_n 1, 1) := by decide +kernel
theorem dJ9_min_7cf53_2 : decode cJ9_min_7cf53 2 = .ok (.if_icmp .gt 7, 3) := by decide +kernel
theorem dJ9_min_7cf53_5 : decode cJ9_min_7cf53 5 = .ok (.iload_n 0, 1) := by decide +kernel
theorem dJ9_min_7cf53_6 : decode cJ9_min_7cf53 6 = .ok (.goto 4, 3) := by decide +kernel
theorem dJ9_min_7cf53_9 : decode cJ9_min_7cf53 9 = .ok (.iload_n 1, 1) := by decide +kernel
theorem dJ9_min_7cf53_10 : decode cJ9_min_7cf53 10 = .ok (.ireturn, 1) := by decide +kernel
set_option maxRecDepth 20000 in
theorem ggJ0_length_8abf5_J0_coder_7d493 : GoodIn wsJ0_length_8abf5 wsJ0_coder_7d493 := goodIn_r _ [6, 7, 8] rfl (by decide +kernel)
set_option maxRecDepth 20000 in
theorem gJ0_length_8abf5_J0_coder_7d493 : GoodIn wsJ0_length_8abf5 (wsV RJ0 335 RJ0 yJ0_coder_7d493 wsJ0_coder_7d493) := goodIn_app (goodIn_of _ (by decide +kernel)) ggJ0_length_8abf5_J0_coder_7d493
theorem dJ0_length_8abf5_0 : decode cJ0_length_8abf5 0 = .ok (.aload_n 0, 1) := by decide +kernel
theorem dJ0_length_8abf5_1 : decode cJ0_length_8abf5 1 = .ok (.getfield 9, 3) := by decide +kernel
theorem dJ0_length_8abf5_4 : decode cJ0_length_8abf5 4 = .ok (.arraylength, 1) := by decide +kernel
theorem dJ0_length_8abf5_5 : decode cJ0_length_8abf5 5 = .ok (.aload_n 0, 1) := by decide +kernel
theorem dJ0_length_8abf5_6 : decode cJ0_length_8abf5 6 = .ok (.invokevirtual 335, 3) := by decide +kernel
theorem dJ0_length_8abf5_9 : decode cJ0_length_8abf5 9 = .ok (.ishr, 1) := by decide +kernel
theorem dJ0_length_8abf5_10 : decode cJ0_length_8abf5 10 = .ok (.ireturn, 1) := by decide +kernel
set_option maxRecDepth 20000 in
theorem ggJ0_indexOf_0f7a4_J0_indexOf_7cf53 : GoodIn wsJ0_indexOf_0f7a4 wsJ0_indexOf_7cf53 := goodIn_r _ [5, 6, 7, 8, 9, 4, 10, 11, 12, 13, 14, 15, 16, 17, 18, 19, 20, 21, 22, 23, 24, 25, 26, 27, 28, 29, 30, 31, 32, 33, 34, 35, 36, 37, 38, 39, 40, 41, 42, 43, 44, 45, 46, 47, 48, 49, 50, 51, 52, 53, 54, 55, 56, 57, 58, 59, 60, 61, 62, 63, 64, 65, 66, 67, 68, 69, 70, 71, 72, 73, 74, 75, 76, 77, 78, 79, 80, 81, 82, 83, 84, 85] rfl (by decide +kernel)
set_option maxRecDepth 20000 in
theorem gJ0_indexOf_0f7a4_J0_indexOf_7cf53 : GoodIn wsJ0_indexOf_0f7a4 (wsV RJ0 633 RJ0 yJ0_indexOf_7cf53 wsJ0_indexOf_7cf53) := goodIn_app (goodIn_of _ (by decide +kernel)) ggJ0_indexOf_0f7a4_J0_indexOf_7cf53
theorem dJ0_indexOf_0f7a4_0 : decode cJ0_indexOf_0f7a4 0 = .ok (.aload_n 0, 1) := by decide +kernel
theorem dJ0_indexOf_0f7a4_1 : decode cJ0_indexOf_0f7a4 1 = .ok (.iload_n 1, 1) := by decide +kernel
theorem dJ0_indexOf_0f7a4_2 : decode cJ0_indexOf_0f7a4 2 = .ok (.iconst 0, 1) := by decide +kernel
theorem dJ0_indexOf_0f7a4_3 : decode cJ0_indexOf_0f7a4 3 = .ok (.invokevirtual 633, 3) := by decide +kernel
theorem dJ0_indexOf_0f7a4_6 : decode cJ0_indexOf_0f7a4 6 = .ok (.ireturn, 1) := by decide +kernel
set_option maxRecDepth 20000 in
theorem ggJ0_indexOf_7cf53_J0_isLatin1_aae02 : GoodIn wsJ0_indexOf_7cf53 wsJ0_isLatin1_aae02 := goodIn_r _ [6, 7, 8] rfl (by decide +kernel)
set_option maxRecDepth 20000 in
theorem gJ0_indexOf_7cf53_J0_isLatin1_aae02 : GoodIn wsJ0_indexOf_7cf53 (wsV RJ0 492 RJ0 yJ0_isLatin1_aae02 wsJ0_isLatin1_aae02) := goodIn_app (goodIn_of _ (by decide +kernel)) ggJ0_indexOf_7cf53_J0_isLatin1_aae02
set_option maxRecDepth 20000 in
theorem ggJ0_indexOf_7cf53_J0_length_8abf5 : GoodIn wsJ0_indexOf_7cf53 wsJ0_length_8abf5 := goodIn_r _ [12, 1, 13, 14, 15, 5, 16, 7, 8] rfl (by decide +kernel)
set_option maxRecDepth 20000 in
theorem gJ0_indexOf_7cf53_J0_length_8abf5 : GoodIn wsJ0_indexOf_7cf53 (wsV RJ0 505 RJ0 yJ0_length_8abf5 wsJ0_length_8abf5) := goodIn_app (goodIn_of _ (by decide +kernel)) ggJ0_indexOf_7cf53_J0_length_8abf5
set_option maxRecDepth 20000 in
theorem ggJ0_indexOf_7cf53_J1_indexOf_4cfef : GoodIn wsJ0_indexOf_7cf53 wsJ1_indexOf_4cfef := goodIn_r _ [20, 21, 22, 23, 24, 25, 26, 27, 28, 29, 19, 30, 31, 32, 33] rfl (by decide +kernel)
set_option maxRecDepth 20000 in
theorem gJ0_indexOf_7cf53_J1_indexOf_4cfef : GoodIn wsJ0_indexOf_7cf53 (va_wsS RJ0 637 yJ1_indexOf_4cfef wsJ1_indexOf_4cfef) := goodIn_app (goodIn_of _ (by decide +kernel)) ggJ0_indexOf_7cf53_J1_indexOf_4cfef
set_option maxRecDepth 20000 in
theorem ggJ0_indexOf_7cf53_J2_indexOf_4cfef : GoodIn wsJ0_indexOf_7cf53 wsJ2_indexOf_4cfef := goodIn_r _ [37, 38, 22, 23, 24, 39, 26, 27, 40, 41, 42, 36, 43, 44, 45, 46, 47, 48, 49, 50, 51, 5, 52, 53, 54, 55, 56, 57, 58, 59, 60, 61, 62, 63, 64, 65, 66, 67, 68, 69, 70, 71, 72, 73, 74, 75, 76, 77, 78, 79, 80, 81] rfl (by decide +kernel)
set_option maxRecDepth 20000 in
theorem gJ0_indexOf_7cf53_J2_indexOf_4cfef : GoodIn wsJ0_indexOf_7cf53 (va_wsS RJ0 640 yJ2_indexOf_4cfef wsJ2_indexOf_4cfef) := goodIn_app (goodIn_of _ (by decide +kernel)) ggJ0_indexOf_7cf53_J2_indexOf_4cfef
theorem dJ0_indexOf_7cf53_0 : decode cJ0_indexOf_7cf53 0 = .ok (.aload_n 0, 1) := by decide +kernel
theorem dJ0_indexOf_7cf53_1 : decode cJ0_indexOf_7cf53 1 = .ok (.invokevirtual 492, 3) := by decide +kernel
theorem dJ0_indexOf_7cf53_4 : decode cJ0_indexOf_7cf53 4 = .ok (.ifCond .eq 19, 3) := by decide +kernel
theorem dJ0_indexOf_7cf53_7 : decode cJ0_indexOf_7cf53 7 = .ok (.aload_n 0, 1) := by decide +kernel
theorem dJ0_indexOf_7cf53_8 : decode cJ0_indexOf_7cf53 8 = .ok (.getfield 9, 3) := by decide +kernel
theorem dJ0_indexOf_7cf53_11 : decode cJ0_indexOf_7cf53 11 = .ok (.iload_n 1, 1) := by decide +kernel
theorem dJ0_indexOf_7cf53_12 : decode cJ0_indexOf_7cf53 12 = .ok (.iload_n 2, 1) := by decide +kernel
theorem dJ0_indexOf_7cf53_13 : decode cJ0_indexOf_7cf53 13 = .ok (.aload_n 0, 1) := by decide +kernel
theorem dJ0_indexOf_7cf53_14 : decode cJ0_indexOf_7cf53 14 = .ok (.invokevirtual 505, 3) := by decide +kernel
theorem dJ0_indexOf_7cf53_17 : decode cJ0_indexOf_7cf53 17 = .ok (.invokestatic 637, 3) := by decide +kernel
theorem dJ0_indexOf_7cf53_20 : decode cJ0_indexOf_7cf53 20 = .ok (.goto 16, 3) := by decide +kernel
theorem dJ0_indexOf_7cf53_23 : decode cJ0_indexOf_7cf53 23 = .ok (.aload_n 0, 1) := by decide +kernel
theorem dJ0_indexOf_7cf53_24 : decode cJ0_indexOf_7cf53 24 = .ok (.getfield 9, 3) := by decide +kernel
theorem dJ0_indexOf_7cf53_27 : decode cJ0_indexOf_7cf53 27 = .ok (.iload_n 1, 1) := by decide +kernel
theorem dJ0_indexOf_7cf53_28 : decode cJ0_indexOf_7cf53 28 = .ok (.iload_n 2, 1) := by decide +kernel
theorem dJ0_indexOf_7cf53_29 : decode cJ0_indexOf_7cf53 29 = .ok (.aload_n 0, 1) := by decide +kernel
theorem dJ0_indexOf_7cf53_30 : decode cJ0_indexOf_7cf53 30 = .ok (.invokevirtual 505, 3) := by decide +kernel
theorem dJ0_indexOf_7cf53_33 : decode cJ0_indexOf_7cf53 33 = .ok (.invokestatic 640, 3) := by decide +kernel
theorem dJ0_indexOf_7cf53_36 : decode cJ0_indexOf_7cf53 36 = .ok (.ireturn, 1) := by decide +kernel
theorem dJ0_coder_7d493_0 : decode cJ0_coder_7d493 0 = .ok (.getstatic 38, 3) := by decide +kernel
theorem dJ0_coder_7d493_3 : decode cJ0_coder_7d493 3 = .ok (.ifCond .eq 10, 3) := by decide +kernel
theorem dJ0_coder_7d493_6 : decode cJ0_coder_7d493 6 = .ok (.aload_n 0, 1) := by decide +kernel
theorem dJ0_coder_7d493_7 : decode cJ0_coder_7d493 7 = .ok (.getfield 15, 3) := by decide +kernel
theorem dJ0_coder_7d493_10 : decode cJ0_coder_7d493 10 = .ok (.goto 4, 3) := by decide +kernel
theorem dJ0_coder_7d493_13 : decode cJ0_coder_7d493 13 = .ok (.iconst 1, 1) := by decide +kernel
theorem dJ0_coder_7d493_14 : decode cJ0_coder_7d493 14 = .ok (.ireturn, 1) := by decide +kernel
theorem dJ0_isLatin1_aae02_0 : decode cJ0_isLatin1_aae02 0 = .ok (.getstatic 38, 3) := by decide +kernel
theorem dJ0_isLatin1_aae02_3 : decode cJ0_isLatin1_aae02 3 = .ok (.ifCond .eq 14, 3) := by decide +kernel
theorem dJ0_isLatin1_aae02_6 : decode cJ0_isLatin1_aae02 6 = .ok (.aload_n 0, 1) := by decide +kernel
theorem dJ0_isLatin1_aae02_7 : decode cJ0_isLatin1_aae02 7 = .ok (.getfield 15, 3) := by decide +kernel
theorem dJ0_isLatin1_aae02_10 : decode cJ0_isLatin1_aae02 10 = .ok (.ifCond .ne 7, 3) := by decide +kernel
theorem dJ0_isLatin1_aae02_13 : decode cJ0_isLatin1_aae02 13 = .ok (.iconst 1, 1) := by decide +kernel
theorem dJ0_isLatin1_aae02_14 : decode cJ0_isLatin1_aae02 14 = .ok (.goto 4, 3) := by decide +kernel
theorem dJ0_isLatin1_aae02_17 : decode cJ0_isLatin1_aae02 17 = .ok (.iconst 0, 1) := by decide +kernel
theorem dJ0_isLatin1_aae02_18 : decode cJ0_isLatin1_aae02 18 = .ok (.ireturn, 1) := by decide +kernel
theorem dJ1_canEncode_9a6ad_0 : decode cJ1_canEncode_9a6ad 0 = .ok (.iload_n 0, 1) := by decide +kernel
theorem dJ1_canEncode_9a6ad_1 : decode cJ1_canEncode_9a6ad 1 = .ok (.ifCond .lt 14, 3) := by decide +kernel
theorem dJ1_canEncode_9a6ad_4 : decode cJ1_canEncode_9a6ad 4 = .ok (.iload_n 0, 1) := by decide +kernel
theorem dJ1_canEncode_9a6ad_5 : decode cJ1_canEncode_9a6ad 5 = .ok (.sipush 255, 3) := by decide +kernel
theorem dJ1_canEncode_9a6ad_8 : decode cJ1_canEncode_9a6ad 8 = .ok (.if_icmp .gt 7, 3) := by decide +kernel
theorem dJ1_canEncode_9a6ad_11 : decode cJ1_canEncode_9a6ad 11 = .ok (.iconst 1, 1) := by decide +kernel
theorem dJ1_canEncode_9a6ad_12 : decode cJ1_canEncode_9a6ad 12 = .ok (.goto 4, 3) := by decide +kernel
theorem dJ1_canEncode_9a6ad_15 : decode cJ1_canEncode_9a6ad 15 = .ok (.iconst 0, 1) := by decide +kernel
theorem dJ1_canEncode_9a6ad_16 : decode cJ1_canEncode_9a6ad 16 = .ok (.ireturn, 1) := by decide +kernel
set_option maxRecDepth 20000 in
theorem ggJ1_indexOf_4cfef_J1_canEncode_9a6ad : GoodIn wsJ1_indexOf_4cfef wsJ1_canEncode_9a6ad := goodIn_r _ [11] rfl (by decide +kernel)
set_option maxRecDepth 20000 in
theorem gJ1_indexOf_4cfef_J1_canEncode_9a6ad : GoodIn wsJ1_indexOf_4cfef (va_wsS RJ1 88 yJ1_canEncode_9a6ad wsJ1_canEncode_9a6ad) := goodIn_app (goodIn_of _ (by decide +kernel)) ggJ1_indexOf_4cfef_J1_canEncode_9a6ad
set_option maxRecDepth 20000 in
theorem ggJ1_indexOf_4cfef_J1_indexOfChar_4cfef : GoodIn wsJ1_indexOf_4cfef wsJ1_indexOfChar_4cfef := goodIn_r _ [14] rfl (by decide +kernel)
set_option maxRecDepth 20000 in
theorem gJ1_indexOf_4cfef_J1_indexOfChar_4cfef : GoodIn wsJ1_indexOf_4cfef (va_wsS RJ1 95 yJ1_indexOfChar_4cfef wsJ1_indexOfChar_4cfef) := goodIn_app (goodIn_of _ (by decide +kernel)) ggJ1_indexOf_4cfef_J1_indexOfChar_4cfef
theorem dJ1_indexOf_4cfef_0 : decode cJ1_indexOf_4cfef 0 = .ok (.iload_n 1, 1) := by decide +kernel
theorem dJ1_indexOf_4cfef_1 : decode cJ1_indexOf_4cfef 1 = .ok (.invokestatic 88, 3) := by decide +kernel
theorem dJ1_indexOf_4cfef_4 : decode cJ1_indexOf_4cfef 4 = .ok (.ifCond .ne 5, 3) := by decide +kernel
theorem dJ1_indexOf_4cfef_7 : decode cJ1_indexOf_4cfef 7 = .ok (.iconst (-1), 1) := by decide +kernel
theorem dJ1_indexOf_4cfef_8 : decode cJ1_indexOf_4cfef 8 = .ok (.ireturn, 1) := by decide +kernel
theorem dJ1_indexOf_4cfef_9 : decode cJ1_indexOf_4cfef 9 = .ok (.iload_n 2, 1) := by decide +kernel
theorem dJ1_indexOf_4cfef_10 : decode cJ1_indexOf_4cfef 10 = .ok (.iconst 0, 1) := by decide +kernel
theorem dJ1_indexOf_4cfef_11 : decode cJ1_indexOf_4cfef 11 = .ok (.invokestatic 92, 3) := by decide +kernel
theorem dJ1_indexOf_4cfef_14 : decode cJ1_indexOf_4cfef 14 = .ok (.istore_n 2, 1) := by decide +kernel
theorem dJ1_indexOf_4cfef_15 : decode cJ1_indexOf_4cfef 15 = .ok (.iload_n 3, 1) := by decide +kernel
theorem dJ1_indexOf_4cfef_16 : decode cJ1_indexOf_4cfef 16 = .ok (.aload_n 0, 1) := by decide +kernel
theorem dJ1_indexOf_4cfef_17 : decode cJ1_indexOf_4cfef 17 = .ok (.arraylength, 1) := by decide +kernel
theorem dJ1_indexOf_4cfef_18 : decode cJ1_indexOf_4cfef 18 = .ok (.invokestatic 38, 3) := by decide +kernel
theorem dJ1_indexOf_4cfef_21 : decode cJ1_indexOf_4cfef 21 = .ok (.istore_n 3, 1) := by decide +kernel
theorem dJ1_indexOf_4cfef_22 : decode cJ1_indexOf_4cfef 22 = .ok (.iload_n 2, 1) := by decide +kernel
theorem dJ1_indexOf_4cfef_23 : decode cJ1_indexOf_4cfef 23 = .ok (.iload_n 3, 1) := by decide +kernel
theorem dJ1_indexOf_4cfef_24 : decode cJ1_indexOf_4cfef 24 = .ok (.if_icmp .lt 5, 3) := by decide +kernel
theorem dJ1_indexOf_4cfef_27 : decode cJ1_indexOf_4cfef 27 = .ok (.iconst (-1), 1) := by decide +kernel
theorem dJ1_indexOf_4cfef_28 : decode cJ1_indexOf_4cfef 28 = .ok (.ireturn, 1) := by decide +kernel
theorem dJ1_indexOf_4cfef_29 : decode cJ1_indexOf_4cfef 29 = .ok (.aload_n 0, 1) := by decide +kernel
theorem dJ1_indexOf_4cfef_30 : decode cJ1_indexOf_4cfef 30 = .ok (.iload_n 1, 1) := by decide +kernel
theorem dJ1_indexOf_4cfef_31 : decode cJ1_indexOf_4cfef 31 = .ok (.iload_n 2, 1) := by decide +kernel
theorem dJ1_indexOf_4cfef_32 : decode cJ1_indexOf_4cfef 32 = .ok (.iload_n 3, 1) := by decide +kernel
theorem dJ1_indexOf_4cfef_33 : decode cJ1_indexOf_4cfef 33 = .ok (.invokestatic 95, 3) := by decide +kernel
theorem dJ1_indexOf_4cfef_36 : decode cJ1_indexOf_4cfef 36 = .ok (.ireturn, 1) := by decide +kernel
theorem dJ1_indexOfChar_4cfef_0 : decode cJ1_indexOfChar_4cfef 0 = .ok (.iload_n 1, 1) := by decide +kernel
theorem dJ1_indexOfChar_4cfef_1 : decode cJ1_indexOfChar_4cfef 1 = .ok (.i2b, 1) := by decide +kernel
theorem dJ1_indexOfChar_4cfef_2 : decode cJ1_indexOfChar_4cfef 2 = .ok (.istore 4, 2) := by decide +kernel
theorem dJ1_indexOfChar_4cfef_4 : decode cJ1_indexOfChar_4cfef 4 = .ok (.iload_n 2, 1) := by decide +kernel
theorem dJ1_indexOfChar_4cfef_5 : decode cJ1_indexOfChar_4cfef 5 = .ok (.istore 5, 2) := by decide +kernel
theorem dJ1_indexOfChar_4cfef_7 : decode cJ1_indexOfChar_4cfef 7 = .ok (.iload 5, 2) := by decide +kernel
theorem dJ1_indexOfChar_4cfef_9 : decode cJ1_indexOfChar_4cfef 9 = .ok (.iload_n 3, 1) := by decide +kernel
theorem dJ1_indexOfChar_4cfef_10 : decode cJ1_indexOfChar_4cfef 10 = .ok (.if_icmp .ge 21, 3) := by decide +kernel
theorem dJ1_indexOfChar_4cfef_13 : decode cJ1_indexOfChar_4cfef 13 = .ok (.aload_n 0, 1) := by decide +kernel
theorem dJ1_indexOfChar_4cfef_14 : decode cJ1_indexOfChar_4cfef 14 = .ok (.iload 5, 2) := by decide +kernel
theorem dJ1_indexOfChar_4cfef_16 : decode cJ1_indexOfChar_4cfef 16 = .ok (.baload, 1) := by decide +kernel
theorem dJ1_indexOfChar_4cfef_17 : decode cJ1_indexOfChar_4cfef 17 = .ok (.iload 4, 2) := by decide +kernel
theorem dJ1_indexOfChar_4cfef_19 : decode cJ1_indexOfChar_4cfef 19 = .ok (.if_icmp .ne 6, 3) := by decide +kernel
theorem dJ1_indexOfChar_4cfef_22 : decode cJ1_indexOfChar_4cfef 22 = .ok (.iload 5, 2) := by decide +kernel
theorem dJ1_indexOfChar_4cfef_24 : decode cJ1_indexOfChar_4cfef 24 = .ok (.ireturn, 1) := by decide +kernel
theorem dJ1_indexOfChar_4cfef_25 : decode cJ1_indexOfChar_4cfef 25 = .ok (.iinc 5 1, 3) := by decide +kernel
theorem dJ1_indexOfChar_4cfef_28 : decode cJ1_indexOfChar_4cfef 28 = .ok (.goto (-21), 3) := by decide +kernel
theorem dJ1_indexOfChar_4cfef_31 : decode cJ1_indexOfChar_4cfef 31 = .ok (.iconst (-1), 1) := by decide +kernel
theorem dJ1_indexOfChar_4cfef_32 : decode cJ1_indexOfChar_4cfef 32 = .ok (.ireturn, 1) := by decide +kernel
theorem dJ7_copyOf_9075b_0 : decode cJ7_copyOf_9075b 0 = .ok (.iload_n 1, 1) := by decide +kernel
theorem dJ7_copyOf_9075b_1 : decode cJ7_copyOf_9075b 1 = .ok (.aload_n 0, 1) := by decide +kernel
theorem dJ7_copyOf_9075b_2 : decode cJ7_copyOf_9075b 2 = .ok (.arraylength, 1) := by decide +kernel
theorem dJ7_copyOf_9075b_3 : decode cJ7_copyOf_9075b 3 = .ok (.if_icmp .ne 11, 3) := by decide +kernel
theorem dJ7_copyOf_9075b_6 : decode cJ7_copyOf_9075b 6 = .ok (.aload_n 0, 1) := by decide +kernel
theorem dJ7_copyOf_9075b_7 : decode cJ7_copyOf_9075b 7 = .ok (.invokevirtual 310, 3) := by decide +kernel
theorem dJ7_copyOf_9075b_10 : decode cJ7_copyOf_9075b 10 = .ok (.checkcast 311, 3) := by decide +kernel
theorem dJ7_copyOf_9075b_13 : decode cJ7_copyOf_9075b 13 = .ok (.areturn, 1) := by decide +kernel
theorem dJ7_copyOf_9075b_14 : decode cJ7_copyOf_9075b 14 = .ok (.iload_n 1, 1) := by decide +kernel
theorem dJ7_copyOf_9075b_15 : decode cJ7_copyOf_9075b 15 = .ok (.newarray .byte, 2) := by decide +kernel
theorem dJ7_copyOf_9075b_17 : decode cJ7_copyOf_9075b 17 = .ok (.astore_n 2, 1) := by decide +kernel
theorem dJ7_copyOf_9075b_18 : decode cJ7_copyOf_9075b 18 = .ok (.aload_n 0, 1) := by decide +kernel
theorem dJ7_copyOf_9075b_19 : decode cJ7_copyOf_9075b 19 = .ok (.iconst 0, 1) := by decide +kernel
theorem dJ7_copyOf_9075b_20 : decode cJ7_copyOf_9075b 20 = .ok (.aload_n 2, 1) := by decide +kernel
theorem dJ7_copyOf_9075b_21 : decode cJ7_copyOf_9075b 21 = .ok (.iconst 0, 1) := by decide +kernel
theorem dJ7_copyOf_9075b_22 : decode cJ7_copyOf_9075b 22 = .ok (.aload_n 0, 1) := by decide +kernel
theorem dJ7_copyOf_9075b_23 : decode cJ7_copyOf_9075b 23 = .ok (.arraylength, 1) := by decide +kernel
theorem dJ7_copyOf_9075b_24 : decode cJ7_copyOf_9075b 24 = .ok (.iload_n 1, 1) := by decide +kernel
theorem dJ7_copyOf_9075b_25 : decode cJ7_copyOf_9075b 25 = .ok (.invokestatic 304, 3) := by decide +kernel
theorem dJ7_copyOf_9075b_28 : decode cJ7_copyOf_9075b 28 = .ok (.invokestatic 150, 3) := by decide +kernel
theorem dJ7_copyOf_9075b_31 : decode cJ7_copyOf_9075b 31 = .ok (.aload_n 2, 1) := by decide +kernel
theorem dJ7_copyOf_9075b_32 : decode cJ7_copyOf_9075b 32 = .ok (.areturn, 1) := by decide +kernel
