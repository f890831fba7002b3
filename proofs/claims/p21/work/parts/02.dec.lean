theorem dX7_init_0 : decode cX7_init 0 = .ok (.aload_n 0, 1) := by decide +kernel
theorem dX7_init_1 : decode cX7_init 1 = .ok (.invokespecial 3, 3) := by decide +kernel
theorem dX7_init_4 : decode cX7_init 4 = .ok (.aload_n 0, 1) := by decide +kernel
theorem dX7_init_5 : decode cX7_init 5 = .ok (.bipush 8, 2) := by decide +kernel
theorem dX7_init_7 : decode cX7_init 7 = .ok (.newarray .int, 2) := by decide +kernel
theorem dX7_init_9 : decode cX7_init 9 = .ok (.putfield 9, 3) := by decide +kernel
theorem dX7_init_12 : decode cX7_init 12 = .ok (.aload_n 0, 1) := by decide +kernel
theorem dX7_init_13 : decode cX7_init 13 = .ok (.bipush 40, 2) := by decide +kernel
theorem dX7_init_15 : decode cX7_init 15 = .ok (.newarray .int, 2) := by decide +kernel
theorem dX7_init_17 : decode cX7_init 17 = .ok (.putfield 15, 3) := by decide +kernel
theorem dX7_init_20 : decode cX7_init 20 = .ok (.aload_n 0, 1) := by decide +kernel
theorem dX7_init_21 : decode cX7_init 21 = .ok (.bipush 40, 2) := by decide +kernel
theorem dX7_init_23 : decode cX7_init 23 = .ok (.newarray .int, 2) := by decide +kernel
theorem dX7_init_25 : decode cX7_init 25 = .ok (.putfield 18, 3) := by decide +kernel
theorem dX7_init_28 : decode cX7_init 28 = .ok (.aload_n 0, 1) := by decide +kernel
theorem dX7_init_29 : decode cX7_init 29 = .ok (.bipush 40, 2) := by decide +kernel
theorem dX7_init_31 : decode cX7_init 31 = .ok (.newarray .int, 2) := by decide +kernel
theorem dX7_init_33 : decode cX7_init 33 = .ok (.putfield 21, 3) := by decide +kernel
theorem dX7_init_36 : decode cX7_init 36 = .ok (.aload_n 0, 1) := by decide +kernel
theorem dX7_init_37 : decode cX7_init 37 = .ok (.bipush 40, 2) := by decide +kernel
theorem dX7_init_39 : decode cX7_init 39 = .ok (.newarray .int, 2) := by decide +kernel
theorem dX7_init_41 : decode cX7_init 41 = .ok (.putfield 24, 3) := by decide +kernel
theorem dX7_init_44 : decode cX7_init 44 = .ok (.aload_n 0, 1) := by decide +kernel
theorem dX7_init_45 : decode cX7_init 45 = .ok (.bipush 40, 2) := by decide +kernel
theorem dX7_init_47 : decode cX7_init 47 = .ok (.newarray .int, 2) := by decide +kernel
theorem dX7_init_49 : decode cX7_init 49 = .ok (.putfield 27, 3) := by decide +kernel
theorem dX7_init_52 : decode cX7_init 52 = .ok (.return_, 1) := by decide +kernel
set_option maxRecDepth 20000 in
theorem ggX7_isSheet_X11_within : GoodIn wsX7_isSheet wsX11_within := goodIn_r _ [4] (by decide +kernel) (by decide +kernel)
set_option maxRecDepth 20000 in
theorem gX7_isSheet_X11_within_n34 : GoodIn wsX7_isSheet (wsX11_within) := ggX7_isSheet_X11_within
theorem dX7_isSheet_0 : decode cX7_isSheet 0 = .ok (.iload_n 1, 1) := by decide +kernel
theorem dX7_isSheet_1 : decode cX7_isSheet 1 = .ok (.iconst 0, 1) := by decide +kernel
theorem dX7_isSheet_2 : decode cX7_isSheet 2 = .ok (.aload_n 0, 1) := by decide +kernel
theorem dX7_isSheet_3 : decode cX7_isSheet 3 = .ok (.getfield 30, 3) := by decide +kernel
theorem dX7_isSheet_6 : decode cX7_isSheet 6 = .ok (.iconst 1, 1) := by decide +kernel
theorem dX7_isSheet_7 : decode cX7_isSheet 7 = .ok (.isub, 1) := by decide +kernel
theorem dX7_isSheet_8 : decode cX7_isSheet 8 = .ok (.invokestatic 34, 3) := by decide +kernel
theorem dX7_isSheet_11 : decode cX7_isSheet 11 = .ok (.ireturn, 1) := by decide +kernel
set_option maxRecDepth 20000 in
theorem ggX7_isHole_X11_within : GoodIn wsX7_isHole wsX11_within := goodIn_r _ [4] (by decide +kernel) (by decide +kernel)
set_option maxRecDepth 20000 in
theorem gX7_isHole_X11_within_n34 : GoodIn wsX7_isHole (wsX11_within) := ggX7_isHole_X11_within
theorem dX7_isHole_0 : decode cX7_isHole 0 = .ok (.iload_n 1, 1) := by decide +kernel
theorem dX7_isHole_1 : decode cX7_isHole 1 = .ok (.iconst 0, 1) := by decide +kernel
theorem dX7_isHole_2 : decode cX7_isHole 2 = .ok (.aload_n 0, 1) := by decide +kernel
theorem dX7_isHole_3 : decode cX7_isHole 3 = .ok (.getfield 38, 3) := by decide +kernel
theorem dX7_isHole_6 : decode cX7_isHole 6 = .ok (.iconst 1, 1) := by decide +kernel
theorem dX7_isHole_7 : decode cX7_isHole 7 = .ok (.isub, 1) := by decide +kernel
theorem dX7_isHole_8 : decode cX7_isHole 8 = .ok (.invokestatic 34, 3) := by decide +kernel
theorem dX7_isHole_11 : decode cX7_isHole 11 = .ok (.ireturn, 1) := by decide +kernel
theorem dX7_all_0 : decode cX7_all 0 = .ok (.iconst 1, 1) := by decide +kernel
theorem dX7_all_1 : decode cX7_all 1 = .ok (.aload_n 0, 1) := by decide +kernel
theorem dX7_all_2 : decode cX7_all 2 = .ok (.getfield 30, 3) := by decide +kernel
theorem dX7_all_5 : decode cX7_all 5 = .ok (.ishl, 1) := by decide +kernel
theorem dX7_all_6 : decode cX7_all 6 = .ok (.iconst 1, 1) := by decide +kernel
theorem dX7_all_7 : decode cX7_all 7 = .ok (.isub, 1) := by decide +kernel
theorem dX7_all_8 : decode cX7_all 8 = .ok (.ireturn, 1) := by decide +kernel
theorem dX7_add_0 : decode cX7_add 0 = .ok (.aload_n 0, 1) := by decide +kernel
theorem dX7_add_1 : decode cX7_add 1 = .ok (.getfield 30, 3) := by decide +kernel
theorem dX7_add_4 : decode cX7_add 4 = .ok (.aload_n 0, 1) := by decide +kernel
theorem dX7_add_5 : decode cX7_add 5 = .ok (.getfield 9, 3) := by decide +kernel
theorem dX7_add_8 : decode cX7_add 8 = .ok (.arraylength, 1) := by decide +kernel
theorem dX7_add_9 : decode cX7_add 9 = .ok (.if_icmp .ne 6, 3) := by decide +kernel
theorem dX7_add_12 : decode cX7_add 12 = .ok (.bipush (-3), 2) := by decide +kernel
theorem dX7_add_14 : decode cX7_add 14 = .ok (.ireturn, 1) := by decide +kernel
theorem dX7_add_15 : decode cX7_add 15 = .ok (.aload_n 0, 1) := by decide +kernel
theorem dX7_add_16 : decode cX7_add 16 = .ok (.getfield 9, 3) := by decide +kernel
theorem dX7_add_19 : decode cX7_add 19 = .ok (.aload_n 0, 1) := by decide +kernel
theorem dX7_add_20 : decode cX7_add 20 = .ok (.getfield 30, 3) := by decide +kernel
theorem dX7_add_23 : decode cX7_add 23 = .ok (.iload_n 1, 1) := by decide +kernel
theorem dX7_add_24 : decode cX7_add 24 = .ok (.iastore, 1) := by decide +kernel
theorem dX7_add_25 : decode cX7_add 25 = .ok (.aload_n 0, 1) := by decide +kernel
theorem dX7_add_26 : decode cX7_add 26 = .ok (.dup, 1) := by decide +kernel
theorem dX7_add_27 : decode cX7_add 27 = .ok (.getfield 30, 3) := by decide +kernel
theorem dX7_add_30 : decode cX7_add 30 = .ok (.dup_x1, 1) := by decide +kernel
theorem dX7_add_31 : decode cX7_add 31 = .ok (.iconst 1, 1) := by decide +kernel
theorem dX7_add_32 : decode cX7_add 32 = .ok (.iadd, 1) := by decide +kernel
theorem dX7_add_33 : decode cX7_add 33 = .ok (.putfield 30, 3) := by decide +kernel
theorem dX7_add_36 : decode cX7_add 36 = .ok (.ireturn, 1) := by decide +kernel
theorem dX7_addHole_0 : decode cX7_addHole 0 = .ok (.aload_n 0, 1) := by decide +kernel
theorem dX7_addHole_1 : decode cX7_addHole 1 = .ok (.getfield 38, 3) := by decide +kernel
theorem dX7_addHole_4 : decode cX7_addHole 4 = .ok (.aload_n 0, 1) := by decide +kernel
theorem dX7_addHole_5 : decode cX7_addHole 5 = .ok (.getfield 15, 3) := by decide +kernel
theorem dX7_addHole_8 : decode cX7_addHole 8 = .ok (.arraylength, 1) := by decide +kernel
theorem dX7_addHole_9 : decode cX7_addHole 9 = .ok (.if_icmp .ne 6, 3) := by decide +kernel
theorem dX7_addHole_12 : decode cX7_addHole 12 = .ok (.bipush (-3), 2) := by decide +kernel
theorem dX7_addHole_14 : decode cX7_addHole 14 = .ok (.ireturn, 1) := by decide +kernel
theorem dX7_addHole_15 : decode cX7_addHole 15 = .ok (.aload_n 0, 1) := by decide +kernel
theorem dX7_addHole_16 : decode cX7_addHole 16 = .ok (.getfield 38, 3) := by decide +kernel
theorem dX7_addHole_19 : decode cX7_addHole 19 = .ok (.istore_n 3, 1) := by decide +kernel
theorem dX7_addHole_20 : decode cX7_addHole 20 = .ok (.iload_n 3, 1) := by decide +kernel
theorem dX7_addHole_21 : decode cX7_addHole 21 = .ok (.ifCond .le 40, 3) := by decide +kernel
theorem dX7_addHole_24 : decode cX7_addHole 24 = .ok (.aload_n 0, 1) := by decide +kernel
theorem dX7_addHole_25 : decode cX7_addHole 25 = .ok (.getfield 18, 3) := by decide +kernel
theorem dX7_addHole_28 : decode cX7_addHole 28 = .ok (.aload_n 0, 1) := by decide +kernel
theorem dX7_addHole_29 : decode cX7_addHole 29 = .ok (.getfield 21, 3) := by decide +kernel
theorem dX7_addHole_32 : decode cX7_addHole 32 = .ok (.iload_n 3, 1) := by decide +kernel
theorem dX7_addHole_33 : decode cX7_addHole 33 = .ok (.iconst 1, 1) := by decide +kernel
theorem dX7_addHole_34 : decode cX7_addHole 34 = .ok (.isub, 1) := by decide +kernel
theorem dX7_addHole_35 : decode cX7_addHole 35 = .ok (.iaload, 1) := by decide +kernel
theorem dX7_addHole_36 : decode cX7_addHole 36 = .ok (.iaload, 1) := by decide +kernel
theorem dX7_addHole_37 : decode cX7_addHole 37 = .ok (.iload_n 2, 1) := by decide +kernel
theorem dX7_addHole_38 : decode cX7_addHole 38 = .ok (.if_icmp .le 23, 3) := by decide +kernel
theorem dX7_addHole_41 : decode cX7_addHole 41 = .ok (.aload_n 0, 1) := by decide +kernel
theorem dX7_addHole_42 : decode cX7_addHole 42 = .ok (.getfield 21, 3) := by decide +kernel
theorem dX7_addHole_45 : decode cX7_addHole 45 = .ok (.iload_n 3, 1) := by decide +kernel
theorem dX7_addHole_46 : decode cX7_addHole 46 = .ok (.aload_n 0, 1) := by decide +kernel
theorem dX7_addHole_47 : decode cX7_addHole 47 = .ok (.getfield 21, 3) := by decide +kernel
theorem dX7_addHole_50 : decode cX7_addHole 50 = .ok (.iload_n 3, 1) := by decide +kernel
theorem dX7_addHole_51 : decode cX7_addHole 51 = .ok (.iconst 1, 1) := by decide +kernel
theorem dX7_addHole_52 : decode cX7_addHole 52 = .ok (.isub, 1) := by decide +kernel
theorem dX7_addHole_53 : decode cX7_addHole 53 = .ok (.iaload, 1) := by decide +kernel
theorem dX7_addHole_54 : decode cX7_addHole 54 = .ok (.iastore, 1) := by decide +kernel
theorem dX7_addHole_55 : decode cX7_addHole 55 = .ok (.iinc 3 (-1), 3) := by decide +kernel
theorem dX7_addHole_58 : decode cX7_addHole 58 = .ok (.goto (-38), 3) := by decide +kernel
theorem dX7_addHole_61 : decode cX7_addHole 61 = .ok (.aload_n 0, 1) := by decide +kernel
theorem dX7_addHole_62 : decode cX7_addHole 62 = .ok (.getfield 21, 3) := by decide +kernel
theorem dX7_addHole_65 : decode cX7_addHole 65 = .ok (.iload_n 3, 1) := by decide +kernel
theorem dX7_addHole_66 : decode cX7_addHole 66 = .ok (.aload_n 0, 1) := by decide +kernel
theorem dX7_addHole_67 : decode cX7_addHole 67 = .ok (.getfield 38, 3) := by decide +kernel
theorem dX7_addHole_70 : decode cX7_addHole 70 = .ok (.iastore, 1) := by decide +kernel
theorem dX7_addHole_71 : decode cX7_addHole 71 = .ok (.aload_n 0, 1) := by decide +kernel
theorem dX7_addHole_72 : decode cX7_addHole 72 = .ok (.getfield 15, 3) := by decide +kernel
theorem dX7_addHole_75 : decode cX7_addHole 75 = .ok (.aload_n 0, 1) := by decide +kernel
theorem dX7_addHole_76 : decode cX7_addHole 76 = .ok (.getfield 38, 3) := by decide +kernel
theorem dX7_addHole_79 : decode cX7_addHole 79 = .ok (.iload_n 1, 1) := by decide +kernel
theorem dX7_addHole_80 : decode cX7_addHole 80 = .ok (.iastore, 1) := by decide +kernel
theorem dX7_addHole_81 : decode cX7_addHole 81 = .ok (.aload_n 0, 1) := by decide +kernel
theorem dX7_addHole_82 : decode cX7_addHole 82 = .ok (.getfield 18, 3) := by decide +kernel
theorem dX7_addHole_85 : decode cX7_addHole 85 = .ok (.aload_n 0, 1) := by decide +kernel
theorem dX7_addHole_86 : decode cX7_addHole 86 = .ok (.getfield 38, 3) := by decide +kernel
theorem dX7_addHole_89 : decode cX7_addHole 89 = .ok (.iload_n 2, 1) := by decide +kernel
theorem dX7_addHole_90 : decode cX7_addHole 90 = .ok (.iastore, 1) := by decide +kernel
theorem dX7_addHole_91 : decode cX7_addHole 91 = .ok (.aload_n 0, 1) := by decide +kernel
theorem dX7_addHole_92 : decode cX7_addHole 92 = .ok (.dup, 1) := by decide +kernel
theorem dX7_addHole_93 : decode cX7_addHole 93 = .ok (.getfield 38, 3) := by decide +kernel
theorem dX7_addHole_96 : decode cX7_addHole 96 = .ok (.dup_x1, 1) := by decide +kernel
theorem dX7_addHole_97 : decode cX7_addHole 97 = .ok (.iconst 1, 1) := by decide +kernel
theorem dX7_addHole_98 : decode cX7_addHole 98 = .ok (.iadd, 1) := by decide +kernel
theorem dX7_addHole_99 : decode cX7_addHole 99 = .ok (.putfield 38, 3) := by decide +kernel
theorem dX7_addHole_102 : decode cX7_addHole 102 = .ok (.ireturn, 1) := by decide +kernel
theorem dX7_findWorms_0 : decode cX7_findWorms 0 = .ok (.aload_n 0, 1) := by decide +kernel
theorem dX7_findWorms_1 : decode cX7_findWorms 1 = .ok (.iconst 0, 1) := by decide +kernel
theorem dX7_findWorms_2 : decode cX7_findWorms 2 = .ok (.putfield 41, 3) := by decide +kernel
theorem dX7_findWorms_5 : decode cX7_findWorms 5 = .ok (.iconst (-1), 1) := by decide +kernel
theorem dX7_findWorms_6 : decode cX7_findWorms 6 = .ok (.istore_n 3, 1) := by decide +kernel
theorem dX7_findWorms_7 : decode cX7_findWorms 7 = .ok (.iconst 0, 1) := by decide +kernel
theorem dX7_findWorms_8 : decode cX7_findWorms 8 = .ok (.istore 4, 2) := by decide +kernel
theorem dX7_findWorms_10 : decode cX7_findWorms 10 = .ok (.iload 4, 2) := by decide +kernel
theorem dX7_findWorms_12 : decode cX7_findWorms 12 = .ok (.aload_n 0, 1) := by decide +kernel
theorem dX7_findWorms_13 : decode cX7_findWorms 13 = .ok (.getfield 38, 3) := by decide +kernel
theorem dX7_findWorms_16 : decode cX7_findWorms 16 = .ok (.if_icmp .ge 130, 3) := by decide +kernel
theorem dX7_findWorms_19 : decode cX7_findWorms 19 = .ok (.aload_n 0, 1) := by decide +kernel
theorem dX7_findWorms_20 : decode cX7_findWorms 20 = .ok (.getfield 21, 3) := by decide +kernel
theorem dX7_findWorms_23 : decode cX7_findWorms 23 = .ok (.iload 4, 2) := by decide +kernel
theorem dX7_findWorms_25 : decode cX7_findWorms 25 = .ok (.iaload, 1) := by decide +kernel
theorem dX7_findWorms_26 : decode cX7_findWorms 26 = .ok (.istore 5, 2) := by decide +kernel
theorem dX7_findWorms_28 : decode cX7_findWorms 28 = .ok (.iconst 1, 1) := by decide +kernel
theorem dX7_findWorms_29 : decode cX7_findWorms 29 = .ok (.aload_n 0, 1) := by decide +kernel
theorem dX7_findWorms_30 : decode cX7_findWorms 30 = .ok (.getfield 15, 3) := by decide +kernel
theorem dX7_findWorms_33 : decode cX7_findWorms 33 = .ok (.iload 5, 2) := by decide +kernel
theorem dX7_findWorms_35 : decode cX7_findWorms 35 = .ok (.iaload, 1) := by decide +kernel
theorem dX7_findWorms_36 : decode cX7_findWorms 36 = .ok (.ishl, 1) := by decide +kernel
theorem dX7_findWorms_37 : decode cX7_findWorms 37 = .ok (.istore 6, 2) := by decide +kernel
theorem dX7_findWorms_39 : decode cX7_findWorms 39 = .ok (.iload_n 2, 1) := by decide +kernel
theorem dX7_findWorms_40 : decode cX7_findWorms 40 = .ok (.iload 6, 2) := by decide +kernel
theorem dX7_findWorms_42 : decode cX7_findWorms 42 = .ok (.iand, 1) := by decide +kernel
theorem dX7_findWorms_43 : decode cX7_findWorms 43 = .ok (.ifCond .ne 6, 3) := by decide +kernel
theorem dX7_findWorms_46 : decode cX7_findWorms 46 = .ok (.goto 94, 3) := by decide +kernel
theorem dX7_findWorms_49 : decode cX7_findWorms 49 = .ok (.iload_n 3, 1) := by decide +kernel
theorem dX7_findWorms_50 : decode cX7_findWorms 50 = .ok (.ifCond .lt 38, 3) := by decide +kernel
theorem dX7_findWorms_53 : decode cX7_findWorms 53 = .ok (.aload_n 0, 1) := by decide +kernel
theorem dX7_findWorms_54 : decode cX7_findWorms 54 = .ok (.getfield 18, 3) := by decide +kernel
theorem dX7_findWorms_57 : decode cX7_findWorms 57 = .ok (.iload 5, 2) := by decide +kernel
theorem dX7_findWorms_59 : decode cX7_findWorms 59 = .ok (.iaload, 1) := by decide +kernel
theorem dX7_findWorms_60 : decode cX7_findWorms 60 = .ok (.aload_n 0, 1) := by decide +kernel
theorem dX7_findWorms_61 : decode cX7_findWorms 61 = .ok (.getfield 18, 3) := by decide +kernel
theorem dX7_findWorms_64 : decode cX7_findWorms 64 = .ok (.iload_n 3, 1) := by decide +kernel
theorem dX7_findWorms_65 : decode cX7_findWorms 65 = .ok (.iaload, 1) := by decide +kernel
theorem dX7_findWorms_66 : decode cX7_findWorms 66 = .ok (.isub, 1) := by decide +kernel
theorem dX7_findWorms_67 : decode cX7_findWorms 67 = .ok (.iload_n 1, 1) := by decide +kernel
theorem dX7_findWorms_68 : decode cX7_findWorms 68 = .ok (.if_icmp .gt 20, 3) := by decide +kernel
theorem dX7_findWorms_71 : decode cX7_findWorms 71 = .ok (.aload_n 0, 1) := by decide +kernel
theorem dX7_findWorms_72 : decode cX7_findWorms 72 = .ok (.getfield 27, 3) := by decide +kernel
theorem dX7_findWorms_75 : decode cX7_findWorms 75 = .ok (.aload_n 0, 1) := by decide +kernel
theorem dX7_findWorms_76 : decode cX7_findWorms 76 = .ok (.getfield 41, 3) := by decide +kernel
theorem dX7_findWorms_79 : decode cX7_findWorms 79 = .ok (.iconst 1, 1) := by decide +kernel
theorem dX7_findWorms_80 : decode cX7_findWorms 80 = .ok (.isub, 1) := by decide +kernel
theorem dX7_findWorms_81 : decode cX7_findWorms 81 = .ok (.iaload, 1) := by decide +kernel
theorem dX7_findWorms_82 : decode cX7_findWorms 82 = .ok (.iload 6, 2) := by decide +kernel
theorem dX7_findWorms_84 : decode cX7_findWorms 84 = .ok (.iand, 1) := by decide +kernel
theorem dX7_findWorms_85 : decode cX7_findWorms 85 = .ok (.ifCond .eq 23, 3) := by decide +kernel
theorem dX7_findWorms_88 : decode cX7_findWorms 88 = .ok (.aload_n 0, 1) := by decide +kernel
theorem dX7_findWorms_89 : decode cX7_findWorms 89 = .ok (.getfield 27, 3) := by decide +kernel
theorem dX7_findWorms_92 : decode cX7_findWorms 92 = .ok (.aload_n 0, 1) := by decide +kernel
theorem dX7_findWorms_93 : decode cX7_findWorms 93 = .ok (.getfield 41, 3) := by decide +kernel
theorem dX7_findWorms_96 : decode cX7_findWorms 96 = .ok (.iconst 0, 1) := by decide +kernel
theorem dX7_findWorms_97 : decode cX7_findWorms 97 = .ok (.iastore, 1) := by decide +kernel
theorem dX7_findWorms_98 : decode cX7_findWorms 98 = .ok (.aload_n 0, 1) := by decide +kernel
theorem dX7_findWorms_99 : decode cX7_findWorms 99 = .ok (.dup, 1) := by decide +kernel
theorem dX7_findWorms_100 : decode cX7_findWorms 100 = .ok (.getfield 41, 3) := by decide +kernel
theorem dX7_findWorms_103 : decode cX7_findWorms 103 = .ok (.iconst 1, 1) := by decide +kernel
theorem dX7_findWorms_104 : decode cX7_findWorms 104 = .ok (.iadd, 1) := by decide +kernel
theorem dX7_findWorms_105 : decode cX7_findWorms 105 = .ok (.putfield 41, 3) := by decide +kernel
theorem dX7_findWorms_108 : decode cX7_findWorms 108 = .ok (.aload_n 0, 1) := by decide +kernel
theorem dX7_findWorms_109 : decode cX7_findWorms 109 = .ok (.getfield 27, 3) := by decide +kernel
theorem dX7_findWorms_112 : decode cX7_findWorms 112 = .ok (.aload_n 0, 1) := by decide +kernel
theorem dX7_findWorms_113 : decode cX7_findWorms 113 = .ok (.getfield 41, 3) := by decide +kernel
theorem dX7_findWorms_116 : decode cX7_findWorms 116 = .ok (.iconst 1, 1) := by decide +kernel
theorem dX7_findWorms_117 : decode cX7_findWorms 117 = .ok (.isub, 1) := by decide +kernel
theorem dX7_findWorms_118 : decode cX7_findWorms 118 = .ok (.dup2, 1) := by decide +kernel
theorem dX7_findWorms_119 : decode cX7_findWorms 119 = .ok (.iaload, 1) := by decide +kernel
theorem dX7_findWorms_120 : decode cX7_findWorms 120 = .ok (.iload 6, 2) := by decide +kernel
theorem dX7_findWorms_122 : decode cX7_findWorms 122 = .ok (.ior, 1) := by decide +kernel
theorem dX7_findWorms_123 : decode cX7_findWorms 123 = .ok (.iastore, 1) := by decide +kernel
theorem dX7_findWorms_124 : decode cX7_findWorms 124 = .ok (.aload_n 0, 1) := by decide +kernel
theorem dX7_findWorms_125 : decode cX7_findWorms 125 = .ok (.getfield 24, 3) := by decide +kernel
theorem dX7_findWorms_128 : decode cX7_findWorms 128 = .ok (.iload 5, 2) := by decide +kernel
theorem dX7_findWorms_130 : decode cX7_findWorms 130 = .ok (.aload_n 0, 1) := by decide +kernel
theorem dX7_findWorms_131 : decode cX7_findWorms 131 = .ok (.getfield 41, 3) := by decide +kernel
theorem dX7_findWorms_134 : decode cX7_findWorms 134 = .ok (.iconst 1, 1) := by decide +kernel
theorem dX7_findWorms_135 : decode cX7_findWorms 135 = .ok (.isub, 1) := by decide +kernel
theorem dX7_findWorms_136 : decode cX7_findWorms 136 = .ok (.iastore, 1) := by decide +kernel
theorem dX7_findWorms_137 : decode cX7_findWorms 137 = .ok (.iload 5, 2) := by decide +kernel
theorem dX7_findWorms_139 : decode cX7_findWorms 139 = .ok (.istore_n 3, 1) := by decide +kernel
theorem dX7_findWorms_140 : decode cX7_findWorms 140 = .ok (.iinc 4 1, 3) := by decide +kernel
theorem dX7_findWorms_143 : decode cX7_findWorms 143 = .ok (.goto (-133), 3) := by decide +kernel
theorem dX7_findWorms_146 : decode cX7_findWorms 146 = .ok (.return_, 1) := by decide +kernel
theorem dX7_youngest_0 : decode cX7_youngest 0 = .ok (.iconst 0, 1) := by decide +kernel
theorem dX7_youngest_1 : decode cX7_youngest 1 = .ok (.istore_n 1, 1) := by decide +kernel
theorem dX7_youngest_2 : decode cX7_youngest 2 = .ok (.iconst 0, 1) := by decide +kernel
theorem dX7_youngest_3 : decode cX7_youngest 3 = .ok (.istore_n 2, 1) := by decide +kernel
theorem dX7_youngest_4 : decode cX7_youngest 4 = .ok (.iload_n 2, 1) := by decide +kernel
theorem dX7_youngest_5 : decode cX7_youngest 5 = .ok (.aload_n 0, 1) := by decide +kernel
theorem dX7_youngest_6 : decode cX7_youngest 6 = .ok (.getfield 30, 3) := by decide +kernel
theorem dX7_youngest_9 : decode cX7_youngest 9 = .ok (.if_icmp .ge 20, 3) := by decide +kernel
theorem dX7_youngest_12 : decode cX7_youngest 12 = .ok (.iload_n 1, 1) := by decide +kernel
theorem dX7_youngest_13 : decode cX7_youngest 13 = .ok (.aload_n 0, 1) := by decide +kernel
theorem dX7_youngest_14 : decode cX7_youngest 14 = .ok (.getfield 9, 3) := by decide +kernel
theorem dX7_youngest_17 : decode cX7_youngest 17 = .ok (.iload_n 2, 1) := by decide +kernel
theorem dX7_youngest_18 : decode cX7_youngest 18 = .ok (.iaload, 1) := by decide +kernel
theorem dX7_youngest_19 : decode cX7_youngest 19 = .ok (.invokestatic 44, 3) := by decide +kernel
theorem dX7_youngest_22 : decode cX7_youngest 22 = .ok (.istore_n 1, 1) := by decide +kernel
theorem dX7_youngest_23 : decode cX7_youngest 23 = .ok (.iinc 2 1, 3) := by decide +kernel
theorem dX7_youngest_26 : decode cX7_youngest 26 = .ok (.goto (-22), 3) := by decide +kernel
theorem dX7_youngest_29 : decode cX7_youngest 29 = .ok (.iload_n 1, 1) := by decide +kernel
theorem dX7_youngest_30 : decode cX7_youngest 30 = .ok (.ireturn, 1) := by decide +kernel
set_option maxRecDepth 20000 in
theorem ggX11_sheet_X11_isYear : GoodIn wsX11_sheet wsX11_isYear := goodIn_r _ [5, 6, 7, 4, 8] (by decide +kernel) (by decide +kernel)
set_option maxRecDepth 20000 in
theorem gX11_sheet_X11_isYear : GoodIn wsX11_sheet (va_wsS RX11 98 yX11_isYear wsX11_isYear) := goodIn_app (goodIn_of _ (by decide +kernel)) ggX11_sheet_X11_isYear
set_option maxRecDepth 20000 in
theorem ggX11_sheet_X7_add : GoodIn wsX11_sheet wsX7_add := goodIn_r _ [13, 14, 15, 28, 29, 30, 31, 32, 33, 34, 35, 36] (by decide +kernel) (by decide +kernel)
set_option maxRecDepth 20000 in
theorem gX11_sheet_X7_add : GoodIn wsX11_sheet (wsV RX11 102 RX7 yX7_add wsX7_add) := goodIn_app (goodIn_of _ (by decide +kernel)) ggX11_sheet_X7_add
theorem dX11_sheet_0 : decode cX11_sheet 0 = .ok (.iload_n 1, 1) := by decide +kernel
theorem dX11_sheet_1 : decode cX11_sheet 1 = .ok (.invokestatic 98, 3) := by decide +kernel
theorem dX11_sheet_4 : decode cX11_sheet 4 = .ok (.ifCond .ne 5, 3) := by decide +kernel
theorem dX11_sheet_7 : decode cX11_sheet 7 = .ok (.iconst (-1), 1) := by decide +kernel
theorem dX11_sheet_8 : decode cX11_sheet 8 = .ok (.ireturn, 1) := by decide +kernel
theorem dX11_sheet_9 : decode cX11_sheet 9 = .ok (.aload_n 0, 1) := by decide +kernel
theorem dX11_sheet_10 : decode cX11_sheet 10 = .ok (.getfield 10, 3) := by decide +kernel
theorem dX11_sheet_13 : decode cX11_sheet 13 = .ok (.iload_n 1, 1) := by decide +kernel
theorem dX11_sheet_14 : decode cX11_sheet 14 = .ok (.invokevirtual 102, 3) := by decide +kernel
theorem dX11_sheet_17 : decode cX11_sheet 17 = .ok (.ireturn, 1) := by decide +kernel
set_option maxRecDepth 20000 in
theorem ggX11_hole_X7_isSheet : GoodIn wsX11_hole wsX7_isSheet := goodIn_r _ [6, 7, 8, 9, 10, 32, 33, 34, 35, 36, 37, 38, 39, 40] (by decide +kernel) (by decide +kernel)
set_option maxRecDepth 20000 in
theorem gX11_hole_X7_isSheet : GoodIn wsX11_hole (wsV RX11 106 RX7 yX7_isSheet wsX7_isSheet) := goodIn_app (goodIn_of _ (by decide +kernel)) ggX11_hole_X7_isSheet
set_option maxRecDepth 20000 in
theorem ggX11_hole_X11_within : GoodIn wsX11_hole wsX11_within := goodIn_r _ [10] (by decide +kernel) (by decide +kernel)
set_option maxRecDepth 20000 in
theorem gX11_hole_X11_within : GoodIn wsX11_hole (va_wsS RX11 113 yX11_within wsX11_within) := goodIn_app (goodIn_of _ (by decide +kernel)) ggX11_hole_X11_within
set_option maxRecDepth 20000 in
theorem ggX11_hole_X7_addHole : GoodIn wsX11_hole wsX7_addHole := goodIn_r _ [15, 16, 17, 18, 19, 32, 33, 34, 35, 36, 37, 38, 39, 40] (by decide +kernel) (by decide +kernel)
set_option maxRecDepth 20000 in
theorem gX11_hole_X7_addHole : GoodIn wsX11_hole (wsV RX11 117 RX7 yX7_addHole wsX7_addHole) := goodIn_app (goodIn_of _ (by decide +kernel)) ggX11_hole_X7_addHole
theorem dX11_hole_0 : decode cX11_hole 0 = .ok (.aload_n 0, 1) := by decide +kernel
theorem dX11_hole_1 : decode cX11_hole 1 = .ok (.getfield 10, 3) := by decide +kernel
theorem dX11_hole_4 : decode cX11_hole 4 = .ok (.iload_n 1, 1) := by decide +kernel
theorem dX11_hole_5 : decode cX11_hole 5 = .ok (.invokevirtual 106, 3) := by decide +kernel
theorem dX11_hole_8 : decode cX11_hole 8 = .ok (.ifCond .eq 14, 3) := by decide +kernel
theorem dX11_hole_11 : decode cX11_hole 11 = .ok (.iload_n 2, 1) := by decide +kernel
theorem dX11_hole_12 : decode cX11_hole 12 = .ok (.iconst 0, 1) := by decide +kernel
theorem dX11_hole_13 : decode cX11_hole 13 = .ok (.sipush 999, 3) := by decide +kernel
theorem dX11_hole_16 : decode cX11_hole 16 = .ok (.invokestatic 113, 3) := by decide +kernel
theorem dX11_hole_19 : decode cX11_hole 19 = .ok (.ifCond .ne 5, 3) := by decide +kernel
theorem dX11_hole_22 : decode cX11_hole 22 = .ok (.iconst (-1), 1) := by decide +kernel
theorem dX11_hole_23 : decode cX11_hole 23 = .ok (.ireturn, 1) := by decide +kernel
theorem dX11_hole_24 : decode cX11_hole 24 = .ok (.aload_n 0, 1) := by decide +kernel
theorem dX11_hole_25 : decode cX11_hole 25 = .ok (.getfield 10, 3) := by decide +kernel
theorem dX11_hole_28 : decode cX11_hole 28 = .ok (.iload_n 1, 1) := by decide +kernel
theorem dX11_hole_29 : decode cX11_hole 29 = .ok (.iload_n 2, 1) := by decide +kernel
theorem dX11_hole_30 : decode cX11_hole 30 = .ok (.invokevirtual 117, 3) := by decide +kernel
theorem dX11_hole_33 : decode cX11_hole 33 = .ok (.ireturn, 1) := by decide +kernel
theorem dX11_within_0 : decode cX11_within 0 = .ok (.iload_n 1, 1) := by decide +kernel
theorem dX11_within_1 : decode cX11_within 1 = .ok (.iload_n 0, 1) := by decide +kernel
theorem dX11_within_2 : decode cX11_within 2 = .ok (.if_icmp .gt 12, 3) := by decide +kernel
theorem dX11_within_5 : decode cX11_within 5 = .ok (.iload_n 0, 1) := by decide +kernel
theorem dX11_within_6 : decode cX11_within 6 = .ok (.iload_n 2, 1) := by decide +kernel
theorem dX11_within_7 : decode cX11_within 7 = .ok (.if_icmp .gt 7, 3) := by decide +kernel
theorem dX11_within_10 : decode cX11_within 10 = .ok (.iconst 1, 1) := by decide +kernel
theorem dX11_within_11 : decode cX11_within 11 = .ok (.goto 4, 3) := by decide +kernel
theorem dX11_within_14 : decode cX11_within 14 = .ok (.iconst 0, 1) := by decide +kernel
theorem dX11_within_15 : decode cX11_within 15 = .ok (.ireturn, 1) := by decide +kernel
set_option maxRecDepth 20000 in
theorem ggX11_isYear_X11_within : GoodIn wsX11_isYear wsX11_within := goodIn_r _ [4] (by decide +kernel) (by decide +kernel)
set_option maxRecDepth 20000 in
theorem gX11_isYear_X11_within : GoodIn wsX11_isYear (va_wsS RX11 113 yX11_within wsX11_within) := goodIn_app (goodIn_of _ (by decide +kernel)) ggX11_isYear_X11_within
theorem dX11_isYear_0 : decode cX11_isYear 0 = .ok (.iload_n 0, 1) := by decide +kernel
theorem dX11_isYear_1 : decode cX11_isYear 1 = .ok (.iconst 0, 1) := by decide +kernel
theorem dX11_isYear_2 : decode cX11_isYear 2 = .ok (.sipush 2000, 3) := by decide +kernel
theorem dX11_isYear_5 : decode cX11_isYear 5 = .ok (.invokestatic 113, 3) := by decide +kernel
theorem dX11_isYear_8 : decode cX11_isYear 8 = .ok (.ireturn, 1) := by decide +kernel
set_option maxRecDepth 20000 in
theorem ggX11_isSlack_X11_within : GoodIn wsX11_isSlack wsX11_within := goodIn_r _ [4] (by decide +kernel) (by decide +kernel)
set_option maxRecDepth 20000 in
theorem gX11_isSlack_X11_within : GoodIn wsX11_isSlack (va_wsS RX11 113 yX11_within wsX11_within) := goodIn_app (goodIn_of _ (by decide +kernel)) ggX11_isSlack_X11_within
theorem dX11_isSlack_0 : decode cX11_isSlack 0 = .ok (.iload_n 0, 1) := by decide +kernel
theorem dX11_isSlack_1 : decode cX11_isSlack 1 = .ok (.iconst 0, 1) := by decide +kernel
theorem dX11_isSlack_2 : decode cX11_isSlack 2 = .ok (.bipush 99, 2) := by decide +kernel
theorem dX11_isSlack_4 : decode cX11_isSlack 4 = .ok (.invokestatic 113, 3) := by decide +kernel
theorem dX11_isSlack_7 : decode cX11_isSlack 7 = .ok (.ireturn, 1) := by decide +kernel
theorem dX11_isBit_0 : decode cX11_isBit 0 = .ok (.iload_n 0, 1) := by decide +kernel
theorem dX11_isBit_1 : decode cX11_isBit 1 = .ok (.ifCond .eq 8, 3) := by decide +kernel
theorem dX11_isBit_4 : decode cX11_isBit 4 = .ok (.iload_n 0, 1) := by decide +kernel
theorem dX11_isBit_5 : decode cX11_isBit 5 = .ok (.iconst 1, 1) := by decide +kernel
theorem dX11_isBit_6 : decode cX11_isBit 6 = .ok (.if_icmp .ne 7, 3) := by decide +kernel
theorem dX11_isBit_9 : decode cX11_isBit 9 = .ok (.iconst 1, 1) := by decide +kernel
theorem dX11_isBit_10 : decode cX11_isBit 10 = .ok (.goto 4, 3) := by decide +kernel
theorem dX11_isBit_13 : decode cX11_isBit 13 = .ok (.iconst 0, 1) := by decide +kernel
theorem dX11_isBit_14 : decode cX11_isBit 14 = .ok (.ireturn, 1) := by decide +kernel
theorem dX11_asBit_0 : decode cX11_asBit 0 = .ok (.iload_n 0, 1) := by decide +kernel
theorem dX11_asBit_1 : decode cX11_asBit 1 = .ok (.ifCond .eq 7, 3) := by decide +kernel
theorem dX11_asBit_4 : decode cX11_asBit 4 = .ok (.iconst 1, 1) := by decide +kernel
theorem dX11_asBit_5 : decode cX11_asBit 5 = .ok (.goto 4, 3) := by decide +kernel
theorem dX11_asBit_8 : decode cX11_asBit 8 = .ok (.iconst 0, 1) := by decide +kernel
theorem dX11_asBit_9 : decode cX11_asBit 9 = .ok (.ireturn, 1) := by decide +kernel
set_option maxRecDepth 20000 in
theorem ggX11_isInk_X11_within : GoodIn wsX11_isInk wsX11_within := goodIn_r _ [4] (by decide +kernel) (by decide +kernel)
set_option maxRecDepth 20000 in
theorem gX11_isInk_X11_within : GoodIn wsX11_isInk (va_wsS RX11 113 yX11_within wsX11_within) := goodIn_app (goodIn_of _ (by decide +kernel)) ggX11_isInk_X11_within
theorem dX11_isInk_0 : decode cX11_isInk 0 = .ok (.iload_n 0, 1) := by decide +kernel
theorem dX11_isInk_1 : decode cX11_isInk 1 = .ok (.iconst 0, 1) := by decide +kernel
theorem dX11_isInk_2 : decode cX11_isInk 2 = .ok (.iconst 5, 1) := by decide +kernel
theorem dX11_isInk_3 : decode cX11_isInk 3 = .ok (.invokestatic 113, 3) := by decide +kernel
theorem dX11_isInk_6 : decode cX11_isInk 6 = .ok (.ireturn, 1) := by decide +kernel
set_option maxRecDepth 20000 in
theorem ggX11_isStuff_X11_within : GoodIn wsX11_isStuff wsX11_within := goodIn_r _ [4] (by decide +kernel) (by decide +kernel)
set_option maxRecDepth 20000 in
theorem gX11_isStuff_X11_within : GoodIn wsX11_isStuff (va_wsS RX11 113 yX11_within wsX11_within) := goodIn_app (goodIn_of _ (by decide +kernel)) ggX11_isStuff_X11_within
theorem dX11_isStuff_0 : decode cX11_isStuff 0 = .ok (.iload_n 0, 1) := by decide +kernel
theorem dX11_isStuff_1 : decode cX11_isStuff 1 = .ok (.iconst 0, 1) := by decide +kernel
theorem dX11_isStuff_2 : decode cX11_isStuff 2 = .ok (.sipush 9999, 3) := by decide +kernel
theorem dX11_isStuff_5 : decode cX11_isStuff 5 = .ok (.invokestatic 113, 3) := by decide +kernel
theorem dX11_isStuff_8 : decode cX11_isStuff 8 = .ok (.ireturn, 1) := by decide +kernel
set_option maxRecDepth 20000 in
theorem ggX11_isPrior_X11_within : GoodIn wsX11_isPrior wsX11_within := goodIn_r _ [4] (by decide +kernel) (by decide +kernel)
set_option maxRecDepth 20000 in
theorem gX11_isPrior_X11_within : GoodIn wsX11_isPrior (va_wsS RX11 113 yX11_within wsX11_within) := goodIn_app (goodIn_of _ (by decide +kernel)) ggX11_isPrior_X11_within
theorem dX11_isPrior_0 : decode cX11_isPrior 0 = .ok (.iload_n 0, 1) := by decide +kernel
theorem dX11_isPrior_1 : decode cX11_isPrior 1 = .ok (.iconst 1, 1) := by decide +kernel
theorem dX11_isPrior_2 : decode cX11_isPrior 2 = .ok (.bipush 99, 2) := by decide +kernel
theorem dX11_isPrior_4 : decode cX11_isPrior 4 = .ok (.invokestatic 113, 3) := by decide +kernel
theorem dX11_isPrior_7 : decode cX11_isPrior 7 = .ok (.ireturn, 1) := by decide +kernel
set_option maxRecDepth 20000 in
theorem ggX11_isDot_X11_within : GoodIn wsX11_isDot wsX11_within := goodIn_r _ [4] (by decide +kernel) (by decide +kernel)
set_option maxRecDepth 20000 in
theorem gX11_isDot_X11_within : GoodIn wsX11_isDot (va_wsS RX11 113 yX11_within wsX11_within) := goodIn_app (goodIn_of _ (by decide +kernel)) ggX11_isDot_X11_within
set_option maxRecDepth 20000 in
theorem ggX11_isDot_X11_isStuff : GoodIn wsX11_isDot wsX11_isStuff := goodIn_r _ [7, 1, 2, 3, 4] (by decide +kernel) (by decide +kernel)
set_option maxRecDepth 20000 in
theorem gX11_isDot_X11_isStuff : GoodIn wsX11_isDot (va_wsS RX11 218 yX11_isStuff wsX11_isStuff) := goodIn_app (goodIn_of _ (by decide +kernel)) ggX11_isDot_X11_isStuff
theorem dX11_isDot_0 : decode cX11_isDot 0 = .ok (.iload_n 0, 1) := by decide +kernel
theorem dX11_isDot_1 : decode cX11_isDot 1 = .ok (.iconst 0, 1) := by decide +kernel
theorem dX11_isDot_2 : decode cX11_isDot 2 = .ok (.iconst 4, 1) := by decide +kernel
theorem dX11_isDot_3 : decode cX11_isDot 3 = .ok (.invokestatic 113, 3) := by decide +kernel
theorem dX11_isDot_6 : decode cX11_isDot 6 = .ok (.ifCond .eq 24, 3) := by decide +kernel
theorem dX11_isDot_9 : decode cX11_isDot 9 = .ok (.iload_n 1, 1) := by decide +kernel
theorem dX11_isDot_10 : decode cX11_isDot 10 = .ok (.iconst 0, 1) := by decide +kernel
theorem dX11_isDot_11 : decode cX11_isDot 11 = .ok (.bipush 7, 2) := by decide +kernel
theorem dX11_isDot_13 : decode cX11_isDot 13 = .ok (.invokestatic 113, 3) := by decide +kernel
theorem dX11_isDot_16 : decode cX11_isDot 16 = .ok (.ifCond .eq 14, 3) := by decide +kernel
theorem dX11_isDot_19 : decode cX11_isDot 19 = .ok (.iload_n 2, 1) := by decide +kernel
theorem dX11_isDot_20 : decode cX11_isDot 20 = .ok (.invokestatic 218, 3) := by decide +kernel
theorem dX11_isDot_23 : decode cX11_isDot 23 = .ok (.ifCond .eq 7, 3) := by decide +kernel
theorem dX11_isDot_26 : decode cX11_isDot 26 = .ok (.iconst 1, 1) := by decide +kernel
theorem dX11_isDot_27 : decode cX11_isDot 27 = .ok (.goto 4, 3) := by decide +kernel
theorem dX11_isDot_30 : decode cX11_isDot 30 = .ok (.iconst 0, 1) := by decide +kernel
theorem dX11_isDot_31 : decode cX11_isDot 31 = .ok (.ireturn, 1) := by decide +kernel
theorem dX11_hasBit_0 : decode cX11_hasBit 0 = .ok (.iload_n 0, 1) := by decide +kernel
theorem dX11_hasBit_1 : decode cX11_hasBit 1 = .ok (.iload_n 1, 1) := by decide +kernel
theorem dX11_hasBit_2 : decode cX11_hasBit 2 = .ok (.ishr, 1) := by decide +kernel
theorem dX11_hasBit_3 : decode cX11_hasBit 3 = .ok (.iconst 1, 1) := by decide +kernel
theorem dX11_hasBit_4 : decode cX11_hasBit 4 = .ok (.iand, 1) := by decide +kernel
theorem dX11_hasBit_5 : decode cX11_hasBit 5 = .ok (.ifCond .eq 7, 3) := by decide +kernel
theorem dX11_hasBit_8 : decode cX11_hasBit 8 = .ok (.iconst 1, 1) := by decide +kernel
theorem dX11_hasBit_9 : decode cX11_hasBit 9 = .ok (.goto 4, 3) := by decide +kernel
theorem dX11_hasBit_12 : decode cX11_hasBit 12 = .ok (.iconst 0, 1) := by decide +kernel
theorem dX11_hasBit_13 : decode cX11_hasBit 13 = .ok (.ireturn, 1) := by decide +kernel
theorem dX11_drawn_0 : decode cX11_drawn 0 = .ok (.iload_n 0, 1) := by decide +kernel
theorem dX11_drawn_1 : decode cX11_drawn 1 = .ok (.ldc_w 470, 3) := by decide +kernel
theorem dX11_drawn_4 : decode cX11_drawn 4 = .ok (.imul, 1) := by decide +kernel
theorem dX11_drawn_5 : decode cX11_drawn 5 = .ok (.sipush 12345, 3) := by decide +kernel
theorem dX11_drawn_8 : decode cX11_drawn 8 = .ok (.iadd, 1) := by decide +kernel
theorem dX11_drawn_9 : decode cX11_drawn 9 = .ok (.ireturn, 1) := by decide +kernel
