theorem dX7_addHole_28 : decode cX7_addHole 28 = .ok (.aload_n 0, 1) := by decide +kernel
theorem dX7_addHole_29 : decode cX7_addHole 29 = .ok (.getfield 21, 3) := by decide +kernel
theorem dX7_addHole_32 : decode cX7_addHole 32 = .ok (.iload_n 3, 1) := by decide +kernel
theorem dX7_addHole_33 : decode cX7_addHole 33 = .ok (.iconst 1, 1) := by decide +kernel
theorem dX7_addHole_34 : decode cX7_addHole 34 = .ok (.isub, 1) := by decide +kernel
theorem dX7_addHole_35 : decode cX7_addHole 35 = .ok (.iaload, 1) := by decide +kernel
theorem dX7_addHole_36 : decode cX7_addHole 36 = .ok (.iaload, 1) := by decide +kernel
theorem dX7_addHole_37 : decode cX7_addHole 37 = .ok (.iload_n 2, 1) := by decide +kernel
theorem dX7_addHole_38 : decode cX7_addHole 38 = .ok (.if_icmp .le 23, 3) := by decide +kernel
theorem dX7_addHole_41 : decode cX7_addHole 41 = .ok (.aload_n 0, 1) := by decide +kernel
theorem dX7_addHole_42 : decode cX7_addHole 42 = .ok (.getfield 21, 3) := by decide +kernel
theorem dX7_addHole_45 : decode cX7_addHole 45 = .ok (.iload_n 3, 1) := by decide +kernel
theorem dX7_addHole_46 : decode cX7_addHole 46 = .ok (.aload_n 0, 1) := by decide +kernel
theorem dX7_addHole_47 : decode cX7_addHole 47 = .ok (.getfield 21, 3) := by decide +kernel
theorem dX7_addHole_50 : decode cX7_addHole 50 = .ok (.iload_n 3, 1) := by decide +kernel
theorem dX7_addHole_51 : decode cX7_addHole 51 = .ok (.iconst 1, 1) := by decide +kernel
theorem dX7_addHole_52 : decode cX7_addHole 52 = .ok (.isub, 1) := by decide +kernel
theorem dX7_addHole_53 : decode cX7_addHole 53 = .ok (.iaload, 1) := by decide +kernel
theorem dX7_addHole_54 : decode cX7_addHole 54 = .ok (.iastore, 1) := by decide +kernel
theorem dX7_addHole_55 : decode cX7_addHole 55 = .ok (.iinc 3 (-1), 3) := by decide +kernel
theorem dX7_addHole_58 : decode cX7_addHole 58 = .ok (.goto (-38), 3) := by decide +kernel
theorem dX7_addHole_61 : decode cX7_addHole 61 = .ok (.aload_n 0, 1) := by decide +kernel
theorem dX7_addHole_62 : decode cX7_addHole 62 = .ok (.getfield 21, 3) := by decide +kernel
theorem dX7_addHole_65 : decode cX7_addHole 65 = .ok (.iload_n 3, 1) := by decide +kernel
theorem dX7_addHole_66 : decode cX7_addHole 66 = .ok (.aload_n 0, 1) := by decide +kernel
theorem dX7_addHole_67 : decode cX7_addHole 67 = .ok (.getfield 38, 3) := by decide +kernel
theorem dX7_addHole_70 : decode cX7_addHole 70 = .ok (.iastore, 1) := by decide +kernel
theorem dX7_addHole_71 : decode cX7_addHole 71 = .ok (.aload_n 0, 1) := by decide +kernel
theorem dX7_addHole_72 : decode cX7_addHole 72 = .ok (.getfield 15, 3) := by decide +kernel
theorem dX7_addHole_75 : decode cX7_addHole 75 = .ok (.aload_n 0, 1) := by decide +kernel
theorem dX7_addHole_76 : decode cX7_addHole 76 = .ok (.getfield 38, 3) := by decide +kernel
theorem dX7_addHole_79 : decode cX7_addHole 79 = .ok (.iload_n 1, 1) := by decide +kernel
theorem dX7_addHole_80 : decode cX7_addHole 80 = .ok (.iastore, 1) := by decide +kernel
theorem dX7_addHole_81 : decode cX7_addHole 81 = .ok (.aload_n 0, 1) := by decide +kernel
theorem dX7_addHole_82 : decode cX7_addHole 82 = .ok (.getfield 18, 3) := by decide +kernel
theorem dX7_addHole_85 : decode cX7_addHole 85 = .ok (.aload_n 0, 1) := by decide +kernel
theorem dX7_addHole_86 : decode cX7_addHole 86 = .ok (.getfield 38, 3) := by decide +kernel
theorem dX7_addHole_89 : decode cX7_addHole 89 = .ok (.iload_n 2, 1) := by decide +kernel
theorem dX7_addHole_90 : decode cX7_addHole 90 = .ok (.iastore, 1) := by decide +kernel
theorem dX7_addHole_91 : decode cX7_addHole 91 = .ok (.aload_n 0, 1) := by decide +kernel
theorem dX7_addHole_92 : decode cX7_addHole 92 = .ok (.dup, 1) := by decide +kernel
theorem dX7_addHole_93 : decode cX7_addHole 93 = .ok (.getfield 38, 3) := by decide +kernel
theorem dX7_addHole_96 : decode cX7_addHole 96 = .ok (.dup_x1, 1) := by decide +kernel
theorem dX7_addHole_97 : decode cX7_addHole 97 = .ok (.iconst 1, 1) := by decide +kernel
theorem dX7_addHole_98 : decode cX7_addHole 98 = .ok (.iadd, 1) := by decide +kernel
theorem dX7_addHole_99 : decode cX7_addHole 99 = .ok (.putfield 38, 3) := by decide +kernel
theorem dX7_addHole_102 : decode cX7_addHole 102 = .ok (.ireturn, 1) := by decide +kernel
theorem dX7_findWorms_0 : decode cX7_findWorms 0 = .ok (.aload_n 0, 1) := by decide +kernel
theorem dX7_findWorms_1 : decode cX7_findWorms 1 = .ok (.iconst 0, 1) := by decide +kernel
theorem dX7_findWorms_2 : decode cX7_findWorms 2 = .ok (.putfield 41, 3) := by decide +kernel
theorem dX7_findWorms_5 : decode cX7_findWorms 5 = .ok (.iconst (-1), 1) := by decide +kernel
theorem dX7_findWorms_6 : decode cX7_findWorms 6 = .ok (.istore_n 3, 1) := by decide +kernel
theorem dX7_findWorms_7 : decode cX7_findWorms 7 = .ok (.iconst 0, 1) := by decide +kernel
theorem dX7_findWorms_8 : decode cX7_findWorms 8 = .ok (.istore 4, 2) := by decide +kernel
theorem dX7_findWorms_10 : decode cX7_findWorms 10 = .ok (.iload 4, 2) := by decide +kernel
theorem dX7_findWorms_12 : decode cX7_findWorms 12 = .ok (.aload_n 0, 1) := by decide +kernel
theorem dX7_findWorms_13 : decode cX7_findWorms 13 = .ok (.getfield 38, 3) := by decide +kernel
theorem dX7_findWorms_16 : decode cX7_findWorms 16 = .ok (.if_icmp .ge 130, 3) := by decide +kernel
theorem dX7_findWorms_19 : decode cX7_findWorms 19 = .ok (.aload_n 0, 1) := by decide +kernel
theorem dX7_findWorms_20 : decode cX7_findWorms 20 = .ok (.getfield 21, 3) := by decide +kernel
theorem dX7_findWorms_23 : decode cX7_findWorms 23 = .ok (.iload 4, 2) := by decide +kernel
theorem dX7_findWorms_25 : decode cX7_findWorms 25 = .ok (.iaload, 1) := by decide +kernel
theorem dX7_findWorms_26 : decode cX7_findWorms 26 = .ok (.istore 5, 2) := by decide +kernel
theorem dX7_findWorms_28 : decode cX7_findWorms 28 = .ok (.iconst 1, 1) := by decide +kernel
theorem dX7_findWorms_29 : decode cX7_findWorms 29 = .ok (.aload_n 0, 1) := by decide +kernel
theorem dX7_findWorms_30 : decode cX7_findWorms 30 = .ok (.getfield 15, 3) := by decide +kernel
theorem dX7_findWorms_33 : decode cX7_findWorms 33 = .ok (.iload 5, 2) := by decide +kernel
theorem dX7_findWorms_35 : decode cX7_findWorms 35 = .ok (.iaload, 1) := by decide +kernel
theorem dX7_findWorms_36 : decode cX7_findWorms 36 = .ok (.ishl, 1) := by decide +kernel
theorem dX7_findWorms_37 : decode cX7_findWorms 37 = .ok (.istore 6, 2) := by decide +kernel
theorem dX7_findWorms_39 : decode cX7_findWorms 39 = .ok (.iload_n 2, 1) := by decide +kernel
theorem dX7_findWorms_40 : decode cX7_findWorms 40 = .ok (.iload 6, 2) := by decide +kernel
theorem dX7_findWorms_42 : decode cX7_findWorms 42 = .ok (.iand, 1) := by decide +kernel
theorem dX7_findWorms_43 : decode cX7_findWorms 43 = .ok (.ifCond .ne 6, 3) := by decide +kernel
theorem dX7_findWorms_46 : decode cX7_findWorms 46 = .ok (.goto 94, 3) := by decide +kernel
theorem dX7_findWorms_49 : decode cX7_findWorms 49 = .ok (.iload_n 3, 1) := by decide +kernel
theorem dX7_findWorms_50 : decode cX7_findWorms 50 = .ok (.ifCond .lt 38, 3) := by decide +kernel
theorem dX7_findWorms_53 : decode cX7_findWorms 53 = .ok (.aload_n 0, 1) := by decide +kernel
theorem dX7_findWorms_54 : decode cX7_findWorms 54 = .ok (.getfield 18, 3) := by decide +kernel
theorem dX7_findWorms_57 : decode cX7_findWorms 57 = .ok (.iload 5, 2) := by decide +kernel
theorem dX7_findWorms_59 : decode cX7_findWorms 59 = .ok (.iaload, 1) := by decide +kernel
theorem dX7_findWorms_60 : decode cX7_findWorms 60 = .ok (.aload_n 0, 1) := by decide +kernel
theorem dX7_findWorms_61 : decode cX7_findWorms 61 = .ok (.getfield 18, 3) := by decide +kernel
theorem dX7_findWorms_64 : decode cX7_findWorms 64 = .ok (.iload_n 3, 1) := by decide +kernel
theorem dX7_findWorms_65 : decode cX7_findWorms 65 = .ok (.iaload, 1) := by decide +kernel
theorem dX7_findWorms_66 : decode cX7_findWorms 66 = .ok (.isub, 1) := by decide +kernel
theorem dX7_findWorms_67 : decode cX7_findWorms 67 = .ok (.iload_n 1, 1) := by decide +kernel
theorem dX7_findWorms_68 : decode cX7_findWorms 68 = .ok (.if_icmp .gt 20, 3) := by decide +kernel
theorem dX7_findWorms_71 : decode cX7_findWorms 71 = .ok (.aload_n 0, 1) := by decide +kernel
theorem dX7_findWorms_72 : decode cX7_findWorms 72 = .ok (.getfield 27, 3) := by decide +kernel
theorem dX7_findWorms_75 : decode cX7_findWorms 75 = .ok (.aload_n 0, 1) := by decide +kernel
theorem dX7_findWorms_76 : decode cX7_findWorms 76 = .ok (.getfield 41, 3) := by decide +kernel
theorem dX7_findWorms_79 : decode cX7_findWorms 79 = .ok (.iconst 1, 1) := by decide +kernel
theorem dX7_findWorms_80 : decode cX7_findWorms 80 = .ok (.isub, 1) := by decide +kernel
theorem dX7_findWorms_81 : decode cX7_findWorms 81 = .ok (.iaload, 1) := by decide +kernel
theorem dX7_findWorms_82 : decode cX7_findWorms 82 = .ok (.iload 6, 2) := by decide +kernel
theorem dX7_findWorms_84 : decode cX7_findWorms 84 = .ok (.iand, 1) := by decide +kernel
theorem dX7_findWorms_85 : decode cX7_findWorms 85 = .ok (.ifCond .eq 23, 3) := by decide +kernel
theorem dX7_findWorms_88 : decode cX7_findWorms 88 = .ok (.aload_n 0, 1) := by decide +kernel
theorem dX7_findWorms_89 : decode cX7_findWorms 89 = .ok (.getfield 27, 3) := by decide +kernel
theorem dX7_findWorms_92 : decode cX7_findWorms 92 = .ok (.aload_n 0, 1) := by decide +kernel
theorem dX7_findWorms_93 : decode cX7_findWorms 93 = .ok (.getfield 41, 3) := by decide +kernel
theorem dX7_findWorms_96 : decode cX7_findWorms 96 = .ok (.iconst 0, 1) := by decide +kernel
theorem dX7_findWorms_97 : decode cX7_findWorms 97 = .ok (.iastore, 1) := by decide +kernel
theorem dX7_findWorms_98 : decode cX7_findWorms 98 = .ok (.aload_n 0, 1) := by decide +kernel
theorem dX7_findWorms_99 : decode cX7_findWorms 99 = .ok (.dup, 1) := by decide +kernel
theorem dX7_findWorms_100 : decode cX7_findWorms 100 = .ok (.getfield 41, 3) := by decide +kernel
theorem dX7_findWorms_103 : decode cX7_findWorms 103 = .ok (.iconst 1, 1) := by decide +kernel
theorem dX7_findWorms_104 : decode cX7_findWorms 104 = .ok (.iadd, 1) := by decide +kernel
theorem dX7_findWorms_105 : decode cX7_findWorms 105 = .ok (.putfield 41, 3) := by decide +kernel
theorem dX7_findWorms_108 : decode cX7_findWorms 108 = .ok (.aload_n 0, 1) := by decide +kernel
theorem dX7_findWorms_109 : decode cX7_findWorms 109 = .ok (.getfield 27, 3) := by decide +kernel
theorem dX7_findWorms_112 : decode cX7_findWorms 112 = .ok (.aload_n 0, 1) := by decide +kernel
theorem dX7_findWorms_113 : decode cX7_findWorms 113 = .ok (.getfield 41, 3) := by decide +kernel
theorem dX7_findWorms_116 : decode cX7_findWorms 116 = .ok (.iconst 1, 1) := by decide +kernel
theorem dX7_findWorms_117 : decode cX7_findWorms 117 = .ok (.isub, 1) := by decide +kernel
theorem dX7_findWorms_118 : decode cX7_findWorms 118 = .ok (.dup2, 1) := by decide +kernel
theorem dX7_findWorms_119 : decode cX7_findWorms 119 = .ok (.iaload, 1) := by decide +kernel
theorem dX7_findWorms_120 : decode cX7_findWorms 120 = .ok (.iload 6, 2) := by decide +kernel
theorem dX7_findWorms_122 : decode cX7_findWorms 122 = .ok (.ior, 1) := by decide +kernel
theorem dX7_findWorms_123 : decode cX7_findWorms 123 = .ok (.iastore, 1) := by decide +kernel
theorem dX7_findWorms_124 : decode cX7_findWorms 124 = .ok (.aload_n 0, 1) := by decide +kernel
theorem dX7_findWorms_125 : decode cX7_findWorms 125 = .ok (.getfield 24, 3) := by decide +kernel
theorem dX7_findWorms_128 : decode cX7_findWorms 128 = .ok (.iload 5, 2) := by decide +kernel
theorem dX7_findWorms_130 : decode cX7_findWorms 130 = .ok (.aload_n 0, 1) := by decide +kernel
theorem dX7_findWorms_131 : decode cX7_findWorms 131 = .ok (.getfield 41, 3) := by decide +kernel
theorem dX7_findWorms_134 : decode cX7_findWorms 134 = .ok (.iconst 1, 1) := by decide +kernel
theorem dX7_findWorms_135 : decode cX7_findWorms 135 = .ok (.isub, 1) := by decide +kernel
theorem dX7_findWorms_136 : decode cX7_findWorms 136 = .ok (.iastore, 1) := by decide +kernel
theorem dX7_findWorms_137 : decode cX7_findWorms 137 = .ok (.iload 5, 2) := by decide +kernel
theorem dX7_findWorms_139 : decode cX7_findWorms 139 = .ok (.istore_n 3, 1) := by decide +kernel
theorem dX7_findWorms_140 : decode cX7_findWorms 140 = .ok (.iinc 4 1, 3) := by decide +kernel
theorem dX7_findWorms_143 : decode cX7_findWorms 143 = .ok (.goto (-133), 3) := by decide +kernel
theorem dX7_findWorms_146 : decode cX7_findWorms 146 = .ok (.return_, 1) := by decide +kernel
theorem dX7_youngest_0 : decode cX7_youngest 0 = .ok (.iconst 0, 1) := by decide +kernel
theorem dX7_youngest_1 : decode cX7_youngest 1 = .ok (.istore_n 1, 1) := by decide +kernel
theorem dX7_youngest_2 : decode cX7_youngest 2 = .ok (.iconst 0, 1) := by decide +kernel
theorem dX7_youngest_3 : decode cX7_youngest 3 = .ok (.istore_n 2, 1) := by decide +kernel
theorem dX7_youngest_4 : decode cX7_youngest 4 = .ok (.iload_n 2, 1) := by decide +kernel
theorem dX7_youngest_5 : decode cX7_youngest 5 = .ok (.aload_n 0, 1) := by decide +kernel
theorem dX7_youngest_6 : decode cX7_youngest 6 = .ok (.getfield 30, 3) := by decide +kernel
theorem dX7_youngest_9 : decode cX7_youngest 9 = .ok (.if_icmp .ge 20, 3) := by decide +kernel
theorem dX7_youngest_12 : decode cX7_youngest 12 = .ok (.iload_n 1, 1) := by decide +kernel
theorem dX7_youngest_13 : decode cX7_youngest 13 = .ok (.aload_n 0, 1) := by decide +kernel
theorem dX7_youngest_14 : decode cX7_youngest 14 = .ok (.getfield 9, 3) := by decide +kernel
theorem dX7_youngest_17 : decode cX7_youngest 17 = .ok (.iload_n 2, 1) := by decide +kernel
theorem dX7_youngest_18 : decode cX7_youngest 18 = .ok (.iaload, 1) := by decide +kernel
theorem dX7_youngest_19 : decode cX7_youngest 19 = .ok (.invokestatic 44, 3) := by decide +kernel
theorem dX7_youngest_22 : decode cX7_youngest 22 = .ok (.istore_n 1, 1) := by decide +kernel
theorem dX7_youngest_23 : decode cX7_youngest 23 = .ok (.iinc 2 1, 3) := by decide +kernel
theorem dX7_youngest_26 : decode cX7_youngest 26 = .ok (.goto (-22), 3) := by decide +kernel
theorem dX7_youngest_29 : decode cX7_youngest 29 = .ok (.iload_n 1, 1) := by decide +kernel
theorem dX7_youngest_30 : decode cX7_youngest 30 = .ok (.ireturn, 1) := by decide +kernel
theorem dX8_init_0 : decode cX8_init 0 = .ok (.aload_n 0, 1) := by decide +kernel
theorem dX8_init_1 : decode cX8_init 1 = .ok (.invokespecial 3, 3) := by decide +kernel
theorem dX8_init_4 : decode cX8_init 4 = .ok (.aload_n 0, 1) := by decide +kernel
theorem dX8_init_5 : decode cX8_init 5 = .ok (.bipush 6, 2) := by decide +kernel
theorem dX8_init_7 : decode cX8_init 7 = .ok (.newarray .int, 2) := by decide +kernel
theorem dX8_init_9 : decode cX8_init 9 = .ok (.dup, 1) := by decide +kernel
theorem dX8_init_10 : decode cX8_init 10 = .ok (.iconst 0, 1) := by decide +kernel
theorem dX8_init_11 : decode cX8_init 11 = .ok (.iconst (-1), 1) := by decide +kernel
theorem dX8_init_12 : decode cX8_init 12 = .ok (.iastore, 1) := by decide +kernel
theorem dX8_init_13 : decode cX8_init 13 = .ok (.dup, 1) := by decide +kernel
theorem dX8_init_14 : decode cX8_init 14 = .ok (.iconst 1, 1) := by decide +kernel
theorem dX8_init_15 : decode cX8_init 15 = .ok (.iconst (-1), 1) := by decide +kernel
theorem dX8_init_16 : decode cX8_init 16 = .ok (.iastore, 1) := by decide +kernel
theorem dX8_init_17 : decode cX8_init 17 = .ok (.dup, 1) := by decide +kernel
theorem dX8_init_18 : decode cX8_init 18 = .ok (.iconst 2, 1) := by decide +kernel
theorem dX8_init_19 : decode cX8_init 19 = .ok (.iconst (-1), 1) := by decide +kernel
theorem dX8_init_20 : decode cX8_init 20 = .ok (.iastore, 1) := by decide +kernel
theorem dX8_init_21 : decode cX8_init 21 = .ok (.dup, 1) := by decide +kernel
theorem dX8_init_22 : decode cX8_init 22 = .ok (.iconst 3, 1) := by decide +kernel
theorem dX8_init_23 : decode cX8_init 23 = .ok (.iconst (-1), 1) := by decide +kernel
theorem dX8_init_24 : decode cX8_init 24 = .ok (.iastore, 1) := by decide +kernel
theorem dX8_init_25 : decode cX8_init 25 = .ok (.dup, 1) := by decide +kernel
theorem dX8_init_26 : decode cX8_init 26 = .ok (.iconst 4, 1) := by decide +kernel
theorem dX8_init_27 : decode cX8_init 27 = .ok (.iconst (-1), 1) := by decide +kernel
theorem dX8_init_28 : decode cX8_init 28 = .ok (.iastore, 1) := by decide +kernel
theorem dX8_init_29 : decode cX8_init 29 = .ok (.dup, 1) := by decide +kernel
theorem dX8_init_30 : decode cX8_init 30 = .ok (.iconst 5, 1) := by decide +kernel
theorem dX8_init_31 : decode cX8_init 31 = .ok (.iconst (-1), 1) := by decide +kernel
theorem dX8_init_32 : decode cX8_init 32 = .ok (.iastore, 1) := by decide +kernel
theorem dX8_init_33 : decode cX8_init 33 = .ok (.putfield 11, 3) := by decide +kernel
theorem dX8_init_36 : decode cX8_init 36 = .ok (.aload_n 0, 1) := by decide +kernel
theorem dX8_init_37 : decode cX8_init 37 = .ok (.bipush 6, 2) := by decide +kernel
theorem dX8_init_39 : decode cX8_init 39 = .ok (.newarray .int, 2) := by decide +kernel
theorem dX8_init_41 : decode cX8_init 41 = .ok (.putfield 15, 3) := by decide +kernel
theorem dX8_init_44 : decode cX8_init 44 = .ok (.aload_n 0, 1) := by decide +kernel
theorem dX8_init_45 : decode cX8_init 45 = .ok (.bipush 6, 2) := by decide +kernel
theorem dX8_init_47 : decode cX8_init 47 = .ok (.newarray .int, 2) := by decide +kernel
theorem dX8_init_49 : decode cX8_init 49 = .ok (.putfield 18, 3) := by decide +kernel
theorem dX8_init_52 : decode cX8_init 52 = .ok (.aload_n 0, 1) := by decide +kernel
theorem dX8_init_53 : decode cX8_init 53 = .ok (.bipush 6, 2) := by decide +kernel
theorem dX8_init_55 : decode cX8_init 55 = .ok (.bipush 60, 2) := by decide +kernel
theorem dX8_init_57 : decode cX8_init 57 = .ok (.multianewarray 21 2, 4) := by decide +kernel
theorem dX8_init_61 : decode cX8_init 61 = .ok (.putfield 23, 3) := by decide +kernel
theorem dX8_init_64 : decode cX8_init 64 = .ok (.return_, 1) := by decide +kernel
set_option maxRecDepth 20000 in
theorem ggX8_isShelf_X11_within : GoodIn wsX8_isShelf wsX11_within := goodIn_r _ [4] (by decide +kernel) (by decide +kernel)
set_option maxRecDepth 20000 in
theorem gX8_isShelf_X11_within_n26 : GoodIn wsX8_isShelf (wsX11_within) := ggX8_isShelf_X11_within
theorem dX8_isShelf_0 : decode cX8_isShelf 0 = .ok (.iload_n 1, 1) := by decide +kernel
theorem dX8_isShelf_1 : decode cX8_isShelf 1 = .ok (.iconst 0, 1) := by decide +kernel
theorem dX8_isShelf_2 : decode cX8_isShelf 2 = .ok (.aload_n 0, 1) := by decide +kernel
theorem dX8_isShelf_3 : decode cX8_isShelf 3 = .ok (.getfield 11, 3) := by decide +kernel
theorem dX8_isShelf_6 : decode cX8_isShelf 6 = .ok (.arraylength, 1) := by decide +kernel
theorem dX8_isShelf_7 : decode cX8_isShelf 7 = .ok (.iconst 1, 1) := by decide +kernel
theorem dX8_isShelf_8 : decode cX8_isShelf 8 = .ok (.isub, 1) := by decide +kernel
theorem dX8_isShelf_9 : decode cX8_isShelf 9 = .ok (.invokestatic 26, 3) := by decide +kernel
theorem dX8_isShelf_12 : decode cX8_isShelf 12 = .ok (.ireturn, 1) := by decide +kernel
theorem dX8_isBare_0 : decode cX8_isBare 0 = .ok (.aload_n 0, 1) := by decide +kernel
theorem dX8_isBare_1 : decode cX8_isBare 1 = .ok (.getfield 11, 3) := by decide +kernel
theorem dX8_isBare_4 : decode cX8_isBare 4 = .ok (.iload_n 1, 1) := by decide +kernel
theorem dX8_isBare_5 : decode cX8_isBare 5 = .ok (.iaload, 1) := by decide +kernel
theorem dX8_isBare_6 : decode cX8_isBare 6 = .ok (.iconst (-1), 1) := by decide +kernel
theorem dX8_isBare_7 : decode cX8_isBare 7 = .ok (.if_icmp .ne 7, 3) := by decide +kernel
theorem dX8_isBare_10 : decode cX8_isBare 10 = .ok (.iconst 1, 1) := by decide +kernel
theorem dX8_isBare_11 : decode cX8_isBare 11 = .ok (.goto 4, 3) := by decide +kernel
theorem dX8_isBare_14 : decode cX8_isBare 14 = .ok (.iconst 0, 1) := by decide +kernel
theorem dX8_isBare_15 : decode cX8_isBare 15 = .ok (.ireturn, 1) := by decide +kernel
theorem dX8_holdsSort_0 : decode cX8_holdsSort 0 = .ok (.aload_n 0, 1) := by decide +kernel
theorem dX8_holdsSort_1 : decode cX8_holdsSort 1 = .ok (.getfield 11, 3) := by decide +kernel
theorem dX8_holdsSort_4 : decode cX8_holdsSort 4 = .ok (.iload_n 1, 1) := by decide +kernel
theorem dX8_holdsSort_5 : decode cX8_holdsSort 5 = .ok (.iaload, 1) := by decide +kernel
theorem dX8_holdsSort_6 : decode cX8_holdsSort 6 = .ok (.iload_n 2, 1) := by decide +kernel
theorem dX8_holdsSort_7 : decode cX8_holdsSort 7 = .ok (.if_icmp .ne 7, 3) := by decide +kernel
theorem dX8_holdsSort_10 : decode cX8_holdsSort 10 = .ok (.iconst 1, 1) := by decide +kernel
theorem dX8_holdsSort_11 : decode cX8_holdsSort 11 = .ok (.goto 4, 3) := by decide +kernel
theorem dX8_holdsSort_14 : decode cX8_holdsSort 14 = .ok (.iconst 0, 1) := by decide +kernel
theorem dX8_holdsSort_15 : decode cX8_holdsSort 15 = .ok (.ireturn, 1) := by decide +kernel
theorem dX8_areAlikeRows_0 : decode cX8_areAlikeRows 0 = .ok (.aload_n 0, 1) := by decide +kernel
theorem dX8_areAlikeRows_1 : decode cX8_areAlikeRows 1 = .ok (.getfield 11, 3) := by decide +kernel
theorem dX8_areAlikeRows_4 : decode cX8_areAlikeRows 4 = .ok (.iload_n 1, 1) := by decide +kernel
theorem dX8_areAlikeRows_5 : decode cX8_areAlikeRows 5 = .ok (.iaload, 1) := by decide +kernel
theorem dX8_areAlikeRows_6 : decode cX8_areAlikeRows 6 = .ok (.iconst 5, 1) := by decide +kernel
theorem dX8_areAlikeRows_7 : decode cX8_areAlikeRows 7 = .ok (.if_icmp .eq 22, 3) := by decide +kernel
theorem dX8_areAlikeRows_10 : decode cX8_areAlikeRows 10 = .ok (.aload_n 0, 1) := by decide +kernel
theorem dX8_areAlikeRows_11 : decode cX8_areAlikeRows 11 = .ok (.getfield 11, 3) := by decide +kernel
theorem dX8_areAlikeRows_14 : decode cX8_areAlikeRows 14 = .ok (.iload_n 1, 1) := by decide +kernel
theorem dX8_areAlikeRows_15 : decode cX8_areAlikeRows 15 = .ok (.iaload, 1) := by decide +kernel
theorem dX8_areAlikeRows_16 : decode cX8_areAlikeRows 16 = .ok (.aload_n 0, 1) := by decide +kernel
theorem dX8_areAlikeRows_17 : decode cX8_areAlikeRows 17 = .ok (.getfield 11, 3) := by decide +kernel
theorem dX8_areAlikeRows_20 : decode cX8_areAlikeRows 20 = .ok (.iload_n 2, 1) := by decide +kernel
theorem dX8_areAlikeRows_21 : decode cX8_areAlikeRows 21 = .ok (.iaload, 1) := by decide +kernel
theorem dX8_areAlikeRows_22 : decode cX8_areAlikeRows 22 = .ok (.if_icmp .ne 7, 3) := by decide +kernel
theorem dX8_areAlikeRows_25 : decode cX8_areAlikeRows 25 = .ok (.iconst 1, 1) := by decide +kernel
theorem dX8_areAlikeRows_26 : decode cX8_areAlikeRows 26 = .ok (.goto 4, 3) := by decide +kernel
theorem dX8_areAlikeRows_29 : decode cX8_areAlikeRows 29 = .ok (.iconst 0, 1) := by decide +kernel
theorem dX8_areAlikeRows_30 : decode cX8_areAlikeRows 30 = .ok (.ireturn, 1) := by decide +kernel
theorem dX8_hasPlaces_0 : decode cX8_hasPlaces 0 = .ok (.iload_n 2, 1) := by decide +kernel
theorem dX8_hasPlaces_1 : decode cX8_hasPlaces 1 = .ok (.ifCond .lt 33, 3) := by decide +kernel
theorem dX8_hasPlaces_4 : decode cX8_hasPlaces 4 = .ok (.iload_n 3, 1) := by decide +kernel
theorem dX8_hasPlaces_5 : decode cX8_hasPlaces 5 = .ok (.ifCond .lt 29, 3) := by decide +kernel
theorem dX8_hasPlaces_8 : decode cX8_hasPlaces 8 = .ok (.iload_n 2, 1) := by decide +kernel
theorem dX8_hasPlaces_9 : decode cX8_hasPlaces 9 = .ok (.aload_n 0, 1) := by decide +kernel
theorem dX8_hasPlaces_10 : decode cX8_hasPlaces 10 = .ok (.getfield 15, 3) := by decide +kernel
theorem dX8_hasPlaces_13 : decode cX8_hasPlaces 13 = .ok (.iload_n 1, 1) := by decide +kernel
theorem dX8_hasPlaces_14 : decode cX8_hasPlaces 14 = .ok (.iaload, 1) := by decide +kernel
theorem dX8_hasPlaces_15 : decode cX8_hasPlaces 15 = .ok (.if_icmp .gt 19, 3) := by decide +kernel
theorem dX8_hasPlaces_18 : decode cX8_hasPlaces 18 = .ok (.iload_n 3, 1) := by decide +kernel
theorem dX8_hasPlaces_19 : decode cX8_hasPlaces 19 = .ok (.aload_n 0, 1) := by decide +kernel
theorem dX8_hasPlaces_20 : decode cX8_hasPlaces 20 = .ok (.getfield 15, 3) := by decide +kernel
theorem dX8_hasPlaces_23 : decode cX8_hasPlaces 23 = .ok (.iload_n 1, 1) := by decide +kernel
theorem dX8_hasPlaces_24 : decode cX8_hasPlaces 24 = .ok (.iaload, 1) := by decide +kernel
theorem dX8_hasPlaces_25 : decode cX8_hasPlaces 25 = .ok (.iload_n 2, 1) := by decide +kernel
theorem dX8_hasPlaces_26 : decode cX8_hasPlaces 26 = .ok (.isub, 1) := by decide +kernel
theorem dX8_hasPlaces_27 : decode cX8_hasPlaces 27 = .ok (.if_icmp .gt 7, 3) := by decide +kernel
theorem dX8_hasPlaces_30 : decode cX8_hasPlaces 30 = .ok (.iconst 1, 1) := by decide +kernel
theorem dX8_hasPlaces_31 : decode cX8_hasPlaces 31 = .ok (.goto 4, 3) := by decide +kernel
theorem dX8_hasPlaces_34 : decode cX8_hasPlaces 34 = .ok (.iconst 0, 1) := by decide +kernel
theorem dX8_hasPlaces_35 : decode cX8_hasPlaces 35 = .ok (.ireturn, 1) := by decide +kernel
theorem dX8_clear_0 : decode cX8_clear 0 = .ok (.aload_n 0, 1) := by decide +kernel
theorem dX8_clear_1 : decode cX8_clear 1 = .ok (.getfield 11, 3) := by decide +kernel
theorem dX8_clear_4 : decode cX8_clear 4 = .ok (.iload_n 1, 1) := by decide +kernel
theorem dX8_clear_5 : decode cX8_clear 5 = .ok (.iconst (-1), 1) := by decide +kernel
theorem dX8_clear_6 : decode cX8_clear 6 = .ok (.iastore, 1) := by decide +kernel
theorem dX8_clear_7 : decode cX8_clear 7 = .ok (.return_, 1) := by decide +kernel
theorem dX8_layBody_0 : decode cX8_layBody 0 = .ok (.aload_n 0, 1) := by decide +kernel
theorem dX8_layBody_1 : decode cX8_layBody 1 = .ok (.getfield 11, 3) := by decide +kernel
theorem dX8_layBody_4 : decode cX8_layBody 4 = .ok (.iload_n 1, 1) := by decide +kernel
theorem dX8_layBody_5 : decode cX8_layBody 5 = .ok (.iconst 5, 1) := by decide +kernel
theorem dX8_layBody_6 : decode cX8_layBody 6 = .ok (.iastore, 1) := by decide +kernel
theorem dX8_layBody_7 : decode cX8_layBody 7 = .ok (.aload_n 0, 1) := by decide +kernel
theorem dX8_layBody_8 : decode cX8_layBody 8 = .ok (.getfield 18, 3) := by decide +kernel
theorem dX8_layBody_11 : decode cX8_layBody 11 = .ok (.iload_n 1, 1) := by decide +kernel
theorem dX8_layBody_12 : decode cX8_layBody 12 = .ok (.iload_n 2, 1) := by decide +kernel
theorem dX8_layBody_13 : decode cX8_layBody 13 = .ok (.iastore, 1) := by decide +kernel
theorem dX8_layBody_14 : decode cX8_layBody 14 = .ok (.return_, 1) := by decide +kernel
set_option maxRecDepth 20000 in
theorem ggX8_layRow_J7_fill_d0a16 : GoodIn wsX8_layRow wsJ7_fill_d0a16 := goodIn_r _ [7] (by decide +kernel) (by decide +kernel)
set_option maxRecDepth 20000 in
theorem gX8_layRow_J7_fill_d0a16 : GoodIn wsX8_layRow (va_wsS RX8 30 yJ7_fill_d0a16 wsJ7_fill_d0a16) := goodIn_app (goodIn_of _ (by decide +kernel)) ggX8_layRow_J7_fill_d0a16
theorem dX8_layRow_0 : decode cX8_layRow 0 = .ok (.aload_n 0, 1) := by decide +kernel
theorem dX8_layRow_1 : decode cX8_layRow 1 = .ok (.getfield 11, 3) := by decide +kernel
theorem dX8_layRow_4 : decode cX8_layRow 4 = .ok (.iload_n 1, 1) := by decide +kernel
theorem dX8_layRow_5 : decode cX8_layRow 5 = .ok (.iload_n 2, 1) := by decide +kernel
theorem dX8_layRow_6 : decode cX8_layRow 6 = .ok (.iastore, 1) := by decide +kernel
theorem dX8_layRow_7 : decode cX8_layRow 7 = .ok (.aload_n 0, 1) := by decide +kernel
theorem dX8_layRow_8 : decode cX8_layRow 8 = .ok (.getfield 15, 3) := by decide +kernel
theorem dX8_layRow_11 : decode cX8_layRow 11 = .ok (.iload_n 1, 1) := by decide +kernel
theorem dX8_layRow_12 : decode cX8_layRow 12 = .ok (.iload_n 3, 1) := by decide +kernel
theorem dX8_layRow_13 : decode cX8_layRow 13 = .ok (.iastore, 1) := by decide +kernel
theorem dX8_layRow_14 : decode cX8_layRow 14 = .ok (.aload_n 0, 1) := by decide +kernel
theorem dX8_layRow_15 : decode cX8_layRow 15 = .ok (.getfield 23, 3) := by decide +kernel
theorem dX8_layRow_18 : decode cX8_layRow 18 = .ok (.iload_n 1, 1) := by decide +kernel
theorem dX8_layRow_19 : decode cX8_layRow 19 = .ok (.aaload, 1) := by decide +kernel
theorem dX8_layRow_20 : decode cX8_layRow 20 = .ok (.lconst 0, 1) := by decide +kernel
theorem dX8_layRow_21 : decode cX8_layRow 21 = .ok (.invokestatic 30, 3) := by decide +kernel
theorem dX8_layRow_24 : decode cX8_layRow 24 = .ok (.return_, 1) := by decide +kernel
set_option maxRecDepth 20000 in
theorem ggX8_refusal_X8_isShelf : GoodIn wsX8_refusal wsX8_isShelf := goodIn_r _ [7, 1, 8, 9, 10, 15, 16, 17, 18] (by decide +kernel) (by decide +kernel)
set_option maxRecDepth 20000 in
theorem gX8_refusal_X8_isShelf : GoodIn wsX8_refusal (wsV RX8 36 RX8 yX8_isShelf wsX8_isShelf) := goodIn_app (goodIn_of _ (by decide +kernel)) ggX8_refusal_X8_isShelf
set_option maxRecDepth 20000 in
theorem ggX8_refusal_X8_isBare : GoodIn wsX8_refusal wsX8_isBare := goodIn_r _ [14, 1, 15, 16, 17, 18] (by decide +kernel) (by decide +kernel)
set_option maxRecDepth 20000 in
theorem gX8_refusal_X8_isBare : GoodIn wsX8_refusal (wsV RX8 40 RX8 yX8_isBare wsX8_isBare) := goodIn_app (goodIn_of _ (by decide +kernel)) ggX8_refusal_X8_isBare
set_option maxRecDepth 20000 in
theorem ggX8_refusal_X11_within : GoodIn wsX8_refusal wsX11_within := goodIn_r _ [10] (by decide +kernel) (by decide +kernel)
set_option maxRecDepth 20000 in
theorem gX8_refusal_X11_within_n26 : GoodIn wsX8_refusal (wsX11_within) := ggX8_refusal_X11_within
theorem dX8_refusal_0 : decode cX8_refusal 0 = .ok (.aload_n 0, 1) := by decide +kernel
theorem dX8_refusal_1 : decode cX8_refusal 1 = .ok (.iload_n 1, 1) := by decide +kernel
theorem dX8_refusal_2 : decode cX8_refusal 2 = .ok (.invokevirtual 36, 3) := by decide +kernel
theorem dX8_refusal_5 : decode cX8_refusal 5 = .ok (.ifCond .ne 5, 3) := by decide +kernel
theorem dX8_refusal_8 : decode cX8_refusal 8 = .ok (.iconst (-1), 1) := by decide +kernel
theorem dX8_refusal_9 : decode cX8_refusal 9 = .ok (.ireturn, 1) := by decide +kernel
theorem dX8_refusal_10 : decode cX8_refusal 10 = .ok (.aload_n 0, 1) := by decide +kernel
theorem dX8_refusal_11 : decode cX8_refusal 11 = .ok (.iload_n 1, 1) := by decide +kernel
theorem dX8_refusal_12 : decode cX8_refusal 12 = .ok (.invokevirtual 40, 3) := by decide +kernel
theorem dX8_refusal_15 : decode cX8_refusal 15 = .ok (.ifCond .eq 6, 3) := by decide +kernel
theorem dX8_refusal_18 : decode cX8_refusal 18 = .ok (.bipush (-11), 2) := by decide +kernel
theorem dX8_refusal_20 : decode cX8_refusal 20 = .ok (.ireturn, 1) := by decide +kernel
theorem dX8_refusal_21 : decode cX8_refusal 21 = .ok (.aload_n 0, 1) := by decide +kernel
theorem dX8_refusal_22 : decode cX8_refusal 22 = .ok (.getfield 11, 3) := by decide +kernel
theorem dX8_refusal_25 : decode cX8_refusal 25 = .ok (.iload_n 1, 1) := by decide +kernel
theorem dX8_refusal_26 : decode cX8_refusal 26 = .ok (.iaload, 1) := by decide +kernel
theorem dX8_refusal_27 : decode cX8_refusal 27 = .ok (.iconst 5, 1) := by decide +kernel
theorem dX8_refusal_28 : decode cX8_refusal 28 = .ok (.if_icmp .ne 6, 3) := by decide +kernel
theorem dX8_refusal_31 : decode cX8_refusal 31 = .ok (.bipush (-12), 2) := by decide +kernel
theorem dX8_refusal_33 : decode cX8_refusal 33 = .ok (.ireturn, 1) := by decide +kernel
theorem dX8_refusal_34 : decode cX8_refusal 34 = .ok (.iload_n 2, 1) := by decide +kernel
theorem dX8_refusal_35 : decode cX8_refusal 35 = .ok (.iconst 0, 1) := by decide +kernel
theorem dX8_refusal_36 : decode cX8_refusal 36 = .ok (.aload_n 0, 1) := by decide +kernel
theorem dX8_refusal_37 : decode cX8_refusal 37 = .ok (.getfield 15, 3) := by decide +kernel
theorem dX8_refusal_40 : decode cX8_refusal 40 = .ok (.iload_n 1, 1) := by decide +kernel
theorem dX8_refusal_41 : decode cX8_refusal 41 = .ok (.iaload, 1) := by decide +kernel
theorem dX8_refusal_42 : decode cX8_refusal 42 = .ok (.iconst 1, 1) := by decide +kernel
theorem dX8_refusal_43 : decode cX8_refusal 43 = .ok (.isub, 1) := by decide +kernel
theorem dX8_refusal_44 : decode cX8_refusal 44 = .ok (.invokestatic 26, 3) := by decide +kernel
theorem dX8_refusal_47 : decode cX8_refusal 47 = .ok (.ifCond .eq 7, 3) := by decide +kernel
theorem dX8_refusal_50 : decode cX8_refusal 50 = .ok (.iconst 0, 1) := by decide +kernel
theorem dX8_refusal_51 : decode cX8_refusal 51 = .ok (.goto 5, 3) := by decide +kernel
theorem dX8_refusal_54 : decode cX8_refusal 54 = .ok (.bipush (-13), 2) := by decide +kernel
theorem dX8_refusal_56 : decode cX8_refusal 56 = .ok (.ireturn, 1) := by decide +kernel
theorem dX8_lowBits_0 : decode cX8_lowBits 0 = .ok (.aload_n 0, 1) := by decide +kernel
theorem dX8_lowBits_1 : decode cX8_lowBits 1 = .ok (.getfield 11, 3) := by decide +kernel
theorem dX8_lowBits_4 : decode cX8_lowBits 4 = .ok (.iload_n 1, 1) := by decide +kernel
theorem dX8_lowBits_5 : decode cX8_lowBits 5 = .ok (.iaload, 1) := by decide +kernel
theorem dX8_lowBits_6 : decode cX8_lowBits 6 = .ok (.tableswitch 60 0 4 #[34, 39, 44, 60, 48], 34) := by decide +kernel
theorem dX8_lowBits_40 : decode cX8_lowBits 40 = .ok (.lload_n 2, 1) := by decide +kernel
theorem dX8_lowBits_41 : decode cX8_lowBits 41 = .ok (.l2i, 1) := by decide +kernel
theorem dX8_lowBits_42 : decode cX8_lowBits 42 = .ok (.i2b, 1) := by decide +kernel
theorem dX8_lowBits_43 : decode cX8_lowBits 43 = .ok (.i2l, 1) := by decide +kernel
theorem dX8_lowBits_44 : decode cX8_lowBits 44 = .ok (.lreturn, 1) := by decide +kernel
theorem dX8_lowBits_45 : decode cX8_lowBits 45 = .ok (.lload_n 2, 1) := by decide +kernel
theorem dX8_lowBits_46 : decode cX8_lowBits 46 = .ok (.l2i, 1) := by decide +kernel
theorem dX8_lowBits_47 : decode cX8_lowBits 47 = .ok (.i2s, 1) := by decide +kernel
theorem dX8_lowBits_48 : decode cX8_lowBits 48 = .ok (.i2l, 1) := by decide +kernel
theorem dX8_lowBits_49 : decode cX8_lowBits 49 = .ok (.lreturn, 1) := by decide +kernel
theorem dX8_lowBits_50 : decode cX8_lowBits 50 = .ok (.lload_n 2, 1) := by decide +kernel
theorem dX8_lowBits_51 : decode cX8_lowBits 51 = .ok (.l2i, 1) := by decide +kernel
theorem dX8_lowBits_52 : decode cX8_lowBits 52 = .ok (.i2l, 1) := by decide +kernel
theorem dX8_lowBits_53 : decode cX8_lowBits 53 = .ok (.lreturn, 1) := by decide +kernel
theorem dX8_lowBits_54 : decode cX8_lowBits 54 = .ok (.lload_n 2, 1) := by decide +kernel
theorem dX8_lowBits_55 : decode cX8_lowBits 55 = .ok (.lconst 0, 1) := by decide +kernel
theorem dX8_lowBits_56 : decode cX8_lowBits 56 = .ok (.lcmp, 1) := by decide +kernel
theorem dX8_lowBits_57 : decode cX8_lowBits 57 = .ok (.ifCond .ne 7, 3) := by decide +kernel
theorem dX8_lowBits_60 : decode cX8_lowBits 60 = .ok (.lconst 0, 1) := by decide +kernel
theorem dX8_lowBits_61 : decode cX8_lowBits 61 = .ok (.goto 4, 3) := by decide +kernel
theorem dX8_lowBits_64 : decode cX8_lowBits 64 = .ok (.lconst 1, 1) := by decide +kernel
theorem dX8_lowBits_65 : decode cX8_lowBits 65 = .ok (.lreturn, 1) := by decide +kernel
theorem dX8_lowBits_66 : decode cX8_lowBits 66 = .ok (.lload_n 2, 1) := by decide +kernel
theorem dX8_lowBits_67 : decode cX8_lowBits 67 = .ok (.lreturn, 1) := by decide +kernel
theorem dX9_init_0 : decode cX9_init 0 = .ok (.aload_n 0, 1) := by decide +kernel
theorem dX9_init_1 : decode cX9_init 1 = .ok (.invokespecial 3, 3) := by decide +kernel
theorem dX9_init_4 : decode cX9_init 4 = .ok (.aload_n 0, 1) := by decide +kernel
theorem dX9_init_5 : decode cX9_init 5 = .ok (.bipush 6, 2) := by decide +kernel
theorem dX9_init_7 : decode cX9_init 7 = .ok (.newarray .int, 2) := by decide +kernel
theorem dX9_init_9 : decode cX9_init 9 = .ok (.putfield 9, 3) := by decide +kernel
theorem dX9_init_12 : decode cX9_init 12 = .ok (.aload_n 0, 1) := by decide +kernel
theorem dX9_init_13 : decode cX9_init 13 = .ok (.bipush 6, 2) := by decide +kernel
theorem dX9_init_15 : decode cX9_init 15 = .ok (.newarray .int, 2) := by decide +kernel
theorem dX9_init_17 : decode cX9_init 17 = .ok (.putfield 15, 3) := by decide +kernel
theorem dX9_init_20 : decode cX9_init 20 = .ok (.aload_n 0, 1) := by decide +kernel
theorem dX9_init_21 : decode cX9_init 21 = .ok (.bipush 6, 2) := by decide +kernel
theorem dX9_init_23 : decode cX9_init 23 = .ok (.newarray .int, 2) := by decide +kernel
theorem dX9_init_25 : decode cX9_init 25 = .ok (.putfield 18, 3) := by decide +kernel
theorem dX9_init_28 : decode cX9_init 28 = .ok (.aload_n 0, 1) := by decide +kernel
theorem dX9_init_29 : decode cX9_init 29 = .ok (.bipush 6, 2) := by decide +kernel
theorem dX9_init_31 : decode cX9_init 31 = .ok (.iconst 0, 1) := by decide +kernel
theorem dX9_init_32 : decode cX9_init 32 = .ok (.multianewarray 21 2, 4) := by decide +kernel
theorem dX9_init_36 : decode cX9_init 36 = .ok (.putfield 23, 3) := by decide +kernel
theorem dX9_init_39 : decode cX9_init 39 = .ok (.aload_n 0, 1) := by decide +kernel
theorem dX9_init_40 : decode cX9_init 40 = .ok (.bipush 6, 2) := by decide +kernel
theorem dX9_init_42 : decode cX9_init 42 = .ok (.newarray .int, 2) := by decide +kernel
theorem dX9_init_44 : decode cX9_init 44 = .ok (.putfield 26, 3) := by decide +kernel
theorem dX9_init_47 : decode cX9_init 47 = .ok (.aload_n 0, 1) := by decide +kernel
theorem dX9_init_48 : decode cX9_init 48 = .ok (.bipush 40, 2) := by decide +kernel
theorem dX9_init_50 : decode cX9_init 50 = .ok (.newarray .int, 2) := by decide +kernel
theorem dX9_init_52 : decode cX9_init 52 = .ok (.putfield 29, 3) := by decide +kernel
theorem dX9_init_55 : decode cX9_init 55 = .ok (.return_, 1) := by decide +kernel
set_option maxRecDepth 20000 in
theorem ggX9_isStory_X11_within : GoodIn wsX9_isStory wsX11_within := goodIn_r _ [4] (by decide +kernel) (by decide +kernel)
set_option maxRecDepth 20000 in
theorem gX9_isStory_X11_within_n36 : GoodIn wsX9_isStory (wsX11_within) := ggX9_isStory_X11_within
theorem dX9_isStory_0 : decode cX9_isStory 0 = .ok (.iload_n 1, 1) := by decide +kernel
theorem dX9_isStory_1 : decode cX9_isStory 1 = .ok (.iconst 0, 1) := by decide +kernel
theorem dX9_isStory_2 : decode cX9_isStory 2 = .ok (.aload_n 0, 1) := by decide +kernel
theorem dX9_isStory_3 : decode cX9_isStory 3 = .ok (.getfield 32, 3) := by decide +kernel
theorem dX9_isStory_6 : decode cX9_isStory 6 = .ok (.iconst 1, 1) := by decide +kernel
theorem dX9_isStory_7 : decode cX9_isStory 7 = .ok (.isub, 1) := by decide +kernel
theorem dX9_isStory_8 : decode cX9_isStory 8 = .ok (.invokestatic 36, 3) := by decide +kernel
theorem dX9_isStory_11 : decode cX9_isStory 11 = .ok (.ireturn, 1) := by decide +kernel
theorem dX9_isFull_0 : decode cX9_isFull 0 = .ok (.aload_n 0, 1) := by decide +kernel
theorem dX9_isFull_1 : decode cX9_isFull 1 = .ok (.getfield 32, 3) := by decide +kernel
theorem dX9_isFull_4 : decode cX9_isFull 4 = .ok (.aload_n 0, 1) := by decide +kernel
theorem dX9_isFull_5 : decode cX9_isFull 5 = .ok (.getfield 9, 3) := by decide +kernel
theorem dX9_isFull_8 : decode cX9_isFull 8 = .ok (.arraylength, 1) := by decide +kernel
theorem dX9_isFull_9 : decode cX9_isFull 9 = .ok (.if_icmp .ne 7, 3) := by decide +kernel
theorem dX9_isFull_12 : decode cX9_isFull 12 = .ok (.iconst 1, 1) := by decide +kernel
theorem dX9_isFull_13 : decode cX9_isFull 13 = .ok (.goto 4, 3) := by decide +kernel
theorem dX9_isFull_16 : decode cX9_isFull 16 = .ok (.iconst 0, 1) := by decide +kernel
theorem dX9_isFull_17 : decode cX9_isFull 17 = .ok (.ireturn, 1) := by decide +kernel
set_option maxRecDepth 20000 in
theorem ggX9_add_X9_isFull : GoodIn wsX9_add wsX9_isFull := goodIn_r _ [10, 2, 1, 11, 12, 13, 14, 15, 16, 17] (by decide +kernel) (by decide +kernel)
set_option maxRecDepth 20000 in
theorem gX9_add_X9_isFull : GoodIn wsX9_add (wsV RX9 40 RX9 yX9_isFull wsX9_isFull) := goodIn_app (goodIn_of _ (by decide +kernel)) ggX9_add_X9_isFull
theorem dX9_add_0 : decode cX9_add 0 = .ok (.aload_n 0, 1) := by decide +kernel
theorem dX9_add_1 : decode cX9_add 1 = .ok (.invokevirtual 40, 3) := by decide +kernel
theorem dX9_add_4 : decode cX9_add 4 = .ok (.ifCond .ne 10, 3) := by decide +kernel
theorem dX9_add_7 : decode cX9_add 7 = .ok (.iload 4, 2) := by decide +kernel
theorem dX9_add_9 : decode cX9_add 9 = .ok (.aload_n 3, 1) := by decide +kernel
theorem dX9_add_10 : decode cX9_add 10 = .ok (.arraylength, 1) := by decide +kernel
theorem dX9_add_11 : decode cX9_add 11 = .ok (.if_icmp .le 6, 3) := by decide +kernel
theorem dX9_add_14 : decode cX9_add 14 = .ok (.bipush (-3), 2) := by decide +kernel
theorem dX9_add_16 : decode cX9_add 16 = .ok (.ireturn, 1) := by decide +kernel
theorem dX9_add_17 : decode cX9_add 17 = .ok (.aload_n 0, 1) := by decide +kernel
theorem dX9_add_18 : decode cX9_add 18 = .ok (.getfield 9, 3) := by decide +kernel
theorem dX9_add_21 : decode cX9_add 21 = .ok (.aload_n 0, 1) := by decide +kernel
theorem dX9_add_22 : decode cX9_add 22 = .ok (.getfield 32, 3) := by decide +kernel
theorem dX9_add_25 : decode cX9_add 25 = .ok (.iload_n 1, 1) := by decide +kernel
theorem dX9_add_26 : decode cX9_add 26 = .ok (.iastore, 1) := by decide +kernel
theorem dX9_add_27 : decode cX9_add 27 = .ok (.aload_n 0, 1) := by decide +kernel
theorem dX9_add_28 : decode cX9_add 28 = .ok (.getfield 15, 3) := by decide +kernel
theorem dX9_add_31 : decode cX9_add 31 = .ok (.aload_n 0, 1) := by decide +kernel
theorem dX9_add_32 : decode cX9_add 32 = .ok (.getfield 32, 3) := by decide +kernel
theorem dX9_add_35 : decode cX9_add 35 = .ok (.iload_n 2, 1) := by decide +kernel
theorem dX9_add_36 : decode cX9_add 36 = .ok (.iastore, 1) := by decide +kernel
theorem dX9_add_37 : decode cX9_add 37 = .ok (.aload_n 0, 1) := by decide +kernel
theorem dX9_add_38 : decode cX9_add 38 = .ok (.getfield 23, 3) := by decide +kernel
theorem dX9_add_41 : decode cX9_add 41 = .ok (.aload_n 0, 1) := by decide +kernel
theorem dX9_add_42 : decode cX9_add 42 = .ok (.getfield 32, 3) := by decide +kernel
theorem dX9_add_45 : decode cX9_add 45 = .ok (.aload_n 3, 1) := by decide +kernel
theorem dX9_add_46 : decode cX9_add 46 = .ok (.aastore, 1) := by decide +kernel
theorem dX9_add_47 : decode cX9_add 47 = .ok (.aload_n 0, 1) := by decide +kernel
theorem dX9_add_48 : decode cX9_add 48 = .ok (.getfield 26, 3) := by decide +kernel
theorem dX9_add_51 : decode cX9_add 51 = .ok (.aload_n 0, 1) := by decide +kernel
theorem dX9_add_52 : decode cX9_add 52 = .ok (.getfield 32, 3) := by decide +kernel
theorem dX9_add_55 : decode cX9_add 55 = .ok (.iload 4, 2) := by decide +kernel
theorem dX9_add_57 : decode cX9_add 57 = .ok (.iastore, 1) := by decide +kernel
theorem dX9_add_58 : decode cX9_add 58 = .ok (.aload_n 0, 1) := by decide +kernel
theorem dX9_add_59 : decode cX9_add 59 = .ok (.dup, 1) := by decide +kernel
theorem dX9_add_60 : decode cX9_add 60 = .ok (.getfield 32, 3) := by decide +kernel
theorem dX9_add_63 : decode cX9_add 63 = .ok (.dup_x1, 1) := by decide +kernel
theorem dX9_add_64 : decode cX9_add 64 = .ok (.iconst 1, 1) := by decide +kernel
theorem dX9_add_65 : decode cX9_add 65 = .ok (.iadd, 1) := by decide +kernel
theorem dX9_add_66 : decode cX9_add 66 = .ok (.putfield 32, 3) := by decide +kernel
theorem dX9_add_69 : decode cX9_add 69 = .ok (.ireturn, 1) := by decide +kernel
set_option maxRecDepth 20000 in
theorem ggX9_weigh_X9_valueOf : GoodIn wsX9_weigh wsX9_valueOf := goodIn_r _ [15, 16, 17, 18, 19, 14, 20, 21, 22, 23, 24, 25, 26, 27, 28, 29, 30, 31, 32, 33] (by decide +kernel) (by decide +kernel)
set_option maxRecDepth 20000 in
theorem gX9_weigh_X9_valueOf : GoodIn wsX9_weigh (wsV RX9 44 RX9 yX9_valueOf wsX9_valueOf) := goodIn_app (goodIn_of _ (by decide +kernel)) ggX9_weigh_X9_valueOf
theorem dX9_weigh_0 : decode cX9_weigh 0 = .ok (.aload_n 0, 1) := by decide +kernel
theorem dX9_weigh_1 : decode cX9_weigh 1 = .ok (.getfield 18, 3) := by decide +kernel
theorem dX9_weigh_4 : decode cX9_weigh 4 = .ok (.iload_n 1, 1) := by decide +kernel
theorem dX9_weigh_5 : decode cX9_weigh 5 = .ok (.iconst 0, 1) := by decide +kernel
theorem dX9_weigh_6 : decode cX9_weigh 6 = .ok (.aload_n 0, 1) := by decide +kernel
theorem dX9_weigh_7 : decode cX9_weigh 7 = .ok (.aload_n 0, 1) := by decide +kernel
theorem dX9_weigh_8 : decode cX9_weigh 8 = .ok (.getfield 23, 3) := by decide +kernel
theorem dX9_weigh_11 : decode cX9_weigh 11 = .ok (.iload_n 1, 1) := by decide +kernel
theorem dX9_weigh_12 : decode cX9_weigh 12 = .ok (.aaload, 1) := by decide +kernel
theorem dX9_weigh_13 : decode cX9_weigh 13 = .ok (.aload_n 0, 1) := by decide +kernel
theorem dX9_weigh_14 : decode cX9_weigh 14 = .ok (.getfield 26, 3) := by decide +kernel
theorem dX9_weigh_17 : decode cX9_weigh 17 = .ok (.iload_n 1, 1) := by decide +kernel
theorem dX9_weigh_18 : decode cX9_weigh 18 = .ok (.iaload, 1) := by decide +kernel
theorem dX9_weigh_19 : decode cX9_weigh 19 = .ok (.aload_n 2, 1) := by decide +kernel
theorem dX9_weigh_20 : decode cX9_weigh 20 = .ok (.invokevirtual 44, 3) := by decide +kernel
theorem dX9_weigh_23 : decode cX9_weigh 23 = .ok (.sipush 9999, 3) := by decide +kernel
theorem dX9_weigh_26 : decode cX9_weigh 26 = .ok (.invokestatic 48, 3) := by decide +kernel
theorem dX9_weigh_29 : decode cX9_weigh 29 = .ok (.invokestatic 54, 3) := by decide +kernel
theorem dX9_weigh_32 : decode cX9_weigh 32 = .ok (.iastore, 1) := by decide +kernel
theorem dX9_weigh_33 : decode cX9_weigh 33 = .ok (.return_, 1) := by decide +kernel
set_option maxRecDepth 20000 in
theorem ggX9_valueOf_X9_work : GoodIn wsX9_valueOf wsX9_work := goodIn_r _ [6, 1, 7, 8, 9, 10, 11, 5, 12, 13, 14, 15, 16, 17, 18, 19] (by decide +kernel) (by decide +kernel)
set_option maxRecDepth 20000 in
theorem gX9_valueOf_X9_work : GoodIn wsX9_valueOf (wsV RX9 57 RX9 yX9_work wsX9_work) := goodIn_app (goodIn_of _ (by decide +kernel)) ggX9_valueOf_X9_work
theorem dX9_valueOf_0 : decode cX9_valueOf 0 = .ok (.iconst 0, 1) := by decide +kernel
theorem dX9_valueOf_1 : decode cX9_valueOf 1 = .ok (.istore 4, 2) := by decide +kernel
theorem dX9_valueOf_3 : decode cX9_valueOf 3 = .ok (.iconst 0, 1) := by decide +kernel
theorem dX9_valueOf_4 : decode cX9_valueOf 4 = .ok (.istore 5, 2) := by decide +kernel
theorem dX9_valueOf_6 : decode cX9_valueOf 6 = .ok (.iconst 0, 1) := by decide +kernel
theorem dX9_valueOf_7 : decode cX9_valueOf 7 = .ok (.istore 6, 2) := by decide +kernel
theorem dX9_valueOf_9 : decode cX9_valueOf 9 = .ok (.iload 6, 2) := by decide +kernel
theorem dX9_valueOf_11 : decode cX9_valueOf 11 = .ok (.iload_n 2, 1) := by decide +kernel
theorem dX9_valueOf_12 : decode cX9_valueOf 12 = .ok (.if_icmp .ge 140, 3) := by decide +kernel
theorem dX9_valueOf_15 : decode cX9_valueOf 15 = .ok (.aload_n 1, 1) := by decide +kernel
theorem dX9_valueOf_16 : decode cX9_valueOf 16 = .ok (.iload 6, 2) := by decide +kernel
theorem dX9_valueOf_18 : decode cX9_valueOf 18 = .ok (.iaload, 1) := by decide +kernel
theorem dX9_valueOf_19 : decode cX9_valueOf 19 = .ok (.istore 7, 2) := by decide +kernel
theorem dX9_valueOf_21 : decode cX9_valueOf 21 = .ok (.iload 5, 2) := by decide +kernel
theorem dX9_valueOf_23 : decode cX9_valueOf 23 = .ok (.ifCond .eq 20, 3) := by decide +kernel
theorem dX9_valueOf_26 : decode cX9_valueOf 26 = .ok (.iload 7, 2) := by decide +kernel
theorem dX9_valueOf_28 : decode cX9_valueOf 28 = .ok (.bipush (-59), 2) := by decide +kernel
theorem dX9_valueOf_30 : decode cX9_valueOf 30 = .ok (.if_icmp .eq 7, 3) := by decide +kernel
theorem dX9_valueOf_33 : decode cX9_valueOf 33 = .ok (.iconst 1, 1) := by decide +kernel
theorem dX9_valueOf_34 : decode cX9_valueOf 34 = .ok (.goto 4, 3) := by decide +kernel
theorem dX9_valueOf_37 : decode cX9_valueOf 37 = .ok (.iconst 0, 1) := by decide +kernel
theorem dX9_valueOf_38 : decode cX9_valueOf 38 = .ok (.istore 5, 2) := by decide +kernel
theorem dX9_valueOf_40 : decode cX9_valueOf 40 = .ok (.goto 106, 3) := by decide +kernel
theorem dX9_valueOf_43 : decode cX9_valueOf 43 = .ok (.iload 7, 2) := by decide +kernel
theorem dX9_valueOf_45 : decode cX9_valueOf 45 = .ok (.bipush (-59), 2) := by decide +kernel
theorem dX9_valueOf_47 : decode cX9_valueOf 47 = .ok (.if_icmp .ne 10, 3) := by decide +kernel
theorem dX9_valueOf_50 : decode cX9_valueOf 50 = .ok (.aload_n 0, 1) := by decide +kernel
theorem dX9_valueOf_51 : decode cX9_valueOf 51 = .ok (.getfield 29, 3) := by decide +kernel
theorem dX9_valueOf_54 : decode cX9_valueOf 54 = .ok (.iconst 0, 1) := by decide +kernel
theorem dX9_valueOf_55 : decode cX9_valueOf 55 = .ok (.iaload, 1) := by decide +kernel
theorem dX9_valueOf_56 : decode cX9_valueOf 56 = .ok (.ireturn, 1) := by decide +kernel
theorem dX9_valueOf_57 : decode cX9_valueOf 57 = .ok (.iload 7, 2) := by decide +kernel
theorem dX9_valueOf_59 : decode cX9_valueOf 59 = .ok (.bipush (-63), 2) := by decide +kernel
theorem dX9_valueOf_61 : decode cX9_valueOf 61 = .ok (.if_icmp .ne 25, 3) := by decide +kernel
theorem dX9_valueOf_64 : decode cX9_valueOf 64 = .ok (.aload_n 0, 1) := by decide +kernel
theorem dX9_valueOf_65 : decode cX9_valueOf 65 = .ok (.getfield 29, 3) := by decide +kernel
theorem dX9_valueOf_68 : decode cX9_valueOf 68 = .ok (.iconst 0, 1) := by decide +kernel
theorem dX9_valueOf_69 : decode cX9_valueOf 69 = .ok (.iaload, 1) := by decide +kernel
theorem dX9_valueOf_70 : decode cX9_valueOf 70 = .ok (.ifCond .ne 7, 3) := by decide +kernel
theorem dX9_valueOf_73 : decode cX9_valueOf 73 = .ok (.iconst 1, 1) := by decide +kernel
theorem dX9_valueOf_74 : decode cX9_valueOf 74 = .ok (.goto 4, 3) := by decide +kernel
theorem dX9_valueOf_77 : decode cX9_valueOf 77 = .ok (.iconst 0, 1) := by decide +kernel
theorem dX9_valueOf_78 : decode cX9_valueOf 78 = .ok (.istore 5, 2) := by decide +kernel
theorem dX9_valueOf_80 : decode cX9_valueOf 80 = .ok (.iconst 0, 1) := by decide +kernel
theorem dX9_valueOf_81 : decode cX9_valueOf 81 = .ok (.istore 4, 2) := by decide +kernel
theorem dX9_valueOf_83 : decode cX9_valueOf 83 = .ok (.goto 63, 3) := by decide +kernel
theorem dX9_valueOf_86 : decode cX9_valueOf 86 = .ok (.iload 7, 2) := by decide +kernel
theorem dX9_valueOf_88 : decode cX9_valueOf 88 = .ok (.aload_n 3, 1) := by decide +kernel
theorem dX9_valueOf_89 : decode cX9_valueOf 89 = .ok (.arraylength, 1) := by decide +kernel
theorem dX9_valueOf_90 : decode cX9_valueOf 90 = .ok (.ineg, 1) := by decide +kernel
theorem dX9_valueOf_91 : decode cX9_valueOf 91 = .ok (.if_icmp .lt 44, 3) := by decide +kernel
theorem dX9_valueOf_94 : decode cX9_valueOf 94 = .ok (.iload 4, 2) := by decide +kernel
theorem dX9_valueOf_96 : decode cX9_valueOf 96 = .ok (.aload_n 0, 1) := by decide +kernel
theorem dX9_valueOf_97 : decode cX9_valueOf 97 = .ok (.getfield 29, 3) := by decide +kernel
theorem dX9_valueOf_100 : decode cX9_valueOf 100 = .ok (.arraylength, 1) := by decide +kernel
theorem dX9_valueOf_101 : decode cX9_valueOf 101 = .ok (.if_icmp .ne 5, 3) := by decide +kernel
theorem dX9_valueOf_104 : decode cX9_valueOf 104 = .ok (.iconst 0, 1) := by decide +kernel
theorem dX9_valueOf_105 : decode cX9_valueOf 105 = .ok (.ireturn, 1) := by decide +kernel
theorem dX9_valueOf_106 : decode cX9_valueOf 106 = .ok (.aload_n 0, 1) := by decide +kernel
theorem dX9_valueOf_107 : decode cX9_valueOf 107 = .ok (.getfield 29, 3) := by decide +kernel
theorem dX9_valueOf_110 : decode cX9_valueOf 110 = .ok (.iload 4, 2) := by decide +kernel
theorem dX9_valueOf_112 : decode cX9_valueOf 112 = .ok (.iload 7, 2) := by decide +kernel
theorem dX9_valueOf_114 : decode cX9_valueOf 114 = .ok (.ifCond .lt 8, 3) := by decide +kernel
theorem dX9_valueOf_117 : decode cX9_valueOf 117 = .ok (.iload 7, 2) := by decide +kernel
theorem dX9_valueOf_119 : decode cX9_valueOf 119 = .ok (.goto 9, 3) := by decide +kernel
theorem dX9_valueOf_122 : decode cX9_valueOf 122 = .ok (.aload_n 3, 1) := by decide +kernel
theorem dX9_valueOf_123 : decode cX9_valueOf 123 = .ok (.iconst (-1), 1) := by decide +kernel
theorem dX9_valueOf_124 : decode cX9_valueOf 124 = .ok (.iload 7, 2) := by decide +kernel
theorem dX9_valueOf_126 : decode cX9_valueOf 126 = .ok (.isub, 1) := by decide +kernel
theorem dX9_valueOf_127 : decode cX9_valueOf 127 = .ok (.iaload, 1) := by decide +kernel
theorem dX9_valueOf_128 : decode cX9_valueOf 128 = .ok (.iastore, 1) := by decide +kernel
theorem dX9_valueOf_129 : decode cX9_valueOf 129 = .ok (.iinc 4 1, 3) := by decide +kernel
theorem dX9_valueOf_132 : decode cX9_valueOf 132 = .ok (.goto 14, 3) := by decide +kernel
theorem dX9_valueOf_135 : decode cX9_valueOf 135 = .ok (.aload_n 0, 1) := by decide +kernel
theorem dX9_valueOf_136 : decode cX9_valueOf 136 = .ok (.iload 7, 2) := by decide +kernel
theorem dX9_valueOf_138 : decode cX9_valueOf 138 = .ok (.ineg, 1) := by decide +kernel
theorem dX9_valueOf_139 : decode cX9_valueOf 139 = .ok (.iload 4, 2) := by decide +kernel
theorem dX9_valueOf_141 : decode cX9_valueOf 141 = .ok (.invokevirtual 57, 3) := by decide +kernel
theorem dX9_valueOf_144 : decode cX9_valueOf 144 = .ok (.istore 4, 2) := by decide +kernel
theorem dX9_valueOf_146 : decode cX9_valueOf 146 = .ok (.iinc 6 1, 3) := by decide +kernel
theorem dX9_valueOf_149 : decode cX9_valueOf 149 = .ok (.goto (-140), 3) := by decide +kernel
theorem dX9_valueOf_152 : decode cX9_valueOf 152 = .ok (.iconst 0, 1) := by decide +kernel
theorem dX9_valueOf_153 : decode cX9_valueOf 153 = .ok (.ireturn, 1) := by decide +kernel
set_option maxRecDepth 20000 in
theorem ggX9_work_X11_asBit : GoodIn wsX9_work wsX11_asBit := goodIn_r _ [4] (by decide +kernel) (by decide +kernel)
set_option maxRecDepth 20000 in
theorem gX9_work_X11_asBit_n60 : GoodIn wsX9_work (wsX11_asBit) := ggX9_work_X11_asBit
set_option maxRecDepth 20000 in
theorem ggX9_work_X9_joined : GoodIn wsX9_work wsX9_joined := goodIn_r _ [8, 2, 3, 4] (by decide +kernel) (by decide +kernel)
set_option maxRecDepth 20000 in
theorem gX9_work_X9_joined : GoodIn wsX9_work (va_wsS RX9 66 yX9_joined wsX9_joined) := goodIn_app (goodIn_of _ (by decide +kernel)) ggX9_work_X9_joined
theorem dX9_work_0 : decode cX9_work 0 = .ok (.iload_n 2, 1) := by decide +kernel
theorem dX9_work_1 : decode cX9_work 1 = .ok (.iconst 1, 1) := by decide +kernel
theorem dX9_work_2 : decode cX9_work 2 = .ok (.if_icmp .lt 38, 3) := by decide +kernel
theorem dX9_work_5 : decode cX9_work 5 = .ok (.iload_n 1, 1) := by decide +kernel
theorem dX9_work_6 : decode cX9_work 6 = .ok (.bipush 33, 2) := by decide +kernel
theorem dX9_work_8 : decode cX9_work 8 = .ok (.if_icmp .ne 32, 3) := by decide +kernel
theorem dX9_work_11 : decode cX9_work 11 = .ok (.aload_n 0, 1) := by decide +kernel
theorem dX9_work_12 : decode cX9_work 12 = .ok (.getfield 29, 3) := by decide +kernel
theorem dX9_work_15 : decode cX9_work 15 = .ok (.iload_n 2, 1) := by decide +kernel
theorem dX9_work_16 : decode cX9_work 16 = .ok (.iconst 1, 1) := by decide +kernel
theorem dX9_work_17 : decode cX9_work 17 = .ok (.isub, 1) := by decide +kernel
theorem dX9_work_18 : decode cX9_work 18 = .ok (.aload_n 0, 1) := by decide +kernel
theorem dX9_work_19 : decode cX9_work 19 = .ok (.getfield 29, 3) := by decide +kernel
theorem dX9_work_22 : decode cX9_work 22 = .ok (.iload_n 2, 1) := by decide +kernel
theorem dX9_work_23 : decode cX9_work 23 = .ok (.iconst 1, 1) := by decide +kernel
theorem dX9_work_24 : decode cX9_work 24 = .ok (.isub, 1) := by decide +kernel
theorem dX9_work_25 : decode cX9_work 25 = .ok (.iaload, 1) := by decide +kernel
theorem dX9_work_26 : decode cX9_work 26 = .ok (.ifCond .ne 7, 3) := by decide +kernel
theorem dX9_work_29 : decode cX9_work 29 = .ok (.iconst 1, 1) := by decide +kernel
theorem dX9_work_30 : decode cX9_work 30 = .ok (.goto 4, 3) := by decide +kernel
theorem dX9_work_33 : decode cX9_work 33 = .ok (.iconst 0, 1) := by decide +kernel
theorem dX9_work_34 : decode cX9_work 34 = .ok (.invokestatic 60, 3) := by decide +kernel
theorem dX9_work_37 : decode cX9_work 37 = .ok (.iastore, 1) := by decide +kernel
theorem dX9_work_38 : decode cX9_work 38 = .ok (.iload_n 2, 1) := by decide +kernel
theorem dX9_work_39 : decode cX9_work 39 = .ok (.ireturn, 1) := by decide +kernel
theorem dX9_work_40 : decode cX9_work 40 = .ok (.iload_n 2, 1) := by decide +kernel
theorem dX9_work_41 : decode cX9_work 41 = .ok (.iconst 1, 1) := by decide +kernel
theorem dX9_work_42 : decode cX9_work 42 = .ok (.if_icmp .lt 28, 3) := by decide +kernel
theorem dX9_work_45 : decode cX9_work 45 = .ok (.iload_n 1, 1) := by decide +kernel
theorem dX9_work_46 : decode cX9_work 46 = .ok (.bipush 126, 2) := by decide +kernel
theorem dX9_work_48 : decode cX9_work 48 = .ok (.if_icmp .ne 22, 3) := by decide +kernel
theorem dX9_work_51 : decode cX9_work 51 = .ok (.aload_n 0, 1) := by decide +kernel
theorem dX9_work_52 : decode cX9_work 52 = .ok (.getfield 29, 3) := by decide +kernel
theorem dX9_work_55 : decode cX9_work 55 = .ok (.iload_n 2, 1) := by decide +kernel
theorem dX9_work_56 : decode cX9_work 56 = .ok (.iconst 1, 1) := by decide +kernel
theorem dX9_work_57 : decode cX9_work 57 = .ok (.isub, 1) := by decide +kernel
theorem dX9_work_58 : decode cX9_work 58 = .ok (.aload_n 0, 1) := by decide +kernel
theorem dX9_work_59 : decode cX9_work 59 = .ok (.getfield 29, 3) := by decide +kernel
theorem dX9_work_62 : decode cX9_work 62 = .ok (.iload_n 2, 1) := by decide +kernel
theorem dX9_work_63 : decode cX9_work 63 = .ok (.iconst 1, 1) := by decide +kernel
theorem dX9_work_64 : decode cX9_work 64 = .ok (.isub, 1) := by decide +kernel
theorem dX9_work_65 : decode cX9_work 65 = .ok (.iaload, 1) := by decide +kernel
theorem dX9_work_66 : decode cX9_work 66 = .ok (.ineg, 1) := by decide +kernel
theorem dX9_work_67 : decode cX9_work 67 = .ok (.iastore, 1) := by decide +kernel
theorem dX9_work_68 : decode cX9_work 68 = .ok (.iload_n 2, 1) := by decide +kernel
theorem dX9_work_69 : decode cX9_work 69 = .ok (.ireturn, 1) := by decide +kernel
theorem dX9_work_70 : decode cX9_work 70 = .ok (.iload_n 2, 1) := by decide +kernel
theorem dX9_work_71 : decode cX9_work 71 = .ok (.iconst 2, 1) := by decide +kernel
theorem dX9_work_72 : decode cX9_work 72 = .ok (.if_icmp .lt 35, 3) := by decide +kernel
theorem dX9_work_75 : decode cX9_work 75 = .ok (.aload_n 0, 1) := by decide +kernel
theorem dX9_work_76 : decode cX9_work 76 = .ok (.getfield 29, 3) := by decide +kernel
theorem dX9_work_79 : decode cX9_work 79 = .ok (.iload_n 2, 1) := by decide +kernel
theorem dX9_work_80 : decode cX9_work 80 = .ok (.iconst 2, 1) := by decide +kernel
theorem dX9_work_81 : decode cX9_work 81 = .ok (.isub, 1) := by decide +kernel
theorem dX9_work_82 : decode cX9_work 82 = .ok (.iload_n 1, 1) := by decide +kernel
theorem dX9_work_83 : decode cX9_work 83 = .ok (.aload_n 0, 1) := by decide +kernel
theorem dX9_work_84 : decode cX9_work 84 = .ok (.getfield 29, 3) := by decide +kernel
theorem dX9_work_87 : decode cX9_work 87 = .ok (.iload_n 2, 1) := by decide +kernel
theorem dX9_work_88 : decode cX9_work 88 = .ok (.iconst 2, 1) := by decide +kernel
theorem dX9_work_89 : decode cX9_work 89 = .ok (.isub, 1) := by decide +kernel
theorem dX9_work_90 : decode cX9_work 90 = .ok (.iaload, 1) := by decide +kernel
theorem dX9_work_91 : decode cX9_work 91 = .ok (.aload_n 0, 1) := by decide +kernel
theorem dX9_work_92 : decode cX9_work 92 = .ok (.getfield 29, 3) := by decide +kernel
theorem dX9_work_95 : decode cX9_work 95 = .ok (.iload_n 2, 1) := by decide +kernel
theorem dX9_work_96 : decode cX9_work 96 = .ok (.iconst 1, 1) := by decide +kernel
theorem dX9_work_97 : decode cX9_work 97 = .ok (.isub, 1) := by decide +kernel
theorem dX9_work_98 : decode cX9_work 98 = .ok (.iaload, 1) := by decide +kernel
theorem dX9_work_99 : decode cX9_work 99 = .ok (.invokestatic 66, 3) := by decide +kernel
theorem dX9_work_102 : decode cX9_work 102 = .ok (.iastore, 1) := by decide +kernel
theorem dX9_work_103 : decode cX9_work 103 = .ok (.iload_n 2, 1) := by decide +kernel
theorem dX9_work_104 : decode cX9_work 104 = .ok (.iconst 1, 1) := by decide +kernel
theorem dX9_work_105 : decode cX9_work 105 = .ok (.isub, 1) := by decide +kernel
theorem dX9_work_106 : decode cX9_work 106 = .ok (.ireturn, 1) := by decide +kernel
theorem dX9_work_107 : decode cX9_work 107 = .ok (.iload_n 2, 1) := by decide +kernel
theorem dX9_work_108 : decode cX9_work 108 = .ok (.ireturn, 1) := by decide +kernel
set_option maxRecDepth 20000 in
theorem ggX9_joined_X11_asBit : GoodIn wsX9_joined wsX11_asBit := goodIn_r _ [3] (by decide +kernel) (by decide +kernel)
set_option maxRecDepth 20000 in
theorem gX9_joined_X11_asBit_n60 : GoodIn wsX9_joined (wsX11_asBit) := ggX9_joined_X11_asBit
theorem dX9_joined_0 : decode cX9_joined 0 = .ok (.iload_n 0, 1) := by decide +kernel
theorem dX9_joined_1 : decode cX9_joined 1 = .ok (.lookupswitch 203 #[(37, 191), (38, 108), (42, 175), (43, 167), (45, 171), (47, 179), (60, 125), (61, 139), (62, 153), (124, 91)], 91) := by decide +kernel
theorem dX9_joined_92 : decode cX9_joined 92 = .ok (.iload_n 1, 1) := by decide +kernel
theorem dX9_joined_93 : decode cX9_joined 93 = .ok (.ifCond .ne 7, 3) := by decide +kernel
theorem dX9_joined_96 : decode cX9_joined 96 = .ok (.iload_n 2, 1) := by decide +kernel
theorem dX9_joined_97 : decode cX9_joined 97 = .ok (.ifCond .eq 7, 3) := by decide +kernel
theorem dX9_joined_100 : decode cX9_joined 100 = .ok (.iconst 1, 1) := by decide +kernel
theorem dX9_joined_101 : decode cX9_joined 101 = .ok (.goto 4, 3) := by decide +kernel
theorem dX9_joined_104 : decode cX9_joined 104 = .ok (.iconst 0, 1) := by decide +kernel
theorem dX9_joined_105 : decode cX9_joined 105 = .ok (.invokestatic 60, 3) := by decide +kernel
theorem dX9_joined_108 : decode cX9_joined 108 = .ok (.ireturn, 1) := by decide +kernel
theorem dX9_joined_109 : decode cX9_joined 109 = .ok (.iload_n 1, 1) := by decide +kernel
theorem dX9_joined_110 : decode cX9_joined 110 = .ok (.ifCond .eq 11, 3) := by decide +kernel
theorem dX9_joined_113 : decode cX9_joined 113 = .ok (.iload_n 2, 1) := by decide +kernel
theorem dX9_joined_114 : decode cX9_joined 114 = .ok (.ifCond .eq 7, 3) := by decide +kernel
theorem dX9_joined_117 : decode cX9_joined 117 = .ok (.iconst 1, 1) := by decide +kernel
theorem dX9_joined_118 : decode cX9_joined 118 = .ok (.goto 4, 3) := by decide +kernel
theorem dX9_joined_121 : decode cX9_joined 121 = .ok (.iconst 0, 1) := by decide +kernel
theorem dX9_joined_122 : decode cX9_joined 122 = .ok (.invokestatic 60, 3) := by decide +kernel
theorem dX9_joined_125 : decode cX9_joined 125 = .ok (.ireturn, 1) := by decide +kernel
theorem dX9_joined_126 : decode cX9_joined 126 = .ok (.iload_n 1, 1) := by decide +kernel
theorem dX9_joined_127 : decode cX9_joined 127 = .ok (.iload_n 2, 1) := by decide +kernel
theorem dX9_joined_128 : decode cX9_joined 128 = .ok (.if_icmp .ge 7, 3) := by decide +kernel
theorem dX9_joined_131 : decode cX9_joined 131 = .ok (.iconst 1, 1) := by decide +kernel
theorem dX9_joined_132 : decode cX9_joined 132 = .ok (.goto 4, 3) := by decide +kernel
theorem dX9_joined_135 : decode cX9_joined 135 = .ok (.iconst 0, 1) := by decide +kernel
theorem dX9_joined_136 : decode cX9_joined 136 = .ok (.invokestatic 60, 3) := by decide +kernel
theorem dX9_joined_139 : decode cX9_joined 139 = .ok (.ireturn, 1) := by decide +kernel
theorem dX9_joined_140 : decode cX9_joined 140 = .ok (.iload_n 1, 1) := by decide +kernel
theorem dX9_joined_141 : decode cX9_joined 141 = .ok (.iload_n 2, 1) := by decide +kernel
theorem dX9_joined_142 : decode cX9_joined 142 = .ok (.if_icmp .ne 7, 3) := by decide +kernel
theorem dX9_joined_145 : decode cX9_joined 145 = .ok (.iconst 1, 1) := by decide +kernel
theorem dX9_joined_146 : decode cX9_joined 146 = .ok (.goto 4, 3) := by decide +kernel
theorem dX9_joined_149 : decode cX9_joined 149 = .ok (.iconst 0, 1) := by decide +kernel
theorem dX9_joined_150 : decode cX9_joined 150 = .ok (.invokestatic 60, 3) := by decide +kernel
theorem dX9_joined_153 : decode cX9_joined 153 = .ok (.ireturn, 1) := by decide +kernel
theorem dX9_joined_154 : decode cX9_joined 154 = .ok (.iload_n 1, 1) := by decide +kernel
theorem dX9_joined_155 : decode cX9_joined 155 = .ok (.iload_n 2, 1) := by decide +kernel
theorem dX9_joined_156 : decode cX9_joined 156 = .ok (.if_icmp .le 7, 3) := by decide +kernel
theorem dX9_joined_159 : decode cX9_joined 159 = .ok (.iconst 1, 1) := by decide +kernel
theorem dX9_joined_160 : decode cX9_joined 160 = .ok (.goto 4, 3) := by decide +kernel
theorem dX9_joined_163 : decode cX9_joined 163 = .ok (.iconst 0, 1) := by decide +kernel
theorem dX9_joined_164 : decode cX9_joined 164 = .ok (.invokestatic 60, 3) := by decide +kernel
theorem dX9_joined_167 : decode cX9_joined 167 = .ok (.ireturn, 1) := by decide +kernel
theorem dX9_joined_168 : decode cX9_joined 168 = .ok (.iload_n 1, 1) := by decide +kernel
theorem dX9_joined_169 : decode cX9_joined 169 = .ok (.iload_n 2, 1) := by decide +kernel
theorem dX9_joined_170 : decode cX9_joined 170 = .ok (.iadd, 1) := by decide +kernel
theorem dX9_joined_171 : decode cX9_joined 171 = .ok (.ireturn, 1) := by decide +kernel
theorem dX9_joined_172 : decode cX9_joined 172 = .ok (.iload_n 1, 1) := by decide +kernel
theorem dX9_joined_173 : decode cX9_joined 173 = .ok (.iload_n 2, 1) := by decide +kernel
theorem dX9_joined_174 : decode cX9_joined 174 = .ok (.isub, 1) := by decide +kernel
theorem dX9_joined_175 : decode cX9_joined 175 = .ok (.ireturn, 1) := by decide +kernel
theorem dX9_joined_176 : decode cX9_joined 176 = .ok (.iload_n 1, 1) := by decide +kernel
theorem dX9_joined_177 : decode cX9_joined 177 = .ok (.iload_n 2, 1) := by decide +kernel
theorem dX9_joined_178 : decode cX9_joined 178 = .ok (.imul, 1) := by decide +kernel
theorem dX9_joined_179 : decode cX9_joined 179 = .ok (.ireturn, 1) := by decide +kernel
theorem dX9_joined_180 : decode cX9_joined 180 = .ok (.iload_n 2, 1) := by decide +kernel
theorem dX9_joined_181 : decode cX9_joined 181 = .ok (.ifCond .ne 7, 3) := by decide +kernel
theorem dX9_joined_184 : decode cX9_joined 184 = .ok (.iconst 0, 1) := by decide +kernel
theorem dX9_joined_185 : decode cX9_joined 185 = .ok (.goto 6, 3) := by decide +kernel
theorem dX9_joined_188 : decode cX9_joined 188 = .ok (.iload_n 1, 1) := by decide +kernel
theorem dX9_joined_189 : decode cX9_joined 189 = .ok (.iload_n 2, 1) := by decide +kernel
theorem dX9_joined_190 : decode cX9_joined 190 = .ok (.idiv, 1) := by decide +kernel
theorem dX9_joined_191 : decode cX9_joined 191 = .ok (.ireturn, 1) := by decide +kernel
theorem dX9_joined_192 : decode cX9_joined 192 = .ok (.iload_n 2, 1) := by decide +kernel
theorem dX9_joined_193 : decode cX9_joined 193 = .ok (.ifCond .ne 7, 3) := by decide +kernel
theorem dX9_joined_196 : decode cX9_joined 196 = .ok (.iconst 0, 1) := by decide +kernel
theorem dX9_joined_197 : decode cX9_joined 197 = .ok (.goto 6, 3) := by decide +kernel
theorem dX9_joined_200 : decode cX9_joined 200 = .ok (.iload_n 1, 1) := by decide +kernel
theorem dX9_joined_201 : decode cX9_joined 201 = .ok (.iload_n 2, 1) := by decide +kernel
theorem dX9_joined_202 : decode cX9_joined 202 = .ok (.irem, 1) := by decide +kernel
theorem dX9_joined_203 : decode cX9_joined 203 = .ok (.ireturn, 1) := by decide +kernel
theorem dX9_joined_204 : decode cX9_joined 204 = .ok (.iconst 0, 1) := by decide +kernel
theorem dX9_joined_205 : decode cX9_joined 205 = .ok (.ireturn, 1) := by decide +kernel
theorem dX9_oddsOf_0 : decode cX9_oddsOf 0 = .ok (.iconst 0, 1) := by decide +kernel
theorem dX9_oddsOf_1 : decode cX9_oddsOf 1 = .ok (.istore_n 2, 1) := by decide +kernel
theorem dX9_oddsOf_2 : decode cX9_oddsOf 2 = .ok (.iconst 0, 1) := by decide +kernel
theorem dX9_oddsOf_3 : decode cX9_oddsOf 3 = .ok (.istore_n 3, 1) := by decide +kernel
theorem dX9_oddsOf_4 : decode cX9_oddsOf 4 = .ok (.iload_n 3, 1) := by decide +kernel
theorem dX9_oddsOf_5 : decode cX9_oddsOf 5 = .ok (.aload_n 0, 1) := by decide +kernel
theorem dX9_oddsOf_6 : decode cX9_oddsOf 6 = .ok (.getfield 32, 3) := by decide +kernel
theorem dX9_oddsOf_9 : decode cX9_oddsOf 9 = .ok (.if_icmp .ge 25, 3) := by decide +kernel
theorem dX9_oddsOf_12 : decode cX9_oddsOf 12 = .ok (.iload_n 2, 1) := by decide +kernel
theorem dX9_oddsOf_13 : decode cX9_oddsOf 13 = .ok (.aload_n 0, 1) := by decide +kernel
theorem dX9_oddsOf_14 : decode cX9_oddsOf 14 = .ok (.getfield 15, 3) := by decide +kernel
theorem dX9_oddsOf_17 : decode cX9_oddsOf 17 = .ok (.iload_n 3, 1) := by decide +kernel
theorem dX9_oddsOf_18 : decode cX9_oddsOf 18 = .ok (.iaload, 1) := by decide +kernel
theorem dX9_oddsOf_19 : decode cX9_oddsOf 19 = .ok (.aload_n 0, 1) := by decide +kernel
theorem dX9_oddsOf_20 : decode cX9_oddsOf 20 = .ok (.getfield 18, 3) := by decide +kernel
theorem dX9_oddsOf_23 : decode cX9_oddsOf 23 = .ok (.iload_n 3, 1) := by decide +kernel
theorem dX9_oddsOf_24 : decode cX9_oddsOf 24 = .ok (.iaload, 1) := by decide +kernel
theorem dX9_oddsOf_25 : decode cX9_oddsOf 25 = .ok (.imul, 1) := by decide +kernel
theorem dX9_oddsOf_26 : decode cX9_oddsOf 26 = .ok (.iadd, 1) := by decide +kernel
theorem dX9_oddsOf_27 : decode cX9_oddsOf 27 = .ok (.istore_n 2, 1) := by decide +kernel
theorem dX9_oddsOf_28 : decode cX9_oddsOf 28 = .ok (.iinc 3 1, 3) := by decide +kernel
theorem dX9_oddsOf_31 : decode cX9_oddsOf 31 = .ok (.goto (-27), 3) := by decide +kernel
theorem dX9_oddsOf_34 : decode cX9_oddsOf 34 = .ok (.iload_n 2, 1) := by decide +kernel
theorem dX9_oddsOf_35 : decode cX9_oddsOf 35 = .ok (.ifCond .ne 8, 3) := by decide +kernel
theorem dX9_oddsOf_38 : decode cX9_oddsOf 38 = .ok (.bipush (-2), 2) := by decide +kernel
theorem dX9_oddsOf_40 : decode cX9_oddsOf 40 = .ok (.goto 22, 3) := by decide +kernel
theorem dX9_oddsOf_43 : decode cX9_oddsOf 43 = .ok (.aload_n 0, 1) := by decide +kernel
theorem dX9_oddsOf_44 : decode cX9_oddsOf 44 = .ok (.getfield 15, 3) := by decide +kernel
theorem dX9_oddsOf_47 : decode cX9_oddsOf 47 = .ok (.iload_n 1, 1) := by decide +kernel
theorem dX9_oddsOf_48 : decode cX9_oddsOf 48 = .ok (.iaload, 1) := by decide +kernel
theorem dX9_oddsOf_49 : decode cX9_oddsOf 49 = .ok (.aload_n 0, 1) := by decide +kernel
theorem dX9_oddsOf_50 : decode cX9_oddsOf 50 = .ok (.getfield 18, 3) := by decide +kernel
theorem dX9_oddsOf_53 : decode cX9_oddsOf 53 = .ok (.iload_n 1, 1) := by decide +kernel
theorem dX9_oddsOf_54 : decode cX9_oddsOf 54 = .ok (.iaload, 1) := by decide +kernel
theorem dX9_oddsOf_55 : decode cX9_oddsOf 55 = .ok (.imul, 1) := by decide +kernel
theorem dX9_oddsOf_56 : decode cX9_oddsOf 56 = .ok (.sipush 1000, 3) := by decide +kernel
theorem dX9_oddsOf_59 : decode cX9_oddsOf 59 = .ok (.imul, 1) := by decide +kernel
theorem dX9_oddsOf_60 : decode cX9_oddsOf 60 = .ok (.iload_n 2, 1) := by decide +kernel
theorem dX9_oddsOf_61 : decode cX9_oddsOf 61 = .ok (.idiv, 1) := by decide +kernel
theorem dX9_oddsOf_62 : decode cX9_oddsOf 62 = .ok (.ireturn, 1) := by decide +kernel
theorem dX9_bestOne_0 : decode cX9_bestOne 0 = .ok (.iconst 0, 1) := by decide +kernel
theorem dX9_bestOne_1 : decode cX9_bestOne 1 = .ok (.istore_n 1, 1) := by decide +kernel
theorem dX9_bestOne_2 : decode cX9_bestOne 2 = .ok (.iconst 1, 1) := by decide +kernel
theorem dX9_bestOne_3 : decode cX9_bestOne 3 = .ok (.istore_n 2, 1) := by decide +kernel
theorem dX9_bestOne_4 : decode cX9_bestOne 4 = .ok (.iload_n 2, 1) := by decide +kernel
theorem dX9_bestOne_5 : decode cX9_bestOne 5 = .ok (.aload_n 0, 1) := by decide +kernel
theorem dX9_bestOne_6 : decode cX9_bestOne 6 = .ok (.getfield 32, 3) := by decide +kernel
theorem dX9_bestOne_9 : decode cX9_bestOne 9 = .ok (.if_icmp .ge 40, 3) := by decide +kernel
theorem dX9_bestOne_12 : decode cX9_bestOne 12 = .ok (.aload_n 0, 1) := by decide +kernel
theorem dX9_bestOne_13 : decode cX9_bestOne 13 = .ok (.getfield 15, 3) := by decide +kernel
theorem dX9_bestOne_16 : decode cX9_bestOne 16 = .ok (.iload_n 2, 1) := by decide +kernel
theorem dX9_bestOne_17 : decode cX9_bestOne 17 = .ok (.iaload, 1) := by decide +kernel
theorem dX9_bestOne_18 : decode cX9_bestOne 18 = .ok (.aload_n 0, 1) := by decide +kernel
theorem dX9_bestOne_19 : decode cX9_bestOne 19 = .ok (.getfield 18, 3) := by decide +kernel
theorem dX9_bestOne_22 : decode cX9_bestOne 22 = .ok (.iload_n 2, 1) := by decide +kernel
theorem dX9_bestOne_23 : decode cX9_bestOne 23 = .ok (.iaload, 1) := by decide +kernel
theorem dX9_bestOne_24 : decode cX9_bestOne 24 = .ok (.imul, 1) := by decide +kernel
theorem dX9_bestOne_25 : decode cX9_bestOne 25 = .ok (.aload_n 0, 1) := by decide +kernel
theorem dX9_bestOne_26 : decode cX9_bestOne 26 = .ok (.getfield 15, 3) := by decide +kernel
theorem dX9_bestOne_29 : decode cX9_bestOne 29 = .ok (.iload_n 1, 1) := by decide +kernel
theorem dX9_bestOne_30 : decode cX9_bestOne 30 = .ok (.iaload, 1) := by decide +kernel
theorem dX9_bestOne_31 : decode cX9_bestOne 31 = .ok (.aload_n 0, 1) := by decide +kernel
theorem dX9_bestOne_32 : decode cX9_bestOne 32 = .ok (.getfield 18, 3) := by decide +kernel
theorem dX9_bestOne_35 : decode cX9_bestOne 35 = .ok (.iload_n 1, 1) := by decide +kernel
theorem dX9_bestOne_36 : decode cX9_bestOne 36 = .ok (.iaload, 1) := by decide +kernel
theorem dX9_bestOne_37 : decode cX9_bestOne 37 = .ok (.imul, 1) := by decide +kernel
theorem dX9_bestOne_38 : decode cX9_bestOne 38 = .ok (.if_icmp .le 5, 3) := by decide +kernel
theorem dX9_bestOne_41 : decode cX9_bestOne 41 = .ok (.iload_n 2, 1) := by decide +kernel
theorem dX9_bestOne_42 : decode cX9_bestOne 42 = .ok (.istore_n 1, 1) := by decide +kernel
theorem dX9_bestOne_43 : decode cX9_bestOne 43 = .ok (.iinc 2 1, 3) := by decide +kernel
theorem dX9_bestOne_46 : decode cX9_bestOne 46 = .ok (.goto (-42), 3) := by decide +kernel
theorem dX9_bestOne_49 : decode cX9_bestOne 49 = .ok (.iload_n 1, 1) := by decide +kernel
theorem dX9_bestOne_50 : decode cX9_bestOne 50 = .ok (.ireturn, 1) := by decide +kernel
theorem dX10_init_0 : decode cX10_init 0 = .ok (.aload_n 0, 1) := by decide +kernel
theorem dX10_init_1 : decode cX10_init 1 = .ok (.invokespecial 3, 3) := by decide +kernel
theorem dX10_init_4 : decode cX10_init 4 = .ok (.aload_n 0, 1) := by decide +kernel
theorem dX10_init_5 : decode cX10_init 5 = .ok (.bipush 64, 2) := by decide +kernel
theorem dX10_init_7 : decode cX10_init 7 = .ok (.newarray .byte, 2) := by decide +kernel
theorem dX10_init_9 : decode cX10_init 9 = .ok (.putfield 9, 3) := by decide +kernel
theorem dX10_init_12 : decode cX10_init 12 = .ok (.aload_n 0, 1) := by decide +kernel
theorem dX10_init_13 : decode cX10_init 13 = .ok (.iconst 0, 1) := by decide +kernel
theorem dX10_init_14 : decode cX10_init 14 = .ok (.newarray .int, 2) := by decide +kernel
theorem dX10_init_16 : decode cX10_init 16 = .ok (.putfield 15, 3) := by decide +kernel
theorem dX10_init_19 : decode cX10_init 19 = .ok (.return_, 1) := by decide +kernel
set_option maxRecDepth 20000 in
theorem ggX10_take_J7_copyOf_9075b : GoodIn wsX10_take wsJ7_copyOf_9075b := goodIn_r _ [6, 7, 8, 9, 10, 11, 12, 13, 14, 15, 16, 17, 18, 19, 20, 21] (by decide +kernel) (by decide +kernel)
set_option maxRecDepth 20000 in
theorem gX10_take_J7_copyOf_9075b : GoodIn wsX10_take (va_wsS RX10 23 yJ7_copyOf_9075b wsJ7_copyOf_9075b) := goodIn_app (goodIn_of _ (by decide +kernel)) ggX10_take_J7_copyOf_9075b
theorem dX10_take_0 : decode cX10_take 0 = .ok (.aload_n 0, 1) := by decide +kernel
theorem dX10_take_1 : decode cX10_take 1 = .ok (.getfield 19, 3) := by decide +kernel
theorem dX10_take_4 : decode cX10_take 4 = .ok (.iload_n 1, 1) := by decide +kernel
theorem dX10_take_5 : decode cX10_take 5 = .ok (.iadd, 1) := by decide +kernel
theorem dX10_take_6 : decode cX10_take 6 = .ok (.sipush 2048, 3) := by decide +kernel
theorem dX10_take_9 : decode cX10_take 9 = .ok (.if_icmp .le 6, 3) := by decide +kernel
theorem dX10_take_12 : decode cX10_take 12 = .ok (.bipush (-3), 2) := by decide +kernel
theorem dX10_take_14 : decode cX10_take 14 = .ok (.ireturn, 1) := by decide +kernel
theorem dX10_take_15 : decode cX10_take 15 = .ok (.aload_n 0, 1) := by decide +kernel
theorem dX10_take_16 : decode cX10_take 16 = .ok (.getfield 19, 3) := by decide +kernel
theorem dX10_take_19 : decode cX10_take 19 = .ok (.iload_n 1, 1) := by decide +kernel
theorem dX10_take_20 : decode cX10_take 20 = .ok (.iadd, 1) := by decide +kernel
theorem dX10_take_21 : decode cX10_take 21 = .ok (.aload_n 0, 1) := by decide +kernel
theorem dX10_take_22 : decode cX10_take 22 = .ok (.getfield 9, 3) := by decide +kernel
theorem dX10_take_25 : decode cX10_take 25 = .ok (.arraylength, 1) := by decide +kernel
theorem dX10_take_26 : decode cX10_take 26 = .ok (.if_icmp .le 21, 3) := by decide +kernel
theorem dX10_take_29 : decode cX10_take 29 = .ok (.aload_n 0, 1) := by decide +kernel
theorem dX10_take_30 : decode cX10_take 30 = .ok (.aload_n 0, 1) := by decide +kernel
theorem dX10_take_31 : decode cX10_take 31 = .ok (.getfield 9, 3) := by decide +kernel
theorem dX10_take_34 : decode cX10_take 34 = .ok (.iconst 2, 1) := by decide +kernel
theorem dX10_take_35 : decode cX10_take 35 = .ok (.aload_n 0, 1) := by decide +kernel
theorem dX10_take_36 : decode cX10_take 36 = .ok (.getfield 9, 3) := by decide +kernel
theorem dX10_take_39 : decode cX10_take 39 = .ok (.arraylength, 1) := by decide +kernel
theorem dX10_take_40 : decode cX10_take 40 = .ok (.imul, 1) := by decide +kernel
theorem dX10_take_41 : decode cX10_take 41 = .ok (.invokestatic 23, 3) := by decide +kernel
theorem dX10_take_44 : decode cX10_take 44 = .ok (.putfield 9, 3) := by decide +kernel
theorem dX10_take_47 : decode cX10_take 47 = .ok (.iconst 0, 1) := by decide +kernel
theorem dX10_take_48 : decode cX10_take 48 = .ok (.istore_n 3, 1) := by decide +kernel
theorem dX10_take_49 : decode cX10_take 49 = .ok (.iload_n 3, 1) := by decide +kernel
theorem dX10_take_50 : decode cX10_take 50 = .ok (.iload_n 1, 1) := by decide +kernel
theorem dX10_take_51 : decode cX10_take 51 = .ok (.if_icmp .ge 35, 3) := by decide +kernel
theorem dX10_take_54 : decode cX10_take 54 = .ok (.aload_n 0, 1) := by decide +kernel
theorem dX10_take_55 : decode cX10_take 55 = .ok (.getfield 9, 3) := by decide +kernel
theorem dX10_take_58 : decode cX10_take 58 = .ok (.aload_n 0, 1) := by decide +kernel
theorem dX10_take_59 : decode cX10_take 59 = .ok (.getfield 19, 3) := by decide +kernel
theorem dX10_take_62 : decode cX10_take 62 = .ok (.iload_n 2, 1) := by decide +kernel
theorem dX10_take_63 : decode cX10_take 63 = .ok (.bipush 8, 2) := by decide +kernel
theorem dX10_take_65 : decode cX10_take 65 = .ok (.iload_n 3, 1) := by decide +kernel
theorem dX10_take_66 : decode cX10_take 66 = .ok (.imul, 1) := by decide +kernel
theorem dX10_take_67 : decode cX10_take 67 = .ok (.ishr, 1) := by decide +kernel
theorem dX10_take_68 : decode cX10_take 68 = .ok (.i2b, 1) := by decide +kernel
theorem dX10_take_69 : decode cX10_take 69 = .ok (.bastore, 1) := by decide +kernel
theorem dX10_take_70 : decode cX10_take 70 = .ok (.aload_n 0, 1) := by decide +kernel
theorem dX10_take_71 : decode cX10_take 71 = .ok (.dup, 1) := by decide +kernel
theorem dX10_take_72 : decode cX10_take 72 = .ok (.getfield 19, 3) := by decide +kernel
theorem dX10_take_75 : decode cX10_take 75 = .ok (.iconst 1, 1) := by decide +kernel
theorem dX10_take_76 : decode cX10_take 76 = .ok (.iadd, 1) := by decide +kernel
theorem dX10_take_77 : decode cX10_take 77 = .ok (.putfield 19, 3) := by decide +kernel
theorem dX10_take_80 : decode cX10_take 80 = .ok (.iinc 3 1, 3) := by decide +kernel
theorem dX10_take_83 : decode cX10_take 83 = .ok (.goto (-34), 3) := by decide +kernel
theorem dX10_take_86 : decode cX10_take 86 = .ok (.aload_n 0, 1) := by decide +kernel
theorem dX10_take_87 : decode cX10_take 87 = .ok (.getfield 19, 3) := by decide +kernel
theorem dX10_take_90 : decode cX10_take 90 = .ok (.ireturn, 1) := by decide +kernel
set_option maxRecDepth 20000 in
theorem ggX10_read_X10_readLine : GoodIn wsX10_read wsX10_readLine := goodIn_r _ [10, 11, 12, 13, 9, 14, 3, 1, 15, 16, 17, 18, 19, 20, 21, 22, 23, 24, 25, 26, 27, 28, 29, 2, 5, 30, 31, 32, 33, 34, 35, 36, 37, 38, 39, 40, 41, 42, 43, 44, 45, 46, 47, 48, 49, 50, 51, 52, 53, 54, 55, 56, 57, 58, 59, 60, 61, 62, 63, 64, 65, 66, 67, 68, 69, 70, 71, 72, 73, 74, 75, 76, 77, 78, 79, 80, 81, 82, 83, 84, 85, 86, 87, 88, 89, 90, 91, 92, 93, 94, 95, 96, 97, 98, 99, 100, 101, 102, 103, 104, 105, 106, 107, 108, 109, 110, 111, 112, 113, 114, 115, 116, 117, 118, 119, 120, 121, 122, 123, 124, 125, 126, 127, 128, 129, 130, 131, 132, 133, 134, 135] (by decide +kernel) (by decide +kernel)
set_option maxRecDepth 20000 in
theorem gX10_read_X10_readLine : GoodIn wsX10_read (wsV RX10 35 RX10 yX10_readLine wsX10_readLine) := goodIn_app (goodIn_of _ (by decide +kernel)) ggX10_read_X10_readLine
set_option maxRecDepth 20000 in
theorem ggX10_read_X10_takes : GoodIn wsX10_read wsX10_takes := goodIn_r _ [130, 1, 18, 19, 20, 9, 21, 3, 22, 131, 132, 133, 134, 135] (by decide +kernel) (by decide +kernel)
set_option maxRecDepth 20000 in
theorem gX10_read_X10_takes : GoodIn wsX10_read (wsV RX10 39 RX10 yX10_takes wsX10_takes) := goodIn_app (goodIn_of _ (by decide +kernel)) ggX10_read_X10_takes
theorem dX10_read_0 : decode cX10_read 0 = .ok (.aload_n 0, 1) := by decide +kernel
theorem dX10_read_1 : decode cX10_read 1 = .ok (.iconst 0, 1) := by decide +kernel
theorem dX10_read_2 : decode cX10_read 2 = .ok (.putfield 29, 3) := by decide +kernel
theorem dX10_read_5 : decode cX10_read 5 = .ok (.aload_n 0, 1) := by decide +kernel
theorem dX10_read_6 : decode cX10_read 6 = .ok (.iconst 0, 1) := by decide +kernel
theorem dX10_read_7 : decode cX10_read 7 = .ok (.putfield 32, 3) := by decide +kernel
theorem dX10_read_10 : decode cX10_read 10 = .ok (.aload_n 0, 1) := by decide +kernel
theorem dX10_read_11 : decode cX10_read 11 = .ok (.aload_n 0, 1) := by decide +kernel
theorem dX10_read_12 : decode cX10_read 12 = .ok (.getfield 19, 3) := by decide +kernel
theorem dX10_read_15 : decode cX10_read 15 = .ok (.iconst 1, 1) := by decide +kernel
theorem dX10_read_16 : decode cX10_read 16 = .ok (.iadd, 1) := by decide +kernel
theorem dX10_read_17 : decode cX10_read 17 = .ok (.newarray .int, 2) := by decide +kernel
theorem dX10_read_19 : decode cX10_read 19 = .ok (.putfield 15, 3) := by decide +kernel
theorem dX10_read_22 : decode cX10_read 22 = .ok (.iconst 0, 1) := by decide +kernel
theorem dX10_read_23 : decode cX10_read 23 = .ok (.istore_n 1, 1) := by decide +kernel
theorem dX10_read_24 : decode cX10_read 24 = .ok (.iload_n 1, 1) := by decide +kernel
theorem dX10_read_25 : decode cX10_read 25 = .ok (.aload_n 0, 1) := by decide +kernel
theorem dX10_read_26 : decode cX10_read 26 = .ok (.getfield 19, 3) := by decide +kernel
theorem dX10_read_29 : decode cX10_read 29 = .ok (.if_icmp .gt 42, 3) := by decide +kernel
theorem dX10_read_32 : decode cX10_read 32 = .ok (.aload_n 0, 1) := by decide +kernel
theorem dX10_read_33 : decode cX10_read 33 = .ok (.invokevirtual 35, 3) := by decide +kernel
theorem dX10_read_36 : decode cX10_read 36 = .ok (.ifCond .ne 5, 3) := by decide +kernel
theorem dX10_read_39 : decode cX10_read 39 = .ok (.iconst 0, 1) := by decide +kernel
theorem dX10_read_40 : decode cX10_read 40 = .ok (.ireturn, 1) := by decide +kernel
theorem dX10_read_41 : decode cX10_read 41 = .ok (.aload_n 0, 1) := by decide +kernel
theorem dX10_read_42 : decode cX10_read 42 = .ok (.getfield 29, 3) := by decide +kernel
theorem dX10_read_45 : decode cX10_read 45 = .ok (.aload_n 0, 1) := by decide +kernel
theorem dX10_read_46 : decode cX10_read 46 = .ok (.getfield 19, 3) := by decide +kernel
theorem dX10_read_49 : decode cX10_read 49 = .ok (.if_icmp .ne 5, 3) := by decide +kernel
theorem dX10_read_52 : decode cX10_read 52 = .ok (.iconst 1, 1) := by decide +kernel
theorem dX10_read_53 : decode cX10_read 53 = .ok (.ireturn, 1) := by decide +kernel
theorem dX10_read_54 : decode cX10_read 54 = .ok (.aload_n 0, 1) := by decide +kernel
theorem dX10_read_55 : decode cX10_read 55 = .ok (.bipush 59, 2) := by decide +kernel
theorem dX10_read_57 : decode cX10_read 57 = .ok (.invokevirtual 39, 3) := by decide +kernel
theorem dX10_read_60 : decode cX10_read 60 = .ok (.ifCond .ne 5, 3) := by decide +kernel
theorem dX10_read_63 : decode cX10_read 63 = .ok (.iconst 0, 1) := by decide +kernel
theorem dX10_read_64 : decode cX10_read 64 = .ok (.ireturn, 1) := by decide +kernel
theorem dX10_read_65 : decode cX10_read 65 = .ok (.iinc 1 1, 3) := by decide +kernel
theorem dX10_read_68 : decode cX10_read 68 = .ok (.goto (-44), 3) := by decide +kernel
theorem dX10_read_71 : decode cX10_read 71 = .ok (.iconst 0, 1) := by decide +kernel
theorem dX10_read_72 : decode cX10_read 72 = .ok (.ireturn, 1) := by decide +kernel
set_option maxRecDepth 20000 in
theorem ggX10_readLine_X10_readLevel : GoodIn wsX10_readLine wsX10_readLevel := goodIn_r _ [5, 6, 7, 8, 9, 10, 4, 1, 2, 3, 11, 12, 13, 14, 15, 16, 17, 18, 19, 20, 21, 22, 23, 24, 25, 26, 27, 28, 29, 30, 31, 32, 33, 34, 35, 36, 37, 38, 39, 40, 41, 42, 43, 44, 45, 46, 47, 48, 49, 50, 51, 52, 53, 54, 55, 56, 57, 58, 59, 60, 61, 62, 63, 64, 65, 66, 67, 68, 69, 70, 71, 72, 73, 74, 75, 76, 77, 78, 79, 80, 81, 82, 83, 84, 85, 86, 87, 88, 89, 90, 91, 92, 93, 94, 95, 96, 97, 98, 99, 100, 101, 102, 103, 104, 105, 106, 107, 108, 109, 110, 111, 112, 113, 114, 115, 116, 117, 118, 119, 120, 121, 122, 123, 124, 125, 126, 127, 128, 129, 130] (by decide +kernel) (by decide +kernel)
set_option maxRecDepth 20000 in
theorem gX10_readLine_X10_readLevel : GoodIn wsX10_readLine (wsV RX10 43 RX10 yX10_readLevel wsX10_readLevel) := goodIn_app (goodIn_of _ (by decide +kernel)) ggX10_readLine_X10_readLevel
set_option maxRecDepth 20000 in
theorem ggX10_readLine_X10_takes : GoodIn wsX10_readLine wsX10_takes := goodIn_r _ [125, 7, 11, 12, 13, 4, 14, 6, 15, 126, 127, 128, 129, 130] (by decide +kernel) (by decide +kernel)
set_option maxRecDepth 20000 in
theorem gX10_readLine_X10_takes : GoodIn wsX10_readLine (wsV RX10 39 RX10 yX10_takes wsX10_takes) := goodIn_app (goodIn_of _ (by decide +kernel)) ggX10_readLine_X10_takes
set_option maxRecDepth 20000 in
theorem ggX10_readLine_X10_step : GoodIn wsX10_readLine wsX10_step := goodIn_r _ [22, 23, 24, 126, 127, 128, 129, 130] (by decide +kernel) (by decide +kernel)
set_option maxRecDepth 20000 in
theorem gX10_readLine_X10_step : GoodIn wsX10_readLine (wsV RX10 47 RX10 yX10_step wsX10_step) := goodIn_app (goodIn_of _ (by decide +kernel)) ggX10_readLine_X10_step
theorem dX10_readLine_0 : decode cX10_readLine 0 = .ok (.aload_n 0, 1) := by decide +kernel
theorem dX10_readLine_1 : decode cX10_readLine 1 = .ok (.iconst 0, 1) := by decide +kernel
theorem dX10_readLine_2 : decode cX10_readLine 2 = .ok (.iconst 0, 1) := by decide +kernel
theorem dX10_readLine_3 : decode cX10_readLine 3 = .ok (.invokevirtual 43, 3) := by decide +kernel
theorem dX10_readLine_6 : decode cX10_readLine 6 = .ok (.ifCond .ne 5, 3) := by decide +kernel
theorem dX10_readLine_9 : decode cX10_readLine 9 = .ok (.iconst 0, 1) := by decide +kernel
theorem dX10_readLine_10 : decode cX10_readLine 10 = .ok (.ireturn, 1) := by decide +kernel
theorem dX10_readLine_11 : decode cX10_readLine 11 = .ok (.aload_n 0, 1) := by decide +kernel
theorem dX10_readLine_12 : decode cX10_readLine 12 = .ok (.bipush 63, 2) := by decide +kernel
theorem dX10_readLine_14 : decode cX10_readLine 14 = .ok (.invokevirtual 39, 3) := by decide +kernel
theorem dX10_readLine_17 : decode cX10_readLine 17 = .ok (.ifCond .eq 20, 3) := by decide +kernel
theorem dX10_readLine_20 : decode cX10_readLine 20 = .ok (.aload_n 0, 1) := by decide +kernel
theorem dX10_readLine_21 : decode cX10_readLine 21 = .ok (.bipush (-63), 2) := by decide +kernel
theorem dX10_readLine_23 : decode cX10_readLine 23 = .ok (.invokevirtual 47, 3) := by decide +kernel
theorem dX10_readLine_26 : decode cX10_readLine 26 = .ok (.aload_n 0, 1) := by decide +kernel
theorem dX10_readLine_27 : decode cX10_readLine 27 = .ok (.iconst 0, 1) := by decide +kernel
theorem dX10_readLine_28 : decode cX10_readLine 28 = .ok (.iconst 0, 1) := by decide +kernel
theorem dX10_readLine_29 : decode cX10_readLine 29 = .ok (.invokevirtual 43, 3) := by decide +kernel
theorem dX10_readLine_32 : decode cX10_readLine 32 = .ok (.ifCond .ne 5, 3) := by decide +kernel
theorem dX10_readLine_35 : decode cX10_readLine 35 = .ok (.iconst 0, 1) := by decide +kernel
theorem dX10_readLine_36 : decode cX10_readLine 36 = .ok (.ireturn, 1) := by decide +kernel
theorem dX10_readLine_37 : decode cX10_readLine 37 = .ok (.aload_n 0, 1) := by decide +kernel
theorem dX10_readLine_38 : decode cX10_readLine 38 = .ok (.bipush (-59), 2) := by decide +kernel
theorem dX10_readLine_40 : decode cX10_readLine 40 = .ok (.invokevirtual 47, 3) := by decide +kernel
theorem dX10_readLine_43 : decode cX10_readLine 43 = .ok (.iconst 1, 1) := by decide +kernel
theorem dX10_readLine_44 : decode cX10_readLine 44 = .ok (.ireturn, 1) := by decide +kernel
set_option maxRecDepth 20000 in
theorem ggX10_readLevel_X10_readOperand : GoodIn wsX10_readLevel wsX10_readOperand := goodIn_r _ [24, 2, 10, 11, 12, 6, 13, 1, 14, 25, 26, 27, 28, 29, 30, 31, 18, 19, 20, 21, 22, 23, 32, 33, 34, 35, 36, 37, 38, 39, 40, 41, 42, 43, 44, 45, 46, 47, 48, 49, 50, 51, 52, 53, 54, 55, 56, 57, 58, 59, 60, 61, 62, 63, 64, 65, 66, 67, 68, 69, 70, 71, 72, 73, 74, 75, 76, 77, 78, 79, 80, 81, 82, 83, 84, 85, 86, 87, 88, 89, 90, 91, 92, 93, 94, 95, 96, 97, 98, 99, 100, 101, 102, 103, 104, 105, 106, 107, 108, 109, 110, 111, 112, 113, 114, 115, 116, 117, 118, 119, 120, 7, 8, 9, 121, 122, 123, 124, 3, 4, 5, 0, 15, 16, 17, 125, 126, 127, 128, 129] (by decide +kernel) (by decide +kernel)
set_option maxRecDepth 20000 in
theorem gX10_readLevel_X10_readOperand : GoodIn wsX10_readLevel (wsV RX10 51 RX10 yX10_readOperand wsX10_readOperand) := goodIn_app (goodIn_of _ (by decide +kernel)) ggX10_readLevel_X10_readOperand
set_option maxRecDepth 20000 in
theorem ggX10_readLevel_X10_readLevel : GoodIn wsX10_readLevel wsX10_readLevel := goodIn_r _ [0, 1, 2, 3, 4, 5, 6, 7, 8, 9, 10, 11, 12, 13, 14, 15, 16, 17, 18, 19, 20, 21, 22, 23, 24, 25, 26, 27, 28, 29, 30, 31, 32, 33, 34, 35, 36, 37, 38, 39, 40, 41, 42, 43, 44, 45, 46, 47, 48, 49, 50, 51, 52, 53, 54, 55, 56, 57, 58, 59, 60, 61, 62, 63, 64, 65, 66, 67, 68, 69, 70, 71, 72, 73, 74, 75, 76, 77, 78, 79, 80, 81, 82, 83, 84, 85, 86, 87, 88, 89, 90, 91, 92, 93, 94, 95, 96, 97, 98, 99, 100, 101, 102, 103, 104, 105, 106, 107, 108, 109, 110, 111, 112, 113, 114, 115, 116, 117, 118, 119, 120, 121, 122, 123, 124, 125, 126, 127, 128, 129] (by decide +kernel) (by decide +kernel)
set_option maxRecDepth 20000 in
theorem gX10_readLevel_X10_readLevel : GoodIn wsX10_readLevel (wsV RX10 43 RX10 yX10_readLevel wsX10_readLevel) := goodIn_app (goodIn_of _ (by decide +kernel)) ggX10_readLevel_X10_readLevel
set_option maxRecDepth 20000 in
theorem ggX10_readLevel_X10_sign : GoodIn wsX10_readLevel wsX10_sign := goodIn_r _ [13, 2, 1, 14, 125, 126, 127, 128, 129] (by decide +kernel) (by decide +kernel)
set_option maxRecDepth 20000 in
theorem gX10_readLevel_X10_sign : GoodIn wsX10_readLevel (wsV RX10 54 RX10 yX10_sign wsX10_sign) := goodIn_app (goodIn_of _ (by decide +kernel)) ggX10_readLevel_X10_sign
set_option maxRecDepth 20000 in
theorem ggX10_readLevel_X10_levelOf : GoodIn wsX10_readLevel wsX10_levelOf := goodIn_r _ [17] (by decide +kernel) (by decide +kernel)
set_option maxRecDepth 20000 in
theorem gX10_readLevel_X10_levelOf : GoodIn wsX10_readLevel (va_wsS RX10 58 yX10_levelOf wsX10_levelOf) := goodIn_app (goodIn_of _ (by decide +kernel)) ggX10_readLevel_X10_levelOf
set_option maxRecDepth 20000 in
theorem ggX10_readLevel_X10_step : GoodIn wsX10_readLevel wsX10_step := goodIn_r _ [21, 22, 23, 125, 126, 127, 128, 129] (by decide +kernel) (by decide +kernel)
set_option maxRecDepth 20000 in
theorem gX10_readLevel_X10_step : GoodIn wsX10_readLevel (wsV RX10 47 RX10 yX10_step wsX10_step) := goodIn_app (goodIn_of _ (by decide +kernel)) ggX10_readLevel_X10_step
theorem dX10_readLevel_0 : decode cX10_readLevel 0 = .ok (.iload_n 1, 1) := by decide +kernel
theorem dX10_readLevel_1 : decode cX10_readLevel 1 = .ok (.iconst 4, 1) := by decide +kernel
theorem dX10_readLevel_2 : decode cX10_readLevel 2 = .ok (.if_icmp .le 9, 3) := by decide +kernel
theorem dX10_readLevel_5 : decode cX10_readLevel 5 = .ok (.aload_n 0, 1) := by decide +kernel
theorem dX10_readLevel_6 : decode cX10_readLevel 6 = .ok (.iload_n 2, 1) := by decide +kernel
theorem dX10_readLevel_7 : decode cX10_readLevel 7 = .ok (.invokevirtual 51, 3) := by decide +kernel
theorem dX10_readLevel_10 : decode cX10_readLevel 10 = .ok (.ireturn, 1) := by decide +kernel
theorem dX10_readLevel_11 : decode cX10_readLevel 11 = .ok (.aload_n 0, 1) := by decide +kernel
theorem dX10_readLevel_12 : decode cX10_readLevel 12 = .ok (.iload_n 1, 1) := by decide +kernel
theorem dX10_readLevel_13 : decode cX10_readLevel 13 = .ok (.iconst 1, 1) := by decide +kernel
theorem dX10_readLevel_14 : decode cX10_readLevel 14 = .ok (.iadd, 1) := by decide +kernel
theorem dX10_readLevel_15 : decode cX10_readLevel 15 = .ok (.iload_n 2, 1) := by decide +kernel
theorem dX10_readLevel_16 : decode cX10_readLevel 16 = .ok (.invokevirtual 43, 3) := by decide +kernel
theorem dX10_readLevel_19 : decode cX10_readLevel 19 = .ok (.ifCond .ne 5, 3) := by decide +kernel
theorem dX10_readLevel_22 : decode cX10_readLevel 22 = .ok (.iconst 0, 1) := by decide +kernel
theorem dX10_readLevel_23 : decode cX10_readLevel 23 = .ok (.ireturn, 1) := by decide +kernel
theorem dX10_readLevel_24 : decode cX10_readLevel 24 = .ok (.iload_n 1, 1) := by decide +kernel
theorem dX10_readLevel_25 : decode cX10_readLevel 25 = .ok (.iconst 2, 1) := by decide +kernel
theorem dX10_readLevel_26 : decode cX10_readLevel 26 = .ok (.if_icmp .ne 7, 3) := by decide +kernel
theorem dX10_readLevel_29 : decode cX10_readLevel 29 = .ok (.iconst 1, 1) := by decide +kernel
theorem dX10_readLevel_30 : decode cX10_readLevel 30 = .ok (.goto 7, 3) := by decide +kernel
theorem dX10_readLevel_33 : decode cX10_readLevel 33 = .ok (.aload_n 0, 1) := by decide +kernel
theorem dX10_readLevel_34 : decode cX10_readLevel 34 = .ok (.getfield 19, 3) := by decide +kernel
theorem dX10_readLevel_37 : decode cX10_readLevel 37 = .ok (.istore_n 3, 1) := by decide +kernel
theorem dX10_readLevel_38 : decode cX10_readLevel 38 = .ok (.iconst 0, 1) := by decide +kernel
theorem dX10_readLevel_39 : decode cX10_readLevel 39 = .ok (.istore 4, 2) := by decide +kernel
theorem dX10_readLevel_41 : decode cX10_readLevel 41 = .ok (.iload 4, 2) := by decide +kernel
theorem dX10_readLevel_43 : decode cX10_readLevel 43 = .ok (.iload_n 3, 1) := by decide +kernel
theorem dX10_readLevel_44 : decode cX10_readLevel 44 = .ok (.if_icmp .ge 56, 3) := by decide +kernel
theorem dX10_readLevel_47 : decode cX10_readLevel 47 = .ok (.aload_n 0, 1) := by decide +kernel
theorem dX10_readLevel_48 : decode cX10_readLevel 48 = .ok (.invokevirtual 54, 3) := by decide +kernel
theorem dX10_readLevel_51 : decode cX10_readLevel 51 = .ok (.istore 5, 2) := by decide +kernel
theorem dX10_readLevel_53 : decode cX10_readLevel 53 = .ok (.iload 5, 2) := by decide +kernel
theorem dX10_readLevel_55 : decode cX10_readLevel 55 = .ok (.invokestatic 58, 3) := by decide +kernel
theorem dX10_readLevel_58 : decode cX10_readLevel 58 = .ok (.iload_n 1, 1) := by decide +kernel
theorem dX10_readLevel_59 : decode cX10_readLevel 59 = .ok (.if_icmp .eq 5, 3) := by decide +kernel
theorem dX10_readLevel_62 : decode cX10_readLevel 62 = .ok (.iconst 1, 1) := by decide +kernel
theorem dX10_readLevel_63 : decode cX10_readLevel 63 = .ok (.ireturn, 1) := by decide +kernel
theorem dX10_readLevel_64 : decode cX10_readLevel 64 = .ok (.aload_n 0, 1) := by decide +kernel
theorem dX10_readLevel_65 : decode cX10_readLevel 65 = .ok (.dup, 1) := by decide +kernel
theorem dX10_readLevel_66 : decode cX10_readLevel 66 = .ok (.getfield 29, 3) := by decide +kernel
theorem dX10_readLevel_69 : decode cX10_readLevel 69 = .ok (.iconst 1, 1) := by decide +kernel
theorem dX10_readLevel_70 : decode cX10_readLevel 70 = .ok (.iadd, 1) := by decide +kernel
theorem dX10_readLevel_71 : decode cX10_readLevel 71 = .ok (.putfield 29, 3) := by decide +kernel
theorem dX10_readLevel_74 : decode cX10_readLevel 74 = .ok (.aload_n 0, 1) := by decide +kernel
theorem dX10_readLevel_75 : decode cX10_readLevel 75 = .ok (.iload_n 1, 1) := by decide +kernel
theorem dX10_readLevel_76 : decode cX10_readLevel 76 = .ok (.iconst 1, 1) := by decide +kernel
theorem dX10_readLevel_77 : decode cX10_readLevel 77 = .ok (.iadd, 1) := by decide +kernel
theorem dX10_readLevel_78 : decode cX10_readLevel 78 = .ok (.iload_n 2, 1) := by decide +kernel
theorem dX10_readLevel_79 : decode cX10_readLevel 79 = .ok (.invokevirtual 43, 3) := by decide +kernel
theorem dX10_readLevel_82 : decode cX10_readLevel 82 = .ok (.ifCond .ne 5, 3) := by decide +kernel
theorem dX10_readLevel_85 : decode cX10_readLevel 85 = .ok (.iconst 0, 1) := by decide +kernel
theorem dX10_readLevel_86 : decode cX10_readLevel 86 = .ok (.ireturn, 1) := by decide +kernel
theorem dX10_readLevel_87 : decode cX10_readLevel 87 = .ok (.aload_n 0, 1) := by decide +kernel
theorem dX10_readLevel_88 : decode cX10_readLevel 88 = .ok (.iload 5, 2) := by decide +kernel
theorem dX10_readLevel_90 : decode cX10_readLevel 90 = .ok (.ineg, 1) := by decide +kernel
theorem dX10_readLevel_91 : decode cX10_readLevel 91 = .ok (.invokevirtual 47, 3) := by decide +kernel
theorem dX10_readLevel_94 : decode cX10_readLevel 94 = .ok (.iinc 4 1, 3) := by decide +kernel
theorem dX10_readLevel_97 : decode cX10_readLevel 97 = .ok (.goto (-56), 3) := by decide +kernel
theorem dX10_readLevel_100 : decode cX10_readLevel 100 = .ok (.iconst 1, 1) := by decide +kernel
theorem dX10_readLevel_101 : decode cX10_readLevel 101 = .ok (.ireturn, 1) := by decide +kernel
set_option maxRecDepth 20000 in
theorem ggX10_readOperand_X10_sign : GoodIn wsX10_readOperand wsX10_sign := goodIn_r _ [6, 1, 7, 8, 125, 126, 127, 128, 129] (by decide +kernel) (by decide +kernel)
set_option maxRecDepth 20000 in
theorem gX10_readOperand_X10_sign : GoodIn wsX10_readOperand (wsV RX10 54 RX10 yX10_sign wsX10_sign) := goodIn_app (goodIn_of _ (by decide +kernel)) ggX10_readOperand_X10_sign
set_option maxRecDepth 20000 in
theorem ggX10_readOperand_X10_isDigit : GoodIn wsX10_readOperand wsX10_isDigit := goodIn_r _ [11] (by decide +kernel) (by decide +kernel)
set_option maxRecDepth 20000 in
theorem gX10_readOperand_X10_isDigit : GoodIn wsX10_readOperand (va_wsS RX10 62 yX10_isDigit wsX10_isDigit) := goodIn_app (goodIn_of _ (by decide +kernel)) ggX10_readOperand_X10_isDigit
set_option maxRecDepth 20000 in
theorem ggX10_readOperand_X10_readNumber : GoodIn wsX10_readOperand wsX10_readNumber := goodIn_r _ [15, 1, 2, 3, 4, 5, 6, 7, 8, 9, 10, 11, 16, 17, 18, 19, 20, 21, 125, 126, 127, 128, 129] (by decide +kernel) (by decide +kernel)
set_option maxRecDepth 20000 in
theorem gX10_readOperand_X10_readNumber : GoodIn wsX10_readOperand (wsV RX10 65 RX10 yX10_readNumber wsX10_readNumber) := goodIn_app (goodIn_of _ (by decide +kernel)) ggX10_readOperand_X10_readNumber
set_option maxRecDepth 20000 in
theorem ggX10_readOperand_J0_indexOf_0f7a4 : GoodIn wsX10_readOperand wsJ0_indexOf_0f7a4 := goodIn_r _ [26, 27, 28, 29, 25, 30, 31, 32, 33, 34, 35, 36, 37, 38, 39, 40, 41, 42, 43, 44, 45, 46, 47, 48, 49, 50, 51, 52, 53, 54, 55, 56, 57, 58, 59, 60, 61, 62, 63, 64, 65, 66, 67, 68, 69, 70, 71, 72, 73, 74, 75, 76, 77, 78, 79, 80, 81, 82, 83, 84, 85, 86, 87, 88, 89, 90, 91, 92, 93, 94, 95, 96, 97, 98, 99, 100, 101, 102, 103, 104, 105, 106, 107, 108, 109, 110] (by decide +kernel) (by decide +kernel)
set_option maxRecDepth 20000 in
theorem gX10_readOperand_J0_indexOf_0f7a4 : GoodIn wsX10_readOperand (wsV RX10 70 RJ0 yJ0_indexOf_0f7a4 wsJ0_indexOf_0f7a4) := goodIn_app (goodIn_of _ (by decide +kernel)) ggX10_readOperand_J0_indexOf_0f7a4
set_option maxRecDepth 20000 in
theorem ggX10_readOperand_X10_step : GoodIn wsX10_readOperand wsX10_step := goodIn_r _ [19, 20, 21, 125, 126, 127, 128, 129] (by decide +kernel) (by decide +kernel)
set_option maxRecDepth 20000 in
theorem gX10_readOperand_X10_step : GoodIn wsX10_readOperand (wsV RX10 47 RX10 yX10_step wsX10_step) := goodIn_app (goodIn_of _ (by decide +kernel)) ggX10_readOperand_X10_step
set_option maxRecDepth 20000 in
theorem ggX10_readOperand_X10_readLevel : GoodIn wsX10_readOperand wsX10_readLevel := goodIn_r _ [121, 7, 1, 118, 119, 120, 5, 111, 112, 113, 2, 3, 4, 6, 8, 122, 123, 124, 16, 17, 18, 19, 20, 21, 0, 9, 10, 11, 12, 13, 14, 15, 22, 23, 24, 25, 26, 27, 28, 29, 30, 31, 32, 33, 34, 35, 36, 37, 38, 39, 40, 41, 42, 43, 44, 45, 46, 47, 48, 49, 50, 51, 52, 53, 54, 55, 56, 57, 58, 59, 60, 61, 62, 63, 64, 65, 66, 67, 68, 69, 70, 71, 72, 73, 74, 75, 76, 77, 78, 79, 80, 81, 82, 83, 84, 85, 86, 87, 88, 89, 90, 91, 92, 93, 94, 95, 96, 97, 98, 99, 100, 101, 102, 103, 104, 105, 106, 107, 108, 109, 110, 114, 115, 116, 117, 125, 126, 127, 128, 129] (by decide +kernel) (by decide +kernel)
set_option maxRecDepth 20000 in
theorem gX10_readOperand_X10_readLevel : GoodIn wsX10_readOperand (wsV RX10 43 RX10 yX10_readLevel wsX10_readLevel) := goodIn_app (goodIn_of _ (by decide +kernel)) ggX10_readOperand_X10_readLevel
set_option maxRecDepth 20000 in
theorem ggX10_readOperand_X10_takes : GoodIn wsX10_readOperand wsX10_takes := goodIn_r _ [117, 1, 2, 3, 4, 5, 6, 7, 8, 125, 126, 127, 128, 129] (by decide +kernel) (by decide +kernel)
set_option maxRecDepth 20000 in
theorem gX10_readOperand_X10_takes : GoodIn wsX10_readOperand (wsV RX10 39 RX10 yX10_takes wsX10_takes) := goodIn_app (goodIn_of _ (by decide +kernel)) ggX10_readOperand_X10_takes
set_option maxRecDepth 20000 in
theorem ggX10_readOperand_X10_readOperand : GoodIn wsX10_readOperand wsX10_readOperand := goodIn_r _ [0, 1, 2, 3, 4, 5, 6, 7, 8, 9, 10, 11, 12, 13, 14, 15, 16, 17, 18, 19, 20, 21, 22, 23, 24, 25, 26, 27, 28, 29, 30, 31, 32, 33, 34, 35, 36, 37, 38, 39, 40, 41, 42, 43, 44, 45, 46, 47, 48, 49, 50, 51, 52, 53, 54, 55, 56, 57, 58, 59, 60, 61, 62, 63, 64, 65, 66, 67, 68, 69, 70, 71, 72, 73, 74, 75, 76, 77, 78, 79, 80, 81, 82, 83, 84, 85, 86, 87, 88, 89, 90, 91, 92, 93, 94, 95, 96, 97, 98, 99, 100, 101, 102, 103, 104, 105, 106, 107, 108, 109, 110, 111, 112, 113, 114, 115, 116, 117, 118, 119, 120, 121, 122, 123, 124, 125, 126, 127, 128, 129] (by decide +kernel) (by decide +kernel)
set_option maxRecDepth 20000 in
theorem gX10_readOperand_X10_readOperand : GoodIn wsX10_readOperand (wsV RX10 51 RX10 yX10_readOperand wsX10_readOperand) := goodIn_app (goodIn_of _ (by decide +kernel)) ggX10_readOperand_X10_readOperand
theorem dX10_readOperand_0 : decode cX10_readOperand 0 = .ok (.aload_n 0, 1) := by decide +kernel
theorem dX10_readOperand_1 : decode cX10_readOperand 1 = .ok (.invokevirtual 54, 3) := by decide +kernel
theorem dX10_readOperand_4 : decode cX10_readOperand 4 = .ok (.istore_n 2, 1) := by decide +kernel
theorem dX10_readOperand_5 : decode cX10_readOperand 5 = .ok (.iload_n 2, 1) := by decide +kernel
theorem dX10_readOperand_6 : decode cX10_readOperand 6 = .ok (.invokestatic 62, 3) := by decide +kernel
theorem dX10_readOperand_9 : decode cX10_readOperand 9 = .ok (.ifCond .eq 8, 3) := by decide +kernel
theorem dX10_readOperand_12 : decode cX10_readOperand 12 = .ok (.aload_n 0, 1) := by decide +kernel
theorem dX10_readOperand_13 : decode cX10_readOperand 13 = .ok (.invokevirtual 65, 3) := by decide +kernel
theorem dX10_readOperand_16 : decode cX10_readOperand 16 = .ok (.ireturn, 1) := by decide +kernel
theorem dX10_readOperand_17 : decode cX10_readOperand 17 = .ok (.iload_n 2, 1) := by decide +kernel
theorem dX10_readOperand_18 : decode cX10_readOperand 18 = .ok (.ifCond .ge 7, 3) := by decide +kernel
theorem dX10_readOperand_21 : decode cX10_readOperand 21 = .ok (.iconst (-1), 1) := by decide +kernel
theorem dX10_readOperand_22 : decode cX10_readOperand 22 = .ok (.goto 10, 3) := by decide +kernel
theorem dX10_readOperand_25 : decode cX10_readOperand 25 = .ok (.ldc 68, 2) := by decide +kernel
theorem dX10_readOperand_27 : decode cX10_readOperand 27 = .ok (.iload_n 2, 1) := by decide +kernel
theorem dX10_readOperand_28 : decode cX10_readOperand 28 = .ok (.i2c, 1) := by decide +kernel
theorem dX10_readOperand_29 : decode cX10_readOperand 29 = .ok (.invokevirtual 70, 3) := by decide +kernel
theorem dX10_readOperand_32 : decode cX10_readOperand 32 = .ok (.istore_n 3, 1) := by decide +kernel
theorem dX10_readOperand_33 : decode cX10_readOperand 33 = .ok (.iload_n 3, 1) := by decide +kernel
theorem dX10_readOperand_34 : decode cX10_readOperand 34 = .ok (.ifCond .lt 22, 3) := by decide +kernel
theorem dX10_readOperand_37 : decode cX10_readOperand 37 = .ok (.aload_n 0, 1) := by decide +kernel
theorem dX10_readOperand_38 : decode cX10_readOperand 38 = .ok (.dup, 1) := by decide +kernel
theorem dX10_readOperand_39 : decode cX10_readOperand 39 = .ok (.getfield 29, 3) := by decide +kernel
theorem dX10_readOperand_42 : decode cX10_readOperand 42 = .ok (.iconst 1, 1) := by decide +kernel
theorem dX10_readOperand_43 : decode cX10_readOperand 43 = .ok (.iadd, 1) := by decide +kernel
theorem dX10_readOperand_44 : decode cX10_readOperand 44 = .ok (.putfield 29, 3) := by decide +kernel
theorem dX10_readOperand_47 : decode cX10_readOperand 47 = .ok (.aload_n 0, 1) := by decide +kernel
theorem dX10_readOperand_48 : decode cX10_readOperand 48 = .ok (.iconst (-1), 1) := by decide +kernel
theorem dX10_readOperand_49 : decode cX10_readOperand 49 = .ok (.iload_n 3, 1) := by decide +kernel
theorem dX10_readOperand_50 : decode cX10_readOperand 50 = .ok (.isub, 1) := by decide +kernel
theorem dX10_readOperand_51 : decode cX10_readOperand 51 = .ok (.invokevirtual 47, 3) := by decide +kernel
theorem dX10_readOperand_54 : decode cX10_readOperand 54 = .ok (.iconst 1, 1) := by decide +kernel
theorem dX10_readOperand_55 : decode cX10_readOperand 55 = .ok (.ireturn, 1) := by decide +kernel
theorem dX10_readOperand_56 : decode cX10_readOperand 56 = .ok (.iload_n 1, 1) := by decide +kernel
theorem dX10_readOperand_57 : decode cX10_readOperand 57 = .ok (.bipush 6, 2) := by decide +kernel
theorem dX10_readOperand_59 : decode cX10_readOperand 59 = .ok (.if_icmp .ge 21, 3) := by decide +kernel
theorem dX10_readOperand_62 : decode cX10_readOperand 62 = .ok (.iload_n 2, 1) := by decide +kernel
theorem dX10_readOperand_63 : decode cX10_readOperand 63 = .ok (.bipush 40, 2) := by decide +kernel
theorem dX10_readOperand_65 : decode cX10_readOperand 65 = .ok (.if_icmp .eq 17, 3) := by decide +kernel
theorem dX10_readOperand_68 : decode cX10_readOperand 68 = .ok (.iload_n 2, 1) := by decide +kernel
theorem dX10_readOperand_69 : decode cX10_readOperand 69 = .ok (.bipush 33, 2) := by decide +kernel
theorem dX10_readOperand_71 : decode cX10_readOperand 71 = .ok (.if_icmp .eq 11, 3) := by decide +kernel
theorem dX10_readOperand_74 : decode cX10_readOperand 74 = .ok (.iload_n 2, 1) := by decide +kernel
theorem dX10_readOperand_75 : decode cX10_readOperand 75 = .ok (.bipush 45, 2) := by decide +kernel
theorem dX10_readOperand_77 : decode cX10_readOperand 77 = .ok (.if_icmp .eq 5, 3) := by decide +kernel
theorem dX10_readOperand_80 : decode cX10_readOperand 80 = .ok (.iconst 0, 1) := by decide +kernel
theorem dX10_readOperand_81 : decode cX10_readOperand 81 = .ok (.ireturn, 1) := by decide +kernel
theorem dX10_readOperand_82 : decode cX10_readOperand 82 = .ok (.aload_n 0, 1) := by decide +kernel
theorem dX10_readOperand_83 : decode cX10_readOperand 83 = .ok (.dup, 1) := by decide +kernel
theorem dX10_readOperand_84 : decode cX10_readOperand 84 = .ok (.getfield 29, 3) := by decide +kernel
theorem dX10_readOperand_87 : decode cX10_readOperand 87 = .ok (.iconst 1, 1) := by decide +kernel
theorem dX10_readOperand_88 : decode cX10_readOperand 88 = .ok (.iadd, 1) := by decide +kernel
theorem dX10_readOperand_89 : decode cX10_readOperand 89 = .ok (.putfield 29, 3) := by decide +kernel
theorem dX10_readOperand_92 : decode cX10_readOperand 92 = .ok (.iload_n 2, 1) := by decide +kernel
theorem dX10_readOperand_93 : decode cX10_readOperand 93 = .ok (.bipush 40, 2) := by decide +kernel
theorem dX10_readOperand_95 : decode cX10_readOperand 95 = .ok (.if_icmp .ne 29, 3) := by decide +kernel
theorem dX10_readOperand_98 : decode cX10_readOperand 98 = .ok (.aload_n 0, 1) := by decide +kernel
theorem dX10_readOperand_99 : decode cX10_readOperand 99 = .ok (.iconst 0, 1) := by decide +kernel
theorem dX10_readOperand_100 : decode cX10_readOperand 100 = .ok (.iload_n 1, 1) := by decide +kernel
theorem dX10_readOperand_101 : decode cX10_readOperand 101 = .ok (.iconst 1, 1) := by decide +kernel
theorem dX10_readOperand_102 : decode cX10_readOperand 102 = .ok (.iadd, 1) := by decide +kernel
theorem dX10_readOperand_103 : decode cX10_readOperand 103 = .ok (.invokevirtual 43, 3) := by decide +kernel
theorem dX10_readOperand_106 : decode cX10_readOperand 106 = .ok (.ifCond .eq 16, 3) := by decide +kernel
theorem dX10_readOperand_109 : decode cX10_readOperand 109 = .ok (.aload_n 0, 1) := by decide +kernel
theorem dX10_readOperand_110 : decode cX10_readOperand 110 = .ok (.bipush 41, 2) := by decide +kernel
theorem dX10_readOperand_112 : decode cX10_readOperand 112 = .ok (.invokevirtual 39, 3) := by decide +kernel
theorem dX10_readOperand_115 : decode cX10_readOperand 115 = .ok (.ifCond .eq 7, 3) := by decide +kernel
theorem dX10_readOperand_118 : decode cX10_readOperand 118 = .ok (.iconst 1, 1) := by decide +kernel
theorem dX10_readOperand_119 : decode cX10_readOperand 119 = .ok (.goto 4, 3) := by decide +kernel
theorem dX10_readOperand_122 : decode cX10_readOperand 122 = .ok (.iconst 0, 1) := by decide +kernel
theorem dX10_readOperand_123 : decode cX10_readOperand 123 = .ok (.ireturn, 1) := by decide +kernel
theorem dX10_readOperand_124 : decode cX10_readOperand 124 = .ok (.aload_n 0, 1) := by decide +kernel
theorem dX10_readOperand_125 : decode cX10_readOperand 125 = .ok (.iload_n 1, 1) := by decide +kernel
theorem dX10_readOperand_126 : decode cX10_readOperand 126 = .ok (.iconst 1, 1) := by decide +kernel
theorem dX10_readOperand_127 : decode cX10_readOperand 127 = .ok (.iadd, 1) := by decide +kernel
theorem dX10_readOperand_128 : decode cX10_readOperand 128 = .ok (.invokevirtual 51, 3) := by decide +kernel
theorem dX10_readOperand_131 : decode cX10_readOperand 131 = .ok (.ifCond .ne 5, 3) := by decide +kernel
theorem dX10_readOperand_134 : decode cX10_readOperand 134 = .ok (.iconst 0, 1) := by decide +kernel
theorem dX10_readOperand_135 : decode cX10_readOperand 135 = .ok (.ireturn, 1) := by decide +kernel
theorem dX10_readOperand_136 : decode cX10_readOperand 136 = .ok (.aload_n 0, 1) := by decide +kernel
theorem dX10_readOperand_137 : decode cX10_readOperand 137 = .ok (.iload_n 2, 1) := by decide +kernel
theorem dX10_readOperand_138 : decode cX10_readOperand 138 = .ok (.bipush 33, 2) := by decide +kernel
theorem dX10_readOperand_140 : decode cX10_readOperand 140 = .ok (.if_icmp .ne 8, 3) := by decide +kernel
theorem dX10_readOperand_143 : decode cX10_readOperand 143 = .ok (.bipush (-33), 2) := by decide +kernel
theorem dX10_readOperand_145 : decode cX10_readOperand 145 = .ok (.goto 5, 3) := by decide +kernel
theorem dX10_readOperand_148 : decode cX10_readOperand 148 = .ok (.bipush (-126), 2) := by decide +kernel
theorem dX10_readOperand_150 : decode cX10_readOperand 150 = .ok (.invokevirtual 47, 3) := by decide +kernel
theorem dX10_readOperand_153 : decode cX10_readOperand 153 = .ok (.iconst 1, 1) := by decide +kernel
theorem dX10_readOperand_154 : decode cX10_readOperand 154 = .ok (.ireturn, 1) := by decide +kernel
set_option maxRecDepth 20000 in
theorem ggX10_readNumber_X10_sign : GoodIn wsX10_readNumber wsX10_sign := goodIn_r _ [6, 1, 7, 8, 18, 19, 20, 21, 22] (by decide +kernel) (by decide +kernel)
set_option maxRecDepth 20000 in
theorem gX10_readNumber_X10_sign : GoodIn wsX10_readNumber (wsV RX10 54 RX10 yX10_sign wsX10_sign) := goodIn_app (goodIn_of _ (by decide +kernel)) ggX10_readNumber_X10_sign
set_option maxRecDepth 20000 in
theorem ggX10_readNumber_X10_isDigit : GoodIn wsX10_readNumber wsX10_isDigit := goodIn_r _ [11] (by decide +kernel) (by decide +kernel)
set_option maxRecDepth 20000 in
theorem gX10_readNumber_X10_isDigit : GoodIn wsX10_readNumber (va_wsS RX10 62 yX10_isDigit wsX10_isDigit) := goodIn_app (goodIn_of _ (by decide +kernel)) ggX10_readNumber_X10_isDigit
set_option maxRecDepth 20000 in
theorem ggX10_readNumber_X10_step : GoodIn wsX10_readNumber wsX10_step := goodIn_r _ [15, 16, 17, 18, 19, 20, 21, 22] (by decide +kernel) (by decide +kernel)
set_option maxRecDepth 20000 in
theorem gX10_readNumber_X10_step : GoodIn wsX10_readNumber (wsV RX10 47 RX10 yX10_step wsX10_step) := goodIn_app (goodIn_of _ (by decide +kernel)) ggX10_readNumber_X10_step
theorem dX10_readNumber_0 : decode cX10_readNumber 0 = .ok (.iconst 0, 1) := by decide +kernel
theorem dX10_readNumber_1 : decode cX10_readNumber 1 = .ok (.istore_n 1, 1) := by decide +kernel
theorem dX10_readNumber_2 : decode cX10_readNumber 2 = .ok (.iconst 0, 1) := by decide +kernel
theorem dX10_readNumber_3 : decode cX10_readNumber 3 = .ok (.istore_n 2, 1) := by decide +kernel
theorem dX10_readNumber_4 : decode cX10_readNumber 4 = .ok (.iload_n 2, 1) := by decide +kernel
theorem dX10_readNumber_5 : decode cX10_readNumber 5 = .ok (.iconst 4, 1) := by decide +kernel
theorem dX10_readNumber_6 : decode cX10_readNumber 6 = .ok (.if_icmp .ge 42, 3) := by decide +kernel
theorem dX10_readNumber_9 : decode cX10_readNumber 9 = .ok (.aload_n 0, 1) := by decide +kernel
theorem dX10_readNumber_10 : decode cX10_readNumber 10 = .ok (.invokevirtual 54, 3) := by decide +kernel
theorem dX10_readNumber_13 : decode cX10_readNumber 13 = .ok (.invokestatic 62, 3) := by decide +kernel
theorem dX10_readNumber_16 : decode cX10_readNumber 16 = .ok (.ifCond .eq 32, 3) := by decide +kernel
theorem dX10_readNumber_19 : decode cX10_readNumber 19 = .ok (.iload_n 1, 1) := by decide +kernel
theorem dX10_readNumber_20 : decode cX10_readNumber 20 = .ok (.bipush 10, 2) := by decide +kernel
theorem dX10_readNumber_22 : decode cX10_readNumber 22 = .ok (.imul, 1) := by decide +kernel
theorem dX10_readNumber_23 : decode cX10_readNumber 23 = .ok (.aload_n 0, 1) := by decide +kernel
theorem dX10_readNumber_24 : decode cX10_readNumber 24 = .ok (.invokevirtual 54, 3) := by decide +kernel
theorem dX10_readNumber_27 : decode cX10_readNumber 27 = .ok (.iadd, 1) := by decide +kernel
theorem dX10_readNumber_28 : decode cX10_readNumber 28 = .ok (.bipush 48, 2) := by decide +kernel
theorem dX10_readNumber_30 : decode cX10_readNumber 30 = .ok (.isub, 1) := by decide +kernel
theorem dX10_readNumber_31 : decode cX10_readNumber 31 = .ok (.istore_n 1, 1) := by decide +kernel
theorem dX10_readNumber_32 : decode cX10_readNumber 32 = .ok (.aload_n 0, 1) := by decide +kernel
theorem dX10_readNumber_33 : decode cX10_readNumber 33 = .ok (.dup, 1) := by decide +kernel
theorem dX10_readNumber_34 : decode cX10_readNumber 34 = .ok (.getfield 29, 3) := by decide +kernel
theorem dX10_readNumber_37 : decode cX10_readNumber 37 = .ok (.iconst 1, 1) := by decide +kernel
theorem dX10_readNumber_38 : decode cX10_readNumber 38 = .ok (.iadd, 1) := by decide +kernel
theorem dX10_readNumber_39 : decode cX10_readNumber 39 = .ok (.putfield 29, 3) := by decide +kernel
theorem dX10_readNumber_42 : decode cX10_readNumber 42 = .ok (.iinc 2 1, 3) := by decide +kernel
theorem dX10_readNumber_45 : decode cX10_readNumber 45 = .ok (.goto (-41), 3) := by decide +kernel
theorem dX10_readNumber_48 : decode cX10_readNumber 48 = .ok (.aload_n 0, 1) := by decide +kernel
theorem dX10_readNumber_49 : decode cX10_readNumber 49 = .ok (.iload_n 1, 1) := by decide +kernel
theorem dX10_readNumber_50 : decode cX10_readNumber 50 = .ok (.invokevirtual 47, 3) := by decide +kernel
theorem dX10_readNumber_53 : decode cX10_readNumber 53 = .ok (.iconst 1, 1) := by decide +kernel
theorem dX10_readNumber_54 : decode cX10_readNumber 54 = .ok (.ireturn, 1) := by decide +kernel
theorem dX10_levelOf_0 : decode cX10_levelOf 0 = .ok (.iload_n 0, 1) := by decide +kernel
theorem dX10_levelOf_1 : decode cX10_levelOf 1 = .ok (.lookupswitch 101 #[(37, 99), (38, 93), (42, 99), (43, 97), (45, 97), (47, 99), (60, 95), (61, 95), (62, 95), (124, 91)], 91) := by decide +kernel
theorem dX10_levelOf_92 : decode cX10_levelOf 92 = .ok (.iconst 0, 1) := by decide +kernel
theorem dX10_levelOf_93 : decode cX10_levelOf 93 = .ok (.ireturn, 1) := by decide +kernel
theorem dX10_levelOf_94 : decode cX10_levelOf 94 = .ok (.iconst 1, 1) := by decide +kernel
theorem dX10_levelOf_95 : decode cX10_levelOf 95 = .ok (.ireturn, 1) := by decide +kernel
theorem dX10_levelOf_96 : decode cX10_levelOf 96 = .ok (.iconst 2, 1) := by decide +kernel
theorem dX10_levelOf_97 : decode cX10_levelOf 97 = .ok (.ireturn, 1) := by decide +kernel
theorem dX10_levelOf_98 : decode cX10_levelOf 98 = .ok (.iconst 3, 1) := by decide +kernel
theorem dX10_levelOf_99 : decode cX10_levelOf 99 = .ok (.ireturn, 1) := by decide +kernel
theorem dX10_levelOf_100 : decode cX10_levelOf 100 = .ok (.iconst 4, 1) := by decide +kernel
theorem dX10_levelOf_101 : decode cX10_levelOf 101 = .ok (.ireturn, 1) := by decide +kernel
theorem dX10_levelOf_102 : decode cX10_levelOf 102 = .ok (.iconst (-1), 1) := by decide +kernel
theorem dX10_levelOf_103 : decode cX10_levelOf 103 = .ok (.ireturn, 1) := by decide +kernel
theorem dX10_isDigit_0 : decode cX10_isDigit 0 = .ok (.bipush 48, 2) := by decide +kernel
theorem dX10_isDigit_2 : decode cX10_isDigit 2 = .ok (.iload_n 0, 1) := by decide +kernel
theorem dX10_isDigit_3 : decode cX10_isDigit 3 = .ok (.if_icmp .gt 13, 3) := by decide +kernel
theorem dX10_isDigit_6 : decode cX10_isDigit 6 = .ok (.iload_n 0, 1) := by decide +kernel
theorem dX10_isDigit_7 : decode cX10_isDigit 7 = .ok (.bipush 57, 2) := by decide +kernel
theorem dX10_isDigit_9 : decode cX10_isDigit 9 = .ok (.if_icmp .gt 7, 3) := by decide +kernel
theorem dX10_isDigit_12 : decode cX10_isDigit 12 = .ok (.iconst 1, 1) := by decide +kernel
theorem dX10_isDigit_13 : decode cX10_isDigit 13 = .ok (.goto 4, 3) := by decide +kernel
theorem dX10_isDigit_16 : decode cX10_isDigit 16 = .ok (.iconst 0, 1) := by decide +kernel
theorem dX10_isDigit_17 : decode cX10_isDigit 17 = .ok (.ireturn, 1) := by decide +kernel
theorem dX10_sign_0 : decode cX10_sign 0 = .ok (.aload_n 0, 1) := by decide +kernel
theorem dX10_sign_1 : decode cX10_sign 1 = .ok (.getfield 29, 3) := by decide +kernel
theorem dX10_sign_4 : decode cX10_sign 4 = .ok (.aload_n 0, 1) := by decide +kernel
theorem dX10_sign_5 : decode cX10_sign 5 = .ok (.getfield 19, 3) := by decide +kernel
theorem dX10_sign_8 : decode cX10_sign 8 = .ok (.if_icmp .ge 19, 3) := by decide +kernel
theorem dX10_sign_11 : decode cX10_sign 11 = .ok (.aload_n 0, 1) := by decide +kernel
theorem dX10_sign_12 : decode cX10_sign 12 = .ok (.getfield 9, 3) := by decide +kernel
theorem dX10_sign_15 : decode cX10_sign 15 = .ok (.aload_n 0, 1) := by decide +kernel
theorem dX10_sign_16 : decode cX10_sign 16 = .ok (.getfield 29, 3) := by decide +kernel
theorem dX10_sign_19 : decode cX10_sign 19 = .ok (.baload, 1) := by decide +kernel
theorem dX10_sign_20 : decode cX10_sign 20 = .ok (.sipush 255, 3) := by decide +kernel
theorem dX10_sign_23 : decode cX10_sign 23 = .ok (.iand, 1) := by decide +kernel
theorem dX10_sign_24 : decode cX10_sign 24 = .ok (.goto 4, 3) := by decide +kernel
theorem dX10_sign_27 : decode cX10_sign 27 = .ok (.iconst (-1), 1) := by decide +kernel
theorem dX10_sign_28 : decode cX10_sign 28 = .ok (.ireturn, 1) := by decide +kernel
set_option maxRecDepth 20000 in
theorem ggX10_takes_X10_sign : GoodIn wsX10_takes wsX10_sign := goodIn_r _ [6, 1, 7, 8, 9, 10, 11, 12, 13] (by decide +kernel) (by decide +kernel)
set_option maxRecDepth 20000 in
theorem gX10_takes_X10_sign : GoodIn wsX10_takes (wsV RX10 54 RX10 yX10_sign wsX10_sign) := goodIn_app (goodIn_of _ (by decide +kernel)) ggX10_takes_X10_sign
theorem dX10_takes_0 : decode cX10_takes 0 = .ok (.aload_n 0, 1) := by decide +kernel
theorem dX10_takes_1 : decode cX10_takes 1 = .ok (.invokevirtual 54, 3) := by decide +kernel
theorem dX10_takes_4 : decode cX10_takes 4 = .ok (.iload_n 1, 1) := by decide +kernel
theorem dX10_takes_5 : decode cX10_takes 5 = .ok (.if_icmp .eq 5, 3) := by decide +kernel
theorem dX10_takes_8 : decode cX10_takes 8 = .ok (.iconst 0, 1) := by decide +kernel
theorem dX10_takes_9 : decode cX10_takes 9 = .ok (.ireturn, 1) := by decide +kernel
theorem dX10_takes_10 : decode cX10_takes 10 = .ok (.aload_n 0, 1) := by decide +kernel
theorem dX10_takes_11 : decode cX10_takes 11 = .ok (.dup, 1) := by decide +kernel
theorem dX10_takes_12 : decode cX10_takes 12 = .ok (.getfield 29, 3) := by decide +kernel
theorem dX10_takes_15 : decode cX10_takes 15 = .ok (.iconst 1, 1) := by decide +kernel
theorem dX10_takes_16 : decode cX10_takes 16 = .ok (.iadd, 1) := by decide +kernel
theorem dX10_takes_17 : decode cX10_takes 17 = .ok (.putfield 29, 3) := by decide +kernel
theorem dX10_takes_20 : decode cX10_takes 20 = .ok (.iconst 1, 1) := by decide +kernel
theorem dX10_takes_21 : decode cX10_takes 21 = .ok (.ireturn, 1) := by decide +kernel
theorem dX10_step_0 : decode cX10_step 0 = .ok (.aload_n 0, 1) := by decide +kernel
theorem dX10_step_1 : decode cX10_step 1 = .ok (.getfield 32, 3) := by decide +kernel
theorem dX10_step_4 : decode cX10_step 4 = .ok (.aload_n 0, 1) := by decide +kernel
theorem dX10_step_5 : decode cX10_step 5 = .ok (.getfield 15, 3) := by decide +kernel
theorem dX10_step_8 : decode cX10_step 8 = .ok (.arraylength, 1) := by decide +kernel
theorem dX10_step_9 : decode cX10_step 9 = .ok (.if_icmp .ge 23, 3) := by decide +kernel
theorem dX10_step_12 : decode cX10_step 12 = .ok (.aload_n 0, 1) := by decide +kernel
theorem dX10_step_13 : decode cX10_step 13 = .ok (.getfield 15, 3) := by decide +kernel
theorem dX10_step_16 : decode cX10_step 16 = .ok (.aload_n 0, 1) := by decide +kernel
theorem dX10_step_17 : decode cX10_step 17 = .ok (.getfield 32, 3) := by decide +kernel
theorem dX10_step_20 : decode cX10_step 20 = .ok (.iload_n 1, 1) := by decide +kernel
theorem dX10_step_21 : decode cX10_step 21 = .ok (.iastore, 1) := by decide +kernel
theorem dX10_step_22 : decode cX10_step 22 = .ok (.aload_n 0, 1) := by decide +kernel
theorem dX10_step_23 : decode cX10_step 23 = .ok (.dup, 1) := by decide +kernel
theorem dX10_step_24 : decode cX10_step 24 = .ok (.getfield 32, 3) := by decide +kernel
theorem dX10_step_27 : decode cX10_step 27 = .ok (.iconst 1, 1) := by decide +kernel
theorem dX10_step_28 : decode cX10_step 28 = .ok (.iadd, 1) := by decide +kernel
theorem dX10_step_29 : decode cX10_step 29 = .ok (.putfield 32, 3) := by decide +kernel
theorem dX10_step_32 : decode cX10_step 32 = .ok (.return_, 1) := by decide +kernel
set_option maxRecDepth 20000 in
theorem ggX11_init_X7_init : GoodIn wsX11_init wsX7_init := goodIn_r _ [51, 52, 2, 3, 48, 53, 54, 55, 56, 57, 58, 146, 147, 148, 149, 150, 151, 152, 153, 154] (by decide +kernel) (by decide +kernel)
set_option maxRecDepth 20000 in
theorem gX11_init_X7_init_n9 : GoodIn wsX11_init (wsX7_init) := ggX11_init_X7_init
set_option maxRecDepth 20000 in
theorem ggX11_init_X5_init : GoodIn wsX11_init wsX5_init := goodIn_r _ [60, 61, 2, 3, 48, 62, 63, 64, 167, 168, 169, 170] (by decide +kernel) (by decide +kernel)
set_option maxRecDepth 20000 in
theorem gX11_init_X5_init_n18 : GoodIn wsX11_init (wsX5_init) := ggX11_init_X5_init
set_option maxRecDepth 20000 in
theorem ggX11_init_X3_init : GoodIn wsX11_init wsX3_init := goodIn_r _ [66, 67, 2, 3, 48, 68, 69, 70, 71, 72, 73, 74, 75, 171, 172, 173, 174, 175, 176, 177, 178, 179, 180] (by decide +kernel) (by decide +kernel)
set_option maxRecDepth 20000 in
theorem gX11_init_X3_init_n25 : GoodIn wsX11_init (wsX3_init) := ggX11_init_X3_init
set_option maxRecDepth 20000 in
theorem ggX11_init_X2_init : GoodIn wsX11_init wsX2_init := goodIn_r _ [77, 78, 2, 3, 48, 79, 80, 81, 82, 83, 84, 85, 181, 182, 183, 184, 185, 186, 187, 188] (by decide +kernel) (by decide +kernel)
set_option maxRecDepth 20000 in
theorem gX11_init_X2_init_n32 : GoodIn wsX11_init (wsX2_init) := ggX11_init_X2_init
set_option maxRecDepth 20000 in
theorem ggX11_init_X6_init : GoodIn wsX11_init wsX6_init := goodIn_r _ [87, 88, 2, 3, 48, 89, 90, 91, 189, 190, 191, 192] (by decide +kernel) (by decide +kernel)
set_option maxRecDepth 20000 in
theorem gX11_init_X6_init_n39 : GoodIn wsX11_init (wsX6_init) := ggX11_init_X6_init
set_option maxRecDepth 20000 in
theorem ggX11_init_X4_init : GoodIn wsX11_init wsX4_init := goodIn_r _ [93, 94, 2, 3, 48, 95, 96, 193, 194, 195] (by decide +kernel) (by decide +kernel)
set_option maxRecDepth 20000 in
theorem gX11_init_X4_init_n46 : GoodIn wsX11_init (wsX4_init) := ggX11_init_X4_init
set_option maxRecDepth 20000 in
theorem ggX11_init_X10_init : GoodIn wsX11_init wsX10_init := goodIn_r _ [98, 99, 2, 3, 100, 101, 48, 102, 196, 197, 198, 199, 200] (by decide +kernel) (by decide +kernel)
set_option maxRecDepth 20000 in
theorem gX11_init_X10_init_n53 : GoodIn wsX11_init (wsX10_init) := ggX11_init_X10_init
set_option maxRecDepth 20000 in
theorem ggX11_init_X9_init : GoodIn wsX11_init wsX9_init := goodIn_r _ [104, 105, 2, 3, 48, 106, 107, 108, 109, 110, 111, 112, 201, 202, 203, 204, 205, 206, 207] (by decide +kernel) (by decide +kernel)
set_option maxRecDepth 20000 in
theorem gX11_init_X9_init_n60 : GoodIn wsX11_init (wsX9_init) := ggX11_init_X9_init
set_option maxRecDepth 20000 in
theorem ggX11_init_X1_init : GoodIn wsX11_init wsX1_init := goodIn_r _ [114, 115, 2, 3, 48, 116, 117, 118, 119, 208, 209, 210, 211, 212, 213] (by decide +kernel) (by decide +kernel)
set_option maxRecDepth 20000 in
theorem gX11_init_X1_init_n67 : GoodIn wsX11_init (wsX1_init) := ggX11_init_X1_init
set_option maxRecDepth 20000 in
theorem ggX11_init_X0_init : GoodIn wsX11_init wsX0_init := goodIn_r _ [121, 122, 2, 3, 48, 123, 124, 214, 215, 216, 217, 218] (by decide +kernel) (by decide +kernel)
set_option maxRecDepth 20000 in
theorem gX11_init_X0_init_n74 : GoodIn wsX11_init (wsX0_init) := ggX11_init_X0_init
set_option maxRecDepth 20000 in
theorem ggX11_init_X8_init : GoodIn wsX11_init wsX8_init := goodIn_r _ [126, 127, 2, 3, 48, 128, 129, 130, 131, 132, 133, 219, 220, 221, 222] (by decide +kernel) (by decide +kernel)
set_option maxRecDepth 20000 in
theorem gX11_init_X8_init_n81 : GoodIn wsX11_init (wsX8_init) := ggX11_init_X8_init
set_option maxRecDepth 20000 in
theorem ggX11_init_J0_length_8abf5 : GoodIn wsX11_init wsJ0_length_8abf5 := goodIn_r _ [138, 139, 140, 141, 142, 137, 143, 144, 145] (by decide +kernel) (by decide +kernel)
set_option maxRecDepth 20000 in
theorem gX11_init_J0_length_8abf5 : GoodIn wsX11_init (wsV RX11 88 RJ0 yJ0_length_8abf5 wsJ0_length_8abf5) := goodIn_app (goodIn_of _ (by decide +kernel)) ggX11_init_J0_length_8abf5
theorem dX11_init_0 : decode cX11_init 0 = .ok (.aload_n 0, 1) := by decide +kernel
theorem dX11_init_1 : decode cX11_init 1 = .ok (.invokespecial 1, 3) := by decide +kernel
theorem dX11_init_4 : decode cX11_init 4 = .ok (.aload_n 0, 1) := by decide +kernel
theorem dX11_init_5 : decode cX11_init 5 = .ok (.new 7, 3) := by decide +kernel
theorem dX11_init_8 : decode cX11_init 8 = .ok (.dup, 1) := by decide +kernel
theorem dX11_init_9 : decode cX11_init 9 = .ok (.invokespecial 9, 3) := by decide +kernel
theorem dX11_init_12 : decode cX11_init 12 = .ok (.putfield 10, 3) := by decide +kernel
theorem dX11_init_15 : decode cX11_init 15 = .ok (.aload_n 0, 1) := by decide +kernel
theorem dX11_init_16 : decode cX11_init 16 = .ok (.new 16, 3) := by decide +kernel
theorem dX11_init_19 : decode cX11_init 19 = .ok (.dup, 1) := by decide +kernel
theorem dX11_init_20 : decode cX11_init 20 = .ok (.invokespecial 18, 3) := by decide +kernel
theorem dX11_init_23 : decode cX11_init 23 = .ok (.putfield 19, 3) := by decide +kernel
theorem dX11_init_26 : decode cX11_init 26 = .ok (.aload_n 0, 1) := by decide +kernel
theorem dX11_init_27 : decode cX11_init 27 = .ok (.new 23, 3) := by decide +kernel
theorem dX11_init_30 : decode cX11_init 30 = .ok (.dup, 1) := by decide +kernel
theorem dX11_init_31 : decode cX11_init 31 = .ok (.invokespecial 25, 3) := by decide +kernel
theorem dX11_init_34 : decode cX11_init 34 = .ok (.putfield 26, 3) := by decide +kernel
theorem dX11_init_37 : decode cX11_init 37 = .ok (.aload_n 0, 1) := by decide +kernel
theorem dX11_init_38 : decode cX11_init 38 = .ok (.new 30, 3) := by decide +kernel
theorem dX11_init_41 : decode cX11_init 41 = .ok (.dup, 1) := by decide +kernel
theorem dX11_init_42 : decode cX11_init 42 = .ok (.invokespecial 32, 3) := by decide +kernel
theorem dX11_init_45 : decode cX11_init 45 = .ok (.putfield 33, 3) := by decide +kernel
theorem dX11_init_48 : decode cX11_init 48 = .ok (.aload_n 0, 1) := by decide +kernel
theorem dX11_init_49 : decode cX11_init 49 = .ok (.new 37, 3) := by decide +kernel
theorem dX11_init_52 : decode cX11_init 52 = .ok (.dup, 1) := by decide +kernel
theorem dX11_init_53 : decode cX11_init 53 = .ok (.invokespecial 39, 3) := by decide +kernel
theorem dX11_init_56 : decode cX11_init 56 = .ok (.putfield 40, 3) := by decide +kernel
theorem dX11_init_59 : decode cX11_init 59 = .ok (.aload_n 0, 1) := by decide +kernel
theorem dX11_init_60 : decode cX11_init 60 = .ok (.new 44, 3) := by decide +kernel
theorem dX11_init_63 : decode cX11_init 63 = .ok (.dup, 1) := by decide +kernel
theorem dX11_init_64 : decode cX11_init 64 = .ok (.invokespecial 46, 3) := by decide +kernel
theorem dX11_init_67 : decode cX11_init 67 = .ok (.putfield 47, 3) := by decide +kernel
theorem dX11_init_70 : decode cX11_init 70 = .ok (.aload_n 0, 1) := by decide +kernel
theorem dX11_init_71 : decode cX11_init 71 = .ok (.new 51, 3) := by decide +kernel
theorem dX11_init_74 : decode cX11_init 74 = .ok (.dup, 1) := by decide +kernel
theorem dX11_init_75 : decode cX11_init 75 = .ok (.invokespecial 53, 3) := by decide +kernel
theorem dX11_init_78 : decode cX11_init 78 = .ok (.putfield 54, 3) := by decide +kernel
theorem dX11_init_81 : decode cX11_init 81 = .ok (.aload_n 0, 1) := by decide +kernel
theorem dX11_init_82 : decode cX11_init 82 = .ok (.new 58, 3) := by decide +kernel
theorem dX11_init_85 : decode cX11_init 85 = .ok (.dup, 1) := by decide +kernel
theorem dX11_init_86 : decode cX11_init 86 = .ok (.invokespecial 60, 3) := by decide +kernel
theorem dX11_init_89 : decode cX11_init 89 = .ok (.putfield 61, 3) := by decide +kernel
theorem dX11_init_92 : decode cX11_init 92 = .ok (.aload_n 0, 1) := by decide +kernel
theorem dX11_init_93 : decode cX11_init 93 = .ok (.new 65, 3) := by decide +kernel
theorem dX11_init_96 : decode cX11_init 96 = .ok (.dup, 1) := by decide +kernel
theorem dX11_init_97 : decode cX11_init 97 = .ok (.invokespecial 67, 3) := by decide +kernel
theorem dX11_init_100 : decode cX11_init 100 = .ok (.putfield 68, 3) := by decide +kernel
theorem dX11_init_103 : decode cX11_init 103 = .ok (.aload_n 0, 1) := by decide +kernel
theorem dX11_init_104 : decode cX11_init 104 = .ok (.new 72, 3) := by decide +kernel
theorem dX11_init_107 : decode cX11_init 107 = .ok (.dup, 1) := by decide +kernel
theorem dX11_init_108 : decode cX11_init 108 = .ok (.invokespecial 74, 3) := by decide +kernel
theorem dX11_init_111 : decode cX11_init 111 = .ok (.putfield 75, 3) := by decide +kernel
theorem dX11_init_114 : decode cX11_init 114 = .ok (.aload_n 0, 1) := by decide +kernel
theorem dX11_init_115 : decode cX11_init 115 = .ok (.new 79, 3) := by decide +kernel
theorem dX11_init_118 : decode cX11_init 118 = .ok (.dup, 1) := by decide +kernel
theorem dX11_init_119 : decode cX11_init 119 = .ok (.invokespecial 81, 3) := by decide +kernel
theorem dX11_init_122 : decode cX11_init 122 = .ok (.putfield 82, 3) := by decide +kernel
theorem dX11_init_125 : decode cX11_init 125 = .ok (.aload_n 0, 1) := by decide +kernel
theorem dX11_init_126 : decode cX11_init 126 = .ok (.ldc 86, 2) := by decide +kernel
theorem dX11_init_128 : decode cX11_init 128 = .ok (.invokevirtual 88, 3) := by decide +kernel
theorem dX11_init_131 : decode cX11_init 131 = .ok (.newarray .int, 2) := by decide +kernel
theorem dX11_init_133 : decode cX11_init 133 = .ok (.putfield 94, 3) := by decide +kernel
theorem dX11_init_136 : decode cX11_init 136 = .ok (.return_, 1) := by decide +kernel
set_option maxRecDepth 20000 in
theorem ggX11_sheet_X11_isYear : GoodIn wsX11_sheet wsX11_isYear := goodIn_r _ [5, 6, 7, 4, 8] (by decide +kernel) (by decide +kernel)
set_option maxRecDepth 20000 in
theorem gX11_sheet_X11_isYear : GoodIn wsX11_sheet (va_wsS RX11 98 yX11_isYear wsX11_isYear) := goodIn_app (goodIn_of _ (by decide +kernel)) ggX11_sheet_X11_isYear
set_option maxRecDepth 20000 in
theorem ggX11_sheet_X7_add : GoodIn wsX11_sheet wsX7_add := goodIn_r _ [13, 14, 15, 28, 29, 30, 31, 32, 33, 34, 35, 36] (by decide +kernel) (by decide +kernel)
set_option maxRecDepth 20000 in
theorem gX11_sheet_X7_add : GoodIn wsX11_sheet (wsV RX11 102 RX7 yX7_add wsX7_add) := goodIn_app (goodIn_of _ (by decide +kernel)) ggX11_sheet_X7_add
theorem dX11_sheet_0 : decode cX11_sheet 0 = .ok (.iload_n 1, 1) := by decide +kernel
theorem dX11_sheet_1 : decode cX11_sheet 1 = .ok (.invokestatic 98, 3) := by decide +kernel
theorem dX11_sheet_4 : decode cX11_sheet 4 = .ok (.ifCond .ne 5, 3) := by decide +kernel
theorem dX11_sheet_7 : decode cX11_sheet 7 = .ok (.iconst (-1), 1) := by decide +kernel
theorem dX11_sheet_8 : decode cX11_sheet 8 = .ok (.ireturn, 1) := by decide +kernel
theorem dX11_sheet_9 : decode cX11_sheet 9 = .ok (.aload_n 0, 1) := by decide +kernel
theorem dX11_sheet_10 : decode cX11_sheet 10 = .ok (.getfield 10, 3) := by decide +kernel
theorem dX11_sheet_13 : decode cX11_sheet 13 = .ok (.iload_n 1, 1) := by decide +kernel
theorem dX11_sheet_14 : decode cX11_sheet 14 = .ok (.invokevirtual 102, 3) := by decide +kernel
theorem dX11_sheet_17 : decode cX11_sheet 17 = .ok (.ireturn, 1) := by decide +kernel
set_option maxRecDepth 20000 in
theorem ggX11_age_X7_isSheet : GoodIn wsX11_age wsX7_isSheet := goodIn_r _ [6, 7, 8, 9, 10, 60, 61, 62, 63, 64, 65, 66, 67, 68] (by decide +kernel) (by decide +kernel)
set_option maxRecDepth 20000 in
theorem gX11_age_X7_isSheet : GoodIn wsX11_age (wsV RX11 106 RX7 yX7_isSheet wsX7_isSheet) := goodIn_app (goodIn_of _ (by decide +kernel)) ggX11_age_X7_isSheet
set_option maxRecDepth 20000 in
theorem ggX11_age_X11_isYear : GoodIn wsX11_age wsX11_isYear := goodIn_r _ [13, 14, 8, 9, 10] (by decide +kernel) (by decide +kernel)
set_option maxRecDepth 20000 in
theorem gX11_age_X11_isYear : GoodIn wsX11_age (va_wsS RX11 98 yX11_isYear wsX11_isYear) := goodIn_app (goodIn_of _ (by decide +kernel)) ggX11_age_X11_isYear
set_option maxRecDepth 20000 in
theorem ggX11_age_X11_change : GoodIn wsX11_age wsX11_change := goodIn_r _ [18, 19, 20, 21, 22, 9, 23, 24, 25, 26, 27, 1, 28, 14, 8, 10, 29, 30, 31, 32, 33, 34, 35, 36, 37, 38, 39, 40, 41, 42, 43, 44, 45, 46, 47, 48, 49, 50, 51, 52, 53, 54, 55, 56, 57, 58, 59, 69, 70, 71, 72, 73, 74, 75, 76, 77, 78, 79, 80, 81, 82, 83, 60, 61, 62, 63, 64, 65, 66, 67, 68, 84, 85, 86, 87, 88, 89] (by decide +kernel) (by decide +kernel)
set_option maxRecDepth 20000 in
theorem gX11_age_X11_change : GoodIn wsX11_age (wsV RX11 109 RX11 yX11_change wsX11_change) := goodIn_app (goodIn_of _ (by decide +kernel)) ggX11_age_X11_change
theorem dX11_age_0 : decode cX11_age 0 = .ok (.aload_n 0, 1) := by decide +kernel
theorem dX11_age_1 : decode cX11_age 1 = .ok (.getfield 10, 3) := by decide +kernel
theorem dX11_age_4 : decode cX11_age 4 = .ok (.iload_n 1, 1) := by decide +kernel
theorem dX11_age_5 : decode cX11_age 5 = .ok (.invokevirtual 106, 3) := by decide +kernel
theorem dX11_age_8 : decode cX11_age 8 = .ok (.ifCond .eq 10, 3) := by decide +kernel
theorem dX11_age_11 : decode cX11_age 11 = .ok (.iload_n 2, 1) := by decide +kernel
theorem dX11_age_12 : decode cX11_age 12 = .ok (.invokestatic 98, 3) := by decide +kernel
theorem dX11_age_15 : decode cX11_age 15 = .ok (.ifCond .ne 5, 3) := by decide +kernel
theorem dX11_age_18 : decode cX11_age 18 = .ok (.iconst (-1), 1) := by decide +kernel
theorem dX11_age_19 : decode cX11_age 19 = .ok (.ireturn, 1) := by decide +kernel
theorem dX11_age_20 : decode cX11_age 20 = .ok (.aload_n 0, 1) := by decide +kernel
theorem dX11_age_21 : decode cX11_age 21 = .ok (.iconst 2, 1) := by decide +kernel
theorem dX11_age_22 : decode cX11_age 22 = .ok (.iload_n 1, 1) := by decide +kernel
theorem dX11_age_23 : decode cX11_age 23 = .ok (.iload_n 2, 1) := by decide +kernel
theorem dX11_age_24 : decode cX11_age 24 = .ok (.invokevirtual 109, 3) := by decide +kernel
theorem dX11_age_27 : decode cX11_age 27 = .ok (.ireturn, 1) := by decide +kernel
set_option maxRecDepth 20000 in
theorem ggX11_hole_X7_isSheet : GoodIn wsX11_hole wsX7_isSheet := goodIn_r _ [6, 7, 8, 9, 10, 32, 33, 34, 35, 36, 37, 38, 39, 40] (by decide +kernel) (by decide +kernel)
set_option maxRecDepth 20000 in
theorem gX11_hole_X7_isSheet : GoodIn wsX11_hole (wsV RX11 106 RX7 yX7_isSheet wsX7_isSheet) := goodIn_app (goodIn_of _ (by decide +kernel)) ggX11_hole_X7_isSheet
set_option maxRecDepth 20000 in
theorem ggX11_hole_X11_within : GoodIn wsX11_hole wsX11_within := goodIn_r _ [10] (by decide +kernel) (by decide +kernel)
set_option maxRecDepth 20000 in
theorem gX11_hole_X11_within : GoodIn wsX11_hole (va_wsS RX11 113 yX11_within wsX11_within) := goodIn_app (goodIn_of _ (by decide +kernel)) ggX11_hole_X11_within
set_option maxRecDepth 20000 in
theorem ggX11_hole_X7_addHole : GoodIn wsX11_hole wsX7_addHole := goodIn_r _ [15, 16, 17, 18, 19, 32, 33, 34, 35, 36, 37, 38, 39, 40] (by decide +kernel) (by decide +kernel)
set_option maxRecDepth 20000 in
theorem gX11_hole_X7_addHole : GoodIn wsX11_hole (wsV RX11 117 RX7 yX7_addHole wsX7_addHole) := goodIn_app (goodIn_of _ (by decide +kernel)) ggX11_hole_X7_addHole
theorem dX11_hole_0 : decode cX11_hole 0 = .ok (.aload_n 0, 1) := by decide +kernel
theorem dX11_hole_1 : decode cX11_hole 1 = .ok (.getfield 10, 3) := by decide +kernel
theorem dX11_hole_4 : decode cX11_hole 4 = .ok (.iload_n 1, 1) := by decide +kernel
theorem dX11_hole_5 : decode cX11_hole 5 = .ok (.invokevirtual 106, 3) := by decide +kernel
theorem dX11_hole_8 : decode cX11_hole 8 = .ok (.ifCond .eq 14, 3) := by decide +kernel
theorem dX11_hole_11 : decode cX11_hole 11 = .ok (.iload_n 2, 1) := by decide +kernel
theorem dX11_hole_12 : decode cX11_hole 12 = .ok (.iconst 0, 1) := by decide +kernel
theorem dX11_hole_13 : decode cX11_hole 13 = .ok (.sipush 999, 3) := by decide +kernel
theorem dX11_hole_16 : decode cX11_hole 16 = .ok (.invokestatic 113, 3) := by decide +kernel
theorem dX11_hole_19 : decode cX11_hole 19 = .ok (.ifCond .ne 5, 3) := by decide +kernel
theorem dX11_hole_22 : decode cX11_hole 22 = .ok (.iconst (-1), 1) := by decide +kernel
theorem dX11_hole_23 : decode cX11_hole 23 = .ok (.ireturn, 1) := by decide +kernel
theorem dX11_hole_24 : decode cX11_hole 24 = .ok (.aload_n 0, 1) := by decide +kernel
theorem dX11_hole_25 : decode cX11_hole 25 = .ok (.getfield 10, 3) := by decide +kernel
theorem dX11_hole_28 : decode cX11_hole 28 = .ok (.iload_n 1, 1) := by decide +kernel
theorem dX11_hole_29 : decode cX11_hole 29 = .ok (.iload_n 2, 1) := by decide +kernel
theorem dX11_hole_30 : decode cX11_hole 30 = .ok (.invokevirtual 117, 3) := by decide +kernel
theorem dX11_hole_33 : decode cX11_hole 33 = .ok (.ireturn, 1) := by decide +kernel
set_option maxRecDepth 20000 in
theorem ggX11_worms_X11_isSlack : GoodIn wsX11_worms wsX11_isSlack := goodIn_r _ [7, 8, 9, 6, 10] (by decide +kernel) (by decide +kernel)
set_option maxRecDepth 20000 in
theorem gX11_worms_X11_isSlack : GoodIn wsX11_worms (va_wsS RX11 121 yX11_isSlack wsX11_isSlack) := goodIn_app (goodIn_of _ (by decide +kernel)) ggX11_worms_X11_isSlack
set_option maxRecDepth 20000 in
theorem ggX11_worms_X7_all : GoodIn wsX11_worms wsX7_all := goodIn_r _ [15, 16, 40, 41, 42, 43, 44, 45, 46, 47, 48] (by decide +kernel) (by decide +kernel)
set_option maxRecDepth 20000 in
theorem gX11_worms_X7_all : GoodIn wsX11_worms (wsV RX11 124 RX7 yX7_all wsX7_all) := goodIn_app (goodIn_of _ (by decide +kernel)) ggX11_worms_X7_all
set_option maxRecDepth 20000 in
theorem ggX11_worms_X7_findWorms : GoodIn wsX11_worms wsX7_findWorms := goodIn_r _ [20, 21, 22, 23, 24, 25, 26, 27, 40, 41, 42, 43, 44, 45, 46, 47, 48] (by decide +kernel) (by decide +kernel)
set_option maxRecDepth 20000 in
theorem gX11_worms_X7_findWorms : GoodIn wsX11_worms (wsV RX11 127 RX7 yX7_findWorms wsX7_findWorms) := goodIn_app (goodIn_of _ (by decide +kernel)) ggX11_worms_X7_findWorms
theorem dX11_worms_0 : decode cX11_worms 0 = .ok (.iload_n 1, 1) := by decide +kernel
theorem dX11_worms_1 : decode cX11_worms 1 = .ok (.invokestatic 121, 3) := by decide +kernel
theorem dX11_worms_4 : decode cX11_worms 4 = .ok (.ifCond .eq 8, 3) := by decide +kernel
theorem dX11_worms_7 : decode cX11_worms 7 = .ok (.iload_n 2, 1) := by decide +kernel
theorem dX11_worms_8 : decode cX11_worms 8 = .ok (.iconst (-1), 1) := by decide +kernel
theorem dX11_worms_9 : decode cX11_worms 9 = .ok (.if_icmp .ge 5, 3) := by decide +kernel
theorem dX11_worms_12 : decode cX11_worms 12 = .ok (.iconst (-1), 1) := by decide +kernel
theorem dX11_worms_13 : decode cX11_worms 13 = .ok (.ireturn, 1) := by decide +kernel
theorem dX11_worms_14 : decode cX11_worms 14 = .ok (.aload_n 0, 1) := by decide +kernel
theorem dX11_worms_15 : decode cX11_worms 15 = .ok (.getfield 10, 3) := by decide +kernel
theorem dX11_worms_18 : decode cX11_worms 18 = .ok (.iload_n 1, 1) := by decide +kernel
theorem dX11_worms_19 : decode cX11_worms 19 = .ok (.aload_n 0, 1) := by decide +kernel
theorem dX11_worms_20 : decode cX11_worms 20 = .ok (.getfield 10, 3) := by decide +kernel
theorem dX11_worms_23 : decode cX11_worms 23 = .ok (.invokevirtual 124, 3) := by decide +kernel
theorem dX11_worms_26 : decode cX11_worms 26 = .ok (.invokevirtual 127, 3) := by decide +kernel
theorem dX11_worms_29 : decode cX11_worms 29 = .ok (.iload_n 2, 1) := by decide +kernel
theorem dX11_worms_30 : decode cX11_worms 30 = .ok (.iconst (-1), 1) := by decide +kernel
theorem dX11_worms_31 : decode cX11_worms 31 = .ok (.if_icmp .ne 11, 3) := by decide +kernel
theorem dX11_worms_34 : decode cX11_worms 34 = .ok (.aload_n 0, 1) := by decide +kernel
theorem dX11_worms_35 : decode cX11_worms 35 = .ok (.getfield 10, 3) := by decide +kernel
theorem dX11_worms_38 : decode cX11_worms 38 = .ok (.getfield 131, 3) := by decide +kernel
theorem dX11_worms_41 : decode cX11_worms 41 = .ok (.ireturn, 1) := by decide +kernel
theorem dX11_worms_42 : decode cX11_worms 42 = .ok (.iload_n 2, 1) := by decide +kernel
theorem dX11_worms_43 : decode cX11_worms 43 = .ok (.aload_n 0, 1) := by decide +kernel
theorem dX11_worms_44 : decode cX11_worms 44 = .ok (.getfield 10, 3) := by decide +kernel
theorem dX11_worms_47 : decode cX11_worms 47 = .ok (.getfield 131, 3) := by decide +kernel
theorem dX11_worms_50 : decode cX11_worms 50 = .ok (.if_icmp .ge 15, 3) := by decide +kernel
theorem dX11_worms_53 : decode cX11_worms 53 = .ok (.aload_n 0, 1) := by decide +kernel
theorem dX11_worms_54 : decode cX11_worms 54 = .ok (.getfield 10, 3) := by decide +kernel
theorem dX11_worms_57 : decode cX11_worms 57 = .ok (.getfield 135, 3) := by decide +kernel
theorem dX11_worms_60 : decode cX11_worms 60 = .ok (.iload_n 2, 1) := by decide +kernel
theorem dX11_worms_61 : decode cX11_worms 61 = .ok (.iaload, 1) := by decide +kernel
theorem dX11_worms_62 : decode cX11_worms 62 = .ok (.goto 4, 3) := by decide +kernel
theorem dX11_worms_65 : decode cX11_worms 65 = .ok (.iconst (-1), 1) := by decide +kernel
theorem dX11_worms_66 : decode cX11_worms 66 = .ok (.ireturn, 1) := by decide +kernel
set_option maxRecDepth 20000 in
theorem ggX11_led_X7_isHole : GoodIn wsX11_led wsX7_isHole := goodIn_r _ [7, 8, 9, 10, 11, 43, 44, 45, 46, 47, 48, 49, 50, 51] (by decide +kernel) (by decide +kernel)
set_option maxRecDepth 20000 in
theorem gX11_led_X7_isHole : GoodIn wsX11_led (wsV RX11 138 RX7 yX7_isHole wsX7_isHole) := goodIn_app (goodIn_of _ (by decide +kernel)) ggX11_led_X7_isHole
set_option maxRecDepth 20000 in
theorem ggX11_led_X11_isSlack : GoodIn wsX11_led wsX11_isSlack := goodIn_r _ [14, 15, 9, 10, 11] (by decide +kernel) (by decide +kernel)
set_option maxRecDepth 20000 in
theorem gX11_led_X11_isSlack : GoodIn wsX11_led (va_wsS RX11 121 yX11_isSlack wsX11_isSlack) := goodIn_app (goodIn_of _ (by decide +kernel)) ggX11_led_X11_isSlack
set_option maxRecDepth 20000 in
theorem ggX11_led_X7_all : GoodIn wsX11_led wsX7_all := goodIn_r _ [19, 20, 43, 44, 45, 46, 47, 48, 49, 50, 51] (by decide +kernel) (by decide +kernel)
set_option maxRecDepth 20000 in
theorem gX11_led_X7_all : GoodIn wsX11_led (wsV RX11 124 RX7 yX7_all wsX7_all) := goodIn_app (goodIn_of _ (by decide +kernel)) ggX11_led_X7_all
set_option maxRecDepth 20000 in
theorem ggX11_led_X7_findWorms : GoodIn wsX11_led wsX7_findWorms := goodIn_r _ [24, 25, 8, 26, 27, 28, 29, 30, 43, 44, 45, 46, 47, 48, 49, 50, 51] (by decide +kernel) (by decide +kernel)
set_option maxRecDepth 20000 in
theorem gX11_led_X7_findWorms : GoodIn wsX11_led (wsV RX11 127 RX7 yX7_findWorms wsX7_findWorms) := goodIn_app (goodIn_of _ (by decide +kernel)) ggX11_led_X7_findWorms
theorem dX11_led_0 : decode cX11_led 0 = .ok (.aload_n 0, 1) := by decide +kernel
theorem dX11_led_1 : decode cX11_led 1 = .ok (.getfield 10, 3) := by decide +kernel
theorem dX11_led_4 : decode cX11_led 4 = .ok (.iload_n 1, 1) := by decide +kernel
theorem dX11_led_5 : decode cX11_led 5 = .ok (.invokevirtual 138, 3) := by decide +kernel
theorem dX11_led_8 : decode cX11_led 8 = .ok (.ifCond .eq 10, 3) := by decide +kernel
theorem dX11_led_11 : decode cX11_led 11 = .ok (.iload_n 2, 1) := by decide +kernel
theorem dX11_led_12 : decode cX11_led 12 = .ok (.invokestatic 121, 3) := by decide +kernel
theorem dX11_led_15 : decode cX11_led 15 = .ok (.ifCond .ne 5, 3) := by decide +kernel
theorem dX11_led_18 : decode cX11_led 18 = .ok (.iconst (-1), 1) := by decide +kernel
theorem dX11_led_19 : decode cX11_led 19 = .ok (.ireturn, 1) := by decide +kernel
theorem dX11_led_20 : decode cX11_led 20 = .ok (.aload_n 0, 1) := by decide +kernel
theorem dX11_led_21 : decode cX11_led 21 = .ok (.getfield 10, 3) := by decide +kernel
theorem dX11_led_24 : decode cX11_led 24 = .ok (.iload_n 2, 1) := by decide +kernel
theorem dX11_led_25 : decode cX11_led 25 = .ok (.aload_n 0, 1) := by decide +kernel
theorem dX11_led_26 : decode cX11_led 26 = .ok (.getfield 10, 3) := by decide +kernel
theorem dX11_led_29 : decode cX11_led 29 = .ok (.invokevirtual 124, 3) := by decide +kernel
theorem dX11_led_32 : decode cX11_led 32 = .ok (.invokevirtual 127, 3) := by decide +kernel
theorem dX11_led_35 : decode cX11_led 35 = .ok (.aload_n 0, 1) := by decide +kernel
theorem dX11_led_36 : decode cX11_led 36 = .ok (.getfield 10, 3) := by decide +kernel
theorem dX11_led_39 : decode cX11_led 39 = .ok (.getfield 141, 3) := by decide +kernel
theorem dX11_led_42 : decode cX11_led 42 = .ok (.iload_n 1, 1) := by decide +kernel
theorem dX11_led_43 : decode cX11_led 43 = .ok (.iaload, 1) := by decide +kernel
theorem dX11_led_44 : decode cX11_led 44 = .ok (.ireturn, 1) := by decide +kernel
set_option maxRecDepth 20000 in
theorem ggX11_orders_X11_isSlack : GoodIn wsX11_orders wsX11_isSlack := goodIn_r _ [7, 8, 9, 6, 10] (by decide +kernel) (by decide +kernel)
set_option maxRecDepth 20000 in
theorem gX11_orders_X11_isSlack : GoodIn wsX11_orders (va_wsS RX11 121 yX11_isSlack wsX11_isSlack) := goodIn_app (goodIn_of _ (by decide +kernel)) ggX11_orders_X11_isSlack
set_option maxRecDepth 20000 in
theorem ggX11_orders_X11_isBit : GoodIn wsX11_orders wsX11_isBit := goodIn_r _ [13] (by decide +kernel) (by decide +kernel)
set_option maxRecDepth 20000 in
theorem gX11_orders_X11_isBit : GoodIn wsX11_orders (va_wsS RX11 144 yX11_isBit wsX11_isBit) := goodIn_app (goodIn_of _ (by decide +kernel)) ggX11_orders_X11_isBit
set_option maxRecDepth 20000 in
theorem ggX11_orders_X7_all : GoodIn wsX11_orders wsX7_all := goodIn_r _ [18, 19, 88, 89, 90, 91, 92, 93, 94, 95, 96] (by decide +kernel) (by decide +kernel)
set_option maxRecDepth 20000 in
theorem gX11_orders_X7_all : GoodIn wsX11_orders (wsV RX11 124 RX7 yX7_all wsX7_all) := goodIn_app (goodIn_of _ (by decide +kernel)) ggX11_orders_X7_all
set_option maxRecDepth 20000 in
theorem ggX11_orders_X11_findOrders : GoodIn wsX11_orders wsX11_findOrders := goodIn_r _ [23, 1, 3, 24, 25, 26, 27, 28, 17, 29, 30, 31, 32, 33, 34, 35, 36, 37, 38, 39, 40, 41, 42, 43, 44, 45, 46, 47, 48, 49, 50, 51, 52, 53, 54, 55, 56, 57, 6, 58, 59, 60, 61, 62, 63, 76, 77, 78, 79, 80, 81, 82, 83, 84, 85, 86, 87, 88, 89, 90, 91, 92, 93, 94, 95, 96, 97, 98, 99, 100] (by decide +kernel) (by decide +kernel)
set_option maxRecDepth 20000 in
theorem gX11_orders_X11_findOrders : GoodIn wsX11_orders (wsV RX11 150 RX11 yX11_findOrders wsX11_findOrders) := goodIn_app (goodIn_of _ (by decide +kernel)) ggX11_orders_X11_findOrders
set_option maxRecDepth 20000 in
theorem ggX11_orders_X5_howMany : GoodIn wsX11_orders wsX5_howMany := goodIn_r _ [67, 63, 97, 98, 99, 100] (by decide +kernel) (by decide +kernel)
set_option maxRecDepth 20000 in
theorem gX11_orders_X5_howMany : GoodIn wsX11_orders (wsV RX11 153 RX5 yX5_howMany wsX5_howMany) := goodIn_app (goodIn_of _ (by decide +kernel)) ggX11_orders_X5_howMany
set_option maxRecDepth 20000 in
theorem ggX11_orders_X5_firstAsDigits : GoodIn wsX11_orders wsX5_firstAsDigits := goodIn_r _ [71, 63, 42, 72, 73, 74, 40, 75, 43, 57, 6, 58, 97, 98, 99, 100] (by decide +kernel) (by decide +kernel)
set_option maxRecDepth 20000 in
theorem gX11_orders_X5_firstAsDigits : GoodIn wsX11_orders (wsV RX11 156 RX5 yX5_firstAsDigits wsX5_firstAsDigits) := goodIn_app (goodIn_of _ (by decide +kernel)) ggX11_orders_X5_firstAsDigits
theorem dX11_orders_0 : decode cX11_orders 0 = .ok (.iload_n 1, 1) := by decide +kernel
theorem dX11_orders_1 : decode cX11_orders 1 = .ok (.invokestatic 121, 3) := by decide +kernel
theorem dX11_orders_4 : decode cX11_orders 4 = .ok (.ifCond .eq 10, 3) := by decide +kernel
theorem dX11_orders_7 : decode cX11_orders 7 = .ok (.iload_n 2, 1) := by decide +kernel
theorem dX11_orders_8 : decode cX11_orders 8 = .ok (.invokestatic 144, 3) := by decide +kernel
theorem dX11_orders_11 : decode cX11_orders 11 = .ok (.ifCond .ne 5, 3) := by decide +kernel
theorem dX11_orders_14 : decode cX11_orders 14 = .ok (.iconst (-1), 1) := by decide +kernel
theorem dX11_orders_15 : decode cX11_orders 15 = .ok (.ireturn, 1) := by decide +kernel
theorem dX11_orders_16 : decode cX11_orders 16 = .ok (.aload_n 0, 1) := by decide +kernel
theorem dX11_orders_17 : decode cX11_orders 17 = .ok (.getfield 10, 3) := by decide +kernel
theorem dX11_orders_20 : decode cX11_orders 20 = .ok (.getfield 147, 3) := by decide +kernel
theorem dX11_orders_23 : decode cX11_orders 23 = .ok (.bipush 6, 2) := by decide +kernel
theorem dX11_orders_25 : decode cX11_orders 25 = .ok (.if_icmp .le 6, 3) := by decide +kernel
theorem dX11_orders_28 : decode cX11_orders 28 = .ok (.bipush (-4), 2) := by decide +kernel
theorem dX11_orders_30 : decode cX11_orders 30 = .ok (.ireturn, 1) := by decide +kernel
theorem dX11_orders_31 : decode cX11_orders 31 = .ok (.aload_n 0, 1) := by decide +kernel
theorem dX11_orders_32 : decode cX11_orders 32 = .ok (.iload_n 1, 1) := by decide +kernel
theorem dX11_orders_33 : decode cX11_orders 33 = .ok (.aload_n 0, 1) := by decide +kernel
theorem dX11_orders_34 : decode cX11_orders 34 = .ok (.getfield 10, 3) := by decide +kernel
theorem dX11_orders_37 : decode cX11_orders 37 = .ok (.invokevirtual 124, 3) := by decide +kernel
theorem dX11_orders_40 : decode cX11_orders 40 = .ok (.invokevirtual 150, 3) := by decide +kernel
theorem dX11_orders_43 : decode cX11_orders 43 = .ok (.iload_n 2, 1) := by decide +kernel
theorem dX11_orders_44 : decode cX11_orders 44 = .ok (.ifCond .ne 13, 3) := by decide +kernel
theorem dX11_orders_47 : decode cX11_orders 47 = .ok (.aload_n 0, 1) := by decide +kernel
theorem dX11_orders_48 : decode cX11_orders 48 = .ok (.getfield 19, 3) := by decide +kernel
theorem dX11_orders_51 : decode cX11_orders 51 = .ok (.invokevirtual 153, 3) := by decide +kernel
theorem dX11_orders_54 : decode cX11_orders 54 = .ok (.goto 10, 3) := by decide +kernel
theorem dX11_orders_57 : decode cX11_orders 57 = .ok (.aload_n 0, 1) := by decide +kernel
theorem dX11_orders_58 : decode cX11_orders 58 = .ok (.getfield 19, 3) := by decide +kernel
theorem dX11_orders_61 : decode cX11_orders 61 = .ok (.invokevirtual 156, 3) := by decide +kernel
theorem dX11_orders_64 : decode cX11_orders 64 = .ok (.ireturn, 1) := by decide +kernel
set_option maxRecDepth 20000 in
theorem ggX11_side_X11_isSlack : GoodIn wsX11_side wsX11_isSlack := goodIn_r _ [7, 8, 9, 6, 10] (by decide +kernel) (by decide +kernel)
set_option maxRecDepth 20000 in
theorem gX11_side_X11_isSlack : GoodIn wsX11_side (va_wsS RX11 121 yX11_isSlack wsX11_isSlack) := goodIn_app (goodIn_of _ (by decide +kernel)) ggX11_side_X11_isSlack
set_option maxRecDepth 20000 in
theorem ggX11_side_X7_isSheet : GoodIn wsX11_side wsX7_isSheet := goodIn_r _ [15, 16, 9, 6, 10, 95, 96, 97, 98, 99, 100, 101, 102, 103] (by decide +kernel) (by decide +kernel)
set_option maxRecDepth 20000 in
theorem gX11_side_X7_isSheet : GoodIn wsX11_side (wsV RX11 106 RX7 yX7_isSheet wsX7_isSheet) := goodIn_app (goodIn_of _ (by decide +kernel)) ggX11_side_X7_isSheet
set_option maxRecDepth 20000 in
theorem ggX11_side_X11_isBit : GoodIn wsX11_side wsX11_isBit := goodIn_r _ [19] (by decide +kernel) (by decide +kernel)
set_option maxRecDepth 20000 in
theorem gX11_side_X11_isBit : GoodIn wsX11_side (va_wsS RX11 144 yX11_isBit wsX11_isBit) := goodIn_app (goodIn_of _ (by decide +kernel)) ggX11_side_X11_isBit
set_option maxRecDepth 20000 in
theorem ggX11_side_X7_all : GoodIn wsX11_side wsX7_all := goodIn_r _ [23, 16, 95, 96, 97, 98, 99, 100, 101, 102, 103] (by decide +kernel) (by decide +kernel)
set_option maxRecDepth 20000 in
theorem gX11_side_X7_all : GoodIn wsX11_side (wsV RX11 124 RX7 yX7_all wsX7_all) := goodIn_app (goodIn_of _ (by decide +kernel)) ggX11_side_X7_all
set_option maxRecDepth 20000 in
theorem ggX11_side_X11_findOrders : GoodIn wsX11_side wsX11_findOrders := goodIn_r _ [27, 1, 3, 28, 29, 30, 31, 32, 14, 33, 34, 35, 36, 37, 38, 39, 40, 41, 42, 43, 44, 45, 46, 47, 48, 49, 50, 51, 52, 53, 54, 55, 56, 57, 58, 59, 60, 61, 6, 62, 63, 64, 65, 66, 67, 83, 84, 85, 86, 87, 88, 89, 90, 91, 92, 93, 94, 95, 96, 97, 98, 99, 100, 101, 102, 103, 104, 105, 106, 107] (by decide +kernel) (by decide +kernel)
set_option maxRecDepth 20000 in
theorem gX11_side_X11_findOrders : GoodIn wsX11_side (wsV RX11 150 RX11 yX11_findOrders wsX11_findOrders) := goodIn_app (goodIn_of _ (by decide +kernel)) ggX11_side_X11_findOrders
set_option maxRecDepth 20000 in
theorem ggX11_side_X5_howMany : GoodIn wsX11_side wsX5_howMany := goodIn_r _ [71, 67, 104, 105, 106, 107] (by decide +kernel) (by decide +kernel)
set_option maxRecDepth 20000 in
theorem gX11_side_X5_howMany : GoodIn wsX11_side (wsV RX11 153 RX5 yX5_howMany wsX5_howMany) := goodIn_app (goodIn_of _ (by decide +kernel)) ggX11_side_X5_howMany
set_option maxRecDepth 20000 in
theorem ggX11_side_X5_sideBySide : GoodIn wsX11_side wsX5_sideBySide := goodIn_r _ [75, 76, 77, 78, 44, 79, 46, 47, 56, 67, 61, 6, 62, 104, 105, 106, 107] (by decide +kernel) (by decide +kernel)
set_option maxRecDepth 20000 in
theorem gX11_side_X5_sideBySide : GoodIn wsX11_side (wsV RX11 159 RX5 yX5_sideBySide wsX5_sideBySide) := goodIn_app (goodIn_of _ (by decide +kernel)) ggX11_side_X5_sideBySide
set_option maxRecDepth 20000 in
theorem ggX11_side_X11_asBit : GoodIn wsX11_side wsX11_asBit := goodIn_r _ [82] (by decide +kernel) (by decide +kernel)
set_option maxRecDepth 20000 in
theorem gX11_side_X11_asBit : GoodIn wsX11_side (va_wsS RX11 162 yX11_asBit wsX11_asBit) := goodIn_app (goodIn_of _ (by decide +kernel)) ggX11_side_X11_asBit
theorem dX11_side_0 : decode cX11_side 0 = .ok (.iload_n 2, 1) := by decide +kernel
theorem dX11_side_1 : decode cX11_side 1 = .ok (.bipush 10, 2) := by decide +kernel
theorem dX11_side_3 : decode cX11_side 3 = .ok (.idiv, 1) := by decide +kernel
theorem dX11_side_4 : decode cX11_side 4 = .ok (.istore 4, 2) := by decide +kernel
theorem dX11_side_6 : decode cX11_side 6 = .ok (.iload_n 2, 1) := by decide +kernel
theorem dX11_side_7 : decode cX11_side 7 = .ok (.bipush 10, 2) := by decide +kernel
theorem dX11_side_9 : decode cX11_side 9 = .ok (.irem, 1) := by decide +kernel
theorem dX11_side_10 : decode cX11_side 10 = .ok (.istore 5, 2) := by decide +kernel
theorem dX11_side_12 : decode cX11_side 12 = .ok (.iload_n 1, 1) := by decide +kernel
theorem dX11_side_13 : decode cX11_side 13 = .ok (.invokestatic 121, 3) := by decide +kernel
theorem dX11_side_16 : decode cX11_side 16 = .ok (.ifCond .eq 41, 3) := by decide +kernel
theorem dX11_side_19 : decode cX11_side 19 = .ok (.aload_n 0, 1) := by decide +kernel
theorem dX11_side_20 : decode cX11_side 20 = .ok (.getfield 10, 3) := by decide +kernel
theorem dX11_side_23 : decode cX11_side 23 = .ok (.iload 4, 2) := by decide +kernel
theorem dX11_side_25 : decode cX11_side 25 = .ok (.invokevirtual 106, 3) := by decide +kernel
theorem dX11_side_28 : decode cX11_side 28 = .ok (.ifCond .eq 29, 3) := by decide +kernel
theorem dX11_side_31 : decode cX11_side 31 = .ok (.aload_n 0, 1) := by decide +kernel
theorem dX11_side_32 : decode cX11_side 32 = .ok (.getfield 10, 3) := by decide +kernel
theorem dX11_side_35 : decode cX11_side 35 = .ok (.iload 5, 2) := by decide +kernel
theorem dX11_side_37 : decode cX11_side 37 = .ok (.invokevirtual 106, 3) := by decide +kernel
theorem dX11_side_40 : decode cX11_side 40 = .ok (.ifCond .eq 17, 3) := by decide +kernel
theorem dX11_side_43 : decode cX11_side 43 = .ok (.iload 4, 2) := by decide +kernel
theorem dX11_side_45 : decode cX11_side 45 = .ok (.iload 5, 2) := by decide +kernel
theorem dX11_side_47 : decode cX11_side 47 = .ok (.if_icmp .eq 10, 3) := by decide +kernel
theorem dX11_side_50 : decode cX11_side 50 = .ok (.iload_n 3, 1) := by decide +kernel
theorem dX11_side_51 : decode cX11_side 51 = .ok (.invokestatic 144, 3) := by decide +kernel
theorem dX11_side_54 : decode cX11_side 54 = .ok (.ifCond .ne 5, 3) := by decide +kernel
theorem dX11_side_57 : decode cX11_side 57 = .ok (.iconst (-1), 1) := by decide +kernel
theorem dX11_side_58 : decode cX11_side 58 = .ok (.ireturn, 1) := by decide +kernel
theorem dX11_side_59 : decode cX11_side 59 = .ok (.aload_n 0, 1) := by decide +kernel
theorem dX11_side_60 : decode cX11_side 60 = .ok (.getfield 10, 3) := by decide +kernel
theorem dX11_side_63 : decode cX11_side 63 = .ok (.getfield 147, 3) := by decide +kernel
theorem dX11_side_66 : decode cX11_side 66 = .ok (.bipush 6, 2) := by decide +kernel
theorem dX11_side_68 : decode cX11_side 68 = .ok (.if_icmp .le 6, 3) := by decide +kernel
theorem dX11_side_71 : decode cX11_side 71 = .ok (.bipush (-4), 2) := by decide +kernel
theorem dX11_side_73 : decode cX11_side 73 = .ok (.ireturn, 1) := by decide +kernel
theorem dX11_side_74 : decode cX11_side 74 = .ok (.aload_n 0, 1) := by decide +kernel
theorem dX11_side_75 : decode cX11_side 75 = .ok (.iload_n 1, 1) := by decide +kernel
theorem dX11_side_76 : decode cX11_side 76 = .ok (.aload_n 0, 1) := by decide +kernel
theorem dX11_side_77 : decode cX11_side 77 = .ok (.getfield 10, 3) := by decide +kernel
theorem dX11_side_80 : decode cX11_side 80 = .ok (.invokevirtual 124, 3) := by decide +kernel
theorem dX11_side_83 : decode cX11_side 83 = .ok (.invokevirtual 150, 3) := by decide +kernel
theorem dX11_side_86 : decode cX11_side 86 = .ok (.aload_n 0, 1) := by decide +kernel
theorem dX11_side_87 : decode cX11_side 87 = .ok (.getfield 19, 3) := by decide +kernel
theorem dX11_side_90 : decode cX11_side 90 = .ok (.invokevirtual 153, 3) := by decide +kernel
theorem dX11_side_93 : decode cX11_side 93 = .ok (.istore 6, 2) := by decide +kernel
theorem dX11_side_95 : decode cX11_side 95 = .ok (.iload 6, 2) := by decide +kernel
theorem dX11_side_97 : decode cX11_side 97 = .ok (.ifCond .ne 6, 3) := by decide +kernel
theorem dX11_side_100 : decode cX11_side 100 = .ok (.bipush (-2), 2) := by decide +kernel
theorem dX11_side_102 : decode cX11_side 102 = .ok (.ireturn, 1) := by decide +kernel
theorem dX11_side_103 : decode cX11_side 103 = .ok (.aload_n 0, 1) := by decide +kernel
theorem dX11_side_104 : decode cX11_side 104 = .ok (.getfield 19, 3) := by decide +kernel
theorem dX11_side_107 : decode cX11_side 107 = .ok (.iload 4, 2) := by decide +kernel
theorem dX11_side_109 : decode cX11_side 109 = .ok (.iload 5, 2) := by decide +kernel
theorem dX11_side_111 : decode cX11_side 111 = .ok (.invokevirtual 159, 3) := by decide +kernel
theorem dX11_side_114 : decode cX11_side 114 = .ok (.istore 7, 2) := by decide +kernel
theorem dX11_side_116 : decode cX11_side 116 = .ok (.iload_n 3, 1) := by decide +kernel
theorem dX11_side_117 : decode cX11_side 117 = .ok (.ifCond .ne 18, 3) := by decide +kernel
theorem dX11_side_120 : decode cX11_side 120 = .ok (.iload 7, 2) := by decide +kernel
theorem dX11_side_122 : decode cX11_side 122 = .ok (.iload 6, 2) := by decide +kernel
theorem dX11_side_124 : decode cX11_side 124 = .ok (.if_icmp .ne 7, 3) := by decide +kernel
theorem dX11_side_127 : decode cX11_side 127 = .ok (.iconst 1, 1) := by decide +kernel
theorem dX11_side_128 : decode cX11_side 128 = .ok (.goto 17, 3) := by decide +kernel
theorem dX11_side_131 : decode cX11_side 131 = .ok (.iconst 0, 1) := by decide +kernel
theorem dX11_side_132 : decode cX11_side 132 = .ok (.goto 13, 3) := by decide +kernel
theorem dX11_side_135 : decode cX11_side 135 = .ok (.iload 7, 2) := by decide +kernel
theorem dX11_side_137 : decode cX11_side 137 = .ok (.ifCond .le 7, 3) := by decide +kernel
theorem dX11_side_140 : decode cX11_side 140 = .ok (.iconst 1, 1) := by decide +kernel
theorem dX11_side_141 : decode cX11_side 141 = .ok (.goto 4, 3) := by decide +kernel
theorem dX11_side_144 : decode cX11_side 144 = .ok (.iconst 0, 1) := by decide +kernel
theorem dX11_side_145 : decode cX11_side 145 = .ok (.invokestatic 162, 3) := by decide +kernel
theorem dX11_side_148 : decode cX11_side 148 = .ok (.ireturn, 1) := by decide +kernel
set_option maxRecDepth 20000 in
theorem ggX11_without_X11_isSlack : GoodIn wsX11_without wsX11_isSlack := goodIn_r _ [7, 8, 9, 6, 10] (by decide +kernel) (by decide +kernel)
set_option maxRecDepth 20000 in
theorem gX11_without_X11_isSlack : GoodIn wsX11_without (va_wsS RX11 121 yX11_isSlack wsX11_isSlack) := goodIn_app (goodIn_of _ (by decide +kernel)) ggX11_without_X11_isSlack
set_option maxRecDepth 20000 in
theorem ggX11_without_X7_isSheet : GoodIn wsX11_without wsX7_isSheet := goodIn_r _ [15, 16, 9, 6, 10, 81, 82, 83, 84, 85, 86, 87, 88, 89] (by decide +kernel) (by decide +kernel)
set_option maxRecDepth 20000 in
theorem gX11_without_X7_isSheet : GoodIn wsX11_without (wsV RX11 106 RX7 yX7_isSheet wsX7_isSheet) := goodIn_app (goodIn_of _ (by decide +kernel)) ggX11_without_X7_isSheet
set_option maxRecDepth 20000 in
theorem ggX11_without_X7_all : GoodIn wsX11_without wsX7_all := goodIn_r _ [20, 16, 81, 82, 83, 84, 85, 86, 87, 88, 89] (by decide +kernel) (by decide +kernel)
set_option maxRecDepth 20000 in
theorem gX11_without_X7_all : GoodIn wsX11_without (wsV RX11 124 RX7 yX7_all wsX7_all) := goodIn_app (goodIn_of _ (by decide +kernel)) ggX11_without_X7_all
set_option maxRecDepth 20000 in
theorem ggX11_without_X11_findOrders : GoodIn wsX11_without wsX11_findOrders := goodIn_r _ [24, 1, 3, 25, 26, 27, 28, 29, 14, 30, 31, 32, 33, 34, 35, 36, 37, 38, 39, 40, 41, 42, 43, 44, 45, 46, 47, 48, 49, 50, 51, 52, 53, 54, 55, 56, 57, 58, 6, 59, 60, 61, 62, 63, 64, 69, 70, 71, 72, 73, 74, 75, 76, 77, 78, 79, 80, 81, 82, 83, 84, 85, 86, 87, 88, 89, 90, 91, 92, 93] (by decide +kernel) (by decide +kernel)
set_option maxRecDepth 20000 in
theorem gX11_without_X11_findOrders : GoodIn wsX11_without (wsV RX11 150 RX11 yX11_findOrders wsX11_findOrders) := goodIn_app (goodIn_of _ (by decide +kernel)) ggX11_without_X11_findOrders
set_option maxRecDepth 20000 in
theorem ggX11_without_X5_howMany : GoodIn wsX11_without wsX5_howMany := goodIn_r _ [68, 64, 90, 91, 92, 93] (by decide +kernel) (by decide +kernel)
set_option maxRecDepth 20000 in
theorem gX11_without_X5_howMany : GoodIn wsX11_without (wsV RX11 153 RX5 yX5_howMany wsX5_howMany) := goodIn_app (goodIn_of _ (by decide +kernel)) ggX11_without_X5_howMany
theorem dX11_without_0 : decode cX11_without 0 = .ok (.iload_n 1, 1) := by decide +kernel
theorem dX11_without_1 : decode cX11_without 1 = .ok (.invokestatic 121, 3) := by decide +kernel
theorem dX11_without_4 : decode cX11_without 4 = .ok (.ifCond .eq 14, 3) := by decide +kernel
theorem dX11_without_7 : decode cX11_without 7 = .ok (.aload_n 0, 1) := by decide +kernel
theorem dX11_without_8 : decode cX11_without 8 = .ok (.getfield 10, 3) := by decide +kernel
theorem dX11_without_11 : decode cX11_without 11 = .ok (.iload_n 2, 1) := by decide +kernel
theorem dX11_without_12 : decode cX11_without 12 = .ok (.invokevirtual 106, 3) := by decide +kernel
theorem dX11_without_15 : decode cX11_without 15 = .ok (.ifCond .ne 5, 3) := by decide +kernel
theorem dX11_without_18 : decode cX11_without 18 = .ok (.iconst (-1), 1) := by decide +kernel
theorem dX11_without_19 : decode cX11_without 19 = .ok (.ireturn, 1) := by decide +kernel
theorem dX11_without_20 : decode cX11_without 20 = .ok (.aload_n 0, 1) := by decide +kernel
theorem dX11_without_21 : decode cX11_without 21 = .ok (.getfield 10, 3) := by decide +kernel
theorem dX11_without_24 : decode cX11_without 24 = .ok (.getfield 147, 3) := by decide +kernel
theorem dX11_without_27 : decode cX11_without 27 = .ok (.iconst 1, 1) := by decide +kernel
theorem dX11_without_28 : decode cX11_without 28 = .ok (.isub, 1) := by decide +kernel
theorem dX11_without_29 : decode cX11_without 29 = .ok (.bipush 6, 2) := by decide +kernel
theorem dX11_without_31 : decode cX11_without 31 = .ok (.if_icmp .le 6, 3) := by decide +kernel
theorem dX11_without_34 : decode cX11_without 34 = .ok (.bipush (-4), 2) := by decide +kernel
theorem dX11_without_36 : decode cX11_without 36 = .ok (.ireturn, 1) := by decide +kernel
theorem dX11_without_37 : decode cX11_without 37 = .ok (.aload_n 0, 1) := by decide +kernel
theorem dX11_without_38 : decode cX11_without 38 = .ok (.iload_n 1, 1) := by decide +kernel
theorem dX11_without_39 : decode cX11_without 39 = .ok (.aload_n 0, 1) := by decide +kernel
theorem dX11_without_40 : decode cX11_without 40 = .ok (.getfield 10, 3) := by decide +kernel
theorem dX11_without_43 : decode cX11_without 43 = .ok (.invokevirtual 124, 3) := by decide +kernel
theorem dX11_without_46 : decode cX11_without 46 = .ok (.iconst 1, 1) := by decide +kernel
theorem dX11_without_47 : decode cX11_without 47 = .ok (.iload_n 2, 1) := by decide +kernel
theorem dX11_without_48 : decode cX11_without 48 = .ok (.ishl, 1) := by decide +kernel
theorem dX11_without_49 : decode cX11_without 49 = .ok (.iconst (-1), 1) := by decide +kernel
theorem dX11_without_50 : decode cX11_without 50 = .ok (.ixor, 1) := by decide +kernel
theorem dX11_without_51 : decode cX11_without 51 = .ok (.iand, 1) := by decide +kernel
theorem dX11_without_52 : decode cX11_without 52 = .ok (.invokevirtual 150, 3) := by decide +kernel
theorem dX11_without_55 : decode cX11_without 55 = .ok (.aload_n 0, 1) := by decide +kernel
theorem dX11_without_56 : decode cX11_without 56 = .ok (.getfield 19, 3) := by decide +kernel
theorem dX11_without_59 : decode cX11_without 59 = .ok (.invokevirtual 153, 3) := by decide +kernel
theorem dX11_without_62 : decode cX11_without 62 = .ok (.ireturn, 1) := by decide +kernel
set_option maxRecDepth 20000 in
theorem ggX11_findOrders_X7_findWorms : GoodIn wsX11_findOrders wsX7_findWorms := goodIn_r _ [9, 10, 11, 12, 13, 14, 15, 16, 57, 58, 59, 60, 61, 62, 63, 64, 65] (by decide +kernel) (by decide +kernel)
set_option maxRecDepth 20000 in
theorem gX11_findOrders_X7_findWorms : GoodIn wsX11_findOrders (wsV RX11 127 RX7 yX7_findWorms wsX7_findWorms) := goodIn_app (goodIn_of _ (by decide +kernel)) ggX11_findOrders_X7_findWorms
set_option maxRecDepth 20000 in
theorem ggX11_findOrders_X5_lay : GoodIn wsX11_findOrders wsX5_lay := goodIn_r _ [21, 22, 23, 24, 25, 26, 20, 27, 28, 29, 30, 31, 32, 33, 34, 35, 36, 37, 38, 39, 40, 41, 42, 43, 44, 66, 67, 68, 69] (by decide +kernel) (by decide +kernel)
set_option maxRecDepth 20000 in
theorem gX11_findOrders_X5_lay : GoodIn wsX11_findOrders (wsV RX11 166 RX5 yX5_lay wsX5_lay) := goodIn_app (goodIn_of _ (by decide +kernel)) ggX11_findOrders_X5_lay
theorem dX11_findOrders_0 : decode cX11_findOrders 0 = .ok (.aload_n 0, 1) := by decide +kernel
theorem dX11_findOrders_1 : decode cX11_findOrders 1 = .ok (.getfield 10, 3) := by decide +kernel
theorem dX11_findOrders_4 : decode cX11_findOrders 4 = .ok (.iload_n 1, 1) := by decide +kernel
theorem dX11_findOrders_5 : decode cX11_findOrders 5 = .ok (.iload_n 2, 1) := by decide +kernel
theorem dX11_findOrders_6 : decode cX11_findOrders 6 = .ok (.invokevirtual 127, 3) := by decide +kernel
theorem dX11_findOrders_9 : decode cX11_findOrders 9 = .ok (.aload_n 0, 1) := by decide +kernel
theorem dX11_findOrders_10 : decode cX11_findOrders 10 = .ok (.getfield 19, 3) := by decide +kernel
theorem dX11_findOrders_13 : decode cX11_findOrders 13 = .ok (.iload_n 2, 1) := by decide +kernel
theorem dX11_findOrders_14 : decode cX11_findOrders 14 = .ok (.aload_n 0, 1) := by decide +kernel
theorem dX11_findOrders_15 : decode cX11_findOrders 15 = .ok (.getfield 10, 3) := by decide +kernel
theorem dX11_findOrders_18 : decode cX11_findOrders 18 = .ok (.getfield 135, 3) := by decide +kernel
theorem dX11_findOrders_21 : decode cX11_findOrders 21 = .ok (.aload_n 0, 1) := by decide +kernel
theorem dX11_findOrders_22 : decode cX11_findOrders 22 = .ok (.getfield 10, 3) := by decide +kernel
theorem dX11_findOrders_25 : decode cX11_findOrders 25 = .ok (.getfield 131, 3) := by decide +kernel
theorem dX11_findOrders_28 : decode cX11_findOrders 28 = .ok (.invokevirtual 166, 3) := by decide +kernel
theorem dX11_findOrders_31 : decode cX11_findOrders 31 = .ok (.return_, 1) := by decide +kernel
set_option maxRecDepth 20000 in
theorem ggX11_line_X7_isSheet : GoodIn wsX11_line wsX7_isSheet := goodIn_r _ [7, 8, 9, 10, 11, 36, 37, 38, 39, 40, 41, 42, 43, 44] (by decide +kernel) (by decide +kernel)
set_option maxRecDepth 20000 in
theorem gX11_line_X7_isSheet : GoodIn wsX11_line (wsV RX11 106 RX7 yX7_isSheet wsX7_isSheet) := goodIn_app (goodIn_of _ (by decide +kernel)) ggX11_line_X7_isSheet
set_option maxRecDepth 20000 in
theorem ggX11_line_X11_isInk : GoodIn wsX11_line wsX11_isInk := goodIn_r _ [14, 15, 9, 10, 11] (by decide +kernel) (by decide +kernel)
set_option maxRecDepth 20000 in
theorem gX11_line_X11_isInk : GoodIn wsX11_line (va_wsS RX11 170 yX11_isInk wsX11_isInk) := goodIn_app (goodIn_of _ (by decide +kernel)) ggX11_line_X11_isInk
set_option maxRecDepth 20000 in
theorem ggX11_line_X3_add : GoodIn wsX11_line wsX3_add := goodIn_r _ [20, 21, 22, 23, 45, 46, 47, 48, 49, 50, 51, 52, 53, 54] (by decide +kernel) (by decide +kernel)
set_option maxRecDepth 20000 in
theorem gX11_line_X3_add : GoodIn wsX11_line (wsV RX11 173 RX3 yX3_add wsX3_add) := goodIn_app (goodIn_of _ (by decide +kernel)) ggX11_line_X3_add
theorem dX11_line_0 : decode cX11_line 0 = .ok (.aload_n 0, 1) := by decide +kernel
theorem dX11_line_1 : decode cX11_line 1 = .ok (.getfield 10, 3) := by decide +kernel
theorem dX11_line_4 : decode cX11_line 4 = .ok (.iload_n 1, 1) := by decide +kernel
theorem dX11_line_5 : decode cX11_line 5 = .ok (.invokevirtual 106, 3) := by decide +kernel
theorem dX11_line_8 : decode cX11_line 8 = .ok (.ifCond .eq 10, 3) := by decide +kernel
theorem dX11_line_11 : decode cX11_line 11 = .ok (.iload_n 2, 1) := by decide +kernel
theorem dX11_line_12 : decode cX11_line 12 = .ok (.invokestatic 170, 3) := by decide +kernel
theorem dX11_line_15 : decode cX11_line 15 = .ok (.ifCond .ne 5, 3) := by decide +kernel
theorem dX11_line_18 : decode cX11_line 18 = .ok (.iconst (-1), 1) := by decide +kernel
theorem dX11_line_19 : decode cX11_line 19 = .ok (.ireturn, 1) := by decide +kernel
theorem dX11_line_20 : decode cX11_line 20 = .ok (.aload_n 0, 1) := by decide +kernel
theorem dX11_line_21 : decode cX11_line 21 = .ok (.getfield 26, 3) := by decide +kernel
theorem dX11_line_24 : decode cX11_line 24 = .ok (.iload_n 1, 1) := by decide +kernel
theorem dX11_line_25 : decode cX11_line 25 = .ok (.iload_n 2, 1) := by decide +kernel
theorem dX11_line_26 : decode cX11_line 26 = .ok (.invokevirtual 173, 3) := by decide +kernel
theorem dX11_line_29 : decode cX11_line 29 = .ok (.ireturn, 1) := by decide +kernel
set_option maxRecDepth 20000 in
theorem ggX11_mark_X3_isLine : GoodIn wsX11_mark wsX3_isLine := goodIn_r _ [9, 10, 11, 12, 13, 47, 48, 49, 50, 51, 52, 53, 54, 55, 56] (by decide +kernel) (by decide +kernel)
set_option maxRecDepth 20000 in
theorem gX11_mark_X3_isLine : GoodIn wsX11_mark (wsV RX11 175 RX3 yX3_isLine wsX3_isLine) := goodIn_app (goodIn_of _ (by decide +kernel)) ggX11_mark_X3_isLine
set_option maxRecDepth 20000 in
theorem ggX11_mark_X7_isHole : GoodIn wsX11_mark wsX7_isHole := goodIn_r _ [18, 19, 11, 12, 13, 57, 58, 59, 60, 61, 62, 63, 64, 65] (by decide +kernel) (by decide +kernel)
set_option maxRecDepth 20000 in
theorem gX11_mark_X7_isHole : GoodIn wsX11_mark (wsV RX11 138 RX7 yX7_isHole wsX7_isHole) := goodIn_app (goodIn_of _ (by decide +kernel)) ggX11_mark_X7_isHole
set_option maxRecDepth 20000 in
theorem ggX11_mark_X11_isBit : GoodIn wsX11_mark wsX11_isBit := goodIn_r _ [22] (by decide +kernel) (by decide +kernel)
set_option maxRecDepth 20000 in
theorem gX11_mark_X11_isBit : GoodIn wsX11_mark (va_wsS RX11 144 yX11_isBit wsX11_isBit) := goodIn_app (goodIn_of _ (by decide +kernel)) ggX11_mark_X11_isBit
set_option maxRecDepth 20000 in
theorem ggX11_mark_X3_tellMark : GoodIn wsX11_mark wsX3_tellMark := goodIn_r _ [26, 27, 28, 29, 30, 31, 32, 33, 34, 47, 48, 49, 50, 51, 52, 53, 54, 55, 56] (by decide +kernel) (by decide +kernel)
set_option maxRecDepth 20000 in
theorem gX11_mark_X3_tellMark : GoodIn wsX11_mark (wsV RX11 182 RX3 yX3_tellMark wsX3_tellMark) := goodIn_app (goodIn_of _ (by decide +kernel)) ggX11_mark_X3_tellMark
theorem dX11_mark_0 : decode cX11_mark 0 = .ok (.iload_n 1, 1) := by decide +kernel
theorem dX11_mark_1 : decode cX11_mark 1 = .ok (.bipush 100, 2) := by decide +kernel
theorem dX11_mark_3 : decode cX11_mark 3 = .ok (.idiv, 1) := by decide +kernel
theorem dX11_mark_4 : decode cX11_mark 4 = .ok (.istore_n 3, 1) := by decide +kernel
theorem dX11_mark_5 : decode cX11_mark 5 = .ok (.iload_n 1, 1) := by decide +kernel
theorem dX11_mark_6 : decode cX11_mark 6 = .ok (.bipush 100, 2) := by decide +kernel
theorem dX11_mark_8 : decode cX11_mark 8 = .ok (.irem, 1) := by decide +kernel
theorem dX11_mark_9 : decode cX11_mark 9 = .ok (.istore 4, 2) := by decide +kernel
theorem dX11_mark_11 : decode cX11_mark 11 = .ok (.aload_n 0, 1) := by decide +kernel
theorem dX11_mark_12 : decode cX11_mark 12 = .ok (.getfield 26, 3) := by decide +kernel
theorem dX11_mark_15 : decode cX11_mark 15 = .ok (.iload_n 3, 1) := by decide +kernel
theorem dX11_mark_16 : decode cX11_mark 16 = .ok (.invokevirtual 175, 3) := by decide +kernel
theorem dX11_mark_19 : decode cX11_mark 19 = .ok (.ifCond .eq 22, 3) := by decide +kernel
theorem dX11_mark_22 : decode cX11_mark 22 = .ok (.aload_n 0, 1) := by decide +kernel
theorem dX11_mark_23 : decode cX11_mark 23 = .ok (.getfield 10, 3) := by decide +kernel
theorem dX11_mark_26 : decode cX11_mark 26 = .ok (.iload 4, 2) := by decide +kernel
theorem dX11_mark_28 : decode cX11_mark 28 = .ok (.invokevirtual 138, 3) := by decide +kernel
theorem dX11_mark_31 : decode cX11_mark 31 = .ok (.ifCond .eq 10, 3) := by decide +kernel
theorem dX11_mark_34 : decode cX11_mark 34 = .ok (.iload_n 2, 1) := by decide +kernel
theorem dX11_mark_35 : decode cX11_mark 35 = .ok (.invokestatic 144, 3) := by decide +kernel
theorem dX11_mark_38 : decode cX11_mark 38 = .ok (.ifCond .ne 5, 3) := by decide +kernel
theorem dX11_mark_41 : decode cX11_mark 41 = .ok (.iconst (-1), 1) := by decide +kernel
theorem dX11_mark_42 : decode cX11_mark 42 = .ok (.ireturn, 1) := by decide +kernel
theorem dX11_mark_43 : decode cX11_mark 43 = .ok (.aload_n 0, 1) := by decide +kernel
theorem dX11_mark_44 : decode cX11_mark 44 = .ok (.getfield 26, 3) := by decide +kernel
theorem dX11_mark_47 : decode cX11_mark 47 = .ok (.getfield 178, 3) := by decide +kernel
theorem dX11_mark_50 : decode cX11_mark 50 = .ok (.iload_n 3, 1) := by decide +kernel
theorem dX11_mark_51 : decode cX11_mark 51 = .ok (.iaload, 1) := by decide +kernel
theorem dX11_mark_52 : decode cX11_mark 52 = .ok (.aload_n 0, 1) := by decide +kernel
theorem dX11_mark_53 : decode cX11_mark 53 = .ok (.getfield 10, 3) := by decide +kernel
theorem dX11_mark_56 : decode cX11_mark 56 = .ok (.getfield 181, 3) := by decide +kernel
theorem dX11_mark_59 : decode cX11_mark 59 = .ok (.iload 4, 2) := by decide +kernel
theorem dX11_mark_61 : decode cX11_mark 61 = .ok (.iaload, 1) := by decide +kernel
theorem dX11_mark_62 : decode cX11_mark 62 = .ok (.if_icmp .eq 5, 3) := by decide +kernel
theorem dX11_mark_65 : decode cX11_mark 65 = .ok (.iconst (-1), 1) := by decide +kernel
theorem dX11_mark_66 : decode cX11_mark 66 = .ok (.ireturn, 1) := by decide +kernel
theorem dX11_mark_67 : decode cX11_mark 67 = .ok (.aload_n 0, 1) := by decide +kernel
theorem dX11_mark_68 : decode cX11_mark 68 = .ok (.getfield 26, 3) := by decide +kernel
theorem dX11_mark_71 : decode cX11_mark 71 = .ok (.iload_n 3, 1) := by decide +kernel
theorem dX11_mark_72 : decode cX11_mark 72 = .ok (.iload 4, 2) := by decide +kernel
theorem dX11_mark_74 : decode cX11_mark 74 = .ok (.iload_n 2, 1) := by decide +kernel
theorem dX11_mark_75 : decode cX11_mark 75 = .ok (.invokevirtual 182, 3) := by decide +kernel
theorem dX11_mark_78 : decode cX11_mark 78 = .ok (.ireturn, 1) := by decide +kernel
set_option maxRecDepth 20000 in
theorem ggX11_fight_X11_isSlack : GoodIn wsX11_fight wsX11_isSlack := goodIn_r _ [7, 8, 9, 6, 10] (by decide +kernel) (by decide +kernel)
set_option maxRecDepth 20000 in
theorem gX11_fight_X11_isSlack : GoodIn wsX11_fight (va_wsS RX11 121 yX11_isSlack wsX11_isSlack) := goodIn_app (goodIn_of _ (by decide +kernel)) ggX11_fight_X11_isSlack
set_option maxRecDepth 20000 in
theorem ggX11_fight_X11_isBit : GoodIn wsX11_fight wsX11_isBit := goodIn_r _ [13] (by decide +kernel) (by decide +kernel)
set_option maxRecDepth 20000 in
theorem gX11_fight_X11_isBit : GoodIn wsX11_fight (va_wsS RX11 144 yX11_isBit wsX11_isBit) := goodIn_app (goodIn_of _ (by decide +kernel)) ggX11_fight_X11_isBit
set_option maxRecDepth 20000 in
theorem ggX11_fight_X11_findInks : GoodIn wsX11_fight wsX11_findInks := goodIn_r _ [17, 2, 1, 3, 18, 19, 20, 21, 22, 23, 24, 25, 26, 27, 28, 29, 30, 31, 32, 33, 34, 35, 36, 37, 38, 39, 40, 41, 42, 43, 44, 45, 46, 47, 48, 49, 50, 51, 52, 53, 6, 54, 65, 66, 67, 68, 69, 70, 71, 72, 73, 74, 75, 76, 77, 78, 79, 80, 81, 82, 83, 84, 85, 86, 87, 88, 89, 90, 91, 92, 93, 94, 95] (by decide +kernel) (by decide +kernel)
set_option maxRecDepth 20000 in
theorem gX11_fight_X11_findInks : GoodIn wsX11_fight (wsV RX11 185 RX11 yX11_findInks wsX11_findInks) := goodIn_app (goodIn_of _ (by decide +kernel)) ggX11_fight_X11_findInks
set_option maxRecDepth 20000 in
theorem ggX11_fight_X3_firstFighting : GoodIn wsX11_fight wsX3_firstFighting := goodIn_r _ [58, 59, 60, 61, 62, 39, 63, 44, 47, 48, 45, 42, 46, 53, 6, 54, 86, 87, 88, 89, 90, 91, 92, 93, 94, 95] (by decide +kernel) (by decide +kernel)
set_option maxRecDepth 20000 in
theorem gX11_fight_X3_firstFighting : GoodIn wsX11_fight (wsV RX11 189 RX3 yX3_firstFighting wsX3_firstFighting) := goodIn_app (goodIn_of _ (by decide +kernel)) ggX11_fight_X3_firstFighting
set_option maxRecDepth 20000 in
theorem ggX11_fight_X3_foughtWorm : GoodIn wsX11_fight wsX3_foughtWorm := goodIn_r _ [63, 44, 47, 48, 45, 42, 46, 53, 6, 54, 86, 87, 88, 89, 90, 91, 92, 93, 94, 95] (by decide +kernel) (by decide +kernel)
set_option maxRecDepth 20000 in
theorem gX11_fight_X3_foughtWorm : GoodIn wsX11_fight (wsV RX11 193 RX3 yX3_foughtWorm wsX3_foughtWorm) := goodIn_app (goodIn_of _ (by decide +kernel)) ggX11_fight_X3_foughtWorm
theorem dX11_fight_0 : decode cX11_fight 0 = .ok (.iload_n 1, 1) := by decide +kernel
theorem dX11_fight_1 : decode cX11_fight 1 = .ok (.invokestatic 121, 3) := by decide +kernel
theorem dX11_fight_4 : decode cX11_fight 4 = .ok (.ifCond .eq 10, 3) := by decide +kernel
theorem dX11_fight_7 : decode cX11_fight 7 = .ok (.iload_n 2, 1) := by decide +kernel
theorem dX11_fight_8 : decode cX11_fight 8 = .ok (.invokestatic 144, 3) := by decide +kernel
theorem dX11_fight_11 : decode cX11_fight 11 = .ok (.ifCond .ne 5, 3) := by decide +kernel
theorem dX11_fight_14 : decode cX11_fight 14 = .ok (.iconst (-1), 1) := by decide +kernel
theorem dX11_fight_15 : decode cX11_fight 15 = .ok (.ireturn, 1) := by decide +kernel
theorem dX11_fight_16 : decode cX11_fight 16 = .ok (.aload_n 0, 1) := by decide +kernel
theorem dX11_fight_17 : decode cX11_fight 17 = .ok (.iload_n 1, 1) := by decide +kernel
theorem dX11_fight_18 : decode cX11_fight 18 = .ok (.invokevirtual 185, 3) := by decide +kernel
theorem dX11_fight_21 : decode cX11_fight 21 = .ok (.aload_n 0, 1) := by decide +kernel
theorem dX11_fight_22 : decode cX11_fight 22 = .ok (.getfield 26, 3) := by decide +kernel
theorem dX11_fight_25 : decode cX11_fight 25 = .ok (.aload_n 0, 1) := by decide +kernel
theorem dX11_fight_26 : decode cX11_fight 26 = .ok (.getfield 10, 3) := by decide +kernel
theorem dX11_fight_29 : decode cX11_fight 29 = .ok (.getfield 141, 3) := by decide +kernel
theorem dX11_fight_32 : decode cX11_fight 32 = .ok (.invokevirtual 189, 3) := by decide +kernel
theorem dX11_fight_35 : decode cX11_fight 35 = .ok (.istore_n 3, 1) := by decide +kernel
theorem dX11_fight_36 : decode cX11_fight 36 = .ok (.iload_n 3, 1) := by decide +kernel
theorem dX11_fight_37 : decode cX11_fight 37 = .ok (.ifCond .ge 6, 3) := by decide +kernel
theorem dX11_fight_40 : decode cX11_fight 40 = .ok (.bipush (-2), 2) := by decide +kernel
theorem dX11_fight_42 : decode cX11_fight 42 = .ok (.ireturn, 1) := by decide +kernel
theorem dX11_fight_43 : decode cX11_fight 43 = .ok (.iload_n 2, 1) := by decide +kernel
theorem dX11_fight_44 : decode cX11_fight 44 = .ok (.ifCond .ne 7, 3) := by decide +kernel
theorem dX11_fight_47 : decode cX11_fight 47 = .ok (.iload_n 3, 1) := by decide +kernel
theorem dX11_fight_48 : decode cX11_fight 48 = .ok (.goto 18, 3) := by decide +kernel
theorem dX11_fight_51 : decode cX11_fight 51 = .ok (.aload_n 0, 1) := by decide +kernel
theorem dX11_fight_52 : decode cX11_fight 52 = .ok (.getfield 26, 3) := by decide +kernel
theorem dX11_fight_55 : decode cX11_fight 55 = .ok (.iload_n 3, 1) := by decide +kernel
theorem dX11_fight_56 : decode cX11_fight 56 = .ok (.aload_n 0, 1) := by decide +kernel
theorem dX11_fight_57 : decode cX11_fight 57 = .ok (.getfield 10, 3) := by decide +kernel
theorem dX11_fight_60 : decode cX11_fight 60 = .ok (.getfield 141, 3) := by decide +kernel
theorem dX11_fight_63 : decode cX11_fight 63 = .ok (.invokevirtual 193, 3) := by decide +kernel
theorem dX11_fight_66 : decode cX11_fight 66 = .ok (.ireturn, 1) := by decide +kernel
set_option maxRecDepth 20000 in
theorem ggX11_inks_X11_isSlack : GoodIn wsX11_inks wsX11_isSlack := goodIn_r _ [5, 6, 7, 4, 8] (by decide +kernel) (by decide +kernel)
set_option maxRecDepth 20000 in
theorem gX11_inks_X11_isSlack : GoodIn wsX11_inks (va_wsS RX11 121 yX11_isSlack wsX11_isSlack) := goodIn_app (goodIn_of _ (by decide +kernel)) ggX11_inks_X11_isSlack
set_option maxRecDepth 20000 in
theorem ggX11_inks_X11_findInks : GoodIn wsX11_inks wsX11_findInks := goodIn_r _ [12, 13, 1, 14, 15, 16, 17, 18, 19, 20, 21, 22, 23, 24, 25, 26, 27, 28, 29, 30, 31, 32, 33, 34, 35, 36, 37, 38, 39, 40, 41, 42, 43, 44, 45, 46, 47, 48, 49, 50, 4, 51, 76, 77, 78, 79, 80, 81, 82, 83, 84, 85, 86, 87, 88, 89, 90, 91, 92, 93, 94, 95, 96, 97, 98, 99, 100, 101, 102, 103, 104, 105, 106] (by decide +kernel) (by decide +kernel)
set_option maxRecDepth 20000 in
theorem gX11_inks_X11_findInks : GoodIn wsX11_inks (wsV RX11 185 RX11 yX11_findInks wsX11_findInks) := goodIn_app (goodIn_of _ (by decide +kernel)) ggX11_inks_X11_findInks
set_option maxRecDepth 20000 in
theorem ggX11_inks_X3_firstInk : GoodIn wsX11_inks wsX3_firstInk := goodIn_r _ [55, 40, 56, 57, 58, 36, 59, 60, 43, 97, 98, 99, 100, 101, 102, 103, 104, 105, 106] (by decide +kernel) (by decide +kernel)
set_option maxRecDepth 20000 in
theorem gX11_inks_X3_firstInk : GoodIn wsX11_inks (wsV RX11 197 RX3 yX3_firstInk wsX3_firstInk) := goodIn_app (goodIn_of _ (by decide +kernel)) ggX11_inks_X3_firstInk
set_option maxRecDepth 20000 in
theorem ggX11_inks_X3_leastRing : GoodIn wsX11_inks wsX3_leastRing := goodIn_r _ [64, 65, 66, 67, 36, 68, 40, 50, 4, 51, 97, 98, 99, 100, 101, 102, 103, 104, 105, 106] (by decide +kernel) (by decide +kernel)
set_option maxRecDepth 20000 in
theorem gX11_inks_X3_leastRing : GoodIn wsX11_inks (wsV RX11 200 RX3 yX3_leastRing wsX3_leastRing) := goodIn_app (goodIn_of _ (by decide +kernel)) ggX11_inks_X3_leastRing
set_option maxRecDepth 20000 in
theorem ggX11_inks_X11_isInk : GoodIn wsX11_inks wsX11_isInk := goodIn_r _ [71, 6, 7, 4, 8] (by decide +kernel) (by decide +kernel)
set_option maxRecDepth 20000 in
theorem gX11_inks_X11_isInk : GoodIn wsX11_inks (va_wsS RX11 170 yX11_isInk wsX11_isInk) := goodIn_app (goodIn_of _ (by decide +kernel)) ggX11_inks_X11_isInk
set_option maxRecDepth 20000 in
theorem ggX11_inks_X3_cameAhead : GoodIn wsX11_inks wsX3_cameAhead := goodIn_r _ [68, 40, 50, 4, 51, 97, 98, 99, 100, 101, 102, 103, 104, 105, 106] (by decide +kernel) (by decide +kernel)
set_option maxRecDepth 20000 in
theorem gX11_inks_X3_cameAhead : GoodIn wsX11_inks (wsV RX11 203 RX3 yX3_cameAhead wsX3_cameAhead) := goodIn_app (goodIn_of _ (by decide +kernel)) ggX11_inks_X3_cameAhead
set_option maxRecDepth 20000 in
theorem ggX11_inks_X11_asBit : GoodIn wsX11_inks wsX11_asBit := goodIn_r _ [75] (by decide +kernel) (by decide +kernel)
set_option maxRecDepth 20000 in
theorem gX11_inks_X11_asBit : GoodIn wsX11_inks (va_wsS RX11 162 yX11_asBit wsX11_asBit) := goodIn_app (goodIn_of _ (by decide +kernel)) ggX11_inks_X11_asBit
theorem dX11_inks_0 : decode cX11_inks 0 = .ok (.iload_n 1, 1) := by decide +kernel
theorem dX11_inks_1 : decode cX11_inks 1 = .ok (.invokestatic 121, 3) := by decide +kernel
theorem dX11_inks_4 : decode cX11_inks 4 = .ok (.ifCond .ne 5, 3) := by decide +kernel
theorem dX11_inks_7 : decode cX11_inks 7 = .ok (.iconst (-1), 1) := by decide +kernel
theorem dX11_inks_8 : decode cX11_inks 8 = .ok (.ireturn, 1) := by decide +kernel
theorem dX11_inks_9 : decode cX11_inks 9 = .ok (.aload_n 0, 1) := by decide +kernel
theorem dX11_inks_10 : decode cX11_inks 10 = .ok (.iload_n 1, 1) := by decide +kernel
theorem dX11_inks_11 : decode cX11_inks 11 = .ok (.invokevirtual 185, 3) := by decide +kernel
theorem dX11_inks_14 : decode cX11_inks 14 = .ok (.iload_n 2, 1) := by decide +kernel
theorem dX11_inks_15 : decode cX11_inks 15 = .ok (.iconst (-1), 1) := by decide +kernel
theorem dX11_inks_16 : decode cX11_inks 16 = .ok (.if_icmp .ne 11, 3) := by decide +kernel
theorem dX11_inks_19 : decode cX11_inks 19 = .ok (.aload_n 0, 1) := by decide +kernel
theorem dX11_inks_20 : decode cX11_inks 20 = .ok (.getfield 26, 3) := by decide +kernel
theorem dX11_inks_23 : decode cX11_inks 23 = .ok (.invokevirtual 197, 3) := by decide +kernel
theorem dX11_inks_26 : decode cX11_inks 26 = .ok (.ireturn, 1) := by decide +kernel
theorem dX11_inks_27 : decode cX11_inks 27 = .ok (.iload_n 2, 1) := by decide +kernel
theorem dX11_inks_28 : decode cX11_inks 28 = .ok (.bipush (-2), 2) := by decide +kernel
theorem dX11_inks_30 : decode cX11_inks 30 = .ok (.if_icmp .ne 11, 3) := by decide +kernel
theorem dX11_inks_33 : decode cX11_inks 33 = .ok (.aload_n 0, 1) := by decide +kernel
theorem dX11_inks_34 : decode cX11_inks 34 = .ok (.getfield 26, 3) := by decide +kernel
theorem dX11_inks_37 : decode cX11_inks 37 = .ok (.invokevirtual 200, 3) := by decide +kernel
theorem dX11_inks_40 : decode cX11_inks 40 = .ok (.ireturn, 1) := by decide +kernel
theorem dX11_inks_41 : decode cX11_inks 41 = .ok (.iload_n 2, 1) := by decide +kernel
theorem dX11_inks_42 : decode cX11_inks 42 = .ok (.bipush 10, 2) := by decide +kernel
theorem dX11_inks_44 : decode cX11_inks 44 = .ok (.idiv, 1) := by decide +kernel
theorem dX11_inks_45 : decode cX11_inks 45 = .ok (.istore_n 3, 1) := by decide +kernel
theorem dX11_inks_46 : decode cX11_inks 46 = .ok (.iload_n 2, 1) := by decide +kernel
theorem dX11_inks_47 : decode cX11_inks 47 = .ok (.bipush 10, 2) := by decide +kernel
theorem dX11_inks_49 : decode cX11_inks 49 = .ok (.irem, 1) := by decide +kernel
theorem dX11_inks_50 : decode cX11_inks 50 = .ok (.istore 4, 2) := by decide +kernel
theorem dX11_inks_52 : decode cX11_inks 52 = .ok (.iload_n 3, 1) := by decide +kernel
theorem dX11_inks_53 : decode cX11_inks 53 = .ok (.invokestatic 170, 3) := by decide +kernel
theorem dX11_inks_56 : decode cX11_inks 56 = .ok (.ifCond .eq 17, 3) := by decide +kernel
theorem dX11_inks_59 : decode cX11_inks 59 = .ok (.iload 4, 2) := by decide +kernel
theorem dX11_inks_61 : decode cX11_inks 61 = .ok (.invokestatic 170, 3) := by decide +kernel
theorem dX11_inks_64 : decode cX11_inks 64 = .ok (.ifCond .eq 9, 3) := by decide +kernel
theorem dX11_inks_67 : decode cX11_inks 67 = .ok (.iload_n 3, 1) := by decide +kernel
theorem dX11_inks_68 : decode cX11_inks 68 = .ok (.iload 4, 2) := by decide +kernel
theorem dX11_inks_70 : decode cX11_inks 70 = .ok (.if_icmp .ne 5, 3) := by decide +kernel
theorem dX11_inks_73 : decode cX11_inks 73 = .ok (.iconst (-1), 1) := by decide +kernel
theorem dX11_inks_74 : decode cX11_inks 74 = .ok (.ireturn, 1) := by decide +kernel
theorem dX11_inks_75 : decode cX11_inks 75 = .ok (.aload_n 0, 1) := by decide +kernel
theorem dX11_inks_76 : decode cX11_inks 76 = .ok (.getfield 26, 3) := by decide +kernel
theorem dX11_inks_79 : decode cX11_inks 79 = .ok (.iload_n 3, 1) := by decide +kernel
theorem dX11_inks_80 : decode cX11_inks 80 = .ok (.iload 4, 2) := by decide +kernel
theorem dX11_inks_82 : decode cX11_inks 82 = .ok (.invokevirtual 203, 3) := by decide +kernel
theorem dX11_inks_85 : decode cX11_inks 85 = .ok (.invokestatic 162, 3) := by decide +kernel
theorem dX11_inks_88 : decode cX11_inks 88 = .ok (.ireturn, 1) := by decide +kernel
set_option maxRecDepth 20000 in
theorem ggX11_findInks_X7_all : GoodIn wsX11_findInks wsX7_all := goodIn_r _ [9, 10, 54, 55, 56, 57, 58, 59, 60, 61, 62] (by decide +kernel) (by decide +kernel)
set_option maxRecDepth 20000 in
theorem gX11_findInks_X7_all : GoodIn wsX11_findInks (wsV RX11 124 RX7 yX7_all wsX7_all) := goodIn_app (goodIn_of _ (by decide +kernel)) ggX11_findInks_X7_all
set_option maxRecDepth 20000 in
theorem ggX11_findInks_X7_findWorms : GoodIn wsX11_findInks wsX7_findWorms := goodIn_r _ [14, 15, 16, 17, 18, 19, 20, 21, 54, 55, 56, 57, 58, 59, 60, 61, 62] (by decide +kernel) (by decide +kernel)
set_option maxRecDepth 20000 in
theorem gX11_findInks_X7_findWorms : GoodIn wsX11_findInks (wsV RX11 127 RX7 yX7_findWorms wsX7_findWorms) := goodIn_app (goodIn_of _ (by decide +kernel)) ggX11_findInks_X7_findWorms
set_option maxRecDepth 20000 in
theorem ggX11_findInks_X3_findInks : GoodIn wsX11_findInks wsX3_findInks := goodIn_r _ [26, 27, 28, 29, 30, 31, 32, 33, 34, 35, 36, 37, 38, 39, 40, 41, 63, 64, 65, 66, 67, 68, 69, 70, 71, 72] (by decide +kernel) (by decide +kernel)
set_option maxRecDepth 20000 in
theorem gX11_findInks_X3_findInks : GoodIn wsX11_findInks (wsV RX11 207 RX3 yX3_findInks wsX3_findInks) := goodIn_app (goodIn_of _ (by decide +kernel)) ggX11_findInks_X3_findInks
theorem dX11_findInks_0 : decode cX11_findInks 0 = .ok (.aload_n 0, 1) := by decide +kernel
theorem dX11_findInks_1 : decode cX11_findInks 1 = .ok (.getfield 10, 3) := by decide +kernel
theorem dX11_findInks_4 : decode cX11_findInks 4 = .ok (.iload_n 1, 1) := by decide +kernel
theorem dX11_findInks_5 : decode cX11_findInks 5 = .ok (.aload_n 0, 1) := by decide +kernel
theorem dX11_findInks_6 : decode cX11_findInks 6 = .ok (.getfield 10, 3) := by decide +kernel
theorem dX11_findInks_9 : decode cX11_findInks 9 = .ok (.invokevirtual 124, 3) := by decide +kernel
theorem dX11_findInks_12 : decode cX11_findInks 12 = .ok (.invokevirtual 127, 3) := by decide +kernel
theorem dX11_findInks_15 : decode cX11_findInks 15 = .ok (.aload_n 0, 1) := by decide +kernel
theorem dX11_findInks_16 : decode cX11_findInks 16 = .ok (.getfield 26, 3) := by decide +kernel
theorem dX11_findInks_19 : decode cX11_findInks 19 = .ok (.aload_n 0, 1) := by decide +kernel
theorem dX11_findInks_20 : decode cX11_findInks 20 = .ok (.getfield 10, 3) := by decide +kernel
theorem dX11_findInks_23 : decode cX11_findInks 23 = .ok (.getfield 141, 3) := by decide +kernel
theorem dX11_findInks_26 : decode cX11_findInks 26 = .ok (.aload_n 0, 1) := by decide +kernel
theorem dX11_findInks_27 : decode cX11_findInks 27 = .ok (.getfield 10, 3) := by decide +kernel
theorem dX11_findInks_30 : decode cX11_findInks 30 = .ok (.getfield 131, 3) := by decide +kernel
theorem dX11_findInks_33 : decode cX11_findInks 33 = .ok (.invokevirtual 207, 3) := by decide +kernel
theorem dX11_findInks_36 : decode cX11_findInks 36 = .ok (.return_, 1) := by decide +kernel
set_option maxRecDepth 20000 in
theorem ggX11_dot_X11_isDot : GoodIn wsX11_dot wsX11_isDot := goodIn_r _ [5, 6, 7, 4, 8, 9, 10, 11] (by decide +kernel) (by decide +kernel)
set_option maxRecDepth 20000 in
theorem gX11_dot_X11_isDot : GoodIn wsX11_dot (va_wsS RX11 210 yX11_isDot wsX11_isDot) := goodIn_app (goodIn_of _ (by decide +kernel)) ggX11_dot_X11_isDot
set_option maxRecDepth 20000 in
theorem ggX11_dot_X2_add : GoodIn wsX11_dot wsX2_add := goodIn_r _ [16, 17, 18, 19, 20, 21, 22, 23, 15, 24, 37, 38, 39, 40, 41, 42, 43, 44] (by decide +kernel) (by decide +kernel)
set_option maxRecDepth 20000 in
theorem gX11_dot_X2_add : GoodIn wsX11_dot (wsV RX11 213 RX2 yX2_add wsX2_add) := goodIn_app (goodIn_of _ (by decide +kernel)) ggX11_dot_X2_add
theorem dX11_dot_0 : decode cX11_dot 0 = .ok (.iload_n 1, 1) := by decide +kernel
theorem dX11_dot_1 : decode cX11_dot 1 = .ok (.bipush 10, 2) := by decide +kernel
theorem dX11_dot_3 : decode cX11_dot 3 = .ok (.idiv, 1) := by decide +kernel
theorem dX11_dot_4 : decode cX11_dot 4 = .ok (.istore_n 3, 1) := by decide +kernel
theorem dX11_dot_5 : decode cX11_dot 5 = .ok (.iload_n 1, 1) := by decide +kernel
theorem dX11_dot_6 : decode cX11_dot 6 = .ok (.bipush 10, 2) := by decide +kernel
theorem dX11_dot_8 : decode cX11_dot 8 = .ok (.irem, 1) := by decide +kernel
theorem dX11_dot_9 : decode cX11_dot 9 = .ok (.istore 4, 2) := by decide +kernel
theorem dX11_dot_11 : decode cX11_dot 11 = .ok (.iload_n 3, 1) := by decide +kernel
theorem dX11_dot_12 : decode cX11_dot 12 = .ok (.iload 4, 2) := by decide +kernel
theorem dX11_dot_14 : decode cX11_dot 14 = .ok (.iload_n 2, 1) := by decide +kernel
theorem dX11_dot_15 : decode cX11_dot 15 = .ok (.invokestatic 210, 3) := by decide +kernel
theorem dX11_dot_18 : decode cX11_dot 18 = .ok (.ifCond .ne 5, 3) := by decide +kernel
theorem dX11_dot_21 : decode cX11_dot 21 = .ok (.iconst (-1), 1) := by decide +kernel
theorem dX11_dot_22 : decode cX11_dot 22 = .ok (.ireturn, 1) := by decide +kernel
theorem dX11_dot_23 : decode cX11_dot 23 = .ok (.aload_n 0, 1) := by decide +kernel
theorem dX11_dot_24 : decode cX11_dot 24 = .ok (.getfield 33, 3) := by decide +kernel
theorem dX11_dot_27 : decode cX11_dot 27 = .ok (.iload_n 3, 1) := by decide +kernel
theorem dX11_dot_28 : decode cX11_dot 28 = .ok (.iload 4, 2) := by decide +kernel
theorem dX11_dot_30 : decode cX11_dot 30 = .ok (.iload_n 2, 1) := by decide +kernel
theorem dX11_dot_31 : decode cX11_dot 31 = .ok (.invokevirtual 213, 3) := by decide +kernel
theorem dX11_dot_34 : decode cX11_dot 34 = .ok (.ireturn, 1) := by decide +kernel
set_option maxRecDepth 20000 in
theorem ggX11_mend_X2_isOne : GoodIn wsX11_mend wsX2_isOne := goodIn_r _ [6, 7, 8, 9, 10, 60, 61, 62, 63, 64, 65, 66, 67] (by decide +kernel) (by decide +kernel)
set_option maxRecDepth 20000 in
theorem gX11_mend_X2_isOne : GoodIn wsX11_mend (wsV RX11 215 RX2 yX2_isOne wsX2_isOne) := goodIn_app (goodIn_of _ (by decide +kernel)) ggX11_mend_X2_isOne
set_option maxRecDepth 20000 in
theorem ggX11_mend_X11_isStuff : GoodIn wsX11_mend wsX11_isStuff := goodIn_r _ [13, 14, 8, 9, 10] (by decide +kernel) (by decide +kernel)
set_option maxRecDepth 20000 in
theorem gX11_mend_X11_isStuff : GoodIn wsX11_mend (va_wsS RX11 218 yX11_isStuff wsX11_isStuff) := goodIn_app (goodIn_of _ (by decide +kernel)) ggX11_mend_X11_isStuff
set_option maxRecDepth 20000 in
theorem ggX11_mend_X11_change : GoodIn wsX11_mend wsX11_change := goodIn_r _ [18, 19, 20, 21, 22, 9, 23, 1, 24, 25, 26, 27, 28, 14, 8, 10, 29, 30, 31, 32, 33, 34, 35, 36, 37, 38, 39, 40, 41, 42, 43, 44, 45, 46, 47, 48, 49, 50, 51, 52, 53, 54, 55, 56, 57, 58, 59, 60, 61, 62, 63, 64, 65, 66, 67, 68, 69, 70, 71, 72, 73, 74, 75, 76, 77, 78, 79, 80, 81, 82, 83, 84, 85, 86, 87, 88, 89] (by decide +kernel) (by decide +kernel)
set_option maxRecDepth 20000 in
theorem gX11_mend_X11_change : GoodIn wsX11_mend (wsV RX11 109 RX11 yX11_change wsX11_change) := goodIn_app (goodIn_of _ (by decide +kernel)) ggX11_mend_X11_change
theorem dX11_mend_0 : decode cX11_mend 0 = .ok (.aload_n 0, 1) := by decide +kernel
theorem dX11_mend_1 : decode cX11_mend 1 = .ok (.getfield 33, 3) := by decide +kernel
theorem dX11_mend_4 : decode cX11_mend 4 = .ok (.iload_n 1, 1) := by decide +kernel
theorem dX11_mend_5 : decode cX11_mend 5 = .ok (.invokevirtual 215, 3) := by decide +kernel
theorem dX11_mend_8 : decode cX11_mend 8 = .ok (.ifCond .eq 10, 3) := by decide +kernel
theorem dX11_mend_11 : decode cX11_mend 11 = .ok (.iload_n 2, 1) := by decide +kernel
theorem dX11_mend_12 : decode cX11_mend 12 = .ok (.invokestatic 218, 3) := by decide +kernel
theorem dX11_mend_15 : decode cX11_mend 15 = .ok (.ifCond .ne 5, 3) := by decide +kernel
theorem dX11_mend_18 : decode cX11_mend 18 = .ok (.iconst (-1), 1) := by decide +kernel
theorem dX11_mend_19 : decode cX11_mend 19 = .ok (.ireturn, 1) := by decide +kernel
theorem dX11_mend_20 : decode cX11_mend 20 = .ok (.aload_n 0, 1) := by decide +kernel
theorem dX11_mend_21 : decode cX11_mend 21 = .ok (.iconst 0, 1) := by decide +kernel
theorem dX11_mend_22 : decode cX11_mend 22 = .ok (.iload_n 1, 1) := by decide +kernel
theorem dX11_mend_23 : decode cX11_mend 23 = .ok (.iload_n 2, 1) := by decide +kernel
theorem dX11_mend_24 : decode cX11_mend 24 = .ok (.invokevirtual 109, 3) := by decide +kernel
theorem dX11_mend_27 : decode cX11_mend 27 = .ok (.ireturn, 1) := by decide +kernel
set_option maxRecDepth 20000 in
theorem ggX11_dots_X8_isShelf : GoodIn wsX11_dots wsX8_isShelf := goodIn_r _ [6, 7, 8, 9, 10, 63, 64, 65, 66] (by decide +kernel) (by decide +kernel)
set_option maxRecDepth 20000 in
theorem gX11_dots_X8_isShelf : GoodIn wsX11_dots (wsV RX11 221 RX8 yX8_isShelf wsX8_isShelf) := goodIn_app (goodIn_of _ (by decide +kernel)) ggX11_dots_X8_isShelf
set_option maxRecDepth 20000 in
theorem ggX11_dots_X11_within : GoodIn wsX11_dots wsX11_within := goodIn_r _ [10] (by decide +kernel) (by decide +kernel)
set_option maxRecDepth 20000 in
theorem gX11_dots_X11_within : GoodIn wsX11_dots (va_wsS RX11 113 yX11_within wsX11_within) := goodIn_app (goodIn_of _ (by decide +kernel)) ggX11_dots_X11_within
set_option maxRecDepth 20000 in
theorem ggX11_dots_X8_isBare : GoodIn wsX11_dots wsX8_isBare := goodIn_r _ [15, 7, 63, 64, 65, 66] (by decide +kernel) (by decide +kernel)
set_option maxRecDepth 20000 in
theorem gX11_dots_X8_isBare : GoodIn wsX11_dots (wsV RX11 224 RX8 yX8_isBare wsX8_isBare) := goodIn_app (goodIn_of _ (by decide +kernel)) ggX11_dots_X8_isBare
set_option maxRecDepth 20000 in
theorem ggX11_dots_X8_holdsSort : GoodIn wsX11_dots wsX8_holdsSort := goodIn_r _ [19, 7, 63, 64, 65, 66] (by decide +kernel) (by decide +kernel)
set_option maxRecDepth 20000 in
theorem gX11_dots_X8_holdsSort : GoodIn wsX11_dots (wsV RX11 227 RX8 yX8_holdsSort wsX8_holdsSort) := goodIn_app (goodIn_of _ (by decide +kernel)) ggX11_dots_X8_holdsSort
set_option maxRecDepth 20000 in
theorem ggX11_dots_X11_dotComes : GoodIn wsX11_dots wsX11_dotComes := goodIn_r _ [23, 24, 1, 25, 26, 27, 28, 29, 30, 31, 32, 33, 34, 35, 5, 36, 37, 38, 39, 9, 40, 11, 8, 10, 41, 42, 43, 44, 45, 46, 47, 48, 49, 50, 51, 52, 53, 54, 55, 56, 57, 58, 59, 60, 61, 62, 63, 64, 65, 66, 67, 68, 69, 70, 71, 72, 73, 74] (by decide +kernel) (by decide +kernel)
set_option maxRecDepth 20000 in
theorem gX11_dots_X11_dotComes : GoodIn wsX11_dots (wsV RX11 230 RX11 yX11_dotComes wsX11_dotComes) := goodIn_app (goodIn_of _ (by decide +kernel)) ggX11_dots_X11_dotComes
theorem dX11_dots_0 : decode cX11_dots 0 = .ok (.aload_n 0, 1) := by decide +kernel
theorem dX11_dots_1 : decode cX11_dots 1 = .ok (.getfield 82, 3) := by decide +kernel
theorem dX11_dots_4 : decode cX11_dots 4 = .ok (.iload_n 1, 1) := by decide +kernel
theorem dX11_dots_5 : decode cX11_dots 5 = .ok (.invokevirtual 221, 3) := by decide +kernel
theorem dX11_dots_8 : decode cX11_dots 8 = .ok (.ifCond .eq 13, 3) := by decide +kernel
theorem dX11_dots_11 : decode cX11_dots 11 = .ok (.iload_n 3, 1) := by decide +kernel
theorem dX11_dots_12 : decode cX11_dots 12 = .ok (.iconst 1, 1) := by decide +kernel
theorem dX11_dots_13 : decode cX11_dots 13 = .ok (.bipush 20, 2) := by decide +kernel
theorem dX11_dots_15 : decode cX11_dots 15 = .ok (.invokestatic 113, 3) := by decide +kernel
theorem dX11_dots_18 : decode cX11_dots 18 = .ok (.ifCond .ne 5, 3) := by decide +kernel
theorem dX11_dots_21 : decode cX11_dots 21 = .ok (.iconst (-1), 1) := by decide +kernel
theorem dX11_dots_22 : decode cX11_dots 22 = .ok (.ireturn, 1) := by decide +kernel
theorem dX11_dots_23 : decode cX11_dots 23 = .ok (.aload_n 0, 1) := by decide +kernel
theorem dX11_dots_24 : decode cX11_dots 24 = .ok (.getfield 82, 3) := by decide +kernel
theorem dX11_dots_27 : decode cX11_dots 27 = .ok (.iload_n 1, 1) := by decide +kernel
theorem dX11_dots_28 : decode cX11_dots 28 = .ok (.invokevirtual 224, 3) := by decide +kernel
theorem dX11_dots_31 : decode cX11_dots 31 = .ok (.ifCond .eq 5, 3) := by decide +kernel
theorem dX11_dots_34 : decode cX11_dots 34 = .ok (.iconst 0, 1) := by decide +kernel
theorem dX11_dots_35 : decode cX11_dots 35 = .ok (.ireturn, 1) := by decide +kernel
theorem dX11_dots_36 : decode cX11_dots 36 = .ok (.aload_n 0, 1) := by decide +kernel
theorem dX11_dots_37 : decode cX11_dots 37 = .ok (.getfield 82, 3) := by decide +kernel
theorem dX11_dots_40 : decode cX11_dots 40 = .ok (.iload_n 1, 1) := by decide +kernel
theorem dX11_dots_41 : decode cX11_dots 41 = .ok (.iconst 1, 1) := by decide +kernel
theorem dX11_dots_42 : decode cX11_dots 42 = .ok (.invokevirtual 227, 3) := by decide +kernel
theorem dX11_dots_45 : decode cX11_dots 45 = .ok (.ifCond .ne 6, 3) := by decide +kernel
theorem dX11_dots_48 : decode cX11_dots 48 = .ok (.bipush (-12), 2) := by decide +kernel
theorem dX11_dots_50 : decode cX11_dots 50 = .ok (.ireturn, 1) := by decide +kernel
theorem dX11_dots_51 : decode cX11_dots 51 = .ok (.iconst 0, 1) := by decide +kernel
theorem dX11_dots_52 : decode cX11_dots 52 = .ok (.istore 4, 2) := by decide +kernel
theorem dX11_dots_54 : decode cX11_dots 54 = .ok (.iconst 0, 1) := by decide +kernel
theorem dX11_dots_55 : decode cX11_dots 55 = .ok (.istore 5, 2) := by decide +kernel
theorem dX11_dots_57 : decode cX11_dots 57 = .ok (.iload 5, 2) := by decide +kernel
theorem dX11_dots_59 : decode cX11_dots 59 = .ok (.iload_n 3, 1) := by decide +kernel
theorem dX11_dots_60 : decode cX11_dots 60 = .ok (.if_icmp .ge 29, 3) := by decide +kernel
theorem dX11_dots_63 : decode cX11_dots 63 = .ok (.aload_n 0, 1) := by decide +kernel
theorem dX11_dots_64 : decode cX11_dots 64 = .ok (.iload_n 1, 1) := by decide +kernel
theorem dX11_dots_65 : decode cX11_dots 65 = .ok (.iload_n 2, 1) := by decide +kernel
theorem dX11_dots_66 : decode cX11_dots 66 = .ok (.iconst 3, 1) := by decide +kernel
theorem dX11_dots_67 : decode cX11_dots 67 = .ok (.iload 5, 2) := by decide +kernel
theorem dX11_dots_69 : decode cX11_dots 69 = .ok (.imul, 1) := by decide +kernel
theorem dX11_dots_70 : decode cX11_dots 70 = .ok (.iadd, 1) := by decide +kernel
theorem dX11_dots_71 : decode cX11_dots 71 = .ok (.invokevirtual 230, 3) := by decide +kernel
theorem dX11_dots_74 : decode cX11_dots 74 = .ok (.ifCond .ne 6, 3) := by decide +kernel
theorem dX11_dots_77 : decode cX11_dots 77 = .ok (.goto 12, 3) := by decide +kernel
theorem dX11_dots_80 : decode cX11_dots 80 = .ok (.iinc 4 1, 3) := by decide +kernel
theorem dX11_dots_83 : decode cX11_dots 83 = .ok (.iinc 5 1, 3) := by decide +kernel
theorem dX11_dots_86 : decode cX11_dots 86 = .ok (.goto (-29), 3) := by decide +kernel
theorem dX11_dots_89 : decode cX11_dots 89 = .ok (.iload 4, 2) := by decide +kernel
theorem dX11_dots_91 : decode cX11_dots 91 = .ok (.ireturn, 1) := by decide +kernel
set_option maxRecDepth 20000 in
theorem ggX11_dotComes_X2_isFull : GoodIn wsX11_dotComes wsX2_isFull := goodIn_r _ [8, 9, 10, 50, 51, 52, 53, 54, 55, 56, 57] (by decide +kernel) (by decide +kernel)
set_option maxRecDepth 20000 in
theorem gX11_dotComes_X2_isFull : GoodIn wsX11_dotComes (wsV RX11 233 RX2 yX2_isFull wsX2_isFull) := goodIn_app (goodIn_of _ (by decide +kernel)) ggX11_dotComes_X2_isFull
set_option maxRecDepth 20000 in
theorem ggX11_dotComes_X8_hasPlaces : GoodIn wsX11_dotComes wsX8_hasPlaces := goodIn_r _ [15, 16, 46, 47, 48, 49] (by decide +kernel) (by decide +kernel)
set_option maxRecDepth 20000 in
theorem gX11_dotComes_X8_hasPlaces : GoodIn wsX11_dotComes (wsV RX11 237 RX8 yX8_hasPlaces wsX8_hasPlaces) := goodIn_app (goodIn_of _ (by decide +kernel)) ggX11_dotComes_X8_hasPlaces
set_option maxRecDepth 20000 in
theorem ggX11_dotComes_X11_isDot : GoodIn wsX11_dotComes wsX11_isDot := goodIn_r _ [20, 21, 22, 19, 23, 24, 25, 26] (by decide +kernel) (by decide +kernel)
set_option maxRecDepth 20000 in
theorem gX11_dotComes_X11_isDot : GoodIn wsX11_dotComes (va_wsS RX11 210 yX11_isDot wsX11_isDot) := goodIn_app (goodIn_of _ (by decide +kernel)) ggX11_dotComes_X11_isDot
set_option maxRecDepth 20000 in
theorem ggX11_dotComes_X2_add : GoodIn wsX11_dotComes wsX2_add := goodIn_r _ [30, 31, 9, 32, 10, 33, 5, 6, 7, 8, 50, 51, 52, 53, 54, 55, 56, 57] (by decide +kernel) (by decide +kernel)
set_option maxRecDepth 20000 in
theorem gX11_dotComes_X2_add : GoodIn wsX11_dotComes (wsV RX11 213 RX2 yX2_add wsX2_add) := goodIn_app (goodIn_of _ (by decide +kernel)) ggX11_dotComes_X2_add
theorem dX11_dotComes_0 : decode cX11_dotComes 0 = .ok (.aload_n 0, 1) := by decide +kernel
theorem dX11_dotComes_1 : decode cX11_dotComes 1 = .ok (.getfield 33, 3) := by decide +kernel
theorem dX11_dotComes_4 : decode cX11_dotComes 4 = .ok (.invokevirtual 233, 3) := by decide +kernel
theorem dX11_dotComes_7 : decode cX11_dotComes 7 = .ok (.ifCond .ne 16, 3) := by decide +kernel
theorem dX11_dotComes_10 : decode cX11_dotComes 10 = .ok (.aload_n 0, 1) := by decide +kernel
theorem dX11_dotComes_11 : decode cX11_dotComes 11 = .ok (.getfield 82, 3) := by decide +kernel
theorem dX11_dotComes_14 : decode cX11_dotComes 14 = .ok (.iload_n 1, 1) := by decide +kernel
theorem dX11_dotComes_15 : decode cX11_dotComes 15 = .ok (.iload_n 2, 1) := by decide +kernel
theorem dX11_dotComes_16 : decode cX11_dotComes 16 = .ok (.iconst 3, 1) := by decide +kernel
theorem dX11_dotComes_17 : decode cX11_dotComes 17 = .ok (.invokevirtual 237, 3) := by decide +kernel
theorem dX11_dotComes_20 : decode cX11_dotComes 20 = .ok (.ifCond .ne 5, 3) := by decide +kernel
theorem dX11_dotComes_23 : decode cX11_dotComes 23 = .ok (.iconst 0, 1) := by decide +kernel
theorem dX11_dotComes_24 : decode cX11_dotComes 24 = .ok (.ireturn, 1) := by decide +kernel
theorem dX11_dotComes_25 : decode cX11_dotComes 25 = .ok (.aload_n 0, 1) := by decide +kernel
theorem dX11_dotComes_26 : decode cX11_dotComes 26 = .ok (.getfield 82, 3) := by decide +kernel
theorem dX11_dotComes_29 : decode cX11_dotComes 29 = .ok (.getfield 240, 3) := by decide +kernel
theorem dX11_dotComes_32 : decode cX11_dotComes 32 = .ok (.iload_n 1, 1) := by decide +kernel
theorem dX11_dotComes_33 : decode cX11_dotComes 33 = .ok (.aaload, 1) := by decide +kernel
