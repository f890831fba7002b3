theorem dX12_well_76 : decode cX12_well 76 = .ok (.iload_n 1, 1) := by decide +kernel
theorem dX12_well_77 : decode cX12_well 77 = .ok (.if_icmp .gt 6, 3) := by decide +kernel
theorem dX12_well_80 : decode cX12_well 80 = .ok (.goto 64, 3) := by decide +kernel
theorem dX12_well_83 : decode cX12_well 83 = .ok (.iload 5, 2) := by decide +kernel
theorem dX12_well_85 : decode cX12_well 85 = .ok (.ldc 255, 2) := by decide +kernel
theorem dX12_well_87 : decode cX12_well 87 = .ok (.imul, 1) := by decide +kernel
theorem dX12_well_88 : decode cX12_well 88 = .ok (.sipush 12345, 3) := by decide +kernel
theorem dX12_well_91 : decode cX12_well 91 = .ok (.iadd, 1) := by decide +kernel
theorem dX12_well_92 : decode cX12_well 92 = .ok (.istore 5, 2) := by decide +kernel
theorem dX12_well_94 : decode cX12_well 94 = .ok (.iload 5, 2) := by decide +kernel
theorem dX12_well_96 : decode cX12_well 96 = .ok (.bipush 8, 2) := by decide +kernel
theorem dX12_well_98 : decode cX12_well 98 = .ok (.iushr, 1) := by decide +kernel
theorem dX12_well_99 : decode cX12_well 99 = .ok (.bipush 100, 2) := by decide +kernel
theorem dX12_well_101 : decode cX12_well 101 = .ok (.irem, 1) := by decide +kernel
theorem dX12_well_102 : decode cX12_well 102 = .ok (.istore 10, 2) := by decide +kernel
theorem dX12_well_104 : decode cX12_well 104 = .ok (.iload 5, 2) := by decide +kernel
theorem dX12_well_106 : decode cX12_well 106 = .ok (.ldc 255, 2) := by decide +kernel
theorem dX12_well_108 : decode cX12_well 108 = .ok (.imul, 1) := by decide +kernel
theorem dX12_well_109 : decode cX12_well 109 = .ok (.sipush 12345, 3) := by decide +kernel
theorem dX12_well_112 : decode cX12_well 112 = .ok (.iadd, 1) := by decide +kernel
theorem dX12_well_113 : decode cX12_well 113 = .ok (.istore 5, 2) := by decide +kernel
theorem dX12_well_115 : decode cX12_well 115 = .ok (.iload 8, 2) := by decide +kernel
theorem dX12_well_117 : decode cX12_well 117 = .ok (.aload_n 0, 1) := by decide +kernel
theorem dX12_well_118 : decode cX12_well 118 = .ok (.getfield 74, 3) := by decide +kernel
theorem dX12_well_121 : decode cX12_well 121 = .ok (.iload 9, 2) := by decide +kernel
theorem dX12_well_123 : decode cX12_well 123 = .ok (.iaload, 1) := by decide +kernel
theorem dX12_well_124 : decode cX12_well 124 = .ok (.bipush 100, 2) := by decide +kernel
theorem dX12_well_126 : decode cX12_well 126 = .ok (.iload 10, 2) := by decide +kernel
theorem dX12_well_128 : decode cX12_well 128 = .ok (.imul, 1) := by decide +kernel
theorem dX12_well_129 : decode cX12_well 129 = .ok (.iload 5, 2) := by decide +kernel
theorem dX12_well_131 : decode cX12_well 131 = .ok (.bipush 8, 2) := by decide +kernel
theorem dX12_well_133 : decode cX12_well 133 = .ok (.iushr, 1) := by decide +kernel
theorem dX12_well_134 : decode cX12_well 134 = .ok (.bipush 100, 2) := by decide +kernel
theorem dX12_well_136 : decode cX12_well 136 = .ok (.irem, 1) := by decide +kernel
theorem dX12_well_137 : decode cX12_well 137 = .ok (.iadd, 1) := by decide +kernel
theorem dX12_well_138 : decode cX12_well 138 = .ok (.invokestatic 268, 3) := by decide +kernel
theorem dX12_well_141 : decode cX12_well 141 = .ok (.iadd, 1) := by decide +kernel
theorem dX12_well_142 : decode cX12_well 142 = .ok (.istore 8, 2) := by decide +kernel
theorem dX12_well_144 : decode cX12_well 144 = .ok (.iinc 9 1, 3) := by decide +kernel
theorem dX12_well_147 : decode cX12_well 147 = .ok (.goto (-87), 3) := by decide +kernel
theorem dX12_well_150 : decode cX12_well 150 = .ok (.iload 6, 2) := by decide +kernel
theorem dX12_well_152 : decode cX12_well 152 = .ok (.iload 8, 2) := by decide +kernel
theorem dX12_well_154 : decode cX12_well 154 = .ok (.iload 4, 2) := by decide +kernel
theorem dX12_well_156 : decode cX12_well 156 = .ok (.if_icmp .gt 7, 3) := by decide +kernel
theorem dX12_well_159 : decode cX12_well 159 = .ok (.iconst 1, 1) := by decide +kernel
theorem dX12_well_160 : decode cX12_well 160 = .ok (.goto 4, 3) := by decide +kernel
theorem dX12_well_163 : decode cX12_well 163 = .ok (.iconst 0, 1) := by decide +kernel
theorem dX12_well_164 : decode cX12_well 164 = .ok (.iadd, 1) := by decide +kernel
theorem dX12_well_165 : decode cX12_well 165 = .ok (.istore 6, 2) := by decide +kernel
theorem dX12_well_167 : decode cX12_well 167 = .ok (.iinc 7 1, 3) := by decide +kernel
theorem dX12_well_170 : decode cX12_well 170 = .ok (.goto (-122), 3) := by decide +kernel
theorem dX12_well_173 : decode cX12_well 173 = .ok (.iload 6, 2) := by decide +kernel
theorem dX12_well_175 : decode cX12_well 175 = .ok (.ireturn, 1) := by decide +kernel
set_option maxRecDepth 20000 in
theorem ggX12_isMap_X12_within : GoodIn wsX12_isMap wsX12_within := goodIn_r _ [5] rfl (by decide +kernel)
set_option maxRecDepth 20000 in
theorem gX12_isMap_X12_within : GoodIn wsX12_isMap (va_wsS RX12 136 yX12_within wsX12_within) := goodIn_app (goodIn_of _ (by decide +kernel)) ggX12_isMap_X12_within
theorem dX12_isMap_0 : decode cX12_isMap 0 = .ok (.iload_n 1, 1) := by decide +kernel
theorem dX12_isMap_1 : decode cX12_isMap 1 = .ok (.i2l, 1) := by decide +kernel
theorem dX12_isMap_2 : decode cX12_isMap 2 = .ok (.lconst 0, 1) := by decide +kernel
theorem dX12_isMap_3 : decode cX12_isMap 3 = .ok (.aload_n 0, 1) := by decide +kernel
theorem dX12_isMap_4 : decode cX12_isMap 4 = .ok (.getfield 277, 3) := by decide +kernel
theorem dX12_isMap_7 : decode cX12_isMap 7 = .ok (.iconst 1, 1) := by decide +kernel
theorem dX12_isMap_8 : decode cX12_isMap 8 = .ok (.isub, 1) := by decide +kernel
theorem dX12_isMap_9 : decode cX12_isMap 9 = .ok (.i2l, 1) := by decide +kernel
theorem dX12_isMap_10 : decode cX12_isMap 10 = .ok (.invokestatic 136, 3) := by decide +kernel
theorem dX12_isMap_13 : decode cX12_isMap 13 = .ok (.ireturn, 1) := by decide +kernel
set_option maxRecDepth 20000 in
theorem ggX12_map_X12_isYear : GoodIn wsX12_map wsX12_isYear := goodIn_r _ [8, 9, 10, 11, 7, 12] rfl (by decide +kernel)
set_option maxRecDepth 20000 in
theorem gX12_map_X12_isYear : GoodIn wsX12_map (va_wsS RX12 147 yX12_isYear wsX12_isYear) := goodIn_app (goodIn_of _ (by decide +kernel)) ggX12_map_X12_isYear
set_option maxRecDepth 20000 in
theorem ggX12_map_X12_within : GoodIn wsX12_map wsX12_within := goodIn_r _ [12] rfl (by decide +kernel)
set_option maxRecDepth 20000 in
theorem gX12_map_X12_within : GoodIn wsX12_map (va_wsS RX12 136 yX12_within wsX12_within) := goodIn_app (goodIn_of _ (by decide +kernel)) ggX12_map_X12_within
theorem dX12_map_0 : decode cX12_map 0 = .ok (.iload_n 1, 1) := by decide +kernel
theorem dX12_map_1 : decode cX12_map 1 = .ok (.invokestatic 147, 3) := by decide +kernel
theorem dX12_map_4 : decode cX12_map 4 = .ok (.ifCond .eq 15, 3) := by decide +kernel
theorem dX12_map_7 : decode cX12_map 7 = .ok (.iload_n 2, 1) := by decide +kernel
theorem dX12_map_8 : decode cX12_map 8 = .ok (.i2l, 1) := by decide +kernel
theorem dX12_map_9 : decode cX12_map 9 = .ok (.lconst 0, 1) := by decide +kernel
theorem dX12_map_10 : decode cX12_map 10 = .ok (.ldc2_w 280, 3) := by decide +kernel
theorem dX12_map_13 : decode cX12_map 13 = .ok (.invokestatic 136, 3) := by decide +kernel
theorem dX12_map_16 : decode cX12_map 16 = .ok (.ifCond .ne 5, 3) := by decide +kernel
theorem dX12_map_19 : decode cX12_map 19 = .ok (.iconst (-1), 1) := by decide +kernel
theorem dX12_map_20 : decode cX12_map 20 = .ok (.ireturn, 1) := by decide +kernel
theorem dX12_map_21 : decode cX12_map 21 = .ok (.aload_n 0, 1) := by decide +kernel
theorem dX12_map_22 : decode cX12_map 22 = .ok (.getfield 277, 3) := by decide +kernel
theorem dX12_map_25 : decode cX12_map 25 = .ok (.bipush 8, 2) := by decide +kernel
theorem dX12_map_27 : decode cX12_map 27 = .ok (.if_icmp .ne 6, 3) := by decide +kernel
theorem dX12_map_30 : decode cX12_map 30 = .ok (.bipush (-3), 2) := by decide +kernel
theorem dX12_map_32 : decode cX12_map 32 = .ok (.ireturn, 1) := by decide +kernel
theorem dX12_map_33 : decode cX12_map 33 = .ok (.aload_n 0, 1) := by decide +kernel
theorem dX12_map_34 : decode cX12_map 34 = .ok (.getfield 80, 3) := by decide +kernel
theorem dX12_map_37 : decode cX12_map 37 = .ok (.aload_n 0, 1) := by decide +kernel
theorem dX12_map_38 : decode cX12_map 38 = .ok (.getfield 277, 3) := by decide +kernel
theorem dX12_map_41 : decode cX12_map 41 = .ok (.iload_n 1, 1) := by decide +kernel
theorem dX12_map_42 : decode cX12_map 42 = .ok (.iastore, 1) := by decide +kernel
theorem dX12_map_43 : decode cX12_map 43 = .ok (.aload_n 0, 1) := by decide +kernel
theorem dX12_map_44 : decode cX12_map 44 = .ok (.getfield 83, 3) := by decide +kernel
theorem dX12_map_47 : decode cX12_map 47 = .ok (.aload_n 0, 1) := by decide +kernel
theorem dX12_map_48 : decode cX12_map 48 = .ok (.getfield 277, 3) := by decide +kernel
theorem dX12_map_51 : decode cX12_map 51 = .ok (.iload_n 2, 1) := by decide +kernel
theorem dX12_map_52 : decode cX12_map 52 = .ok (.iastore, 1) := by decide +kernel
theorem dX12_map_53 : decode cX12_map 53 = .ok (.aload_n 0, 1) := by decide +kernel
theorem dX12_map_54 : decode cX12_map 54 = .ok (.dup, 1) := by decide +kernel
theorem dX12_map_55 : decode cX12_map 55 = .ok (.getfield 277, 3) := by decide +kernel
theorem dX12_map_58 : decode cX12_map 58 = .ok (.iconst 1, 1) := by decide +kernel
theorem dX12_map_59 : decode cX12_map 59 = .ok (.iadd, 1) := by decide +kernel
theorem dX12_map_60 : decode cX12_map 60 = .ok (.putfield 277, 3) := by decide +kernel
theorem dX12_map_63 : decode cX12_map 63 = .ok (.aload_n 0, 1) := by decide +kernel
theorem dX12_map_64 : decode cX12_map 64 = .ok (.getfield 277, 3) := by decide +kernel
theorem dX12_map_67 : decode cX12_map 67 = .ok (.iconst 1, 1) := by decide +kernel
theorem dX12_map_68 : decode cX12_map 68 = .ok (.isub, 1) := by decide +kernel
theorem dX12_map_69 : decode cX12_map 69 = .ok (.ireturn, 1) := by decide +kernel
set_option maxRecDepth 20000 in
theorem ggX12_unlike_X12_bitsOf : GoodIn wsX12_unlike wsX12_bitsOf := goodIn_r _ [5] rfl (by decide +kernel)
set_option maxRecDepth 20000 in
theorem gX12_unlike_X12_bitsOf : GoodIn wsX12_unlike (va_wsS RX12 282 yX12_bitsOf wsX12_bitsOf) := goodIn_app (goodIn_of _ (by decide +kernel)) ggX12_unlike_X12_bitsOf
theorem dX12_unlike_0 : decode cX12_unlike 0 = .ok (.aload_n 0, 1) := by decide +kernel
theorem dX12_unlike_1 : decode cX12_unlike 1 = .ok (.getfield 83, 3) := by decide +kernel
theorem dX12_unlike_4 : decode cX12_unlike 4 = .ok (.iload_n 1, 1) := by decide +kernel
theorem dX12_unlike_5 : decode cX12_unlike 5 = .ok (.iaload, 1) := by decide +kernel
theorem dX12_unlike_6 : decode cX12_unlike 6 = .ok (.aload_n 0, 1) := by decide +kernel
theorem dX12_unlike_7 : decode cX12_unlike 7 = .ok (.getfield 83, 3) := by decide +kernel
theorem dX12_unlike_10 : decode cX12_unlike 10 = .ok (.iload_n 2, 1) := by decide +kernel
theorem dX12_unlike_11 : decode cX12_unlike 11 = .ok (.iaload, 1) := by decide +kernel
theorem dX12_unlike_12 : decode cX12_unlike 12 = .ok (.ixor, 1) := by decide +kernel
theorem dX12_unlike_13 : decode cX12_unlike 13 = .ok (.invokestatic 282, 3) := by decide +kernel
theorem dX12_unlike_16 : decode cX12_unlike 16 = .ok (.ireturn, 1) := by decide +kernel
set_option maxRecDepth 20000 in
theorem ggX12_fatherOf_X12_unlike : GoodIn wsX12_fatherOf wsX12_unlike := goodIn_r _ [7, 8, 9, 10, 6, 11, 12, 13, 14, 15, 16, 17, 18, 19, 20, 21, 22, 23, 24, 25, 26, 27, 28, 29, 30, 31, 32, 33, 34, 35, 36, 37, 38, 39, 40, 41, 42, 43, 44, 45, 46, 47, 48, 49, 50, 51, 52, 53, 54, 55, 56, 57, 58, 59, 60, 61, 62, 63, 64, 65, 66, 67, 68, 69, 70, 71, 72, 73, 74] rfl (by decide +kernel)
set_option maxRecDepth 20000 in
theorem gX12_fatherOf_X12_unlike : GoodIn wsX12_fatherOf (wsV RX12 285 RX12 yX12_unlike wsX12_unlike) := goodIn_app (goodIn_of _ (by decide +kernel)) ggX12_fatherOf_X12_unlike
theorem dX12_fatherOf_0 : decode cX12_fatherOf 0 = .ok (.bipush (-2), 2) := by decide +kernel
theorem dX12_fatherOf_2 : decode cX12_fatherOf 2 = .ok (.istore_n 2, 1) := by decide +kernel
theorem dX12_fatherOf_3 : decode cX12_fatherOf 3 = .ok (.iconst 0, 1) := by decide +kernel
theorem dX12_fatherOf_4 : decode cX12_fatherOf 4 = .ok (.istore_n 3, 1) := by decide +kernel
theorem dX12_fatherOf_5 : decode cX12_fatherOf 5 = .ok (.iload_n 3, 1) := by decide +kernel
theorem dX12_fatherOf_6 : decode cX12_fatherOf 6 = .ok (.aload_n 0, 1) := by decide +kernel
theorem dX12_fatherOf_7 : decode cX12_fatherOf 7 = .ok (.getfield 277, 3) := by decide +kernel
theorem dX12_fatherOf_10 : decode cX12_fatherOf 10 = .ok (.if_icmp .ge 94, 3) := by decide +kernel
theorem dX12_fatherOf_13 : decode cX12_fatherOf 13 = .ok (.aload_n 0, 1) := by decide +kernel
theorem dX12_fatherOf_14 : decode cX12_fatherOf 14 = .ok (.getfield 80, 3) := by decide +kernel
theorem dX12_fatherOf_17 : decode cX12_fatherOf 17 = .ok (.iload_n 3, 1) := by decide +kernel
theorem dX12_fatherOf_18 : decode cX12_fatherOf 18 = .ok (.iaload, 1) := by decide +kernel
theorem dX12_fatherOf_19 : decode cX12_fatherOf 19 = .ok (.aload_n 0, 1) := by decide +kernel
theorem dX12_fatherOf_20 : decode cX12_fatherOf 20 = .ok (.getfield 80, 3) := by decide +kernel
theorem dX12_fatherOf_23 : decode cX12_fatherOf 23 = .ok (.iload_n 1, 1) := by decide +kernel
theorem dX12_fatherOf_24 : decode cX12_fatherOf 24 = .ok (.iaload, 1) := by decide +kernel
theorem dX12_fatherOf_25 : decode cX12_fatherOf 25 = .ok (.if_icmp .lt 6, 3) := by decide +kernel
theorem dX12_fatherOf_28 : decode cX12_fatherOf 28 = .ok (.goto 70, 3) := by decide +kernel
theorem dX12_fatherOf_31 : decode cX12_fatherOf 31 = .ok (.iload_n 2, 1) := by decide +kernel
theorem dX12_fatherOf_32 : decode cX12_fatherOf 32 = .ok (.ifCond .lt 48, 3) := by decide +kernel
theorem dX12_fatherOf_35 : decode cX12_fatherOf 35 = .ok (.aload_n 0, 1) := by decide +kernel
theorem dX12_fatherOf_36 : decode cX12_fatherOf 36 = .ok (.iload_n 1, 1) := by decide +kernel
theorem dX12_fatherOf_37 : decode cX12_fatherOf 37 = .ok (.iload_n 3, 1) := by decide +kernel
theorem dX12_fatherOf_38 : decode cX12_fatherOf 38 = .ok (.invokevirtual 285, 3) := by decide +kernel
theorem dX12_fatherOf_41 : decode cX12_fatherOf 41 = .ok (.aload_n 0, 1) := by decide +kernel
theorem dX12_fatherOf_42 : decode cX12_fatherOf 42 = .ok (.iload_n 1, 1) := by decide +kernel
theorem dX12_fatherOf_43 : decode cX12_fatherOf 43 = .ok (.iload_n 2, 1) := by decide +kernel
theorem dX12_fatherOf_44 : decode cX12_fatherOf 44 = .ok (.invokevirtual 285, 3) := by decide +kernel
theorem dX12_fatherOf_47 : decode cX12_fatherOf 47 = .ok (.if_icmp .lt 33, 3) := by decide +kernel
theorem dX12_fatherOf_50 : decode cX12_fatherOf 50 = .ok (.aload_n 0, 1) := by decide +kernel
theorem dX12_fatherOf_51 : decode cX12_fatherOf 51 = .ok (.iload_n 1, 1) := by decide +kernel
theorem dX12_fatherOf_52 : decode cX12_fatherOf 52 = .ok (.iload_n 3, 1) := by decide +kernel
theorem dX12_fatherOf_53 : decode cX12_fatherOf 53 = .ok (.invokevirtual 285, 3) := by decide +kernel
theorem dX12_fatherOf_56 : decode cX12_fatherOf 56 = .ok (.aload_n 0, 1) := by decide +kernel
theorem dX12_fatherOf_57 : decode cX12_fatherOf 57 = .ok (.iload_n 1, 1) := by decide +kernel
theorem dX12_fatherOf_58 : decode cX12_fatherOf 58 = .ok (.iload_n 2, 1) := by decide +kernel
theorem dX12_fatherOf_59 : decode cX12_fatherOf 59 = .ok (.invokevirtual 285, 3) := by decide +kernel
theorem dX12_fatherOf_62 : decode cX12_fatherOf 62 = .ok (.if_icmp .ne 22, 3) := by decide +kernel
theorem dX12_fatherOf_65 : decode cX12_fatherOf 65 = .ok (.aload_n 0, 1) := by decide +kernel
theorem dX12_fatherOf_66 : decode cX12_fatherOf 66 = .ok (.getfield 80, 3) := by decide +kernel
theorem dX12_fatherOf_69 : decode cX12_fatherOf 69 = .ok (.iload_n 3, 1) := by decide +kernel
theorem dX12_fatherOf_70 : decode cX12_fatherOf 70 = .ok (.iaload, 1) := by decide +kernel
theorem dX12_fatherOf_71 : decode cX12_fatherOf 71 = .ok (.aload_n 0, 1) := by decide +kernel
theorem dX12_fatherOf_72 : decode cX12_fatherOf 72 = .ok (.getfield 80, 3) := by decide +kernel
theorem dX12_fatherOf_75 : decode cX12_fatherOf 75 = .ok (.iload_n 2, 1) := by decide +kernel
theorem dX12_fatherOf_76 : decode cX12_fatherOf 76 = .ok (.iaload, 1) := by decide +kernel
theorem dX12_fatherOf_77 : decode cX12_fatherOf 77 = .ok (.if_icmp .le 7, 3) := by decide +kernel
theorem dX12_fatherOf_80 : decode cX12_fatherOf 80 = .ok (.iconst 1, 1) := by decide +kernel
theorem dX12_fatherOf_81 : decode cX12_fatherOf 81 = .ok (.goto 4, 3) := by decide +kernel
theorem dX12_fatherOf_84 : decode cX12_fatherOf 84 = .ok (.iconst 0, 1) := by decide +kernel
theorem dX12_fatherOf_85 : decode cX12_fatherOf 85 = .ok (.istore 4, 2) := by decide +kernel
theorem dX12_fatherOf_87 : decode cX12_fatherOf 87 = .ok (.iload 4, 2) := by decide +kernel
theorem dX12_fatherOf_89 : decode cX12_fatherOf 89 = .ok (.ifCond .eq 7, 3) := by decide +kernel
theorem dX12_fatherOf_92 : decode cX12_fatherOf 92 = .ok (.iload_n 3, 1) := by decide +kernel
theorem dX12_fatherOf_93 : decode cX12_fatherOf 93 = .ok (.goto 4, 3) := by decide +kernel
theorem dX12_fatherOf_96 : decode cX12_fatherOf 96 = .ok (.iload_n 2, 1) := by decide +kernel
theorem dX12_fatherOf_97 : decode cX12_fatherOf 97 = .ok (.istore_n 2, 1) := by decide +kernel
theorem dX12_fatherOf_98 : decode cX12_fatherOf 98 = .ok (.iinc 3 1, 3) := by decide +kernel
theorem dX12_fatherOf_101 : decode cX12_fatherOf 101 = .ok (.goto (-96), 3) := by decide +kernel
theorem dX12_fatherOf_104 : decode cX12_fatherOf 104 = .ok (.iload_n 2, 1) := by decide +kernel
theorem dX12_fatherOf_105 : decode cX12_fatherOf 105 = .ok (.ireturn, 1) := by decide +kernel
set_option maxRecDepth 20000 in
theorem ggX12_father_X12_isMap : GoodIn wsX12_father wsX12_isMap := goodIn_r _ [5, 6, 7, 8, 4, 9, 23, 24, 25, 26, 27, 28, 29, 30, 31, 32, 33, 34, 35, 36, 37, 38, 39, 40, 41, 42, 43, 44, 45, 46, 47, 48, 49, 50, 51, 52, 53, 54, 55, 56, 57, 58, 59, 60, 61, 62, 63, 64, 65, 66, 67, 68, 69, 70, 71, 72, 73, 74, 75, 76, 77, 78, 79, 80, 81, 82, 83, 84, 85] rfl (by decide +kernel)
set_option maxRecDepth 20000 in
theorem gX12_father_X12_isMap : GoodIn wsX12_father (wsV RX12 288 RX12 yX12_isMap wsX12_isMap) := goodIn_app (goodIn_of _ (by decide +kernel)) ggX12_father_X12_isMap
set_option maxRecDepth 20000 in
theorem ggX12_father_X12_within : GoodIn wsX12_father wsX12_within := goodIn_r _ [9] rfl (by decide +kernel)
set_option maxRecDepth 20000 in
theorem gX12_father_X12_within : GoodIn wsX12_father (va_wsS RX12 136 yX12_within wsX12_within) := goodIn_app (goodIn_of _ (by decide +kernel)) ggX12_father_X12_within
set_option maxRecDepth 20000 in
theorem ggX12_father_X12_fatherOf : GoodIn wsX12_father wsX12_fatherOf := goodIn_r _ [13, 6, 14, 15, 16, 17, 4, 18, 19, 20, 21, 22, 23, 24, 25, 26, 27, 28, 29, 30, 31, 32, 33, 34, 35, 36, 37, 38, 39, 40, 41, 42, 43, 44, 45, 46, 47, 48, 49, 50, 51, 52, 53, 54, 55, 56, 57, 58, 59, 60, 61, 62, 63, 64, 65, 66, 67, 68, 69, 70, 71, 72, 73, 74, 75, 76, 77, 78, 79, 80, 81, 82, 83, 84, 85] rfl (by decide +kernel)
set_option maxRecDepth 20000 in
theorem gX12_father_X12_fatherOf : GoodIn wsX12_father (wsV RX12 291 RX12 yX12_fatherOf wsX12_fatherOf) := goodIn_app (goodIn_of _ (by decide +kernel)) ggX12_father_X12_fatherOf
set_option maxRecDepth 20000 in
theorem ggX12_father_X12_unlike : GoodIn wsX12_father wsX12_unlike := goodIn_r _ [18, 19, 20, 21, 4, 22, 23, 24, 25, 26, 27, 28, 29, 30, 31, 32, 33, 34, 35, 36, 37, 38, 39, 40, 41, 42, 43, 44, 45, 46, 47, 48, 49, 50, 51, 52, 53, 54, 55, 56, 57, 58, 59, 60, 61, 62, 63, 64, 65, 66, 67, 68, 69, 70, 71, 72, 73, 74, 75, 76, 77, 78, 79, 80, 81, 82, 83, 84, 85] rfl (by decide +kernel)
set_option maxRecDepth 20000 in
theorem gX12_father_X12_unlike : GoodIn wsX12_father (wsV RX12 285 RX12 yX12_unlike wsX12_unlike) := goodIn_app (goodIn_of _ (by decide +kernel)) ggX12_father_X12_unlike
theorem dX12_father_0 : decode cX12_father 0 = .ok (.aload_n 0, 1) := by decide +kernel
theorem dX12_father_1 : decode cX12_father 1 = .ok (.iload_n 1, 1) := by decide +kernel
theorem dX12_father_2 : decode cX12_father 2 = .ok (.invokevirtual 288, 3) := by decide +kernel
theorem dX12_father_5 : decode cX12_father 5 = .ok (.ifCond .eq 13, 3) := by decide +kernel
theorem dX12_father_8 : decode cX12_father 8 = .ok (.iload_n 2, 1) := by decide +kernel
theorem dX12_father_9 : decode cX12_father 9 = .ok (.i2l, 1) := by decide +kernel
theorem dX12_father_10 : decode cX12_father 10 = .ok (.lconst 0, 1) := by decide +kernel
theorem dX12_father_11 : decode cX12_father 11 = .ok (.lconst 1, 1) := by decide +kernel
theorem dX12_father_12 : decode cX12_father 12 = .ok (.invokestatic 136, 3) := by decide +kernel
theorem dX12_father_15 : decode cX12_father 15 = .ok (.ifCond .ne 5, 3) := by decide +kernel
theorem dX12_father_18 : decode cX12_father 18 = .ok (.iconst (-1), 1) := by decide +kernel
theorem dX12_father_19 : decode cX12_father 19 = .ok (.ireturn, 1) := by decide +kernel
theorem dX12_father_20 : decode cX12_father 20 = .ok (.aload_n 0, 1) := by decide +kernel
theorem dX12_father_21 : decode cX12_father 21 = .ok (.iload_n 1, 1) := by decide +kernel
theorem dX12_father_22 : decode cX12_father 22 = .ok (.invokevirtual 291, 3) := by decide +kernel
theorem dX12_father_25 : decode cX12_father 25 = .ok (.istore_n 3, 1) := by decide +kernel
theorem dX12_father_26 : decode cX12_father 26 = .ok (.iload_n 3, 1) := by decide +kernel
theorem dX12_father_27 : decode cX12_father 27 = .ok (.ifCond .ge 8, 3) := by decide +kernel
theorem dX12_father_30 : decode cX12_father 30 = .ok (.bipush (-2), 2) := by decide +kernel
theorem dX12_father_32 : decode cX12_father 32 = .ok (.goto 17, 3) := by decide +kernel
theorem dX12_father_35 : decode cX12_father 35 = .ok (.iload_n 2, 1) := by decide +kernel
theorem dX12_father_36 : decode cX12_father 36 = .ok (.ifCond .ne 7, 3) := by decide +kernel
theorem dX12_father_39 : decode cX12_father 39 = .ok (.iload_n 3, 1) := by decide +kernel
theorem dX12_father_40 : decode cX12_father 40 = .ok (.goto 9, 3) := by decide +kernel
theorem dX12_father_43 : decode cX12_father 43 = .ok (.aload_n 0, 1) := by decide +kernel
theorem dX12_father_44 : decode cX12_father 44 = .ok (.iload_n 1, 1) := by decide +kernel
theorem dX12_father_45 : decode cX12_father 45 = .ok (.iload_n 3, 1) := by decide +kernel
theorem dX12_father_46 : decode cX12_father 46 = .ok (.invokevirtual 285, 3) := by decide +kernel
theorem dX12_father_49 : decode cX12_father 49 = .ok (.ireturn, 1) := by decide +kernel
set_option maxRecDepth 20000 in
theorem ggX12_hangs_X12_isMap : GoodIn wsX12_hangs wsX12_isMap := goodIn_r _ [5, 6, 7, 8, 4, 9, 23, 24, 25, 26, 27, 28, 29, 30, 31, 32, 33, 34, 35, 36, 37, 38, 39, 40, 41, 42, 43, 44, 45, 46, 47, 48, 49, 50, 51, 52, 53, 54, 55, 56, 57, 58, 59, 60, 61, 62, 63, 64, 65, 66, 67, 68, 69, 70, 71, 72, 73, 74, 75, 76, 77, 78, 79, 80, 81, 82, 83, 84, 85] rfl (by decide +kernel)
set_option maxRecDepth 20000 in
theorem gX12_hangs_X12_isMap : GoodIn wsX12_hangs (wsV RX12 288 RX12 yX12_isMap wsX12_isMap) := goodIn_app (goodIn_of _ (by decide +kernel)) ggX12_hangs_X12_isMap
set_option maxRecDepth 20000 in
theorem ggX12_hangs_X12_fatherOf : GoodIn wsX12_hangs wsX12_fatherOf := goodIn_r _ [13, 6, 14, 15, 16, 17, 4, 18, 19, 20, 21, 22, 23, 24, 25, 26, 27, 28, 29, 30, 31, 32, 33, 34, 35, 36, 37, 38, 39, 40, 41, 42, 43, 44, 45, 46, 47, 48, 49, 50, 51, 52, 53, 54, 55, 56, 57, 58, 59, 60, 61, 62, 63, 64, 65, 66, 67, 68, 69, 70, 71, 72, 73, 74, 75, 76, 77, 78, 79, 80, 81, 82, 83, 84, 85] rfl (by decide +kernel)
set_option maxRecDepth 20000 in
theorem gX12_hangs_X12_fatherOf : GoodIn wsX12_hangs (wsV RX12 291 RX12 yX12_fatherOf wsX12_fatherOf) := goodIn_app (goodIn_of _ (by decide +kernel)) ggX12_hangs_X12_fatherOf
theorem dX12_hangs_0 : decode cX12_hangs 0 = .ok (.iload_n 1, 1) := by decide +kernel
theorem dX12_hangs_1 : decode cX12_hangs 1 = .ok (.ifCond .lt 25, 3) := by decide +kernel
theorem dX12_hangs_4 : decode cX12_hangs 4 = .ok (.aload_n 0, 1) := by decide +kernel
theorem dX12_hangs_5 : decode cX12_hangs 5 = .ok (.iload_n 1, 1) := by decide +kernel
theorem dX12_hangs_6 : decode cX12_hangs 6 = .ok (.bipush 10, 2) := by decide +kernel
theorem dX12_hangs_8 : decode cX12_hangs 8 = .ok (.idiv, 1) := by decide +kernel
theorem dX12_hangs_9 : decode cX12_hangs 9 = .ok (.invokevirtual 288, 3) := by decide +kernel
theorem dX12_hangs_12 : decode cX12_hangs 12 = .ok (.ifCond .eq 14, 3) := by decide +kernel
theorem dX12_hangs_15 : decode cX12_hangs 15 = .ok (.aload_n 0, 1) := by decide +kernel
theorem dX12_hangs_16 : decode cX12_hangs 16 = .ok (.iload_n 1, 1) := by decide +kernel
theorem dX12_hangs_17 : decode cX12_hangs 17 = .ok (.bipush 10, 2) := by decide +kernel
theorem dX12_hangs_19 : decode cX12_hangs 19 = .ok (.irem, 1) := by decide +kernel
theorem dX12_hangs_20 : decode cX12_hangs 20 = .ok (.invokevirtual 288, 3) := by decide +kernel
theorem dX12_hangs_23 : decode cX12_hangs 23 = .ok (.ifCond .ne 5, 3) := by decide +kernel
theorem dX12_hangs_26 : decode cX12_hangs 26 = .ok (.iconst (-1), 1) := by decide +kernel
theorem dX12_hangs_27 : decode cX12_hangs 27 = .ok (.ireturn, 1) := by decide +kernel
theorem dX12_hangs_28 : decode cX12_hangs 28 = .ok (.aload_n 0, 1) := by decide +kernel
theorem dX12_hangs_29 : decode cX12_hangs 29 = .ok (.iload_n 1, 1) := by decide +kernel
theorem dX12_hangs_30 : decode cX12_hangs 30 = .ok (.bipush 10, 2) := by decide +kernel
theorem dX12_hangs_32 : decode cX12_hangs 32 = .ok (.idiv, 1) := by decide +kernel
theorem dX12_hangs_33 : decode cX12_hangs 33 = .ok (.invokevirtual 291, 3) := by decide +kernel
theorem dX12_hangs_36 : decode cX12_hangs 36 = .ok (.istore_n 2, 1) := by decide +kernel
theorem dX12_hangs_37 : decode cX12_hangs 37 = .ok (.iload_n 2, 1) := by decide +kernel
theorem dX12_hangs_38 : decode cX12_hangs 38 = .ok (.ifCond .lt 20, 3) := by decide +kernel
theorem dX12_hangs_41 : decode cX12_hangs 41 = .ok (.iload_n 2, 1) := by decide +kernel
theorem dX12_hangs_42 : decode cX12_hangs 42 = .ok (.iload_n 1, 1) := by decide +kernel
theorem dX12_hangs_43 : decode cX12_hangs 43 = .ok (.bipush 10, 2) := by decide +kernel
theorem dX12_hangs_45 : decode cX12_hangs 45 = .ok (.irem, 1) := by decide +kernel
theorem dX12_hangs_46 : decode cX12_hangs 46 = .ok (.if_icmp .eq 12, 3) := by decide +kernel
theorem dX12_hangs_49 : decode cX12_hangs 49 = .ok (.aload_n 0, 1) := by decide +kernel
theorem dX12_hangs_50 : decode cX12_hangs 50 = .ok (.iload_n 2, 1) := by decide +kernel
theorem dX12_hangs_51 : decode cX12_hangs 51 = .ok (.invokevirtual 291, 3) := by decide +kernel
theorem dX12_hangs_54 : decode cX12_hangs 54 = .ok (.istore_n 2, 1) := by decide +kernel
theorem dX12_hangs_55 : decode cX12_hangs 55 = .ok (.goto (-18), 3) := by decide +kernel
theorem dX12_hangs_58 : decode cX12_hangs 58 = .ok (.iload_n 2, 1) := by decide +kernel
theorem dX12_hangs_59 : decode cX12_hangs 59 = .ok (.ifCond .lt 7, 3) := by decide +kernel
theorem dX12_hangs_62 : decode cX12_hangs 62 = .ok (.iconst 1, 1) := by decide +kernel
theorem dX12_hangs_63 : decode cX12_hangs 63 = .ok (.goto 4, 3) := by decide +kernel
theorem dX12_hangs_66 : decode cX12_hangs 66 = .ok (.iconst 0, 1) := by decide +kernel
theorem dX12_hangs_67 : decode cX12_hangs 67 = .ok (.ireturn, 1) := by decide +kernel
set_option maxRecDepth 20000 in
theorem ggX12_shared_X12_fatherOf : GoodIn wsX12_shared wsX12_fatherOf := goodIn_r _ [7, 1, 8, 9, 10, 11, 6, 12, 2, 13, 14, 15, 23, 24, 25, 26, 27, 28, 29, 30, 31, 32, 33, 34, 35, 36, 37, 38, 39, 40, 41, 42, 43, 44, 45, 46, 47, 48, 49, 50, 51, 52, 53, 54, 55, 56, 57, 58, 59, 60, 61, 62, 63, 64, 65, 66, 67, 68, 69, 70, 71, 72, 73, 74, 75, 76, 77, 78, 79, 80, 81, 82, 83, 84, 85] rfl (by decide +kernel)
set_option maxRecDepth 20000 in
theorem gX12_shared_X12_fatherOf : GoodIn wsX12_shared (wsV RX12 291 RX12 yX12_fatherOf wsX12_fatherOf) := goodIn_app (goodIn_of _ (by decide +kernel)) ggX12_shared_X12_fatherOf
set_option maxRecDepth 20000 in
theorem ggX12_shared_X12_unlike : GoodIn wsX12_shared wsX12_unlike := goodIn_r _ [12, 2, 13, 14, 6, 15, 23, 24, 25, 26, 27, 28, 29, 30, 31, 32, 33, 34, 35, 36, 37, 38, 39, 40, 41, 42, 43, 44, 45, 46, 47, 48, 49, 50, 51, 52, 53, 54, 55, 56, 57, 58, 59, 60, 61, 62, 63, 64, 65, 66, 67, 68, 69, 70, 71, 72, 73, 74, 75, 76, 77, 78, 79, 80, 81, 82, 83, 84, 85] rfl (by decide +kernel)
set_option maxRecDepth 20000 in
theorem gX12_shared_X12_unlike : GoodIn wsX12_shared (wsV RX12 285 RX12 yX12_unlike wsX12_unlike) := goodIn_app (goodIn_of _ (by decide +kernel)) ggX12_shared_X12_unlike
set_option maxRecDepth 20000 in
theorem ggX12_shared_X12_isMap : GoodIn wsX12_shared wsX12_isMap := goodIn_r _ [19, 1, 20, 21, 6, 22, 23, 24, 25, 26, 27, 28, 29, 30, 31, 32, 33, 34, 35, 36, 37, 38, 39, 40, 41, 42, 43, 44, 45, 46, 47, 48, 49, 50, 51, 52, 53, 54, 55, 56, 57, 58, 59, 60, 61, 62, 63, 64, 65, 66, 67, 68, 69, 70, 71, 72, 73, 74, 75, 76, 77, 78, 79, 80, 81, 82, 83, 84, 85] rfl (by decide +kernel)
set_option maxRecDepth 20000 in
theorem gX12_shared_X12_isMap : GoodIn wsX12_shared (wsV RX12 288 RX12 yX12_isMap wsX12_isMap) := goodIn_app (goodIn_of _ (by decide +kernel)) ggX12_shared_X12_isMap
theorem dX12_shared_0 : decode cX12_shared 0 = .ok (.iload_n 1, 1) := by decide +kernel
theorem dX12_shared_1 : decode cX12_shared 1 = .ok (.iconst (-1), 1) := by decide +kernel
theorem dX12_shared_2 : decode cX12_shared 2 = .ok (.if_icmp .ne 48, 3) := by decide +kernel
theorem dX12_shared_5 : decode cX12_shared 5 = .ok (.iconst 0, 1) := by decide +kernel
theorem dX12_shared_6 : decode cX12_shared 6 = .ok (.istore_n 2, 1) := by decide +kernel
theorem dX12_shared_7 : decode cX12_shared 7 = .ok (.iconst 0, 1) := by decide +kernel
theorem dX12_shared_8 : decode cX12_shared 8 = .ok (.istore_n 3, 1) := by decide +kernel
theorem dX12_shared_9 : decode cX12_shared 9 = .ok (.iload_n 3, 1) := by decide +kernel
theorem dX12_shared_10 : decode cX12_shared 10 = .ok (.aload_n 0, 1) := by decide +kernel
theorem dX12_shared_11 : decode cX12_shared 11 = .ok (.getfield 277, 3) := by decide +kernel
theorem dX12_shared_14 : decode cX12_shared 14 = .ok (.if_icmp .ge 34, 3) := by decide +kernel
theorem dX12_shared_17 : decode cX12_shared 17 = .ok (.iload_n 2, 1) := by decide +kernel
theorem dX12_shared_18 : decode cX12_shared 18 = .ok (.aload_n 0, 1) := by decide +kernel
theorem dX12_shared_19 : decode cX12_shared 19 = .ok (.iload_n 3, 1) := by decide +kernel
theorem dX12_shared_20 : decode cX12_shared 20 = .ok (.invokevirtual 291, 3) := by decide +kernel
theorem dX12_shared_23 : decode cX12_shared 23 = .ok (.ifCond .ge 7, 3) := by decide +kernel
theorem dX12_shared_26 : decode cX12_shared 26 = .ok (.iconst 0, 1) := by decide +kernel
theorem dX12_shared_27 : decode cX12_shared 27 = .ok (.goto 13, 3) := by decide +kernel
theorem dX12_shared_30 : decode cX12_shared 30 = .ok (.aload_n 0, 1) := by decide +kernel
theorem dX12_shared_31 : decode cX12_shared 31 = .ok (.iload_n 3, 1) := by decide +kernel
theorem dX12_shared_32 : decode cX12_shared 32 = .ok (.aload_n 0, 1) := by decide +kernel
theorem dX12_shared_33 : decode cX12_shared 33 = .ok (.iload_n 3, 1) := by decide +kernel
theorem dX12_shared_34 : decode cX12_shared 34 = .ok (.invokevirtual 291, 3) := by decide +kernel
theorem dX12_shared_37 : decode cX12_shared 37 = .ok (.invokevirtual 285, 3) := by decide +kernel
theorem dX12_shared_40 : decode cX12_shared 40 = .ok (.iadd, 1) := by decide +kernel
theorem dX12_shared_41 : decode cX12_shared 41 = .ok (.istore_n 2, 1) := by decide +kernel
theorem dX12_shared_42 : decode cX12_shared 42 = .ok (.iinc 3 1, 3) := by decide +kernel
theorem dX12_shared_45 : decode cX12_shared 45 = .ok (.goto (-36), 3) := by decide +kernel
theorem dX12_shared_48 : decode cX12_shared 48 = .ok (.iload_n 2, 1) := by decide +kernel
theorem dX12_shared_49 : decode cX12_shared 49 = .ok (.ireturn, 1) := by decide +kernel
theorem dX12_shared_50 : decode cX12_shared 50 = .ok (.iload_n 1, 1) := by decide +kernel
theorem dX12_shared_51 : decode cX12_shared 51 = .ok (.ifCond .lt 36, 3) := by decide +kernel
theorem dX12_shared_54 : decode cX12_shared 54 = .ok (.aload_n 0, 1) := by decide +kernel
theorem dX12_shared_55 : decode cX12_shared 55 = .ok (.iload_n 1, 1) := by decide +kernel
theorem dX12_shared_56 : decode cX12_shared 56 = .ok (.bipush 10, 2) := by decide +kernel
theorem dX12_shared_58 : decode cX12_shared 58 = .ok (.idiv, 1) := by decide +kernel
theorem dX12_shared_59 : decode cX12_shared 59 = .ok (.invokevirtual 288, 3) := by decide +kernel
theorem dX12_shared_62 : decode cX12_shared 62 = .ok (.ifCond .eq 25, 3) := by decide +kernel
theorem dX12_shared_65 : decode cX12_shared 65 = .ok (.aload_n 0, 1) := by decide +kernel
theorem dX12_shared_66 : decode cX12_shared 66 = .ok (.iload_n 1, 1) := by decide +kernel
theorem dX12_shared_67 : decode cX12_shared 67 = .ok (.bipush 10, 2) := by decide +kernel
theorem dX12_shared_69 : decode cX12_shared 69 = .ok (.irem, 1) := by decide +kernel
theorem dX12_shared_70 : decode cX12_shared 70 = .ok (.invokevirtual 288, 3) := by decide +kernel
theorem dX12_shared_73 : decode cX12_shared 73 = .ok (.ifCond .eq 14, 3) := by decide +kernel
theorem dX12_shared_76 : decode cX12_shared 76 = .ok (.iload_n 1, 1) := by decide +kernel
theorem dX12_shared_77 : decode cX12_shared 77 = .ok (.bipush 10, 2) := by decide +kernel
theorem dX12_shared_79 : decode cX12_shared 79 = .ok (.idiv, 1) := by decide +kernel
theorem dX12_shared_80 : decode cX12_shared 80 = .ok (.iload_n 1, 1) := by decide +kernel
theorem dX12_shared_81 : decode cX12_shared 81 = .ok (.bipush 10, 2) := by decide +kernel
theorem dX12_shared_83 : decode cX12_shared 83 = .ok (.irem, 1) := by decide +kernel
theorem dX12_shared_84 : decode cX12_shared 84 = .ok (.if_icmp .ne 5, 3) := by decide +kernel
theorem dX12_shared_87 : decode cX12_shared 87 = .ok (.iconst (-1), 1) := by decide +kernel
theorem dX12_shared_88 : decode cX12_shared 88 = .ok (.ireturn, 1) := by decide +kernel
theorem dX12_shared_89 : decode cX12_shared 89 = .ok (.aload_n 0, 1) := by decide +kernel
theorem dX12_shared_90 : decode cX12_shared 90 = .ok (.getfield 83, 3) := by decide +kernel
theorem dX12_shared_93 : decode cX12_shared 93 = .ok (.iload_n 1, 1) := by decide +kernel
theorem dX12_shared_94 : decode cX12_shared 94 = .ok (.bipush 10, 2) := by decide +kernel
theorem dX12_shared_96 : decode cX12_shared 96 = .ok (.idiv, 1) := by decide +kernel
theorem dX12_shared_97 : decode cX12_shared 97 = .ok (.iaload, 1) := by decide +kernel
theorem dX12_shared_98 : decode cX12_shared 98 = .ok (.aload_n 0, 1) := by decide +kernel
theorem dX12_shared_99 : decode cX12_shared 99 = .ok (.getfield 83, 3) := by decide +kernel
theorem dX12_shared_102 : decode cX12_shared 102 = .ok (.iload_n 1, 1) := by decide +kernel
theorem dX12_shared_103 : decode cX12_shared 103 = .ok (.bipush 10, 2) := by decide +kernel
theorem dX12_shared_105 : decode cX12_shared 105 = .ok (.irem, 1) := by decide +kernel
theorem dX12_shared_106 : decode cX12_shared 106 = .ok (.iaload, 1) := by decide +kernel
theorem dX12_shared_107 : decode cX12_shared 107 = .ok (.iand, 1) := by decide +kernel
theorem dX12_shared_108 : decode cX12_shared 108 = .ok (.istore_n 2, 1) := by decide +kernel
theorem dX12_shared_109 : decode cX12_shared 109 = .ok (.iconst 0, 1) := by decide +kernel
theorem dX12_shared_110 : decode cX12_shared 110 = .ok (.istore_n 3, 1) := by decide +kernel
theorem dX12_shared_111 : decode cX12_shared 111 = .ok (.iload_n 3, 1) := by decide +kernel
theorem dX12_shared_112 : decode cX12_shared 112 = .ok (.aload_n 0, 1) := by decide +kernel
theorem dX12_shared_113 : decode cX12_shared 113 = .ok (.getfield 277, 3) := by decide +kernel
theorem dX12_shared_116 : decode cX12_shared 116 = .ok (.if_icmp .ge 40, 3) := by decide +kernel
theorem dX12_shared_119 : decode cX12_shared 119 = .ok (.iload_n 3, 1) := by decide +kernel
theorem dX12_shared_120 : decode cX12_shared 120 = .ok (.iload_n 1, 1) := by decide +kernel
theorem dX12_shared_121 : decode cX12_shared 121 = .ok (.bipush 10, 2) := by decide +kernel
theorem dX12_shared_123 : decode cX12_shared 123 = .ok (.idiv, 1) := by decide +kernel
theorem dX12_shared_124 : decode cX12_shared 124 = .ok (.if_icmp .eq 11, 3) := by decide +kernel
theorem dX12_shared_127 : decode cX12_shared 127 = .ok (.iload_n 3, 1) := by decide +kernel
theorem dX12_shared_128 : decode cX12_shared 128 = .ok (.iload_n 1, 1) := by decide +kernel
theorem dX12_shared_129 : decode cX12_shared 129 = .ok (.bipush 10, 2) := by decide +kernel
theorem dX12_shared_131 : decode cX12_shared 131 = .ok (.irem, 1) := by decide +kernel
theorem dX12_shared_132 : decode cX12_shared 132 = .ok (.if_icmp .ne 7, 3) := by decide +kernel
theorem dX12_shared_135 : decode cX12_shared 135 = .ok (.iload_n 2, 1) := by decide +kernel
theorem dX12_shared_136 : decode cX12_shared 136 = .ok (.goto 13, 3) := by decide +kernel
theorem dX12_shared_139 : decode cX12_shared 139 = .ok (.iload_n 2, 1) := by decide +kernel
theorem dX12_shared_140 : decode cX12_shared 140 = .ok (.aload_n 0, 1) := by decide +kernel
theorem dX12_shared_141 : decode cX12_shared 141 = .ok (.getfield 83, 3) := by decide +kernel
theorem dX12_shared_144 : decode cX12_shared 144 = .ok (.iload_n 3, 1) := by decide +kernel
theorem dX12_shared_145 : decode cX12_shared 145 = .ok (.iaload, 1) := by decide +kernel
theorem dX12_shared_146 : decode cX12_shared 146 = .ok (.iconst (-1), 1) := by decide +kernel
theorem dX12_shared_147 : decode cX12_shared 147 = .ok (.ixor, 1) := by decide +kernel
theorem dX12_shared_148 : decode cX12_shared 148 = .ok (.iand, 1) := by decide +kernel
theorem dX12_shared_149 : decode cX12_shared 149 = .ok (.istore_n 2, 1) := by decide +kernel
theorem dX12_shared_150 : decode cX12_shared 150 = .ok (.iinc 3 1, 3) := by decide +kernel
theorem dX12_shared_153 : decode cX12_shared 153 = .ok (.goto (-42), 3) := by decide +kernel
theorem dX12_shared_156 : decode cX12_shared 156 = .ok (.iload_n 2, 1) := by decide +kernel
theorem dX12_shared_157 : decode cX12_shared 157 = .ok (.ireturn, 1) := by decide +kernel
set_option maxRecDepth 20000 in
theorem ggX12_feed_X12_within : GoodIn wsX12_feed wsX12_within := goodIn_r _ [7] rfl (by decide +kernel)
set_option maxRecDepth 20000 in
theorem gX12_feed_X12_within : GoodIn wsX12_feed (va_wsS RX12 136 yX12_within wsX12_within) := goodIn_app (goodIn_of _ (by decide +kernel)) ggX12_feed_X12_within
theorem dX12_feed_0 : decode cX12_feed 0 = .ok (.iload_n 1, 1) := by decide +kernel
theorem dX12_feed_1 : decode cX12_feed 1 = .ok (.i2l, 1) := by decide +kernel
theorem dX12_feed_2 : decode cX12_feed 2 = .ok (.lconst 1, 1) := by decide +kernel
theorem dX12_feed_3 : decode cX12_feed 3 = .ok (.ldc2_w 221, 3) := by decide +kernel
theorem dX12_feed_6 : decode cX12_feed 6 = .ok (.invokestatic 136, 3) := by decide +kernel
theorem dX12_feed_9 : decode cX12_feed 9 = .ok (.ifCond .ne 5, 3) := by decide +kernel
theorem dX12_feed_12 : decode cX12_feed 12 = .ok (.iconst (-1), 1) := by decide +kernel
theorem dX12_feed_13 : decode cX12_feed 13 = .ok (.ireturn, 1) := by decide +kernel
theorem dX12_feed_14 : decode cX12_feed 14 = .ok (.aload_n 0, 1) := by decide +kernel
theorem dX12_feed_15 : decode cX12_feed 15 = .ok (.getfield 294, 3) := by decide +kernel
theorem dX12_feed_18 : decode cX12_feed 18 = .ok (.iload_n 1, 1) := by decide +kernel
theorem dX12_feed_19 : decode cX12_feed 19 = .ok (.iadd, 1) := by decide +kernel
theorem dX12_feed_20 : decode cX12_feed 20 = .ok (.bipush 120, 2) := by decide +kernel
theorem dX12_feed_22 : decode cX12_feed 22 = .ok (.if_icmp .le 6, 3) := by decide +kernel
theorem dX12_feed_25 : decode cX12_feed 25 = .ok (.bipush (-3), 2) := by decide +kernel
theorem dX12_feed_27 : decode cX12_feed 27 = .ok (.ireturn, 1) := by decide +kernel
theorem dX12_feed_28 : decode cX12_feed 28 = .ok (.iconst 0, 1) := by decide +kernel
theorem dX12_feed_29 : decode cX12_feed 29 = .ok (.istore_n 3, 1) := by decide +kernel
theorem dX12_feed_30 : decode cX12_feed 30 = .ok (.iload_n 3, 1) := by decide +kernel
theorem dX12_feed_31 : decode cX12_feed 31 = .ok (.iload_n 1, 1) := by decide +kernel
theorem dX12_feed_32 : decode cX12_feed 32 = .ok (.if_icmp .ge 38, 3) := by decide +kernel
theorem dX12_feed_35 : decode cX12_feed 35 = .ok (.aload_n 0, 1) := by decide +kernel
theorem dX12_feed_36 : decode cX12_feed 36 = .ok (.getfield 86, 3) := by decide +kernel
theorem dX12_feed_39 : decode cX12_feed 39 = .ok (.aload_n 0, 1) := by decide +kernel
theorem dX12_feed_40 : decode cX12_feed 40 = .ok (.getfield 294, 3) := by decide +kernel
theorem dX12_feed_43 : decode cX12_feed 43 = .ok (.iload_n 2, 1) := by decide +kernel
theorem dX12_feed_44 : decode cX12_feed 44 = .ok (.bipush 8, 2) := by decide +kernel
theorem dX12_feed_46 : decode cX12_feed 46 = .ok (.iload_n 3, 1) := by decide +kernel
theorem dX12_feed_47 : decode cX12_feed 47 = .ok (.imul, 1) := by decide +kernel
theorem dX12_feed_48 : decode cX12_feed 48 = .ok (.ishr, 1) := by decide +kernel
theorem dX12_feed_49 : decode cX12_feed 49 = .ok (.sipush 255, 3) := by decide +kernel
theorem dX12_feed_52 : decode cX12_feed 52 = .ok (.iand, 1) := by decide +kernel
theorem dX12_feed_53 : decode cX12_feed 53 = .ok (.iastore, 1) := by decide +kernel
theorem dX12_feed_54 : decode cX12_feed 54 = .ok (.aload_n 0, 1) := by decide +kernel
theorem dX12_feed_55 : decode cX12_feed 55 = .ok (.dup, 1) := by decide +kernel
theorem dX12_feed_56 : decode cX12_feed 56 = .ok (.getfield 294, 3) := by decide +kernel
theorem dX12_feed_59 : decode cX12_feed 59 = .ok (.iconst 1, 1) := by decide +kernel
theorem dX12_feed_60 : decode cX12_feed 60 = .ok (.iadd, 1) := by decide +kernel
theorem dX12_feed_61 : decode cX12_feed 61 = .ok (.putfield 294, 3) := by decide +kernel
theorem dX12_feed_64 : decode cX12_feed 64 = .ok (.iinc 3 1, 3) := by decide +kernel
theorem dX12_feed_67 : decode cX12_feed 67 = .ok (.goto (-37), 3) := by decide +kernel
theorem dX12_feed_70 : decode cX12_feed 70 = .ok (.aload_n 0, 1) := by decide +kernel
theorem dX12_feed_71 : decode cX12_feed 71 = .ok (.getfield 294, 3) := by decide +kernel
theorem dX12_feed_74 : decode cX12_feed 74 = .ok (.ireturn, 1) := by decide +kernel
theorem dX12_byteAt_0 : decode cX12_byteAt 0 = .ok (.aload_n 0, 1) := by decide +kernel
theorem dX12_byteAt_1 : decode cX12_byteAt 1 = .ok (.getfield 297, 3) := by decide +kernel
theorem dX12_byteAt_4 : decode cX12_byteAt 4 = .ok (.aload_n 0, 1) := by decide +kernel
theorem dX12_byteAt_5 : decode cX12_byteAt 5 = .ok (.getfield 300, 3) := by decide +kernel
theorem dX12_byteAt_8 : decode cX12_byteAt 8 = .ok (.if_icmp .ge 39, 3) := by decide +kernel
theorem dX12_byteAt_11 : decode cX12_byteAt 11 = .ok (.aload_n 0, 1) := by decide +kernel
theorem dX12_byteAt_12 : decode cX12_byteAt 12 = .ok (.getfield 303, 3) := by decide +kernel
theorem dX12_byteAt_15 : decode cX12_byteAt 15 = .ok (.ifCond .ge 15, 3) := by decide +kernel
theorem dX12_byteAt_18 : decode cX12_byteAt 18 = .ok (.aload_n 0, 1) := by decide +kernel
theorem dX12_byteAt_19 : decode cX12_byteAt 19 = .ok (.getfield 86, 3) := by decide +kernel
theorem dX12_byteAt_22 : decode cX12_byteAt 22 = .ok (.aload_n 0, 1) := by decide +kernel
theorem dX12_byteAt_23 : decode cX12_byteAt 23 = .ok (.getfield 297, 3) := by decide +kernel
theorem dX12_byteAt_26 : decode cX12_byteAt 26 = .ok (.iaload, 1) := by decide +kernel
theorem dX12_byteAt_27 : decode cX12_byteAt 27 = .ok (.goto 21, 3) := by decide +kernel
theorem dX12_byteAt_30 : decode cX12_byteAt 30 = .ok (.aload_n 0, 1) := by decide +kernel
theorem dX12_byteAt_31 : decode cX12_byteAt 31 = .ok (.getfield 92, 3) := by decide +kernel
theorem dX12_byteAt_34 : decode cX12_byteAt 34 = .ok (.aload_n 0, 1) := by decide +kernel
theorem dX12_byteAt_35 : decode cX12_byteAt 35 = .ok (.getfield 303, 3) := by decide +kernel
theorem dX12_byteAt_38 : decode cX12_byteAt 38 = .ok (.aload_n 0, 1) := by decide +kernel
theorem dX12_byteAt_39 : decode cX12_byteAt 39 = .ok (.getfield 297, 3) := by decide +kernel
theorem dX12_byteAt_42 : decode cX12_byteAt 42 = .ok (.iadd, 1) := by decide +kernel
theorem dX12_byteAt_43 : decode cX12_byteAt 43 = .ok (.iaload, 1) := by decide +kernel
theorem dX12_byteAt_44 : decode cX12_byteAt 44 = .ok (.goto 4, 3) := by decide +kernel
theorem dX12_byteAt_47 : decode cX12_byteAt 47 = .ok (.iconst 0, 1) := by decide +kernel
theorem dX12_byteAt_48 : decode cX12_byteAt 48 = .ok (.ireturn, 1) := by decide +kernel
theorem dX12_wrong_0 : decode cX12_wrong 0 = .ok (.aload_n 0, 1) := by decide +kernel
theorem dX12_wrong_1 : decode cX12_wrong 1 = .ok (.aload_n 0, 1) := by decide +kernel
theorem dX12_wrong_2 : decode cX12_wrong 2 = .ok (.getfield 306, 3) := by decide +kernel
theorem dX12_wrong_5 : decode cX12_wrong 5 = .ok (.ifCond .ge 10, 3) := by decide +kernel
theorem dX12_wrong_8 : decode cX12_wrong 8 = .ok (.aload_n 0, 1) := by decide +kernel
theorem dX12_wrong_9 : decode cX12_wrong 9 = .ok (.getfield 297, 3) := by decide +kernel
theorem dX12_wrong_12 : decode cX12_wrong 12 = .ok (.goto 7, 3) := by decide +kernel
theorem dX12_wrong_15 : decode cX12_wrong 15 = .ok (.aload_n 0, 1) := by decide +kernel
theorem dX12_wrong_16 : decode cX12_wrong 16 = .ok (.getfield 306, 3) := by decide +kernel
theorem dX12_wrong_19 : decode cX12_wrong 19 = .ok (.putfield 306, 3) := by decide +kernel
theorem dX12_wrong_22 : decode cX12_wrong 22 = .ok (.iconst 0, 1) := by decide +kernel
theorem dX12_wrong_23 : decode cX12_wrong 23 = .ok (.ireturn, 1) := by decide +kernel
set_option maxRecDepth 20000 in
theorem ggX12_takes_X12_byteAt : GoodIn wsX12_takes wsX12_byteAt := goodIn_r _ [7, 2, 8, 9, 10, 11, 12, 13, 14, 15, 16, 17, 18, 19, 20, 21, 22, 23, 24, 25, 26, 27, 28, 29, 30, 31, 32, 33, 34, 35, 36, 37, 38, 39, 40, 41, 42, 43, 44, 45, 46, 47, 48, 49, 50, 51, 52, 53, 54, 55, 56, 57, 58, 59, 60, 61, 62, 63, 64, 65, 66, 67, 68, 69, 70, 71, 72, 73, 74] rfl (by decide +kernel)
set_option maxRecDepth 20000 in
theorem gX12_takes_X12_byteAt : GoodIn wsX12_takes (wsV RX12 309 RX12 yX12_byteAt wsX12_byteAt) := goodIn_app (goodIn_of _ (by decide +kernel)) ggX12_takes_X12_byteAt
theorem dX12_takes_0 : decode cX12_takes 0 = .ok (.aload_n 0, 1) := by decide +kernel
theorem dX12_takes_1 : decode cX12_takes 1 = .ok (.getfield 306, 3) := by decide +kernel
theorem dX12_takes_4 : decode cX12_takes 4 = .ok (.ifCond .ge 11, 3) := by decide +kernel
theorem dX12_takes_7 : decode cX12_takes 7 = .ok (.aload_n 0, 1) := by decide +kernel
theorem dX12_takes_8 : decode cX12_takes 8 = .ok (.invokevirtual 309, 3) := by decide +kernel
theorem dX12_takes_11 : decode cX12_takes 11 = .ok (.iload_n 1, 1) := by decide +kernel
theorem dX12_takes_12 : decode cX12_takes 12 = .ok (.if_icmp .eq 5, 3) := by decide +kernel
theorem dX12_takes_15 : decode cX12_takes 15 = .ok (.iconst 0, 1) := by decide +kernel
theorem dX12_takes_16 : decode cX12_takes 16 = .ok (.ireturn, 1) := by decide +kernel
theorem dX12_takes_17 : decode cX12_takes 17 = .ok (.aload_n 0, 1) := by decide +kernel
theorem dX12_takes_18 : decode cX12_takes 18 = .ok (.dup, 1) := by decide +kernel
theorem dX12_takes_19 : decode cX12_takes 19 = .ok (.getfield 297, 3) := by decide +kernel
theorem dX12_takes_22 : decode cX12_takes 22 = .ok (.iconst 1, 1) := by decide +kernel
theorem dX12_takes_23 : decode cX12_takes 23 = .ok (.iadd, 1) := by decide +kernel
theorem dX12_takes_24 : decode cX12_takes 24 = .ok (.putfield 297, 3) := by decide +kernel
theorem dX12_takes_27 : decode cX12_takes 27 = .ok (.iconst 1, 1) := by decide +kernel
theorem dX12_takes_28 : decode cX12_takes 28 = .ok (.ireturn, 1) := by decide +kernel
set_option maxRecDepth 20000 in
theorem ggX12_either_X12_both : GoodIn wsX12_either wsX12_both := goodIn_r _ [19, 20, 21, 22, 4, 5, 6, 7, 8, 9, 10, 11, 12, 13, 14, 15, 16, 17, 18, 23, 24, 25, 26, 0, 1, 2, 3, 27, 28, 29, 30, 31, 32, 33, 34, 35, 36, 37, 38, 39, 40, 41, 42, 43, 44, 45, 46, 47, 48, 49, 50, 51, 52, 53, 54, 55, 56, 57, 58, 59, 60, 61, 62, 63, 64, 65, 66, 67, 68, 69, 70, 71, 72, 73, 74, 75, 76, 77, 78, 79, 80, 81, 82, 83, 84, 85, 86, 87, 88, 89, 90, 91, 92, 93, 94, 95, 96, 97, 98, 99, 100, 101, 102, 103, 104, 105, 106, 107, 108, 109, 110] rfl (by decide +kernel)
set_option maxRecDepth 20000 in
theorem gX12_either_X12_both : GoodIn wsX12_either (wsV RX12 312 RX12 yX12_both wsX12_both) := goodIn_app (goodIn_of _ (by decide +kernel)) ggX12_either_X12_both
set_option maxRecDepth 20000 in
theorem ggX12_either_X12_takes : GoodIn wsX12_either wsX12_takes := goodIn_r _ [8, 9, 10, 11, 12, 13, 4, 14, 15, 16, 17, 18, 48, 49, 50, 51, 52, 53, 54, 55, 56, 57, 58, 59, 60, 61, 62, 63, 64, 65, 66, 67, 68, 69, 70, 71, 72, 73, 74, 75, 76, 77, 78, 79, 80, 81, 82, 83, 84, 85, 86, 87, 88, 89, 90, 91, 92, 93, 94, 95, 96, 97, 98, 99, 100, 101, 102, 103, 104, 105, 106, 107, 108, 109, 110] rfl (by decide +kernel)
set_option maxRecDepth 20000 in
theorem gX12_either_X12_takes : GoodIn wsX12_either (wsV RX12 315 RX12 yX12_takes wsX12_takes) := goodIn_app (goodIn_of _ (by decide +kernel)) ggX12_either_X12_takes
theorem dX12_either_0 : decode cX12_either 0 = .ok (.aload_n 0, 1) := by decide +kernel
theorem dX12_either_1 : decode cX12_either 1 = .ok (.invokevirtual 312, 3) := by decide +kernel
theorem dX12_either_4 : decode cX12_either 4 = .ok (.istore_n 1, 1) := by decide +kernel
theorem dX12_either_5 : decode cX12_either 5 = .ok (.aload_n 0, 1) := by decide +kernel
theorem dX12_either_6 : decode cX12_either 6 = .ok (.bipush 124, 2) := by decide +kernel
theorem dX12_either_8 : decode cX12_either 8 = .ok (.invokevirtual 315, 3) := by decide +kernel
theorem dX12_either_11 : decode cX12_either 11 = .ok (.ifCond .eq 25, 3) := by decide +kernel
theorem dX12_either_14 : decode cX12_either 14 = .ok (.aload_n 0, 1) := by decide +kernel
theorem dX12_either_15 : decode cX12_either 15 = .ok (.invokevirtual 312, 3) := by decide +kernel
theorem dX12_either_18 : decode cX12_either 18 = .ok (.istore_n 2, 1) := by decide +kernel
theorem dX12_either_19 : decode cX12_either 19 = .ok (.iload_n 1, 1) := by decide +kernel
theorem dX12_either_20 : decode cX12_either 20 = .ok (.ifCond .ne 7, 3) := by decide +kernel
theorem dX12_either_23 : decode cX12_either 23 = .ok (.iload_n 2, 1) := by decide +kernel
theorem dX12_either_24 : decode cX12_either 24 = .ok (.ifCond .eq 7, 3) := by decide +kernel
theorem dX12_either_27 : decode cX12_either 27 = .ok (.iconst 1, 1) := by decide +kernel
theorem dX12_either_28 : decode cX12_either 28 = .ok (.goto 4, 3) := by decide +kernel
theorem dX12_either_31 : decode cX12_either 31 = .ok (.iconst 0, 1) := by decide +kernel
theorem dX12_either_32 : decode cX12_either 32 = .ok (.istore_n 1, 1) := by decide +kernel
theorem dX12_either_33 : decode cX12_either 33 = .ok (.goto (-28), 3) := by decide +kernel
theorem dX12_either_36 : decode cX12_either 36 = .ok (.iload_n 1, 1) := by decide +kernel
theorem dX12_either_37 : decode cX12_either 37 = .ok (.ireturn, 1) := by decide +kernel
set_option maxRecDepth 20000 in
theorem ggX12_both_X12_compared : GoodIn wsX12_both wsX12_compared := goodIn_r _ [19, 9, 10, 20, 21, 22, 4, 11, 12, 13, 14, 15, 16, 17, 18, 0, 1, 2, 3, 5, 6, 7, 8, 23, 24, 25, 26, 27, 28, 29, 30, 31, 32, 33, 34, 35, 36, 37, 38, 39, 40, 41, 42, 43, 44, 45, 46, 47, 48, 49, 50, 51, 52, 53, 54, 55, 56, 57, 58, 59, 60, 61, 62, 63, 64, 65, 66, 67, 68, 69, 70, 71, 72, 73, 74, 75, 76, 77, 78, 79, 80, 81, 82, 83, 84, 85, 86, 87, 88, 89, 90, 91, 92, 93, 94, 95, 96, 97, 98, 99, 100, 101, 102, 103, 104, 105, 106, 107, 108, 109, 110] rfl (by decide +kernel)
set_option maxRecDepth 20000 in
theorem gX12_both_X12_compared : GoodIn wsX12_both (wsV RX12 318 RX12 yX12_compared wsX12_compared) := goodIn_app (goodIn_of _ (by decide +kernel)) ggX12_both_X12_compared
set_option maxRecDepth 20000 in
theorem ggX12_both_X12_takes : GoodIn wsX12_both wsX12_takes := goodIn_r _ [8, 9, 10, 11, 12, 13, 4, 14, 15, 16, 17, 18, 48, 49, 50, 51, 52, 53, 54, 55, 56, 57, 58, 59, 60, 61, 62, 63, 64, 65, 66, 67, 68, 69, 70, 71, 72, 73, 74, 75, 76, 77, 78, 79, 80, 81, 82, 83, 84, 85, 86, 87, 88, 89, 90, 91, 92, 93, 94, 95, 96, 97, 98, 99, 100, 101, 102, 103, 104, 105, 106, 107, 108, 109, 110] rfl (by decide +kernel)
set_option maxRecDepth 20000 in
theorem gX12_both_X12_takes : GoodIn wsX12_both (wsV RX12 315 RX12 yX12_takes wsX12_takes) := goodIn_app (goodIn_of _ (by decide +kernel)) ggX12_both_X12_takes
theorem dX12_both_0 : decode cX12_both 0 = .ok (.aload_n 0, 1) := by decide +kernel
theorem dX12_both_1 : decode cX12_both 1 = .ok (.invokevirtual 318, 3) := by decide +kernel
theorem dX12_both_4 : decode cX12_both 4 = .ok (.istore_n 1, 1) := by decide +kernel
theorem dX12_both_5 : decode cX12_both 5 = .ok (.aload_n 0, 1) := by decide +kernel
theorem dX12_both_6 : decode cX12_both 6 = .ok (.bipush 38, 2) := by decide +kernel
theorem dX12_both_8 : decode cX12_both 8 = .ok (.invokevirtual 315, 3) := by decide +kernel
theorem dX12_both_11 : decode cX12_both 11 = .ok (.ifCond .eq 25, 3) := by decide +kernel
theorem dX12_both_14 : decode cX12_both 14 = .ok (.aload_n 0, 1) := by decide +kernel
theorem dX12_both_15 : decode cX12_both 15 = .ok (.invokevirtual 318, 3) := by decide +kernel
theorem dX12_both_18 : decode cX12_both 18 = .ok (.istore_n 2, 1) := by decide +kernel
theorem dX12_both_19 : decode cX12_both 19 = .ok (.iload_n 1, 1) := by decide +kernel
theorem dX12_both_20 : decode cX12_both 20 = .ok (.ifCond .eq 11, 3) := by decide +kernel
theorem dX12_both_23 : decode cX12_both 23 = .ok (.iload_n 2, 1) := by decide +kernel
theorem dX12_both_24 : decode cX12_both 24 = .ok (.ifCond .eq 7, 3) := by decide +kernel
theorem dX12_both_27 : decode cX12_both 27 = .ok (.iconst 1, 1) := by decide +kernel
theorem dX12_both_28 : decode cX12_both 28 = .ok (.goto 4, 3) := by decide +kernel
theorem dX12_both_31 : decode cX12_both 31 = .ok (.iconst 0, 1) := by decide +kernel
theorem dX12_both_32 : decode cX12_both 32 = .ok (.istore_n 1, 1) := by decide +kernel
theorem dX12_both_33 : decode cX12_both 33 = .ok (.goto (-28), 3) := by decide +kernel
theorem dX12_both_36 : decode cX12_both 36 = .ok (.iload_n 1, 1) := by decide +kernel
theorem dX12_both_37 : decode cX12_both 37 = .ok (.ireturn, 1) := by decide +kernel
set_option maxRecDepth 20000 in
theorem ggX12_compared_X12_sums : GoodIn wsX12_compared wsX12_sums := goodIn_r _ [44, 1, 2, 45, 46, 47, 6, 7, 8, 9, 10, 11, 12, 13, 14, 15, 16, 17, 18, 19, 20, 21, 22, 0, 3, 4, 5, 23, 24, 25, 26, 27, 28, 29, 30, 31, 32, 33, 34, 35, 36, 37, 38, 39, 40, 41, 42, 43, 48, 49, 50, 51, 52, 53, 54, 55, 56, 57, 58, 59, 60, 61, 62, 63, 64, 65, 66, 67, 68, 69, 70, 71, 72, 73, 74, 75, 76, 77, 78, 79, 80, 81, 82, 83, 84, 85, 86, 87, 88, 89, 90, 91, 92, 93, 94, 95, 96, 97, 98, 99, 100, 101, 102, 103, 104, 105, 106, 107, 108, 109, 110] rfl (by decide +kernel)
set_option maxRecDepth 20000 in
theorem gX12_compared_X12_sums : GoodIn wsX12_compared (wsV RX12 321 RX12 yX12_sums wsX12_sums) := goodIn_app (goodIn_of _ (by decide +kernel)) ggX12_compared_X12_sums
set_option maxRecDepth 20000 in
theorem ggX12_compared_X12_byteAt : GoodIn wsX12_compared wsX12_byteAt := goodIn_r _ [10, 2, 11, 12, 13, 14, 48, 49, 50, 51, 52, 53, 54, 55, 56, 57, 58, 59, 60, 61, 62, 63, 64, 65, 66, 67, 68, 69, 70, 71, 72, 73, 74, 75, 76, 77, 78, 79, 80, 81, 82, 83, 84, 85, 86, 87, 88, 89, 90, 91, 92, 93, 94, 95, 96, 97, 98, 99, 100, 101, 102, 103, 104, 105, 106, 107, 108, 109, 110] rfl (by decide +kernel)
set_option maxRecDepth 20000 in
theorem gX12_compared_X12_byteAt : GoodIn wsX12_compared (wsV RX12 309 RX12 yX12_byteAt wsX12_byteAt) := goodIn_app (goodIn_of _ (by decide +kernel)) ggX12_compared_X12_byteAt
theorem dX12_compared_0 : decode cX12_compared 0 = .ok (.aload_n 0, 1) := by decide +kernel
theorem dX12_compared_1 : decode cX12_compared 1 = .ok (.invokevirtual 321, 3) := by decide +kernel
theorem dX12_compared_4 : decode cX12_compared 4 = .ok (.istore_n 1, 1) := by decide +kernel
theorem dX12_compared_5 : decode cX12_compared 5 = .ok (.aload_n 0, 1) := by decide +kernel
theorem dX12_compared_6 : decode cX12_compared 6 = .ok (.invokevirtual 309, 3) := by decide +kernel
theorem dX12_compared_9 : decode cX12_compared 9 = .ok (.istore_n 2, 1) := by decide +kernel
theorem dX12_compared_10 : decode cX12_compared 10 = .ok (.aload_n 0, 1) := by decide +kernel
theorem dX12_compared_11 : decode cX12_compared 11 = .ok (.getfield 306, 3) := by decide +kernel
theorem dX12_compared_14 : decode cX12_compared 14 = .ok (.ifCond .ge 21, 3) := by decide +kernel
theorem dX12_compared_17 : decode cX12_compared 17 = .ok (.iload_n 2, 1) := by decide +kernel
theorem dX12_compared_18 : decode cX12_compared 18 = .ok (.bipush 60, 2) := by decide +kernel
theorem dX12_compared_20 : decode cX12_compared 20 = .ok (.if_icmp .eq 17, 3) := by decide +kernel
theorem dX12_compared_23 : decode cX12_compared 23 = .ok (.iload_n 2, 1) := by decide +kernel
theorem dX12_compared_24 : decode cX12_compared 24 = .ok (.bipush 61, 2) := by decide +kernel
theorem dX12_compared_26 : decode cX12_compared 26 = .ok (.if_icmp .eq 11, 3) := by decide +kernel
theorem dX12_compared_29 : decode cX12_compared 29 = .ok (.iload_n 2, 1) := by decide +kernel
theorem dX12_compared_30 : decode cX12_compared 30 = .ok (.bipush 62, 2) := by decide +kernel
theorem dX12_compared_32 : decode cX12_compared 32 = .ok (.if_icmp .eq 5, 3) := by decide +kernel
theorem dX12_compared_35 : decode cX12_compared 35 = .ok (.iload_n 1, 1) := by decide +kernel
theorem dX12_compared_36 : decode cX12_compared 36 = .ok (.ireturn, 1) := by decide +kernel
theorem dX12_compared_37 : decode cX12_compared 37 = .ok (.aload_n 0, 1) := by decide +kernel
theorem dX12_compared_38 : decode cX12_compared 38 = .ok (.dup, 1) := by decide +kernel
theorem dX12_compared_39 : decode cX12_compared 39 = .ok (.getfield 297, 3) := by decide +kernel
theorem dX12_compared_42 : decode cX12_compared 42 = .ok (.iconst 1, 1) := by decide +kernel
theorem dX12_compared_43 : decode cX12_compared 43 = .ok (.iadd, 1) := by decide +kernel
theorem dX12_compared_44 : decode cX12_compared 44 = .ok (.putfield 297, 3) := by decide +kernel
theorem dX12_compared_47 : decode cX12_compared 47 = .ok (.aload_n 0, 1) := by decide +kernel
theorem dX12_compared_48 : decode cX12_compared 48 = .ok (.invokevirtual 321, 3) := by decide +kernel
theorem dX12_compared_51 : decode cX12_compared 51 = .ok (.istore_n 3, 1) := by decide +kernel
theorem dX12_compared_52 : decode cX12_compared 52 = .ok (.iload_n 2, 1) := by decide +kernel
theorem dX12_compared_53 : decode cX12_compared 53 = .ok (.bipush 60, 2) := by decide +kernel
theorem dX12_compared_55 : decode cX12_compared 55 = .ok (.if_icmp .ne 11, 3) := by decide +kernel
theorem dX12_compared_58 : decode cX12_compared 58 = .ok (.iload_n 1, 1) := by decide +kernel
theorem dX12_compared_59 : decode cX12_compared 59 = .ok (.iload_n 3, 1) := by decide +kernel
theorem dX12_compared_60 : decode cX12_compared 60 = .ok (.if_icmp .ge 29, 3) := by decide +kernel
theorem dX12_compared_63 : decode cX12_compared 63 = .ok (.goto 22, 3) := by decide +kernel
theorem dX12_compared_66 : decode cX12_compared 66 = .ok (.iload_n 2, 1) := by decide +kernel
theorem dX12_compared_67 : decode cX12_compared 67 = .ok (.bipush 61, 2) := by decide +kernel
theorem dX12_compared_69 : decode cX12_compared 69 = .ok (.if_icmp .ne 11, 3) := by decide +kernel
theorem dX12_compared_72 : decode cX12_compared 72 = .ok (.iload_n 1, 1) := by decide +kernel
theorem dX12_compared_73 : decode cX12_compared 73 = .ok (.iload_n 3, 1) := by decide +kernel
theorem dX12_compared_74 : decode cX12_compared 74 = .ok (.if_icmp .ne 15, 3) := by decide +kernel
theorem dX12_compared_77 : decode cX12_compared 77 = .ok (.goto 8, 3) := by decide +kernel
theorem dX12_compared_80 : decode cX12_compared 80 = .ok (.iload_n 1, 1) := by decide +kernel
theorem dX12_compared_81 : decode cX12_compared 81 = .ok (.iload_n 3, 1) := by decide +kernel
theorem dX12_compared_82 : decode cX12_compared 82 = .ok (.if_icmp .le 7, 3) := by decide +kernel
theorem dX12_compared_85 : decode cX12_compared 85 = .ok (.iconst 1, 1) := by decide +kernel
theorem dX12_compared_86 : decode cX12_compared 86 = .ok (.goto 4, 3) := by decide +kernel
theorem dX12_compared_89 : decode cX12_compared 89 = .ok (.iconst 0, 1) := by decide +kernel
theorem dX12_compared_90 : decode cX12_compared 90 = .ok (.ireturn, 1) := by decide +kernel
set_option maxRecDepth 20000 in
theorem ggX12_sums_X12_product : GoodIn wsX12_sums wsX12_product := goodIn_r _ [47, 1, 2, 41, 42, 43, 6, 7, 8, 9, 10, 11, 12, 13, 14, 15, 16, 17, 18, 19, 20, 21, 22, 23, 24, 25, 26, 27, 28, 29, 30, 31, 32, 33, 34, 35, 36, 37, 38, 39, 40, 44, 45, 46, 0, 3, 4, 5, 48, 49, 50, 51, 52, 53, 54, 55, 56, 57, 58, 59, 60, 61, 62, 63, 64, 65, 66, 67, 68, 69, 70, 71, 72, 73, 74, 75, 76, 77, 78, 79, 80, 81, 82, 83, 84, 85, 86, 87, 88, 89, 90, 91, 92, 93, 94, 95, 96, 97, 98, 99, 100, 101, 102, 103, 104, 105, 106, 107, 108, 109, 110] rfl (by decide +kernel)
set_option maxRecDepth 20000 in
theorem gX12_sums_X12_product : GoodIn wsX12_sums (wsV RX12 324 RX12 yX12_product wsX12_product) := goodIn_app (goodIn_of _ (by decide +kernel)) ggX12_sums_X12_product
set_option maxRecDepth 20000 in
theorem ggX12_sums_X12_byteAt : GoodIn wsX12_sums wsX12_byteAt := goodIn_r _ [10, 2, 11, 12, 13, 14, 48, 49, 50, 51, 52, 53, 54, 55, 56, 57, 58, 59, 60, 61, 62, 63, 64, 65, 66, 67, 68, 69, 70, 71, 72, 73, 74, 75, 76, 77, 78, 79, 80, 81, 82, 83, 84, 85, 86, 87, 88, 89, 90, 91, 92, 93, 94, 95, 96, 97, 98, 99, 100, 101, 102, 103, 104, 105, 106, 107, 108, 109, 110] rfl (by decide +kernel)
set_option maxRecDepth 20000 in
theorem gX12_sums_X12_byteAt : GoodIn wsX12_sums (wsV RX12 309 RX12 yX12_byteAt wsX12_byteAt) := goodIn_app (goodIn_of _ (by decide +kernel)) ggX12_sums_X12_byteAt
theorem dX12_sums_0 : decode cX12_sums 0 = .ok (.aload_n 0, 1) := by decide +kernel
theorem dX12_sums_1 : decode cX12_sums 1 = .ok (.invokevirtual 324, 3) := by decide +kernel
theorem dX12_sums_4 : decode cX12_sums 4 = .ok (.istore_n 1, 1) := by decide +kernel
theorem dX12_sums_5 : decode cX12_sums 5 = .ok (.aload_n 0, 1) := by decide +kernel
theorem dX12_sums_6 : decode cX12_sums 6 = .ok (.getfield 306, 3) := by decide +kernel
theorem dX12_sums_9 : decode cX12_sums 9 = .ok (.ifCond .ge 68, 3) := by decide +kernel
theorem dX12_sums_12 : decode cX12_sums 12 = .ok (.aload_n 0, 1) := by decide +kernel
theorem dX12_sums_13 : decode cX12_sums 13 = .ok (.invokevirtual 309, 3) := by decide +kernel
theorem dX12_sums_16 : decode cX12_sums 16 = .ok (.bipush 43, 2) := by decide +kernel
theorem dX12_sums_18 : decode cX12_sums 18 = .ok (.if_icmp .eq 12, 3) := by decide +kernel
theorem dX12_sums_21 : decode cX12_sums 21 = .ok (.aload_n 0, 1) := by decide +kernel
theorem dX12_sums_22 : decode cX12_sums 22 = .ok (.invokevirtual 309, 3) := by decide +kernel
theorem dX12_sums_25 : decode cX12_sums 25 = .ok (.bipush 45, 2) := by decide +kernel
theorem dX12_sums_27 : decode cX12_sums 27 = .ok (.if_icmp .ne 50, 3) := by decide +kernel
theorem dX12_sums_30 : decode cX12_sums 30 = .ok (.aload_n 0, 1) := by decide +kernel
theorem dX12_sums_31 : decode cX12_sums 31 = .ok (.invokevirtual 309, 3) := by decide +kernel
theorem dX12_sums_34 : decode cX12_sums 34 = .ok (.bipush 43, 2) := by decide +kernel
theorem dX12_sums_36 : decode cX12_sums 36 = .ok (.if_icmp .ne 7, 3) := by decide +kernel
theorem dX12_sums_39 : decode cX12_sums 39 = .ok (.iconst 1, 1) := by decide +kernel
theorem dX12_sums_40 : decode cX12_sums 40 = .ok (.goto 4, 3) := by decide +kernel
theorem dX12_sums_43 : decode cX12_sums 43 = .ok (.iconst 0, 1) := by decide +kernel
theorem dX12_sums_44 : decode cX12_sums 44 = .ok (.istore_n 2, 1) := by decide +kernel
theorem dX12_sums_45 : decode cX12_sums 45 = .ok (.aload_n 0, 1) := by decide +kernel
theorem dX12_sums_46 : decode cX12_sums 46 = .ok (.dup, 1) := by decide +kernel
theorem dX12_sums_47 : decode cX12_sums 47 = .ok (.getfield 297, 3) := by decide +kernel
theorem dX12_sums_50 : decode cX12_sums 50 = .ok (.iconst 1, 1) := by decide +kernel
theorem dX12_sums_51 : decode cX12_sums 51 = .ok (.iadd, 1) := by decide +kernel
theorem dX12_sums_52 : decode cX12_sums 52 = .ok (.putfield 297, 3) := by decide +kernel
theorem dX12_sums_55 : decode cX12_sums 55 = .ok (.aload_n 0, 1) := by decide +kernel
theorem dX12_sums_56 : decode cX12_sums 56 = .ok (.invokevirtual 324, 3) := by decide +kernel
theorem dX12_sums_59 : decode cX12_sums 59 = .ok (.istore_n 3, 1) := by decide +kernel
theorem dX12_sums_60 : decode cX12_sums 60 = .ok (.iload_n 2, 1) := by decide +kernel
theorem dX12_sums_61 : decode cX12_sums 61 = .ok (.ifCond .eq 9, 3) := by decide +kernel
theorem dX12_sums_64 : decode cX12_sums 64 = .ok (.iload_n 1, 1) := by decide +kernel
theorem dX12_sums_65 : decode cX12_sums 65 = .ok (.iload_n 3, 1) := by decide +kernel
theorem dX12_sums_66 : decode cX12_sums 66 = .ok (.iadd, 1) := by decide +kernel
theorem dX12_sums_67 : decode cX12_sums 67 = .ok (.goto 6, 3) := by decide +kernel
theorem dX12_sums_70 : decode cX12_sums 70 = .ok (.iload_n 1, 1) := by decide +kernel
theorem dX12_sums_71 : decode cX12_sums 71 = .ok (.iload_n 3, 1) := by decide +kernel
theorem dX12_sums_72 : decode cX12_sums 72 = .ok (.isub, 1) := by decide +kernel
theorem dX12_sums_73 : decode cX12_sums 73 = .ok (.istore_n 1, 1) := by decide +kernel
theorem dX12_sums_74 : decode cX12_sums 74 = .ok (.goto (-69), 3) := by decide +kernel
theorem dX12_sums_77 : decode cX12_sums 77 = .ok (.iload_n 1, 1) := by decide +kernel
theorem dX12_sums_78 : decode cX12_sums 78 = .ok (.ireturn, 1) := by decide +kernel
set_option maxRecDepth 20000 in
theorem ggX12_product_X12_one : GoodIn wsX12_product wsX12_one := goodIn_r _ [31, 1, 32, 2, 33, 7, 8, 9, 6, 10, 11, 12, 13, 14, 34, 35, 36, 37, 38, 39, 40, 3, 4, 5, 19, 20, 21, 22, 41, 42, 43, 15, 16, 17, 18, 23, 24, 25, 26, 27, 28, 29, 30, 0, 44, 45, 46, 47, 48, 49, 50, 51, 52, 53, 54, 55, 56, 57, 58, 59, 60, 61, 62, 63, 64, 65, 66, 67, 68, 69, 70, 71, 72, 73, 74, 75, 76, 77, 78, 79, 80, 81, 82, 83, 84, 85, 86, 87, 88, 89, 90, 91, 92, 93, 94, 95, 96, 97, 98, 99, 100, 101, 102, 103, 104, 105, 106, 107, 108, 109, 110] rfl (by decide +kernel)
set_option maxRecDepth 20000 in
theorem gX12_product_X12_one : GoodIn wsX12_product (wsV RX12 327 RX12 yX12_one wsX12_one) := goodIn_app (goodIn_of _ (by decide +kernel)) ggX12_product_X12_one
set_option maxRecDepth 20000 in
theorem ggX12_product_X12_byteAt : GoodIn wsX12_product wsX12_byteAt := goodIn_r _ [10, 2, 11, 12, 13, 14, 48, 49, 50, 51, 52, 53, 54, 55, 56, 57, 58, 59, 60, 61, 62, 63, 64, 65, 66, 67, 68, 69, 70, 71, 72, 73, 74, 75, 76, 77, 78, 79, 80, 81, 82, 83, 84, 85, 86, 87, 88, 89, 90, 91, 92, 93, 94, 95, 96, 97, 98, 99, 100, 101, 102, 103, 104, 105, 106, 107, 108, 109, 110] rfl (by decide +kernel)
set_option maxRecDepth 20000 in
theorem gX12_product_X12_byteAt : GoodIn wsX12_product (wsV RX12 309 RX12 yX12_byteAt wsX12_byteAt) := goodIn_app (goodIn_of _ (by decide +kernel)) ggX12_product_X12_byteAt
theorem dX12_product_0 : decode cX12_product 0 = .ok (.aload_n 0, 1) := by decide +kernel
theorem dX12_product_1 : decode cX12_product 1 = .ok (.invokevirtual 327, 3) := by decide +kernel
theorem dX12_product_4 : decode cX12_product 4 = .ok (.istore_n 1, 1) := by decide +kernel
theorem dX12_product_5 : decode cX12_product 5 = .ok (.aload_n 0, 1) := by decide +kernel
theorem dX12_product_6 : decode cX12_product 6 = .ok (.invokevirtual 309, 3) := by decide +kernel
theorem dX12_product_9 : decode cX12_product 9 = .ok (.istore_n 2, 1) := by decide +kernel
theorem dX12_product_10 : decode cX12_product 10 = .ok (.aload_n 0, 1) := by decide +kernel
theorem dX12_product_11 : decode cX12_product 11 = .ok (.getfield 306, 3) := by decide +kernel
theorem dX12_product_14 : decode cX12_product 14 = .ok (.ifCond .ge 80, 3) := by decide +kernel
theorem dX12_product_17 : decode cX12_product 17 = .ok (.iload_n 2, 1) := by decide +kernel
theorem dX12_product_18 : decode cX12_product 18 = .ok (.bipush 42, 2) := by decide +kernel
theorem dX12_product_20 : decode cX12_product 20 = .ok (.if_icmp .eq 15, 3) := by decide +kernel
theorem dX12_product_23 : decode cX12_product 23 = .ok (.iload_n 2, 1) := by decide +kernel
theorem dX12_product_24 : decode cX12_product 24 = .ok (.bipush 47, 2) := by decide +kernel
theorem dX12_product_26 : decode cX12_product 26 = .ok (.if_icmp .eq 9, 3) := by decide +kernel
theorem dX12_product_29 : decode cX12_product 29 = .ok (.iload_n 2, 1) := by decide +kernel
theorem dX12_product_30 : decode cX12_product 30 = .ok (.bipush 37, 2) := by decide +kernel
theorem dX12_product_32 : decode cX12_product 32 = .ok (.if_icmp .ne 62, 3) := by decide +kernel
theorem dX12_product_35 : decode cX12_product 35 = .ok (.aload_n 0, 1) := by decide +kernel
theorem dX12_product_36 : decode cX12_product 36 = .ok (.dup, 1) := by decide +kernel
theorem dX12_product_37 : decode cX12_product 37 = .ok (.getfield 297, 3) := by decide +kernel
theorem dX12_product_40 : decode cX12_product 40 = .ok (.iconst 1, 1) := by decide +kernel
theorem dX12_product_41 : decode cX12_product 41 = .ok (.iadd, 1) := by decide +kernel
theorem dX12_product_42 : decode cX12_product 42 = .ok (.putfield 297, 3) := by decide +kernel
theorem dX12_product_45 : decode cX12_product 45 = .ok (.aload_n 0, 1) := by decide +kernel
theorem dX12_product_46 : decode cX12_product 46 = .ok (.invokevirtual 327, 3) := by decide +kernel
theorem dX12_product_49 : decode cX12_product 49 = .ok (.istore_n 3, 1) := by decide +kernel
theorem dX12_product_50 : decode cX12_product 50 = .ok (.iload_n 2, 1) := by decide +kernel
theorem dX12_product_51 : decode cX12_product 51 = .ok (.bipush 42, 2) := by decide +kernel
theorem dX12_product_53 : decode cX12_product 53 = .ok (.if_icmp .ne 9, 3) := by decide +kernel
theorem dX12_product_56 : decode cX12_product 56 = .ok (.iload_n 1, 1) := by decide +kernel
theorem dX12_product_57 : decode cX12_product 57 = .ok (.iload_n 3, 1) := by decide +kernel
theorem dX12_product_58 : decode cX12_product 58 = .ok (.imul, 1) := by decide +kernel
theorem dX12_product_59 : decode cX12_product 59 = .ok (.goto 26, 3) := by decide +kernel
theorem dX12_product_62 : decode cX12_product 62 = .ok (.iload_n 3, 1) := by decide +kernel
theorem dX12_product_63 : decode cX12_product 63 = .ok (.ifCond .ne 7, 3) := by decide +kernel
theorem dX12_product_66 : decode cX12_product 66 = .ok (.iconst 0, 1) := by decide +kernel
theorem dX12_product_67 : decode cX12_product 67 = .ok (.goto 18, 3) := by decide +kernel
theorem dX12_product_70 : decode cX12_product 70 = .ok (.iload_n 2, 1) := by decide +kernel
theorem dX12_product_71 : decode cX12_product 71 = .ok (.bipush 47, 2) := by decide +kernel
theorem dX12_product_73 : decode cX12_product 73 = .ok (.if_icmp .ne 9, 3) := by decide +kernel
theorem dX12_product_76 : decode cX12_product 76 = .ok (.iload_n 1, 1) := by decide +kernel
theorem dX12_product_77 : decode cX12_product 77 = .ok (.iload_n 3, 1) := by decide +kernel
theorem dX12_product_78 : decode cX12_product 78 = .ok (.idiv, 1) := by decide +kernel
theorem dX12_product_79 : decode cX12_product 79 = .ok (.goto 6, 3) := by decide +kernel
theorem dX12_product_82 : decode cX12_product 82 = .ok (.iload_n 1, 1) := by decide +kernel
theorem dX12_product_83 : decode cX12_product 83 = .ok (.iload_n 3, 1) := by decide +kernel
theorem dX12_product_84 : decode cX12_product 84 = .ok (.irem, 1) := by decide +kernel
theorem dX12_product_85 : decode cX12_product 85 = .ok (.istore_n 1, 1) := by decide +kernel
theorem dX12_product_86 : decode cX12_product 86 = .ok (.aload_n 0, 1) := by decide +kernel
theorem dX12_product_87 : decode cX12_product 87 = .ok (.invokevirtual 309, 3) := by decide +kernel
theorem dX12_product_90 : decode cX12_product 90 = .ok (.istore_n 2, 1) := by decide +kernel
theorem dX12_product_91 : decode cX12_product 91 = .ok (.goto (-81), 3) := by decide +kernel
theorem dX12_product_94 : decode cX12_product 94 = .ok (.iload_n 1, 1) := by decide +kernel
theorem dX12_product_95 : decode cX12_product 95 = .ok (.ireturn, 1) := by decide +kernel
theorem dX12_nameOf_0 : decode cX12_nameOf 0 = .ok (.iload_n 0, 1) := by decide +kernel
theorem dX12_nameOf_1 : decode cX12_nameOf 1 = .ok (.tableswitch 133 97 121 #[130, 121, 133, 133, 133, 127, 133, 133, 133, 133, 133, 123, 133, 133, 115, 133, 133, 117, 119, 133, 133, 133, 133, 133, 125], 115) := by decide +kernel
theorem dX12_nameOf_116 : decode cX12_nameOf 116 = .ok (.iconst 0, 1) := by decide +kernel
theorem dX12_nameOf_117 : decode cX12_nameOf 117 = .ok (.ireturn, 1) := by decide +kernel
theorem dX12_nameOf_118 : decode cX12_nameOf 118 = .ok (.iconst 1, 1) := by decide +kernel
theorem dX12_nameOf_119 : decode cX12_nameOf 119 = .ok (.ireturn, 1) := by decide +kernel
theorem dX12_nameOf_120 : decode cX12_nameOf 120 = .ok (.iconst 2, 1) := by decide +kernel
theorem dX12_nameOf_121 : decode cX12_nameOf 121 = .ok (.ireturn, 1) := by decide +kernel
theorem dX12_nameOf_122 : decode cX12_nameOf 122 = .ok (.iconst 3, 1) := by decide +kernel
theorem dX12_nameOf_123 : decode cX12_nameOf 123 = .ok (.ireturn, 1) := by decide +kernel
theorem dX12_nameOf_124 : decode cX12_nameOf 124 = .ok (.iconst 4, 1) := by decide +kernel
theorem dX12_nameOf_125 : decode cX12_nameOf 125 = .ok (.ireturn, 1) := by decide +kernel
theorem dX12_nameOf_126 : decode cX12_nameOf 126 = .ok (.iconst 5, 1) := by decide +kernel
theorem dX12_nameOf_127 : decode cX12_nameOf 127 = .ok (.ireturn, 1) := by decide +kernel
theorem dX12_nameOf_128 : decode cX12_nameOf 128 = .ok (.bipush 6, 2) := by decide +kernel
theorem dX12_nameOf_130 : decode cX12_nameOf 130 = .ok (.ireturn, 1) := by decide +kernel
theorem dX12_nameOf_131 : decode cX12_nameOf 131 = .ok (.bipush 7, 2) := by decide +kernel
theorem dX12_nameOf_133 : decode cX12_nameOf 133 = .ok (.ireturn, 1) := by decide +kernel
theorem dX12_nameOf_134 : decode cX12_nameOf 134 = .ok (.iconst (-1), 1) := by decide +kernel
theorem dX12_nameOf_135 : decode cX12_nameOf 135 = .ok (.ireturn, 1) := by decide +kernel
set_option maxRecDepth 20000 in
theorem ggX12_one_X12_byteAt : GoodIn wsX12_one wsX12_byteAt := goodIn_r _ [9, 3, 10, 11, 12, 13, 48, 49, 50, 51, 52, 53, 54, 55, 56, 57, 58, 59, 60, 61, 62, 63, 64, 65, 66, 67, 68, 69, 70, 71, 72, 73, 74, 75, 76, 77, 78, 79, 80, 81, 82, 83, 84, 85, 86, 87, 88, 89, 90, 91, 92, 93, 94, 95, 96, 97, 98, 99, 100, 101, 102, 103, 104, 105, 106, 107, 108, 109, 110] rfl (by decide +kernel)
set_option maxRecDepth 20000 in
theorem gX12_one_X12_byteAt : GoodIn wsX12_one (wsV RX12 309 RX12 yX12_byteAt wsX12_byteAt) := goodIn_app (goodIn_of _ (by decide +kernel)) ggX12_one_X12_byteAt
set_option maxRecDepth 20000 in
theorem ggX12_one_X12_wrong : GoodIn wsX12_one wsX12_wrong := goodIn_r _ [17, 1, 3, 48, 49, 50, 51, 52, 53, 54, 55, 56, 57, 58, 59, 60, 61, 62, 63, 64, 65, 66, 67, 68, 69, 70, 71, 72, 73, 74, 75, 76, 77, 78, 79, 80, 81, 82, 83, 84, 85, 86, 87, 88, 89, 90, 91, 92, 93, 94, 95, 96, 97, 98, 99, 100, 101, 102, 103, 104, 105, 106, 107, 108, 109, 110] rfl (by decide +kernel)
set_option maxRecDepth 20000 in
theorem gX12_one_X12_wrong : GoodIn wsX12_one (wsV RX12 333 RX12 yX12_wrong wsX12_wrong) := goodIn_app (goodIn_of _ (by decide +kernel)) ggX12_one_X12_wrong
set_option maxRecDepth 20000 in
theorem ggX12_one_X12_either : GoodIn wsX12_one wsX12_either := goodIn_r _ [39, 40, 41, 42, 8, 24, 25, 26, 27, 1, 3, 5, 6, 7, 9, 10, 11, 12, 13, 31, 32, 33, 34, 35, 36, 37, 38, 0, 2, 4, 14, 15, 16, 17, 18, 19, 20, 21, 22, 23, 28, 29, 30, 43, 44, 45, 46, 47, 48, 49, 50, 51, 52, 53, 54, 55, 56, 57, 58, 59, 60, 61, 62, 63, 64, 65, 66, 67, 68, 69, 70, 71, 72, 73, 74, 75, 76, 77, 78, 79, 80, 81, 82, 83, 84, 85, 86, 87, 88, 89, 90, 91, 92, 93, 94, 95, 96, 97, 98, 99, 100, 101, 102, 103, 104, 105, 106, 107, 108, 109, 110] rfl (by decide +kernel)
set_option maxRecDepth 20000 in
theorem gX12_one_X12_either : GoodIn wsX12_one (wsV RX12 336 RX12 yX12_either wsX12_either) := goodIn_app (goodIn_of _ (by decide +kernel)) ggX12_one_X12_either
set_option maxRecDepth 20000 in
theorem ggX12_one_X12_one : GoodIn wsX12_one wsX12_one := goodIn_r _ [0, 1, 2, 3, 4, 5, 6, 7, 8, 9, 10, 11, 12, 13, 14, 15, 16, 17, 18, 19, 20, 21, 22, 23, 24, 25, 26, 27, 28, 29, 30, 31, 32, 33, 34, 35, 36, 37, 38, 39, 40, 41, 42, 43, 44, 45, 46, 47, 48, 49, 50, 51, 52, 53, 54, 55, 56, 57, 58, 59, 60, 61, 62, 63, 64, 65, 66, 67, 68, 69, 70, 71, 72, 73, 74, 75, 76, 77, 78, 79, 80, 81, 82, 83, 84, 85, 86, 87, 88, 89, 90, 91, 92, 93, 94, 95, 96, 97, 98, 99, 100, 101, 102, 103, 104, 105, 106, 107, 108, 109, 110] rfl (by decide +kernel)
set_option maxRecDepth 20000 in
theorem gX12_one_X12_one : GoodIn wsX12_one (wsV RX12 327 RX12 yX12_one wsX12_one) := goodIn_app (goodIn_of _ (by decide +kernel)) ggX12_one_X12_one
set_option maxRecDepth 20000 in
theorem ggX12_one_X12_takes : GoodIn wsX12_one wsX12_takes := goodIn_r _ [27, 1, 3, 5, 6, 7, 8, 9, 10, 11, 12, 13, 48, 49, 50, 51, 52, 53, 54, 55, 56, 57, 58, 59, 60, 61, 62, 63, 64, 65, 66, 67, 68, 69, 70, 71, 72, 73, 74, 75, 76, 77, 78, 79, 80, 81, 82, 83, 84, 85, 86, 87, 88, 89, 90, 91, 92, 93, 94, 95, 96, 97, 98, 99, 100, 101, 102, 103, 104, 105, 106, 107, 108, 109, 110] rfl (by decide +kernel)
set_option maxRecDepth 20000 in
theorem gX12_one_X12_takes : GoodIn wsX12_one (wsV RX12 315 RX12 yX12_takes wsX12_takes) := goodIn_app (goodIn_of _ (by decide +kernel)) ggX12_one_X12_takes
set_option maxRecDepth 20000 in
theorem ggX12_one_X12_nameOf : GoodIn wsX12_one wsX12_nameOf := goodIn_r _ [30] rfl (by decide +kernel)
set_option maxRecDepth 20000 in
theorem gX12_one_X12_nameOf : GoodIn wsX12_one (va_wsS RX12 339 yX12_nameOf wsX12_nameOf) := goodIn_app (goodIn_of _ (by decide +kernel)) ggX12_one_X12_nameOf
theorem dX12_one_0 : decode cX12_one 0 = .ok (.aload_n 0, 1) := by decide +kernel
theorem dX12_one_1 : decode cX12_one 1 = .ok (.getfield 306, 3) := by decide +kernel
theorem dX12_one_4 : decode cX12_one 4 = .ok (.ifCond .lt 5, 3) := by decide +kernel
theorem dX12_one_7 : decode cX12_one 7 = .ok (.iconst 0, 1) := by decide +kernel
theorem dX12_one_8 : decode cX12_one 8 = .ok (.ireturn, 1) := by decide +kernel
theorem dX12_one_9 : decode cX12_one 9 = .ok (.aload_n 0, 1) := by decide +kernel
theorem dX12_one_10 : decode cX12_one 10 = .ok (.invokevirtual 309, 3) := by decide +kernel
theorem dX12_one_13 : decode cX12_one 13 = .ok (.istore_n 1, 1) := by decide +kernel
theorem dX12_one_14 : decode cX12_one 14 = .ok (.iload_n 1, 1) := by decide +kernel
theorem dX12_one_15 : decode cX12_one 15 = .ok (.bipush 33, 2) := by decide +kernel
theorem dX12_one_17 : decode cX12_one 17 = .ok (.if_icmp .eq 15, 3) := by decide +kernel
theorem dX12_one_20 : decode cX12_one 20 = .ok (.iload_n 1, 1) := by decide +kernel
theorem dX12_one_21 : decode cX12_one 21 = .ok (.bipush 45, 2) := by decide +kernel
theorem dX12_one_23 : decode cX12_one 23 = .ok (.if_icmp .eq 9, 3) := by decide +kernel
theorem dX12_one_26 : decode cX12_one 26 = .ok (.iload_n 1, 1) := by decide +kernel
theorem dX12_one_27 : decode cX12_one 27 = .ok (.bipush 40, 2) := by decide +kernel
theorem dX12_one_29 : decode cX12_one 29 = .ok (.if_icmp .ne 116, 3) := by decide +kernel
theorem dX12_one_32 : decode cX12_one 32 = .ok (.aload_n 0, 1) := by decide +kernel
theorem dX12_one_33 : decode cX12_one 33 = .ok (.getfield 330, 3) := by decide +kernel
theorem dX12_one_36 : decode cX12_one 36 = .ok (.bipush 6, 2) := by decide +kernel
theorem dX12_one_38 : decode cX12_one 38 = .ok (.if_icmp .ne 8, 3) := by decide +kernel
theorem dX12_one_41 : decode cX12_one 41 = .ok (.aload_n 0, 1) := by decide +kernel
theorem dX12_one_42 : decode cX12_one 42 = .ok (.invokevirtual 333, 3) := by decide +kernel
theorem dX12_one_45 : decode cX12_one 45 = .ok (.ireturn, 1) := by decide +kernel
theorem dX12_one_46 : decode cX12_one 46 = .ok (.aload_n 0, 1) := by decide +kernel
theorem dX12_one_47 : decode cX12_one 47 = .ok (.dup, 1) := by decide +kernel
theorem dX12_one_48 : decode cX12_one 48 = .ok (.getfield 330, 3) := by decide +kernel
theorem dX12_one_51 : decode cX12_one 51 = .ok (.iconst 1, 1) := by decide +kernel
theorem dX12_one_52 : decode cX12_one 52 = .ok (.iadd, 1) := by decide +kernel
theorem dX12_one_53 : decode cX12_one 53 = .ok (.putfield 330, 3) := by decide +kernel
theorem dX12_one_56 : decode cX12_one 56 = .ok (.aload_n 0, 1) := by decide +kernel
theorem dX12_one_57 : decode cX12_one 57 = .ok (.dup, 1) := by decide +kernel
theorem dX12_one_58 : decode cX12_one 58 = .ok (.getfield 297, 3) := by decide +kernel
theorem dX12_one_61 : decode cX12_one 61 = .ok (.iconst 1, 1) := by decide +kernel
theorem dX12_one_62 : decode cX12_one 62 = .ok (.iadd, 1) := by decide +kernel
theorem dX12_one_63 : decode cX12_one 63 = .ok (.putfield 297, 3) := by decide +kernel
theorem dX12_one_66 : decode cX12_one 66 = .ok (.iload_n 1, 1) := by decide +kernel
theorem dX12_one_67 : decode cX12_one 67 = .ok (.bipush 40, 2) := by decide +kernel
theorem dX12_one_69 : decode cX12_one 69 = .ok (.if_icmp .ne 10, 3) := by decide +kernel
theorem dX12_one_72 : decode cX12_one 72 = .ok (.aload_n 0, 1) := by decide +kernel
theorem dX12_one_73 : decode cX12_one 73 = .ok (.invokevirtual 336, 3) := by decide +kernel
theorem dX12_one_76 : decode cX12_one 76 = .ok (.goto 7, 3) := by decide +kernel
theorem dX12_one_79 : decode cX12_one 79 = .ok (.aload_n 0, 1) := by decide +kernel
theorem dX12_one_80 : decode cX12_one 80 = .ok (.invokevirtual 327, 3) := by decide +kernel
theorem dX12_one_83 : decode cX12_one 83 = .ok (.istore_n 2, 1) := by decide +kernel
theorem dX12_one_84 : decode cX12_one 84 = .ok (.iload_n 1, 1) := by decide +kernel
theorem dX12_one_85 : decode cX12_one 85 = .ok (.bipush 40, 2) := by decide +kernel
theorem dX12_one_87 : decode cX12_one 87 = .ok (.if_icmp .ne 17, 3) := by decide +kernel
theorem dX12_one_90 : decode cX12_one 90 = .ok (.aload_n 0, 1) := by decide +kernel
theorem dX12_one_91 : decode cX12_one 91 = .ok (.bipush 41, 2) := by decide +kernel
theorem dX12_one_93 : decode cX12_one 93 = .ok (.invokevirtual 315, 3) := by decide +kernel
theorem dX12_one_96 : decode cX12_one 96 = .ok (.ifCond .ne 8, 3) := by decide +kernel
theorem dX12_one_99 : decode cX12_one 99 = .ok (.aload_n 0, 1) := by decide +kernel
theorem dX12_one_100 : decode cX12_one 100 = .ok (.invokevirtual 333, 3) := by decide +kernel
theorem dX12_one_103 : decode cX12_one 103 = .ok (.ireturn, 1) := by decide +kernel
theorem dX12_one_104 : decode cX12_one 104 = .ok (.aload_n 0, 1) := by decide +kernel
theorem dX12_one_105 : decode cX12_one 105 = .ok (.dup, 1) := by decide +kernel
theorem dX12_one_106 : decode cX12_one 106 = .ok (.getfield 330, 3) := by decide +kernel
theorem dX12_one_109 : decode cX12_one 109 = .ok (.iconst 1, 1) := by decide +kernel
theorem dX12_one_110 : decode cX12_one 110 = .ok (.isub, 1) := by decide +kernel
theorem dX12_one_111 : decode cX12_one 111 = .ok (.putfield 330, 3) := by decide +kernel
theorem dX12_one_114 : decode cX12_one 114 = .ok (.iload_n 1, 1) := by decide +kernel
theorem dX12_one_115 : decode cX12_one 115 = .ok (.bipush 40, 2) := by decide +kernel
theorem dX12_one_117 : decode cX12_one 117 = .ok (.if_icmp .ne 7, 3) := by decide +kernel
theorem dX12_one_120 : decode cX12_one 120 = .ok (.iload_n 2, 1) := by decide +kernel
theorem dX12_one_121 : decode cX12_one 121 = .ok (.goto 23, 3) := by decide +kernel
theorem dX12_one_124 : decode cX12_one 124 = .ok (.iload_n 1, 1) := by decide +kernel
theorem dX12_one_125 : decode cX12_one 125 = .ok (.bipush 45, 2) := by decide +kernel
theorem dX12_one_127 : decode cX12_one 127 = .ok (.if_icmp .ne 8, 3) := by decide +kernel
theorem dX12_one_130 : decode cX12_one 130 = .ok (.iload_n 2, 1) := by decide +kernel
theorem dX12_one_131 : decode cX12_one 131 = .ok (.ineg, 1) := by decide +kernel
theorem dX12_one_132 : decode cX12_one 132 = .ok (.goto 12, 3) := by decide +kernel
theorem dX12_one_135 : decode cX12_one 135 = .ok (.iload_n 2, 1) := by decide +kernel
theorem dX12_one_136 : decode cX12_one 136 = .ok (.ifCond .ne 7, 3) := by decide +kernel
theorem dX12_one_139 : decode cX12_one 139 = .ok (.iconst 1, 1) := by decide +kernel
theorem dX12_one_140 : decode cX12_one 140 = .ok (.goto 4, 3) := by decide +kernel
theorem dX12_one_143 : decode cX12_one 143 = .ok (.iconst 0, 1) := by decide +kernel
theorem dX12_one_144 : decode cX12_one 144 = .ok (.ireturn, 1) := by decide +kernel
theorem dX12_one_145 : decode cX12_one 145 = .ok (.iload_n 1, 1) := by decide +kernel
theorem dX12_one_146 : decode cX12_one 146 = .ok (.invokestatic 339, 3) := by decide +kernel
theorem dX12_one_149 : decode cX12_one 149 = .ok (.istore_n 2, 1) := by decide +kernel
theorem dX12_one_150 : decode cX12_one 150 = .ok (.iload_n 2, 1) := by decide +kernel
theorem dX12_one_151 : decode cX12_one 151 = .ok (.ifCond .lt 20, 3) := by decide +kernel
theorem dX12_one_154 : decode cX12_one 154 = .ok (.aload_n 0, 1) := by decide +kernel
theorem dX12_one_155 : decode cX12_one 155 = .ok (.dup, 1) := by decide +kernel
theorem dX12_one_156 : decode cX12_one 156 = .ok (.getfield 297, 3) := by decide +kernel
theorem dX12_one_159 : decode cX12_one 159 = .ok (.iconst 1, 1) := by decide +kernel
theorem dX12_one_160 : decode cX12_one 160 = .ok (.iadd, 1) := by decide +kernel
theorem dX12_one_161 : decode cX12_one 161 = .ok (.putfield 297, 3) := by decide +kernel
theorem dX12_one_164 : decode cX12_one 164 = .ok (.aload_n 0, 1) := by decide +kernel
theorem dX12_one_165 : decode cX12_one 165 = .ok (.getfield 98, 3) := by decide +kernel
theorem dX12_one_168 : decode cX12_one 168 = .ok (.iload_n 2, 1) := by decide +kernel
theorem dX12_one_169 : decode cX12_one 169 = .ok (.iaload, 1) := by decide +kernel
theorem dX12_one_170 : decode cX12_one 170 = .ok (.ireturn, 1) := by decide +kernel
theorem dX12_one_171 : decode cX12_one 171 = .ok (.iconst 0, 1) := by decide +kernel
theorem dX12_one_172 : decode cX12_one 172 = .ok (.istore_n 3, 1) := by decide +kernel
theorem dX12_one_173 : decode cX12_one 173 = .ok (.iconst 0, 1) := by decide +kernel
theorem dX12_one_174 : decode cX12_one 174 = .ok (.istore 4, 2) := by decide +kernel
theorem dX12_one_176 : decode cX12_one 176 = .ok (.iload 4, 2) := by decide +kernel
theorem dX12_one_178 : decode cX12_one 178 = .ok (.iconst 4, 1) := by decide +kernel
theorem dX12_one_179 : decode cX12_one 179 = .ok (.if_icmp .ge 50, 3) := by decide +kernel
theorem dX12_one_182 : decode cX12_one 182 = .ok (.aload_n 0, 1) := by decide +kernel
theorem dX12_one_183 : decode cX12_one 183 = .ok (.invokevirtual 309, 3) := by decide +kernel
theorem dX12_one_186 : decode cX12_one 186 = .ok (.bipush 48, 2) := by decide +kernel
theorem dX12_one_188 : decode cX12_one 188 = .ok (.if_icmp .lt 41, 3) := by decide +kernel
theorem dX12_one_191 : decode cX12_one 191 = .ok (.aload_n 0, 1) := by decide +kernel
theorem dX12_one_192 : decode cX12_one 192 = .ok (.invokevirtual 309, 3) := by decide +kernel
theorem dX12_one_195 : decode cX12_one 195 = .ok (.bipush 57, 2) := by decide +kernel
theorem dX12_one_197 : decode cX12_one 197 = .ok (.if_icmp .gt 32, 3) := by decide +kernel
theorem dX12_one_200 : decode cX12_one 200 = .ok (.bipush 10, 2) := by decide +kernel
theorem dX12_one_202 : decode cX12_one 202 = .ok (.iload_n 3, 1) := by decide +kernel
theorem dX12_one_203 : decode cX12_one 203 = .ok (.imul, 1) := by decide +kernel
theorem dX12_one_204 : decode cX12_one 204 = .ok (.aload_n 0, 1) := by decide +kernel
theorem dX12_one_205 : decode cX12_one 205 = .ok (.invokevirtual 309, 3) := by decide +kernel
theorem dX12_one_208 : decode cX12_one 208 = .ok (.iadd, 1) := by decide +kernel
theorem dX12_one_209 : decode cX12_one 209 = .ok (.bipush 48, 2) := by decide +kernel
theorem dX12_one_211 : decode cX12_one 211 = .ok (.isub, 1) := by decide +kernel
theorem dX12_one_212 : decode cX12_one 212 = .ok (.istore_n 3, 1) := by decide +kernel
theorem dX12_one_213 : decode cX12_one 213 = .ok (.iinc 4 1, 3) := by decide +kernel
theorem dX12_one_216 : decode cX12_one 216 = .ok (.aload_n 0, 1) := by decide +kernel
theorem dX12_one_217 : decode cX12_one 217 = .ok (.dup, 1) := by decide +kernel
theorem dX12_one_218 : decode cX12_one 218 = .ok (.getfield 297, 3) := by decide +kernel
theorem dX12_one_221 : decode cX12_one 221 = .ok (.iconst 1, 1) := by decide +kernel
theorem dX12_one_222 : decode cX12_one 222 = .ok (.iadd, 1) := by decide +kernel
theorem dX12_one_223 : decode cX12_one 223 = .ok (.putfield 297, 3) := by decide +kernel
theorem dX12_one_226 : decode cX12_one 226 = .ok (.goto (-50), 3) := by decide +kernel
theorem dX12_one_229 : decode cX12_one 229 = .ok (.iload 4, 2) := by decide +kernel
theorem dX12_one_231 : decode cX12_one 231 = .ok (.ifCond .ne 10, 3) := by decide +kernel
theorem dX12_one_234 : decode cX12_one 234 = .ok (.aload_n 0, 1) := by decide +kernel
theorem dX12_one_235 : decode cX12_one 235 = .ok (.invokevirtual 333, 3) := by decide +kernel
theorem dX12_one_238 : decode cX12_one 238 = .ok (.goto 4, 3) := by decide +kernel
theorem dX12_one_241 : decode cX12_one 241 = .ok (.iload_n 3, 1) := by decide +kernel
theorem dX12_one_242 : decode cX12_one 242 = .ok (.ireturn, 1) := by decide +kernel
set_option maxRecDepth 20000 in
theorem ggX12_workOut_X12_either : GoodIn wsX12_workOut wsX12_either := goodIn_r _ [10, 11, 12, 13, 9, 14, 15, 16, 17, 4, 2, 18, 19, 20, 21, 3, 1, 22, 23, 24, 25, 26, 27, 28, 29, 30, 31, 32, 5, 33, 34, 35, 36, 37, 6, 7, 8, 38, 39, 40, 41, 42, 43, 44, 45, 46, 47, 48, 49, 50, 51, 52, 53, 54, 55, 56, 57, 58, 59, 60, 61, 62, 63, 64, 65, 66, 67, 68, 69, 70, 71, 72, 73, 74, 75, 76, 77, 78, 79, 80, 81, 82, 83, 84, 85, 86, 87, 88, 89, 90, 91, 92, 93, 94, 95, 96, 97, 98, 99, 100, 101, 102, 103, 104, 105, 106, 107, 108, 109, 110, 111] rfl (by decide +kernel)
set_option maxRecDepth 20000 in
theorem gX12_workOut_X12_either : GoodIn wsX12_workOut (wsV RX12 336 RX12 yX12_either wsX12_either) := goodIn_app (goodIn_of _ (by decide +kernel)) ggX12_workOut_X12_either
set_option maxRecDepth 20000 in
theorem ggX12_workOut_X12_takes : GoodIn wsX12_workOut wsX12_takes := goodIn_r _ [17, 4, 2, 18, 19, 20, 9, 21, 3, 1, 22, 23, 49, 50, 51, 52, 53, 54, 55, 56, 57, 58, 59, 60, 61, 62, 63, 64, 65, 66, 67, 68, 69, 70, 71, 72, 73, 74, 75, 76, 77, 78, 79, 80, 81, 82, 83, 84, 85, 86, 87, 88, 89, 90, 91, 92, 93, 94, 95, 96, 97, 98, 99, 100, 101, 102, 103, 104, 105, 106, 107, 108, 109, 110, 111] rfl (by decide +kernel)
set_option maxRecDepth 20000 in
theorem gX12_workOut_X12_takes : GoodIn wsX12_workOut (wsV RX12 315 RX12 yX12_takes wsX12_takes) := goodIn_app (goodIn_of _ (by decide +kernel)) ggX12_workOut_X12_takes
set_option maxRecDepth 20000 in
theorem ggX12_workOut_X12_wrong : GoodIn wsX12_workOut wsX12_wrong := goodIn_r _ [37, 4, 2, 49, 50, 51, 52, 53, 54, 55, 56, 57, 58, 59, 60, 61, 62, 63, 64, 65, 66, 67, 68, 69, 70, 71, 72, 73, 74, 75, 76, 77, 78, 79, 80, 81, 82, 83, 84, 85, 86, 87, 88, 89, 90, 91, 92, 93, 94, 95, 96, 97, 98, 99, 100, 101, 102, 103, 104, 105, 106, 107, 108, 109, 110, 111] rfl (by decide +kernel)
set_option maxRecDepth 20000 in
theorem gX12_workOut_X12_wrong : GoodIn wsX12_workOut (wsV RX12 333 RX12 yX12_wrong wsX12_wrong) := goodIn_app (goodIn_of _ (by decide +kernel)) ggX12_workOut_X12_wrong
theorem dX12_workOut_0 : decode cX12_workOut 0 = .ok (.aload_n 0, 1) := by decide +kernel
theorem dX12_workOut_1 : decode cX12_workOut 1 = .ok (.iload_n 1, 1) := by decide +kernel
theorem dX12_workOut_2 : decode cX12_workOut 2 = .ok (.putfield 303, 3) := by decide +kernel
theorem dX12_workOut_5 : decode cX12_workOut 5 = .ok (.aload_n 0, 1) := by decide +kernel
theorem dX12_workOut_6 : decode cX12_workOut 6 = .ok (.iconst 0, 1) := by decide +kernel
theorem dX12_workOut_7 : decode cX12_workOut 7 = .ok (.putfield 297, 3) := by decide +kernel
theorem dX12_workOut_10 : decode cX12_workOut 10 = .ok (.aload_n 0, 1) := by decide +kernel
theorem dX12_workOut_11 : decode cX12_workOut 11 = .ok (.iload_n 2, 1) := by decide +kernel
theorem dX12_workOut_12 : decode cX12_workOut 12 = .ok (.putfield 300, 3) := by decide +kernel
theorem dX12_workOut_15 : decode cX12_workOut 15 = .ok (.aload_n 0, 1) := by decide +kernel
theorem dX12_workOut_16 : decode cX12_workOut 16 = .ok (.iconst (-1), 1) := by decide +kernel
theorem dX12_workOut_17 : decode cX12_workOut 17 = .ok (.putfield 306, 3) := by decide +kernel
theorem dX12_workOut_20 : decode cX12_workOut 20 = .ok (.aload_n 0, 1) := by decide +kernel
theorem dX12_workOut_21 : decode cX12_workOut 21 = .ok (.iconst 0, 1) := by decide +kernel
theorem dX12_workOut_22 : decode cX12_workOut 22 = .ok (.putfield 330, 3) := by decide +kernel
theorem dX12_workOut_25 : decode cX12_workOut 25 = .ok (.iconst 0, 1) := by decide +kernel
theorem dX12_workOut_26 : decode cX12_workOut 26 = .ok (.istore_n 3, 1) := by decide +kernel
theorem dX12_workOut_27 : decode cX12_workOut 27 = .ok (.iconst 0, 1) := by decide +kernel
theorem dX12_workOut_28 : decode cX12_workOut 28 = .ok (.istore 4, 2) := by decide +kernel
theorem dX12_workOut_30 : decode cX12_workOut 30 = .ok (.iconst 1, 1) := by decide +kernel
theorem dX12_workOut_31 : decode cX12_workOut 31 = .ok (.istore 5, 2) := by decide +kernel
theorem dX12_workOut_33 : decode cX12_workOut 33 = .ok (.iload 5, 2) := by decide +kernel
theorem dX12_workOut_35 : decode cX12_workOut 35 = .ok (.ifCond .eq 72, 3) := by decide +kernel
theorem dX12_workOut_38 : decode cX12_workOut 38 = .ok (.aload_n 0, 1) := by decide +kernel
theorem dX12_workOut_39 : decode cX12_workOut 39 = .ok (.invokevirtual 336, 3) := by decide +kernel
theorem dX12_workOut_42 : decode cX12_workOut 42 = .ok (.istore 6, 2) := by decide +kernel
theorem dX12_workOut_44 : decode cX12_workOut 44 = .ok (.iconst 1, 1) := by decide +kernel
theorem dX12_workOut_45 : decode cX12_workOut 45 = .ok (.istore 7, 2) := by decide +kernel
theorem dX12_workOut_47 : decode cX12_workOut 47 = .ok (.aload_n 0, 1) := by decide +kernel
theorem dX12_workOut_48 : decode cX12_workOut 48 = .ok (.bipush 63, 2) := by decide +kernel
theorem dX12_workOut_50 : decode cX12_workOut 50 = .ok (.invokevirtual 315, 3) := by decide +kernel
theorem dX12_workOut_53 : decode cX12_workOut 53 = .ok (.ifCond .eq 21, 3) := by decide +kernel
theorem dX12_workOut_56 : decode cX12_workOut 56 = .ok (.iload 6, 2) := by decide +kernel
theorem dX12_workOut_58 : decode cX12_workOut 58 = .ok (.ifCond .eq 7, 3) := by decide +kernel
theorem dX12_workOut_61 : decode cX12_workOut 61 = .ok (.iconst 1, 1) := by decide +kernel
theorem dX12_workOut_62 : decode cX12_workOut 62 = .ok (.goto 4, 3) := by decide +kernel
theorem dX12_workOut_65 : decode cX12_workOut 65 = .ok (.iconst 0, 1) := by decide +kernel
theorem dX12_workOut_66 : decode cX12_workOut 66 = .ok (.istore 7, 2) := by decide +kernel
theorem dX12_workOut_68 : decode cX12_workOut 68 = .ok (.aload_n 0, 1) := by decide +kernel
theorem dX12_workOut_69 : decode cX12_workOut 69 = .ok (.invokevirtual 336, 3) := by decide +kernel
theorem dX12_workOut_72 : decode cX12_workOut 72 = .ok (.istore 6, 2) := by decide +kernel
theorem dX12_workOut_74 : decode cX12_workOut 74 = .ok (.aload_n 0, 1) := by decide +kernel
theorem dX12_workOut_75 : decode cX12_workOut 75 = .ok (.getfield 306, 3) := by decide +kernel
theorem dX12_workOut_78 : decode cX12_workOut 78 = .ok (.ifCond .ge 18, 3) := by decide +kernel
theorem dX12_workOut_81 : decode cX12_workOut 81 = .ok (.iload 7, 2) := by decide +kernel
theorem dX12_workOut_83 : decode cX12_workOut 83 = .ok (.ifCond .eq 13, 3) := by decide +kernel
theorem dX12_workOut_86 : decode cX12_workOut 86 = .ok (.iload_n 3, 1) := by decide +kernel
theorem dX12_workOut_87 : decode cX12_workOut 87 = .ok (.ifCond .ne 9, 3) := by decide +kernel
theorem dX12_workOut_90 : decode cX12_workOut 90 = .ok (.iconst 1, 1) := by decide +kernel
theorem dX12_workOut_91 : decode cX12_workOut 91 = .ok (.istore_n 3, 1) := by decide +kernel
theorem dX12_workOut_92 : decode cX12_workOut 92 = .ok (.iload 6, 2) := by decide +kernel
theorem dX12_workOut_94 : decode cX12_workOut 94 = .ok (.istore 4, 2) := by decide +kernel
theorem dX12_workOut_96 : decode cX12_workOut 96 = .ok (.aload_n 0, 1) := by decide +kernel
theorem dX12_workOut_97 : decode cX12_workOut 97 = .ok (.bipush 59, 2) := by decide +kernel
theorem dX12_workOut_99 : decode cX12_workOut 99 = .ok (.invokevirtual 315, 3) := by decide +kernel
theorem dX12_workOut_102 : decode cX12_workOut 102 = .ok (.istore 5, 2) := by decide +kernel
theorem dX12_workOut_104 : decode cX12_workOut 104 = .ok (.goto (-71), 3) := by decide +kernel
theorem dX12_workOut_107 : decode cX12_workOut 107 = .ok (.aload_n 0, 1) := by decide +kernel
theorem dX12_workOut_108 : decode cX12_workOut 108 = .ok (.getfield 306, 3) := by decide +kernel
theorem dX12_workOut_111 : decode cX12_workOut 111 = .ok (.ifCond .ge 19, 3) := by decide +kernel
theorem dX12_workOut_114 : decode cX12_workOut 114 = .ok (.aload_n 0, 1) := by decide +kernel
theorem dX12_workOut_115 : decode cX12_workOut 115 = .ok (.getfield 297, 3) := by decide +kernel
theorem dX12_workOut_118 : decode cX12_workOut 118 = .ok (.aload_n 0, 1) := by decide +kernel
theorem dX12_workOut_119 : decode cX12_workOut 119 = .ok (.getfield 300, 3) := by decide +kernel
theorem dX12_workOut_122 : decode cX12_workOut 122 = .ok (.if_icmp .ge 8, 3) := by decide +kernel
theorem dX12_workOut_125 : decode cX12_workOut 125 = .ok (.aload_n 0, 1) := by decide +kernel
theorem dX12_workOut_126 : decode cX12_workOut 126 = .ok (.invokevirtual 333, 3) := by decide +kernel
theorem dX12_workOut_129 : decode cX12_workOut 129 = .ok (.ireturn, 1) := by decide +kernel
theorem dX12_workOut_130 : decode cX12_workOut 130 = .ok (.iload 4, 2) := by decide +kernel
theorem dX12_workOut_132 : decode cX12_workOut 132 = .ok (.ireturn, 1) := by decide +kernel
set_option maxRecDepth 20000 in
theorem ggX12_story_X12_isYear : GoodIn wsX12_story wsX12_isYear := goodIn_r _ [13, 14, 15, 16, 12, 17] rfl (by decide +kernel)
set_option maxRecDepth 20000 in
theorem gX12_story_X12_isYear : GoodIn wsX12_story (va_wsS RX12 147 yX12_isYear wsX12_isYear) := goodIn_app (goodIn_of _ (by decide +kernel)) ggX12_story_X12_isYear
set_option maxRecDepth 20000 in
theorem ggX12_story_X12_within : GoodIn wsX12_story wsX12_within := goodIn_r _ [17] rfl (by decide +kernel)
set_option maxRecDepth 20000 in
theorem gX12_story_X12_within : GoodIn wsX12_story (va_wsS RX12 136 yX12_within wsX12_within) := goodIn_app (goodIn_of _ (by decide +kernel)) ggX12_story_X12_within
set_option maxRecDepth 20000 in
theorem ggX12_story_X12_workOut : GoodIn wsX12_story wsX12_workOut := goodIn_r _ [21, 22, 23, 24, 4, 25, 26, 27, 28, 12, 29, 30, 31, 32, 33, 34, 35, 36, 37, 38, 39, 40, 6, 5, 41, 42, 43, 44, 45, 46, 47, 48, 49, 50, 51, 52, 53, 54, 55, 56, 57, 58, 59, 60, 61, 62, 63, 64, 65, 66, 67, 68, 69, 70, 71, 72, 73, 74, 75, 76, 77, 78, 79, 80, 81, 82, 83, 84, 85, 86, 87, 88, 89, 90, 91, 92, 93, 94, 95, 96, 97, 98, 99, 100, 101, 102, 103, 104, 105, 106, 107, 108, 109, 110, 111, 112, 113, 114, 115, 116, 117, 118, 119, 120, 121, 122, 123, 124, 125, 126, 127, 128] rfl (by decide +kernel)
set_option maxRecDepth 20000 in
theorem gX12_story_X12_workOut : GoodIn wsX12_story (wsV RX12 345 RX12 yX12_workOut wsX12_workOut) := goodIn_app (goodIn_of _ (by decide +kernel)) ggX12_story_X12_workOut
theorem dX12_story_0 : decode cX12_story 0 = .ok (.iload_n 1, 1) := by decide +kernel
theorem dX12_story_1 : decode cX12_story 1 = .ok (.invokestatic 147, 3) := by decide +kernel
theorem dX12_story_4 : decode cX12_story 4 = .ok (.ifCond .eq 15, 3) := by decide +kernel
theorem dX12_story_7 : decode cX12_story 7 = .ok (.iload_n 2, 1) := by decide +kernel
theorem dX12_story_8 : decode cX12_story 8 = .ok (.i2l, 1) := by decide +kernel
theorem dX12_story_9 : decode cX12_story 9 = .ok (.lconst 1, 1) := by decide +kernel
theorem dX12_story_10 : decode cX12_story 10 = .ok (.ldc2_w 145, 3) := by decide +kernel
theorem dX12_story_13 : decode cX12_story 13 = .ok (.invokestatic 136, 3) := by decide +kernel
theorem dX12_story_16 : decode cX12_story 16 = .ok (.ifCond .ne 5, 3) := by decide +kernel
theorem dX12_story_19 : decode cX12_story 19 = .ok (.iconst (-1), 1) := by decide +kernel
theorem dX12_story_20 : decode cX12_story 20 = .ok (.ireturn, 1) := by decide +kernel
theorem dX12_story_21 : decode cX12_story 21 = .ok (.aload_n 0, 1) := by decide +kernel
theorem dX12_story_22 : decode cX12_story 22 = .ok (.getfield 342, 3) := by decide +kernel
theorem dX12_story_25 : decode cX12_story 25 = .ok (.bipush 6, 2) := by decide +kernel
theorem dX12_story_27 : decode cX12_story 27 = .ok (.if_icmp .ne 6, 3) := by decide +kernel
theorem dX12_story_30 : decode cX12_story 30 = .ok (.bipush (-3), 2) := by decide +kernel
theorem dX12_story_32 : decode cX12_story 32 = .ok (.ireturn, 1) := by decide +kernel
theorem dX12_story_33 : decode cX12_story 33 = .ok (.aload_n 0, 1) := by decide +kernel
theorem dX12_story_34 : decode cX12_story 34 = .ok (.iconst (-1), 1) := by decide +kernel
theorem dX12_story_35 : decode cX12_story 35 = .ok (.aload_n 0, 1) := by decide +kernel
theorem dX12_story_36 : decode cX12_story 36 = .ok (.getfield 294, 3) := by decide +kernel
theorem dX12_story_39 : decode cX12_story 39 = .ok (.invokevirtual 345, 3) := by decide +kernel
theorem dX12_story_42 : decode cX12_story 42 = .ok (.istore_n 3, 1) := by decide +kernel
theorem dX12_story_43 : decode cX12_story 43 = .ok (.aload_n 0, 1) := by decide +kernel
theorem dX12_story_44 : decode cX12_story 44 = .ok (.getfield 294, 3) := by decide +kernel
theorem dX12_story_47 : decode cX12_story 47 = .ok (.istore 4, 2) := by decide +kernel
theorem dX12_story_49 : decode cX12_story 49 = .ok (.aload_n 0, 1) := by decide +kernel
theorem dX12_story_50 : decode cX12_story 50 = .ok (.iconst 0, 1) := by decide +kernel
theorem dX12_story_51 : decode cX12_story 51 = .ok (.putfield 294, 3) := by decide +kernel
theorem dX12_story_54 : decode cX12_story 54 = .ok (.aload_n 0, 1) := by decide +kernel
theorem dX12_story_55 : decode cX12_story 55 = .ok (.getfield 306, 3) := by decide +kernel
theorem dX12_story_58 : decode cX12_story 58 = .ok (.ifCond .lt 11, 3) := by decide +kernel
theorem dX12_story_61 : decode cX12_story 61 = .ok (.bipush (-100), 2) := by decide +kernel
theorem dX12_story_63 : decode cX12_story 63 = .ok (.aload_n 0, 1) := by decide +kernel
theorem dX12_story_64 : decode cX12_story 64 = .ok (.getfield 306, 3) := by decide +kernel
theorem dX12_story_67 : decode cX12_story 67 = .ok (.isub, 1) := by decide +kernel
theorem dX12_story_68 : decode cX12_story 68 = .ok (.ireturn, 1) := by decide +kernel
theorem dX12_story_69 : decode cX12_story 69 = .ok (.iconst 0, 1) := by decide +kernel
theorem dX12_story_70 : decode cX12_story 70 = .ok (.istore 5, 2) := by decide +kernel
theorem dX12_story_72 : decode cX12_story 72 = .ok (.iload 5, 2) := by decide +kernel
theorem dX12_story_74 : decode cX12_story 74 = .ok (.iload 4, 2) := by decide +kernel
theorem dX12_story_76 : decode cX12_story 76 = .ok (.if_icmp .ge 31, 3) := by decide +kernel
theorem dX12_story_79 : decode cX12_story 79 = .ok (.aload_n 0, 1) := by decide +kernel
theorem dX12_story_80 : decode cX12_story 80 = .ok (.getfield 92, 3) := by decide +kernel
theorem dX12_story_83 : decode cX12_story 83 = .ok (.bipush 120, 2) := by decide +kernel
theorem dX12_story_85 : decode cX12_story 85 = .ok (.aload_n 0, 1) := by decide +kernel
theorem dX12_story_86 : decode cX12_story 86 = .ok (.getfield 342, 3) := by decide +kernel
theorem dX12_story_89 : decode cX12_story 89 = .ok (.imul, 1) := by decide +kernel
theorem dX12_story_90 : decode cX12_story 90 = .ok (.iload 5, 2) := by decide +kernel
theorem dX12_story_92 : decode cX12_story 92 = .ok (.iadd, 1) := by decide +kernel
theorem dX12_story_93 : decode cX12_story 93 = .ok (.aload_n 0, 1) := by decide +kernel
theorem dX12_story_94 : decode cX12_story 94 = .ok (.getfield 86, 3) := by decide +kernel
theorem dX12_story_97 : decode cX12_story 97 = .ok (.iload 5, 2) := by decide +kernel
theorem dX12_story_99 : decode cX12_story 99 = .ok (.iaload, 1) := by decide +kernel
theorem dX12_story_100 : decode cX12_story 100 = .ok (.iastore, 1) := by decide +kernel
theorem dX12_story_101 : decode cX12_story 101 = .ok (.iinc 5 1, 3) := by decide +kernel
theorem dX12_story_104 : decode cX12_story 104 = .ok (.goto (-32), 3) := by decide +kernel
theorem dX12_story_107 : decode cX12_story 107 = .ok (.aload_n 0, 1) := by decide +kernel
theorem dX12_story_108 : decode cX12_story 108 = .ok (.getfield 95, 3) := by decide +kernel
theorem dX12_story_111 : decode cX12_story 111 = .ok (.aload_n 0, 1) := by decide +kernel
theorem dX12_story_112 : decode cX12_story 112 = .ok (.getfield 342, 3) := by decide +kernel
theorem dX12_story_115 : decode cX12_story 115 = .ok (.iload 4, 2) := by decide +kernel
theorem dX12_story_117 : decode cX12_story 117 = .ok (.iastore, 1) := by decide +kernel
theorem dX12_story_118 : decode cX12_story 118 = .ok (.aload_n 0, 1) := by decide +kernel
theorem dX12_story_119 : decode cX12_story 119 = .ok (.getfield 89, 3) := by decide +kernel
theorem dX12_story_122 : decode cX12_story 122 = .ok (.aload_n 0, 1) := by decide +kernel
theorem dX12_story_123 : decode cX12_story 123 = .ok (.getfield 342, 3) := by decide +kernel
theorem dX12_story_126 : decode cX12_story 126 = .ok (.iload_n 1, 1) := by decide +kernel
theorem dX12_story_127 : decode cX12_story 127 = .ok (.iastore, 1) := by decide +kernel
theorem dX12_story_128 : decode cX12_story 128 = .ok (.aload_n 0, 1) := by decide +kernel
theorem dX12_story_129 : decode cX12_story 129 = .ok (.getfield 9, 3) := by decide +kernel
theorem dX12_story_132 : decode cX12_story 132 = .ok (.bipush 41, 2) := by decide +kernel
theorem dX12_story_134 : decode cX12_story 134 = .ok (.aload_n 0, 1) := by decide +kernel
theorem dX12_story_135 : decode cX12_story 135 = .ok (.getfield 342, 3) := by decide +kernel
theorem dX12_story_138 : decode cX12_story 138 = .ok (.iadd, 1) := by decide +kernel
theorem dX12_story_139 : decode cX12_story 139 = .ok (.iload_n 2, 1) := by decide +kernel
theorem dX12_story_140 : decode cX12_story 140 = .ok (.iastore, 1) := by decide +kernel
theorem dX12_story_141 : decode cX12_story 141 = .ok (.aload_n 0, 1) := by decide +kernel
theorem dX12_story_142 : decode cX12_story 142 = .ok (.dup, 1) := by decide +kernel
theorem dX12_story_143 : decode cX12_story 143 = .ok (.getfield 342, 3) := by decide +kernel
theorem dX12_story_146 : decode cX12_story 146 = .ok (.iconst 1, 1) := by decide +kernel
theorem dX12_story_147 : decode cX12_story 147 = .ok (.iadd, 1) := by decide +kernel
theorem dX12_story_148 : decode cX12_story 148 = .ok (.putfield 342, 3) := by decide +kernel
theorem dX12_story_151 : decode cX12_story 151 = .ok (.aload_n 0, 1) := by decide +kernel
theorem dX12_story_152 : decode cX12_story 152 = .ok (.getfield 342, 3) := by decide +kernel
theorem dX12_story_155 : decode cX12_story 155 = .ok (.iconst 1, 1) := by decide +kernel
theorem dX12_story_156 : decode cX12_story 156 = .ok (.isub, 1) := by decide +kernel
theorem dX12_story_157 : decode cX12_story 157 = .ok (.ireturn, 1) := by decide +kernel
set_option maxRecDepth 20000 in
theorem ggX12_isStory_X12_within : GoodIn wsX12_isStory wsX12_within := goodIn_r _ [5] rfl (by decide +kernel)
set_option maxRecDepth 20000 in
theorem gX12_isStory_X12_within : GoodIn wsX12_isStory (va_wsS RX12 136 yX12_within wsX12_within) := goodIn_app (goodIn_of _ (by decide +kernel)) ggX12_isStory_X12_within
theorem dX12_isStory_0 : decode cX12_isStory 0 = .ok (.iload_n 1, 1) := by decide +kernel
theorem dX12_isStory_1 : decode cX12_isStory 1 = .ok (.i2l, 1) := by decide +kernel
theorem dX12_isStory_2 : decode cX12_isStory 2 = .ok (.lconst 0, 1) := by decide +kernel
theorem dX12_isStory_3 : decode cX12_isStory 3 = .ok (.aload_n 0, 1) := by decide +kernel
theorem dX12_isStory_4 : decode cX12_isStory 4 = .ok (.getfield 342, 3) := by decide +kernel
theorem dX12_isStory_7 : decode cX12_isStory 7 = .ok (.iconst 1, 1) := by decide +kernel
theorem dX12_isStory_8 : decode cX12_isStory 8 = .ok (.isub, 1) := by decide +kernel
theorem dX12_isStory_9 : decode cX12_isStory 9 = .ok (.i2l, 1) := by decide +kernel
theorem dX12_isStory_10 : decode cX12_isStory 10 = .ok (.invokestatic 136, 3) := by decide +kernel
theorem dX12_isStory_13 : decode cX12_isStory 13 = .ok (.ireturn, 1) := by decide +kernel
set_option maxRecDepth 20000 in
theorem ggX12_prior_X12_isStory : GoodIn wsX12_prior wsX12_isStory := goodIn_r _ [6, 7, 8, 9, 5, 10, 21, 22, 23, 24, 25, 26, 27, 28, 29, 30, 31, 32, 33, 34, 35, 36, 37, 38, 39, 40, 41, 42, 43, 44, 45, 46, 47, 48, 49, 50, 51, 52, 53, 54, 55, 56, 57, 58, 59, 60, 61, 62, 63, 64, 65, 66, 67, 68, 69, 70, 71, 72, 73, 74, 75, 76, 77, 78, 79, 80, 81, 82, 83] rfl (by decide +kernel)
set_option maxRecDepth 20000 in
theorem gX12_prior_X12_isStory : GoodIn wsX12_prior (wsV RX12 348 RX12 yX12_isStory wsX12_isStory) := goodIn_app (goodIn_of _ (by decide +kernel)) ggX12_prior_X12_isStory
set_option maxRecDepth 20000 in
theorem ggX12_prior_X12_within : GoodIn wsX12_prior wsX12_within := goodIn_r _ [10] rfl (by decide +kernel)
set_option maxRecDepth 20000 in
theorem gX12_prior_X12_within : GoodIn wsX12_prior (va_wsS RX12 136 yX12_within wsX12_within) := goodIn_app (goodIn_of _ (by decide +kernel)) ggX12_prior_X12_within
set_option maxRecDepth 20000 in
theorem ggX12_prior_X12_becomes : GoodIn wsX12_prior wsX12_becomes := goodIn_r _ [14, 15, 16, 17, 18, 19, 20, 21, 22, 23, 24, 25, 26, 27, 28, 29, 30, 31, 32, 33, 34, 35, 36, 37, 38, 39, 40, 41, 42, 43, 44, 45, 46, 47, 48, 49, 50, 51, 52, 53, 54, 55, 56, 57, 58, 59, 60, 61, 62, 63, 64, 65, 66, 67, 68, 69, 70, 71, 72, 73, 74, 75, 76, 77, 78, 79, 80, 81, 82, 83] rfl (by decide +kernel)
set_option maxRecDepth 20000 in
theorem gX12_prior_X12_becomes : GoodIn wsX12_prior (wsV RX12 154 RX12 yX12_becomes wsX12_becomes) := goodIn_app (goodIn_of _ (by decide +kernel)) ggX12_prior_X12_becomes
theorem dX12_prior_0 : decode cX12_prior 0 = .ok (.aload_n 0, 1) := by decide +kernel
theorem dX12_prior_1 : decode cX12_prior 1 = .ok (.iload_n 1, 1) := by decide +kernel
theorem dX12_prior_2 : decode cX12_prior 2 = .ok (.invokevirtual 348, 3) := by decide +kernel
theorem dX12_prior_5 : decode cX12_prior 5 = .ok (.ifCond .eq 27, 3) := by decide +kernel
theorem dX12_prior_8 : decode cX12_prior 8 = .ok (.iload_n 2, 1) := by decide +kernel
theorem dX12_prior_9 : decode cX12_prior 9 = .ok (.i2l, 1) := by decide +kernel
theorem dX12_prior_10 : decode cX12_prior 10 = .ok (.lconst 1, 1) := by decide +kernel
theorem dX12_prior_11 : decode cX12_prior 11 = .ok (.ldc2_w 145, 3) := by decide +kernel
theorem dX12_prior_14 : decode cX12_prior 14 = .ok (.invokestatic 136, 3) := by decide +kernel
theorem dX12_prior_17 : decode cX12_prior 17 = .ok (.ifCond .eq 15, 3) := by decide +kernel
theorem dX12_prior_20 : decode cX12_prior 20 = .ok (.aload_n 0, 1) := by decide +kernel
theorem dX12_prior_21 : decode cX12_prior 21 = .ok (.bipush 41, 2) := by decide +kernel
theorem dX12_prior_23 : decode cX12_prior 23 = .ok (.iload_n 1, 1) := by decide +kernel
theorem dX12_prior_24 : decode cX12_prior 24 = .ok (.iadd, 1) := by decide +kernel
theorem dX12_prior_25 : decode cX12_prior 25 = .ok (.iload_n 2, 1) := by decide +kernel
theorem dX12_prior_26 : decode cX12_prior 26 = .ok (.invokevirtual 154, 3) := by decide +kernel
theorem dX12_prior_29 : decode cX12_prior 29 = .ok (.goto 4, 3) := by decide +kernel
theorem dX12_prior_32 : decode cX12_prior 32 = .ok (.iconst (-1), 1) := by decide +kernel
theorem dX12_prior_33 : decode cX12_prior 33 = .ok (.ireturn, 1) := by decide +kernel
theorem dX12_orNone_0 : decode cX12_orNone 0 = .ok (.iload_n 0, 1) := by decide +kernel
theorem dX12_orNone_1 : decode cX12_orNone 1 = .ok (.ifCond .ge 7, 3) := by decide +kernel
theorem dX12_orNone_4 : decode cX12_orNone 4 = .ok (.iconst 0, 1) := by decide +kernel
theorem dX12_orNone_5 : decode cX12_orNone 5 = .ok (.goto 4, 3) := by decide +kernel
theorem dX12_orNone_8 : decode cX12_orNone 8 = .ok (.iload_n 0, 1) := by decide +kernel
theorem dX12_orNone_9 : decode cX12_orNone 9 = .ok (.ireturn, 1) := by decide +kernel
set_option maxRecDepth 20000 in
theorem ggX12_weightOf_X12_meanOf : GoodIn wsX12_weightOf wsX12_meanOf := goodIn_r _ [12, 13, 14, 15, 6, 16, 17, 11, 18, 111, 112, 113, 114, 115, 116, 117, 118, 119, 120, 121, 122, 123, 124, 125, 126, 127, 128, 129, 130, 131, 132, 133, 134, 135, 136, 137, 138, 139, 140, 141, 142, 143, 144, 145, 146, 147, 148, 149, 150, 151, 152, 153, 154, 155, 156, 157, 158, 159, 160, 161, 162, 163, 164, 165, 166, 167, 168, 169, 170, 171, 172, 173] rfl (by decide +kernel)
set_option maxRecDepth 20000 in
theorem gX12_weightOf_X12_meanOf : GoodIn wsX12_weightOf (wsV RX12 243 RX12 yX12_meanOf wsX12_meanOf) := goodIn_app (goodIn_of _ (by decide +kernel)) ggX12_weightOf_X12_meanOf
set_option maxRecDepth 20000 in
theorem ggX12_weightOf_X12_orNone : GoodIn wsX12_weightOf wsX12_orNone := goodIn_r _ [21] rfl (by decide +kernel)
set_option maxRecDepth 20000 in
theorem gX12_weightOf_X12_orNone : GoodIn wsX12_weightOf (va_wsS RX12 351 yX12_orNone wsX12_orNone) := goodIn_app (goodIn_of _ (by decide +kernel)) ggX12_weightOf_X12_orNone
set_option maxRecDepth 20000 in
theorem ggX12_weightOf_X12_lateMany : GoodIn wsX12_weightOf wsX12_lateMany := goodIn_r _ [25, 26, 27, 111, 112, 113, 114, 115, 116, 117, 118, 119, 120, 121, 122, 123, 124, 125, 126, 127, 128, 129, 130, 131, 132, 133, 134, 135, 136, 137, 138, 139, 140, 141, 142, 143, 144, 145, 146, 147, 148, 149, 150, 151, 152, 153, 154, 155, 156, 157, 158, 159, 160, 161, 162, 163, 164, 165, 166, 167, 168, 169, 170, 171, 172, 173] rfl (by decide +kernel)
set_option maxRecDepth 20000 in
theorem gX12_weightOf_X12_lateMany : GoodIn wsX12_weightOf (wsV RX12 271 RX12 yX12_lateMany wsX12_lateMany) := goodIn_app (goodIn_of _ (by decide +kernel)) ggX12_weightOf_X12_lateMany
set_option maxRecDepth 20000 in
theorem ggX12_weightOf_X12_doesBar : GoodIn wsX12_weightOf wsX12_doesBar := goodIn_r _ [31, 32, 33, 8, 9, 10, 11, 12, 13, 14, 15, 6, 16, 17, 18, 111, 112, 113, 114, 115, 116, 117, 118, 119, 120, 121, 122, 123, 124, 125, 126, 127, 128, 129, 130, 131, 132, 133, 134, 135, 136, 137, 138, 139, 140, 141, 142, 143, 144, 145, 146, 147, 148, 149, 150, 151, 152, 153, 154, 155, 156, 157, 158, 159, 160, 161, 162, 163, 164, 165, 166, 167, 168, 169, 170, 171, 172, 173] rfl (by decide +kernel)
set_option maxRecDepth 20000 in
theorem gX12_weightOf_X12_doesBar : GoodIn wsX12_weightOf (wsV RX12 259 RX12 yX12_doesBar wsX12_doesBar) := goodIn_app (goodIn_of _ (by decide +kernel)) ggX12_weightOf_X12_doesBar
set_option maxRecDepth 20000 in
theorem ggX12_weightOf_X12_fight : GoodIn wsX12_weightOf wsX12_fight := goodIn_r _ [37, 38, 39, 40, 41, 42, 11, 43, 44, 16, 17, 18, 45, 46, 47, 48, 49, 50, 51, 52, 53, 54, 55, 56, 57, 58, 3, 59, 4, 60, 111, 112, 113, 114, 115, 116, 117, 118, 119, 120, 121, 122, 123, 124, 125, 126, 127, 128, 129, 130, 131, 132, 133, 134, 135, 136, 137, 138, 139, 140, 141, 142, 143, 144, 145, 146, 147, 148, 149, 150, 151, 152, 153, 154, 155, 156, 157, 158, 159, 160, 161, 162, 163, 164, 165, 166, 167, 168, 169, 170, 171, 172, 173] rfl (by decide +kernel)
set_option maxRecDepth 20000 in
theorem gX12_weightOf_X12_fight : GoodIn wsX12_weightOf (wsV RX12 354 RX12 yX12_fight wsX12_fight) := goodIn_app (goodIn_of _ (by decide +kernel)) ggX12_weightOf_X12_fight
set_option maxRecDepth 20000 in
theorem ggX12_weightOf_X12_workOut : GoodIn wsX12_weightOf wsX12_workOut := goodIn_r _ [64, 65, 66, 67, 68, 69, 70, 71, 72, 11, 73, 74, 75, 76, 77, 78, 79, 80, 81, 82, 83, 84, 85, 86, 87, 88, 89, 90, 91, 92, 93, 94, 95, 2, 96, 97, 98, 99, 100, 101, 102, 103, 104, 105, 106, 107, 108, 109, 110, 111, 112, 113, 114, 115, 116, 117, 118, 119, 120, 121, 122, 123, 124, 125, 126, 127, 128, 129, 130, 131, 132, 133, 134, 135, 136, 137, 138, 139, 140, 141, 142, 143, 144, 145, 146, 147, 148, 149, 150, 151, 152, 153, 154, 155, 156, 157, 158, 159, 160, 161, 162, 163, 164, 165, 166, 167, 168, 169, 170, 171, 172, 173] rfl (by decide +kernel)
set_option maxRecDepth 20000 in
theorem gX12_weightOf_X12_workOut : GoodIn wsX12_weightOf (wsV RX12 345 RX12 yX12_workOut wsX12_workOut) := goodIn_app (goodIn_of _ (by decide +kernel)) ggX12_weightOf_X12_workOut
theorem dX12_weightOf_0 : decode cX12_weightOf 0 = .ok (.aload_n 0, 1) := by decide +kernel
theorem dX12_weightOf_1 : decode cX12_weightOf 1 = .ok (.getfield 89, 3) := by decide +kernel
theorem dX12_weightOf_4 : decode cX12_weightOf 4 = .ok (.iload_n 1, 1) := by decide +kernel
theorem dX12_weightOf_5 : decode cX12_weightOf 5 = .ok (.iaload, 1) := by decide +kernel
theorem dX12_weightOf_6 : decode cX12_weightOf 6 = .ok (.istore_n 2, 1) := by decide +kernel
theorem dX12_weightOf_7 : decode cX12_weightOf 7 = .ok (.aload_n 0, 1) := by decide +kernel
theorem dX12_weightOf_8 : decode cX12_weightOf 8 = .ok (.getfield 98, 3) := by decide +kernel
theorem dX12_weightOf_11 : decode cX12_weightOf 11 = .ok (.iconst 0, 1) := by decide +kernel
theorem dX12_weightOf_12 : decode cX12_weightOf 12 = .ok (.iconst 0, 1) := by decide +kernel
theorem dX12_weightOf_13 : decode cX12_weightOf 13 = .ok (.iastore, 1) := by decide +kernel
theorem dX12_weightOf_14 : decode cX12_weightOf 14 = .ok (.iconst 0, 1) := by decide +kernel
theorem dX12_weightOf_15 : decode cX12_weightOf 15 = .ok (.istore_n 3, 1) := by decide +kernel
theorem dX12_weightOf_16 : decode cX12_weightOf 16 = .ok (.iload_n 3, 1) := by decide +kernel
theorem dX12_weightOf_17 : decode cX12_weightOf 17 = .ok (.aload_n 0, 1) := by decide +kernel
theorem dX12_weightOf_18 : decode cX12_weightOf 18 = .ok (.getfield 203, 3) := by decide +kernel
theorem dX12_weightOf_21 : decode cX12_weightOf 21 = .ok (.if_icmp .ge 32, 3) := by decide +kernel
theorem dX12_weightOf_24 : decode cX12_weightOf 24 = .ok (.aload_n 0, 1) := by decide +kernel
theorem dX12_weightOf_25 : decode cX12_weightOf 25 = .ok (.getfield 98, 3) := by decide +kernel
theorem dX12_weightOf_28 : decode cX12_weightOf 28 = .ok (.iconst 0, 1) := by decide +kernel
theorem dX12_weightOf_29 : decode cX12_weightOf 29 = .ok (.dup2, 1) := by decide +kernel
theorem dX12_weightOf_30 : decode cX12_weightOf 30 = .ok (.iaload, 1) := by decide +kernel
theorem dX12_weightOf_31 : decode cX12_weightOf 31 = .ok (.aload_n 0, 1) := by decide +kernel
theorem dX12_weightOf_32 : decode cX12_weightOf 32 = .ok (.getfield 55, 3) := by decide +kernel
theorem dX12_weightOf_35 : decode cX12_weightOf 35 = .ok (.iload_n 3, 1) := by decide +kernel
theorem dX12_weightOf_36 : decode cX12_weightOf 36 = .ok (.baload, 1) := by decide +kernel
theorem dX12_weightOf_37 : decode cX12_weightOf 37 = .ok (.ifCond .eq 7, 3) := by decide +kernel
theorem dX12_weightOf_40 : decode cX12_weightOf 40 = .ok (.iconst 1, 1) := by decide +kernel
theorem dX12_weightOf_41 : decode cX12_weightOf 41 = .ok (.goto 4, 3) := by decide +kernel
theorem dX12_weightOf_44 : decode cX12_weightOf 44 = .ok (.iconst 0, 1) := by decide +kernel
theorem dX12_weightOf_45 : decode cX12_weightOf 45 = .ok (.iadd, 1) := by decide +kernel
theorem dX12_weightOf_46 : decode cX12_weightOf 46 = .ok (.iastore, 1) := by decide +kernel
theorem dX12_weightOf_47 : decode cX12_weightOf 47 = .ok (.iinc 3 1, 3) := by decide +kernel
theorem dX12_weightOf_50 : decode cX12_weightOf 50 = .ok (.goto (-34), 3) := by decide +kernel
theorem dX12_weightOf_53 : decode cX12_weightOf 53 = .ok (.aload_n 0, 1) := by decide +kernel
theorem dX12_weightOf_54 : decode cX12_weightOf 54 = .ok (.getfield 98, 3) := by decide +kernel
theorem dX12_weightOf_57 : decode cX12_weightOf 57 = .ok (.iconst 1, 1) := by decide +kernel
theorem dX12_weightOf_58 : decode cX12_weightOf 58 = .ok (.aload_n 0, 1) := by decide +kernel
theorem dX12_weightOf_59 : decode cX12_weightOf 59 = .ok (.getfield 203, 3) := by decide +kernel
theorem dX12_weightOf_62 : decode cX12_weightOf 62 = .ok (.aload_n 0, 1) := by decide +kernel
theorem dX12_weightOf_63 : decode cX12_weightOf 63 = .ok (.getfield 98, 3) := by decide +kernel
theorem dX12_weightOf_66 : decode cX12_weightOf 66 = .ok (.iconst 0, 1) := by decide +kernel
theorem dX12_weightOf_67 : decode cX12_weightOf 67 = .ok (.iaload, 1) := by decide +kernel
theorem dX12_weightOf_68 : decode cX12_weightOf 68 = .ok (.isub, 1) := by decide +kernel
theorem dX12_weightOf_69 : decode cX12_weightOf 69 = .ok (.iastore, 1) := by decide +kernel
theorem dX12_weightOf_70 : decode cX12_weightOf 70 = .ok (.aload_n 0, 1) := by decide +kernel
theorem dX12_weightOf_71 : decode cX12_weightOf 71 = .ok (.getfield 98, 3) := by decide +kernel
theorem dX12_weightOf_74 : decode cX12_weightOf 74 = .ok (.iconst 2, 1) := by decide +kernel
theorem dX12_weightOf_75 : decode cX12_weightOf 75 = .ok (.aload_n 0, 1) := by decide +kernel
theorem dX12_weightOf_76 : decode cX12_weightOf 76 = .ok (.iconst 5, 1) := by decide +kernel
theorem dX12_weightOf_77 : decode cX12_weightOf 77 = .ok (.iconst 0, 1) := by decide +kernel
theorem dX12_weightOf_78 : decode cX12_weightOf 78 = .ok (.iconst 5, 1) := by decide +kernel
theorem dX12_weightOf_79 : decode cX12_weightOf 79 = .ok (.invokevirtual 243, 3) := by decide +kernel
theorem dX12_weightOf_82 : decode cX12_weightOf 82 = .ok (.invokestatic 351, 3) := by decide +kernel
theorem dX12_weightOf_85 : decode cX12_weightOf 85 = .ok (.iastore, 1) := by decide +kernel
theorem dX12_weightOf_86 : decode cX12_weightOf 86 = .ok (.aload_n 0, 1) := by decide +kernel
theorem dX12_weightOf_87 : decode cX12_weightOf 87 = .ok (.getfield 98, 3) := by decide +kernel
theorem dX12_weightOf_90 : decode cX12_weightOf 90 = .ok (.iconst 3, 1) := by decide +kernel
theorem dX12_weightOf_91 : decode cX12_weightOf 91 = .ok (.aload_n 0, 1) := by decide +kernel
theorem dX12_weightOf_92 : decode cX12_weightOf 92 = .ok (.iconst 5, 1) := by decide +kernel
theorem dX12_weightOf_93 : decode cX12_weightOf 93 = .ok (.bipush 7, 2) := by decide +kernel
theorem dX12_weightOf_95 : decode cX12_weightOf 95 = .ok (.bipush 7, 2) := by decide +kernel
theorem dX12_weightOf_97 : decode cX12_weightOf 97 = .ok (.invokevirtual 243, 3) := by decide +kernel
theorem dX12_weightOf_100 : decode cX12_weightOf 100 = .ok (.invokestatic 351, 3) := by decide +kernel
theorem dX12_weightOf_103 : decode cX12_weightOf 103 = .ok (.iastore, 1) := by decide +kernel
theorem dX12_weightOf_104 : decode cX12_weightOf 104 = .ok (.aload_n 0, 1) := by decide +kernel
theorem dX12_weightOf_105 : decode cX12_weightOf 105 = .ok (.getfield 98, 3) := by decide +kernel
theorem dX12_weightOf_108 : decode cX12_weightOf 108 = .ok (.iconst 4, 1) := by decide +kernel
theorem dX12_weightOf_109 : decode cX12_weightOf 109 = .ok (.aload_n 0, 1) := by decide +kernel
theorem dX12_weightOf_110 : decode cX12_weightOf 110 = .ok (.iload_n 2, 1) := by decide +kernel
theorem dX12_weightOf_111 : decode cX12_weightOf 111 = .ok (.invokevirtual 271, 3) := by decide +kernel
theorem dX12_weightOf_114 : decode cX12_weightOf 114 = .ok (.iastore, 1) := by decide +kernel
theorem dX12_weightOf_115 : decode cX12_weightOf 115 = .ok (.aload_n 0, 1) := by decide +kernel
theorem dX12_weightOf_116 : decode cX12_weightOf 116 = .ok (.getfield 98, 3) := by decide +kernel
theorem dX12_weightOf_119 : decode cX12_weightOf 119 = .ok (.iconst 5, 1) := by decide +kernel
theorem dX12_weightOf_120 : decode cX12_weightOf 120 = .ok (.iconst 0, 1) := by decide +kernel
theorem dX12_weightOf_121 : decode cX12_weightOf 121 = .ok (.iastore, 1) := by decide +kernel
theorem dX12_weightOf_122 : decode cX12_weightOf 122 = .ok (.iconst 0, 1) := by decide +kernel
theorem dX12_weightOf_123 : decode cX12_weightOf 123 = .ok (.istore_n 3, 1) := by decide +kernel
theorem dX12_weightOf_124 : decode cX12_weightOf 124 = .ok (.iload_n 3, 1) := by decide +kernel
theorem dX12_weightOf_125 : decode cX12_weightOf 125 = .ok (.bipush 6, 2) := by decide +kernel
theorem dX12_weightOf_127 : decode cX12_weightOf 127 = .ok (.if_icmp .ge 34, 3) := by decide +kernel
theorem dX12_weightOf_130 : decode cX12_weightOf 130 = .ok (.aload_n 0, 1) := by decide +kernel
theorem dX12_weightOf_131 : decode cX12_weightOf 131 = .ok (.getfield 98, 3) := by decide +kernel
theorem dX12_weightOf_134 : decode cX12_weightOf 134 = .ok (.iconst 5, 1) := by decide +kernel
theorem dX12_weightOf_135 : decode cX12_weightOf 135 = .ok (.aload_n 0, 1) := by decide +kernel
theorem dX12_weightOf_136 : decode cX12_weightOf 136 = .ok (.iload_n 3, 1) := by decide +kernel
theorem dX12_weightOf_137 : decode cX12_weightOf 137 = .ok (.iload_n 2, 1) := by decide +kernel
theorem dX12_weightOf_138 : decode cX12_weightOf 138 = .ok (.invokevirtual 259, 3) := by decide +kernel
theorem dX12_weightOf_141 : decode cX12_weightOf 141 = .ok (.ifCond .eq 7, 3) := by decide +kernel
theorem dX12_weightOf_144 : decode cX12_weightOf 144 = .ok (.iconst 1, 1) := by decide +kernel
theorem dX12_weightOf_145 : decode cX12_weightOf 145 = .ok (.goto 9, 3) := by decide +kernel
theorem dX12_weightOf_148 : decode cX12_weightOf 148 = .ok (.aload_n 0, 1) := by decide +kernel
theorem dX12_weightOf_149 : decode cX12_weightOf 149 = .ok (.getfield 98, 3) := by decide +kernel
theorem dX12_weightOf_152 : decode cX12_weightOf 152 = .ok (.iconst 5, 1) := by decide +kernel
theorem dX12_weightOf_153 : decode cX12_weightOf 153 = .ok (.iaload, 1) := by decide +kernel
theorem dX12_weightOf_154 : decode cX12_weightOf 154 = .ok (.iastore, 1) := by decide +kernel
theorem dX12_weightOf_155 : decode cX12_weightOf 155 = .ok (.iinc 3 1, 3) := by decide +kernel
theorem dX12_weightOf_158 : decode cX12_weightOf 158 = .ok (.goto (-34), 3) := by decide +kernel
theorem dX12_weightOf_161 : decode cX12_weightOf 161 = .ok (.aload_n 0, 1) := by decide +kernel
theorem dX12_weightOf_162 : decode cX12_weightOf 162 = .ok (.getfield 98, 3) := by decide +kernel
theorem dX12_weightOf_165 : decode cX12_weightOf 165 = .ok (.bipush 6, 2) := by decide +kernel
theorem dX12_weightOf_167 : decode cX12_weightOf 167 = .ok (.aload_n 0, 1) := by decide +kernel
theorem dX12_weightOf_168 : decode cX12_weightOf 168 = .ok (.iconst 5, 1) := by decide +kernel
theorem dX12_weightOf_169 : decode cX12_weightOf 169 = .ok (.iconst 0, 1) := by decide +kernel
theorem dX12_weightOf_170 : decode cX12_weightOf 170 = .ok (.invokevirtual 354, 3) := by decide +kernel
theorem dX12_weightOf_173 : decode cX12_weightOf 173 = .ok (.bipush (-2), 2) := by decide +kernel
theorem dX12_weightOf_175 : decode cX12_weightOf 175 = .ok (.if_icmp .ne 7, 3) := by decide +kernel
theorem dX12_weightOf_178 : decode cX12_weightOf 178 = .ok (.iconst 0, 1) := by decide +kernel
theorem dX12_weightOf_179 : decode cX12_weightOf 179 = .ok (.goto 4, 3) := by decide +kernel
theorem dX12_weightOf_182 : decode cX12_weightOf 182 = .ok (.iconst 1, 1) := by decide +kernel
theorem dX12_weightOf_183 : decode cX12_weightOf 183 = .ok (.iastore, 1) := by decide +kernel
theorem dX12_weightOf_184 : decode cX12_weightOf 184 = .ok (.aload_n 0, 1) := by decide +kernel
theorem dX12_weightOf_185 : decode cX12_weightOf 185 = .ok (.getfield 98, 3) := by decide +kernel
theorem dX12_weightOf_188 : decode cX12_weightOf 188 = .ok (.bipush 7, 2) := by decide +kernel
theorem dX12_weightOf_190 : decode cX12_weightOf 190 = .ok (.iconst 0, 1) := by decide +kernel
theorem dX12_weightOf_191 : decode cX12_weightOf 191 = .ok (.iastore, 1) := by decide +kernel
theorem dX12_weightOf_192 : decode cX12_weightOf 192 = .ok (.iconst 0, 1) := by decide +kernel
theorem dX12_weightOf_193 : decode cX12_weightOf 193 = .ok (.istore_n 3, 1) := by decide +kernel
theorem dX12_weightOf_194 : decode cX12_weightOf 194 = .ok (.iload_n 3, 1) := by decide +kernel
theorem dX12_weightOf_195 : decode cX12_weightOf 195 = .ok (.aload_n 0, 1) := by decide +kernel
theorem dX12_weightOf_196 : decode cX12_weightOf 196 = .ok (.getfield 133, 3) := by decide +kernel
theorem dX12_weightOf_199 : decode cX12_weightOf 199 = .ok (.if_icmp .ge 53, 3) := by decide +kernel
theorem dX12_weightOf_202 : decode cX12_weightOf 202 = .ok (.aload_n 0, 1) := by decide +kernel
theorem dX12_weightOf_203 : decode cX12_weightOf 203 = .ok (.getfield 9, 3) := by decide +kernel
theorem dX12_weightOf_206 : decode cX12_weightOf 206 = .ok (.bipush 47, 2) := by decide +kernel
theorem dX12_weightOf_208 : decode cX12_weightOf 208 = .ok (.iload_n 3, 1) := by decide +kernel
theorem dX12_weightOf_209 : decode cX12_weightOf 209 = .ok (.iadd, 1) := by decide +kernel
theorem dX12_weightOf_210 : decode cX12_weightOf 210 = .ok (.iaload, 1) := by decide +kernel
theorem dX12_weightOf_211 : decode cX12_weightOf 211 = .ok (.iload_n 2, 1) := by decide +kernel
theorem dX12_weightOf_212 : decode cX12_weightOf 212 = .ok (.isub, 1) := by decide +kernel
theorem dX12_weightOf_213 : decode cX12_weightOf 213 = .ok (.istore 4, 2) := by decide +kernel
theorem dX12_weightOf_215 : decode cX12_weightOf 215 = .ok (.aload_n 0, 1) := by decide +kernel
theorem dX12_weightOf_216 : decode cX12_weightOf 216 = .ok (.getfield 98, 3) := by decide +kernel
theorem dX12_weightOf_219 : decode cX12_weightOf 219 = .ok (.bipush 7, 2) := by decide +kernel
theorem dX12_weightOf_221 : decode cX12_weightOf 221 = .ok (.iload 4, 2) := by decide +kernel
theorem dX12_weightOf_223 : decode cX12_weightOf 223 = .ok (.aload_n 0, 1) := by decide +kernel
theorem dX12_weightOf_224 : decode cX12_weightOf 224 = .ok (.getfield 98, 3) := by decide +kernel
theorem dX12_weightOf_227 : decode cX12_weightOf 227 = .ok (.bipush 7, 2) := by decide +kernel
theorem dX12_weightOf_229 : decode cX12_weightOf 229 = .ok (.iaload, 1) := by decide +kernel
theorem dX12_weightOf_230 : decode cX12_weightOf 230 = .ok (.if_icmp .le 8, 3) := by decide +kernel
theorem dX12_weightOf_233 : decode cX12_weightOf 233 = .ok (.iload 4, 2) := by decide +kernel
theorem dX12_weightOf_235 : decode cX12_weightOf 235 = .ok (.goto 10, 3) := by decide +kernel
theorem dX12_weightOf_238 : decode cX12_weightOf 238 = .ok (.aload_n 0, 1) := by decide +kernel
theorem dX12_weightOf_239 : decode cX12_weightOf 239 = .ok (.getfield 98, 3) := by decide +kernel
theorem dX12_weightOf_242 : decode cX12_weightOf 242 = .ok (.bipush 7, 2) := by decide +kernel
theorem dX12_weightOf_244 : decode cX12_weightOf 244 = .ok (.iaload, 1) := by decide +kernel
theorem dX12_weightOf_245 : decode cX12_weightOf 245 = .ok (.iastore, 1) := by decide +kernel
theorem dX12_weightOf_246 : decode cX12_weightOf 246 = .ok (.iinc 3 1, 3) := by decide +kernel
theorem dX12_weightOf_249 : decode cX12_weightOf 249 = .ok (.goto (-55), 3) := by decide +kernel
theorem dX12_weightOf_252 : decode cX12_weightOf 252 = .ok (.aload_n 0, 1) := by decide +kernel
theorem dX12_weightOf_253 : decode cX12_weightOf 253 = .ok (.bipush 120, 2) := by decide +kernel
theorem dX12_weightOf_255 : decode cX12_weightOf 255 = .ok (.iload_n 1, 1) := by decide +kernel
theorem dX12_weightOf_256 : decode cX12_weightOf 256 = .ok (.imul, 1) := by decide +kernel
theorem dX12_weightOf_257 : decode cX12_weightOf 257 = .ok (.aload_n 0, 1) := by decide +kernel
theorem dX12_weightOf_258 : decode cX12_weightOf 258 = .ok (.getfield 95, 3) := by decide +kernel
theorem dX12_weightOf_261 : decode cX12_weightOf 261 = .ok (.iload_n 1, 1) := by decide +kernel
theorem dX12_weightOf_262 : decode cX12_weightOf 262 = .ok (.iaload, 1) := by decide +kernel
theorem dX12_weightOf_263 : decode cX12_weightOf 263 = .ok (.invokevirtual 345, 3) := by decide +kernel
theorem dX12_weightOf_266 : decode cX12_weightOf 266 = .ok (.istore_n 3, 1) := by decide +kernel
theorem dX12_weightOf_267 : decode cX12_weightOf 267 = .ok (.iload_n 3, 1) := by decide +kernel
theorem dX12_weightOf_268 : decode cX12_weightOf 268 = .ok (.ifCond .ge 7, 3) := by decide +kernel
theorem dX12_weightOf_271 : decode cX12_weightOf 271 = .ok (.iconst 0, 1) := by decide +kernel
theorem dX12_weightOf_272 : decode cX12_weightOf 272 = .ok (.goto 17, 3) := by decide +kernel
theorem dX12_weightOf_275 : decode cX12_weightOf 275 = .ok (.iload_n 3, 1) := by decide +kernel
theorem dX12_weightOf_276 : decode cX12_weightOf 276 = .ok (.sipush 9999, 3) := by decide +kernel
theorem dX12_weightOf_279 : decode cX12_weightOf 279 = .ok (.if_icmp .le 9, 3) := by decide +kernel
theorem dX12_weightOf_282 : decode cX12_weightOf 282 = .ok (.sipush 9999, 3) := by decide +kernel
theorem dX12_weightOf_285 : decode cX12_weightOf 285 = .ok (.goto 4, 3) := by decide +kernel
theorem dX12_weightOf_288 : decode cX12_weightOf 288 = .ok (.iload_n 3, 1) := by decide +kernel
theorem dX12_weightOf_289 : decode cX12_weightOf 289 = .ok (.ireturn, 1) := by decide +kernel
set_option maxRecDepth 20000 in
theorem ggX12_worth_X12_weightOf : GoodIn wsX12_worth wsX12_weightOf := goodIn_r _ [6, 7, 8, 9, 10, 11, 1, 12, 13, 14, 15, 5, 16, 17, 18, 19, 20, 21, 22, 23, 24, 25, 26, 27, 28, 29, 30, 31, 32, 33, 34, 35, 36, 37, 38, 39, 40, 41, 42, 43, 44, 45, 46, 47, 48, 49, 50, 51, 52, 53, 54, 55, 56, 57, 58, 59, 60, 61, 62, 63, 64, 65, 66, 67, 68, 69, 70, 71, 72, 73, 74, 75, 76, 77, 78, 79, 80, 81, 82, 83, 84, 85, 86, 87, 88, 89, 90, 91, 92, 93, 94, 95, 96, 97, 98, 99, 100, 101, 102, 103, 104, 105, 106, 107, 108, 109, 110, 111, 112, 113, 114, 115, 116, 117, 118, 119, 120, 121, 122, 123, 124, 125, 126, 127, 128, 129, 130, 131, 132, 133, 134, 135, 136, 137, 138, 139, 140, 141, 142, 143, 144, 145, 146, 147, 148, 149, 150, 151, 152, 153, 154, 155, 156, 157, 158, 159, 160, 161, 162, 163, 164, 165, 166, 167, 168, 169, 170, 171, 172, 173, 174, 175, 176, 177] rfl (by decide +kernel)
set_option maxRecDepth 20000 in
theorem gX12_worth_X12_weightOf : GoodIn wsX12_worth (wsV RX12 357 RX12 yX12_weightOf wsX12_weightOf) := goodIn_app (goodIn_of _ (by decide +kernel)) ggX12_worth_X12_weightOf
theorem dX12_worth_0 : decode cX12_worth 0 = .ok (.aload_n 0, 1) := by decide +kernel
theorem dX12_worth_1 : decode cX12_worth 1 = .ok (.getfield 9, 3) := by decide +kernel
theorem dX12_worth_4 : decode cX12_worth 4 = .ok (.bipush 41, 2) := by decide +kernel
theorem dX12_worth_6 : decode cX12_worth 6 = .ok (.iload_n 1, 1) := by decide +kernel
theorem dX12_worth_7 : decode cX12_worth 7 = .ok (.iadd, 1) := by decide +kernel
theorem dX12_worth_8 : decode cX12_worth 8 = .ok (.iaload, 1) := by decide +kernel
theorem dX12_worth_9 : decode cX12_worth 9 = .ok (.i2l, 1) := by decide +kernel
theorem dX12_worth_10 : decode cX12_worth 10 = .ok (.aload_n 0, 1) := by decide +kernel
theorem dX12_worth_11 : decode cX12_worth 11 = .ok (.iload_n 1, 1) := by decide +kernel
theorem dX12_worth_12 : decode cX12_worth 12 = .ok (.invokevirtual 357, 3) := by decide +kernel
theorem dX12_worth_15 : decode cX12_worth 15 = .ok (.i2l, 1) := by decide +kernel
theorem dX12_worth_16 : decode cX12_worth 16 = .ok (.lmul, 1) := by decide +kernel
theorem dX12_worth_17 : decode cX12_worth 17 = .ok (.lreturn, 1) := by decide +kernel
set_option maxRecDepth 20000 in
theorem ggX12_allWorth_X12_worth : GoodIn wsX12_allWorth wsX12_worth := goodIn_r _ [6, 7, 8, 9, 10, 5, 11, 12, 13, 14, 15, 16, 17, 18, 19, 20, 21, 22, 23, 24, 25, 26, 27, 28, 29, 30, 31, 32, 33, 34, 35, 36, 37, 38, 39, 40, 41, 42, 43, 44, 45, 46, 47, 48, 49, 50, 51, 52, 53, 54, 55, 56, 57, 58, 59, 60, 61, 62, 63, 64, 65, 66, 67, 68, 69, 70, 71, 72, 73, 74, 75, 76, 77, 78, 79, 80, 81, 82, 83, 84, 85, 86, 87, 88, 89, 90, 91, 92, 93, 94, 95, 96, 97, 98, 99, 100, 101, 102, 103, 104, 105, 106, 107, 108, 109, 110, 111, 112, 113, 114, 115, 116, 117, 118, 119, 120, 121, 122, 123, 124, 125, 126, 127, 128, 129, 130, 131, 132, 133, 134, 135, 136, 137, 138, 139, 140, 141, 142, 143, 144, 145, 146, 147, 148, 149, 150, 151, 152, 153, 154, 155, 156, 157, 158, 159, 160, 161, 162, 163, 164, 165, 166, 167, 168, 169, 170, 171, 172, 173, 174, 175, 176, 177, 178, 179, 180, 181, 182] rfl (by decide +kernel)
set_option maxRecDepth 20000 in
theorem gX12_allWorth_X12_worth : GoodIn wsX12_allWorth (wsV RX12 360 RX12 yX12_worth wsX12_worth) := goodIn_app (goodIn_of _ (by decide +kernel)) ggX12_allWorth_X12_worth
theorem dX12_allWorth_0 : decode cX12_allWorth 0 = .ok (.lconst 0, 1) := by decide +kernel
theorem dX12_allWorth_1 : decode cX12_allWorth 1 = .ok (.lstore_n 1, 1) := by decide +kernel
theorem dX12_allWorth_2 : decode cX12_allWorth 2 = .ok (.iconst 0, 1) := by decide +kernel
theorem dX12_allWorth_3 : decode cX12_allWorth 3 = .ok (.istore_n 3, 1) := by decide +kernel
theorem dX12_allWorth_4 : decode cX12_allWorth 4 = .ok (.iload_n 3, 1) := by decide +kernel
theorem dX12_allWorth_5 : decode cX12_allWorth 5 = .ok (.aload_n 0, 1) := by decide +kernel
theorem dX12_allWorth_6 : decode cX12_allWorth 6 = .ok (.getfield 342, 3) := by decide +kernel
theorem dX12_allWorth_9 : decode cX12_allWorth 9 = .ok (.if_icmp .ge 17, 3) := by decide +kernel
theorem dX12_allWorth_12 : decode cX12_allWorth 12 = .ok (.lload_n 1, 1) := by decide +kernel
theorem dX12_allWorth_13 : decode cX12_allWorth 13 = .ok (.aload_n 0, 1) := by decide +kernel
theorem dX12_allWorth_14 : decode cX12_allWorth 14 = .ok (.iload_n 3, 1) := by decide +kernel
theorem dX12_allWorth_15 : decode cX12_allWorth 15 = .ok (.invokevirtual 360, 3) := by decide +kernel
theorem dX12_allWorth_18 : decode cX12_allWorth 18 = .ok (.ladd, 1) := by decide +kernel
theorem dX12_allWorth_19 : decode cX12_allWorth 19 = .ok (.lstore_n 1, 1) := by decide +kernel
theorem dX12_allWorth_20 : decode cX12_allWorth 20 = .ok (.iinc 3 1, 3) := by decide +kernel
theorem dX12_allWorth_23 : decode cX12_allWorth 23 = .ok (.goto (-19), 3) := by decide +kernel
theorem dX12_allWorth_26 : decode cX12_allWorth 26 = .ok (.lload_n 1, 1) := by decide +kernel
theorem dX12_allWorth_27 : decode cX12_allWorth 27 = .ok (.lreturn, 1) := by decide +kernel
set_option maxRecDepth 20000 in
theorem ggX12_oddsOf_X12_allWorth : GoodIn wsX12_oddsOf wsX12_allWorth := goodIn_r _ [6, 7, 8, 9, 10, 5, 11, 12, 13, 14, 15, 16, 17, 18, 19, 20, 21, 22, 23, 24, 25, 26, 27, 28, 29, 30, 31, 32, 33, 34, 35, 36, 37, 38, 39, 40, 41, 42, 43, 44, 45, 46, 47, 48, 49, 50, 51, 52, 53, 54, 55, 56, 57, 58, 59, 60, 61, 62, 63, 64, 65, 66, 67, 68, 69, 70, 71, 72, 73, 74, 75, 76, 77, 78, 79, 80, 81, 82, 83, 84, 85, 86, 87, 88, 89, 90, 91, 92, 93, 94, 95, 96, 97, 98, 99, 100, 101, 102, 103, 104, 105, 106, 107, 108, 109, 110, 111, 112, 113, 114, 115, 116, 117, 118, 119, 120, 121, 122, 123, 124, 125, 126, 127, 128, 129, 130, 131, 132, 133, 134, 135, 136, 137, 138, 139, 140, 141, 142, 143, 144, 145, 146, 147, 148, 149, 150, 151, 152, 153, 154, 155, 156, 157, 158, 159, 160, 161, 162, 163, 164, 165, 166, 167, 168, 169, 170, 171, 172, 173, 174, 175, 176, 177, 178, 179, 180, 181, 182, 183, 184, 185, 186, 187] rfl (by decide +kernel)
set_option maxRecDepth 20000 in
theorem gX12_oddsOf_X12_allWorth : GoodIn wsX12_oddsOf (wsV RX12 364 RX12 yX12_allWorth wsX12_allWorth) := goodIn_app (goodIn_of _ (by decide +kernel)) ggX12_oddsOf_X12_allWorth
set_option maxRecDepth 20000 in
theorem ggX12_oddsOf_X12_worth : GoodIn wsX12_oddsOf wsX12_worth := goodIn_r _ [11, 12, 13, 14, 15, 5, 16, 17, 18, 19, 20, 21, 22, 23, 24, 25, 26, 27, 28, 29, 30, 31, 32, 33, 34, 35, 36, 37, 38, 39, 40, 41, 42, 43, 44, 45, 46, 47, 48, 49, 50, 51, 52, 53, 54, 55, 56, 57, 58, 59, 60, 61, 62, 63, 64, 65, 66, 67, 68, 69, 70, 71, 72, 73, 74, 75, 76, 77, 78, 79, 80, 81, 82, 83, 84, 85, 86, 87, 88, 89, 90, 91, 92, 93, 94, 95, 96, 97, 98, 99, 100, 101, 102, 103, 104, 105, 106, 107, 108, 109, 110, 111, 112, 113, 114, 115, 116, 117, 118, 119, 120, 121, 122, 123, 124, 125, 126, 127, 128, 129, 130, 131, 132, 133, 134, 135, 136, 137, 138, 139, 140, 141, 142, 143, 144, 145, 146, 147, 148, 149, 150, 151, 152, 153, 154, 155, 156, 157, 158, 159, 160, 161, 162, 163, 164, 165, 166, 167, 168, 169, 170, 171, 172, 173, 174, 175, 176, 177, 178, 179, 180, 181, 182, 183, 184, 185, 186, 187] rfl (by decide +kernel)
set_option maxRecDepth 20000 in
theorem gX12_oddsOf_X12_worth : GoodIn wsX12_oddsOf (wsV RX12 360 RX12 yX12_worth wsX12_worth) := goodIn_app (goodIn_of _ (by decide +kernel)) ggX12_oddsOf_X12_worth
theorem dX12_oddsOf_0 : decode cX12_oddsOf 0 = .ok (.aload_n 0, 1) := by decide +kernel
theorem dX12_oddsOf_1 : decode cX12_oddsOf 1 = .ok (.invokevirtual 364, 3) := by decide +kernel
theorem dX12_oddsOf_4 : decode cX12_oddsOf 4 = .ok (.lstore_n 2, 1) := by decide +kernel
theorem dX12_oddsOf_5 : decode cX12_oddsOf 5 = .ok (.lload_n 2, 1) := by decide +kernel
theorem dX12_oddsOf_6 : decode cX12_oddsOf 6 = .ok (.lconst 0, 1) := by decide +kernel
theorem dX12_oddsOf_7 : decode cX12_oddsOf 7 = .ok (.lcmp, 1) := by decide +kernel
theorem dX12_oddsOf_8 : decode cX12_oddsOf 8 = .ok (.ifCond .ne 7, 3) := by decide +kernel
theorem dX12_oddsOf_11 : decode cX12_oddsOf 11 = .ok (.iconst 0, 1) := by decide +kernel
theorem dX12_oddsOf_12 : decode cX12_oddsOf 12 = .ok (.goto 15, 3) := by decide +kernel
theorem dX12_oddsOf_15 : decode cX12_oddsOf 15 = .ok (.ldc2_w 368, 3) := by decide +kernel
theorem dX12_oddsOf_18 : decode cX12_oddsOf 18 = .ok (.aload_n 0, 1) := by decide +kernel
theorem dX12_oddsOf_19 : decode cX12_oddsOf 19 = .ok (.iload_n 1, 1) := by decide +kernel
theorem dX12_oddsOf_20 : decode cX12_oddsOf 20 = .ok (.invokevirtual 360, 3) := by decide +kernel
theorem dX12_oddsOf_23 : decode cX12_oddsOf 23 = .ok (.lmul, 1) := by decide +kernel
theorem dX12_oddsOf_24 : decode cX12_oddsOf 24 = .ok (.lload_n 2, 1) := by decide +kernel
theorem dX12_oddsOf_25 : decode cX12_oddsOf 25 = .ok (.ldiv, 1) := by decide +kernel
theorem dX12_oddsOf_26 : decode cX12_oddsOf 26 = .ok (.l2i, 1) := by decide +kernel
theorem dX12_oddsOf_27 : decode cX12_oddsOf 27 = .ok (.ireturn, 1) := by decide +kernel
set_option maxRecDepth 20000 in
theorem ggX12_odds_X12_isStory : GoodIn wsX12_odds wsX12_isStory := goodIn_r _ [5, 6, 7, 8, 4, 9, 133, 134, 135, 136, 137, 138, 139, 140, 141, 142, 143, 144, 145, 146, 147, 148, 149, 150, 151, 152, 153, 154, 155, 156, 157, 158, 159, 160, 161, 162, 163, 164, 165, 166, 167, 168, 169, 170, 171, 172, 173, 174, 175, 176, 177, 178, 179, 180, 181, 182, 183, 184, 185, 186, 187, 188, 189, 190, 191, 192, 193, 194, 195] rfl (by decide +kernel)
set_option maxRecDepth 20000 in
theorem gX12_odds_X12_isStory : GoodIn wsX12_odds (wsV RX12 348 RX12 yX12_isStory wsX12_isStory) := goodIn_app (goodIn_of _ (by decide +kernel)) ggX12_odds_X12_isStory
set_option maxRecDepth 20000 in
theorem ggX12_odds_X12_within : GoodIn wsX12_odds wsX12_within := goodIn_r _ [9] rfl (by decide +kernel)
set_option maxRecDepth 20000 in
theorem gX12_odds_X12_within : GoodIn wsX12_odds (va_wsS RX12 136 yX12_within wsX12_within) := goodIn_app (goodIn_of _ (by decide +kernel)) ggX12_odds_X12_within
set_option maxRecDepth 20000 in
theorem ggX12_odds_X12_weightOf : GoodIn wsX12_odds wsX12_weightOf := goodIn_r _ [13, 14, 15, 16, 17, 18, 19, 20, 21, 22, 23, 4, 24, 25, 26, 27, 7, 8, 9, 28, 29, 30, 31, 32, 33, 34, 35, 36, 37, 38, 39, 40, 41, 42, 43, 44, 45, 46, 47, 48, 49, 50, 51, 52, 53, 54, 55, 56, 57, 58, 59, 60, 61, 62, 63, 64, 65, 66, 67, 68, 69, 70, 71, 72, 73, 74, 75, 76, 77, 78, 79, 80, 81, 82, 83, 84, 85, 86, 87, 88, 89, 90, 91, 92, 93, 94, 95, 96, 97, 98, 99, 100, 101, 102, 103, 104, 105, 106, 107, 108, 109, 110, 111, 112, 113, 114, 115, 116, 117, 118, 119, 133, 134, 135, 136, 137, 138, 139, 140, 141, 142, 143, 144, 145, 146, 147, 148, 149, 150, 151, 152, 153, 154, 155, 156, 157, 158, 159, 160, 161, 162, 163, 164, 165, 166, 167, 168, 169, 170, 171, 172, 173, 174, 175, 176, 177, 178, 179, 180, 181, 182, 183, 184, 185, 186, 187, 188, 189, 190, 191, 192, 193, 194, 195] rfl (by decide +kernel)
set_option maxRecDepth 20000 in
theorem gX12_odds_X12_weightOf : GoodIn wsX12_odds (wsV RX12 357 RX12 yX12_weightOf wsX12_weightOf) := goodIn_app (goodIn_of _ (by decide +kernel)) ggX12_odds_X12_weightOf
set_option maxRecDepth 20000 in
theorem ggX12_odds_X12_allWorth : GoodIn wsX12_odds wsX12_allWorth := goodIn_r _ [123, 6, 124, 125, 126, 4, 127, 19, 10, 11, 12, 13, 14, 15, 16, 17, 18, 20, 21, 22, 23, 24, 25, 26, 27, 7, 8, 9, 28, 29, 30, 31, 32, 33, 34, 35, 36, 37, 38, 39, 40, 41, 42, 43, 44, 45, 46, 47, 48, 49, 50, 51, 52, 53, 54, 55, 56, 57, 58, 59, 60, 61, 62, 63, 64, 65, 66, 67, 68, 69, 70, 71, 72, 73, 74, 75, 76, 77, 78, 79, 80, 81, 82, 83, 84, 85, 86, 87, 88, 89, 90, 91, 92, 93, 94, 95, 96, 97, 98, 99, 100, 101, 102, 103, 104, 105, 106, 107, 108, 109, 110, 111, 112, 113, 114, 115, 116, 117, 118, 119, 133, 134, 135, 136, 137, 138, 139, 140, 141, 142, 143, 144, 145, 146, 147, 148, 149, 150, 151, 152, 153, 154, 155, 156, 157, 158, 159, 160, 161, 162, 163, 164, 165, 166, 167, 168, 169, 170, 171, 172, 173, 174, 175, 176, 177, 178, 179, 180, 181, 182, 183, 184, 185, 186, 187, 188, 189, 190, 191, 192, 193, 194, 195] rfl (by decide +kernel)
set_option maxRecDepth 20000 in
theorem gX12_odds_X12_allWorth : GoodIn wsX12_odds (wsV RX12 364 RX12 yX12_allWorth wsX12_allWorth) := goodIn_app (goodIn_of _ (by decide +kernel)) ggX12_odds_X12_allWorth
set_option maxRecDepth 20000 in
theorem ggX12_odds_X12_oddsOf : GoodIn wsX12_odds wsX12_oddsOf := goodIn_r _ [131, 132, 120, 121, 122, 4, 123, 6, 124, 125, 126, 127, 19, 10, 11, 12, 13, 14, 15, 16, 17, 18, 20, 21, 22, 23, 24, 25, 26, 27, 7, 8, 9, 28, 29, 30, 31, 32, 33, 34, 35, 36, 37, 38, 39, 40, 41, 42, 43, 44, 45, 46, 47, 48, 49, 50, 51, 52, 53, 54, 55, 56, 57, 58, 59, 60, 61, 62, 63, 64, 65, 66, 67, 68, 69, 70, 71, 72, 73, 74, 75, 76, 77, 78, 79, 80, 81, 82, 83, 84, 85, 86, 87, 88, 89, 90, 91, 92, 93, 94, 95, 96, 97, 98, 99, 100, 101, 102, 103, 104, 105, 106, 107, 108, 109, 110, 111, 112, 113, 114, 115, 116, 117, 118, 119, 133, 134, 135, 136, 137, 138, 139, 140, 141, 142, 143, 144, 145, 146, 147, 148, 149, 150, 151, 152, 153, 154, 155, 156, 157, 158, 159, 160, 161, 162, 163, 164, 165, 166, 167, 168, 169, 170, 171, 172, 173, 174, 175, 176, 177, 178, 179, 180, 181, 182, 183, 184, 185, 186, 187, 188, 189, 190, 191, 192, 193, 194, 195] rfl (by decide +kernel)
set_option maxRecDepth 20000 in
theorem gX12_odds_X12_oddsOf : GoodIn wsX12_odds (wsV RX12 370 RX12 yX12_oddsOf wsX12_oddsOf) := goodIn_app (goodIn_of _ (by decide +kernel)) ggX12_odds_X12_oddsOf
theorem dX12_odds_0 : decode cX12_odds 0 = .ok (.aload_n 0, 1) := by decide +kernel
theorem dX12_odds_1 : decode cX12_odds 1 = .ok (.iload_n 1, 1) := by decide +kernel
theorem dX12_odds_2 : decode cX12_odds 2 = .ok (.invokevirtual 348, 3) := by decide +kernel
theorem dX12_odds_5 : decode cX12_odds 5 = .ok (.ifCond .eq 13, 3) := by decide +kernel
theorem dX12_odds_8 : decode cX12_odds 8 = .ok (.iload_n 2, 1) := by decide +kernel
theorem dX12_odds_9 : decode cX12_odds 9 = .ok (.i2l, 1) := by decide +kernel
theorem dX12_odds_10 : decode cX12_odds 10 = .ok (.lconst 0, 1) := by decide +kernel
theorem dX12_odds_11 : decode cX12_odds 11 = .ok (.lconst 1, 1) := by decide +kernel
theorem dX12_odds_12 : decode cX12_odds 12 = .ok (.invokestatic 136, 3) := by decide +kernel
theorem dX12_odds_15 : decode cX12_odds 15 = .ok (.ifCond .ne 5, 3) := by decide +kernel
theorem dX12_odds_18 : decode cX12_odds 18 = .ok (.iconst (-1), 1) := by decide +kernel
theorem dX12_odds_19 : decode cX12_odds 19 = .ok (.ireturn, 1) := by decide +kernel
theorem dX12_odds_20 : decode cX12_odds 20 = .ok (.iload_n 2, 1) := by decide +kernel
theorem dX12_odds_21 : decode cX12_odds 21 = .ok (.ifCond .ne 11, 3) := by decide +kernel
theorem dX12_odds_24 : decode cX12_odds 24 = .ok (.aload_n 0, 1) := by decide +kernel
theorem dX12_odds_25 : decode cX12_odds 25 = .ok (.iload_n 1, 1) := by decide +kernel
theorem dX12_odds_26 : decode cX12_odds 26 = .ok (.invokevirtual 357, 3) := by decide +kernel
theorem dX12_odds_29 : decode cX12_odds 29 = .ok (.goto 22, 3) := by decide +kernel
theorem dX12_odds_32 : decode cX12_odds 32 = .ok (.aload_n 0, 1) := by decide +kernel
theorem dX12_odds_33 : decode cX12_odds 33 = .ok (.invokevirtual 364, 3) := by decide +kernel
theorem dX12_odds_36 : decode cX12_odds 36 = .ok (.lconst 0, 1) := by decide +kernel
theorem dX12_odds_37 : decode cX12_odds 37 = .ok (.lcmp, 1) := by decide +kernel
theorem dX12_odds_38 : decode cX12_odds 38 = .ok (.ifCond .ne 8, 3) := by decide +kernel
theorem dX12_odds_41 : decode cX12_odds 41 = .ok (.bipush (-2), 2) := by decide +kernel
theorem dX12_odds_43 : decode cX12_odds 43 = .ok (.goto 8, 3) := by decide +kernel
theorem dX12_odds_46 : decode cX12_odds 46 = .ok (.aload_n 0, 1) := by decide +kernel
theorem dX12_odds_47 : decode cX12_odds 47 = .ok (.iload_n 1, 1) := by decide +kernel
theorem dX12_odds_48 : decode cX12_odds 48 = .ok (.invokevirtual 370, 3) := by decide +kernel
theorem dX12_odds_51 : decode cX12_odds 51 = .ok (.ireturn, 1) := by decide +kernel
set_option maxRecDepth 20000 in
theorem ggX12_bestStory_X12_worth : GoodIn wsX12_bestStory wsX12_worth := goodIn_r _ [6, 7, 8, 9, 10, 5, 11, 12, 13, 14, 15, 16, 17, 18, 19, 20, 21, 22, 23, 24, 25, 26, 27, 28, 29, 30, 31, 32, 33, 34, 35, 36, 37, 38, 39, 40, 41, 42, 43, 44, 45, 46, 47, 48, 49, 50, 51, 52, 53, 54, 55, 56, 57, 58, 59, 60, 61, 62, 63, 64, 65, 66, 67, 68, 69, 70, 71, 72, 73, 74, 75, 76, 77, 78, 79, 80, 81, 82, 83, 84, 85, 86, 87, 88, 89, 90, 91, 92, 93, 94, 95, 96, 97, 98, 99, 100, 101, 102, 103, 104, 105, 106, 107, 108, 109, 110, 111, 112, 113, 114, 115, 116, 117, 118, 119, 120, 121, 122, 123, 124, 125, 126, 127, 128, 129, 130, 131, 132, 133, 134, 135, 136, 137, 138, 139, 140, 141, 142, 143, 144, 145, 146, 147, 148, 149, 150, 151, 152, 153, 154, 155, 156, 157, 158, 159, 160, 161, 162, 163, 164, 165, 166, 167, 168, 169, 170, 171, 172, 173, 174, 175, 176, 177, 178, 179, 180, 181, 182] rfl (by decide +kernel)
set_option maxRecDepth 20000 in
theorem gX12_bestStory_X12_worth : GoodIn wsX12_bestStory (wsV RX12 360 RX12 yX12_worth wsX12_worth) := goodIn_app (goodIn_of _ (by decide +kernel)) ggX12_bestStory_X12_worth
theorem dX12_bestStory_0 : decode cX12_bestStory 0 = .ok (.iconst 0, 1) := by decide +kernel
theorem dX12_bestStory_1 : decode cX12_bestStory 1 = .ok (.istore_n 1, 1) := by decide +kernel
theorem dX12_bestStory_2 : decode cX12_bestStory 2 = .ok (.iconst 1, 1) := by decide +kernel
theorem dX12_bestStory_3 : decode cX12_bestStory 3 = .ok (.istore_n 2, 1) := by decide +kernel
theorem dX12_bestStory_4 : decode cX12_bestStory 4 = .ok (.iload_n 2, 1) := by decide +kernel
theorem dX12_bestStory_5 : decode cX12_bestStory 5 = .ok (.aload_n 0, 1) := by decide +kernel
theorem dX12_bestStory_6 : decode cX12_bestStory 6 = .ok (.getfield 342, 3) := by decide +kernel
theorem dX12_bestStory_9 : decode cX12_bestStory 9 = .ok (.if_icmp .ge 29, 3) := by decide +kernel
theorem dX12_bestStory_12 : decode cX12_bestStory 12 = .ok (.aload_n 0, 1) := by decide +kernel
theorem dX12_bestStory_13 : decode cX12_bestStory 13 = .ok (.iload_n 2, 1) := by decide +kernel
theorem dX12_bestStory_14 : decode cX12_bestStory 14 = .ok (.invokevirtual 360, 3) := by decide +kernel
theorem dX12_bestStory_17 : decode cX12_bestStory 17 = .ok (.aload_n 0, 1) := by decide +kernel
theorem dX12_bestStory_18 : decode cX12_bestStory 18 = .ok (.iload_n 1, 1) := by decide +kernel
theorem dX12_bestStory_19 : decode cX12_bestStory 19 = .ok (.invokevirtual 360, 3) := by decide +kernel
theorem dX12_bestStory_22 : decode cX12_bestStory 22 = .ok (.lcmp, 1) := by decide +kernel
theorem dX12_bestStory_23 : decode cX12_bestStory 23 = .ok (.ifCond .le 7, 3) := by decide +kernel
theorem dX12_bestStory_26 : decode cX12_bestStory 26 = .ok (.iload_n 2, 1) := by decide +kernel
theorem dX12_bestStory_27 : decode cX12_bestStory 27 = .ok (.goto 4, 3) := by decide +kernel
theorem dX12_bestStory_30 : decode cX12_bestStory 30 = .ok (.iload_n 1, 1) := by decide +kernel
theorem dX12_bestStory_31 : decode cX12_bestStory 31 = .ok (.istore_n 1, 1) := by decide +kernel
theorem dX12_bestStory_32 : decode cX12_bestStory 32 = .ok (.iinc 2 1, 3) := by decide +kernel
theorem dX12_bestStory_35 : decode cX12_bestStory 35 = .ok (.goto (-31), 3) := by decide +kernel
theorem dX12_bestStory_38 : decode cX12_bestStory 38 = .ok (.iload_n 1, 1) := by decide +kernel
theorem dX12_bestStory_39 : decode cX12_bestStory 39 = .ok (.ireturn, 1) := by decide +kernel
set_option maxRecDepth 20000 in
theorem ggX12_best_X12_bestStory : GoodIn wsX12_best wsX12_bestStory := goodIn_r _ [6, 1, 7, 8, 9, 5, 10, 11, 12, 13, 14, 15, 16, 17, 18, 19, 20, 21, 22, 23, 24, 25, 26, 27, 28, 29, 30, 31, 32, 33, 34, 35, 36, 37, 38, 39, 40, 41, 42, 43, 44, 45, 46, 47, 48, 49, 50, 51, 52, 53, 54, 55, 56, 57, 58, 59, 60, 61, 62, 63, 64, 65, 66, 67, 68, 69, 70, 71, 72, 73, 74, 75, 76, 77, 78, 79, 80, 81, 82, 83, 84, 85, 86, 87, 88, 89, 90, 91, 92, 93, 94, 95, 96, 97, 98, 99, 100, 101, 102, 103, 104, 105, 106, 107, 108, 109, 110, 111, 112, 113, 114, 115, 116, 117, 118, 119, 120, 121, 122, 123, 124, 125, 126, 127, 128, 129, 130, 131, 132, 133, 134, 135, 136, 137, 138, 139, 140, 141, 142, 143, 144, 145, 146, 147, 148, 149, 150, 151, 152, 153, 154, 155, 156, 157, 158, 159, 160, 161, 162, 163, 164, 165, 166, 167, 168, 169, 170, 171, 172, 173, 174, 175, 176, 177, 178, 179, 180, 181, 182, 183, 184, 185, 186] rfl (by decide +kernel)
set_option maxRecDepth 20000 in
theorem gX12_best_X12_bestStory : GoodIn wsX12_best (wsV RX12 373 RX12 yX12_bestStory wsX12_bestStory) := goodIn_app (goodIn_of _ (by decide +kernel)) ggX12_best_X12_bestStory
theorem dX12_best_0 : decode cX12_best 0 = .ok (.aload_n 0, 1) := by decide +kernel
theorem dX12_best_1 : decode cX12_best 1 = .ok (.getfield 342, 3) := by decide +kernel
theorem dX12_best_4 : decode cX12_best 4 = .ok (.ifCond .ne 8, 3) := by decide +kernel
theorem dX12_best_7 : decode cX12_best 7 = .ok (.bipush (-5), 2) := by decide +kernel
theorem dX12_best_9 : decode cX12_best 9 = .ok (.goto 7, 3) := by decide +kernel
theorem dX12_best_12 : decode cX12_best 12 = .ok (.aload_n 0, 1) := by decide +kernel
theorem dX12_best_13 : decode cX12_best 13 = .ok (.invokevirtual 373, 3) := by decide +kernel
theorem dX12_best_16 : decode cX12_best 16 = .ok (.ireturn, 1) := by decide +kernel
set_option maxRecDepth 20000 in
theorem ggX12_oddsWith_X12_adds : GoodIn wsX12_oddsWith wsX12_adds := goodIn_r _ [6, 7, 1, 8, 9, 133, 134, 135, 136, 137, 138, 139, 140, 141, 142, 143, 144, 145, 146, 147, 148, 149, 150, 151, 152, 153, 154, 155, 156, 157, 158, 159, 160, 161, 162, 163, 164, 165, 166, 167, 168, 169, 170, 171, 172, 173, 174, 175, 176, 177, 178, 179, 180, 181, 182, 183, 184, 185, 186, 187, 188, 189, 190, 191, 192, 193, 194, 195] rfl (by decide +kernel)
set_option maxRecDepth 20000 in
theorem gX12_oddsWith_X12_adds : GoodIn wsX12_oddsWith (wsV RX12 234 RX12 yX12_adds wsX12_adds) := goodIn_app (goodIn_of _ (by decide +kernel)) ggX12_oddsWith_X12_adds
set_option maxRecDepth 20000 in
theorem ggX12_oddsWith_X12_oddsOf : GoodIn wsX12_oddsWith wsX12_oddsOf := goodIn_r _ [13, 14, 15, 16, 17, 5, 18, 19, 20, 21, 22, 23, 9, 24, 25, 26, 27, 28, 29, 30, 31, 32, 33, 34, 35, 36, 37, 1, 7, 8, 38, 39, 40, 41, 42, 43, 44, 45, 46, 47, 48, 49, 50, 51, 52, 53, 54, 55, 56, 57, 58, 59, 60, 61, 62, 63, 64, 65, 66, 67, 68, 69, 70, 71, 72, 73, 74, 75, 76, 77, 78, 79, 80, 81, 82, 83, 84, 85, 86, 87, 88, 89, 90, 91, 92, 93, 94, 95, 96, 97, 98, 99, 100, 101, 102, 103, 104, 105, 106, 107, 108, 109, 110, 111, 112, 113, 114, 115, 116, 117, 118, 119, 120, 121, 122, 123, 124, 125, 126, 127, 128, 129, 130, 131, 132, 133, 134, 135, 136, 137, 138, 139, 140, 141, 142, 143, 144, 145, 146, 147, 148, 149, 150, 151, 152, 153, 154, 155, 156, 157, 158, 159, 160, 161, 162, 163, 164, 165, 166, 167, 168, 169, 170, 171, 172, 173, 174, 175, 176, 177, 178, 179, 180, 181, 182, 183, 184, 185, 186, 187, 188, 189, 190, 191, 192, 193, 194, 195] rfl (by decide +kernel)
set_option maxRecDepth 20000 in
theorem gX12_oddsWith_X12_oddsOf : GoodIn wsX12_oddsWith (wsV RX12 370 RX12 yX12_oddsOf wsX12_oddsOf) := goodIn_app (goodIn_of _ (by decide +kernel)) ggX12_oddsWith_X12_oddsOf
theorem dX12_oddsWith_0 : decode cX12_oddsWith 0 = .ok (.aload_n 0, 1) := by decide +kernel
theorem dX12_oddsWith_1 : decode cX12_oddsWith 1 = .ok (.iconst 0, 1) := by decide +kernel
theorem dX12_oddsWith_2 : decode cX12_oddsWith 2 = .ok (.iload_n 2, 1) := by decide +kernel
theorem dX12_oddsWith_3 : decode cX12_oddsWith 3 = .ok (.iload_n 3, 1) := by decide +kernel
theorem dX12_oddsWith_4 : decode cX12_oddsWith 4 = .ok (.invokevirtual 234, 3) := by decide +kernel
theorem dX12_oddsWith_7 : decode cX12_oddsWith 7 = .ok (.aload_n 0, 1) := by decide +kernel
theorem dX12_oddsWith_8 : decode cX12_oddsWith 8 = .ok (.iload_n 1, 1) := by decide +kernel
theorem dX12_oddsWith_9 : decode cX12_oddsWith 9 = .ok (.invokevirtual 370, 3) := by decide +kernel
theorem dX12_oddsWith_12 : decode cX12_oddsWith 12 = .ok (.istore 4, 2) := by decide +kernel
theorem dX12_oddsWith_14 : decode cX12_oddsWith 14 = .ok (.aload_n 0, 1) := by decide +kernel
theorem dX12_oddsWith_15 : decode cX12_oddsWith 15 = .ok (.dup, 1) := by decide +kernel
theorem dX12_oddsWith_16 : decode cX12_oddsWith 16 = .ok (.getfield 227, 3) := by decide +kernel
theorem dX12_oddsWith_19 : decode cX12_oddsWith 19 = .ok (.iconst 1, 1) := by decide +kernel
theorem dX12_oddsWith_20 : decode cX12_oddsWith 20 = .ok (.isub, 1) := by decide +kernel
theorem dX12_oddsWith_21 : decode cX12_oddsWith 21 = .ok (.putfield 227, 3) := by decide +kernel
theorem dX12_oddsWith_24 : decode cX12_oddsWith 24 = .ok (.iload 4, 2) := by decide +kernel
theorem dX12_oddsWith_26 : decode cX12_oddsWith 26 = .ok (.ireturn, 1) := by decide +kernel
set_option maxRecDepth 20000 in
theorem ggX12_next_X12_within : GoodIn wsX12_next wsX12_within := goodIn_r _ [7] rfl (by decide +kernel)
set_option maxRecDepth 20000 in
theorem gX12_next_X12_within : GoodIn wsX12_next (va_wsS RX12 136 yX12_within wsX12_within) := goodIn_app (goodIn_of _ (by decide +kernel)) ggX12_next_X12_within
set_option maxRecDepth 20000 in
theorem ggX12_next_X12_allWorth : GoodIn wsX12_next wsX12_allWorth := goodIn_r _ [11, 2, 12, 13, 14, 6, 15, 16, 17, 18, 19, 20, 21, 22, 23, 24, 25, 26, 27, 28, 29, 30, 3, 31, 32, 4, 5, 7, 33, 34, 35, 36, 37, 38, 39, 40, 41, 42, 43, 44, 45, 46, 47, 48, 49, 50, 51, 52, 53, 54, 55, 56, 57, 58, 59, 60, 61, 62, 63, 64, 65, 66, 67, 68, 69, 70, 71, 72, 73, 74, 75, 76, 77, 78, 79, 80, 81, 82, 83, 84, 85, 86, 87, 88, 89, 90, 91, 92, 93, 94, 95, 96, 97, 98, 99, 100, 101, 102, 103, 104, 105, 106, 107, 108, 109, 110, 111, 112, 113, 114, 115, 116, 117, 118, 119, 120, 121, 122, 123, 124, 145, 146, 147, 148, 149, 150, 151, 152, 153, 154, 155, 156, 157, 158, 159, 160, 161, 162, 163, 164, 165, 166, 167, 168, 169, 170, 171, 172, 173, 174, 175, 176, 177, 178, 179, 180, 181, 182, 183, 184, 185, 186, 187, 188, 189, 190, 191, 192, 193, 194, 195, 196, 197, 198, 199, 200, 201, 202, 203, 204, 205, 206, 207] rfl (by decide +kernel)
set_option maxRecDepth 20000 in
theorem gX12_next_X12_allWorth : GoodIn wsX12_next (wsV RX12 364 RX12 yX12_allWorth wsX12_allWorth) := goodIn_app (goodIn_of _ (by decide +kernel)) ggX12_next_X12_allWorth
set_option maxRecDepth 20000 in
theorem ggX12_next_X12_bestStory : GoodIn wsX12_next wsX12_bestStory := goodIn_r _ [128, 2, 12, 13, 14, 6, 15, 16, 17, 18, 19, 20, 21, 22, 23, 24, 25, 26, 27, 28, 29, 30, 3, 31, 32, 4, 5, 7, 33, 34, 35, 36, 37, 38, 39, 40, 41, 42, 43, 44, 45, 46, 47, 48, 49, 50, 51, 52, 53, 54, 55, 56, 57, 58, 59, 60, 61, 62, 63, 64, 65, 66, 67, 68, 69, 70, 71, 72, 73, 74, 75, 76, 77, 78, 79, 80, 81, 82, 83, 84, 85, 86, 87, 88, 89, 90, 91, 92, 93, 94, 95, 96, 97, 98, 99, 100, 101, 102, 103, 104, 105, 106, 107, 108, 109, 110, 111, 112, 113, 114, 115, 116, 117, 118, 119, 120, 121, 122, 123, 124, 145, 146, 147, 148, 149, 150, 151, 152, 153, 154, 155, 156, 157, 158, 159, 160, 161, 162, 163, 164, 165, 166, 167, 168, 169, 170, 171, 172, 173, 174, 175, 176, 177, 178, 179, 180, 181, 182, 183, 184, 185, 186, 187, 188, 189, 190, 191, 192, 193, 194, 195, 196, 197, 198, 199, 200, 201, 202, 203, 204, 205, 206, 207] rfl (by decide +kernel)
set_option maxRecDepth 20000 in
theorem gX12_next_X12_bestStory : GoodIn wsX12_next (wsV RX12 373 RX12 yX12_bestStory wsX12_bestStory) := goodIn_app (goodIn_of _ (by decide +kernel)) ggX12_next_X12_bestStory
set_option maxRecDepth 20000 in
theorem ggX12_next_X12_oddsOf : GoodIn wsX12_next wsX12_oddsOf := goodIn_r _ [132, 133, 8, 9, 10, 6, 11, 2, 12, 13, 14, 15, 16, 17, 18, 19, 20, 21, 22, 23, 24, 25, 26, 27, 28, 29, 30, 3, 31, 32, 4, 5, 7, 33, 34, 35, 36, 37, 38, 39, 40, 41, 42, 43, 44, 45, 46, 47, 48, 49, 50, 51, 52, 53, 54, 55, 56, 57, 58, 59, 60, 61, 62, 63, 64, 65, 66, 67, 68, 69, 70, 71, 72, 73, 74, 75, 76, 77, 78, 79, 80, 81, 82, 83, 84, 85, 86, 87, 88, 89, 90, 91, 92, 93, 94, 95, 96, 97, 98, 99, 100, 101, 102, 103, 104, 105, 106, 107, 108, 109, 110, 111, 112, 113, 114, 115, 116, 117, 118, 119, 120, 121, 122, 123, 124, 145, 146, 147, 148, 149, 150, 151, 152, 153, 154, 155, 156, 157, 158, 159, 160, 161, 162, 163, 164, 165, 166, 167, 168, 169, 170, 171, 172, 173, 174, 175, 176, 177, 178, 179, 180, 181, 182, 183, 184, 185, 186, 187, 188, 189, 190, 191, 192, 193, 194, 195, 196, 197, 198, 199, 200, 201, 202, 203, 204, 205, 206, 207] rfl (by decide +kernel)
set_option maxRecDepth 20000 in
theorem gX12_next_X12_oddsOf : GoodIn wsX12_next (wsV RX12 370 RX12 yX12_oddsOf wsX12_oddsOf) := goodIn_app (goodIn_of _ (by decide +kernel)) ggX12_next_X12_oddsOf
set_option maxRecDepth 20000 in
theorem ggX12_next_X12_oddsWith : GoodIn wsX12_next wsX12_oddsWith := goodIn_r _ [137, 3, 138, 139, 140, 6, 141, 31, 32, 16, 129, 130, 131, 132, 133, 8, 9, 10, 11, 2, 12, 13, 14, 15, 17, 18, 19, 20, 21, 22, 23, 24, 25, 26, 27, 28, 29, 30, 4, 5, 7, 33, 34, 35, 36, 37, 38, 39, 40, 41, 42, 43, 44, 45, 46, 47, 48, 49, 50, 51, 52, 53, 54, 55, 56, 57, 58, 59, 60, 61, 62, 63, 64, 65, 66, 67, 68, 69, 70, 71, 72, 73, 74, 75, 76, 77, 78, 79, 80, 81, 82, 83, 84, 85, 86, 87, 88, 89, 90, 91, 92, 93, 94, 95, 96, 97, 98, 99, 100, 101, 102, 103, 104, 105, 106, 107, 108, 109, 110, 111, 112, 113, 114, 115, 116, 117, 118, 119, 120, 121, 122, 123, 124, 145, 146, 147, 148, 149, 150, 151, 152, 153, 154, 155, 156, 157, 158, 159, 160, 161, 162, 163, 164, 165, 166, 167, 168, 169, 170, 171, 172, 173, 174, 175, 176, 177, 178, 179, 180, 181, 182, 183, 184, 185, 186, 187, 188, 189, 190, 191, 192, 193, 194, 195, 196, 197, 198, 199, 200, 201, 202, 203, 204, 205, 206, 207] rfl (by decide +kernel)
set_option maxRecDepth 20000 in
theorem gX12_next_X12_oddsWith : GoodIn wsX12_next (wsV RX12 376 RX12 yX12_oddsWith wsX12_oddsWith) := goodIn_app (goodIn_of _ (by decide +kernel)) ggX12_next_X12_oddsWith
set_option maxRecDepth 20000 in
theorem ggX12_next_X12_size : GoodIn wsX12_next wsX12_size := goodIn_r _ [144] rfl (by decide +kernel)
set_option maxRecDepth 20000 in
theorem gX12_next_X12_size : GoodIn wsX12_next (va_wsS RX12 265 yX12_size wsX12_size) := goodIn_app (goodIn_of _ (by decide +kernel)) ggX12_next_X12_size
theorem dX12_next_0 : decode cX12_next 0 = .ok (.iload_n 1, 1) := by decide +kernel
theorem dX12_next_1 : decode cX12_next 1 = .ok (.i2l, 1) := by decide +kernel
theorem dX12_next_2 : decode cX12_next 2 = .ok (.lconst 0, 1) := by decide +kernel
theorem dX12_next_3 : decode cX12_next 3 = .ok (.ldc2_w 225, 3) := by decide +kernel
theorem dX12_next_6 : decode cX12_next 6 = .ok (.invokestatic 136, 3) := by decide +kernel
theorem dX12_next_9 : decode cX12_next 9 = .ok (.ifCond .eq 13, 3) := by decide +kernel
theorem dX12_next_12 : decode cX12_next 12 = .ok (.iload_n 2, 1) := by decide +kernel
theorem dX12_next_13 : decode cX12_next 13 = .ok (.i2l, 1) := by decide +kernel
theorem dX12_next_14 : decode cX12_next 14 = .ok (.lconst 0, 1) := by decide +kernel
theorem dX12_next_15 : decode cX12_next 15 = .ok (.lconst 1, 1) := by decide +kernel
theorem dX12_next_16 : decode cX12_next 16 = .ok (.invokestatic 136, 3) := by decide +kernel
theorem dX12_next_19 : decode cX12_next 19 = .ok (.ifCond .ne 5, 3) := by decide +kernel
theorem dX12_next_22 : decode cX12_next 22 = .ok (.iconst (-1), 1) := by decide +kernel
theorem dX12_next_23 : decode cX12_next 23 = .ok (.ireturn, 1) := by decide +kernel
theorem dX12_next_24 : decode cX12_next 24 = .ok (.aload_n 0, 1) := by decide +kernel
theorem dX12_next_25 : decode cX12_next 25 = .ok (.getfield 342, 3) := by decide +kernel
theorem dX12_next_28 : decode cX12_next 28 = .ok (.ifCond .eq 12, 3) := by decide +kernel
theorem dX12_next_31 : decode cX12_next 31 = .ok (.aload_n 0, 1) := by decide +kernel
theorem dX12_next_32 : decode cX12_next 32 = .ok (.getfield 227, 3) := by decide +kernel
theorem dX12_next_35 : decode cX12_next 35 = .ok (.bipush 40, 2) := by decide +kernel
theorem dX12_next_37 : decode cX12_next 37 = .ok (.if_icmp .ne 6, 3) := by decide +kernel
theorem dX12_next_40 : decode cX12_next 40 = .ok (.bipush (-5), 2) := by decide +kernel
theorem dX12_next_42 : decode cX12_next 42 = .ok (.ireturn, 1) := by decide +kernel
theorem dX12_next_43 : decode cX12_next 43 = .ok (.aload_n 0, 1) := by decide +kernel
theorem dX12_next_44 : decode cX12_next 44 = .ok (.invokevirtual 364, 3) := by decide +kernel
theorem dX12_next_47 : decode cX12_next 47 = .ok (.lconst 0, 1) := by decide +kernel
theorem dX12_next_48 : decode cX12_next 48 = .ok (.lcmp, 1) := by decide +kernel
theorem dX12_next_49 : decode cX12_next 49 = .ok (.ifCond .ne 6, 3) := by decide +kernel
theorem dX12_next_52 : decode cX12_next 52 = .ok (.bipush (-2), 2) := by decide +kernel
theorem dX12_next_54 : decode cX12_next 54 = .ok (.ireturn, 1) := by decide +kernel
theorem dX12_next_55 : decode cX12_next 55 = .ok (.aload_n 0, 1) := by decide +kernel
theorem dX12_next_56 : decode cX12_next 56 = .ok (.invokevirtual 373, 3) := by decide +kernel
theorem dX12_next_59 : decode cX12_next 59 = .ok (.istore_n 3, 1) := by decide +kernel
theorem dX12_next_60 : decode cX12_next 60 = .ok (.aload_n 0, 1) := by decide +kernel
theorem dX12_next_61 : decode cX12_next 61 = .ok (.iload_n 3, 1) := by decide +kernel
theorem dX12_next_62 : decode cX12_next 62 = .ok (.invokevirtual 370, 3) := by decide +kernel
theorem dX12_next_65 : decode cX12_next 65 = .ok (.istore 4, 2) := by decide +kernel
theorem dX12_next_67 : decode cX12_next 67 = .ok (.iconst 0, 1) := by decide +kernel
theorem dX12_next_68 : decode cX12_next 68 = .ok (.istore 5, 2) := by decide +kernel
theorem dX12_next_70 : decode cX12_next 70 = .ok (.iconst (-1), 1) := by decide +kernel
theorem dX12_next_71 : decode cX12_next 71 = .ok (.istore 6, 2) := by decide +kernel
theorem dX12_next_73 : decode cX12_next 73 = .ok (.iconst 0, 1) := by decide +kernel
theorem dX12_next_74 : decode cX12_next 74 = .ok (.istore 7, 2) := by decide +kernel
theorem dX12_next_76 : decode cX12_next 76 = .ok (.iload 7, 2) := by decide +kernel
theorem dX12_next_78 : decode cX12_next 78 = .ok (.bipush 7, 2) := by decide +kernel
theorem dX12_next_80 : decode cX12_next 80 = .ok (.if_icmp .gt 72, 3) := by decide +kernel
theorem dX12_next_83 : decode cX12_next 83 = .ok (.aload_n 0, 1) := by decide +kernel
theorem dX12_next_84 : decode cX12_next 84 = .ok (.iload_n 3, 1) := by decide +kernel
theorem dX12_next_85 : decode cX12_next 85 = .ok (.iload 7, 2) := by decide +kernel
theorem dX12_next_87 : decode cX12_next 87 = .ok (.iconst 0, 1) := by decide +kernel
theorem dX12_next_88 : decode cX12_next 88 = .ok (.invokevirtual 376, 3) := by decide +kernel
theorem dX12_next_91 : decode cX12_next 91 = .ok (.iload 4, 2) := by decide +kernel
theorem dX12_next_93 : decode cX12_next 93 = .ok (.isub, 1) := by decide +kernel
theorem dX12_next_94 : decode cX12_next 94 = .ok (.invokestatic 265, 3) := by decide +kernel
theorem dX12_next_97 : decode cX12_next 97 = .ok (.istore 8, 2) := by decide +kernel
theorem dX12_next_99 : decode cX12_next 99 = .ok (.aload_n 0, 1) := by decide +kernel
theorem dX12_next_100 : decode cX12_next 100 = .ok (.iload_n 3, 1) := by decide +kernel
theorem dX12_next_101 : decode cX12_next 101 = .ok (.iload 7, 2) := by decide +kernel
theorem dX12_next_103 : decode cX12_next 103 = .ok (.iload_n 1, 1) := by decide +kernel
theorem dX12_next_104 : decode cX12_next 104 = .ok (.invokevirtual 376, 3) := by decide +kernel
theorem dX12_next_107 : decode cX12_next 107 = .ok (.iload 4, 2) := by decide +kernel
theorem dX12_next_109 : decode cX12_next 109 = .ok (.isub, 1) := by decide +kernel
theorem dX12_next_110 : decode cX12_next 110 = .ok (.invokestatic 265, 3) := by decide +kernel
theorem dX12_next_113 : decode cX12_next 113 = .ok (.istore 9, 2) := by decide +kernel
theorem dX12_next_115 : decode cX12_next 115 = .ok (.iload 8, 2) := by decide +kernel
theorem dX12_next_117 : decode cX12_next 117 = .ok (.iload 9, 2) := by decide +kernel
theorem dX12_next_119 : decode cX12_next 119 = .ok (.if_icmp .le 8, 3) := by decide +kernel
theorem dX12_next_122 : decode cX12_next 122 = .ok (.iload 8, 2) := by decide +kernel
theorem dX12_next_124 : decode cX12_next 124 = .ok (.goto 5, 3) := by decide +kernel
theorem dX12_next_127 : decode cX12_next 127 = .ok (.iload 9, 2) := by decide +kernel
theorem dX12_next_129 : decode cX12_next 129 = .ok (.istore 10, 2) := by decide +kernel
theorem dX12_next_131 : decode cX12_next 131 = .ok (.iload 10, 2) := by decide +kernel
theorem dX12_next_133 : decode cX12_next 133 = .ok (.iload 6, 2) := by decide +kernel
theorem dX12_next_135 : decode cX12_next 135 = .ok (.if_icmp .le 11, 3) := by decide +kernel
theorem dX12_next_138 : decode cX12_next 138 = .ok (.iload 7, 2) := by decide +kernel
theorem dX12_next_140 : decode cX12_next 140 = .ok (.istore 5, 2) := by decide +kernel
theorem dX12_next_142 : decode cX12_next 142 = .ok (.iload 10, 2) := by decide +kernel
theorem dX12_next_144 : decode cX12_next 144 = .ok (.istore 6, 2) := by decide +kernel
theorem dX12_next_146 : decode cX12_next 146 = .ok (.iinc 7 1, 3) := by decide +kernel
theorem dX12_next_149 : decode cX12_next 149 = .ok (.goto (-73), 3) := by decide +kernel
theorem dX12_next_152 : decode cX12_next 152 = .ok (.iload_n 2, 1) := by decide +kernel
theorem dX12_next_153 : decode cX12_next 153 = .ok (.ifCond .ne 8, 3) := by decide +kernel
theorem dX12_next_156 : decode cX12_next 156 = .ok (.iload 5, 2) := by decide +kernel
theorem dX12_next_158 : decode cX12_next 158 = .ok (.goto 5, 3) := by decide +kernel
theorem dX12_next_161 : decode cX12_next 161 = .ok (.iload 6, 2) := by decide +kernel
theorem dX12_next_163 : decode cX12_next 163 = .ok (.ireturn, 1) := by decide +kernel
set_option maxRecDepth 20000 in
theorem ggX12_isBody_X12_within : GoodIn wsX12_isBody wsX12_within := goodIn_r _ [5] rfl (by decide +kernel)
set_option maxRecDepth 20000 in
theorem gX12_isBody_X12_within : GoodIn wsX12_isBody (va_wsS RX12 136 yX12_within wsX12_within) := goodIn_app (goodIn_of _ (by decide +kernel)) ggX12_isBody_X12_within
theorem dX12_isBody_0 : decode cX12_isBody 0 = .ok (.iload_n 1, 1) := by decide +kernel
theorem dX12_isBody_1 : decode cX12_isBody 1 = .ok (.i2l, 1) := by decide +kernel
theorem dX12_isBody_2 : decode cX12_isBody 2 = .ok (.lconst 0, 1) := by decide +kernel
theorem dX12_isBody_3 : decode cX12_isBody 3 = .ok (.aload_n 0, 1) := by decide +kernel
theorem dX12_isBody_4 : decode cX12_isBody 4 = .ok (.getfield 379, 3) := by decide +kernel
theorem dX12_isBody_7 : decode cX12_isBody 7 = .ok (.iconst 1, 1) := by decide +kernel
theorem dX12_isBody_8 : decode cX12_isBody 8 = .ok (.isub, 1) := by decide +kernel
theorem dX12_isBody_9 : decode cX12_isBody 9 = .ok (.i2l, 1) := by decide +kernel
theorem dX12_isBody_10 : decode cX12_isBody 10 = .ok (.invokestatic 136, 3) := by decide +kernel
theorem dX12_isBody_13 : decode cX12_isBody 13 = .ok (.ireturn, 1) := by decide +kernel
theorem dX12_kindOf_0 : decode cX12_kindOf 0 = .ok (.aload_n 0, 1) := by decide +kernel
theorem dX12_kindOf_1 : decode cX12_kindOf 1 = .ok (.getfield 101, 3) := by decide +kernel
theorem dX12_kindOf_4 : decode cX12_kindOf 4 = .ok (.iload_n 1, 1) := by decide +kernel
theorem dX12_kindOf_5 : decode cX12_kindOf 5 = .ok (.iaload, 1) := by decide +kernel
theorem dX12_kindOf_6 : decode cX12_kindOf 6 = .ok (.ireturn, 1) := by decide +kernel
set_option maxRecDepth 20000 in
theorem ggX12_body_X12_within : GoodIn wsX12_body wsX12_within := goodIn_r _ [7] rfl (by decide +kernel)
set_option maxRecDepth 20000 in
theorem gX12_body_X12_within : GoodIn wsX12_body (va_wsS RX12 136 yX12_within wsX12_within) := goodIn_app (goodIn_of _ (by decide +kernel)) ggX12_body_X12_within
theorem dX12_body_0 : decode cX12_body 0 = .ok (.iload_n 1, 1) := by decide +kernel
theorem dX12_body_1 : decode cX12_body 1 = .ok (.i2l, 1) := by decide +kernel
theorem dX12_body_2 : decode cX12_body 2 = .ok (.lconst 0, 1) := by decide +kernel
theorem dX12_body_3 : decode cX12_body 3 = .ok (.ldc2_w 223, 3) := by decide +kernel
theorem dX12_body_6 : decode cX12_body 6 = .ok (.invokestatic 136, 3) := by decide +kernel
theorem dX12_body_9 : decode cX12_body 9 = .ok (.ifCond .ne 5, 3) := by decide +kernel
theorem dX12_body_12 : decode cX12_body 12 = .ok (.iconst (-1), 1) := by decide +kernel
theorem dX12_body_13 : decode cX12_body 13 = .ok (.ireturn, 1) := by decide +kernel
theorem dX12_body_14 : decode cX12_body 14 = .ok (.aload_n 0, 1) := by decide +kernel
theorem dX12_body_15 : decode cX12_body 15 = .ok (.getfield 379, 3) := by decide +kernel
theorem dX12_body_18 : decode cX12_body 18 = .ok (.bipush 50, 2) := by decide +kernel
theorem dX12_body_20 : decode cX12_body 20 = .ok (.if_icmp .ne 6, 3) := by decide +kernel
theorem dX12_body_23 : decode cX12_body 23 = .ok (.bipush (-3), 2) := by decide +kernel
theorem dX12_body_25 : decode cX12_body 25 = .ok (.ireturn, 1) := by decide +kernel
theorem dX12_body_26 : decode cX12_body 26 = .ok (.aload_n 0, 1) := by decide +kernel
theorem dX12_body_27 : decode cX12_body 27 = .ok (.getfield 101, 3) := by decide +kernel
theorem dX12_body_30 : decode cX12_body 30 = .ok (.aload_n 0, 1) := by decide +kernel
theorem dX12_body_31 : decode cX12_body 31 = .ok (.getfield 379, 3) := by decide +kernel
theorem dX12_body_34 : decode cX12_body 34 = .ok (.iload_n 1, 1) := by decide +kernel
theorem dX12_body_35 : decode cX12_body 35 = .ok (.iastore, 1) := by decide +kernel
theorem dX12_body_36 : decode cX12_body 36 = .ok (.aload_n 0, 1) := by decide +kernel
theorem dX12_body_37 : decode cX12_body 37 = .ok (.dup, 1) := by decide +kernel
theorem dX12_body_38 : decode cX12_body 38 = .ok (.getfield 379, 3) := by decide +kernel
theorem dX12_body_41 : decode cX12_body 41 = .ok (.iconst 1, 1) := by decide +kernel
theorem dX12_body_42 : decode cX12_body 42 = .ok (.iadd, 1) := by decide +kernel
theorem dX12_body_43 : decode cX12_body 43 = .ok (.putfield 379, 3) := by decide +kernel
theorem dX12_body_46 : decode cX12_body 46 = .ok (.aload_n 0, 1) := by decide +kernel
theorem dX12_body_47 : decode cX12_body 47 = .ok (.getfield 379, 3) := by decide +kernel
theorem dX12_body_50 : decode cX12_body 50 = .ok (.iconst 1, 1) := by decide +kernel
theorem dX12_body_51 : decode cX12_body 51 = .ok (.isub, 1) := by decide +kernel
theorem dX12_body_52 : decode cX12_body 52 = .ok (.ireturn, 1) := by decide +kernel
theorem dX12_above_0 : decode cX12_above 0 = .ok (.iload_n 0, 1) := by decide +kernel
theorem dX12_above_1 : decode cX12_above 1 = .ok (.iconst 3, 1) := by decide +kernel
theorem dX12_above_2 : decode cX12_above 2 = .ok (.if_icmp .ne 7, 3) := by decide +kernel
theorem dX12_above_5 : decode cX12_above 5 = .ok (.iconst 1, 1) := by decide +kernel
theorem dX12_above_6 : decode cX12_above 6 = .ok (.goto 24, 3) := by decide +kernel
theorem dX12_above_9 : decode cX12_above 9 = .ok (.iload_n 0, 1) := by decide +kernel
theorem dX12_above_10 : decode cX12_above 10 = .ok (.iconst 4, 1) := by decide +kernel
theorem dX12_above_11 : decode cX12_above 11 = .ok (.if_icmp .ne 7, 3) := by decide +kernel
theorem dX12_above_14 : decode cX12_above 14 = .ok (.iconst 2, 1) := by decide +kernel
theorem dX12_above_15 : decode cX12_above 15 = .ok (.goto 15, 3) := by decide +kernel
theorem dX12_above_18 : decode cX12_above 18 = .ok (.iload_n 0, 1) := by decide +kernel
theorem dX12_above_19 : decode cX12_above 19 = .ok (.bipush 7, 2) := by decide +kernel
theorem dX12_above_21 : decode cX12_above 21 = .ok (.if_icmp .ne 8, 3) := by decide +kernel
theorem dX12_above_24 : decode cX12_above 24 = .ok (.bipush 6, 2) := by decide +kernel
theorem dX12_above_26 : decode cX12_above 26 = .ok (.goto 4, 3) := by decide +kernel
theorem dX12_above_29 : decode cX12_above 29 = .ok (.iconst 0, 1) := by decide +kernel
theorem dX12_above_30 : decode cX12_above 30 = .ok (.ireturn, 1) := by decide +kernel
theorem dX12_begins_0 : decode cX12_begins 0 = .ok (.aload_n 0, 1) := by decide +kernel
theorem dX12_begins_1 : decode cX12_begins 1 = .ok (.getfield 382, 3) := by decide +kernel
theorem dX12_begins_4 : decode cX12_begins 4 = .ok (.bipush 24, 2) := by decide +kernel
theorem dX12_begins_6 : decode cX12_begins 6 = .ok (.if_icmp .ge 13, 3) := by decide +kernel
theorem dX12_begins_9 : decode cX12_begins 9 = .ok (.aload_n 0, 1) := by decide +kernel
theorem dX12_begins_10 : decode cX12_begins 10 = .ok (.getfield 104, 3) := by decide +kernel
theorem dX12_begins_13 : decode cX12_begins 13 = .ok (.aload_n 0, 1) := by decide +kernel
theorem dX12_begins_14 : decode cX12_begins 14 = .ok (.getfield 382, 3) := by decide +kernel
theorem dX12_begins_17 : decode cX12_begins 17 = .ok (.iload_n 1, 1) := by decide +kernel
theorem dX12_begins_18 : decode cX12_begins 18 = .ok (.iastore, 1) := by decide +kernel
theorem dX12_begins_19 : decode cX12_begins 19 = .ok (.aload_n 0, 1) := by decide +kernel
theorem dX12_begins_20 : decode cX12_begins 20 = .ok (.dup, 1) := by decide +kernel
theorem dX12_begins_21 : decode cX12_begins 21 = .ok (.getfield 382, 3) := by decide +kernel
theorem dX12_begins_24 : decode cX12_begins 24 = .ok (.iconst 1, 1) := by decide +kernel
theorem dX12_begins_25 : decode cX12_begins 25 = .ok (.iadd, 1) := by decide +kernel
theorem dX12_begins_26 : decode cX12_begins 26 = .ok (.putfield 382, 3) := by decide +kernel
theorem dX12_begins_29 : decode cX12_begins 29 = .ok (.return_, 1) := by decide +kernel
set_option maxRecDepth 20000 in
theorem ggX12_liesAs_X12_begins : GoodIn wsX12_liesAs wsX12_begins := goodIn_r _ [6, 7, 8, 12, 13, 14, 15, 16, 17, 18, 19, 20, 21, 22, 23, 24, 25, 26, 27, 28, 29, 30, 31, 32, 33, 34, 35, 36, 37, 38, 39, 40, 41, 42, 43, 44, 45, 46, 47, 48, 49, 50, 51, 52, 53, 54, 55, 56, 57, 58, 59, 60, 61, 62, 63, 64, 65, 66, 67, 68, 69, 70, 71, 72, 73, 74] rfl (by decide +kernel)
set_option maxRecDepth 20000 in
theorem gX12_liesAs_X12_begins : GoodIn wsX12_liesAs (wsV RX12 385 RX12 yX12_begins wsX12_begins) := goodIn_app (goodIn_of _ (by decide +kernel)) ggX12_liesAs_X12_begins
set_option maxRecDepth 20000 in
theorem ggX12_liesAs_X12_liesAs : GoodIn wsX12_liesAs wsX12_liesAs := goodIn_r _ [0, 1, 2, 3, 4, 5, 6, 7, 8, 9, 10, 11, 12, 13, 14, 15, 16, 17, 18, 19, 20, 21, 22, 23, 24, 25, 26, 27, 28, 29, 30, 31, 32, 33, 34, 35, 36, 37, 38, 39, 40, 41, 42, 43, 44, 45, 46, 47, 48, 49, 50, 51, 52, 53, 54, 55, 56, 57, 58, 59, 60, 61, 62, 63, 64, 65, 66, 67, 68, 69, 70, 71, 72, 73, 74] rfl (by decide +kernel)
set_option maxRecDepth 20000 in
theorem gX12_liesAs_X12_liesAs : GoodIn wsX12_liesAs (wsV RX12 389 RX12 yX12_liesAs wsX12_liesAs) := goodIn_app (goodIn_of _ (by decide +kernel)) ggX12_liesAs_X12_liesAs
theorem dX12_liesAs_0 : decode cX12_liesAs 0 = .ok (.iload_n 1, 1) := by decide +kernel
theorem dX12_liesAs_1 : decode cX12_liesAs 1 = .ok (.iconst 1, 1) := by decide +kernel
theorem dX12_liesAs_2 : decode cX12_liesAs 2 = .ok (.if_icmp .eq 8, 3) := by decide +kernel
theorem dX12_liesAs_5 : decode cX12_liesAs 5 = .ok (.iload_n 1, 1) := by decide +kernel
theorem dX12_liesAs_6 : decode cX12_liesAs 6 = .ok (.iconst 3, 1) := by decide +kernel
theorem dX12_liesAs_7 : decode cX12_liesAs 7 = .ok (.if_icmp .ne 18, 3) := by decide +kernel
theorem dX12_liesAs_10 : decode cX12_liesAs 10 = .ok (.aload_n 0, 1) := by decide +kernel
theorem dX12_liesAs_11 : decode cX12_liesAs 11 = .ok (.bipush 20, 2) := by decide +kernel
theorem dX12_liesAs_13 : decode cX12_liesAs 13 = .ok (.invokevirtual 385, 3) := by decide +kernel
theorem dX12_liesAs_16 : decode cX12_liesAs 16 = .ok (.aload_n 0, 1) := by decide +kernel
theorem dX12_liesAs_17 : decode cX12_liesAs 17 = .ok (.iconst 0, 1) := by decide +kernel
theorem dX12_liesAs_18 : decode cX12_liesAs 18 = .ok (.iload_n 2, 1) := by decide +kernel
theorem dX12_liesAs_19 : decode cX12_liesAs 19 = .ok (.invokevirtual 389, 3) := by decide +kernel
theorem dX12_liesAs_22 : decode cX12_liesAs 22 = .ok (.iconst 3, 1) := by decide +kernel
theorem dX12_liesAs_23 : decode cX12_liesAs 23 = .ok (.iadd, 1) := by decide +kernel
theorem dX12_liesAs_24 : decode cX12_liesAs 24 = .ok (.ireturn, 1) := by decide +kernel
theorem dX12_liesAs_25 : decode cX12_liesAs 25 = .ok (.iload_n 1, 1) := by decide +kernel
theorem dX12_liesAs_26 : decode cX12_liesAs 26 = .ok (.bipush 6, 2) := by decide +kernel
theorem dX12_liesAs_28 : decode cX12_liesAs 28 = .ok (.if_icmp .eq 9, 3) := by decide +kernel
theorem dX12_liesAs_31 : decode cX12_liesAs 31 = .ok (.iload_n 1, 1) := by decide +kernel
theorem dX12_liesAs_32 : decode cX12_liesAs 32 = .ok (.bipush 7, 2) := by decide +kernel
theorem dX12_liesAs_34 : decode cX12_liesAs 34 = .ok (.if_icmp .ne 18, 3) := by decide +kernel
theorem dX12_liesAs_37 : decode cX12_liesAs 37 = .ok (.aload_n 0, 1) := by decide +kernel
theorem dX12_liesAs_38 : decode cX12_liesAs 38 = .ok (.bipush 70, 2) := by decide +kernel
theorem dX12_liesAs_40 : decode cX12_liesAs 40 = .ok (.invokevirtual 385, 3) := by decide +kernel
theorem dX12_liesAs_43 : decode cX12_liesAs 43 = .ok (.aload_n 0, 1) := by decide +kernel
theorem dX12_liesAs_44 : decode cX12_liesAs 44 = .ok (.iconst 0, 1) := by decide +kernel
theorem dX12_liesAs_45 : decode cX12_liesAs 45 = .ok (.iload_n 2, 1) := by decide +kernel
theorem dX12_liesAs_46 : decode cX12_liesAs 46 = .ok (.invokevirtual 389, 3) := by decide +kernel
theorem dX12_liesAs_49 : decode cX12_liesAs 49 = .ok (.iconst 2, 1) := by decide +kernel
theorem dX12_liesAs_50 : decode cX12_liesAs 50 = .ok (.imul, 1) := by decide +kernel
theorem dX12_liesAs_51 : decode cX12_liesAs 51 = .ok (.ireturn, 1) := by decide +kernel
theorem dX12_liesAs_52 : decode cX12_liesAs 52 = .ok (.aload_n 0, 1) := by decide +kernel
theorem dX12_liesAs_53 : decode cX12_liesAs 53 = .ok (.iconst 1, 1) := by decide +kernel
theorem dX12_liesAs_54 : decode cX12_liesAs 54 = .ok (.invokevirtual 385, 3) := by decide +kernel
theorem dX12_liesAs_57 : decode cX12_liesAs 57 = .ok (.iload_n 2, 1) := by decide +kernel
theorem dX12_liesAs_58 : decode cX12_liesAs 58 = .ok (.aload_n 0, 1) := by decide +kernel
theorem dX12_liesAs_59 : decode cX12_liesAs 59 = .ok (.getfield 392, 3) := by decide +kernel
theorem dX12_liesAs_62 : decode cX12_liesAs 62 = .ok (.iadd, 1) := by decide +kernel
theorem dX12_liesAs_63 : decode cX12_liesAs 63 = .ok (.ireturn, 1) := by decide +kernel
set_option maxRecDepth 20000 in
theorem ggX12_needsAs_X12_begins : GoodIn wsX12_needsAs wsX12_begins := goodIn_r _ [6, 7, 8, 21, 22, 23, 24, 25, 26, 27, 28, 29, 30, 31, 32, 33, 34, 35, 36, 37, 38, 39, 40, 41, 42, 43, 44, 45, 46, 47, 48, 49, 50, 51, 52, 53, 54, 55, 56, 57, 58, 59, 60, 61, 62, 63, 64, 65, 66, 67, 68, 69, 70, 71, 72, 73, 74, 75, 76, 77, 78, 79, 80, 81, 82, 83] rfl (by decide +kernel)
set_option maxRecDepth 20000 in
theorem gX12_needsAs_X12_begins : GoodIn wsX12_needsAs (wsV RX12 385 RX12 yX12_begins wsX12_begins) := goodIn_app (goodIn_of _ (by decide +kernel)) ggX12_needsAs_X12_begins
set_option maxRecDepth 20000 in
theorem ggX12_needsAs_X12_needsAs : GoodIn wsX12_needsAs wsX12_needsAs := goodIn_r _ [0, 1, 2, 3, 4, 5, 6, 7, 8, 9, 10, 11, 12, 13, 14, 15, 16, 17, 18, 19, 20, 21, 22, 23, 24, 25, 26, 27, 28, 29, 30, 31, 32, 33, 34, 35, 36, 37, 38, 39, 40, 41, 42, 43, 44, 45, 46, 47, 48, 49, 50, 51, 52, 53, 54, 55, 56, 57, 58, 59, 60, 61, 62, 63, 64, 65, 66, 67, 68, 69, 70, 71, 72, 73, 74, 75, 76, 77, 78, 79, 80, 81, 82, 83] rfl (by decide +kernel)
set_option maxRecDepth 20000 in
theorem gX12_needsAs_X12_needsAs : GoodIn wsX12_needsAs (wsV RX12 395 RX12 yX12_needsAs wsX12_needsAs) := goodIn_app (goodIn_of _ (by decide +kernel)) ggX12_needsAs_X12_needsAs
set_option maxRecDepth 20000 in
theorem ggX12_needsAs_X12_showsAs : GoodIn wsX12_needsAs wsX12_showsAs := goodIn_r _ [15, 1, 16, 2, 3, 4, 5, 6, 7, 8, 12, 13, 14, 17, 18, 19, 20, 21, 22, 23, 24, 25, 26, 27, 28, 29, 30, 31, 32, 33, 34, 35, 36, 37, 38, 39, 40, 41, 42, 43, 44, 45, 46, 47, 48, 49, 50, 51, 52, 53, 54, 55, 56, 57, 58, 59, 60, 61, 62, 63, 64, 65, 66, 67, 68, 69, 70, 71, 72, 73, 74, 75, 76, 77, 78, 79, 80, 81, 82, 83] rfl (by decide +kernel)
set_option maxRecDepth 20000 in
theorem gX12_needsAs_X12_showsAs : GoodIn wsX12_needsAs (wsV RX12 401 RX12 yX12_showsAs wsX12_showsAs) := goodIn_app (goodIn_of _ (by decide +kernel)) ggX12_needsAs_X12_showsAs
set_option maxRecDepth 20000 in
theorem ggX12_needsAs_X12_liesAs : GoodIn wsX12_needsAs wsX12_liesAs := goodIn_r _ [20, 16, 2, 3, 4, 5, 6, 7, 8, 17, 18, 19, 21, 22, 23, 24, 25, 26, 27, 28, 29, 30, 31, 32, 33, 34, 35, 36, 37, 38, 39, 40, 41, 42, 43, 44, 45, 46, 47, 48, 49, 50, 51, 52, 53, 54, 55, 56, 57, 58, 59, 60, 61, 62, 63, 64, 65, 66, 67, 68, 69, 70, 71, 72, 73, 74, 75, 76, 77, 78, 79, 80, 81, 82, 83] rfl (by decide +kernel)
set_option maxRecDepth 20000 in
theorem gX12_needsAs_X12_liesAs : GoodIn wsX12_needsAs (wsV RX12 389 RX12 yX12_liesAs wsX12_liesAs) := goodIn_app (goodIn_of _ (by decide +kernel)) ggX12_needsAs_X12_liesAs
theorem dX12_needsAs_0 : decode cX12_needsAs 0 = .ok (.iload_n 1, 1) := by decide +kernel
theorem dX12_needsAs_1 : decode cX12_needsAs 1 = .ok (.iconst 4, 1) := by decide +kernel
theorem dX12_needsAs_2 : decode cX12_needsAs 2 = .ok (.if_icmp .ne 18, 3) := by decide +kernel
theorem dX12_needsAs_5 : decode cX12_needsAs 5 = .ok (.aload_n 0, 1) := by decide +kernel
theorem dX12_needsAs_6 : decode cX12_needsAs 6 = .ok (.bipush 51, 2) := by decide +kernel
theorem dX12_needsAs_8 : decode cX12_needsAs 8 = .ok (.invokevirtual 385, 3) := by decide +kernel
theorem dX12_needsAs_11 : decode cX12_needsAs 11 = .ok (.aload_n 0, 1) := by decide +kernel
theorem dX12_needsAs_12 : decode cX12_needsAs 12 = .ok (.iconst 2, 1) := by decide +kernel
theorem dX12_needsAs_13 : decode cX12_needsAs 13 = .ok (.iload_n 2, 1) := by decide +kernel
theorem dX12_needsAs_14 : decode cX12_needsAs 14 = .ok (.iconst 1, 1) := by decide +kernel
theorem dX12_needsAs_15 : decode cX12_needsAs 15 = .ok (.iadd, 1) := by decide +kernel
theorem dX12_needsAs_16 : decode cX12_needsAs 16 = .ok (.invokevirtual 395, 3) := by decide +kernel
theorem dX12_needsAs_19 : decode cX12_needsAs 19 = .ok (.ireturn, 1) := by decide +kernel
theorem dX12_needsAs_20 : decode cX12_needsAs 20 = .ok (.iload_n 1, 1) := by decide +kernel
theorem dX12_needsAs_21 : decode cX12_needsAs 21 = .ok (.iconst 2, 1) := by decide +kernel
theorem dX12_needsAs_22 : decode cX12_needsAs 22 = .ok (.if_icmp .ne 17, 3) := by decide +kernel
theorem dX12_needsAs_25 : decode cX12_needsAs 25 = .ok (.aload_n 0, 1) := by decide +kernel
theorem dX12_needsAs_26 : decode cX12_needsAs 26 = .ok (.bipush 30, 2) := by decide +kernel
theorem dX12_needsAs_28 : decode cX12_needsAs 28 = .ok (.invokevirtual 385, 3) := by decide +kernel
theorem dX12_needsAs_31 : decode cX12_needsAs 31 = .ok (.aload_n 0, 1) := by decide +kernel
theorem dX12_needsAs_32 : decode cX12_needsAs 32 = .ok (.iconst 0, 1) := by decide +kernel
theorem dX12_needsAs_33 : decode cX12_needsAs 33 = .ok (.iload_n 2, 1) := by decide +kernel
theorem dX12_needsAs_34 : decode cX12_needsAs 34 = .ok (.invokevirtual 395, 3) := by decide +kernel
theorem dX12_needsAs_37 : decode cX12_needsAs 37 = .ok (.ineg, 1) := by decide +kernel
theorem dX12_needsAs_38 : decode cX12_needsAs 38 = .ok (.ireturn, 1) := by decide +kernel
theorem dX12_needsAs_39 : decode cX12_needsAs 39 = .ok (.iload_n 1, 1) := by decide +kernel
theorem dX12_needsAs_40 : decode cX12_needsAs 40 = .ok (.bipush 7, 2) := by decide +kernel
theorem dX12_needsAs_42 : decode cX12_needsAs 42 = .ok (.if_icmp .ne 29, 3) := by decide +kernel
theorem dX12_needsAs_45 : decode cX12_needsAs 45 = .ok (.aload_n 0, 1) := by decide +kernel
theorem dX12_needsAs_46 : decode cX12_needsAs 46 = .ok (.bipush 80, 2) := by decide +kernel
theorem dX12_needsAs_48 : decode cX12_needsAs 48 = .ok (.invokevirtual 385, 3) := by decide +kernel
theorem dX12_needsAs_51 : decode cX12_needsAs 51 = .ok (.aload_n 0, 1) := by decide +kernel
theorem dX12_needsAs_52 : decode cX12_needsAs 52 = .ok (.bipush 6, 2) := by decide +kernel
theorem dX12_needsAs_54 : decode cX12_needsAs 54 = .ok (.iload_n 2, 1) := by decide +kernel
theorem dX12_needsAs_55 : decode cX12_needsAs 55 = .ok (.invokevirtual 395, 3) := by decide +kernel
theorem dX12_needsAs_58 : decode cX12_needsAs 58 = .ok (.istore_n 3, 1) := by decide +kernel
theorem dX12_needsAs_59 : decode cX12_needsAs 59 = .ok (.iload_n 3, 1) := by decide +kernel
theorem dX12_needsAs_60 : decode cX12_needsAs 60 = .ok (.aload_n 0, 1) := by decide +kernel
theorem dX12_needsAs_61 : decode cX12_needsAs 61 = .ok (.aload_n 0, 1) := by decide +kernel
theorem dX12_needsAs_62 : decode cX12_needsAs 62 = .ok (.getfield 398, 3) := by decide +kernel
theorem dX12_needsAs_65 : decode cX12_needsAs 65 = .ok (.iconst 2, 1) := by decide +kernel
theorem dX12_needsAs_66 : decode cX12_needsAs 66 = .ok (.invokevirtual 401, 3) := by decide +kernel
theorem dX12_needsAs_69 : decode cX12_needsAs 69 = .ok (.iadd, 1) := by decide +kernel
theorem dX12_needsAs_70 : decode cX12_needsAs 70 = .ok (.ireturn, 1) := by decide +kernel
theorem dX12_needsAs_71 : decode cX12_needsAs 71 = .ok (.aload_n 0, 1) := by decide +kernel
theorem dX12_needsAs_72 : decode cX12_needsAs 72 = .ok (.bipush 10, 2) := by decide +kernel
theorem dX12_needsAs_74 : decode cX12_needsAs 74 = .ok (.invokevirtual 385, 3) := by decide +kernel
theorem dX12_needsAs_77 : decode cX12_needsAs 77 = .ok (.aload_n 0, 1) := by decide +kernel
theorem dX12_needsAs_78 : decode cX12_needsAs 78 = .ok (.aload_n 0, 1) := by decide +kernel
theorem dX12_needsAs_79 : decode cX12_needsAs 79 = .ok (.getfield 398, 3) := by decide +kernel
theorem dX12_needsAs_82 : decode cX12_needsAs 82 = .ok (.iload_n 2, 1) := by decide +kernel
theorem dX12_needsAs_83 : decode cX12_needsAs 83 = .ok (.invokevirtual 389, 3) := by decide +kernel
theorem dX12_needsAs_86 : decode cX12_needsAs 86 = .ok (.iconst 2, 1) := by decide +kernel
theorem dX12_needsAs_87 : decode cX12_needsAs 87 = .ok (.imul, 1) := by decide +kernel
theorem dX12_needsAs_88 : decode cX12_needsAs 88 = .ok (.ireturn, 1) := by decide +kernel
set_option maxRecDepth 20000 in
theorem ggX12_showsAs_X12_begins : GoodIn wsX12_showsAs wsX12_begins := goodIn_r _ [7, 8, 9, 17, 18, 19, 20, 21, 22, 23, 24, 25, 26, 27, 28, 29, 30, 31, 32, 33, 34, 35, 36, 37, 38, 39, 40, 41, 42, 43, 44, 45, 46, 47, 48, 49, 50, 51, 52, 53, 54, 55, 56, 57, 58, 59, 60, 61, 62, 63, 64, 65, 66, 67, 68, 69, 70, 71, 72, 73, 74, 75, 76, 77, 78, 79] rfl (by decide +kernel)
set_option maxRecDepth 20000 in
theorem gX12_showsAs_X12_begins : GoodIn wsX12_showsAs (wsV RX12 385 RX12 yX12_begins wsX12_begins) := goodIn_app (goodIn_of _ (by decide +kernel)) ggX12_showsAs_X12_begins
set_option maxRecDepth 20000 in
theorem ggX12_showsAs_X12_showsAs : GoodIn wsX12_showsAs wsX12_showsAs := goodIn_r _ [0, 1, 2, 3, 4, 5, 6, 7, 8, 9, 10, 11, 12, 13, 14, 15, 16, 17, 18, 19, 20, 21, 22, 23, 24, 25, 26, 27, 28, 29, 30, 31, 32, 33, 34, 35, 36, 37, 38, 39, 40, 41, 42, 43, 44, 45, 46, 47, 48, 49, 50, 51, 52, 53, 54, 55, 56, 57, 58, 59, 60, 61, 62, 63, 64, 65, 66, 67, 68, 69, 70, 71, 72, 73, 74, 75, 76, 77, 78, 79] rfl (by decide +kernel)
set_option maxRecDepth 20000 in
theorem gX12_showsAs_X12_showsAs : GoodIn wsX12_showsAs (wsV RX12 401 RX12 yX12_showsAs wsX12_showsAs) := goodIn_app (goodIn_of _ (by decide +kernel)) ggX12_showsAs_X12_showsAs
set_option maxRecDepth 20000 in
theorem ggX12_showsAs_X12_liesAs : GoodIn wsX12_showsAs wsX12_liesAs := goodIn_r _ [16, 2, 3, 4, 5, 6, 7, 8, 9, 13, 14, 15, 17, 18, 19, 20, 21, 22, 23, 24, 25, 26, 27, 28, 29, 30, 31, 32, 33, 34, 35, 36, 37, 38, 39, 40, 41, 42, 43, 44, 45, 46, 47, 48, 49, 50, 51, 52, 53, 54, 55, 56, 57, 58, 59, 60, 61, 62, 63, 64, 65, 66, 67, 68, 69, 70, 71, 72, 73, 74, 75, 76, 77, 78, 79] rfl (by decide +kernel)
set_option maxRecDepth 20000 in
theorem gX12_showsAs_X12_liesAs : GoodIn wsX12_showsAs (wsV RX12 389 RX12 yX12_liesAs wsX12_liesAs) := goodIn_app (goodIn_of _ (by decide +kernel)) ggX12_showsAs_X12_liesAs
theorem dX12_showsAs_0 : decode cX12_showsAs 0 = .ok (.iload_n 1, 1) := by decide +kernel
theorem dX12_showsAs_1 : decode cX12_showsAs 1 = .ok (.iconst 3, 1) := by decide +kernel
theorem dX12_showsAs_2 : decode cX12_showsAs 2 = .ok (.if_icmp .ne 18, 3) := by decide +kernel
theorem dX12_showsAs_5 : decode cX12_showsAs 5 = .ok (.aload_n 0, 1) := by decide +kernel
theorem dX12_showsAs_6 : decode cX12_showsAs 6 = .ok (.bipush 40, 2) := by decide +kernel
theorem dX12_showsAs_8 : decode cX12_showsAs 8 = .ok (.invokevirtual 385, 3) := by decide +kernel
theorem dX12_showsAs_11 : decode cX12_showsAs 11 = .ok (.aload_n 0, 1) := by decide +kernel
theorem dX12_showsAs_12 : decode cX12_showsAs 12 = .ok (.iconst 1, 1) := by decide +kernel
theorem dX12_showsAs_13 : decode cX12_showsAs 13 = .ok (.iload_n 2, 1) := by decide +kernel
theorem dX12_showsAs_14 : decode cX12_showsAs 14 = .ok (.invokevirtual 401, 3) := by decide +kernel
theorem dX12_showsAs_17 : decode cX12_showsAs 17 = .ok (.iconst 3, 1) := by decide +kernel
theorem dX12_showsAs_18 : decode cX12_showsAs 18 = .ok (.imul, 1) := by decide +kernel
theorem dX12_showsAs_19 : decode cX12_showsAs 19 = .ok (.ireturn, 1) := by decide +kernel
theorem dX12_showsAs_20 : decode cX12_showsAs 20 = .ok (.iload_n 1, 1) := by decide +kernel
theorem dX12_showsAs_21 : decode cX12_showsAs 21 = .ok (.iconst 5, 1) := by decide +kernel
theorem dX12_showsAs_22 : decode cX12_showsAs 22 = .ok (.if_icmp .ne 28, 3) := by decide +kernel
theorem dX12_showsAs_25 : decode cX12_showsAs 25 = .ok (.aload_n 0, 1) := by decide +kernel
theorem dX12_showsAs_26 : decode cX12_showsAs 26 = .ok (.bipush 60, 2) := by decide +kernel
theorem dX12_showsAs_28 : decode cX12_showsAs 28 = .ok (.invokevirtual 385, 3) := by decide +kernel
theorem dX12_showsAs_31 : decode cX12_showsAs 31 = .ok (.aload_n 0, 1) := by decide +kernel
theorem dX12_showsAs_32 : decode cX12_showsAs 32 = .ok (.iconst 0, 1) := by decide +kernel
theorem dX12_showsAs_33 : decode cX12_showsAs 33 = .ok (.iload_n 2, 1) := by decide +kernel
theorem dX12_showsAs_34 : decode cX12_showsAs 34 = .ok (.invokevirtual 401, 3) := by decide +kernel
theorem dX12_showsAs_37 : decode cX12_showsAs 37 = .ok (.istore_n 3, 1) := by decide +kernel
theorem dX12_showsAs_38 : decode cX12_showsAs 38 = .ok (.iload_n 3, 1) := by decide +kernel
theorem dX12_showsAs_39 : decode cX12_showsAs 39 = .ok (.aload_n 0, 1) := by decide +kernel
theorem dX12_showsAs_40 : decode cX12_showsAs 40 = .ok (.aload_n 0, 1) := by decide +kernel
theorem dX12_showsAs_41 : decode cX12_showsAs 41 = .ok (.getfield 398, 3) := by decide +kernel
theorem dX12_showsAs_44 : decode cX12_showsAs 44 = .ok (.iconst 2, 1) := by decide +kernel
theorem dX12_showsAs_45 : decode cX12_showsAs 45 = .ok (.invokevirtual 389, 3) := by decide +kernel
theorem dX12_showsAs_48 : decode cX12_showsAs 48 = .ok (.isub, 1) := by decide +kernel
theorem dX12_showsAs_49 : decode cX12_showsAs 49 = .ok (.ireturn, 1) := by decide +kernel
theorem dX12_showsAs_50 : decode cX12_showsAs 50 = .ok (.aload_n 0, 1) := by decide +kernel
theorem dX12_showsAs_51 : decode cX12_showsAs 51 = .ok (.bipush 11, 2) := by decide +kernel
theorem dX12_showsAs_53 : decode cX12_showsAs 53 = .ok (.invokevirtual 385, 3) := by decide +kernel
theorem dX12_showsAs_56 : decode cX12_showsAs 56 = .ok (.iload_n 2, 1) := by decide +kernel
theorem dX12_showsAs_57 : decode cX12_showsAs 57 = .ok (.aload_n 0, 1) := by decide +kernel
theorem dX12_showsAs_58 : decode cX12_showsAs 58 = .ok (.getfield 392, 3) := by decide +kernel
theorem dX12_showsAs_61 : decode cX12_showsAs 61 = .ok (.ixor, 1) := by decide +kernel
theorem dX12_showsAs_62 : decode cX12_showsAs 62 = .ok (.ireturn, 1) := by decide +kernel
set_option maxRecDepth 20000 in
theorem ggX12_tellsAs_X12_begins : GoodIn wsX12_tellsAs wsX12_begins := goodIn_r _ [6, 7, 8, 25, 26, 27, 28, 29, 30, 31, 32, 33, 34, 35, 36, 37, 38, 39, 40, 41, 42, 43, 44, 45, 46, 47, 48, 49, 50, 51, 52, 53, 54, 55, 56, 57, 58, 59, 60, 61, 62, 63, 64, 65, 66, 67, 68, 69, 70, 71, 72, 73, 74, 75, 76, 77, 78, 79, 80, 81, 82, 83, 84, 85, 86, 87] rfl (by decide +kernel)
set_option maxRecDepth 20000 in
theorem gX12_tellsAs_X12_begins : GoodIn wsX12_tellsAs (wsV RX12 385 RX12 yX12_begins wsX12_begins) := goodIn_app (goodIn_of _ (by decide +kernel)) ggX12_tellsAs_X12_begins
set_option maxRecDepth 20000 in
theorem ggX12_tellsAs_X12_tellsAs : GoodIn wsX12_tellsAs wsX12_tellsAs := goodIn_r _ [0, 1, 2, 3, 4, 5, 6, 7, 8, 9, 10, 11, 12, 13, 14, 15, 16, 17, 18, 19, 20, 21, 22, 23, 24, 25, 26, 27, 28, 29, 30, 31, 32, 33, 34, 35, 36, 37, 38, 39, 40, 41, 42, 43, 44, 45, 46, 47, 48, 49, 50, 51, 52, 53, 54, 55, 56, 57, 58, 59, 60, 61, 62, 63, 64, 65, 66, 67, 68, 69, 70, 71, 72, 73, 74, 75, 76, 77, 78, 79, 80, 81, 82, 83, 84, 85, 86, 87] rfl (by decide +kernel)
set_option maxRecDepth 20000 in
theorem gX12_tellsAs_X12_tellsAs : GoodIn wsX12_tellsAs (wsV RX12 404 RX12 yX12_tellsAs wsX12_tellsAs) := goodIn_app (goodIn_of _ (by decide +kernel)) ggX12_tellsAs_X12_tellsAs
set_option maxRecDepth 20000 in
theorem ggX12_tellsAs_X12_needsAs : GoodIn wsX12_tellsAs wsX12_needsAs := goodIn_r _ [15, 1, 2, 3, 4, 5, 6, 7, 8, 12, 13, 14, 16, 17, 18, 19, 20, 21, 22, 23, 24, 25, 26, 27, 28, 29, 30, 31, 32, 33, 34, 35, 36, 37, 38, 39, 40, 41, 42, 43, 44, 45, 46, 47, 48, 49, 50, 51, 52, 53, 54, 55, 56, 57, 58, 59, 60, 61, 62, 63, 64, 65, 66, 67, 68, 69, 70, 71, 72, 73, 74, 75, 76, 77, 78, 79, 80, 81, 82, 83, 84, 85, 86, 87] rfl (by decide +kernel)
set_option maxRecDepth 20000 in
theorem gX12_tellsAs_X12_needsAs : GoodIn wsX12_tellsAs (wsV RX12 395 RX12 yX12_needsAs wsX12_needsAs) := goodIn_app (goodIn_of _ (by decide +kernel)) ggX12_tellsAs_X12_needsAs
set_option maxRecDepth 20000 in
theorem ggX12_tellsAs_X12_showsAs : GoodIn wsX12_tellsAs wsX12_showsAs := goodIn_r _ [19, 1, 20, 2, 3, 4, 5, 6, 7, 8, 16, 17, 18, 21, 22, 23, 24, 25, 26, 27, 28, 29, 30, 31, 32, 33, 34, 35, 36, 37, 38, 39, 40, 41, 42, 43, 44, 45, 46, 47, 48, 49, 50, 51, 52, 53, 54, 55, 56, 57, 58, 59, 60, 61, 62, 63, 64, 65, 66, 67, 68, 69, 70, 71, 72, 73, 74, 75, 76, 77, 78, 79, 80, 81, 82, 83, 84, 85, 86, 87] rfl (by decide +kernel)
set_option maxRecDepth 20000 in
theorem gX12_tellsAs_X12_showsAs : GoodIn wsX12_tellsAs (wsV RX12 401 RX12 yX12_showsAs wsX12_showsAs) := goodIn_app (goodIn_of _ (by decide +kernel)) ggX12_tellsAs_X12_showsAs
theorem dX12_tellsAs_0 : decode cX12_tellsAs 0 = .ok (.iload_n 1, 1) := by decide +kernel
theorem dX12_tellsAs_1 : decode cX12_tellsAs 1 = .ok (.iconst 4, 1) := by decide +kernel
theorem dX12_tellsAs_2 : decode cX12_tellsAs 2 = .ok (.if_icmp .ne 18, 3) := by decide +kernel
theorem dX12_tellsAs_5 : decode cX12_tellsAs 5 = .ok (.aload_n 0, 1) := by decide +kernel
theorem dX12_tellsAs_6 : decode cX12_tellsAs 6 = .ok (.bipush 50, 2) := by decide +kernel
theorem dX12_tellsAs_8 : decode cX12_tellsAs 8 = .ok (.invokevirtual 385, 3) := by decide +kernel
theorem dX12_tellsAs_11 : decode cX12_tellsAs 11 = .ok (.aload_n 0, 1) := by decide +kernel
theorem dX12_tellsAs_12 : decode cX12_tellsAs 12 = .ok (.iconst 2, 1) := by decide +kernel
theorem dX12_tellsAs_13 : decode cX12_tellsAs 13 = .ok (.iload_n 2, 1) := by decide +kernel
theorem dX12_tellsAs_14 : decode cX12_tellsAs 14 = .ok (.invokevirtual 404, 3) := by decide +kernel
theorem dX12_tellsAs_17 : decode cX12_tellsAs 17 = .ok (.iconst 5, 1) := by decide +kernel
theorem dX12_tellsAs_18 : decode cX12_tellsAs 18 = .ok (.ixor, 1) := by decide +kernel
theorem dX12_tellsAs_19 : decode cX12_tellsAs 19 = .ok (.ireturn, 1) := by decide +kernel
theorem dX12_tellsAs_20 : decode cX12_tellsAs 20 = .ok (.iload_n 1, 1) := by decide +kernel
theorem dX12_tellsAs_21 : decode cX12_tellsAs 21 = .ok (.bipush 7, 2) := by decide +kernel
theorem dX12_tellsAs_23 : decode cX12_tellsAs 23 = .ok (.if_icmp .ne 19, 3) := by decide +kernel
theorem dX12_tellsAs_26 : decode cX12_tellsAs 26 = .ok (.aload_n 0, 1) := by decide +kernel
theorem dX12_tellsAs_27 : decode cX12_tellsAs 27 = .ok (.bipush 81, 2) := by decide +kernel
theorem dX12_tellsAs_29 : decode cX12_tellsAs 29 = .ok (.invokevirtual 385, 3) := by decide +kernel
theorem dX12_tellsAs_32 : decode cX12_tellsAs 32 = .ok (.aload_n 0, 1) := by decide +kernel
theorem dX12_tellsAs_33 : decode cX12_tellsAs 33 = .ok (.bipush 6, 2) := by decide +kernel
theorem dX12_tellsAs_35 : decode cX12_tellsAs 35 = .ok (.iload_n 2, 1) := by decide +kernel
theorem dX12_tellsAs_36 : decode cX12_tellsAs 36 = .ok (.invokevirtual 404, 3) := by decide +kernel
theorem dX12_tellsAs_39 : decode cX12_tellsAs 39 = .ok (.iconst 1, 1) := by decide +kernel
theorem dX12_tellsAs_40 : decode cX12_tellsAs 40 = .ok (.isub, 1) := by decide +kernel
theorem dX12_tellsAs_41 : decode cX12_tellsAs 41 = .ok (.ireturn, 1) := by decide +kernel
theorem dX12_tellsAs_42 : decode cX12_tellsAs 42 = .ok (.aload_n 0, 1) := by decide +kernel
theorem dX12_tellsAs_43 : decode cX12_tellsAs 43 = .ok (.iconst 2, 1) := by decide +kernel
theorem dX12_tellsAs_44 : decode cX12_tellsAs 44 = .ok (.invokevirtual 385, 3) := by decide +kernel
theorem dX12_tellsAs_47 : decode cX12_tellsAs 47 = .ok (.aload_n 0, 1) := by decide +kernel
theorem dX12_tellsAs_48 : decode cX12_tellsAs 48 = .ok (.aload_n 0, 1) := by decide +kernel
theorem dX12_tellsAs_49 : decode cX12_tellsAs 49 = .ok (.getfield 398, 3) := by decide +kernel
theorem dX12_tellsAs_52 : decode cX12_tellsAs 52 = .ok (.iload_n 2, 1) := by decide +kernel
theorem dX12_tellsAs_53 : decode cX12_tellsAs 53 = .ok (.invokevirtual 395, 3) := by decide +kernel
theorem dX12_tellsAs_56 : decode cX12_tellsAs 56 = .ok (.istore_n 3, 1) := by decide +kernel
theorem dX12_tellsAs_57 : decode cX12_tellsAs 57 = .ok (.iload_n 3, 1) := by decide +kernel
theorem dX12_tellsAs_58 : decode cX12_tellsAs 58 = .ok (.aload_n 0, 1) := by decide +kernel
theorem dX12_tellsAs_59 : decode cX12_tellsAs 59 = .ok (.aload_n 0, 1) := by decide +kernel
theorem dX12_tellsAs_60 : decode cX12_tellsAs 60 = .ok (.getfield 398, 3) := by decide +kernel
theorem dX12_tellsAs_63 : decode cX12_tellsAs 63 = .ok (.iconst 1, 1) := by decide +kernel
theorem dX12_tellsAs_64 : decode cX12_tellsAs 64 = .ok (.invokevirtual 401, 3) := by decide +kernel
theorem dX12_tellsAs_67 : decode cX12_tellsAs 67 = .ok (.isub, 1) := by decide +kernel
theorem dX12_tellsAs_68 : decode cX12_tellsAs 68 = .ok (.ireturn, 1) := by decide +kernel
set_option maxRecDepth 20000 in
theorem ggX12_act_X12_isBody : GoodIn wsX12_act wsX12_isBody := goodIn_r _ [9, 10, 11, 12, 8, 13, 35, 36, 37, 38, 39, 40, 41, 42, 43, 44, 45, 46, 47, 48, 49, 50, 51, 52, 53, 54, 55, 56, 57, 58, 59, 60, 61, 62, 63, 64, 65, 66, 67, 68, 69, 70, 71, 72, 73, 74, 75, 76, 77, 78, 79, 80, 81, 82, 83, 84, 85, 86, 87, 88, 89, 90, 91, 92, 93, 94, 95, 96, 97] rfl (by decide +kernel)
set_option maxRecDepth 20000 in
theorem gX12_act_X12_isBody : GoodIn wsX12_act (wsV RX12 407 RX12 yX12_isBody wsX12_isBody) := goodIn_app (goodIn_of _ (by decide +kernel)) ggX12_act_X12_isBody
set_option maxRecDepth 20000 in
theorem ggX12_act_X12_liesAs : GoodIn wsX12_act wsX12_liesAs := goodIn_r _ [17, 4, 18, 19, 20, 8, 21, 1, 22, 14, 15, 16, 35, 36, 37, 38, 39, 40, 41, 42, 43, 44, 45, 46, 47, 48, 49, 50, 51, 52, 53, 54, 55, 56, 57, 58, 59, 60, 61, 62, 63, 64, 65, 66, 67, 68, 69, 70, 71, 72, 73, 74, 75, 76, 77, 78, 79, 80, 81, 82, 83, 84, 85, 86, 87, 88, 89, 90, 91, 92, 93, 94, 95, 96, 97] rfl (by decide +kernel)
set_option maxRecDepth 20000 in
theorem gX12_act_X12_liesAs : GoodIn wsX12_act (wsV RX12 389 RX12 yX12_liesAs wsX12_liesAs) := goodIn_app (goodIn_of _ (by decide +kernel)) ggX12_act_X12_liesAs
set_option maxRecDepth 20000 in
theorem ggX12_act_X12_needsAs : GoodIn wsX12_act wsX12_needsAs := goodIn_r _ [26, 3, 18, 19, 20, 8, 21, 1, 22, 23, 24, 25, 27, 28, 29, 30, 4, 14, 15, 16, 17, 35, 36, 37, 38, 39, 40, 41, 42, 43, 44, 45, 46, 47, 48, 49, 50, 51, 52, 53, 54, 55, 56, 57, 58, 59, 60, 61, 62, 63, 64, 65, 66, 67, 68, 69, 70, 71, 72, 73, 74, 75, 76, 77, 78, 79, 80, 81, 82, 83, 84, 85, 86, 87, 88, 89, 90, 91, 92, 93, 94, 95, 96, 97] rfl (by decide +kernel)
set_option maxRecDepth 20000 in
theorem gX12_act_X12_needsAs : GoodIn wsX12_act (wsV RX12 395 RX12 yX12_needsAs wsX12_needsAs) := goodIn_app (goodIn_of _ (by decide +kernel)) ggX12_act_X12_needsAs
set_option maxRecDepth 20000 in
theorem ggX12_act_X12_showsAs : GoodIn wsX12_act wsX12_showsAs := goodIn_r _ [30, 3, 4, 18, 19, 20, 8, 21, 1, 22, 27, 28, 29, 14, 15, 16, 17, 35, 36, 37, 38, 39, 40, 41, 42, 43, 44, 45, 46, 47, 48, 49, 50, 51, 52, 53, 54, 55, 56, 57, 58, 59, 60, 61, 62, 63, 64, 65, 66, 67, 68, 69, 70, 71, 72, 73, 74, 75, 76, 77, 78, 79, 80, 81, 82, 83, 84, 85, 86, 87, 88, 89, 90, 91, 92, 93, 94, 95, 96, 97] rfl (by decide +kernel)
set_option maxRecDepth 20000 in
theorem gX12_act_X12_showsAs : GoodIn wsX12_act (wsV RX12 401 RX12 yX12_showsAs wsX12_showsAs) := goodIn_app (goodIn_of _ (by decide +kernel)) ggX12_act_X12_showsAs
set_option maxRecDepth 20000 in
theorem ggX12_act_X12_tellsAs : GoodIn wsX12_act wsX12_tellsAs := goodIn_r _ [34, 3, 18, 19, 20, 8, 21, 1, 22, 31, 32, 33, 23, 24, 25, 26, 27, 28, 29, 30, 4, 14, 15, 16, 17, 35, 36, 37, 38, 39, 40, 41, 42, 43, 44, 45, 46, 47, 48, 49, 50, 51, 52, 53, 54, 55, 56, 57, 58, 59, 60, 61, 62, 63, 64, 65, 66, 67, 68, 69, 70, 71, 72, 73, 74, 75, 76, 77, 78, 79, 80, 81, 82, 83, 84, 85, 86, 87, 88, 89, 90, 91, 92, 93, 94, 95, 96, 97] rfl (by decide +kernel)
set_option maxRecDepth 20000 in
theorem gX12_act_X12_tellsAs : GoodIn wsX12_act (wsV RX12 404 RX12 yX12_tellsAs wsX12_tellsAs) := goodIn_app (goodIn_of _ (by decide +kernel)) ggX12_act_X12_tellsAs
theorem dX12_act_0 : decode cX12_act 0 = .ok (.aload_n 0, 1) := by decide +kernel
theorem dX12_act_1 : decode cX12_act 1 = .ok (.iconst 0, 1) := by decide +kernel
theorem dX12_act_2 : decode cX12_act 2 = .ok (.putfield 382, 3) := by decide +kernel
theorem dX12_act_5 : decode cX12_act 5 = .ok (.aload_n 0, 1) := by decide +kernel
theorem dX12_act_6 : decode cX12_act 6 = .ok (.iload_n 1, 1) := by decide +kernel
theorem dX12_act_7 : decode cX12_act 7 = .ok (.invokevirtual 407, 3) := by decide +kernel
theorem dX12_act_10 : decode cX12_act 10 = .ok (.ifCond .ne 5, 3) := by decide +kernel
theorem dX12_act_13 : decode cX12_act 13 = .ok (.iconst 0, 1) := by decide +kernel
theorem dX12_act_14 : decode cX12_act 14 = .ok (.ireturn, 1) := by decide +kernel
theorem dX12_act_15 : decode cX12_act 15 = .ok (.aload_n 0, 1) := by decide +kernel
theorem dX12_act_16 : decode cX12_act 16 = .ok (.aload_n 0, 1) := by decide +kernel
theorem dX12_act_17 : decode cX12_act 17 = .ok (.getfield 101, 3) := by decide +kernel
theorem dX12_act_20 : decode cX12_act 20 = .ok (.iload_n 1, 1) := by decide +kernel
theorem dX12_act_21 : decode cX12_act 21 = .ok (.iaload, 1) := by decide +kernel
theorem dX12_act_22 : decode cX12_act 22 = .ok (.putfield 398, 3) := by decide +kernel
theorem dX12_act_25 : decode cX12_act 25 = .ok (.aload_n 0, 1) := by decide +kernel
theorem dX12_act_26 : decode cX12_act 26 = .ok (.iload_n 1, 1) := by decide +kernel
theorem dX12_act_27 : decode cX12_act 27 = .ok (.putfield 392, 3) := by decide +kernel
theorem dX12_act_30 : decode cX12_act 30 = .ok (.iload_n 2, 1) := by decide +kernel
theorem dX12_act_31 : decode cX12_act 31 = .ok (.tableswitch 69 0 3 #[29, 39, 49, 59], 29) := by decide +kernel
theorem dX12_act_60 : decode cX12_act 60 = .ok (.aload_n 0, 1) := by decide +kernel
theorem dX12_act_61 : decode cX12_act 61 = .ok (.aload_n 0, 1) := by decide +kernel
theorem dX12_act_62 : decode cX12_act 62 = .ok (.getfield 398, 3) := by decide +kernel
theorem dX12_act_65 : decode cX12_act 65 = .ok (.iload_n 3, 1) := by decide +kernel
theorem dX12_act_66 : decode cX12_act 66 = .ok (.invokevirtual 389, 3) := by decide +kernel
theorem dX12_act_69 : decode cX12_act 69 = .ok (.ireturn, 1) := by decide +kernel
theorem dX12_act_70 : decode cX12_act 70 = .ok (.aload_n 0, 1) := by decide +kernel
theorem dX12_act_71 : decode cX12_act 71 = .ok (.aload_n 0, 1) := by decide +kernel
theorem dX12_act_72 : decode cX12_act 72 = .ok (.getfield 398, 3) := by decide +kernel
theorem dX12_act_75 : decode cX12_act 75 = .ok (.iload_n 3, 1) := by decide +kernel
theorem dX12_act_76 : decode cX12_act 76 = .ok (.invokevirtual 395, 3) := by decide +kernel
theorem dX12_act_79 : decode cX12_act 79 = .ok (.ireturn, 1) := by decide +kernel
theorem dX12_act_80 : decode cX12_act 80 = .ok (.aload_n 0, 1) := by decide +kernel
theorem dX12_act_81 : decode cX12_act 81 = .ok (.aload_n 0, 1) := by decide +kernel
theorem dX12_act_82 : decode cX12_act 82 = .ok (.getfield 398, 3) := by decide +kernel
theorem dX12_act_85 : decode cX12_act 85 = .ok (.iload_n 3, 1) := by decide +kernel
theorem dX12_act_86 : decode cX12_act 86 = .ok (.invokevirtual 401, 3) := by decide +kernel
theorem dX12_act_89 : decode cX12_act 89 = .ok (.ireturn, 1) := by decide +kernel
theorem dX12_act_90 : decode cX12_act 90 = .ok (.aload_n 0, 1) := by decide +kernel
theorem dX12_act_91 : decode cX12_act 91 = .ok (.aload_n 0, 1) := by decide +kernel
theorem dX12_act_92 : decode cX12_act 92 = .ok (.getfield 398, 3) := by decide +kernel
theorem dX12_act_95 : decode cX12_act 95 = .ok (.iload_n 3, 1) := by decide +kernel
theorem dX12_act_96 : decode cX12_act 96 = .ok (.invokevirtual 404, 3) := by decide +kernel
theorem dX12_act_99 : decode cX12_act 99 = .ok (.ireturn, 1) := by decide +kernel
theorem dX12_act_100 : decode cX12_act 100 = .ok (.iconst 0, 1) := by decide +kernel
theorem dX12_act_101 : decode cX12_act 101 = .ok (.ireturn, 1) := by decide +kernel
theorem dX12_trace_0 : decode cX12_trace 0 = .ok (.iload_n 1, 1) := by decide +kernel
theorem dX12_trace_1 : decode cX12_trace 1 = .ok (.ifCond .lt 26, 3) := by decide +kernel
theorem dX12_trace_4 : decode cX12_trace 4 = .ok (.iload_n 1, 1) := by decide +kernel
theorem dX12_trace_5 : decode cX12_trace 5 = .ok (.aload_n 0, 1) := by decide +kernel
theorem dX12_trace_6 : decode cX12_trace 6 = .ok (.getfield 382, 3) := by decide +kernel
theorem dX12_trace_9 : decode cX12_trace 9 = .ok (.if_icmp .ge 18, 3) := by decide +kernel
theorem dX12_trace_12 : decode cX12_trace 12 = .ok (.iload_n 1, 1) := by decide +kernel
theorem dX12_trace_13 : decode cX12_trace 13 = .ok (.bipush 24, 2) := by decide +kernel
theorem dX12_trace_15 : decode cX12_trace 15 = .ok (.if_icmp .ge 12, 3) := by decide +kernel
theorem dX12_trace_18 : decode cX12_trace 18 = .ok (.aload_n 0, 1) := by decide +kernel
theorem dX12_trace_19 : decode cX12_trace 19 = .ok (.getfield 104, 3) := by decide +kernel
theorem dX12_trace_22 : decode cX12_trace 22 = .ok (.iload_n 1, 1) := by decide +kernel
theorem dX12_trace_23 : decode cX12_trace 23 = .ok (.iaload, 1) := by decide +kernel
theorem dX12_trace_24 : decode cX12_trace 24 = .ok (.goto 4, 3) := by decide +kernel
theorem dX12_trace_27 : decode cX12_trace 27 = .ok (.iconst (-1), 1) := by decide +kernel
theorem dX12_trace_28 : decode cX12_trace 28 = .ok (.ireturn, 1) := by decide +kernel
set_option maxRecDepth 20000 in
theorem ggX12_isShelf_X12_within : GoodIn wsX12_isShelf wsX12_within := goodIn_r _ [5] rfl (by decide +kernel)
set_option maxRecDepth 20000 in
theorem gX12_isShelf_X12_within : GoodIn wsX12_isShelf (va_wsS RX12 136 yX12_within wsX12_within) := goodIn_app (goodIn_of _ (by decide +kernel)) ggX12_isShelf_X12_within
theorem dX12_isShelf_0 : decode cX12_isShelf 0 = .ok (.iload_n 0, 1) := by decide +kernel
theorem dX12_isShelf_1 : decode cX12_isShelf 1 = .ok (.i2l, 1) := by decide +kernel
theorem dX12_isShelf_2 : decode cX12_isShelf 2 = .ok (.lconst 0, 1) := by decide +kernel
theorem dX12_isShelf_3 : decode cX12_isShelf 3 = .ok (.ldc2_w 195, 3) := by decide +kernel
theorem dX12_isShelf_6 : decode cX12_isShelf 6 = .ok (.invokestatic 136, 3) := by decide +kernel
theorem dX12_isShelf_9 : decode cX12_isShelf 9 = .ok (.ireturn, 1) := by decide +kernel
set_option maxRecDepth 20000 in
theorem ggX12_keep_X12_isShelf : GoodIn wsX12_keep wsX12_isShelf := goodIn_r _ [6, 7, 8, 9, 5, 10] rfl (by decide +kernel)
set_option maxRecDepth 20000 in
theorem gX12_keep_X12_isShelf : GoodIn wsX12_keep (va_wsS RX12 238 yX12_isShelf wsX12_isShelf) := goodIn_app (goodIn_of _ (by decide +kernel)) ggX12_keep_X12_isShelf
set_option maxRecDepth 20000 in
theorem ggX12_keep_X12_isBody : GoodIn wsX12_keep wsX12_isBody := goodIn_r _ [14, 15, 8, 9, 5, 10, 16, 17, 18, 19, 20, 21, 22, 23, 24, 25, 26, 27, 28, 29, 30, 31, 32, 33, 34, 35, 36, 37, 38, 39, 40, 41, 42, 43, 44, 45, 46, 47, 48, 49, 50, 51, 52, 53, 54, 55, 56, 57, 58, 59, 60, 61, 62, 63, 64, 65, 66, 67, 68, 69, 70, 71, 72, 73, 74, 75, 76, 77, 78] rfl (by decide +kernel)
set_option maxRecDepth 20000 in
theorem gX12_keep_X12_isBody : GoodIn wsX12_keep (wsV RX12 407 RX12 yX12_isBody wsX12_isBody) := goodIn_app (goodIn_of _ (by decide +kernel)) ggX12_keep_X12_isBody
theorem dX12_keep_0 : decode cX12_keep 0 = .ok (.iload_n 1, 1) := by decide +kernel
theorem dX12_keep_1 : decode cX12_keep 1 = .ok (.invokestatic 238, 3) := by decide +kernel
theorem dX12_keep_4 : decode cX12_keep 4 = .ok (.ifCond .eq 16, 3) := by decide +kernel
theorem dX12_keep_7 : decode cX12_keep 7 = .ok (.iload_n 2, 1) := by decide +kernel
theorem dX12_keep_8 : decode cX12_keep 8 = .ok (.iconst (-1), 1) := by decide +kernel
theorem dX12_keep_9 : decode cX12_keep 9 = .ok (.if_icmp .eq 13, 3) := by decide +kernel
theorem dX12_keep_12 : decode cX12_keep 12 = .ok (.aload_n 0, 1) := by decide +kernel
theorem dX12_keep_13 : decode cX12_keep 13 = .ok (.iload_n 2, 1) := by decide +kernel
theorem dX12_keep_14 : decode cX12_keep 14 = .ok (.invokevirtual 407, 3) := by decide +kernel
theorem dX12_keep_17 : decode cX12_keep 17 = .ok (.ifCond .ne 5, 3) := by decide +kernel
theorem dX12_keep_20 : decode cX12_keep 20 = .ok (.iconst (-1), 1) := by decide +kernel
theorem dX12_keep_21 : decode cX12_keep 21 = .ok (.ireturn, 1) := by decide +kernel
theorem dX12_keep_22 : decode cX12_keep 22 = .ok (.aload_n 0, 1) := by decide +kernel
theorem dX12_keep_23 : decode cX12_keep 23 = .ok (.getfield 107, 3) := by decide +kernel
theorem dX12_keep_26 : decode cX12_keep 26 = .ok (.iload_n 1, 1) := by decide +kernel
theorem dX12_keep_27 : decode cX12_keep 27 = .ok (.iload_n 2, 1) := by decide +kernel
theorem dX12_keep_28 : decode cX12_keep 28 = .ok (.iastore, 1) := by decide +kernel
theorem dX12_keep_29 : decode cX12_keep 29 = .ok (.aload_n 0, 1) := by decide +kernel
theorem dX12_keep_30 : decode cX12_keep 30 = .ok (.getfield 110, 3) := by decide +kernel
theorem dX12_keep_33 : decode cX12_keep 33 = .ok (.iload_n 1, 1) := by decide +kernel
theorem dX12_keep_34 : decode cX12_keep 34 = .ok (.iconst 0, 1) := by decide +kernel
theorem dX12_keep_35 : decode cX12_keep 35 = .ok (.iastore, 1) := by decide +kernel
theorem dX12_keep_36 : decode cX12_keep 36 = .ok (.iconst 1, 1) := by decide +kernel
theorem dX12_keep_37 : decode cX12_keep 37 = .ok (.ireturn, 1) := by decide +kernel
set_option maxRecDepth 20000 in
theorem ggX12_row_X12_isShelf : GoodIn wsX12_row wsX12_isShelf := goodIn_r _ [8, 9, 10, 11, 7, 12] rfl (by decide +kernel)
set_option maxRecDepth 20000 in
theorem gX12_row_X12_isShelf : GoodIn wsX12_row (va_wsS RX12 238 yX12_isShelf wsX12_isShelf) := goodIn_app (goodIn_of _ (by decide +kernel)) ggX12_row_X12_isShelf
set_option maxRecDepth 20000 in
theorem ggX12_row_X12_within : GoodIn wsX12_row wsX12_within := goodIn_r _ [12] rfl (by decide +kernel)
set_option maxRecDepth 20000 in
theorem gX12_row_X12_within : GoodIn wsX12_row (va_wsS RX12 136 yX12_within wsX12_within) := goodIn_app (goodIn_of _ (by decide +kernel)) ggX12_row_X12_within
theorem dX12_row_0 : decode cX12_row 0 = .ok (.iload_n 1, 1) := by decide +kernel
theorem dX12_row_1 : decode cX12_row 1 = .ok (.invokestatic 238, 3) := by decide +kernel
theorem dX12_row_4 : decode cX12_row 4 = .ok (.ifCond .eq 21, 3) := by decide +kernel
theorem dX12_row_7 : decode cX12_row 7 = .ok (.iload_n 2, 1) := by decide +kernel
theorem dX12_row_8 : decode cX12_row 8 = .ok (.i2l, 1) := by decide +kernel
theorem dX12_row_9 : decode cX12_row 9 = .ok (.lconst 0, 1) := by decide +kernel
theorem dX12_row_10 : decode cX12_row 10 = .ok (.ldc2_w 221, 3) := by decide +kernel
theorem dX12_row_13 : decode cX12_row 13 = .ok (.invokestatic 136, 3) := by decide +kernel
theorem dX12_row_16 : decode cX12_row 16 = .ok (.ifCond .eq 9, 3) := by decide +kernel
theorem dX12_row_19 : decode cX12_row 19 = .ok (.iload_n 3, 1) := by decide +kernel
theorem dX12_row_20 : decode cX12_row 20 = .ok (.bipush 60, 2) := by decide +kernel
theorem dX12_row_22 : decode cX12_row 22 = .ok (.if_icmp .le 5, 3) := by decide +kernel
theorem dX12_row_25 : decode cX12_row 25 = .ok (.iconst (-1), 1) := by decide +kernel
theorem dX12_row_26 : decode cX12_row 26 = .ok (.ireturn, 1) := by decide +kernel
theorem dX12_row_27 : decode cX12_row 27 = .ok (.iload_n 3, 1) := by decide +kernel
theorem dX12_row_28 : decode cX12_row 28 = .ok (.ifCond .ge 6, 3) := by decide +kernel
theorem dX12_row_31 : decode cX12_row 31 = .ok (.bipush (-14), 2) := by decide +kernel
theorem dX12_row_33 : decode cX12_row 33 = .ok (.ireturn, 1) := by decide +kernel
theorem dX12_row_34 : decode cX12_row 34 = .ok (.aload_n 0, 1) := by decide +kernel
theorem dX12_row_35 : decode cX12_row 35 = .ok (.getfield 107, 3) := by decide +kernel
theorem dX12_row_38 : decode cX12_row 38 = .ok (.iload_n 1, 1) := by decide +kernel
theorem dX12_row_39 : decode cX12_row 39 = .ok (.bipush 50, 2) := by decide +kernel
theorem dX12_row_41 : decode cX12_row 41 = .ok (.iload_n 2, 1) := by decide +kernel
theorem dX12_row_42 : decode cX12_row 42 = .ok (.iadd, 1) := by decide +kernel
theorem dX12_row_43 : decode cX12_row 43 = .ok (.iastore, 1) := by decide +kernel
theorem dX12_row_44 : decode cX12_row 44 = .ok (.aload_n 0, 1) := by decide +kernel
theorem dX12_row_45 : decode cX12_row 45 = .ok (.getfield 110, 3) := by decide +kernel
theorem dX12_row_48 : decode cX12_row 48 = .ok (.iload_n 1, 1) := by decide +kernel
theorem dX12_row_49 : decode cX12_row 49 = .ok (.iload_n 3, 1) := by decide +kernel
theorem dX12_row_50 : decode cX12_row 50 = .ok (.iastore, 1) := by decide +kernel
theorem dX12_row_51 : decode cX12_row 51 = .ok (.bipush 60, 2) := by decide +kernel
theorem dX12_row_53 : decode cX12_row 53 = .ok (.iload_n 1, 1) := by decide +kernel
theorem dX12_row_54 : decode cX12_row 54 = .ok (.imul, 1) := by decide +kernel
theorem dX12_row_55 : decode cX12_row 55 = .ok (.istore 4, 2) := by decide +kernel
theorem dX12_row_57 : decode cX12_row 57 = .ok (.iload 4, 2) := by decide +kernel
theorem dX12_row_59 : decode cX12_row 59 = .ok (.bipush 60, 2) := by decide +kernel
theorem dX12_row_61 : decode cX12_row 61 = .ok (.iload_n 1, 1) := by decide +kernel
theorem dX12_row_62 : decode cX12_row 62 = .ok (.imul, 1) := by decide +kernel
theorem dX12_row_63 : decode cX12_row 63 = .ok (.bipush 60, 2) := by decide +kernel
theorem dX12_row_65 : decode cX12_row 65 = .ok (.iadd, 1) := by decide +kernel
theorem dX12_row_66 : decode cX12_row 66 = .ok (.if_icmp .ge 17, 3) := by decide +kernel
theorem dX12_row_69 : decode cX12_row 69 = .ok (.aload_n 0, 1) := by decide +kernel
theorem dX12_row_70 : decode cX12_row 70 = .ok (.getfield 113, 3) := by decide +kernel
theorem dX12_row_73 : decode cX12_row 73 = .ok (.iload 4, 2) := by decide +kernel
theorem dX12_row_75 : decode cX12_row 75 = .ok (.lconst 0, 1) := by decide +kernel
theorem dX12_row_76 : decode cX12_row 76 = .ok (.lastore, 1) := by decide +kernel
theorem dX12_row_77 : decode cX12_row 77 = .ok (.iinc 4 1, 3) := by decide +kernel
theorem dX12_row_80 : decode cX12_row 80 = .ok (.goto (-23), 3) := by decide +kernel
theorem dX12_row_83 : decode cX12_row 83 = .ok (.iconst 1, 1) := by decide +kernel
theorem dX12_row_84 : decode cX12_row 84 = .ok (.ireturn, 1) := by decide +kernel
set_option maxRecDepth 20000 in
theorem ggX12_refusal_X12_isShelf : GoodIn wsX12_refusal wsX12_isShelf := goodIn_r _ [6, 7, 8, 9, 5, 10] rfl (by decide +kernel)
set_option maxRecDepth 20000 in
theorem gX12_refusal_X12_isShelf : GoodIn wsX12_refusal (va_wsS RX12 238 yX12_isShelf wsX12_isShelf) := goodIn_app (goodIn_of _ (by decide +kernel)) ggX12_refusal_X12_isShelf
theorem dX12_refusal_0 : decode cX12_refusal 0 = .ok (.iload_n 1, 1) := by decide +kernel
theorem dX12_refusal_1 : decode cX12_refusal 1 = .ok (.invokestatic 238, 3) := by decide +kernel
theorem dX12_refusal_4 : decode cX12_refusal 4 = .ok (.ifCond .ne 5, 3) := by decide +kernel
theorem dX12_refusal_7 : decode cX12_refusal 7 = .ok (.iconst (-1), 1) := by decide +kernel
theorem dX12_refusal_8 : decode cX12_refusal 8 = .ok (.ireturn, 1) := by decide +kernel
theorem dX12_refusal_9 : decode cX12_refusal 9 = .ok (.aload_n 0, 1) := by decide +kernel
theorem dX12_refusal_10 : decode cX12_refusal 10 = .ok (.getfield 107, 3) := by decide +kernel
theorem dX12_refusal_13 : decode cX12_refusal 13 = .ok (.iload_n 1, 1) := by decide +kernel
theorem dX12_refusal_14 : decode cX12_refusal 14 = .ok (.iaload, 1) := by decide +kernel
theorem dX12_refusal_15 : decode cX12_refusal 15 = .ok (.ifCond .ge 6, 3) := by decide +kernel
theorem dX12_refusal_18 : decode cX12_refusal 18 = .ok (.bipush (-11), 2) := by decide +kernel
theorem dX12_refusal_20 : decode cX12_refusal 20 = .ok (.ireturn, 1) := by decide +kernel
theorem dX12_refusal_21 : decode cX12_refusal 21 = .ok (.aload_n 0, 1) := by decide +kernel
theorem dX12_refusal_22 : decode cX12_refusal 22 = .ok (.getfield 107, 3) := by decide +kernel
theorem dX12_refusal_25 : decode cX12_refusal 25 = .ok (.iload_n 1, 1) := by decide +kernel
theorem dX12_refusal_26 : decode cX12_refusal 26 = .ok (.iaload, 1) := by decide +kernel
theorem dX12_refusal_27 : decode cX12_refusal 27 = .ok (.bipush 50, 2) := by decide +kernel
theorem dX12_refusal_29 : decode cX12_refusal 29 = .ok (.if_icmp .ge 6, 3) := by decide +kernel
theorem dX12_refusal_32 : decode cX12_refusal 32 = .ok (.bipush (-12), 2) := by decide +kernel
theorem dX12_refusal_34 : decode cX12_refusal 34 = .ok (.ireturn, 1) := by decide +kernel
theorem dX12_refusal_35 : decode cX12_refusal 35 = .ok (.iload_n 2, 1) := by decide +kernel
theorem dX12_refusal_36 : decode cX12_refusal 36 = .ok (.ifCond .lt 17, 3) := by decide +kernel
theorem dX12_refusal_39 : decode cX12_refusal 39 = .ok (.iload_n 2, 1) := by decide +kernel
theorem dX12_refusal_40 : decode cX12_refusal 40 = .ok (.aload_n 0, 1) := by decide +kernel
theorem dX12_refusal_41 : decode cX12_refusal 41 = .ok (.getfield 110, 3) := by decide +kernel
theorem dX12_refusal_44 : decode cX12_refusal 44 = .ok (.iload_n 1, 1) := by decide +kernel
theorem dX12_refusal_45 : decode cX12_refusal 45 = .ok (.iaload, 1) := by decide +kernel
theorem dX12_refusal_46 : decode cX12_refusal 46 = .ok (.if_icmp .ge 7, 3) := by decide +kernel
theorem dX12_refusal_49 : decode cX12_refusal 49 = .ok (.iconst 0, 1) := by decide +kernel
theorem dX12_refusal_50 : decode cX12_refusal 50 = .ok (.goto 5, 3) := by decide +kernel
theorem dX12_refusal_53 : decode cX12_refusal 53 = .ok (.bipush (-13), 2) := by decide +kernel
theorem dX12_refusal_55 : decode cX12_refusal 55 = .ok (.ireturn, 1) := by decide +kernel
theorem dX12_asSort_0 : decode cX12_asSort 0 = .ok (.iload_n 0, 1) := by decide +kernel
theorem dX12_asSort_1 : decode cX12_asSort 1 = .ok (.ifCond .ne 10, 3) := by decide +kernel
theorem dX12_asSort_4 : decode cX12_asSort 4 = .ok (.lload_n 1, 1) := by decide +kernel
theorem dX12_asSort_5 : decode cX12_asSort 5 = .ok (.l2i, 1) := by decide +kernel
theorem dX12_asSort_6 : decode cX12_asSort 6 = .ok (.i2b, 1) := by decide +kernel
theorem dX12_asSort_7 : decode cX12_asSort 7 = .ok (.i2l, 1) := by decide +kernel
theorem dX12_asSort_8 : decode cX12_asSort 8 = .ok (.goto 46, 3) := by decide +kernel
theorem dX12_asSort_11 : decode cX12_asSort 11 = .ok (.iload_n 0, 1) := by decide +kernel
theorem dX12_asSort_12 : decode cX12_asSort 12 = .ok (.iconst 1, 1) := by decide +kernel
theorem dX12_asSort_13 : decode cX12_asSort 13 = .ok (.if_icmp .ne 10, 3) := by decide +kernel
theorem dX12_asSort_16 : decode cX12_asSort 16 = .ok (.lload_n 1, 1) := by decide +kernel
theorem dX12_asSort_17 : decode cX12_asSort 17 = .ok (.l2i, 1) := by decide +kernel
theorem dX12_asSort_18 : decode cX12_asSort 18 = .ok (.i2s, 1) := by decide +kernel
theorem dX12_asSort_19 : decode cX12_asSort 19 = .ok (.i2l, 1) := by decide +kernel
theorem dX12_asSort_20 : decode cX12_asSort 20 = .ok (.goto 34, 3) := by decide +kernel
theorem dX12_asSort_23 : decode cX12_asSort 23 = .ok (.iload_n 0, 1) := by decide +kernel
theorem dX12_asSort_24 : decode cX12_asSort 24 = .ok (.iconst 2, 1) := by decide +kernel
theorem dX12_asSort_25 : decode cX12_asSort 25 = .ok (.if_icmp .ne 9, 3) := by decide +kernel
theorem dX12_asSort_28 : decode cX12_asSort 28 = .ok (.lload_n 1, 1) := by decide +kernel
theorem dX12_asSort_29 : decode cX12_asSort 29 = .ok (.l2i, 1) := by decide +kernel
theorem dX12_asSort_30 : decode cX12_asSort 30 = .ok (.i2l, 1) := by decide +kernel
theorem dX12_asSort_31 : decode cX12_asSort 31 = .ok (.goto 23, 3) := by decide +kernel
theorem dX12_asSort_34 : decode cX12_asSort 34 = .ok (.iload_n 0, 1) := by decide +kernel
theorem dX12_asSort_35 : decode cX12_asSort 35 = .ok (.iconst 4, 1) := by decide +kernel
theorem dX12_asSort_36 : decode cX12_asSort 36 = .ok (.if_icmp .ne 17, 3) := by decide +kernel
theorem dX12_asSort_39 : decode cX12_asSort 39 = .ok (.lload_n 1, 1) := by decide +kernel
theorem dX12_asSort_40 : decode cX12_asSort 40 = .ok (.lconst 0, 1) := by decide +kernel
theorem dX12_asSort_41 : decode cX12_asSort 41 = .ok (.lcmp, 1) := by decide +kernel
theorem dX12_asSort_42 : decode cX12_asSort 42 = .ok (.ifCond .eq 7, 3) := by decide +kernel
theorem dX12_asSort_45 : decode cX12_asSort 45 = .ok (.lconst 1, 1) := by decide +kernel
theorem dX12_asSort_46 : decode cX12_asSort 46 = .ok (.goto 8, 3) := by decide +kernel
theorem dX12_asSort_49 : decode cX12_asSort 49 = .ok (.lconst 0, 1) := by decide +kernel
theorem dX12_asSort_50 : decode cX12_asSort 50 = .ok (.goto 4, 3) := by decide +kernel
theorem dX12_asSort_53 : decode cX12_asSort 53 = .ok (.lload_n 1, 1) := by decide +kernel
theorem dX12_asSort_54 : decode cX12_asSort 54 = .ok (.lreturn, 1) := by decide +kernel
set_option maxRecDepth 20000 in
theorem ggX12_put_X12_refusal : GoodIn wsX12_put wsX12_refusal := goodIn_r _ [7, 2, 8, 9, 10, 6, 11, 12, 13, 14, 15, 19, 20, 21, 22, 23, 24, 25, 26, 27, 28, 29, 30, 31, 32, 33, 34, 35, 36, 37, 38, 39, 40, 41, 42, 43, 44, 45, 46, 47, 48, 49, 50, 51, 52, 53, 54, 55, 56, 57, 58, 59, 60, 61, 62, 63, 64, 65, 66, 67, 68, 69, 70, 71, 72, 73, 74, 75, 76, 77, 78, 79, 80, 81] rfl (by decide +kernel)
set_option maxRecDepth 20000 in
theorem gX12_put_X12_refusal : GoodIn wsX12_put (wsV RX12 410 RX12 yX12_refusal wsX12_refusal) := goodIn_app (goodIn_of _ (by decide +kernel)) ggX12_put_X12_refusal
set_option maxRecDepth 20000 in
theorem ggX12_put_X12_asSort : GoodIn wsX12_put wsX12_asSort := goodIn_r _ [18] rfl (by decide +kernel)
set_option maxRecDepth 20000 in
theorem gX12_put_X12_asSort : GoodIn wsX12_put (va_wsS RX12 413 yX12_asSort wsX12_asSort) := goodIn_app (goodIn_of _ (by decide +kernel)) ggX12_put_X12_asSort
theorem dX12_put_0 : decode cX12_put 0 = .ok (.aload_n 0, 1) := by decide +kernel
theorem dX12_put_1 : decode cX12_put 1 = .ok (.iload_n 1, 1) := by decide +kernel
theorem dX12_put_2 : decode cX12_put 2 = .ok (.iload_n 2, 1) := by decide +kernel
theorem dX12_put_3 : decode cX12_put 3 = .ok (.invokevirtual 410, 3) := by decide +kernel
theorem dX12_put_6 : decode cX12_put 6 = .ok (.istore 5, 2) := by decide +kernel
theorem dX12_put_8 : decode cX12_put 8 = .ok (.iload 5, 2) := by decide +kernel
theorem dX12_put_10 : decode cX12_put 10 = .ok (.ifCond .ne 27, 3) := by decide +kernel
theorem dX12_put_13 : decode cX12_put 13 = .ok (.aload_n 0, 1) := by decide +kernel
theorem dX12_put_14 : decode cX12_put 14 = .ok (.getfield 113, 3) := by decide +kernel
theorem dX12_put_17 : decode cX12_put 17 = .ok (.bipush 60, 2) := by decide +kernel
theorem dX12_put_19 : decode cX12_put 19 = .ok (.iload_n 1, 1) := by decide +kernel
theorem dX12_put_20 : decode cX12_put 20 = .ok (.imul, 1) := by decide +kernel
theorem dX12_put_21 : decode cX12_put 21 = .ok (.iload_n 2, 1) := by decide +kernel
theorem dX12_put_22 : decode cX12_put 22 = .ok (.iadd, 1) := by decide +kernel
theorem dX12_put_23 : decode cX12_put 23 = .ok (.aload_n 0, 1) := by decide +kernel
theorem dX12_put_24 : decode cX12_put 24 = .ok (.getfield 107, 3) := by decide +kernel
theorem dX12_put_27 : decode cX12_put 27 = .ok (.iload_n 1, 1) := by decide +kernel
theorem dX12_put_28 : decode cX12_put 28 = .ok (.iaload, 1) := by decide +kernel
theorem dX12_put_29 : decode cX12_put 29 = .ok (.bipush 50, 2) := by decide +kernel
theorem dX12_put_31 : decode cX12_put 31 = .ok (.isub, 1) := by decide +kernel
theorem dX12_put_32 : decode cX12_put 32 = .ok (.lload_n 3, 1) := by decide +kernel
theorem dX12_put_33 : decode cX12_put 33 = .ok (.invokestatic 413, 3) := by decide +kernel
theorem dX12_put_36 : decode cX12_put 36 = .ok (.lastore, 1) := by decide +kernel
theorem dX12_put_37 : decode cX12_put 37 = .ok (.iload 5, 2) := by decide +kernel
theorem dX12_put_39 : decode cX12_put 39 = .ok (.ifCond .ne 7, 3) := by decide +kernel
theorem dX12_put_42 : decode cX12_put 42 = .ok (.iconst 1, 1) := by decide +kernel
theorem dX12_put_43 : decode cX12_put 43 = .ok (.goto 5, 3) := by decide +kernel
theorem dX12_put_46 : decode cX12_put 46 = .ok (.iload 5, 2) := by decide +kernel
theorem dX12_put_48 : decode cX12_put 48 = .ok (.ireturn, 1) := by decide +kernel
set_option maxRecDepth 20000 in
theorem ggX12_element_X12_refusal : GoodIn wsX12_element wsX12_refusal := goodIn_r _ [7, 8, 9, 10, 11, 6, 12, 13, 14, 15, 16, 17, 18, 19, 20, 21, 22, 23, 24, 25, 26, 27, 28, 29, 30, 31, 32, 33, 34, 35, 36, 37, 38, 39, 40, 41, 42, 43, 44, 45, 46, 47, 48, 49, 50, 51, 52, 53, 54, 55, 56, 57, 58, 59, 60, 61, 62, 63, 64, 65, 66, 67, 68, 69, 70, 71, 72, 73, 74, 75, 76, 77, 78, 79] rfl (by decide +kernel)
set_option maxRecDepth 20000 in
theorem gX12_element_X12_refusal : GoodIn wsX12_element (wsV RX12 410 RX12 yX12_refusal wsX12_refusal) := goodIn_app (goodIn_of _ (by decide +kernel)) ggX12_element_X12_refusal
theorem dX12_element_0 : decode cX12_element 0 = .ok (.aload_n 0, 1) := by decide +kernel
theorem dX12_element_1 : decode cX12_element 1 = .ok (.iload_n 1, 1) := by decide +kernel
theorem dX12_element_2 : decode cX12_element 2 = .ok (.iload_n 2, 1) := by decide +kernel
theorem dX12_element_3 : decode cX12_element 3 = .ok (.invokevirtual 410, 3) := by decide +kernel
theorem dX12_element_6 : decode cX12_element 6 = .ok (.ifCond .eq 9, 3) := by decide +kernel
theorem dX12_element_9 : decode cX12_element 9 = .ok (.ldc2_w 419, 3) := by decide +kernel
theorem dX12_element_12 : decode cX12_element 12 = .ok (.goto 14, 3) := by decide +kernel
theorem dX12_element_15 : decode cX12_element 15 = .ok (.aload_n 0, 1) := by decide +kernel
theorem dX12_element_16 : decode cX12_element 16 = .ok (.getfield 113, 3) := by decide +kernel
theorem dX12_element_19 : decode cX12_element 19 = .ok (.bipush 60, 2) := by decide +kernel
theorem dX12_element_21 : decode cX12_element 21 = .ok (.iload_n 1, 1) := by decide +kernel
theorem dX12_element_22 : decode cX12_element 22 = .ok (.imul, 1) := by decide +kernel
theorem dX12_element_23 : decode cX12_element 23 = .ok (.iload_n 2, 1) := by decide +kernel
theorem dX12_element_24 : decode cX12_element 24 = .ok (.iadd, 1) := by decide +kernel
theorem dX12_element_25 : decode cX12_element 25 = .ok (.laload, 1) := by decide +kernel
theorem dX12_element_26 : decode cX12_element 26 = .ok (.lreturn, 1) := by decide +kernel
set_option maxRecDepth 20000 in
theorem ggX12_shift_X12_isShelf : GoodIn wsX12_shift wsX12_isShelf := goodIn_r _ [8, 9, 10, 11, 7, 12] rfl (by decide +kernel)
set_option maxRecDepth 20000 in
theorem gX12_shift_X12_isShelf : GoodIn wsX12_shift (va_wsS RX12 238 yX12_isShelf wsX12_isShelf) := goodIn_app (goodIn_of _ (by decide +kernel)) ggX12_shift_X12_isShelf
theorem dX12_shift_0 : decode cX12_shift 0 = .ok (.iload_n 1, 1) := by decide +kernel
theorem dX12_shift_1 : decode cX12_shift 1 = .ok (.invokestatic 238, 3) := by decide +kernel
theorem dX12_shift_4 : decode cX12_shift 4 = .ok (.ifCond .eq 10, 3) := by decide +kernel
theorem dX12_shift_7 : decode cX12_shift 7 = .ok (.iload_n 3, 1) := by decide +kernel
theorem dX12_shift_8 : decode cX12_shift 8 = .ok (.invokestatic 238, 3) := by decide +kernel
theorem dX12_shift_11 : decode cX12_shift 11 = .ok (.ifCond .ne 5, 3) := by decide +kernel
theorem dX12_shift_14 : decode cX12_shift 14 = .ok (.iconst (-1), 1) := by decide +kernel
theorem dX12_shift_15 : decode cX12_shift 15 = .ok (.ireturn, 1) := by decide +kernel
theorem dX12_shift_16 : decode cX12_shift 16 = .ok (.aload_n 0, 1) := by decide +kernel
theorem dX12_shift_17 : decode cX12_shift 17 = .ok (.getfield 107, 3) := by decide +kernel
theorem dX12_shift_20 : decode cX12_shift 20 = .ok (.iload_n 1, 1) := by decide +kernel
theorem dX12_shift_21 : decode cX12_shift 21 = .ok (.iaload, 1) := by decide +kernel
theorem dX12_shift_22 : decode cX12_shift 22 = .ok (.ifCond .lt 12, 3) := by decide +kernel
theorem dX12_shift_25 : decode cX12_shift 25 = .ok (.aload_n 0, 1) := by decide +kernel
theorem dX12_shift_26 : decode cX12_shift 26 = .ok (.getfield 107, 3) := by decide +kernel
theorem dX12_shift_29 : decode cX12_shift 29 = .ok (.iload_n 3, 1) := by decide +kernel
theorem dX12_shift_30 : decode cX12_shift 30 = .ok (.iaload, 1) := by decide +kernel
theorem dX12_shift_31 : decode cX12_shift 31 = .ok (.ifCond .ge 6, 3) := by decide +kernel
theorem dX12_shift_34 : decode cX12_shift 34 = .ok (.bipush (-11), 2) := by decide +kernel
theorem dX12_shift_36 : decode cX12_shift 36 = .ok (.ireturn, 1) := by decide +kernel
theorem dX12_shift_37 : decode cX12_shift 37 = .ok (.aload_n 0, 1) := by decide +kernel
theorem dX12_shift_38 : decode cX12_shift 38 = .ok (.getfield 107, 3) := by decide +kernel
theorem dX12_shift_41 : decode cX12_shift 41 = .ok (.iload_n 1, 1) := by decide +kernel
theorem dX12_shift_42 : decode cX12_shift 42 = .ok (.iaload, 1) := by decide +kernel
theorem dX12_shift_43 : decode cX12_shift 43 = .ok (.bipush 50, 2) := by decide +kernel
theorem dX12_shift_45 : decode cX12_shift 45 = .ok (.if_icmp .lt 18, 3) := by decide +kernel
theorem dX12_shift_48 : decode cX12_shift 48 = .ok (.aload_n 0, 1) := by decide +kernel
theorem dX12_shift_49 : decode cX12_shift 49 = .ok (.getfield 107, 3) := by decide +kernel
theorem dX12_shift_52 : decode cX12_shift 52 = .ok (.iload_n 1, 1) := by decide +kernel
theorem dX12_shift_53 : decode cX12_shift 53 = .ok (.iaload, 1) := by decide +kernel
theorem dX12_shift_54 : decode cX12_shift 54 = .ok (.aload_n 0, 1) := by decide +kernel
theorem dX12_shift_55 : decode cX12_shift 55 = .ok (.getfield 107, 3) := by decide +kernel
theorem dX12_shift_58 : decode cX12_shift 58 = .ok (.iload_n 3, 1) := by decide +kernel
theorem dX12_shift_59 : decode cX12_shift 59 = .ok (.iaload, 1) := by decide +kernel
theorem dX12_shift_60 : decode cX12_shift 60 = .ok (.if_icmp .eq 6, 3) := by decide +kernel
theorem dX12_shift_63 : decode cX12_shift 63 = .ok (.bipush (-12), 2) := by decide +kernel
theorem dX12_shift_65 : decode cX12_shift 65 = .ok (.ireturn, 1) := by decide +kernel
theorem dX12_shift_66 : decode cX12_shift 66 = .ok (.iload 5, 2) := by decide +kernel
theorem dX12_shift_68 : decode cX12_shift 68 = .ok (.ifCond .lt 39, 3) := by decide +kernel
theorem dX12_shift_71 : decode cX12_shift 71 = .ok (.iload_n 2, 1) := by decide +kernel
theorem dX12_shift_72 : decode cX12_shift 72 = .ok (.ifCond .lt 35, 3) := by decide +kernel
theorem dX12_shift_75 : decode cX12_shift 75 = .ok (.iload 4, 2) := by decide +kernel
theorem dX12_shift_77 : decode cX12_shift 77 = .ok (.ifCond .lt 30, 3) := by decide +kernel
theorem dX12_shift_80 : decode cX12_shift 80 = .ok (.iload_n 2, 1) := by decide +kernel
theorem dX12_shift_81 : decode cX12_shift 81 = .ok (.aload_n 0, 1) := by decide +kernel
theorem dX12_shift_82 : decode cX12_shift 82 = .ok (.getfield 110, 3) := by decide +kernel
theorem dX12_shift_85 : decode cX12_shift 85 = .ok (.iload_n 1, 1) := by decide +kernel
theorem dX12_shift_86 : decode cX12_shift 86 = .ok (.iaload, 1) := by decide +kernel
theorem dX12_shift_87 : decode cX12_shift 87 = .ok (.iload 5, 2) := by decide +kernel
theorem dX12_shift_89 : decode cX12_shift 89 = .ok (.isub, 1) := by decide +kernel
theorem dX12_shift_90 : decode cX12_shift 90 = .ok (.if_icmp .gt 17, 3) := by decide +kernel
theorem dX12_shift_93 : decode cX12_shift 93 = .ok (.iload 4, 2) := by decide +kernel
theorem dX12_shift_95 : decode cX12_shift 95 = .ok (.aload_n 0, 1) := by decide +kernel
theorem dX12_shift_96 : decode cX12_shift 96 = .ok (.getfield 110, 3) := by decide +kernel
theorem dX12_shift_99 : decode cX12_shift 99 = .ok (.iload_n 3, 1) := by decide +kernel
theorem dX12_shift_100 : decode cX12_shift 100 = .ok (.iaload, 1) := by decide +kernel
theorem dX12_shift_101 : decode cX12_shift 101 = .ok (.iload 5, 2) := by decide +kernel
theorem dX12_shift_103 : decode cX12_shift 103 = .ok (.isub, 1) := by decide +kernel
theorem dX12_shift_104 : decode cX12_shift 104 = .ok (.if_icmp .le 6, 3) := by decide +kernel
theorem dX12_shift_107 : decode cX12_shift 107 = .ok (.bipush (-13), 2) := by decide +kernel
theorem dX12_shift_109 : decode cX12_shift 109 = .ok (.ireturn, 1) := by decide +kernel
theorem dX12_shift_110 : decode cX12_shift 110 = .ok (.iconst 0, 1) := by decide +kernel
theorem dX12_shift_111 : decode cX12_shift 111 = .ok (.istore 6, 2) := by decide +kernel
theorem dX12_shift_113 : decode cX12_shift 113 = .ok (.iload 6, 2) := by decide +kernel
theorem dX12_shift_115 : decode cX12_shift 115 = .ok (.iload 5, 2) := by decide +kernel
theorem dX12_shift_117 : decode cX12_shift 117 = .ok (.if_icmp .ge 30, 3) := by decide +kernel
theorem dX12_shift_120 : decode cX12_shift 120 = .ok (.aload_n 0, 1) := by decide +kernel
theorem dX12_shift_121 : decode cX12_shift 121 = .ok (.getfield 117, 3) := by decide +kernel
theorem dX12_shift_124 : decode cX12_shift 124 = .ok (.iload 6, 2) := by decide +kernel
theorem dX12_shift_126 : decode cX12_shift 126 = .ok (.aload_n 0, 1) := by decide +kernel
theorem dX12_shift_127 : decode cX12_shift 127 = .ok (.getfield 113, 3) := by decide +kernel
theorem dX12_shift_130 : decode cX12_shift 130 = .ok (.bipush 60, 2) := by decide +kernel
theorem dX12_shift_132 : decode cX12_shift 132 = .ok (.iload_n 1, 1) := by decide +kernel
theorem dX12_shift_133 : decode cX12_shift 133 = .ok (.imul, 1) := by decide +kernel
theorem dX12_shift_134 : decode cX12_shift 134 = .ok (.iload_n 2, 1) := by decide +kernel
theorem dX12_shift_135 : decode cX12_shift 135 = .ok (.iadd, 1) := by decide +kernel
theorem dX12_shift_136 : decode cX12_shift 136 = .ok (.iload 6, 2) := by decide +kernel
theorem dX12_shift_138 : decode cX12_shift 138 = .ok (.iadd, 1) := by decide +kernel
theorem dX12_shift_139 : decode cX12_shift 139 = .ok (.laload, 1) := by decide +kernel
theorem dX12_shift_140 : decode cX12_shift 140 = .ok (.lastore, 1) := by decide +kernel
theorem dX12_shift_141 : decode cX12_shift 141 = .ok (.iinc 6 1, 3) := by decide +kernel
theorem dX12_shift_144 : decode cX12_shift 144 = .ok (.goto (-31), 3) := by decide +kernel
theorem dX12_shift_147 : decode cX12_shift 147 = .ok (.iconst 0, 1) := by decide +kernel
theorem dX12_shift_148 : decode cX12_shift 148 = .ok (.istore 6, 2) := by decide +kernel
theorem dX12_shift_150 : decode cX12_shift 150 = .ok (.iload 6, 2) := by decide +kernel
theorem dX12_shift_152 : decode cX12_shift 152 = .ok (.iload 5, 2) := by decide +kernel
theorem dX12_shift_154 : decode cX12_shift 154 = .ok (.if_icmp .ge 31, 3) := by decide +kernel
theorem dX12_shift_157 : decode cX12_shift 157 = .ok (.aload_n 0, 1) := by decide +kernel
theorem dX12_shift_158 : decode cX12_shift 158 = .ok (.getfield 113, 3) := by decide +kernel
theorem dX12_shift_161 : decode cX12_shift 161 = .ok (.bipush 60, 2) := by decide +kernel
theorem dX12_shift_163 : decode cX12_shift 163 = .ok (.iload_n 3, 1) := by decide +kernel
theorem dX12_shift_164 : decode cX12_shift 164 = .ok (.imul, 1) := by decide +kernel
theorem dX12_shift_165 : decode cX12_shift 165 = .ok (.iload 4, 2) := by decide +kernel
theorem dX12_shift_167 : decode cX12_shift 167 = .ok (.iadd, 1) := by decide +kernel
theorem dX12_shift_168 : decode cX12_shift 168 = .ok (.iload 6, 2) := by decide +kernel
theorem dX12_shift_170 : decode cX12_shift 170 = .ok (.iadd, 1) := by decide +kernel
theorem dX12_shift_171 : decode cX12_shift 171 = .ok (.aload_n 0, 1) := by decide +kernel
theorem dX12_shift_172 : decode cX12_shift 172 = .ok (.getfield 117, 3) := by decide +kernel
theorem dX12_shift_175 : decode cX12_shift 175 = .ok (.iload 6, 2) := by decide +kernel
theorem dX12_shift_177 : decode cX12_shift 177 = .ok (.laload, 1) := by decide +kernel
theorem dX12_shift_178 : decode cX12_shift 178 = .ok (.lastore, 1) := by decide +kernel
theorem dX12_shift_179 : decode cX12_shift 179 = .ok (.iinc 6 1, 3) := by decide +kernel
theorem dX12_shift_182 : decode cX12_shift 182 = .ok (.goto (-32), 3) := by decide +kernel
theorem dX12_shift_185 : decode cX12_shift 185 = .ok (.iload 5, 2) := by decide +kernel
theorem dX12_shift_187 : decode cX12_shift 187 = .ok (.ireturn, 1) := by decide +kernel
set_option maxRecDepth 20000 in
theorem ggX12_taken_X12_isShelf : GoodIn wsX12_taken wsX12_isShelf := goodIn_r _ [6, 7, 8, 9, 5, 10] rfl (by decide +kernel)
set_option maxRecDepth 20000 in
theorem gX12_taken_X12_isShelf : GoodIn wsX12_taken (va_wsS RX12 238 yX12_isShelf wsX12_isShelf) := goodIn_app (goodIn_of _ (by decide +kernel)) ggX12_taken_X12_isShelf
set_option maxRecDepth 20000 in
theorem ggX12_taken_X12_within : GoodIn wsX12_taken wsX12_within := goodIn_r _ [10] rfl (by decide +kernel)
set_option maxRecDepth 20000 in
theorem gX12_taken_X12_within : GoodIn wsX12_taken (va_wsS RX12 136 yX12_within wsX12_within) := goodIn_app (goodIn_of _ (by decide +kernel)) ggX12_taken_X12_within
set_option maxRecDepth 20000 in
theorem ggX12_taken_X12_kindOf : GoodIn wsX12_taken wsX12_kindOf := goodIn_r _ [14, 15, 19, 20, 21, 22, 23, 24, 25, 26, 27, 28, 29, 30, 31, 32, 33, 34, 35, 36, 37, 38, 39, 40, 41, 42, 43, 44, 45, 46, 47, 48, 49, 50, 51, 52, 53, 54, 55, 56, 57, 58, 59, 60, 61, 62, 63, 64, 65, 66, 67, 68, 69, 70, 71, 72, 73, 74, 75, 76, 77, 78, 79, 80, 81] rfl (by decide +kernel)
set_option maxRecDepth 20000 in
theorem gX12_taken_X12_kindOf : GoodIn wsX12_taken (wsV RX12 421 RX12 yX12_kindOf wsX12_kindOf) := goodIn_app (goodIn_of _ (by decide +kernel)) ggX12_taken_X12_kindOf
set_option maxRecDepth 20000 in
theorem ggX12_taken_X12_above : GoodIn wsX12_taken wsX12_above := goodIn_r _ [18] rfl (by decide +kernel)
set_option maxRecDepth 20000 in
theorem gX12_taken_X12_above : GoodIn wsX12_taken (va_wsS RX12 424 yX12_above wsX12_above) := goodIn_app (goodIn_of _ (by decide +kernel)) ggX12_taken_X12_above
theorem dX12_taken_0 : decode cX12_taken 0 = .ok (.iload_n 1, 1) := by decide +kernel
theorem dX12_taken_1 : decode cX12_taken 1 = .ok (.invokestatic 238, 3) := by decide +kernel
theorem dX12_taken_4 : decode cX12_taken 4 = .ok (.ifCond .eq 15, 3) := by decide +kernel
theorem dX12_taken_7 : decode cX12_taken 7 = .ok (.iload_n 2, 1) := by decide +kernel
theorem dX12_taken_8 : decode cX12_taken 8 = .ok (.i2l, 1) := by decide +kernel
theorem dX12_taken_9 : decode cX12_taken 9 = .ok (.lconst 0, 1) := by decide +kernel
theorem dX12_taken_10 : decode cX12_taken 10 = .ok (.ldc2_w 223, 3) := by decide +kernel
theorem dX12_taken_13 : decode cX12_taken 13 = .ok (.invokestatic 136, 3) := by decide +kernel
theorem dX12_taken_16 : decode cX12_taken 16 = .ok (.ifCond .ne 5, 3) := by decide +kernel
theorem dX12_taken_19 : decode cX12_taken 19 = .ok (.iconst (-1), 1) := by decide +kernel
theorem dX12_taken_20 : decode cX12_taken 20 = .ok (.ireturn, 1) := by decide +kernel
theorem dX12_taken_21 : decode cX12_taken 21 = .ok (.aload_n 0, 1) := by decide +kernel
theorem dX12_taken_22 : decode cX12_taken 22 = .ok (.getfield 107, 3) := by decide +kernel
theorem dX12_taken_25 : decode cX12_taken 25 = .ok (.iload_n 1, 1) := by decide +kernel
theorem dX12_taken_26 : decode cX12_taken 26 = .ok (.iaload, 1) := by decide +kernel
theorem dX12_taken_27 : decode cX12_taken 27 = .ok (.ifCond .ge 6, 3) := by decide +kernel
theorem dX12_taken_30 : decode cX12_taken 30 = .ok (.bipush (-11), 2) := by decide +kernel
theorem dX12_taken_32 : decode cX12_taken 32 = .ok (.ireturn, 1) := by decide +kernel
theorem dX12_taken_33 : decode cX12_taken 33 = .ok (.aload_n 0, 1) := by decide +kernel
theorem dX12_taken_34 : decode cX12_taken 34 = .ok (.getfield 107, 3) := by decide +kernel
theorem dX12_taken_37 : decode cX12_taken 37 = .ok (.iload_n 1, 1) := by decide +kernel
theorem dX12_taken_38 : decode cX12_taken 38 = .ok (.iaload, 1) := by decide +kernel
theorem dX12_taken_39 : decode cX12_taken 39 = .ok (.bipush 50, 2) := by decide +kernel
theorem dX12_taken_41 : decode cX12_taken 41 = .ok (.if_icmp .lt 6, 3) := by decide +kernel
theorem dX12_taken_44 : decode cX12_taken 44 = .ok (.bipush (-12), 2) := by decide +kernel
theorem dX12_taken_46 : decode cX12_taken 46 = .ok (.ireturn, 1) := by decide +kernel
theorem dX12_taken_47 : decode cX12_taken 47 = .ok (.aload_n 0, 1) := by decide +kernel
theorem dX12_taken_48 : decode cX12_taken 48 = .ok (.aload_n 0, 1) := by decide +kernel
theorem dX12_taken_49 : decode cX12_taken 49 = .ok (.getfield 107, 3) := by decide +kernel
theorem dX12_taken_52 : decode cX12_taken 52 = .ok (.iload_n 1, 1) := by decide +kernel
theorem dX12_taken_53 : decode cX12_taken 53 = .ok (.iaload, 1) := by decide +kernel
theorem dX12_taken_54 : decode cX12_taken 54 = .ok (.invokevirtual 421, 3) := by decide +kernel
theorem dX12_taken_57 : decode cX12_taken 57 = .ok (.istore_n 3, 1) := by decide +kernel
theorem dX12_taken_58 : decode cX12_taken 58 = .ok (.iload_n 3, 1) := by decide +kernel
theorem dX12_taken_59 : decode cX12_taken 59 = .ok (.iload_n 2, 1) := by decide +kernel
theorem dX12_taken_60 : decode cX12_taken 60 = .ok (.if_icmp .eq 15, 3) := by decide +kernel
theorem dX12_taken_63 : decode cX12_taken 63 = .ok (.iload_n 3, 1) := by decide +kernel
theorem dX12_taken_64 : decode cX12_taken 64 = .ok (.ifCond .le 11, 3) := by decide +kernel
theorem dX12_taken_67 : decode cX12_taken 67 = .ok (.iload_n 3, 1) := by decide +kernel
theorem dX12_taken_68 : decode cX12_taken 68 = .ok (.invokestatic 424, 3) := by decide +kernel
theorem dX12_taken_71 : decode cX12_taken 71 = .ok (.istore_n 3, 1) := by decide +kernel
theorem dX12_taken_72 : decode cX12_taken 72 = .ok (.goto (-14), 3) := by decide +kernel
theorem dX12_taken_75 : decode cX12_taken 75 = .ok (.iload_n 3, 1) := by decide +kernel
theorem dX12_taken_76 : decode cX12_taken 76 = .ok (.iload_n 2, 1) := by decide +kernel
theorem dX12_taken_77 : decode cX12_taken 77 = .ok (.if_icmp .ne 16, 3) := by decide +kernel
theorem dX12_taken_80 : decode cX12_taken 80 = .ok (.aload_n 0, 1) := by decide +kernel
theorem dX12_taken_81 : decode cX12_taken 81 = .ok (.aload_n 0, 1) := by decide +kernel
theorem dX12_taken_82 : decode cX12_taken 82 = .ok (.getfield 107, 3) := by decide +kernel
theorem dX12_taken_85 : decode cX12_taken 85 = .ok (.iload_n 1, 1) := by decide +kernel
theorem dX12_taken_86 : decode cX12_taken 86 = .ok (.iaload, 1) := by decide +kernel
theorem dX12_taken_87 : decode cX12_taken 87 = .ok (.invokevirtual 421, 3) := by decide +kernel
theorem dX12_taken_90 : decode cX12_taken 90 = .ok (.goto 5, 3) := by decide +kernel
theorem dX12_taken_93 : decode cX12_taken 93 = .ok (.bipush (-12), 2) := by decide +kernel
theorem dX12_taken_95 : decode cX12_taken 95 = .ok (.ireturn, 1) := by decide +kernel
theorem dX12_count_0 : decode cX12_count 0 = .ok (.iload_n 1, 1) := by decide +kernel
theorem dX12_count_1 : decode cX12_count 1 = .ok (.tableswitch 123 0 11 #[63, 68, 73, 78, 83, 88, 93, 98, 103, 108, 113, 118], 63) := by decide +kernel
theorem dX12_count_64 : decode cX12_count 64 = .ok (.aload_n 0, 1) := by decide +kernel
theorem dX12_count_65 : decode cX12_count 65 = .ok (.getfield 133, 3) := by decide +kernel
theorem dX12_count_68 : decode cX12_count 68 = .ok (.ireturn, 1) := by decide +kernel
theorem dX12_count_69 : decode cX12_count 69 = .ok (.aload_n 0, 1) := by decide +kernel
theorem dX12_count_70 : decode cX12_count 70 = .ok (.getfield 140, 3) := by decide +kernel
theorem dX12_count_73 : decode cX12_count 73 = .ok (.ireturn, 1) := by decide +kernel
theorem dX12_count_74 : decode cX12_count 74 = .ok (.aload_n 0, 1) := by decide +kernel
theorem dX12_count_75 : decode cX12_count 75 = .ok (.getfield 200, 3) := by decide +kernel
theorem dX12_count_78 : decode cX12_count 78 = .ok (.ireturn, 1) := by decide +kernel
theorem dX12_count_79 : decode cX12_count 79 = .ok (.aload_n 0, 1) := by decide +kernel
theorem dX12_count_80 : decode cX12_count 80 = .ok (.getfield 203, 3) := by decide +kernel
theorem dX12_count_83 : decode cX12_count 83 = .ok (.ireturn, 1) := by decide +kernel
theorem dX12_count_84 : decode cX12_count 84 = .ok (.aload_n 0, 1) := by decide +kernel
theorem dX12_count_85 : decode cX12_count 85 = .ok (.getfield 227, 3) := by decide +kernel
theorem dX12_count_88 : decode cX12_count 88 = .ok (.ireturn, 1) := by decide +kernel
theorem dX12_count_89 : decode cX12_count 89 = .ok (.aload_n 0, 1) := by decide +kernel
theorem dX12_count_90 : decode cX12_count 90 = .ok (.getfield 262, 3) := by decide +kernel
theorem dX12_count_93 : decode cX12_count 93 = .ok (.ireturn, 1) := by decide +kernel
theorem dX12_count_94 : decode cX12_count 94 = .ok (.aload_n 0, 1) := by decide +kernel
theorem dX12_count_95 : decode cX12_count 95 = .ok (.getfield 277, 3) := by decide +kernel
theorem dX12_count_98 : decode cX12_count 98 = .ok (.ireturn, 1) := by decide +kernel
theorem dX12_count_99 : decode cX12_count 99 = .ok (.aload_n 0, 1) := by decide +kernel
theorem dX12_count_100 : decode cX12_count 100 = .ok (.getfield 294, 3) := by decide +kernel
theorem dX12_count_103 : decode cX12_count 103 = .ok (.ireturn, 1) := by decide +kernel
theorem dX12_count_104 : decode cX12_count 104 = .ok (.aload_n 0, 1) := by decide +kernel
theorem dX12_count_105 : decode cX12_count 105 = .ok (.getfield 342, 3) := by decide +kernel
theorem dX12_count_108 : decode cX12_count 108 = .ok (.ireturn, 1) := by decide +kernel
theorem dX12_count_109 : decode cX12_count 109 = .ok (.aload_n 0, 1) := by decide +kernel
theorem dX12_count_110 : decode cX12_count 110 = .ok (.getfield 127, 3) := by decide +kernel
theorem dX12_count_113 : decode cX12_count 113 = .ok (.ireturn, 1) := by decide +kernel
theorem dX12_count_114 : decode cX12_count 114 = .ok (.aload_n 0, 1) := by decide +kernel
theorem dX12_count_115 : decode cX12_count 115 = .ok (.getfield 379, 3) := by decide +kernel
theorem dX12_count_118 : decode cX12_count 118 = .ok (.ireturn, 1) := by decide +kernel
theorem dX12_count_119 : decode cX12_count 119 = .ok (.aload_n 0, 1) := by decide +kernel
theorem dX12_count_120 : decode cX12_count 120 = .ok (.getfield 382, 3) := by decide +kernel
theorem dX12_count_123 : decode cX12_count 123 = .ok (.ireturn, 1) := by decide +kernel
theorem dX12_count_124 : decode cX12_count 124 = .ok (.iconst (-1), 1) := by decide +kernel
theorem dX12_count_125 : decode cX12_count 125 = .ok (.ireturn, 1) := by decide +kernel

