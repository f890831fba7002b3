theorem dX12_within_0 : decode cX12_within 0 = .ok (.lload_n 0, 1) := by decide +kernel
theorem dX12_within_1 : decode cX12_within 1 = .ok (.lload_n 2, 1) := by decide +kernel
theorem dX12_within_2 : decode cX12_within 2 = .ok (.lcmp, 1) := by decide +kernel
theorem dX12_within_3 : decode cX12_within 3 = .ok (.ifCond .lt 14, 3) := by decide +kernel
theorem dX12_within_6 : decode cX12_within 6 = .ok (.lload_n 0, 1) := by decide +kernel
theorem dX12_within_7 : decode cX12_within 7 = .ok (.lload 4, 2) := by decide +kernel
theorem dX12_within_9 : decode cX12_within 9 = .ok (.lcmp, 1) := by decide +kernel
theorem dX12_within_10 : decode cX12_within 10 = .ok (.ifCond .gt 7, 3) := by decide +kernel
theorem dX12_within_13 : decode cX12_within 13 = .ok (.iconst 1, 1) := by decide +kernel
theorem dX12_within_14 : decode cX12_within 14 = .ok (.goto 4, 3) := by decide +kernel
theorem dX12_within_17 : decode cX12_within 17 = .ok (.iconst 0, 1) := by decide +kernel
theorem dX12_within_18 : decode cX12_within 18 = .ok (.ireturn, 1) := by decide +kernel
theorem dX12_size_0 : decode cX12_size 0 = .ok (.iload_n 0, 1) := by decide +kernel
theorem dX12_size_1 : decode cX12_size 1 = .ok (.ifCond .ge 8, 3) := by decide +kernel
theorem dX12_size_4 : decode cX12_size 4 = .ok (.iload_n 0, 1) := by decide +kernel
theorem dX12_size_5 : decode cX12_size 5 = .ok (.ineg, 1) := by decide +kernel
theorem dX12_size_6 : decode cX12_size 6 = .ok (.goto 4, 3) := by decide +kernel
theorem dX12_size_9 : decode cX12_size 9 = .ok (.iload_n 0, 1) := by decide +kernel
theorem dX12_size_10 : decode cX12_size 10 = .ok (.ireturn, 1) := by decide +kernel
theorem dX12_bitsOf_0 : decode cX12_bitsOf 0 = .ok (.iconst 0, 1) := by decide +kernel
theorem dX12_bitsOf_1 : decode cX12_bitsOf 1 = .ok (.istore_n 1, 1) := by decide +kernel
theorem dX12_bitsOf_2 : decode cX12_bitsOf 2 = .ok (.iload_n 0, 1) := by decide +kernel
theorem dX12_bitsOf_3 : decode cX12_bitsOf 3 = .ok (.istore_n 2, 1) := by decide +kernel
theorem dX12_bitsOf_4 : decode cX12_bitsOf 4 = .ok (.iload_n 2, 1) := by decide +kernel
theorem dX12_bitsOf_5 : decode cX12_bitsOf 5 = .ok (.ifCond .eq 15, 3) := by decide +kernel
theorem dX12_bitsOf_8 : decode cX12_bitsOf 8 = .ok (.iinc 1 1, 3) := by decide +kernel
theorem dX12_bitsOf_11 : decode cX12_bitsOf 11 = .ok (.iload_n 2, 1) := by decide +kernel
theorem dX12_bitsOf_12 : decode cX12_bitsOf 12 = .ok (.iload_n 2, 1) := by decide +kernel
theorem dX12_bitsOf_13 : decode cX12_bitsOf 13 = .ok (.iconst 1, 1) := by decide +kernel
theorem dX12_bitsOf_14 : decode cX12_bitsOf 14 = .ok (.isub, 1) := by decide +kernel
theorem dX12_bitsOf_15 : decode cX12_bitsOf 15 = .ok (.iand, 1) := by decide +kernel
theorem dX12_bitsOf_16 : decode cX12_bitsOf 16 = .ok (.istore_n 2, 1) := by decide +kernel
theorem dX12_bitsOf_17 : decode cX12_bitsOf 17 = .ok (.goto (-13), 3) := by decide +kernel
theorem dX12_bitsOf_20 : decode cX12_bitsOf 20 = .ok (.iload_n 1, 1) := by decide +kernel
theorem dX12_bitsOf_21 : decode cX12_bitsOf 21 = .ok (.ireturn, 1) := by decide +kernel
theorem dX12_becomes_0 : decode cX12_becomes 0 = .ok (.aload_n 0, 1) := by decide +kernel
theorem dX12_becomes_1 : decode cX12_becomes 1 = .ok (.getfield 9, 3) := by decide +kernel
theorem dX12_becomes_4 : decode cX12_becomes 4 = .ok (.iload_n 1, 1) := by decide +kernel
theorem dX12_becomes_5 : decode cX12_becomes 5 = .ok (.iaload, 1) := by decide +kernel
theorem dX12_becomes_6 : decode cX12_becomes 6 = .ok (.istore_n 3, 1) := by decide +kernel
theorem dX12_becomes_7 : decode cX12_becomes 7 = .ok (.iload_n 3, 1) := by decide +kernel
theorem dX12_becomes_8 : decode cX12_becomes 8 = .ok (.iload_n 2, 1) := by decide +kernel
theorem dX12_becomes_9 : decode cX12_becomes 9 = .ok (.if_icmp .ne 5, 3) := by decide +kernel
theorem dX12_becomes_12 : decode cX12_becomes 12 = .ok (.iload_n 3, 1) := by decide +kernel
theorem dX12_becomes_13 : decode cX12_becomes 13 = .ok (.ireturn, 1) := by decide +kernel
theorem dX12_becomes_14 : decode cX12_becomes 14 = .ok (.aload_n 0, 1) := by decide +kernel
theorem dX12_becomes_15 : decode cX12_becomes 15 = .ok (.getfield 127, 3) := by decide +kernel
theorem dX12_becomes_18 : decode cX12_becomes 18 = .ok (.bipush 40, 2) := by decide +kernel
theorem dX12_becomes_20 : decode cX12_becomes 20 = .ok (.if_icmp .ne 77, 3) := by decide +kernel
theorem dX12_becomes_23 : decode cX12_becomes 23 = .ok (.iconst 1, 1) := by decide +kernel
theorem dX12_becomes_24 : decode cX12_becomes 24 = .ok (.istore 4, 2) := by decide +kernel
theorem dX12_becomes_26 : decode cX12_becomes 26 = .ok (.iload 4, 2) := by decide +kernel
theorem dX12_becomes_28 : decode cX12_becomes 28 = .ok (.bipush 40, 2) := by decide +kernel
theorem dX12_becomes_30 : decode cX12_becomes 30 = .ok (.if_icmp .ge 57, 3) := by decide +kernel
theorem dX12_becomes_33 : decode cX12_becomes 33 = .ok (.aload_n 0, 1) := by decide +kernel
theorem dX12_becomes_34 : decode cX12_becomes 34 = .ok (.getfield 13, 3) := by decide +kernel
theorem dX12_becomes_37 : decode cX12_becomes 37 = .ok (.iload 4, 2) := by decide +kernel
theorem dX12_becomes_39 : decode cX12_becomes 39 = .ok (.iconst 1, 1) := by decide +kernel
theorem dX12_becomes_40 : decode cX12_becomes 40 = .ok (.isub, 1) := by decide +kernel
theorem dX12_becomes_41 : decode cX12_becomes 41 = .ok (.aload_n 0, 1) := by decide +kernel
theorem dX12_becomes_42 : decode cX12_becomes 42 = .ok (.getfield 13, 3) := by decide +kernel
theorem dX12_becomes_45 : decode cX12_becomes 45 = .ok (.iload 4, 2) := by decide +kernel
theorem dX12_becomes_47 : decode cX12_becomes 47 = .ok (.iaload, 1) := by decide +kernel
theorem dX12_becomes_48 : decode cX12_becomes 48 = .ok (.iastore, 1) := by decide +kernel
theorem dX12_becomes_49 : decode cX12_becomes 49 = .ok (.aload_n 0, 1) := by decide +kernel
theorem dX12_becomes_50 : decode cX12_becomes 50 = .ok (.getfield 16, 3) := by decide +kernel
theorem dX12_becomes_53 : decode cX12_becomes 53 = .ok (.iload 4, 2) := by decide +kernel
theorem dX12_becomes_55 : decode cX12_becomes 55 = .ok (.iconst 1, 1) := by decide +kernel
theorem dX12_becomes_56 : decode cX12_becomes 56 = .ok (.isub, 1) := by decide +kernel
theorem dX12_becomes_57 : decode cX12_becomes 57 = .ok (.aload_n 0, 1) := by decide +kernel
theorem dX12_becomes_58 : decode cX12_becomes 58 = .ok (.getfield 16, 3) := by decide +kernel
theorem dX12_becomes_61 : decode cX12_becomes 61 = .ok (.iload 4, 2) := by decide +kernel
theorem dX12_becomes_63 : decode cX12_becomes 63 = .ok (.iaload, 1) := by decide +kernel
theorem dX12_becomes_64 : decode cX12_becomes 64 = .ok (.iastore, 1) := by decide +kernel
theorem dX12_becomes_65 : decode cX12_becomes 65 = .ok (.aload_n 0, 1) := by decide +kernel
theorem dX12_becomes_66 : decode cX12_becomes 66 = .ok (.getfield 19, 3) := by decide +kernel
theorem dX12_becomes_69 : decode cX12_becomes 69 = .ok (.iload 4, 2) := by decide +kernel
theorem dX12_becomes_71 : decode cX12_becomes 71 = .ok (.iconst 1, 1) := by decide +kernel
theorem dX12_becomes_72 : decode cX12_becomes 72 = .ok (.isub, 1) := by decide +kernel
theorem dX12_becomes_73 : decode cX12_becomes 73 = .ok (.aload_n 0, 1) := by decide +kernel
theorem dX12_becomes_74 : decode cX12_becomes 74 = .ok (.getfield 19, 3) := by decide +kernel
theorem dX12_becomes_77 : decode cX12_becomes 77 = .ok (.iload 4, 2) := by decide +kernel
theorem dX12_becomes_79 : decode cX12_becomes 79 = .ok (.iaload, 1) := by decide +kernel
theorem dX12_becomes_80 : decode cX12_becomes 80 = .ok (.iastore, 1) := by decide +kernel
theorem dX12_becomes_81 : decode cX12_becomes 81 = .ok (.iinc 4 1, 3) := by decide +kernel
theorem dX12_becomes_84 : decode cX12_becomes 84 = .ok (.goto (-58), 3) := by decide +kernel
theorem dX12_becomes_87 : decode cX12_becomes 87 = .ok (.aload_n 0, 1) := by decide +kernel
theorem dX12_becomes_88 : decode cX12_becomes 88 = .ok (.dup, 1) := by decide +kernel
theorem dX12_becomes_89 : decode cX12_becomes 89 = .ok (.getfield 127, 3) := by decide +kernel
theorem dX12_becomes_92 : decode cX12_becomes 92 = .ok (.iconst 1, 1) := by decide +kernel
theorem dX12_becomes_93 : decode cX12_becomes 93 = .ok (.isub, 1) := by decide +kernel
theorem dX12_becomes_94 : decode cX12_becomes 94 = .ok (.putfield 127, 3) := by decide +kernel
theorem dX12_becomes_97 : decode cX12_becomes 97 = .ok (.aload_n 0, 1) := by decide +kernel
theorem dX12_becomes_98 : decode cX12_becomes 98 = .ok (.getfield 13, 3) := by decide +kernel
theorem dX12_becomes_101 : decode cX12_becomes 101 = .ok (.aload_n 0, 1) := by decide +kernel
theorem dX12_becomes_102 : decode cX12_becomes 102 = .ok (.getfield 127, 3) := by decide +kernel
theorem dX12_becomes_105 : decode cX12_becomes 105 = .ok (.iload_n 1, 1) := by decide +kernel
theorem dX12_becomes_106 : decode cX12_becomes 106 = .ok (.iastore, 1) := by decide +kernel
theorem dX12_becomes_107 : decode cX12_becomes 107 = .ok (.aload_n 0, 1) := by decide +kernel
theorem dX12_becomes_108 : decode cX12_becomes 108 = .ok (.getfield 16, 3) := by decide +kernel
theorem dX12_becomes_111 : decode cX12_becomes 111 = .ok (.aload_n 0, 1) := by decide +kernel
theorem dX12_becomes_112 : decode cX12_becomes 112 = .ok (.getfield 127, 3) := by decide +kernel
theorem dX12_becomes_115 : decode cX12_becomes 115 = .ok (.iload_n 3, 1) := by decide +kernel
theorem dX12_becomes_116 : decode cX12_becomes 116 = .ok (.iastore, 1) := by decide +kernel
theorem dX12_becomes_117 : decode cX12_becomes 117 = .ok (.aload_n 0, 1) := by decide +kernel
theorem dX12_becomes_118 : decode cX12_becomes 118 = .ok (.getfield 19, 3) := by decide +kernel
theorem dX12_becomes_121 : decode cX12_becomes 121 = .ok (.aload_n 0, 1) := by decide +kernel
theorem dX12_becomes_122 : decode cX12_becomes 122 = .ok (.getfield 127, 3) := by decide +kernel
theorem dX12_becomes_125 : decode cX12_becomes 125 = .ok (.iload_n 2, 1) := by decide +kernel
theorem dX12_becomes_126 : decode cX12_becomes 126 = .ok (.iastore, 1) := by decide +kernel
theorem dX12_becomes_127 : decode cX12_becomes 127 = .ok (.aload_n 0, 1) := by decide +kernel
theorem dX12_becomes_128 : decode cX12_becomes 128 = .ok (.dup, 1) := by decide +kernel
theorem dX12_becomes_129 : decode cX12_becomes 129 = .ok (.getfield 127, 3) := by decide +kernel
theorem dX12_becomes_132 : decode cX12_becomes 132 = .ok (.iconst 1, 1) := by decide +kernel
theorem dX12_becomes_133 : decode cX12_becomes 133 = .ok (.iadd, 1) := by decide +kernel
theorem dX12_becomes_134 : decode cX12_becomes 134 = .ok (.putfield 127, 3) := by decide +kernel
theorem dX12_becomes_137 : decode cX12_becomes 137 = .ok (.aload_n 0, 1) := by decide +kernel
theorem dX12_becomes_138 : decode cX12_becomes 138 = .ok (.aload_n 0, 1) := by decide +kernel
theorem dX12_becomes_139 : decode cX12_becomes 139 = .ok (.getfield 127, 3) := by decide +kernel
theorem dX12_becomes_142 : decode cX12_becomes 142 = .ok (.putfield 130, 3) := by decide +kernel
theorem dX12_becomes_145 : decode cX12_becomes 145 = .ok (.aload_n 0, 1) := by decide +kernel
theorem dX12_becomes_146 : decode cX12_becomes 146 = .ok (.getfield 9, 3) := by decide +kernel
theorem dX12_becomes_149 : decode cX12_becomes 149 = .ok (.iload_n 1, 1) := by decide +kernel
theorem dX12_becomes_150 : decode cX12_becomes 150 = .ok (.iload_n 2, 1) := by decide +kernel
theorem dX12_becomes_151 : decode cX12_becomes 151 = .ok (.iastore, 1) := by decide +kernel
theorem dX12_becomes_152 : decode cX12_becomes 152 = .ok (.iload_n 3, 1) := by decide +kernel
theorem dX12_becomes_153 : decode cX12_becomes 153 = .ok (.ireturn, 1) := by decide +kernel
theorem dX12_undo_0 : decode cX12_undo 0 = .ok (.aload_n 0, 1) := by decide +kernel
theorem dX12_undo_1 : decode cX12_undo 1 = .ok (.getfield 127, 3) := by decide +kernel
theorem dX12_undo_4 : decode cX12_undo 4 = .ok (.ifCond .ne 6, 3) := by decide +kernel
theorem dX12_undo_7 : decode cX12_undo 7 = .ok (.bipush (-5), 2) := by decide +kernel
theorem dX12_undo_9 : decode cX12_undo 9 = .ok (.ireturn, 1) := by decide +kernel
theorem dX12_undo_10 : decode cX12_undo 10 = .ok (.aload_n 0, 1) := by decide +kernel
theorem dX12_undo_11 : decode cX12_undo 11 = .ok (.dup, 1) := by decide +kernel
theorem dX12_undo_12 : decode cX12_undo 12 = .ok (.getfield 127, 3) := by decide +kernel
theorem dX12_undo_15 : decode cX12_undo 15 = .ok (.iconst 1, 1) := by decide +kernel
theorem dX12_undo_16 : decode cX12_undo 16 = .ok (.isub, 1) := by decide +kernel
theorem dX12_undo_17 : decode cX12_undo 17 = .ok (.putfield 127, 3) := by decide +kernel
theorem dX12_undo_20 : decode cX12_undo 20 = .ok (.aload_n 0, 1) := by decide +kernel
theorem dX12_undo_21 : decode cX12_undo 21 = .ok (.getfield 9, 3) := by decide +kernel
theorem dX12_undo_24 : decode cX12_undo 24 = .ok (.aload_n 0, 1) := by decide +kernel
theorem dX12_undo_25 : decode cX12_undo 25 = .ok (.getfield 13, 3) := by decide +kernel
theorem dX12_undo_28 : decode cX12_undo 28 = .ok (.aload_n 0, 1) := by decide +kernel
theorem dX12_undo_29 : decode cX12_undo 29 = .ok (.getfield 127, 3) := by decide +kernel
theorem dX12_undo_32 : decode cX12_undo 32 = .ok (.iaload, 1) := by decide +kernel
theorem dX12_undo_33 : decode cX12_undo 33 = .ok (.aload_n 0, 1) := by decide +kernel
theorem dX12_undo_34 : decode cX12_undo 34 = .ok (.getfield 16, 3) := by decide +kernel
theorem dX12_undo_37 : decode cX12_undo 37 = .ok (.aload_n 0, 1) := by decide +kernel
theorem dX12_undo_38 : decode cX12_undo 38 = .ok (.getfield 127, 3) := by decide +kernel
theorem dX12_undo_41 : decode cX12_undo 41 = .ok (.iaload, 1) := by decide +kernel
theorem dX12_undo_42 : decode cX12_undo 42 = .ok (.iastore, 1) := by decide +kernel
theorem dX12_undo_43 : decode cX12_undo 43 = .ok (.aload_n 0, 1) := by decide +kernel
theorem dX12_undo_44 : decode cX12_undo 44 = .ok (.getfield 127, 3) := by decide +kernel
theorem dX12_undo_47 : decode cX12_undo 47 = .ok (.ireturn, 1) := by decide +kernel
theorem dX12_redo_0 : decode cX12_redo 0 = .ok (.aload_n 0, 1) := by decide +kernel
theorem dX12_redo_1 : decode cX12_redo 1 = .ok (.getfield 127, 3) := by decide +kernel
theorem dX12_redo_4 : decode cX12_redo 4 = .ok (.aload_n 0, 1) := by decide +kernel
theorem dX12_redo_5 : decode cX12_redo 5 = .ok (.getfield 130, 3) := by decide +kernel
theorem dX12_redo_8 : decode cX12_redo 8 = .ok (.if_icmp .ne 6, 3) := by decide +kernel
theorem dX12_redo_11 : decode cX12_redo 11 = .ok (.bipush (-5), 2) := by decide +kernel
theorem dX12_redo_13 : decode cX12_redo 13 = .ok (.ireturn, 1) := by decide +kernel
theorem dX12_redo_14 : decode cX12_redo 14 = .ok (.aload_n 0, 1) := by decide +kernel
theorem dX12_redo_15 : decode cX12_redo 15 = .ok (.getfield 9, 3) := by decide +kernel
theorem dX12_redo_18 : decode cX12_redo 18 = .ok (.aload_n 0, 1) := by decide +kernel
theorem dX12_redo_19 : decode cX12_redo 19 = .ok (.getfield 13, 3) := by decide +kernel
theorem dX12_redo_22 : decode cX12_redo 22 = .ok (.aload_n 0, 1) := by decide +kernel
theorem dX12_redo_23 : decode cX12_redo 23 = .ok (.getfield 127, 3) := by decide +kernel
theorem dX12_redo_26 : decode cX12_redo 26 = .ok (.iaload, 1) := by decide +kernel
theorem dX12_redo_27 : decode cX12_redo 27 = .ok (.aload_n 0, 1) := by decide +kernel
theorem dX12_redo_28 : decode cX12_redo 28 = .ok (.getfield 19, 3) := by decide +kernel
theorem dX12_redo_31 : decode cX12_redo 31 = .ok (.aload_n 0, 1) := by decide +kernel
theorem dX12_redo_32 : decode cX12_redo 32 = .ok (.getfield 127, 3) := by decide +kernel
theorem dX12_redo_35 : decode cX12_redo 35 = .ok (.iaload, 1) := by decide +kernel
theorem dX12_redo_36 : decode cX12_redo 36 = .ok (.iastore, 1) := by decide +kernel
theorem dX12_redo_37 : decode cX12_redo 37 = .ok (.aload_n 0, 1) := by decide +kernel
theorem dX12_redo_38 : decode cX12_redo 38 = .ok (.dup, 1) := by decide +kernel
theorem dX12_redo_39 : decode cX12_redo 39 = .ok (.getfield 127, 3) := by decide +kernel
theorem dX12_redo_42 : decode cX12_redo 42 = .ok (.iconst 1, 1) := by decide +kernel
theorem dX12_redo_43 : decode cX12_redo 43 = .ok (.iadd, 1) := by decide +kernel
theorem dX12_redo_44 : decode cX12_redo 44 = .ok (.putfield 127, 3) := by decide +kernel
theorem dX12_redo_47 : decode cX12_redo 47 = .ok (.aload_n 0, 1) := by decide +kernel
theorem dX12_redo_48 : decode cX12_redo 48 = .ok (.getfield 130, 3) := by decide +kernel
theorem dX12_redo_51 : decode cX12_redo 51 = .ok (.aload_n 0, 1) := by decide +kernel
theorem dX12_redo_52 : decode cX12_redo 52 = .ok (.getfield 127, 3) := by decide +kernel
theorem dX12_redo_55 : decode cX12_redo 55 = .ok (.isub, 1) := by decide +kernel
theorem dX12_redo_56 : decode cX12_redo 56 = .ok (.ireturn, 1) := by decide +kernel
set_option maxRecDepth 20000 in
theorem ggX12_isSheet_X12_within : GoodIn wsX12_isSheet wsX12_within := goodIn_r _ [5] rfl (by decide +kernel)
set_option maxRecDepth 20000 in
theorem gX12_isSheet_X12_within : GoodIn wsX12_isSheet (va_wsS RX12 136 yX12_within wsX12_within) := goodIn_app (goodIn_of _ (by decide +kernel)) ggX12_isSheet_X12_within
theorem dX12_isSheet_0 : decode cX12_isSheet 0 = .ok (.iload_n 1, 1) := by decide +kernel
theorem dX12_isSheet_1 : decode cX12_isSheet 1 = .ok (.i2l, 1) := by decide +kernel
theorem dX12_isSheet_2 : decode cX12_isSheet 2 = .ok (.lconst 0, 1) := by decide +kernel
theorem dX12_isSheet_3 : decode cX12_isSheet 3 = .ok (.aload_n 0, 1) := by decide +kernel
theorem dX12_isSheet_4 : decode cX12_isSheet 4 = .ok (.getfield 133, 3) := by decide +kernel
theorem dX12_isSheet_7 : decode cX12_isSheet 7 = .ok (.iconst 1, 1) := by decide +kernel
theorem dX12_isSheet_8 : decode cX12_isSheet 8 = .ok (.isub, 1) := by decide +kernel
theorem dX12_isSheet_9 : decode cX12_isSheet 9 = .ok (.i2l, 1) := by decide +kernel
theorem dX12_isSheet_10 : decode cX12_isSheet 10 = .ok (.invokestatic 136, 3) := by decide +kernel
theorem dX12_isSheet_13 : decode cX12_isSheet 13 = .ok (.ireturn, 1) := by decide +kernel
set_option maxRecDepth 20000 in
theorem ggX12_isHole_X12_within : GoodIn wsX12_isHole wsX12_within := goodIn_r _ [5] rfl (by decide +kernel)
set_option maxRecDepth 20000 in
theorem gX12_isHole_X12_within : GoodIn wsX12_isHole (va_wsS RX12 136 yX12_within wsX12_within) := goodIn_app (goodIn_of _ (by decide +kernel)) ggX12_isHole_X12_within
theorem dX12_isHole_0 : decode cX12_isHole 0 = .ok (.iload_n 1, 1) := by decide +kernel
theorem dX12_isHole_1 : decode cX12_isHole 1 = .ok (.i2l, 1) := by decide +kernel
theorem dX12_isHole_2 : decode cX12_isHole 2 = .ok (.lconst 0, 1) := by decide +kernel
theorem dX12_isHole_3 : decode cX12_isHole 3 = .ok (.aload_n 0, 1) := by decide +kernel
theorem dX12_isHole_4 : decode cX12_isHole 4 = .ok (.getfield 140, 3) := by decide +kernel
theorem dX12_isHole_7 : decode cX12_isHole 7 = .ok (.iconst 1, 1) := by decide +kernel
theorem dX12_isHole_8 : decode cX12_isHole 8 = .ok (.isub, 1) := by decide +kernel
theorem dX12_isHole_9 : decode cX12_isHole 9 = .ok (.i2l, 1) := by decide +kernel
theorem dX12_isHole_10 : decode cX12_isHole 10 = .ok (.invokestatic 136, 3) := by decide +kernel
theorem dX12_isHole_13 : decode cX12_isHole 13 = .ok (.ireturn, 1) := by decide +kernel
set_option maxRecDepth 20000 in
theorem ggX12_isYear_X12_within : GoodIn wsX12_isYear wsX12_within := goodIn_r _ [5] rfl (by decide +kernel)
set_option maxRecDepth 20000 in
theorem gX12_isYear_X12_within : GoodIn wsX12_isYear (va_wsS RX12 136 yX12_within wsX12_within) := goodIn_app (goodIn_of _ (by decide +kernel)) ggX12_isYear_X12_within
theorem dX12_isYear_0 : decode cX12_isYear 0 = .ok (.iload_n 0, 1) := by decide +kernel
theorem dX12_isYear_1 : decode cX12_isYear 1 = .ok (.i2l, 1) := by decide +kernel
theorem dX12_isYear_2 : decode cX12_isYear 2 = .ok (.lconst 0, 1) := by decide +kernel
theorem dX12_isYear_3 : decode cX12_isYear 3 = .ok (.ldc2_w 143, 3) := by decide +kernel
theorem dX12_isYear_6 : decode cX12_isYear 6 = .ok (.invokestatic 136, 3) := by decide +kernel
theorem dX12_isYear_9 : decode cX12_isYear 9 = .ok (.ireturn, 1) := by decide +kernel
set_option maxRecDepth 20000 in
theorem ggX12_isSlack_X12_within : GoodIn wsX12_isSlack wsX12_within := goodIn_r _ [5] rfl (by decide +kernel)
set_option maxRecDepth 20000 in
theorem gX12_isSlack_X12_within : GoodIn wsX12_isSlack (va_wsS RX12 136 yX12_within wsX12_within) := goodIn_app (goodIn_of _ (by decide +kernel)) ggX12_isSlack_X12_within
theorem dX12_isSlack_0 : decode cX12_isSlack 0 = .ok (.iload_n 0, 1) := by decide +kernel
theorem dX12_isSlack_1 : decode cX12_isSlack 1 = .ok (.i2l, 1) := by decide +kernel
theorem dX12_isSlack_2 : decode cX12_isSlack 2 = .ok (.lconst 0, 1) := by decide +kernel
theorem dX12_isSlack_3 : decode cX12_isSlack 3 = .ok (.ldc2_w 145, 3) := by decide +kernel
theorem dX12_isSlack_6 : decode cX12_isSlack 6 = .ok (.invokestatic 136, 3) := by decide +kernel
theorem dX12_isSlack_9 : decode cX12_isSlack 9 = .ok (.ireturn, 1) := by decide +kernel
set_option maxRecDepth 20000 in
theorem ggX12_sheet_X12_isYear : GoodIn wsX12_sheet wsX12_isYear := goodIn_r _ [6, 7, 8, 9, 5, 10] rfl (by decide +kernel)
set_option maxRecDepth 20000 in
theorem gX12_sheet_X12_isYear : GoodIn wsX12_sheet (va_wsS RX12 147 yX12_isYear wsX12_isYear) := goodIn_app (goodIn_of _ (by decide +kernel)) ggX12_sheet_X12_isYear
theorem dX12_sheet_0 : decode cX12_sheet 0 = .ok (.iload_n 1, 1) := by decide +kernel
theorem dX12_sheet_1 : decode cX12_sheet 1 = .ok (.invokestatic 147, 3) := by decide +kernel
theorem dX12_sheet_4 : decode cX12_sheet 4 = .ok (.ifCond .ne 5, 3) := by decide +kernel
theorem dX12_sheet_7 : decode cX12_sheet 7 = .ok (.iconst (-1), 1) := by decide +kernel
theorem dX12_sheet_8 : decode cX12_sheet 8 = .ok (.ireturn, 1) := by decide +kernel
theorem dX12_sheet_9 : decode cX12_sheet 9 = .ok (.aload_n 0, 1) := by decide +kernel
theorem dX12_sheet_10 : decode cX12_sheet 10 = .ok (.getfield 133, 3) := by decide +kernel
theorem dX12_sheet_13 : decode cX12_sheet 13 = .ok (.bipush 8, 2) := by decide +kernel
theorem dX12_sheet_15 : decode cX12_sheet 15 = .ok (.if_icmp .ne 6, 3) := by decide +kernel
theorem dX12_sheet_18 : decode cX12_sheet 18 = .ok (.bipush (-3), 2) := by decide +kernel
theorem dX12_sheet_20 : decode cX12_sheet 20 = .ok (.ireturn, 1) := by decide +kernel
theorem dX12_sheet_21 : decode cX12_sheet 21 = .ok (.aload_n 0, 1) := by decide +kernel
theorem dX12_sheet_22 : decode cX12_sheet 22 = .ok (.getfield 9, 3) := by decide +kernel
theorem dX12_sheet_25 : decode cX12_sheet 25 = .ok (.bipush 47, 2) := by decide +kernel
theorem dX12_sheet_27 : decode cX12_sheet 27 = .ok (.aload_n 0, 1) := by decide +kernel
theorem dX12_sheet_28 : decode cX12_sheet 28 = .ok (.getfield 133, 3) := by decide +kernel
theorem dX12_sheet_31 : decode cX12_sheet 31 = .ok (.iadd, 1) := by decide +kernel
theorem dX12_sheet_32 : decode cX12_sheet 32 = .ok (.iload_n 1, 1) := by decide +kernel
theorem dX12_sheet_33 : decode cX12_sheet 33 = .ok (.iastore, 1) := by decide +kernel
theorem dX12_sheet_34 : decode cX12_sheet 34 = .ok (.aload_n 0, 1) := by decide +kernel
theorem dX12_sheet_35 : decode cX12_sheet 35 = .ok (.dup, 1) := by decide +kernel
theorem dX12_sheet_36 : decode cX12_sheet 36 = .ok (.getfield 133, 3) := by decide +kernel
theorem dX12_sheet_39 : decode cX12_sheet 39 = .ok (.iconst 1, 1) := by decide +kernel
theorem dX12_sheet_40 : decode cX12_sheet 40 = .ok (.iadd, 1) := by decide +kernel
theorem dX12_sheet_41 : decode cX12_sheet 41 = .ok (.putfield 133, 3) := by decide +kernel
theorem dX12_sheet_44 : decode cX12_sheet 44 = .ok (.aload_n 0, 1) := by decide +kernel
theorem dX12_sheet_45 : decode cX12_sheet 45 = .ok (.getfield 133, 3) := by decide +kernel
theorem dX12_sheet_48 : decode cX12_sheet 48 = .ok (.iconst 1, 1) := by decide +kernel
theorem dX12_sheet_49 : decode cX12_sheet 49 = .ok (.isub, 1) := by decide +kernel
theorem dX12_sheet_50 : decode cX12_sheet 50 = .ok (.ireturn, 1) := by decide +kernel
set_option maxRecDepth 20000 in
theorem ggX12_age_X12_isSheet : GoodIn wsX12_age wsX12_isSheet := goodIn_r _ [5, 6, 7, 8, 4, 9, 24, 25, 26, 27, 28, 29, 30, 31, 32, 33, 34, 35, 36, 37, 38, 39, 40, 41, 42, 43, 44, 45, 46, 47, 48, 49, 50, 51, 52, 53, 54, 55, 56, 57, 58, 59, 60, 61, 62, 63, 64, 65, 66, 67, 68, 69, 70, 71, 72, 73, 74, 75, 76, 77, 78, 79, 80, 81, 82, 83, 84, 85, 86] rfl (by decide +kernel)
set_option maxRecDepth 20000 in
theorem gX12_age_X12_isSheet : GoodIn wsX12_age (wsV RX12 151 RX12 yX12_isSheet wsX12_isSheet) := goodIn_app (goodIn_of _ (by decide +kernel)) ggX12_age_X12_isSheet
set_option maxRecDepth 20000 in
theorem ggX12_age_X12_isYear : GoodIn wsX12_age wsX12_isYear := goodIn_r _ [12, 13, 7, 8, 4, 9] rfl (by decide +kernel)
set_option maxRecDepth 20000 in
theorem gX12_age_X12_isYear : GoodIn wsX12_age (va_wsS RX12 147 yX12_isYear wsX12_isYear) := goodIn_app (goodIn_of _ (by decide +kernel)) ggX12_age_X12_isYear
set_option maxRecDepth 20000 in
theorem ggX12_age_X12_becomes : GoodIn wsX12_age wsX12_becomes := goodIn_r _ [17, 18, 19, 20, 21, 22, 23, 24, 25, 26, 27, 28, 29, 30, 31, 32, 33, 34, 35, 36, 37, 38, 39, 40, 41, 42, 43, 44, 45, 46, 47, 48, 49, 50, 51, 52, 53, 54, 55, 56, 57, 58, 59, 60, 61, 62, 63, 64, 65, 66, 67, 68, 69, 70, 71, 72, 73, 74, 75, 76, 77, 78, 79, 80, 81, 82, 83, 84, 85, 86] rfl (by decide +kernel)
set_option maxRecDepth 20000 in
theorem gX12_age_X12_becomes : GoodIn wsX12_age (wsV RX12 154 RX12 yX12_becomes wsX12_becomes) := goodIn_app (goodIn_of _ (by decide +kernel)) ggX12_age_X12_becomes
theorem dX12_age_0 : decode cX12_age 0 = .ok (.aload_n 0, 1) := by decide +kernel
theorem dX12_age_1 : decode cX12_age 1 = .ok (.iload_n 1, 1) := by decide +kernel
theorem dX12_age_2 : decode cX12_age 2 = .ok (.invokevirtual 151, 3) := by decide +kernel
theorem dX12_age_5 : decode cX12_age 5 = .ok (.ifCond .eq 22, 3) := by decide +kernel
theorem dX12_age_8 : decode cX12_age 8 = .ok (.iload_n 2, 1) := by decide +kernel
theorem dX12_age_9 : decode cX12_age 9 = .ok (.invokestatic 147, 3) := by decide +kernel
theorem dX12_age_12 : decode cX12_age 12 = .ok (.ifCond .eq 15, 3) := by decide +kernel
theorem dX12_age_15 : decode cX12_age 15 = .ok (.aload_n 0, 1) := by decide +kernel
theorem dX12_age_16 : decode cX12_age 16 = .ok (.bipush 47, 2) := by decide +kernel
theorem dX12_age_18 : decode cX12_age 18 = .ok (.iload_n 1, 1) := by decide +kernel
theorem dX12_age_19 : decode cX12_age 19 = .ok (.iadd, 1) := by decide +kernel
theorem dX12_age_20 : decode cX12_age 20 = .ok (.iload_n 2, 1) := by decide +kernel
theorem dX12_age_21 : decode cX12_age 21 = .ok (.invokevirtual 154, 3) := by decide +kernel
theorem dX12_age_24 : decode cX12_age 24 = .ok (.goto 4, 3) := by decide +kernel
theorem dX12_age_27 : decode cX12_age 27 = .ok (.iconst (-1), 1) := by decide +kernel
theorem dX12_age_28 : decode cX12_age 28 = .ok (.ireturn, 1) := by decide +kernel
set_option maxRecDepth 20000 in
theorem ggX12_hole_X12_isSheet : GoodIn wsX12_hole wsX12_isSheet := goodIn_r _ [9, 10, 11, 12, 8, 13, 14, 15, 16, 17, 18, 19, 20, 21, 22, 23, 24, 25, 26, 27, 28, 29, 30, 31, 32, 33, 34, 35, 36, 37, 38, 39, 40, 41, 42, 43, 44, 45, 46, 47, 48, 49, 50, 51, 52, 53, 54, 55, 56, 57, 58, 59, 60, 61, 62, 63, 64, 65, 66, 67, 68, 69, 70, 71, 72, 73, 74, 75, 76] rfl (by decide +kernel)
set_option maxRecDepth 20000 in
theorem gX12_hole_X12_isSheet : GoodIn wsX12_hole (wsV RX12 151 RX12 yX12_isSheet wsX12_isSheet) := goodIn_app (goodIn_of _ (by decide +kernel)) ggX12_hole_X12_isSheet
set_option maxRecDepth 20000 in
theorem ggX12_hole_X12_within : GoodIn wsX12_hole wsX12_within := goodIn_r _ [13] rfl (by decide +kernel)
set_option maxRecDepth 20000 in
theorem gX12_hole_X12_within : GoodIn wsX12_hole (va_wsS RX12 136 yX12_within wsX12_within) := goodIn_app (goodIn_of _ (by decide +kernel)) ggX12_hole_X12_within
theorem dX12_hole_0 : decode cX12_hole 0 = .ok (.aload_n 0, 1) := by decide +kernel
theorem dX12_hole_1 : decode cX12_hole 1 = .ok (.iload_n 1, 1) := by decide +kernel
theorem dX12_hole_2 : decode cX12_hole 2 = .ok (.invokevirtual 151, 3) := by decide +kernel
theorem dX12_hole_5 : decode cX12_hole 5 = .ok (.ifCond .eq 15, 3) := by decide +kernel
theorem dX12_hole_8 : decode cX12_hole 8 = .ok (.iload_n 2, 1) := by decide +kernel
theorem dX12_hole_9 : decode cX12_hole 9 = .ok (.i2l, 1) := by decide +kernel
theorem dX12_hole_10 : decode cX12_hole 10 = .ok (.lconst 0, 1) := by decide +kernel
theorem dX12_hole_11 : decode cX12_hole 11 = .ok (.ldc2_w 158, 3) := by decide +kernel
theorem dX12_hole_14 : decode cX12_hole 14 = .ok (.invokestatic 136, 3) := by decide +kernel
theorem dX12_hole_17 : decode cX12_hole 17 = .ok (.ifCond .ne 5, 3) := by decide +kernel
theorem dX12_hole_20 : decode cX12_hole 20 = .ok (.iconst (-1), 1) := by decide +kernel
theorem dX12_hole_21 : decode cX12_hole 21 = .ok (.ireturn, 1) := by decide +kernel
theorem dX12_hole_22 : decode cX12_hole 22 = .ok (.aload_n 0, 1) := by decide +kernel
theorem dX12_hole_23 : decode cX12_hole 23 = .ok (.getfield 140, 3) := by decide +kernel
theorem dX12_hole_26 : decode cX12_hole 26 = .ok (.bipush 40, 2) := by decide +kernel
theorem dX12_hole_28 : decode cX12_hole 28 = .ok (.if_icmp .ne 6, 3) := by decide +kernel
theorem dX12_hole_31 : decode cX12_hole 31 = .ok (.bipush (-3), 2) := by decide +kernel
theorem dX12_hole_33 : decode cX12_hole 33 = .ok (.ireturn, 1) := by decide +kernel
theorem dX12_hole_34 : decode cX12_hole 34 = .ok (.aload_n 0, 1) := by decide +kernel
theorem dX12_hole_35 : decode cX12_hole 35 = .ok (.getfield 22, 3) := by decide +kernel
theorem dX12_hole_38 : decode cX12_hole 38 = .ok (.aload_n 0, 1) := by decide +kernel
theorem dX12_hole_39 : decode cX12_hole 39 = .ok (.getfield 140, 3) := by decide +kernel
theorem dX12_hole_42 : decode cX12_hole 42 = .ok (.iload_n 1, 1) := by decide +kernel
theorem dX12_hole_43 : decode cX12_hole 43 = .ok (.iastore, 1) := by decide +kernel
theorem dX12_hole_44 : decode cX12_hole 44 = .ok (.aload_n 0, 1) := by decide +kernel
theorem dX12_hole_45 : decode cX12_hole 45 = .ok (.getfield 25, 3) := by decide +kernel
theorem dX12_hole_48 : decode cX12_hole 48 = .ok (.aload_n 0, 1) := by decide +kernel
theorem dX12_hole_49 : decode cX12_hole 49 = .ok (.getfield 140, 3) := by decide +kernel
theorem dX12_hole_52 : decode cX12_hole 52 = .ok (.iload_n 2, 1) := by decide +kernel
theorem dX12_hole_53 : decode cX12_hole 53 = .ok (.iastore, 1) := by decide +kernel
theorem dX12_hole_54 : decode cX12_hole 54 = .ok (.aload_n 0, 1) := by decide +kernel
theorem dX12_hole_55 : decode cX12_hole 55 = .ok (.dup, 1) := by decide +kernel
theorem dX12_hole_56 : decode cX12_hole 56 = .ok (.getfield 140, 3) := by decide +kernel
theorem dX12_hole_59 : decode cX12_hole 59 = .ok (.iconst 1, 1) := by decide +kernel
theorem dX12_hole_60 : decode cX12_hole 60 = .ok (.iadd, 1) := by decide +kernel
theorem dX12_hole_61 : decode cX12_hole 61 = .ok (.putfield 140, 3) := by decide +kernel
theorem dX12_hole_64 : decode cX12_hole 64 = .ok (.aload_n 0, 1) := by decide +kernel
theorem dX12_hole_65 : decode cX12_hole 65 = .ok (.getfield 140, 3) := by decide +kernel
theorem dX12_hole_68 : decode cX12_hole 68 = .ok (.iconst 1, 1) := by decide +kernel
theorem dX12_hole_69 : decode cX12_hole 69 = .ok (.isub, 1) := by decide +kernel
theorem dX12_hole_70 : decode cX12_hole 70 = .ok (.ireturn, 1) := by decide +kernel
theorem dX12_findWorms_0 : decode cX12_findWorms 0 = .ok (.iconst 0, 1) := by decide +kernel
theorem dX12_findWorms_1 : decode cX12_findWorms 1 = .ok (.istore_n 3, 1) := by decide +kernel
theorem dX12_findWorms_2 : decode cX12_findWorms 2 = .ok (.iconst 0, 1) := by decide +kernel
theorem dX12_findWorms_3 : decode cX12_findWorms 3 = .ok (.istore 4, 2) := by decide +kernel
theorem dX12_findWorms_5 : decode cX12_findWorms 5 = .ok (.iload 4, 2) := by decide +kernel
theorem dX12_findWorms_7 : decode cX12_findWorms 7 = .ok (.aload_n 0, 1) := by decide +kernel
theorem dX12_findWorms_8 : decode cX12_findWorms 8 = .ok (.getfield 140, 3) := by decide +kernel
theorem dX12_findWorms_11 : decode cX12_findWorms 11 = .ok (.if_icmp .ge 94, 3) := by decide +kernel
theorem dX12_findWorms_14 : decode cX12_findWorms 14 = .ok (.aload_n 0, 1) := by decide +kernel
theorem dX12_findWorms_15 : decode cX12_findWorms 15 = .ok (.getfield 31, 3) := by decide +kernel
theorem dX12_findWorms_18 : decode cX12_findWorms 18 = .ok (.iload 4, 2) := by decide +kernel
theorem dX12_findWorms_20 : decode cX12_findWorms 20 = .ok (.iconst (-1), 1) := by decide +kernel
theorem dX12_findWorms_21 : decode cX12_findWorms 21 = .ok (.iastore, 1) := by decide +kernel
theorem dX12_findWorms_22 : decode cX12_findWorms 22 = .ok (.aload_n 0, 1) := by decide +kernel
theorem dX12_findWorms_23 : decode cX12_findWorms 23 = .ok (.getfield 22, 3) := by decide +kernel
theorem dX12_findWorms_26 : decode cX12_findWorms 26 = .ok (.iload 4, 2) := by decide +kernel
theorem dX12_findWorms_28 : decode cX12_findWorms 28 = .ok (.iaload, 1) := by decide +kernel
theorem dX12_findWorms_29 : decode cX12_findWorms 29 = .ok (.iload_n 2, 1) := by decide +kernel
theorem dX12_findWorms_30 : decode cX12_findWorms 30 = .ok (.if_icmp .eq 69, 3) := by decide +kernel
theorem dX12_findWorms_33 : decode cX12_findWorms 33 = .ok (.iload_n 3, 1) := by decide +kernel
theorem dX12_findWorms_34 : decode cX12_findWorms 34 = .ok (.istore 5, 2) := by decide +kernel
theorem dX12_findWorms_36 : decode cX12_findWorms 36 = .ok (.iload 5, 2) := by decide +kernel
theorem dX12_findWorms_38 : decode cX12_findWorms 38 = .ok (.ifCond .le 49, 3) := by decide +kernel
theorem dX12_findWorms_41 : decode cX12_findWorms 41 = .ok (.aload_n 0, 1) := by decide +kernel
theorem dX12_findWorms_42 : decode cX12_findWorms 42 = .ok (.getfield 25, 3) := by decide +kernel
theorem dX12_findWorms_45 : decode cX12_findWorms 45 = .ok (.aload_n 0, 1) := by decide +kernel
theorem dX12_findWorms_46 : decode cX12_findWorms 46 = .ok (.getfield 28, 3) := by decide +kernel
theorem dX12_findWorms_49 : decode cX12_findWorms 49 = .ok (.iload 5, 2) := by decide +kernel
theorem dX12_findWorms_51 : decode cX12_findWorms 51 = .ok (.iconst 1, 1) := by decide +kernel
theorem dX12_findWorms_52 : decode cX12_findWorms 52 = .ok (.isub, 1) := by decide +kernel
theorem dX12_findWorms_53 : decode cX12_findWorms 53 = .ok (.iaload, 1) := by decide +kernel
theorem dX12_findWorms_54 : decode cX12_findWorms 54 = .ok (.iaload, 1) := by decide +kernel
theorem dX12_findWorms_55 : decode cX12_findWorms 55 = .ok (.aload_n 0, 1) := by decide +kernel
theorem dX12_findWorms_56 : decode cX12_findWorms 56 = .ok (.getfield 25, 3) := by decide +kernel
theorem dX12_findWorms_59 : decode cX12_findWorms 59 = .ok (.iload 4, 2) := by decide +kernel
theorem dX12_findWorms_61 : decode cX12_findWorms 61 = .ok (.iaload, 1) := by decide +kernel
theorem dX12_findWorms_62 : decode cX12_findWorms 62 = .ok (.if_icmp .le 25, 3) := by decide +kernel
theorem dX12_findWorms_65 : decode cX12_findWorms 65 = .ok (.aload_n 0, 1) := by decide +kernel
theorem dX12_findWorms_66 : decode cX12_findWorms 66 = .ok (.getfield 28, 3) := by decide +kernel
theorem dX12_findWorms_69 : decode cX12_findWorms 69 = .ok (.iload 5, 2) := by decide +kernel
theorem dX12_findWorms_71 : decode cX12_findWorms 71 = .ok (.aload_n 0, 1) := by decide +kernel
theorem dX12_findWorms_72 : decode cX12_findWorms 72 = .ok (.getfield 28, 3) := by decide +kernel
theorem dX12_findWorms_75 : decode cX12_findWorms 75 = .ok (.iload 5, 2) := by decide +kernel
theorem dX12_findWorms_77 : decode cX12_findWorms 77 = .ok (.iconst 1, 1) := by decide +kernel
theorem dX12_findWorms_78 : decode cX12_findWorms 78 = .ok (.isub, 1) := by decide +kernel
theorem dX12_findWorms_79 : decode cX12_findWorms 79 = .ok (.iaload, 1) := by decide +kernel
theorem dX12_findWorms_80 : decode cX12_findWorms 80 = .ok (.iastore, 1) := by decide +kernel
theorem dX12_findWorms_81 : decode cX12_findWorms 81 = .ok (.iinc 5 (-1), 3) := by decide +kernel
theorem dX12_findWorms_84 : decode cX12_findWorms 84 = .ok (.goto (-48), 3) := by decide +kernel
theorem dX12_findWorms_87 : decode cX12_findWorms 87 = .ok (.aload_n 0, 1) := by decide +kernel
theorem dX12_findWorms_88 : decode cX12_findWorms 88 = .ok (.getfield 28, 3) := by decide +kernel
theorem dX12_findWorms_91 : decode cX12_findWorms 91 = .ok (.iload 5, 2) := by decide +kernel
theorem dX12_findWorms_93 : decode cX12_findWorms 93 = .ok (.iload 4, 2) := by decide +kernel
theorem dX12_findWorms_95 : decode cX12_findWorms 95 = .ok (.iastore, 1) := by decide +kernel
theorem dX12_findWorms_96 : decode cX12_findWorms 96 = .ok (.iinc 3 1, 3) := by decide +kernel
theorem dX12_findWorms_99 : decode cX12_findWorms 99 = .ok (.iinc 4 1, 3) := by decide +kernel
theorem dX12_findWorms_102 : decode cX12_findWorms 102 = .ok (.goto (-97), 3) := by decide +kernel
theorem dX12_findWorms_105 : decode cX12_findWorms 105 = .ok (.aload_n 0, 1) := by decide +kernel
theorem dX12_findWorms_106 : decode cX12_findWorms 106 = .ok (.iconst 0, 1) := by decide +kernel
theorem dX12_findWorms_107 : decode cX12_findWorms 107 = .ok (.putfield 160, 3) := by decide +kernel
theorem dX12_findWorms_110 : decode cX12_findWorms 110 = .ok (.iconst 0, 1) := by decide +kernel
theorem dX12_findWorms_111 : decode cX12_findWorms 111 = .ok (.istore 4, 2) := by decide +kernel
theorem dX12_findWorms_113 : decode cX12_findWorms 113 = .ok (.iload 4, 2) := by decide +kernel
theorem dX12_findWorms_115 : decode cX12_findWorms 115 = .ok (.iload_n 3, 1) := by decide +kernel
theorem dX12_findWorms_116 : decode cX12_findWorms 116 = .ok (.if_icmp .ge 147, 3) := by decide +kernel
theorem dX12_findWorms_119 : decode cX12_findWorms 119 = .ok (.aload_n 0, 1) := by decide +kernel
theorem dX12_findWorms_120 : decode cX12_findWorms 120 = .ok (.getfield 28, 3) := by decide +kernel
theorem dX12_findWorms_123 : decode cX12_findWorms 123 = .ok (.iload 4, 2) := by decide +kernel
theorem dX12_findWorms_125 : decode cX12_findWorms 125 = .ok (.iaload, 1) := by decide +kernel
theorem dX12_findWorms_126 : decode cX12_findWorms 126 = .ok (.istore 5, 2) := by decide +kernel
theorem dX12_findWorms_128 : decode cX12_findWorms 128 = .ok (.iconst 1, 1) := by decide +kernel
theorem dX12_findWorms_129 : decode cX12_findWorms 129 = .ok (.aload_n 0, 1) := by decide +kernel
theorem dX12_findWorms_130 : decode cX12_findWorms 130 = .ok (.getfield 22, 3) := by decide +kernel
theorem dX12_findWorms_133 : decode cX12_findWorms 133 = .ok (.iload 5, 2) := by decide +kernel
theorem dX12_findWorms_135 : decode cX12_findWorms 135 = .ok (.iaload, 1) := by decide +kernel
theorem dX12_findWorms_136 : decode cX12_findWorms 136 = .ok (.ishl, 1) := by decide +kernel
theorem dX12_findWorms_137 : decode cX12_findWorms 137 = .ok (.istore 6, 2) := by decide +kernel
theorem dX12_findWorms_139 : decode cX12_findWorms 139 = .ok (.iload 4, 2) := by decide +kernel
theorem dX12_findWorms_141 : decode cX12_findWorms 141 = .ok (.ifCond .le 59, 3) := by decide +kernel
theorem dX12_findWorms_144 : decode cX12_findWorms 144 = .ok (.aload_n 0, 1) := by decide +kernel
theorem dX12_findWorms_145 : decode cX12_findWorms 145 = .ok (.getfield 25, 3) := by decide +kernel
theorem dX12_findWorms_148 : decode cX12_findWorms 148 = .ok (.iload 5, 2) := by decide +kernel
theorem dX12_findWorms_150 : decode cX12_findWorms 150 = .ok (.iaload, 1) := by decide +kernel
theorem dX12_findWorms_151 : decode cX12_findWorms 151 = .ok (.aload_n 0, 1) := by decide +kernel
theorem dX12_findWorms_152 : decode cX12_findWorms 152 = .ok (.getfield 25, 3) := by decide +kernel
theorem dX12_findWorms_155 : decode cX12_findWorms 155 = .ok (.aload_n 0, 1) := by decide +kernel
theorem dX12_findWorms_156 : decode cX12_findWorms 156 = .ok (.getfield 28, 3) := by decide +kernel
theorem dX12_findWorms_159 : decode cX12_findWorms 159 = .ok (.iload 4, 2) := by decide +kernel
theorem dX12_findWorms_161 : decode cX12_findWorms 161 = .ok (.ifCond .le 10, 3) := by decide +kernel
theorem dX12_findWorms_164 : decode cX12_findWorms 164 = .ok (.iload 4, 2) := by decide +kernel
theorem dX12_findWorms_166 : decode cX12_findWorms 166 = .ok (.iconst 1, 1) := by decide +kernel
theorem dX12_findWorms_167 : decode cX12_findWorms 167 = .ok (.isub, 1) := by decide +kernel
theorem dX12_findWorms_168 : decode cX12_findWorms 168 = .ok (.goto 4, 3) := by decide +kernel
theorem dX12_findWorms_171 : decode cX12_findWorms 171 = .ok (.iconst 0, 1) := by decide +kernel
theorem dX12_findWorms_172 : decode cX12_findWorms 172 = .ok (.iaload, 1) := by decide +kernel
theorem dX12_findWorms_173 : decode cX12_findWorms 173 = .ok (.iaload, 1) := by decide +kernel
theorem dX12_findWorms_174 : decode cX12_findWorms 174 = .ok (.isub, 1) := by decide +kernel
theorem dX12_findWorms_175 : decode cX12_findWorms 175 = .ok (.iload_n 1, 1) := by decide +kernel
theorem dX12_findWorms_176 : decode cX12_findWorms 176 = .ok (.if_icmp .gt 24, 3) := by decide +kernel
theorem dX12_findWorms_179 : decode cX12_findWorms 179 = .ok (.aload_n 0, 1) := by decide +kernel
theorem dX12_findWorms_180 : decode cX12_findWorms 180 = .ok (.getfield 34, 3) := by decide +kernel
theorem dX12_findWorms_183 : decode cX12_findWorms 183 = .ok (.aload_n 0, 1) := by decide +kernel
theorem dX12_findWorms_184 : decode cX12_findWorms 184 = .ok (.getfield 160, 3) := by decide +kernel
theorem dX12_findWorms_187 : decode cX12_findWorms 187 = .ok (.iconst 1, 1) := by decide +kernel
theorem dX12_findWorms_188 : decode cX12_findWorms 188 = .ok (.isub, 1) := by decide +kernel
theorem dX12_findWorms_189 : decode cX12_findWorms 189 = .ok (.iaload, 1) := by decide +kernel
theorem dX12_findWorms_190 : decode cX12_findWorms 190 = .ok (.iload 6, 2) := by decide +kernel
theorem dX12_findWorms_192 : decode cX12_findWorms 192 = .ok (.iand, 1) := by decide +kernel
theorem dX12_findWorms_193 : decode cX12_findWorms 193 = .ok (.ifCond .ne 7, 3) := by decide +kernel
theorem dX12_findWorms_196 : decode cX12_findWorms 196 = .ok (.iconst 1, 1) := by decide +kernel
theorem dX12_findWorms_197 : decode cX12_findWorms 197 = .ok (.goto 4, 3) := by decide +kernel
theorem dX12_findWorms_200 : decode cX12_findWorms 200 = .ok (.iconst 0, 1) := by decide +kernel
theorem dX12_findWorms_201 : decode cX12_findWorms 201 = .ok (.istore 7, 2) := by decide +kernel
theorem dX12_findWorms_203 : decode cX12_findWorms 203 = .ok (.iload 7, 2) := by decide +kernel
theorem dX12_findWorms_205 : decode cX12_findWorms 205 = .ok (.ifCond .ne 23, 3) := by decide +kernel
theorem dX12_findWorms_208 : decode cX12_findWorms 208 = .ok (.aload_n 0, 1) := by decide +kernel
theorem dX12_findWorms_209 : decode cX12_findWorms 209 = .ok (.getfield 34, 3) := by decide +kernel
theorem dX12_findWorms_212 : decode cX12_findWorms 212 = .ok (.aload_n 0, 1) := by decide +kernel
theorem dX12_findWorms_213 : decode cX12_findWorms 213 = .ok (.getfield 160, 3) := by decide +kernel
theorem dX12_findWorms_216 : decode cX12_findWorms 216 = .ok (.iconst 0, 1) := by decide +kernel
theorem dX12_findWorms_217 : decode cX12_findWorms 217 = .ok (.iastore, 1) := by decide +kernel
theorem dX12_findWorms_218 : decode cX12_findWorms 218 = .ok (.aload_n 0, 1) := by decide +kernel
theorem dX12_findWorms_219 : decode cX12_findWorms 219 = .ok (.dup, 1) := by decide +kernel
theorem dX12_findWorms_220 : decode cX12_findWorms 220 = .ok (.getfield 160, 3) := by decide +kernel
theorem dX12_findWorms_223 : decode cX12_findWorms 223 = .ok (.iconst 1, 1) := by decide +kernel
theorem dX12_findWorms_224 : decode cX12_findWorms 224 = .ok (.iadd, 1) := by decide +kernel
theorem dX12_findWorms_225 : decode cX12_findWorms 225 = .ok (.putfield 160, 3) := by decide +kernel
theorem dX12_findWorms_228 : decode cX12_findWorms 228 = .ok (.aload_n 0, 1) := by decide +kernel
theorem dX12_findWorms_229 : decode cX12_findWorms 229 = .ok (.getfield 34, 3) := by decide +kernel
theorem dX12_findWorms_232 : decode cX12_findWorms 232 = .ok (.aload_n 0, 1) := by decide +kernel
theorem dX12_findWorms_233 : decode cX12_findWorms 233 = .ok (.getfield 160, 3) := by decide +kernel
theorem dX12_findWorms_236 : decode cX12_findWorms 236 = .ok (.iconst 1, 1) := by decide +kernel
theorem dX12_findWorms_237 : decode cX12_findWorms 237 = .ok (.isub, 1) := by decide +kernel
theorem dX12_findWorms_238 : decode cX12_findWorms 238 = .ok (.dup2, 1) := by decide +kernel
theorem dX12_findWorms_239 : decode cX12_findWorms 239 = .ok (.iaload, 1) := by decide +kernel
theorem dX12_findWorms_240 : decode cX12_findWorms 240 = .ok (.iload 6, 2) := by decide +kernel
theorem dX12_findWorms_242 : decode cX12_findWorms 242 = .ok (.ior, 1) := by decide +kernel
theorem dX12_findWorms_243 : decode cX12_findWorms 243 = .ok (.iastore, 1) := by decide +kernel
theorem dX12_findWorms_244 : decode cX12_findWorms 244 = .ok (.aload_n 0, 1) := by decide +kernel
theorem dX12_findWorms_245 : decode cX12_findWorms 245 = .ok (.getfield 31, 3) := by decide +kernel
theorem dX12_findWorms_248 : decode cX12_findWorms 248 = .ok (.iload 5, 2) := by decide +kernel
theorem dX12_findWorms_250 : decode cX12_findWorms 250 = .ok (.aload_n 0, 1) := by decide +kernel
theorem dX12_findWorms_251 : decode cX12_findWorms 251 = .ok (.getfield 160, 3) := by decide +kernel
theorem dX12_findWorms_254 : decode cX12_findWorms 254 = .ok (.iconst 1, 1) := by decide +kernel
theorem dX12_findWorms_255 : decode cX12_findWorms 255 = .ok (.isub, 1) := by decide +kernel
theorem dX12_findWorms_256 : decode cX12_findWorms 256 = .ok (.iastore, 1) := by decide +kernel
theorem dX12_findWorms_257 : decode cX12_findWorms 257 = .ok (.iinc 4 1, 3) := by decide +kernel
theorem dX12_findWorms_260 : decode cX12_findWorms 260 = .ok (.goto (-147), 3) := by decide +kernel
theorem dX12_findWorms_263 : decode cX12_findWorms 263 = .ok (.return_, 1) := by decide +kernel
set_option maxRecDepth 20000 in
theorem ggX12_worms_X12_isSlack : GoodIn wsX12_worms wsX12_isSlack := goodIn_r _ [6, 7, 8, 9, 5, 10] rfl (by decide +kernel)
set_option maxRecDepth 20000 in
theorem gX12_worms_X12_isSlack : GoodIn wsX12_worms (va_wsS RX12 163 yX12_isSlack wsX12_isSlack) := goodIn_app (goodIn_of _ (by decide +kernel)) ggX12_worms_X12_isSlack
set_option maxRecDepth 20000 in
theorem ggX12_worms_X12_findWorms : GoodIn wsX12_worms wsX12_findWorms := goodIn_r _ [14, 15, 16, 17, 18, 19, 1, 2, 20, 21, 22, 23, 24, 25, 26, 27, 28, 29, 30, 31, 32, 33, 34, 35, 36, 37, 38, 39, 40, 41, 42, 43, 44, 45, 46, 47, 48, 49, 50, 51, 52, 53, 54, 55, 56, 57, 58, 59, 60, 61, 62, 63, 64, 65, 66, 67, 68, 69, 70, 71, 72, 73, 74, 75, 76, 77, 78, 79, 80, 81, 82] rfl (by decide +kernel)
set_option maxRecDepth 20000 in
theorem gX12_worms_X12_findWorms : GoodIn wsX12_worms (wsV RX12 166 RX12 yX12_findWorms wsX12_findWorms) := goodIn_app (goodIn_of _ (by decide +kernel)) ggX12_worms_X12_findWorms
theorem dX12_worms_0 : decode cX12_worms 0 = .ok (.iload_n 1, 1) := by decide +kernel
theorem dX12_worms_1 : decode cX12_worms 1 = .ok (.invokestatic 163, 3) := by decide +kernel
theorem dX12_worms_4 : decode cX12_worms 4 = .ok (.ifCond .eq 8, 3) := by decide +kernel
theorem dX12_worms_7 : decode cX12_worms 7 = .ok (.iload_n 2, 1) := by decide +kernel
theorem dX12_worms_8 : decode cX12_worms 8 = .ok (.iconst (-1), 1) := by decide +kernel
theorem dX12_worms_9 : decode cX12_worms 9 = .ok (.if_icmp .ge 5, 3) := by decide +kernel
theorem dX12_worms_12 : decode cX12_worms 12 = .ok (.iconst (-1), 1) := by decide +kernel
theorem dX12_worms_13 : decode cX12_worms 13 = .ok (.ireturn, 1) := by decide +kernel
theorem dX12_worms_14 : decode cX12_worms 14 = .ok (.aload_n 0, 1) := by decide +kernel
theorem dX12_worms_15 : decode cX12_worms 15 = .ok (.iload_n 1, 1) := by decide +kernel
theorem dX12_worms_16 : decode cX12_worms 16 = .ok (.iconst (-1), 1) := by decide +kernel
theorem dX12_worms_17 : decode cX12_worms 17 = .ok (.invokevirtual 166, 3) := by decide +kernel
theorem dX12_worms_20 : decode cX12_worms 20 = .ok (.iload_n 2, 1) := by decide +kernel
theorem dX12_worms_21 : decode cX12_worms 21 = .ok (.iconst (-1), 1) := by decide +kernel
theorem dX12_worms_22 : decode cX12_worms 22 = .ok (.if_icmp .ne 10, 3) := by decide +kernel
theorem dX12_worms_25 : decode cX12_worms 25 = .ok (.aload_n 0, 1) := by decide +kernel
theorem dX12_worms_26 : decode cX12_worms 26 = .ok (.getfield 160, 3) := by decide +kernel
theorem dX12_worms_29 : decode cX12_worms 29 = .ok (.goto 21, 3) := by decide +kernel
theorem dX12_worms_32 : decode cX12_worms 32 = .ok (.iload_n 2, 1) := by decide +kernel
theorem dX12_worms_33 : decode cX12_worms 33 = .ok (.aload_n 0, 1) := by decide +kernel
theorem dX12_worms_34 : decode cX12_worms 34 = .ok (.getfield 160, 3) := by decide +kernel
theorem dX12_worms_37 : decode cX12_worms 37 = .ok (.if_icmp .ge 12, 3) := by decide +kernel
theorem dX12_worms_40 : decode cX12_worms 40 = .ok (.aload_n 0, 1) := by decide +kernel
theorem dX12_worms_41 : decode cX12_worms 41 = .ok (.getfield 34, 3) := by decide +kernel
theorem dX12_worms_44 : decode cX12_worms 44 = .ok (.iload_n 2, 1) := by decide +kernel
theorem dX12_worms_45 : decode cX12_worms 45 = .ok (.iaload, 1) := by decide +kernel
theorem dX12_worms_46 : decode cX12_worms 46 = .ok (.goto 4, 3) := by decide +kernel
theorem dX12_worms_49 : decode cX12_worms 49 = .ok (.iconst (-1), 1) := by decide +kernel
theorem dX12_worms_50 : decode cX12_worms 50 = .ok (.ireturn, 1) := by decide +kernel
set_option maxRecDepth 20000 in
theorem ggX12_led_X12_isHole : GoodIn wsX12_led wsX12_isHole := goodIn_r _ [6, 7, 8, 9, 5, 10, 24, 25, 26, 27, 28, 29, 30, 31, 32, 33, 34, 35, 36, 37, 38, 39, 40, 41, 42, 43, 44, 45, 46, 47, 48, 49, 50, 51, 52, 53, 54, 55, 56, 57, 58, 59, 60, 61, 62, 63, 64, 65, 66, 67, 68, 69, 70, 71, 72, 73, 74, 75, 76, 77, 78, 79, 80, 81, 82, 83, 84, 85, 86] rfl (by decide +kernel)
set_option maxRecDepth 20000 in
theorem gX12_led_X12_isHole : GoodIn wsX12_led (wsV RX12 170 RX12 yX12_isHole wsX12_isHole) := goodIn_app (goodIn_of _ (by decide +kernel)) ggX12_led_X12_isHole
set_option maxRecDepth 20000 in
theorem ggX12_led_X12_isSlack : GoodIn wsX12_led wsX12_isSlack := goodIn_r _ [13, 14, 8, 9, 5, 10] rfl (by decide +kernel)
set_option maxRecDepth 20000 in
theorem gX12_led_X12_isSlack : GoodIn wsX12_led (va_wsS RX12 163 yX12_isSlack wsX12_isSlack) := goodIn_app (goodIn_of _ (by decide +kernel)) ggX12_led_X12_isSlack
set_option maxRecDepth 20000 in
theorem ggX12_led_X12_findWorms : GoodIn wsX12_led wsX12_findWorms := goodIn_r _ [18, 7, 1, 19, 20, 21, 22, 23, 24, 25, 26, 27, 28, 29, 30, 31, 32, 33, 34, 35, 36, 37, 38, 39, 40, 41, 42, 43, 44, 45, 46, 47, 48, 49, 50, 51, 52, 53, 54, 55, 56, 57, 58, 59, 60, 61, 62, 63, 64, 65, 66, 67, 68, 69, 70, 71, 72, 73, 74, 75, 76, 77, 78, 79, 80, 81, 82, 83, 84, 85, 86] rfl (by decide +kernel)
set_option maxRecDepth 20000 in
theorem gX12_led_X12_findWorms : GoodIn wsX12_led (wsV RX12 166 RX12 yX12_findWorms wsX12_findWorms) := goodIn_app (goodIn_of _ (by decide +kernel)) ggX12_led_X12_findWorms
theorem dX12_led_0 : decode cX12_led 0 = .ok (.aload_n 0, 1) := by decide +kernel
theorem dX12_led_1 : decode cX12_led 1 = .ok (.iload_n 1, 1) := by decide +kernel
theorem dX12_led_2 : decode cX12_led 2 = .ok (.invokevirtual 170, 3) := by decide +kernel
theorem dX12_led_5 : decode cX12_led 5 = .ok (.ifCond .eq 10, 3) := by decide +kernel
theorem dX12_led_8 : decode cX12_led 8 = .ok (.iload_n 2, 1) := by decide +kernel
theorem dX12_led_9 : decode cX12_led 9 = .ok (.invokestatic 163, 3) := by decide +kernel
theorem dX12_led_12 : decode cX12_led 12 = .ok (.ifCond .ne 5, 3) := by decide +kernel
theorem dX12_led_15 : decode cX12_led 15 = .ok (.iconst (-1), 1) := by decide +kernel
theorem dX12_led_16 : decode cX12_led 16 = .ok (.ireturn, 1) := by decide +kernel
theorem dX12_led_17 : decode cX12_led 17 = .ok (.aload_n 0, 1) := by decide +kernel
theorem dX12_led_18 : decode cX12_led 18 = .ok (.iload_n 2, 1) := by decide +kernel
theorem dX12_led_19 : decode cX12_led 19 = .ok (.iconst (-1), 1) := by decide +kernel
theorem dX12_led_20 : decode cX12_led 20 = .ok (.invokevirtual 166, 3) := by decide +kernel
theorem dX12_led_23 : decode cX12_led 23 = .ok (.aload_n 0, 1) := by decide +kernel
theorem dX12_led_24 : decode cX12_led 24 = .ok (.getfield 31, 3) := by decide +kernel
theorem dX12_led_27 : decode cX12_led 27 = .ok (.iload_n 1, 1) := by decide +kernel
theorem dX12_led_28 : decode cX12_led 28 = .ok (.iaload, 1) := by decide +kernel
theorem dX12_led_29 : decode cX12_led 29 = .ok (.ireturn, 1) := by decide +kernel
theorem dX12_lets_0 : decode cX12_lets 0 = .ok (.iconst 0, 1) := by decide +kernel
theorem dX12_lets_1 : decode cX12_lets 1 = .ok (.istore_n 1, 1) := by decide +kernel
theorem dX12_lets_2 : decode cX12_lets 2 = .ok (.iload_n 1, 1) := by decide +kernel
theorem dX12_lets_3 : decode cX12_lets 3 = .ok (.aload_n 0, 1) := by decide +kernel
theorem dX12_lets_4 : decode cX12_lets 4 = .ok (.getfield 160, 3) := by decide +kernel
theorem dX12_lets_7 : decode cX12_lets 7 = .ok (.if_icmp .ge 108, 3) := by decide +kernel
theorem dX12_lets_10 : decode cX12_lets 10 = .ok (.iconst 0, 1) := by decide +kernel
theorem dX12_lets_11 : decode cX12_lets 11 = .ok (.istore_n 2, 1) := by decide +kernel
theorem dX12_lets_12 : decode cX12_lets 12 = .ok (.aload_n 0, 1) := by decide +kernel
theorem dX12_lets_13 : decode cX12_lets 13 = .ok (.getfield 34, 3) := by decide +kernel
theorem dX12_lets_16 : decode cX12_lets 16 = .ok (.iload_n 1, 1) := by decide +kernel
theorem dX12_lets_17 : decode cX12_lets 17 = .ok (.iaload, 1) := by decide +kernel
theorem dX12_lets_18 : decode cX12_lets 18 = .ok (.istore_n 3, 1) := by decide +kernel
theorem dX12_lets_19 : decode cX12_lets 19 = .ok (.iconst 0, 1) := by decide +kernel
theorem dX12_lets_20 : decode cX12_lets 20 = .ok (.istore 4, 2) := by decide +kernel
theorem dX12_lets_22 : decode cX12_lets 22 = .ok (.iload 4, 2) := by decide +kernel
theorem dX12_lets_24 : decode cX12_lets 24 = .ok (.aload_n 0, 1) := by decide +kernel
theorem dX12_lets_25 : decode cX12_lets 25 = .ok (.getfield 173, 3) := by decide +kernel
theorem dX12_lets_28 : decode cX12_lets 28 = .ok (.if_icmp .ge 81, 3) := by decide +kernel
theorem dX12_lets_31 : decode cX12_lets 31 = .ok (.iload_n 3, 1) := by decide +kernel
theorem dX12_lets_32 : decode cX12_lets 32 = .ok (.aload_n 0, 1) := by decide +kernel
theorem dX12_lets_33 : decode cX12_lets 33 = .ok (.getfield 37, 3) := by decide +kernel
theorem dX12_lets_36 : decode cX12_lets 36 = .ok (.iload 4, 2) := by decide +kernel
theorem dX12_lets_38 : decode cX12_lets 38 = .ok (.iaload, 1) := by decide +kernel
theorem dX12_lets_39 : decode cX12_lets 39 = .ok (.ishr, 1) := by decide +kernel
theorem dX12_lets_40 : decode cX12_lets 40 = .ok (.iconst 1, 1) := by decide +kernel
theorem dX12_lets_41 : decode cX12_lets 41 = .ok (.iand, 1) := by decide +kernel
theorem dX12_lets_42 : decode cX12_lets 42 = .ok (.iconst 1, 1) := by decide +kernel
theorem dX12_lets_43 : decode cX12_lets 43 = .ok (.if_icmp .ne 7, 3) := by decide +kernel
theorem dX12_lets_46 : decode cX12_lets 46 = .ok (.iconst 1, 1) := by decide +kernel
theorem dX12_lets_47 : decode cX12_lets 47 = .ok (.goto 4, 3) := by decide +kernel
theorem dX12_lets_50 : decode cX12_lets 50 = .ok (.iconst 0, 1) := by decide +kernel
theorem dX12_lets_51 : decode cX12_lets 51 = .ok (.istore 5, 2) := by decide +kernel
theorem dX12_lets_53 : decode cX12_lets 53 = .ok (.iload 5, 2) := by decide +kernel
theorem dX12_lets_55 : decode cX12_lets 55 = .ok (.ifCond .eq 19, 3) := by decide +kernel
theorem dX12_lets_58 : decode cX12_lets 58 = .ok (.iload_n 3, 1) := by decide +kernel
theorem dX12_lets_59 : decode cX12_lets 59 = .ok (.iconst 1, 1) := by decide +kernel
theorem dX12_lets_60 : decode cX12_lets 60 = .ok (.aload_n 0, 1) := by decide +kernel
theorem dX12_lets_61 : decode cX12_lets 61 = .ok (.getfield 37, 3) := by decide +kernel
theorem dX12_lets_64 : decode cX12_lets 64 = .ok (.iload 4, 2) := by decide +kernel
theorem dX12_lets_66 : decode cX12_lets 66 = .ok (.iaload, 1) := by decide +kernel
theorem dX12_lets_67 : decode cX12_lets 67 = .ok (.ishl, 1) := by decide +kernel
theorem dX12_lets_68 : decode cX12_lets 68 = .ok (.iconst (-1), 1) := by decide +kernel
theorem dX12_lets_69 : decode cX12_lets 69 = .ok (.ixor, 1) := by decide +kernel
theorem dX12_lets_70 : decode cX12_lets 70 = .ok (.iand, 1) := by decide +kernel
theorem dX12_lets_71 : decode cX12_lets 71 = .ok (.goto 4, 3) := by decide +kernel
theorem dX12_lets_74 : decode cX12_lets 74 = .ok (.iload_n 3, 1) := by decide +kernel
theorem dX12_lets_75 : decode cX12_lets 75 = .ok (.istore_n 3, 1) := by decide +kernel
theorem dX12_lets_76 : decode cX12_lets 76 = .ok (.iload_n 2, 1) := by decide +kernel
theorem dX12_lets_77 : decode cX12_lets 77 = .ok (.iconst 1, 1) := by decide +kernel
theorem dX12_lets_78 : decode cX12_lets 78 = .ok (.if_icmp .ne 14, 3) := by decide +kernel
theorem dX12_lets_81 : decode cX12_lets 81 = .ok (.iload 5, 2) := by decide +kernel
theorem dX12_lets_83 : decode cX12_lets 83 = .ok (.ifCond .ne 9, 3) := by decide +kernel
theorem dX12_lets_86 : decode cX12_lets 86 = .ok (.iload_n 3, 1) := by decide +kernel
theorem dX12_lets_87 : decode cX12_lets 87 = .ok (.ifCond .eq 5, 3) := by decide +kernel
theorem dX12_lets_90 : decode cX12_lets 90 = .ok (.iconst 0, 1) := by decide +kernel
theorem dX12_lets_91 : decode cX12_lets 91 = .ok (.ireturn, 1) := by decide +kernel
theorem dX12_lets_92 : decode cX12_lets 92 = .ok (.iload 5, 2) := by decide +kernel
theorem dX12_lets_94 : decode cX12_lets 94 = .ok (.ifCond .eq 7, 3) := by decide +kernel
theorem dX12_lets_97 : decode cX12_lets 97 = .ok (.iconst 1, 1) := by decide +kernel
theorem dX12_lets_98 : decode cX12_lets 98 = .ok (.goto 4, 3) := by decide +kernel
theorem dX12_lets_101 : decode cX12_lets 101 = .ok (.iload_n 2, 1) := by decide +kernel
theorem dX12_lets_102 : decode cX12_lets 102 = .ok (.istore_n 2, 1) := by decide +kernel
theorem dX12_lets_103 : decode cX12_lets 103 = .ok (.iinc 4 1, 3) := by decide +kernel
theorem dX12_lets_106 : decode cX12_lets 106 = .ok (.goto (-84), 3) := by decide +kernel
theorem dX12_lets_109 : decode cX12_lets 109 = .ok (.iinc 1 1, 3) := by decide +kernel
theorem dX12_lets_112 : decode cX12_lets 112 = .ok (.goto (-110), 3) := by decide +kernel
theorem dX12_lets_115 : decode cX12_lets 115 = .ok (.iconst 1, 1) := by decide +kernel
theorem dX12_lets_116 : decode cX12_lets 116 = .ok (.ireturn, 1) := by decide +kernel
set_option maxRecDepth 20000 in
theorem ggX12_goFrom_X12_lets : GoodIn wsX12_goFrom wsX12_lets := goodIn_r _ [12, 13, 14, 1, 6, 18, 19, 20, 21, 22, 23, 24, 25, 26, 27, 28, 29, 30, 31, 32, 33, 34, 35, 36, 37, 38, 39, 40, 41, 42, 43, 44, 45, 46, 47, 48, 49, 50, 51, 52, 53, 54, 55, 56, 57, 58, 59, 60, 61, 62, 63, 64, 65, 66, 67, 68, 69, 70, 71, 72, 73, 74, 75, 76, 77, 78, 79, 80] rfl (by decide +kernel)
set_option maxRecDepth 20000 in
theorem gX12_goFrom_X12_lets : GoodIn wsX12_goFrom (wsV RX12 185 RX12 yX12_lets wsX12_lets) := goodIn_app (goodIn_of _ (by decide +kernel)) ggX12_goFrom_X12_lets
set_option maxRecDepth 20000 in
theorem ggX12_goFrom_X12_goFrom : GoodIn wsX12_goFrom wsX12_goFrom := goodIn_r _ [0, 1, 2, 3, 4, 5, 6, 7, 8, 9, 10, 11, 12, 13, 14, 15, 16, 17, 18, 19, 20, 21, 22, 23, 24, 25, 26, 27, 28, 29, 30, 31, 32, 33, 34, 35, 36, 37, 38, 39, 40, 41, 42, 43, 44, 45, 46, 47, 48, 49, 50, 51, 52, 53, 54, 55, 56, 57, 58, 59, 60, 61, 62, 63, 64, 65, 66, 67, 68, 69, 70, 71, 72, 73, 74, 75, 76, 77, 78, 79, 80] rfl (by decide +kernel)
set_option maxRecDepth 20000 in
theorem gX12_goFrom_X12_goFrom : GoodIn wsX12_goFrom (wsV RX12 189 RX12 yX12_goFrom wsX12_goFrom) := goodIn_app (goodIn_of _ (by decide +kernel)) ggX12_goFrom_X12_goFrom
theorem dX12_goFrom_0 : decode cX12_goFrom 0 = .ok (.aload_n 0, 1) := by decide +kernel
theorem dX12_goFrom_1 : decode cX12_goFrom 1 = .ok (.getfield 173, 3) := by decide +kernel
theorem dX12_goFrom_4 : decode cX12_goFrom 4 = .ok (.aload_n 0, 1) := by decide +kernel
theorem dX12_goFrom_5 : decode cX12_goFrom 5 = .ok (.getfield 176, 3) := by decide +kernel
theorem dX12_goFrom_8 : decode cX12_goFrom 8 = .ok (.if_icmp .ne 103, 3) := by decide +kernel
theorem dX12_goFrom_11 : decode cX12_goFrom 11 = .ok (.aload_n 0, 1) := by decide +kernel
theorem dX12_goFrom_12 : decode cX12_goFrom 12 = .ok (.aload_n 0, 1) := by decide +kernel
theorem dX12_goFrom_13 : decode cX12_goFrom 13 = .ok (.getfield 179, 3) := by decide +kernel
theorem dX12_goFrom_16 : decode cX12_goFrom 16 = .ok (.ifCond .ne 7, 3) := by decide +kernel
theorem dX12_goFrom_19 : decode cX12_goFrom 19 = .ok (.iload_n 2, 1) := by decide +kernel
theorem dX12_goFrom_20 : decode cX12_goFrom 20 = .ok (.goto 7, 3) := by decide +kernel
theorem dX12_goFrom_23 : decode cX12_goFrom 23 = .ok (.aload_n 0, 1) := by decide +kernel
theorem dX12_goFrom_24 : decode cX12_goFrom 24 = .ok (.getfield 182, 3) := by decide +kernel
theorem dX12_goFrom_27 : decode cX12_goFrom 27 = .ok (.putfield 182, 3) := by decide +kernel
theorem dX12_goFrom_30 : decode cX12_goFrom 30 = .ok (.aload_n 0, 1) := by decide +kernel
theorem dX12_goFrom_31 : decode cX12_goFrom 31 = .ok (.dup, 1) := by decide +kernel
theorem dX12_goFrom_32 : decode cX12_goFrom 32 = .ok (.getfield 179, 3) := by decide +kernel
theorem dX12_goFrom_35 : decode cX12_goFrom 35 = .ok (.iconst 1, 1) := by decide +kernel
theorem dX12_goFrom_36 : decode cX12_goFrom 36 = .ok (.iadd, 1) := by decide +kernel
theorem dX12_goFrom_37 : decode cX12_goFrom 37 = .ok (.putfield 179, 3) := by decide +kernel
theorem dX12_goFrom_40 : decode cX12_goFrom 40 = .ok (.iconst 1, 1) := by decide +kernel
theorem dX12_goFrom_41 : decode cX12_goFrom 41 = .ok (.istore_n 3, 1) := by decide +kernel
theorem dX12_goFrom_42 : decode cX12_goFrom 42 = .ok (.iload_n 3, 1) := by decide +kernel
theorem dX12_goFrom_43 : decode cX12_goFrom 43 = .ok (.aload_n 0, 1) := by decide +kernel
theorem dX12_goFrom_44 : decode cX12_goFrom 44 = .ok (.getfield 173, 3) := by decide +kernel
theorem dX12_goFrom_47 : decode cX12_goFrom 47 = .ok (.if_icmp .ge 63, 3) := by decide +kernel
theorem dX12_goFrom_50 : decode cX12_goFrom 50 = .ok (.aload_n 0, 1) := by decide +kernel
theorem dX12_goFrom_51 : decode cX12_goFrom 51 = .ok (.getfield 40, 3) := by decide +kernel
theorem dX12_goFrom_54 : decode cX12_goFrom 54 = .ok (.bipush 8, 2) := by decide +kernel
theorem dX12_goFrom_56 : decode cX12_goFrom 56 = .ok (.aload_n 0, 1) := by decide +kernel
theorem dX12_goFrom_57 : decode cX12_goFrom 57 = .ok (.getfield 37, 3) := by decide +kernel
theorem dX12_goFrom_60 : decode cX12_goFrom 60 = .ok (.iload_n 3, 1) := by decide +kernel
theorem dX12_goFrom_61 : decode cX12_goFrom 61 = .ok (.iaload, 1) := by decide +kernel
theorem dX12_goFrom_62 : decode cX12_goFrom 62 = .ok (.imul, 1) := by decide +kernel
theorem dX12_goFrom_63 : decode cX12_goFrom 63 = .ok (.aload_n 0, 1) := by decide +kernel
theorem dX12_goFrom_64 : decode cX12_goFrom 64 = .ok (.getfield 37, 3) := by decide +kernel
theorem dX12_goFrom_67 : decode cX12_goFrom 67 = .ok (.iload_n 3, 1) := by decide +kernel
theorem dX12_goFrom_68 : decode cX12_goFrom 68 = .ok (.iconst 1, 1) := by decide +kernel
theorem dX12_goFrom_69 : decode cX12_goFrom 69 = .ok (.isub, 1) := by decide +kernel
theorem dX12_goFrom_70 : decode cX12_goFrom 70 = .ok (.iaload, 1) := by decide +kernel
theorem dX12_goFrom_71 : decode cX12_goFrom 71 = .ok (.iadd, 1) := by decide +kernel
theorem dX12_goFrom_72 : decode cX12_goFrom 72 = .ok (.dup2, 1) := by decide +kernel
theorem dX12_goFrom_73 : decode cX12_goFrom 73 = .ok (.iaload, 1) := by decide +kernel
theorem dX12_goFrom_74 : decode cX12_goFrom 74 = .ok (.iconst 1, 1) := by decide +kernel
theorem dX12_goFrom_75 : decode cX12_goFrom 75 = .ok (.iadd, 1) := by decide +kernel
theorem dX12_goFrom_76 : decode cX12_goFrom 76 = .ok (.iastore, 1) := by decide +kernel
theorem dX12_goFrom_77 : decode cX12_goFrom 77 = .ok (.aload_n 0, 1) := by decide +kernel
theorem dX12_goFrom_78 : decode cX12_goFrom 78 = .ok (.getfield 40, 3) := by decide +kernel
theorem dX12_goFrom_81 : decode cX12_goFrom 81 = .ok (.bipush 8, 2) := by decide +kernel
theorem dX12_goFrom_83 : decode cX12_goFrom 83 = .ok (.aload_n 0, 1) := by decide +kernel
theorem dX12_goFrom_84 : decode cX12_goFrom 84 = .ok (.getfield 37, 3) := by decide +kernel
theorem dX12_goFrom_87 : decode cX12_goFrom 87 = .ok (.iload_n 3, 1) := by decide +kernel
theorem dX12_goFrom_88 : decode cX12_goFrom 88 = .ok (.iconst 1, 1) := by decide +kernel
theorem dX12_goFrom_89 : decode cX12_goFrom 89 = .ok (.isub, 1) := by decide +kernel
theorem dX12_goFrom_90 : decode cX12_goFrom 90 = .ok (.iaload, 1) := by decide +kernel
theorem dX12_goFrom_91 : decode cX12_goFrom 91 = .ok (.imul, 1) := by decide +kernel
theorem dX12_goFrom_92 : decode cX12_goFrom 92 = .ok (.aload_n 0, 1) := by decide +kernel
theorem dX12_goFrom_93 : decode cX12_goFrom 93 = .ok (.getfield 37, 3) := by decide +kernel
theorem dX12_goFrom_96 : decode cX12_goFrom 96 = .ok (.iload_n 3, 1) := by decide +kernel
theorem dX12_goFrom_97 : decode cX12_goFrom 97 = .ok (.iaload, 1) := by decide +kernel
theorem dX12_goFrom_98 : decode cX12_goFrom 98 = .ok (.iadd, 1) := by decide +kernel
theorem dX12_goFrom_99 : decode cX12_goFrom 99 = .ok (.dup2, 1) := by decide +kernel
theorem dX12_goFrom_100 : decode cX12_goFrom 100 = .ok (.iaload, 1) := by decide +kernel
theorem dX12_goFrom_101 : decode cX12_goFrom 101 = .ok (.iconst 1, 1) := by decide +kernel
theorem dX12_goFrom_102 : decode cX12_goFrom 102 = .ok (.iadd, 1) := by decide +kernel
theorem dX12_goFrom_103 : decode cX12_goFrom 103 = .ok (.iastore, 1) := by decide +kernel
theorem dX12_goFrom_104 : decode cX12_goFrom 104 = .ok (.iinc 3 1, 3) := by decide +kernel
theorem dX12_goFrom_107 : decode cX12_goFrom 107 = .ok (.goto (-65), 3) := by decide +kernel
theorem dX12_goFrom_110 : decode cX12_goFrom 110 = .ok (.return_, 1) := by decide +kernel
theorem dX12_goFrom_111 : decode cX12_goFrom 111 = .ok (.iconst 0, 1) := by decide +kernel
theorem dX12_goFrom_112 : decode cX12_goFrom 112 = .ok (.istore_n 3, 1) := by decide +kernel
theorem dX12_goFrom_113 : decode cX12_goFrom 113 = .ok (.iload_n 3, 1) := by decide +kernel
theorem dX12_goFrom_114 : decode cX12_goFrom 114 = .ok (.aload_n 0, 1) := by decide +kernel
theorem dX12_goFrom_115 : decode cX12_goFrom 115 = .ok (.getfield 133, 3) := by decide +kernel
theorem dX12_goFrom_118 : decode cX12_goFrom 118 = .ok (.if_icmp .ge 71, 3) := by decide +kernel
theorem dX12_goFrom_121 : decode cX12_goFrom 121 = .ok (.iload_n 1, 1) := by decide +kernel
theorem dX12_goFrom_122 : decode cX12_goFrom 122 = .ok (.iload_n 3, 1) := by decide +kernel
theorem dX12_goFrom_123 : decode cX12_goFrom 123 = .ok (.ishr, 1) := by decide +kernel
theorem dX12_goFrom_124 : decode cX12_goFrom 124 = .ok (.iconst 1, 1) := by decide +kernel
theorem dX12_goFrom_125 : decode cX12_goFrom 125 = .ok (.iand, 1) := by decide +kernel
theorem dX12_goFrom_126 : decode cX12_goFrom 126 = .ok (.ifCond .ne 57, 3) := by decide +kernel
theorem dX12_goFrom_129 : decode cX12_goFrom 129 = .ok (.aload_n 0, 1) := by decide +kernel
theorem dX12_goFrom_130 : decode cX12_goFrom 130 = .ok (.getfield 37, 3) := by decide +kernel
theorem dX12_goFrom_133 : decode cX12_goFrom 133 = .ok (.aload_n 0, 1) := by decide +kernel
theorem dX12_goFrom_134 : decode cX12_goFrom 134 = .ok (.getfield 173, 3) := by decide +kernel
theorem dX12_goFrom_137 : decode cX12_goFrom 137 = .ok (.iload_n 3, 1) := by decide +kernel
theorem dX12_goFrom_138 : decode cX12_goFrom 138 = .ok (.iastore, 1) := by decide +kernel
theorem dX12_goFrom_139 : decode cX12_goFrom 139 = .ok (.aload_n 0, 1) := by decide +kernel
theorem dX12_goFrom_140 : decode cX12_goFrom 140 = .ok (.dup, 1) := by decide +kernel
theorem dX12_goFrom_141 : decode cX12_goFrom 141 = .ok (.getfield 173, 3) := by decide +kernel
theorem dX12_goFrom_144 : decode cX12_goFrom 144 = .ok (.iconst 1, 1) := by decide +kernel
theorem dX12_goFrom_145 : decode cX12_goFrom 145 = .ok (.iadd, 1) := by decide +kernel
theorem dX12_goFrom_146 : decode cX12_goFrom 146 = .ok (.putfield 173, 3) := by decide +kernel
theorem dX12_goFrom_149 : decode cX12_goFrom 149 = .ok (.aload_n 0, 1) := by decide +kernel
theorem dX12_goFrom_150 : decode cX12_goFrom 150 = .ok (.invokevirtual 185, 3) := by decide +kernel
theorem dX12_goFrom_153 : decode cX12_goFrom 153 = .ok (.ifCond .eq 20, 3) := by decide +kernel
theorem dX12_goFrom_156 : decode cX12_goFrom 156 = .ok (.aload_n 0, 1) := by decide +kernel
theorem dX12_goFrom_157 : decode cX12_goFrom 157 = .ok (.iload_n 1, 1) := by decide +kernel
theorem dX12_goFrom_158 : decode cX12_goFrom 158 = .ok (.iconst 1, 1) := by decide +kernel
theorem dX12_goFrom_159 : decode cX12_goFrom 159 = .ok (.iload_n 3, 1) := by decide +kernel
theorem dX12_goFrom_160 : decode cX12_goFrom 160 = .ok (.ishl, 1) := by decide +kernel
theorem dX12_goFrom_161 : decode cX12_goFrom 161 = .ok (.ior, 1) := by decide +kernel
theorem dX12_goFrom_162 : decode cX12_goFrom 162 = .ok (.bipush 10, 2) := by decide +kernel
theorem dX12_goFrom_164 : decode cX12_goFrom 164 = .ok (.iload_n 2, 1) := by decide +kernel
theorem dX12_goFrom_165 : decode cX12_goFrom 165 = .ok (.imul, 1) := by decide +kernel
theorem dX12_goFrom_166 : decode cX12_goFrom 166 = .ok (.iload_n 3, 1) := by decide +kernel
theorem dX12_goFrom_167 : decode cX12_goFrom 167 = .ok (.iadd, 1) := by decide +kernel
theorem dX12_goFrom_168 : decode cX12_goFrom 168 = .ok (.iconst 1, 1) := by decide +kernel
theorem dX12_goFrom_169 : decode cX12_goFrom 169 = .ok (.iadd, 1) := by decide +kernel
theorem dX12_goFrom_170 : decode cX12_goFrom 170 = .ok (.invokevirtual 189, 3) := by decide +kernel
theorem dX12_goFrom_173 : decode cX12_goFrom 173 = .ok (.aload_n 0, 1) := by decide +kernel
theorem dX12_goFrom_174 : decode cX12_goFrom 174 = .ok (.dup, 1) := by decide +kernel
theorem dX12_goFrom_175 : decode cX12_goFrom 175 = .ok (.getfield 173, 3) := by decide +kernel
theorem dX12_goFrom_178 : decode cX12_goFrom 178 = .ok (.iconst 1, 1) := by decide +kernel
theorem dX12_goFrom_179 : decode cX12_goFrom 179 = .ok (.isub, 1) := by decide +kernel
theorem dX12_goFrom_180 : decode cX12_goFrom 180 = .ok (.putfield 173, 3) := by decide +kernel
theorem dX12_goFrom_183 : decode cX12_goFrom 183 = .ok (.iinc 3 1, 3) := by decide +kernel
theorem dX12_goFrom_186 : decode cX12_goFrom 186 = .ok (.goto (-73), 3) := by decide +kernel
theorem dX12_goFrom_189 : decode cX12_goFrom 189 = .ok (.return_, 1) := by decide +kernel
set_option maxRecDepth 20000 in
theorem ggX12_findOrders_X12_findWorms : GoodIn wsX12_findOrders wsX12_findWorms := goodIn_r _ [11, 12, 13, 14, 15, 16, 17, 18, 28, 29, 30, 31, 32, 33, 34, 35, 36, 37, 38, 39, 40, 41, 42, 43, 44, 45, 46, 47, 48, 49, 50, 51, 52, 53, 54, 55, 56, 57, 58, 59, 60, 61, 62, 63, 64, 65, 66, 67, 68, 69, 70, 71, 72, 73, 74, 75, 76, 77, 78, 79, 80, 81, 82, 83, 84, 85, 86, 87, 88, 89, 90] rfl (by decide +kernel)
set_option maxRecDepth 20000 in
theorem gX12_findOrders_X12_findWorms : GoodIn wsX12_findOrders (wsV RX12 166 RX12 yX12_findWorms wsX12_findWorms) := goodIn_app (goodIn_of _ (by decide +kernel)) ggX12_findOrders_X12_findWorms
set_option maxRecDepth 20000 in
theorem ggX12_findOrders_X12_goFrom : GoodIn wsX12_findOrders wsX12_goFrom := goodIn_r _ [22, 4, 6, 2, 3, 1, 23, 5, 24, 25, 26, 10, 27, 17, 18, 19, 20, 21, 28, 29, 30, 31, 32, 33, 34, 35, 36, 37, 38, 39, 40, 41, 42, 43, 44, 45, 46, 47, 48, 49, 50, 51, 52, 53, 54, 55, 56, 57, 58, 59, 60, 61, 62, 63, 64, 65, 66, 67, 68, 69, 70, 71, 72, 73, 74, 75, 76, 77, 78, 79, 80, 81, 82, 83, 84, 85, 86, 87, 88, 89, 90] rfl (by decide +kernel)
set_option maxRecDepth 20000 in
theorem gX12_findOrders_X12_goFrom : GoodIn wsX12_findOrders (wsV RX12 189 RX12 yX12_goFrom wsX12_goFrom) := goodIn_app (goodIn_of _ (by decide +kernel)) ggX12_findOrders_X12_goFrom
theorem dX12_findOrders_0 : decode cX12_findOrders 0 = .ok (.aload_n 0, 1) := by decide +kernel
theorem dX12_findOrders_1 : decode cX12_findOrders 1 = .ok (.iload_n 1, 1) := by decide +kernel
theorem dX12_findOrders_2 : decode cX12_findOrders 2 = .ok (.iload_n 2, 1) := by decide +kernel
theorem dX12_findOrders_3 : decode cX12_findOrders 3 = .ok (.invokevirtual 166, 3) := by decide +kernel
theorem dX12_findOrders_6 : decode cX12_findOrders 6 = .ok (.iconst 0, 1) := by decide +kernel
theorem dX12_findOrders_7 : decode cX12_findOrders 7 = .ok (.istore_n 3, 1) := by decide +kernel
theorem dX12_findOrders_8 : decode cX12_findOrders 8 = .ok (.iload_n 3, 1) := by decide +kernel
theorem dX12_findOrders_9 : decode cX12_findOrders 9 = .ok (.bipush 64, 2) := by decide +kernel
theorem dX12_findOrders_11 : decode cX12_findOrders 11 = .ok (.if_icmp .ge 16, 3) := by decide +kernel
theorem dX12_findOrders_14 : decode cX12_findOrders 14 = .ok (.aload_n 0, 1) := by decide +kernel
theorem dX12_findOrders_15 : decode cX12_findOrders 15 = .ok (.getfield 40, 3) := by decide +kernel
theorem dX12_findOrders_18 : decode cX12_findOrders 18 = .ok (.iload_n 3, 1) := by decide +kernel
theorem dX12_findOrders_19 : decode cX12_findOrders 19 = .ok (.iconst 0, 1) := by decide +kernel
theorem dX12_findOrders_20 : decode cX12_findOrders 20 = .ok (.iastore, 1) := by decide +kernel
theorem dX12_findOrders_21 : decode cX12_findOrders 21 = .ok (.iinc 3 1, 3) := by decide +kernel
theorem dX12_findOrders_24 : decode cX12_findOrders 24 = .ok (.goto (-16), 3) := by decide +kernel
theorem dX12_findOrders_27 : decode cX12_findOrders 27 = .ok (.aload_n 0, 1) := by decide +kernel
theorem dX12_findOrders_28 : decode cX12_findOrders 28 = .ok (.iconst 0, 1) := by decide +kernel
theorem dX12_findOrders_29 : decode cX12_findOrders 29 = .ok (.putfield 179, 3) := by decide +kernel
theorem dX12_findOrders_32 : decode cX12_findOrders 32 = .ok (.aload_n 0, 1) := by decide +kernel
theorem dX12_findOrders_33 : decode cX12_findOrders 33 = .ok (.iconst 0, 1) := by decide +kernel
theorem dX12_findOrders_34 : decode cX12_findOrders 34 = .ok (.putfield 182, 3) := by decide +kernel
theorem dX12_findOrders_37 : decode cX12_findOrders 37 = .ok (.aload_n 0, 1) := by decide +kernel
theorem dX12_findOrders_38 : decode cX12_findOrders 38 = .ok (.iconst 0, 1) := by decide +kernel
theorem dX12_findOrders_39 : decode cX12_findOrders 39 = .ok (.putfield 173, 3) := by decide +kernel
theorem dX12_findOrders_42 : decode cX12_findOrders 42 = .ok (.aload_n 0, 1) := by decide +kernel
theorem dX12_findOrders_43 : decode cX12_findOrders 43 = .ok (.iload_n 2, 1) := by decide +kernel
theorem dX12_findOrders_44 : decode cX12_findOrders 44 = .ok (.ifCond .ge 10, 3) := by decide +kernel
theorem dX12_findOrders_47 : decode cX12_findOrders 47 = .ok (.aload_n 0, 1) := by decide +kernel
theorem dX12_findOrders_48 : decode cX12_findOrders 48 = .ok (.getfield 133, 3) := by decide +kernel
theorem dX12_findOrders_51 : decode cX12_findOrders 51 = .ok (.goto 9, 3) := by decide +kernel
theorem dX12_findOrders_54 : decode cX12_findOrders 54 = .ok (.aload_n 0, 1) := by decide +kernel
theorem dX12_findOrders_55 : decode cX12_findOrders 55 = .ok (.getfield 133, 3) := by decide +kernel
theorem dX12_findOrders_58 : decode cX12_findOrders 58 = .ok (.iconst 1, 1) := by decide +kernel
theorem dX12_findOrders_59 : decode cX12_findOrders 59 = .ok (.isub, 1) := by decide +kernel
theorem dX12_findOrders_60 : decode cX12_findOrders 60 = .ok (.putfield 176, 3) := by decide +kernel
theorem dX12_findOrders_63 : decode cX12_findOrders 63 = .ok (.aload_n 0, 1) := by decide +kernel
theorem dX12_findOrders_64 : decode cX12_findOrders 64 = .ok (.iload_n 2, 1) := by decide +kernel
theorem dX12_findOrders_65 : decode cX12_findOrders 65 = .ok (.ifCond .ge 7, 3) := by decide +kernel
theorem dX12_findOrders_68 : decode cX12_findOrders 68 = .ok (.iconst 0, 1) := by decide +kernel
theorem dX12_findOrders_69 : decode cX12_findOrders 69 = .ok (.goto 6, 3) := by decide +kernel
theorem dX12_findOrders_72 : decode cX12_findOrders 72 = .ok (.iconst 1, 1) := by decide +kernel
theorem dX12_findOrders_73 : decode cX12_findOrders 73 = .ok (.iload_n 2, 1) := by decide +kernel
theorem dX12_findOrders_74 : decode cX12_findOrders 74 = .ok (.ishl, 1) := by decide +kernel
theorem dX12_findOrders_75 : decode cX12_findOrders 75 = .ok (.iconst 0, 1) := by decide +kernel
theorem dX12_findOrders_76 : decode cX12_findOrders 76 = .ok (.invokevirtual 189, 3) := by decide +kernel
theorem dX12_findOrders_79 : decode cX12_findOrders 79 = .ok (.return_, 1) := by decide +kernel
set_option maxRecDepth 20000 in
theorem ggX12_orders_X12_isSlack : GoodIn wsX12_orders wsX12_isSlack := goodIn_r _ [7, 8, 9, 10, 6, 11] rfl (by decide +kernel)
set_option maxRecDepth 20000 in
theorem gX12_orders_X12_isSlack : GoodIn wsX12_orders (va_wsS RX12 163 yX12_isSlack wsX12_isSlack) := goodIn_app (goodIn_of _ (by decide +kernel)) ggX12_orders_X12_isSlack
set_option maxRecDepth 20000 in
theorem ggX12_orders_X12_within : GoodIn wsX12_orders wsX12_within := goodIn_r _ [11] rfl (by decide +kernel)
set_option maxRecDepth 20000 in
theorem gX12_orders_X12_within : GoodIn wsX12_orders (va_wsS RX12 136 yX12_within wsX12_within) := goodIn_app (goodIn_of _ (by decide +kernel)) ggX12_orders_X12_within
set_option maxRecDepth 20000 in
theorem ggX12_orders_X12_findOrders : GoodIn wsX12_orders wsX12_findOrders := goodIn_r _ [15, 16, 2, 3, 17, 1, 18, 19, 20, 21, 6, 22, 23, 24, 25, 26, 27, 28, 29, 30, 31, 32, 33, 34, 35, 36, 37, 38, 39, 40, 41, 42, 43, 44, 45, 46, 47, 48, 49, 50, 51, 52, 53, 54, 55, 56, 57, 58, 59, 60, 61, 62, 63, 64, 65, 66, 67, 68, 69, 70, 71, 72, 73, 74, 75, 76, 77, 78, 79, 80, 81, 82, 83, 84, 85, 86, 87, 88, 89, 90, 91, 92, 93, 94, 95, 96, 97, 98, 99, 100, 101] rfl (by decide +kernel)
set_option maxRecDepth 20000 in
theorem gX12_orders_X12_findOrders : GoodIn wsX12_orders (wsV RX12 192 RX12 yX12_findOrders wsX12_findOrders) := goodIn_app (goodIn_of _ (by decide +kernel)) ggX12_orders_X12_findOrders
theorem dX12_orders_0 : decode cX12_orders 0 = .ok (.iload_n 1, 1) := by decide +kernel
theorem dX12_orders_1 : decode cX12_orders 1 = .ok (.invokestatic 163, 3) := by decide +kernel
theorem dX12_orders_4 : decode cX12_orders 4 = .ok (.ifCond .eq 13, 3) := by decide +kernel
theorem dX12_orders_7 : decode cX12_orders 7 = .ok (.iload_n 2, 1) := by decide +kernel
theorem dX12_orders_8 : decode cX12_orders 8 = .ok (.i2l, 1) := by decide +kernel
theorem dX12_orders_9 : decode cX12_orders 9 = .ok (.lconst 0, 1) := by decide +kernel
theorem dX12_orders_10 : decode cX12_orders 10 = .ok (.lconst 1, 1) := by decide +kernel
theorem dX12_orders_11 : decode cX12_orders 11 = .ok (.invokestatic 136, 3) := by decide +kernel
theorem dX12_orders_14 : decode cX12_orders 14 = .ok (.ifCond .ne 5, 3) := by decide +kernel
theorem dX12_orders_17 : decode cX12_orders 17 = .ok (.iconst (-1), 1) := by decide +kernel
theorem dX12_orders_18 : decode cX12_orders 18 = .ok (.ireturn, 1) := by decide +kernel
theorem dX12_orders_19 : decode cX12_orders 19 = .ok (.aload_n 0, 1) := by decide +kernel
theorem dX12_orders_20 : decode cX12_orders 20 = .ok (.getfield 133, 3) := by decide +kernel
theorem dX12_orders_23 : decode cX12_orders 23 = .ok (.bipush 6, 2) := by decide +kernel
theorem dX12_orders_25 : decode cX12_orders 25 = .ok (.if_icmp .le 6, 3) := by decide +kernel
theorem dX12_orders_28 : decode cX12_orders 28 = .ok (.bipush (-4), 2) := by decide +kernel
theorem dX12_orders_30 : decode cX12_orders 30 = .ok (.ireturn, 1) := by decide +kernel
theorem dX12_orders_31 : decode cX12_orders 31 = .ok (.aload_n 0, 1) := by decide +kernel
theorem dX12_orders_32 : decode cX12_orders 32 = .ok (.iload_n 1, 1) := by decide +kernel
theorem dX12_orders_33 : decode cX12_orders 33 = .ok (.iconst (-1), 1) := by decide +kernel
theorem dX12_orders_34 : decode cX12_orders 34 = .ok (.invokevirtual 192, 3) := by decide +kernel
theorem dX12_orders_37 : decode cX12_orders 37 = .ok (.iload_n 2, 1) := by decide +kernel
theorem dX12_orders_38 : decode cX12_orders 38 = .ok (.ifCond .ne 10, 3) := by decide +kernel
theorem dX12_orders_41 : decode cX12_orders 41 = .ok (.aload_n 0, 1) := by decide +kernel
theorem dX12_orders_42 : decode cX12_orders 42 = .ok (.getfield 179, 3) := by decide +kernel
theorem dX12_orders_45 : decode cX12_orders 45 = .ok (.goto 19, 3) := by decide +kernel
theorem dX12_orders_48 : decode cX12_orders 48 = .ok (.aload_n 0, 1) := by decide +kernel
theorem dX12_orders_49 : decode cX12_orders 49 = .ok (.getfield 179, 3) := by decide +kernel
theorem dX12_orders_52 : decode cX12_orders 52 = .ok (.ifCond .ne 8, 3) := by decide +kernel
theorem dX12_orders_55 : decode cX12_orders 55 = .ok (.bipush (-2), 2) := by decide +kernel
theorem dX12_orders_57 : decode cX12_orders 57 = .ok (.goto 7, 3) := by decide +kernel
theorem dX12_orders_60 : decode cX12_orders 60 = .ok (.aload_n 0, 1) := by decide +kernel
theorem dX12_orders_61 : decode cX12_orders 61 = .ok (.getfield 182, 3) := by decide +kernel
theorem dX12_orders_64 : decode cX12_orders 64 = .ok (.ireturn, 1) := by decide +kernel
set_option maxRecDepth 20000 in
theorem ggX12_side_X12_isSlack : GoodIn wsX12_side wsX12_isSlack := goodIn_r _ [7, 8, 9, 10, 6, 11] rfl (by decide +kernel)
set_option maxRecDepth 20000 in
theorem gX12_side_X12_isSlack : GoodIn wsX12_side (va_wsS RX12 163 yX12_isSlack wsX12_isSlack) := goodIn_app (goodIn_of _ (by decide +kernel)) ggX12_side_X12_isSlack
set_option maxRecDepth 20000 in
theorem ggX12_side_X12_isSheet : GoodIn wsX12_side wsX12_isSheet := goodIn_r _ [15, 1, 9, 10, 6, 11, 43, 44, 45, 46, 47, 48, 49, 50, 51, 52, 53, 54, 55, 56, 57, 58, 59, 60, 61, 62, 63, 64, 65, 66, 67, 68, 69, 70, 71, 72, 73, 74, 75, 76, 77, 78, 79, 80, 81, 82, 83, 84, 85, 86, 87, 88, 89, 90, 91, 92, 93, 94, 95, 96, 97, 98, 99, 100, 101, 102, 103, 104, 105] rfl (by decide +kernel)
set_option maxRecDepth 20000 in
theorem gX12_side_X12_isSheet : GoodIn wsX12_side (wsV RX12 151 RX12 yX12_isSheet wsX12_isSheet) := goodIn_app (goodIn_of _ (by decide +kernel)) ggX12_side_X12_isSheet
set_option maxRecDepth 20000 in
theorem ggX12_side_X12_within : GoodIn wsX12_side wsX12_within := goodIn_r _ [11] rfl (by decide +kernel)
set_option maxRecDepth 20000 in
theorem gX12_side_X12_within : GoodIn wsX12_side (va_wsS RX12 136 yX12_within wsX12_within) := goodIn_app (goodIn_of _ (by decide +kernel)) ggX12_side_X12_within
set_option maxRecDepth 20000 in
theorem ggX12_side_X12_findOrders : GoodIn wsX12_side wsX12_findOrders := goodIn_r _ [19, 3, 2, 20, 21, 1, 22, 23, 24, 25, 6, 26, 27, 28, 29, 30, 31, 32, 33, 34, 35, 36, 37, 38, 39, 40, 41, 42, 43, 44, 45, 46, 47, 48, 49, 50, 51, 52, 53, 54, 55, 56, 57, 58, 59, 60, 61, 62, 63, 64, 65, 66, 67, 68, 69, 70, 71, 72, 73, 74, 75, 76, 77, 78, 79, 80, 81, 82, 83, 84, 85, 86, 87, 88, 89, 90, 91, 92, 93, 94, 95, 96, 97, 98, 99, 100, 101, 102, 103, 104, 105] rfl (by decide +kernel)
set_option maxRecDepth 20000 in
theorem gX12_side_X12_findOrders : GoodIn wsX12_side (wsV RX12 192 RX12 yX12_findOrders wsX12_findOrders) := goodIn_app (goodIn_of _ (by decide +kernel)) ggX12_side_X12_findOrders
theorem dX12_side_0 : decode cX12_side 0 = .ok (.iload_n 1, 1) := by decide +kernel
theorem dX12_side_1 : decode cX12_side 1 = .ok (.invokestatic 163, 3) := by decide +kernel
theorem dX12_side_4 : decode cX12_side 4 = .ok (.ifCond .eq 50, 3) := by decide +kernel
theorem dX12_side_7 : decode cX12_side 7 = .ok (.iload_n 2, 1) := by decide +kernel
theorem dX12_side_8 : decode cX12_side 8 = .ok (.ifCond .lt 46, 3) := by decide +kernel
theorem dX12_side_11 : decode cX12_side 11 = .ok (.aload_n 0, 1) := by decide +kernel
theorem dX12_side_12 : decode cX12_side 12 = .ok (.iload_n 2, 1) := by decide +kernel
theorem dX12_side_13 : decode cX12_side 13 = .ok (.bipush 10, 2) := by decide +kernel
theorem dX12_side_15 : decode cX12_side 15 = .ok (.idiv, 1) := by decide +kernel
theorem dX12_side_16 : decode cX12_side 16 = .ok (.invokevirtual 151, 3) := by decide +kernel
theorem dX12_side_19 : decode cX12_side 19 = .ok (.ifCond .eq 35, 3) := by decide +kernel
theorem dX12_side_22 : decode cX12_side 22 = .ok (.aload_n 0, 1) := by decide +kernel
theorem dX12_side_23 : decode cX12_side 23 = .ok (.iload_n 2, 1) := by decide +kernel
theorem dX12_side_24 : decode cX12_side 24 = .ok (.bipush 10, 2) := by decide +kernel
theorem dX12_side_26 : decode cX12_side 26 = .ok (.irem, 1) := by decide +kernel
theorem dX12_side_27 : decode cX12_side 27 = .ok (.invokevirtual 151, 3) := by decide +kernel
theorem dX12_side_30 : decode cX12_side 30 = .ok (.ifCond .eq 24, 3) := by decide +kernel
theorem dX12_side_33 : decode cX12_side 33 = .ok (.iload_n 2, 1) := by decide +kernel
theorem dX12_side_34 : decode cX12_side 34 = .ok (.bipush 10, 2) := by decide +kernel
theorem dX12_side_36 : decode cX12_side 36 = .ok (.idiv, 1) := by decide +kernel
theorem dX12_side_37 : decode cX12_side 37 = .ok (.iload_n 2, 1) := by decide +kernel
theorem dX12_side_38 : decode cX12_side 38 = .ok (.bipush 10, 2) := by decide +kernel
theorem dX12_side_40 : decode cX12_side 40 = .ok (.irem, 1) := by decide +kernel
theorem dX12_side_41 : decode cX12_side 41 = .ok (.if_icmp .eq 13, 3) := by decide +kernel
theorem dX12_side_44 : decode cX12_side 44 = .ok (.iload_n 3, 1) := by decide +kernel
theorem dX12_side_45 : decode cX12_side 45 = .ok (.i2l, 1) := by decide +kernel
theorem dX12_side_46 : decode cX12_side 46 = .ok (.lconst 0, 1) := by decide +kernel
theorem dX12_side_47 : decode cX12_side 47 = .ok (.lconst 1, 1) := by decide +kernel
theorem dX12_side_48 : decode cX12_side 48 = .ok (.invokestatic 136, 3) := by decide +kernel
theorem dX12_side_51 : decode cX12_side 51 = .ok (.ifCond .ne 5, 3) := by decide +kernel
theorem dX12_side_54 : decode cX12_side 54 = .ok (.iconst (-1), 1) := by decide +kernel
theorem dX12_side_55 : decode cX12_side 55 = .ok (.ireturn, 1) := by decide +kernel
theorem dX12_side_56 : decode cX12_side 56 = .ok (.aload_n 0, 1) := by decide +kernel
theorem dX12_side_57 : decode cX12_side 57 = .ok (.getfield 133, 3) := by decide +kernel
theorem dX12_side_60 : decode cX12_side 60 = .ok (.bipush 6, 2) := by decide +kernel
theorem dX12_side_62 : decode cX12_side 62 = .ok (.if_icmp .le 6, 3) := by decide +kernel
theorem dX12_side_65 : decode cX12_side 65 = .ok (.bipush (-4), 2) := by decide +kernel
theorem dX12_side_67 : decode cX12_side 67 = .ok (.ireturn, 1) := by decide +kernel
theorem dX12_side_68 : decode cX12_side 68 = .ok (.aload_n 0, 1) := by decide +kernel
theorem dX12_side_69 : decode cX12_side 69 = .ok (.iload_n 1, 1) := by decide +kernel
theorem dX12_side_70 : decode cX12_side 70 = .ok (.iconst (-1), 1) := by decide +kernel
theorem dX12_side_71 : decode cX12_side 71 = .ok (.invokevirtual 192, 3) := by decide +kernel
theorem dX12_side_74 : decode cX12_side 74 = .ok (.aload_n 0, 1) := by decide +kernel
theorem dX12_side_75 : decode cX12_side 75 = .ok (.getfield 179, 3) := by decide +kernel
theorem dX12_side_78 : decode cX12_side 78 = .ok (.ifCond .ne 6, 3) := by decide +kernel
theorem dX12_side_81 : decode cX12_side 81 = .ok (.bipush (-2), 2) := by decide +kernel
theorem dX12_side_83 : decode cX12_side 83 = .ok (.ireturn, 1) := by decide +kernel
theorem dX12_side_84 : decode cX12_side 84 = .ok (.aload_n 0, 1) := by decide +kernel
theorem dX12_side_85 : decode cX12_side 85 = .ok (.getfield 40, 3) := by decide +kernel
theorem dX12_side_88 : decode cX12_side 88 = .ok (.bipush 8, 2) := by decide +kernel
theorem dX12_side_90 : decode cX12_side 90 = .ok (.iload_n 2, 1) := by decide +kernel
theorem dX12_side_91 : decode cX12_side 91 = .ok (.bipush 10, 2) := by decide +kernel
theorem dX12_side_93 : decode cX12_side 93 = .ok (.idiv, 1) := by decide +kernel
theorem dX12_side_94 : decode cX12_side 94 = .ok (.imul, 1) := by decide +kernel
theorem dX12_side_95 : decode cX12_side 95 = .ok (.iload_n 2, 1) := by decide +kernel
theorem dX12_side_96 : decode cX12_side 96 = .ok (.bipush 10, 2) := by decide +kernel
theorem dX12_side_98 : decode cX12_side 98 = .ok (.irem, 1) := by decide +kernel
theorem dX12_side_99 : decode cX12_side 99 = .ok (.iadd, 1) := by decide +kernel
theorem dX12_side_100 : decode cX12_side 100 = .ok (.iaload, 1) := by decide +kernel
theorem dX12_side_101 : decode cX12_side 101 = .ok (.istore 4, 2) := by decide +kernel
theorem dX12_side_103 : decode cX12_side 103 = .ok (.iload_n 3, 1) := by decide +kernel
theorem dX12_side_104 : decode cX12_side 104 = .ok (.ifCond .ne 20, 3) := by decide +kernel
theorem dX12_side_107 : decode cX12_side 107 = .ok (.iload 4, 2) := by decide +kernel
theorem dX12_side_109 : decode cX12_side 109 = .ok (.aload_n 0, 1) := by decide +kernel
theorem dX12_side_110 : decode cX12_side 110 = .ok (.getfield 179, 3) := by decide +kernel
theorem dX12_side_113 : decode cX12_side 113 = .ok (.if_icmp .ne 7, 3) := by decide +kernel
theorem dX12_side_116 : decode cX12_side 116 = .ok (.iconst 1, 1) := by decide +kernel
theorem dX12_side_117 : decode cX12_side 117 = .ok (.goto 17, 3) := by decide +kernel
theorem dX12_side_120 : decode cX12_side 120 = .ok (.iconst 0, 1) := by decide +kernel
theorem dX12_side_121 : decode cX12_side 121 = .ok (.goto 13, 3) := by decide +kernel
theorem dX12_side_124 : decode cX12_side 124 = .ok (.iload 4, 2) := by decide +kernel
theorem dX12_side_126 : decode cX12_side 126 = .ok (.ifCond .le 7, 3) := by decide +kernel
theorem dX12_side_129 : decode cX12_side 129 = .ok (.iconst 1, 1) := by decide +kernel
theorem dX12_side_130 : decode cX12_side 130 = .ok (.goto 4, 3) := by decide +kernel
theorem dX12_side_133 : decode cX12_side 133 = .ok (.iconst 0, 1) := by decide +kernel
theorem dX12_side_134 : decode cX12_side 134 = .ok (.ireturn, 1) := by decide +kernel
set_option maxRecDepth 20000 in
theorem ggX12_without_X12_isSlack : GoodIn wsX12_without wsX12_isSlack := goodIn_r _ [6, 7, 8, 9, 5, 10] rfl (by decide +kernel)
set_option maxRecDepth 20000 in
theorem gX12_without_X12_isSlack : GoodIn wsX12_without (va_wsS RX12 163 yX12_isSlack wsX12_isSlack) := goodIn_app (goodIn_of _ (by decide +kernel)) ggX12_without_X12_isSlack
set_option maxRecDepth 20000 in
theorem ggX12_without_X12_isSheet : GoodIn wsX12_without wsX12_isSheet := goodIn_r _ [14, 1, 8, 9, 5, 10, 43, 44, 45, 46, 47, 48, 49, 50, 51, 52, 53, 54, 55, 56, 57, 58, 59, 60, 61, 62, 63, 64, 65, 66, 67, 68, 69, 70, 71, 72, 73, 74, 75, 76, 77, 78, 79, 80, 81, 82, 83, 84, 85, 86, 87, 88, 89, 90, 91, 92, 93, 94, 95, 96, 97, 98, 99, 100, 101, 102, 103, 104, 105] rfl (by decide +kernel)
set_option maxRecDepth 20000 in
theorem gX12_without_X12_isSheet : GoodIn wsX12_without (wsV RX12 151 RX12 yX12_isSheet wsX12_isSheet) := goodIn_app (goodIn_of _ (by decide +kernel)) ggX12_without_X12_isSheet
set_option maxRecDepth 20000 in
theorem ggX12_without_X12_findOrders : GoodIn wsX12_without wsX12_findOrders := goodIn_r _ [18, 19, 2, 20, 21, 1, 22, 23, 24, 25, 5, 26, 27, 28, 29, 30, 31, 32, 33, 34, 35, 36, 37, 38, 39, 40, 41, 42, 43, 44, 45, 46, 47, 48, 49, 50, 51, 52, 53, 54, 55, 56, 57, 58, 59, 60, 61, 62, 63, 64, 65, 66, 67, 68, 69, 70, 71, 72, 73, 74, 75, 76, 77, 78, 79, 80, 81, 82, 83, 84, 85, 86, 87, 88, 89, 90, 91, 92, 93, 94, 95, 96, 97, 98, 99, 100, 101, 102, 103, 104, 105] rfl (by decide +kernel)
set_option maxRecDepth 20000 in
theorem gX12_without_X12_findOrders : GoodIn wsX12_without (wsV RX12 192 RX12 yX12_findOrders wsX12_findOrders) := goodIn_app (goodIn_of _ (by decide +kernel)) ggX12_without_X12_findOrders
theorem dX12_without_0 : decode cX12_without 0 = .ok (.iload_n 1, 1) := by decide +kernel
theorem dX12_without_1 : decode cX12_without 1 = .ok (.invokestatic 163, 3) := by decide +kernel
theorem dX12_without_4 : decode cX12_without 4 = .ok (.ifCond .eq 11, 3) := by decide +kernel
theorem dX12_without_7 : decode cX12_without 7 = .ok (.aload_n 0, 1) := by decide +kernel
theorem dX12_without_8 : decode cX12_without 8 = .ok (.iload_n 2, 1) := by decide +kernel
theorem dX12_without_9 : decode cX12_without 9 = .ok (.invokevirtual 151, 3) := by decide +kernel
theorem dX12_without_12 : decode cX12_without 12 = .ok (.ifCond .ne 5, 3) := by decide +kernel
theorem dX12_without_15 : decode cX12_without 15 = .ok (.iconst (-1), 1) := by decide +kernel
theorem dX12_without_16 : decode cX12_without 16 = .ok (.ireturn, 1) := by decide +kernel
theorem dX12_without_17 : decode cX12_without 17 = .ok (.aload_n 0, 1) := by decide +kernel
theorem dX12_without_18 : decode cX12_without 18 = .ok (.getfield 133, 3) := by decide +kernel
theorem dX12_without_21 : decode cX12_without 21 = .ok (.bipush 7, 2) := by decide +kernel
theorem dX12_without_23 : decode cX12_without 23 = .ok (.if_icmp .le 6, 3) := by decide +kernel
theorem dX12_without_26 : decode cX12_without 26 = .ok (.bipush (-4), 2) := by decide +kernel
theorem dX12_without_28 : decode cX12_without 28 = .ok (.ireturn, 1) := by decide +kernel
theorem dX12_without_29 : decode cX12_without 29 = .ok (.aload_n 0, 1) := by decide +kernel
theorem dX12_without_30 : decode cX12_without 30 = .ok (.iload_n 1, 1) := by decide +kernel
theorem dX12_without_31 : decode cX12_without 31 = .ok (.iload_n 2, 1) := by decide +kernel
theorem dX12_without_32 : decode cX12_without 32 = .ok (.invokevirtual 192, 3) := by decide +kernel
theorem dX12_without_35 : decode cX12_without 35 = .ok (.aload_n 0, 1) := by decide +kernel
theorem dX12_without_36 : decode cX12_without 36 = .ok (.getfield 179, 3) := by decide +kernel
theorem dX12_without_39 : decode cX12_without 39 = .ok (.ireturn, 1) := by decide +kernel
set_option maxRecDepth 20000 in
theorem ggX12_isInk_X12_within : GoodIn wsX12_isInk wsX12_within := goodIn_r _ [5] rfl (by decide +kernel)
set_option maxRecDepth 20000 in
theorem gX12_isInk_X12_within : GoodIn wsX12_isInk (va_wsS RX12 136 yX12_within wsX12_within) := goodIn_app (goodIn_of _ (by decide +kernel)) ggX12_isInk_X12_within
theorem dX12_isInk_0 : decode cX12_isInk 0 = .ok (.iload_n 0, 1) := by decide +kernel
theorem dX12_isInk_1 : decode cX12_isInk 1 = .ok (.i2l, 1) := by decide +kernel
theorem dX12_isInk_2 : decode cX12_isInk 2 = .ok (.lconst 0, 1) := by decide +kernel
theorem dX12_isInk_3 : decode cX12_isInk 3 = .ok (.ldc2_w 195, 3) := by decide +kernel
theorem dX12_isInk_6 : decode cX12_isInk 6 = .ok (.invokestatic 136, 3) := by decide +kernel
theorem dX12_isInk_9 : decode cX12_isInk 9 = .ok (.ireturn, 1) := by decide +kernel
set_option maxRecDepth 20000 in
theorem ggX12_line_X12_isSheet : GoodIn wsX12_line wsX12_isSheet := goodIn_r _ [8, 9, 10, 11, 7, 12, 17, 18, 19, 20, 21, 22, 23, 24, 25, 26, 27, 28, 29, 30, 31, 32, 33, 34, 35, 36, 37, 38, 39, 40, 41, 42, 43, 44, 45, 46, 47, 48, 49, 50, 51, 52, 53, 54, 55, 56, 57, 58, 59, 60, 61, 62, 63, 64, 65, 66, 67, 68, 69, 70, 71, 72, 73, 74, 75, 76, 77, 78, 79] rfl (by decide +kernel)
set_option maxRecDepth 20000 in
theorem gX12_line_X12_isSheet : GoodIn wsX12_line (wsV RX12 151 RX12 yX12_isSheet wsX12_isSheet) := goodIn_app (goodIn_of _ (by decide +kernel)) ggX12_line_X12_isSheet
set_option maxRecDepth 20000 in
theorem ggX12_line_X12_isInk : GoodIn wsX12_line wsX12_isInk := goodIn_r _ [15, 16, 10, 11, 7, 12] rfl (by decide +kernel)
set_option maxRecDepth 20000 in
theorem gX12_line_X12_isInk : GoodIn wsX12_line (va_wsS RX12 197 yX12_isInk wsX12_isInk) := goodIn_app (goodIn_of _ (by decide +kernel)) ggX12_line_X12_isInk
theorem dX12_line_0 : decode cX12_line 0 = .ok (.aload_n 0, 1) := by decide +kernel
theorem dX12_line_1 : decode cX12_line 1 = .ok (.iload_n 1, 1) := by decide +kernel
theorem dX12_line_2 : decode cX12_line 2 = .ok (.invokevirtual 151, 3) := by decide +kernel
theorem dX12_line_5 : decode cX12_line 5 = .ok (.ifCond .eq 10, 3) := by decide +kernel
theorem dX12_line_8 : decode cX12_line 8 = .ok (.iload_n 2, 1) := by decide +kernel
theorem dX12_line_9 : decode cX12_line 9 = .ok (.invokestatic 197, 3) := by decide +kernel
theorem dX12_line_12 : decode cX12_line 12 = .ok (.ifCond .ne 5, 3) := by decide +kernel
theorem dX12_line_15 : decode cX12_line 15 = .ok (.iconst (-1), 1) := by decide +kernel
theorem dX12_line_16 : decode cX12_line 16 = .ok (.ireturn, 1) := by decide +kernel
theorem dX12_line_17 : decode cX12_line 17 = .ok (.aload_n 0, 1) := by decide +kernel
theorem dX12_line_18 : decode cX12_line 18 = .ok (.getfield 200, 3) := by decide +kernel
theorem dX12_line_21 : decode cX12_line 21 = .ok (.bipush 20, 2) := by decide +kernel
theorem dX12_line_23 : decode cX12_line 23 = .ok (.if_icmp .ne 6, 3) := by decide +kernel
theorem dX12_line_26 : decode cX12_line 26 = .ok (.bipush (-3), 2) := by decide +kernel
theorem dX12_line_28 : decode cX12_line 28 = .ok (.ireturn, 1) := by decide +kernel
theorem dX12_line_29 : decode cX12_line 29 = .ok (.aload_n 0, 1) := by decide +kernel
theorem dX12_line_30 : decode cX12_line 30 = .ok (.getfield 43, 3) := by decide +kernel
theorem dX12_line_33 : decode cX12_line 33 = .ok (.aload_n 0, 1) := by decide +kernel
theorem dX12_line_34 : decode cX12_line 34 = .ok (.getfield 200, 3) := by decide +kernel
theorem dX12_line_37 : decode cX12_line 37 = .ok (.iload_n 1, 1) := by decide +kernel
theorem dX12_line_38 : decode cX12_line 38 = .ok (.iastore, 1) := by decide +kernel
theorem dX12_line_39 : decode cX12_line 39 = .ok (.aload_n 0, 1) := by decide +kernel
theorem dX12_line_40 : decode cX12_line 40 = .ok (.getfield 46, 3) := by decide +kernel
theorem dX12_line_43 : decode cX12_line 43 = .ok (.aload_n 0, 1) := by decide +kernel
theorem dX12_line_44 : decode cX12_line 44 = .ok (.getfield 200, 3) := by decide +kernel
theorem dX12_line_47 : decode cX12_line 47 = .ok (.iload_n 2, 1) := by decide +kernel
theorem dX12_line_48 : decode cX12_line 48 = .ok (.iastore, 1) := by decide +kernel
theorem dX12_line_49 : decode cX12_line 49 = .ok (.aload_n 0, 1) := by decide +kernel
theorem dX12_line_50 : decode cX12_line 50 = .ok (.dup, 1) := by decide +kernel
theorem dX12_line_51 : decode cX12_line 51 = .ok (.getfield 200, 3) := by decide +kernel
theorem dX12_line_54 : decode cX12_line 54 = .ok (.iconst 1, 1) := by decide +kernel
theorem dX12_line_55 : decode cX12_line 55 = .ok (.iadd, 1) := by decide +kernel
theorem dX12_line_56 : decode cX12_line 56 = .ok (.putfield 200, 3) := by decide +kernel
theorem dX12_line_59 : decode cX12_line 59 = .ok (.aload_n 0, 1) := by decide +kernel
theorem dX12_line_60 : decode cX12_line 60 = .ok (.getfield 200, 3) := by decide +kernel
theorem dX12_line_63 : decode cX12_line 63 = .ok (.iconst 1, 1) := by decide +kernel
theorem dX12_line_64 : decode cX12_line 64 = .ok (.isub, 1) := by decide +kernel
theorem dX12_line_65 : decode cX12_line 65 = .ok (.ireturn, 1) := by decide +kernel
set_option maxRecDepth 20000 in
theorem ggX12_mark_X12_within : GoodIn wsX12_mark wsX12_within := goodIn_r _ [11] rfl (by decide +kernel)
set_option maxRecDepth 20000 in
theorem gX12_mark_X12_within : GoodIn wsX12_mark (va_wsS RX12 136 yX12_within wsX12_within) := goodIn_app (goodIn_of _ (by decide +kernel)) ggX12_mark_X12_within
set_option maxRecDepth 20000 in
theorem ggX12_mark_X12_isHole : GoodIn wsX12_mark wsX12_isHole := goodIn_r _ [15, 16, 8, 9, 10, 11, 17, 18, 19, 20, 21, 22, 23, 24, 25, 26, 27, 28, 29, 30, 31, 32, 33, 34, 35, 36, 37, 38, 39, 40, 41, 42, 43, 44, 45, 46, 47, 48, 49, 50, 51, 52, 53, 54, 55, 56, 57, 58, 59, 60, 61, 62, 63, 64, 65, 66, 67, 68, 69, 70, 71, 72, 73, 74, 75, 76, 77, 78, 79] rfl (by decide +kernel)
set_option maxRecDepth 20000 in
theorem gX12_mark_X12_isHole : GoodIn wsX12_mark (wsV RX12 170 RX12 yX12_isHole wsX12_isHole) := goodIn_app (goodIn_of _ (by decide +kernel)) ggX12_mark_X12_isHole
theorem dX12_mark_0 : decode cX12_mark 0 = .ok (.iload_n 1, 1) := by decide +kernel
theorem dX12_mark_1 : decode cX12_mark 1 = .ok (.ifCond .lt 64, 3) := by decide +kernel
theorem dX12_mark_4 : decode cX12_mark 4 = .ok (.iload_n 1, 1) := by decide +kernel
theorem dX12_mark_5 : decode cX12_mark 5 = .ok (.bipush 100, 2) := by decide +kernel
theorem dX12_mark_7 : decode cX12_mark 7 = .ok (.idiv, 1) := by decide +kernel
theorem dX12_mark_8 : decode cX12_mark 8 = .ok (.i2l, 1) := by decide +kernel
theorem dX12_mark_9 : decode cX12_mark 9 = .ok (.lconst 0, 1) := by decide +kernel
theorem dX12_mark_10 : decode cX12_mark 10 = .ok (.aload_n 0, 1) := by decide +kernel
theorem dX12_mark_11 : decode cX12_mark 11 = .ok (.getfield 200, 3) := by decide +kernel
theorem dX12_mark_14 : decode cX12_mark 14 = .ok (.iconst 1, 1) := by decide +kernel
theorem dX12_mark_15 : decode cX12_mark 15 = .ok (.isub, 1) := by decide +kernel
theorem dX12_mark_16 : decode cX12_mark 16 = .ok (.i2l, 1) := by decide +kernel
theorem dX12_mark_17 : decode cX12_mark 17 = .ok (.invokestatic 136, 3) := by decide +kernel
theorem dX12_mark_20 : decode cX12_mark 20 = .ok (.ifCond .eq 45, 3) := by decide +kernel
theorem dX12_mark_23 : decode cX12_mark 23 = .ok (.aload_n 0, 1) := by decide +kernel
theorem dX12_mark_24 : decode cX12_mark 24 = .ok (.iload_n 1, 1) := by decide +kernel
theorem dX12_mark_25 : decode cX12_mark 25 = .ok (.bipush 100, 2) := by decide +kernel
theorem dX12_mark_27 : decode cX12_mark 27 = .ok (.irem, 1) := by decide +kernel
theorem dX12_mark_28 : decode cX12_mark 28 = .ok (.invokevirtual 170, 3) := by decide +kernel
theorem dX12_mark_31 : decode cX12_mark 31 = .ok (.ifCond .eq 34, 3) := by decide +kernel
theorem dX12_mark_34 : decode cX12_mark 34 = .ok (.aload_n 0, 1) := by decide +kernel
theorem dX12_mark_35 : decode cX12_mark 35 = .ok (.getfield 22, 3) := by decide +kernel
theorem dX12_mark_38 : decode cX12_mark 38 = .ok (.iload_n 1, 1) := by decide +kernel
theorem dX12_mark_39 : decode cX12_mark 39 = .ok (.bipush 100, 2) := by decide +kernel
theorem dX12_mark_41 : decode cX12_mark 41 = .ok (.irem, 1) := by decide +kernel
theorem dX12_mark_42 : decode cX12_mark 42 = .ok (.iaload, 1) := by decide +kernel
theorem dX12_mark_43 : decode cX12_mark 43 = .ok (.aload_n 0, 1) := by decide +kernel
theorem dX12_mark_44 : decode cX12_mark 44 = .ok (.getfield 43, 3) := by decide +kernel
theorem dX12_mark_47 : decode cX12_mark 47 = .ok (.iload_n 1, 1) := by decide +kernel
theorem dX12_mark_48 : decode cX12_mark 48 = .ok (.bipush 100, 2) := by decide +kernel
theorem dX12_mark_50 : decode cX12_mark 50 = .ok (.idiv, 1) := by decide +kernel
theorem dX12_mark_51 : decode cX12_mark 51 = .ok (.iaload, 1) := by decide +kernel
theorem dX12_mark_52 : decode cX12_mark 52 = .ok (.if_icmp .ne 13, 3) := by decide +kernel
theorem dX12_mark_55 : decode cX12_mark 55 = .ok (.iload_n 2, 1) := by decide +kernel
theorem dX12_mark_56 : decode cX12_mark 56 = .ok (.i2l, 1) := by decide +kernel
theorem dX12_mark_57 : decode cX12_mark 57 = .ok (.lconst 0, 1) := by decide +kernel
theorem dX12_mark_58 : decode cX12_mark 58 = .ok (.lconst 1, 1) := by decide +kernel
theorem dX12_mark_59 : decode cX12_mark 59 = .ok (.invokestatic 136, 3) := by decide +kernel
theorem dX12_mark_62 : decode cX12_mark 62 = .ok (.ifCond .ne 5, 3) := by decide +kernel
theorem dX12_mark_65 : decode cX12_mark 65 = .ok (.iconst (-1), 1) := by decide +kernel
theorem dX12_mark_66 : decode cX12_mark 66 = .ok (.ireturn, 1) := by decide +kernel
theorem dX12_mark_67 : decode cX12_mark 67 = .ok (.iconst 0, 1) := by decide +kernel
theorem dX12_mark_68 : decode cX12_mark 68 = .ok (.istore_n 3, 1) := by decide +kernel
theorem dX12_mark_69 : decode cX12_mark 69 = .ok (.iload_n 3, 1) := by decide +kernel
theorem dX12_mark_70 : decode cX12_mark 70 = .ok (.aload_n 0, 1) := by decide +kernel
theorem dX12_mark_71 : decode cX12_mark 71 = .ok (.getfield 203, 3) := by decide +kernel
theorem dX12_mark_74 : decode cX12_mark 74 = .ok (.if_icmp .ge 35, 3) := by decide +kernel
theorem dX12_mark_77 : decode cX12_mark 77 = .ok (.aload_n 0, 1) := by decide +kernel
theorem dX12_mark_78 : decode cX12_mark 78 = .ok (.getfield 49, 3) := by decide +kernel
theorem dX12_mark_81 : decode cX12_mark 81 = .ok (.iload_n 3, 1) := by decide +kernel
theorem dX12_mark_82 : decode cX12_mark 82 = .ok (.iaload, 1) := by decide +kernel
theorem dX12_mark_83 : decode cX12_mark 83 = .ok (.iload_n 1, 1) := by decide +kernel
theorem dX12_mark_84 : decode cX12_mark 84 = .ok (.bipush 100, 2) := by decide +kernel
theorem dX12_mark_86 : decode cX12_mark 86 = .ok (.idiv, 1) := by decide +kernel
theorem dX12_mark_87 : decode cX12_mark 87 = .ok (.if_icmp .ne 16, 3) := by decide +kernel
theorem dX12_mark_90 : decode cX12_mark 90 = .ok (.aload_n 0, 1) := by decide +kernel
theorem dX12_mark_91 : decode cX12_mark 91 = .ok (.getfield 52, 3) := by decide +kernel
theorem dX12_mark_94 : decode cX12_mark 94 = .ok (.iload_n 3, 1) := by decide +kernel
theorem dX12_mark_95 : decode cX12_mark 95 = .ok (.iaload, 1) := by decide +kernel
theorem dX12_mark_96 : decode cX12_mark 96 = .ok (.iload_n 1, 1) := by decide +kernel
theorem dX12_mark_97 : decode cX12_mark 97 = .ok (.bipush 100, 2) := by decide +kernel
theorem dX12_mark_99 : decode cX12_mark 99 = .ok (.irem, 1) := by decide +kernel
theorem dX12_mark_100 : decode cX12_mark 100 = .ok (.if_icmp .eq 9, 3) := by decide +kernel
theorem dX12_mark_103 : decode cX12_mark 103 = .ok (.iinc 3 1, 3) := by decide +kernel
theorem dX12_mark_106 : decode cX12_mark 106 = .ok (.goto (-37), 3) := by decide +kernel
theorem dX12_mark_109 : decode cX12_mark 109 = .ok (.iload_n 3, 1) := by decide +kernel
theorem dX12_mark_110 : decode cX12_mark 110 = .ok (.bipush 60, 2) := by decide +kernel
theorem dX12_mark_112 : decode cX12_mark 112 = .ok (.if_icmp .ne 6, 3) := by decide +kernel
theorem dX12_mark_115 : decode cX12_mark 115 = .ok (.bipush (-3), 2) := by decide +kernel
theorem dX12_mark_117 : decode cX12_mark 117 = .ok (.ireturn, 1) := by decide +kernel
theorem dX12_mark_118 : decode cX12_mark 118 = .ok (.aload_n 0, 1) := by decide +kernel
theorem dX12_mark_119 : decode cX12_mark 119 = .ok (.getfield 49, 3) := by decide +kernel
theorem dX12_mark_122 : decode cX12_mark 122 = .ok (.iload_n 3, 1) := by decide +kernel
theorem dX12_mark_123 : decode cX12_mark 123 = .ok (.iload_n 1, 1) := by decide +kernel
theorem dX12_mark_124 : decode cX12_mark 124 = .ok (.bipush 100, 2) := by decide +kernel
theorem dX12_mark_126 : decode cX12_mark 126 = .ok (.idiv, 1) := by decide +kernel
theorem dX12_mark_127 : decode cX12_mark 127 = .ok (.iastore, 1) := by decide +kernel
theorem dX12_mark_128 : decode cX12_mark 128 = .ok (.aload_n 0, 1) := by decide +kernel
theorem dX12_mark_129 : decode cX12_mark 129 = .ok (.getfield 52, 3) := by decide +kernel
theorem dX12_mark_132 : decode cX12_mark 132 = .ok (.iload_n 3, 1) := by decide +kernel
theorem dX12_mark_133 : decode cX12_mark 133 = .ok (.iload_n 1, 1) := by decide +kernel
theorem dX12_mark_134 : decode cX12_mark 134 = .ok (.bipush 100, 2) := by decide +kernel
theorem dX12_mark_136 : decode cX12_mark 136 = .ok (.irem, 1) := by decide +kernel
theorem dX12_mark_137 : decode cX12_mark 137 = .ok (.iastore, 1) := by decide +kernel
theorem dX12_mark_138 : decode cX12_mark 138 = .ok (.aload_n 0, 1) := by decide +kernel
theorem dX12_mark_139 : decode cX12_mark 139 = .ok (.getfield 55, 3) := by decide +kernel
theorem dX12_mark_142 : decode cX12_mark 142 = .ok (.iload_n 3, 1) := by decide +kernel
theorem dX12_mark_143 : decode cX12_mark 143 = .ok (.iload_n 2, 1) := by decide +kernel
theorem dX12_mark_144 : decode cX12_mark 144 = .ok (.iconst 1, 1) := by decide +kernel
theorem dX12_mark_145 : decode cX12_mark 145 = .ok (.if_icmp .ne 7, 3) := by decide +kernel
theorem dX12_mark_148 : decode cX12_mark 148 = .ok (.iconst 1, 1) := by decide +kernel
theorem dX12_mark_149 : decode cX12_mark 149 = .ok (.goto 4, 3) := by decide +kernel
theorem dX12_mark_152 : decode cX12_mark 152 = .ok (.iconst 0, 1) := by decide +kernel
theorem dX12_mark_153 : decode cX12_mark 153 = .ok (.bastore, 1) := by decide +kernel
theorem dX12_mark_154 : decode cX12_mark 154 = .ok (.aload_n 0, 1) := by decide +kernel
theorem dX12_mark_155 : decode cX12_mark 155 = .ok (.iload_n 3, 1) := by decide +kernel
theorem dX12_mark_156 : decode cX12_mark 156 = .ok (.aload_n 0, 1) := by decide +kernel
theorem dX12_mark_157 : decode cX12_mark 157 = .ok (.getfield 203, 3) := by decide +kernel
theorem dX12_mark_160 : decode cX12_mark 160 = .ok (.if_icmp .ne 12, 3) := by decide +kernel
theorem dX12_mark_163 : decode cX12_mark 163 = .ok (.aload_n 0, 1) := by decide +kernel
theorem dX12_mark_164 : decode cX12_mark 164 = .ok (.getfield 203, 3) := by decide +kernel
theorem dX12_mark_167 : decode cX12_mark 167 = .ok (.iconst 1, 1) := by decide +kernel
theorem dX12_mark_168 : decode cX12_mark 168 = .ok (.iadd, 1) := by decide +kernel
theorem dX12_mark_169 : decode cX12_mark 169 = .ok (.goto 7, 3) := by decide +kernel
theorem dX12_mark_172 : decode cX12_mark 172 = .ok (.aload_n 0, 1) := by decide +kernel
theorem dX12_mark_173 : decode cX12_mark 173 = .ok (.getfield 203, 3) := by decide +kernel
theorem dX12_mark_176 : decode cX12_mark 176 = .ok (.putfield 203, 3) := by decide +kernel
theorem dX12_mark_179 : decode cX12_mark 179 = .ok (.aload_n 0, 1) := by decide +kernel
theorem dX12_mark_180 : decode cX12_mark 180 = .ok (.getfield 203, 3) := by decide +kernel
theorem dX12_mark_183 : decode cX12_mark 183 = .ok (.ireturn, 1) := by decide +kernel
theorem dX12_has_0 : decode cX12_has 0 = .ok (.iconst 0, 1) := by decide +kernel
theorem dX12_has_1 : decode cX12_has 1 = .ok (.istore 5, 2) := by decide +kernel
theorem dX12_has_3 : decode cX12_has 3 = .ok (.iload 5, 2) := by decide +kernel
theorem dX12_has_5 : decode cX12_has 5 = .ok (.aload_n 0, 1) := by decide +kernel
theorem dX12_has_6 : decode cX12_has 6 = .ok (.getfield 203, 3) := by decide +kernel
theorem dX12_has_9 : decode cX12_has 9 = .ok (.if_icmp .ge 85, 3) := by decide +kernel
theorem dX12_has_12 : decode cX12_has 12 = .ok (.aload_n 0, 1) := by decide +kernel
theorem dX12_has_13 : decode cX12_has 13 = .ok (.getfield 31, 3) := by decide +kernel
theorem dX12_has_16 : decode cX12_has 16 = .ok (.aload_n 0, 1) := by decide +kernel
theorem dX12_has_17 : decode cX12_has 17 = .ok (.getfield 52, 3) := by decide +kernel
theorem dX12_has_20 : decode cX12_has 20 = .ok (.iload 5, 2) := by decide +kernel
theorem dX12_has_22 : decode cX12_has 22 = .ok (.iaload, 1) := by decide +kernel
theorem dX12_has_23 : decode cX12_has 23 = .ok (.iaload, 1) := by decide +kernel
theorem dX12_has_24 : decode cX12_has 24 = .ok (.iload_n 1, 1) := by decide +kernel
theorem dX12_has_25 : decode cX12_has 25 = .ok (.if_icmp .ne 53, 3) := by decide +kernel
theorem dX12_has_28 : decode cX12_has 28 = .ok (.aload_n 0, 1) := by decide +kernel
theorem dX12_has_29 : decode cX12_has 29 = .ok (.getfield 55, 3) := by decide +kernel
theorem dX12_has_32 : decode cX12_has 32 = .ok (.iload 5, 2) := by decide +kernel
theorem dX12_has_34 : decode cX12_has 34 = .ok (.baload, 1) := by decide +kernel
theorem dX12_has_35 : decode cX12_has 35 = .ok (.iload 4, 2) := by decide +kernel
theorem dX12_has_37 : decode cX12_has 37 = .ok (.if_icmp .ne 41, 3) := by decide +kernel
theorem dX12_has_40 : decode cX12_has 40 = .ok (.iload_n 3, 1) := by decide +kernel
theorem dX12_has_41 : decode cX12_has 41 = .ok (.ifCond .ge 22, 3) := by decide +kernel
theorem dX12_has_44 : decode cX12_has 44 = .ok (.aload_n 0, 1) := by decide +kernel
theorem dX12_has_45 : decode cX12_has 45 = .ok (.getfield 46, 3) := by decide +kernel
theorem dX12_has_48 : decode cX12_has 48 = .ok (.aload_n 0, 1) := by decide +kernel
theorem dX12_has_49 : decode cX12_has 49 = .ok (.getfield 49, 3) := by decide +kernel
theorem dX12_has_52 : decode cX12_has 52 = .ok (.iload 5, 2) := by decide +kernel
theorem dX12_has_54 : decode cX12_has 54 = .ok (.iaload, 1) := by decide +kernel
theorem dX12_has_55 : decode cX12_has 55 = .ok (.iaload, 1) := by decide +kernel
theorem dX12_has_56 : decode cX12_has 56 = .ok (.iload_n 2, 1) := by decide +kernel
theorem dX12_has_57 : decode cX12_has 57 = .ok (.if_icmp .ne 21, 3) := by decide +kernel
theorem dX12_has_60 : decode cX12_has 60 = .ok (.goto 14, 3) := by decide +kernel
theorem dX12_has_63 : decode cX12_has 63 = .ok (.aload_n 0, 1) := by decide +kernel
theorem dX12_has_64 : decode cX12_has 64 = .ok (.getfield 49, 3) := by decide +kernel
theorem dX12_has_67 : decode cX12_has 67 = .ok (.iload 5, 2) := by decide +kernel
theorem dX12_has_69 : decode cX12_has 69 = .ok (.iaload, 1) := by decide +kernel
theorem dX12_has_70 : decode cX12_has 70 = .ok (.iload_n 3, 1) := by decide +kernel
theorem dX12_has_71 : decode cX12_has 71 = .ok (.if_icmp .ne 7, 3) := by decide +kernel
theorem dX12_has_74 : decode cX12_has 74 = .ok (.iconst 1, 1) := by decide +kernel
theorem dX12_has_75 : decode cX12_has 75 = .ok (.goto 4, 3) := by decide +kernel
theorem dX12_has_78 : decode cX12_has 78 = .ok (.iconst 0, 1) := by decide +kernel
theorem dX12_has_79 : decode cX12_has 79 = .ok (.istore 6, 2) := by decide +kernel
theorem dX12_has_81 : decode cX12_has 81 = .ok (.iload 6, 2) := by decide +kernel
theorem dX12_has_83 : decode cX12_has 83 = .ok (.ifCond .eq 5, 3) := by decide +kernel
theorem dX12_has_86 : decode cX12_has 86 = .ok (.iconst 1, 1) := by decide +kernel
theorem dX12_has_87 : decode cX12_has 87 = .ok (.ireturn, 1) := by decide +kernel
theorem dX12_has_88 : decode cX12_has 88 = .ok (.iinc 5 1, 3) := by decide +kernel
theorem dX12_has_91 : decode cX12_has 91 = .ok (.goto (-88), 3) := by decide +kernel
theorem dX12_has_94 : decode cX12_has 94 = .ok (.iconst 0, 1) := by decide +kernel
theorem dX12_has_95 : decode cX12_has 95 = .ok (.ireturn, 1) := by decide +kernel
set_option maxRecDepth 20000 in
theorem ggX12_fight_X12_isSlack : GoodIn wsX12_fight wsX12_isSlack := goodIn_r _ [7, 8, 9, 10, 6, 11] rfl (by decide +kernel)
set_option maxRecDepth 20000 in
theorem gX12_fight_X12_isSlack : GoodIn wsX12_fight (va_wsS RX12 163 yX12_isSlack wsX12_isSlack) := goodIn_app (goodIn_of _ (by decide +kernel)) ggX12_fight_X12_isSlack
set_option maxRecDepth 20000 in
theorem ggX12_fight_X12_within : GoodIn wsX12_fight wsX12_within := goodIn_r _ [11] rfl (by decide +kernel)
set_option maxRecDepth 20000 in
theorem gX12_fight_X12_within : GoodIn wsX12_fight (va_wsS RX12 136 yX12_within wsX12_within) := goodIn_app (goodIn_of _ (by decide +kernel)) ggX12_fight_X12_within
set_option maxRecDepth 20000 in
theorem ggX12_fight_X12_findWorms : GoodIn wsX12_fight wsX12_findWorms := goodIn_r _ [15, 16, 17, 18, 19, 20, 2, 21, 30, 31, 32, 33, 34, 35, 36, 37, 38, 39, 40, 41, 42, 43, 44, 45, 46, 47, 48, 49, 50, 51, 52, 53, 54, 55, 56, 57, 58, 59, 60, 61, 62, 63, 64, 65, 66, 67, 68, 69, 70, 71, 72, 73, 74, 75, 76, 77, 78, 79, 80, 81, 82, 83, 84, 85, 86, 87, 88, 89, 90, 91, 92] rfl (by decide +kernel)
set_option maxRecDepth 20000 in
theorem gX12_fight_X12_findWorms : GoodIn wsX12_fight (wsV RX12 166 RX12 yX12_findWorms wsX12_findWorms) := goodIn_app (goodIn_of _ (by decide +kernel)) ggX12_fight_X12_findWorms
set_option maxRecDepth 20000 in
theorem ggX12_fight_X12_has : GoodIn wsX12_fight wsX12_has := goodIn_r _ [25, 26, 17, 27, 28, 3, 29, 30, 31, 32, 33, 34, 35, 36, 37, 38, 39, 40, 41, 42, 43, 44, 45, 46, 47, 48, 49, 50, 51, 52, 53, 54, 55, 56, 57, 58, 59, 60, 61, 62, 63, 64, 65, 66, 67, 68, 69, 70, 71, 72, 73, 74, 75, 76, 77, 78, 79, 80, 81, 82, 83, 84, 85, 86, 87, 88, 89, 90, 91, 92] rfl (by decide +kernel)
set_option maxRecDepth 20000 in
theorem gX12_fight_X12_has : GoodIn wsX12_fight (wsV RX12 206 RX12 yX12_has wsX12_has) := goodIn_app (goodIn_of _ (by decide +kernel)) ggX12_fight_X12_has
theorem dX12_fight_0 : decode cX12_fight 0 = .ok (.iload_n 1, 1) := by decide +kernel
theorem dX12_fight_1 : decode cX12_fight 1 = .ok (.invokestatic 163, 3) := by decide +kernel
theorem dX12_fight_4 : decode cX12_fight 4 = .ok (.ifCond .eq 13, 3) := by decide +kernel
theorem dX12_fight_7 : decode cX12_fight 7 = .ok (.iload_n 2, 1) := by decide +kernel
theorem dX12_fight_8 : decode cX12_fight 8 = .ok (.i2l, 1) := by decide +kernel
theorem dX12_fight_9 : decode cX12_fight 9 = .ok (.lconst 0, 1) := by decide +kernel
theorem dX12_fight_10 : decode cX12_fight 10 = .ok (.lconst 1, 1) := by decide +kernel
theorem dX12_fight_11 : decode cX12_fight 11 = .ok (.invokestatic 136, 3) := by decide +kernel
theorem dX12_fight_14 : decode cX12_fight 14 = .ok (.ifCond .ne 5, 3) := by decide +kernel
theorem dX12_fight_17 : decode cX12_fight 17 = .ok (.iconst (-1), 1) := by decide +kernel
theorem dX12_fight_18 : decode cX12_fight 18 = .ok (.ireturn, 1) := by decide +kernel
theorem dX12_fight_19 : decode cX12_fight 19 = .ok (.aload_n 0, 1) := by decide +kernel
theorem dX12_fight_20 : decode cX12_fight 20 = .ok (.iload_n 1, 1) := by decide +kernel
theorem dX12_fight_21 : decode cX12_fight 21 = .ok (.iconst (-1), 1) := by decide +kernel
theorem dX12_fight_22 : decode cX12_fight 22 = .ok (.invokevirtual 166, 3) := by decide +kernel
theorem dX12_fight_25 : decode cX12_fight 25 = .ok (.iconst 0, 1) := by decide +kernel
theorem dX12_fight_26 : decode cX12_fight 26 = .ok (.istore_n 3, 1) := by decide +kernel
theorem dX12_fight_27 : decode cX12_fight 27 = .ok (.iload_n 3, 1) := by decide +kernel
theorem dX12_fight_28 : decode cX12_fight 28 = .ok (.aload_n 0, 1) := by decide +kernel
theorem dX12_fight_29 : decode cX12_fight 29 = .ok (.getfield 200, 3) := by decide +kernel
theorem dX12_fight_32 : decode cX12_fight 32 = .ok (.if_icmp .ge 67, 3) := by decide +kernel
theorem dX12_fight_35 : decode cX12_fight 35 = .ok (.iconst 0, 1) := by decide +kernel
theorem dX12_fight_36 : decode cX12_fight 36 = .ok (.istore 4, 2) := by decide +kernel
theorem dX12_fight_38 : decode cX12_fight 38 = .ok (.iload 4, 2) := by decide +kernel
theorem dX12_fight_40 : decode cX12_fight 40 = .ok (.aload_n 0, 1) := by decide +kernel
theorem dX12_fight_41 : decode cX12_fight 41 = .ok (.getfield 160, 3) := by decide +kernel
theorem dX12_fight_44 : decode cX12_fight 44 = .ok (.if_icmp .ge 49, 3) := by decide +kernel
theorem dX12_fight_47 : decode cX12_fight 47 = .ok (.aload_n 0, 1) := by decide +kernel
theorem dX12_fight_48 : decode cX12_fight 48 = .ok (.iload 4, 2) := by decide +kernel
theorem dX12_fight_50 : decode cX12_fight 50 = .ok (.iconst (-1), 1) := by decide +kernel
theorem dX12_fight_51 : decode cX12_fight 51 = .ok (.iload_n 3, 1) := by decide +kernel
theorem dX12_fight_52 : decode cX12_fight 52 = .ok (.iconst 1, 1) := by decide +kernel
theorem dX12_fight_53 : decode cX12_fight 53 = .ok (.invokevirtual 206, 3) := by decide +kernel
theorem dX12_fight_56 : decode cX12_fight 56 = .ok (.ifCond .eq 31, 3) := by decide +kernel
theorem dX12_fight_59 : decode cX12_fight 59 = .ok (.aload_n 0, 1) := by decide +kernel
theorem dX12_fight_60 : decode cX12_fight 60 = .ok (.iload 4, 2) := by decide +kernel
theorem dX12_fight_62 : decode cX12_fight 62 = .ok (.aload_n 0, 1) := by decide +kernel
theorem dX12_fight_63 : decode cX12_fight 63 = .ok (.getfield 46, 3) := by decide +kernel
theorem dX12_fight_66 : decode cX12_fight 66 = .ok (.iload_n 3, 1) := by decide +kernel
theorem dX12_fight_67 : decode cX12_fight 67 = .ok (.iaload, 1) := by decide +kernel
theorem dX12_fight_68 : decode cX12_fight 68 = .ok (.iconst (-1), 1) := by decide +kernel
theorem dX12_fight_69 : decode cX12_fight 69 = .ok (.iconst 0, 1) := by decide +kernel
theorem dX12_fight_70 : decode cX12_fight 70 = .ok (.invokevirtual 206, 3) := by decide +kernel
theorem dX12_fight_73 : decode cX12_fight 73 = .ok (.ifCond .eq 14, 3) := by decide +kernel
theorem dX12_fight_76 : decode cX12_fight 76 = .ok (.iload_n 2, 1) := by decide +kernel
theorem dX12_fight_77 : decode cX12_fight 77 = .ok (.ifCond .ne 7, 3) := by decide +kernel
theorem dX12_fight_80 : decode cX12_fight 80 = .ok (.iload_n 3, 1) := by decide +kernel
theorem dX12_fight_81 : decode cX12_fight 81 = .ok (.goto 5, 3) := by decide +kernel
theorem dX12_fight_84 : decode cX12_fight 84 = .ok (.iload 4, 2) := by decide +kernel
theorem dX12_fight_86 : decode cX12_fight 86 = .ok (.ireturn, 1) := by decide +kernel
theorem dX12_fight_87 : decode cX12_fight 87 = .ok (.iinc 4 1, 3) := by decide +kernel
theorem dX12_fight_90 : decode cX12_fight 90 = .ok (.goto (-52), 3) := by decide +kernel
theorem dX12_fight_93 : decode cX12_fight 93 = .ok (.iinc 3 1, 3) := by decide +kernel
theorem dX12_fight_96 : decode cX12_fight 96 = .ok (.goto (-69), 3) := by decide +kernel
theorem dX12_fight_99 : decode cX12_fight 99 = .ok (.bipush (-2), 2) := by decide +kernel
theorem dX12_fight_101 : decode cX12_fight 101 = .ok (.ireturn, 1) := by decide +kernel
set_option maxRecDepth 20000 in
theorem ggX12_cameFirst_X12_has : GoodIn wsX12_cameFirst wsX12_has := goodIn_r _ [6, 7, 8, 9, 10, 11, 12, 13, 14, 15, 16, 17, 18, 19, 20, 21, 22, 23, 24, 25, 26, 27, 28, 29, 30, 31, 32, 33, 34, 35, 36, 37, 38, 39, 40, 41, 42, 43, 44, 45, 46, 47, 48, 49, 50, 51, 52, 53, 54, 55, 56, 57, 58, 59, 60, 61, 62, 63, 64, 65, 66, 67, 68, 69, 70, 71, 72, 73, 74, 75] rfl (by decide +kernel)
set_option maxRecDepth 20000 in
theorem gX12_cameFirst_X12_has : GoodIn wsX12_cameFirst (wsV RX12 206 RX12 yX12_has wsX12_has) := goodIn_app (goodIn_of _ (by decide +kernel)) ggX12_cameFirst_X12_has
theorem dX12_cameFirst_0 : decode cX12_cameFirst 0 = .ok (.iconst 0, 1) := by decide +kernel
theorem dX12_cameFirst_1 : decode cX12_cameFirst 1 = .ok (.istore_n 3, 1) := by decide +kernel
theorem dX12_cameFirst_2 : decode cX12_cameFirst 2 = .ok (.iload_n 3, 1) := by decide +kernel
theorem dX12_cameFirst_3 : decode cX12_cameFirst 3 = .ok (.aload_n 0, 1) := by decide +kernel
theorem dX12_cameFirst_4 : decode cX12_cameFirst 4 = .ok (.getfield 160, 3) := by decide +kernel
theorem dX12_cameFirst_7 : decode cX12_cameFirst 7 = .ok (.if_icmp .ge 33, 3) := by decide +kernel
theorem dX12_cameFirst_10 : decode cX12_cameFirst 10 = .ok (.aload_n 0, 1) := by decide +kernel
theorem dX12_cameFirst_11 : decode cX12_cameFirst 11 = .ok (.iload_n 3, 1) := by decide +kernel
theorem dX12_cameFirst_12 : decode cX12_cameFirst 12 = .ok (.iload_n 1, 1) := by decide +kernel
theorem dX12_cameFirst_13 : decode cX12_cameFirst 13 = .ok (.iconst (-1), 1) := by decide +kernel
theorem dX12_cameFirst_14 : decode cX12_cameFirst 14 = .ok (.iconst 1, 1) := by decide +kernel
theorem dX12_cameFirst_15 : decode cX12_cameFirst 15 = .ok (.invokevirtual 206, 3) := by decide +kernel
theorem dX12_cameFirst_18 : decode cX12_cameFirst 18 = .ok (.ifCond .eq 16, 3) := by decide +kernel
theorem dX12_cameFirst_21 : decode cX12_cameFirst 21 = .ok (.aload_n 0, 1) := by decide +kernel
theorem dX12_cameFirst_22 : decode cX12_cameFirst 22 = .ok (.iload_n 3, 1) := by decide +kernel
theorem dX12_cameFirst_23 : decode cX12_cameFirst 23 = .ok (.iload_n 2, 1) := by decide +kernel
theorem dX12_cameFirst_24 : decode cX12_cameFirst 24 = .ok (.iconst (-1), 1) := by decide +kernel
theorem dX12_cameFirst_25 : decode cX12_cameFirst 25 = .ok (.iconst 0, 1) := by decide +kernel
theorem dX12_cameFirst_26 : decode cX12_cameFirst 26 = .ok (.invokevirtual 206, 3) := by decide +kernel
theorem dX12_cameFirst_29 : decode cX12_cameFirst 29 = .ok (.ifCond .eq 5, 3) := by decide +kernel
theorem dX12_cameFirst_32 : decode cX12_cameFirst 32 = .ok (.iconst 1, 1) := by decide +kernel
theorem dX12_cameFirst_33 : decode cX12_cameFirst 33 = .ok (.ireturn, 1) := by decide +kernel
theorem dX12_cameFirst_34 : decode cX12_cameFirst 34 = .ok (.iinc 3 1, 3) := by decide +kernel
theorem dX12_cameFirst_37 : decode cX12_cameFirst 37 = .ok (.goto (-35), 3) := by decide +kernel
theorem dX12_cameFirst_40 : decode cX12_cameFirst 40 = .ok (.iconst 0, 1) := by decide +kernel
theorem dX12_cameFirst_41 : decode cX12_cameFirst 41 = .ok (.ireturn, 1) := by decide +kernel
set_option maxRecDepth 20000 in
theorem ggX12_firstInk_X12_cameFirst : GoodIn wsX12_firstInk wsX12_cameFirst := goodIn_r _ [7, 8, 9, 10, 11, 6, 12, 13, 14, 15, 16, 2, 17, 18, 19, 20, 21, 22, 23, 24, 25, 26, 27, 28, 29, 30, 31, 32, 33, 34, 35, 36, 37, 38, 39, 40, 41, 42, 43, 44, 45, 46, 47, 48, 49, 50, 51, 52, 53, 54, 55, 56, 57, 58, 59, 60, 61, 62, 63, 64, 65, 66, 67, 68, 69, 70, 71, 72, 73, 74, 75, 76, 77, 78, 79, 80] rfl (by decide +kernel)
set_option maxRecDepth 20000 in
theorem gX12_firstInk_X12_cameFirst : GoodIn wsX12_firstInk (wsV RX12 210 RX12 yX12_cameFirst wsX12_cameFirst) := goodIn_app (goodIn_of _ (by decide +kernel)) ggX12_firstInk_X12_cameFirst
theorem dX12_firstInk_0 : decode cX12_firstInk 0 = .ok (.iconst 0, 1) := by decide +kernel
theorem dX12_firstInk_1 : decode cX12_firstInk 1 = .ok (.istore_n 1, 1) := by decide +kernel
theorem dX12_firstInk_2 : decode cX12_firstInk 2 = .ok (.iload_n 1, 1) := by decide +kernel
theorem dX12_firstInk_3 : decode cX12_firstInk 3 = .ok (.bipush 6, 2) := by decide +kernel
theorem dX12_firstInk_5 : decode cX12_firstInk 5 = .ok (.if_icmp .ge 91, 3) := by decide +kernel
theorem dX12_firstInk_8 : decode cX12_firstInk 8 = .ok (.iconst 0, 1) := by decide +kernel
theorem dX12_firstInk_9 : decode cX12_firstInk 9 = .ok (.istore_n 2, 1) := by decide +kernel
theorem dX12_firstInk_10 : decode cX12_firstInk 10 = .ok (.iconst 0, 1) := by decide +kernel
theorem dX12_firstInk_11 : decode cX12_firstInk 11 = .ok (.istore_n 3, 1) := by decide +kernel
theorem dX12_firstInk_12 : decode cX12_firstInk 12 = .ok (.iload_n 3, 1) := by decide +kernel
theorem dX12_firstInk_13 : decode cX12_firstInk 13 = .ok (.aload_n 0, 1) := by decide +kernel
theorem dX12_firstInk_14 : decode cX12_firstInk 14 = .ok (.getfield 200, 3) := by decide +kernel
theorem dX12_firstInk_17 : decode cX12_firstInk 17 = .ok (.if_icmp .ge 29, 3) := by decide +kernel
theorem dX12_firstInk_20 : decode cX12_firstInk 20 = .ok (.iload_n 2, 1) := by decide +kernel
theorem dX12_firstInk_21 : decode cX12_firstInk 21 = .ok (.ifCond .ne 13, 3) := by decide +kernel
theorem dX12_firstInk_24 : decode cX12_firstInk 24 = .ok (.aload_n 0, 1) := by decide +kernel
theorem dX12_firstInk_25 : decode cX12_firstInk 25 = .ok (.getfield 46, 3) := by decide +kernel
theorem dX12_firstInk_28 : decode cX12_firstInk 28 = .ok (.iload_n 3, 1) := by decide +kernel
theorem dX12_firstInk_29 : decode cX12_firstInk 29 = .ok (.iaload, 1) := by decide +kernel
theorem dX12_firstInk_30 : decode cX12_firstInk 30 = .ok (.iload_n 1, 1) := by decide +kernel
theorem dX12_firstInk_31 : decode cX12_firstInk 31 = .ok (.if_icmp .ne 7, 3) := by decide +kernel
theorem dX12_firstInk_34 : decode cX12_firstInk 34 = .ok (.iconst 1, 1) := by decide +kernel
theorem dX12_firstInk_35 : decode cX12_firstInk 35 = .ok (.goto 4, 3) := by decide +kernel
theorem dX12_firstInk_38 : decode cX12_firstInk 38 = .ok (.iconst 0, 1) := by decide +kernel
theorem dX12_firstInk_39 : decode cX12_firstInk 39 = .ok (.istore_n 2, 1) := by decide +kernel
theorem dX12_firstInk_40 : decode cX12_firstInk 40 = .ok (.iinc 3 1, 3) := by decide +kernel
theorem dX12_firstInk_43 : decode cX12_firstInk 43 = .ok (.goto (-31), 3) := by decide +kernel
theorem dX12_firstInk_46 : decode cX12_firstInk 46 = .ok (.iconst 0, 1) := by decide +kernel
theorem dX12_firstInk_47 : decode cX12_firstInk 47 = .ok (.istore_n 3, 1) := by decide +kernel
theorem dX12_firstInk_48 : decode cX12_firstInk 48 = .ok (.iload_n 3, 1) := by decide +kernel
theorem dX12_firstInk_49 : decode cX12_firstInk 49 = .ok (.bipush 6, 2) := by decide +kernel
theorem dX12_firstInk_51 : decode cX12_firstInk 51 = .ok (.if_icmp .ge 33, 3) := by decide +kernel
theorem dX12_firstInk_54 : decode cX12_firstInk 54 = .ok (.iload_n 2, 1) := by decide +kernel
theorem dX12_firstInk_55 : decode cX12_firstInk 55 = .ok (.ifCond .eq 21, 3) := by decide +kernel
theorem dX12_firstInk_58 : decode cX12_firstInk 58 = .ok (.iload_n 3, 1) := by decide +kernel
theorem dX12_firstInk_59 : decode cX12_firstInk 59 = .ok (.iload_n 1, 1) := by decide +kernel
theorem dX12_firstInk_60 : decode cX12_firstInk 60 = .ok (.if_icmp .eq 12, 3) := by decide +kernel
theorem dX12_firstInk_63 : decode cX12_firstInk 63 = .ok (.aload_n 0, 1) := by decide +kernel
theorem dX12_firstInk_64 : decode cX12_firstInk 64 = .ok (.iload_n 3, 1) := by decide +kernel
theorem dX12_firstInk_65 : decode cX12_firstInk 65 = .ok (.iload_n 1, 1) := by decide +kernel
theorem dX12_firstInk_66 : decode cX12_firstInk 66 = .ok (.invokevirtual 210, 3) := by decide +kernel
theorem dX12_firstInk_69 : decode cX12_firstInk 69 = .ok (.ifCond .ne 7, 3) := by decide +kernel
theorem dX12_firstInk_72 : decode cX12_firstInk 72 = .ok (.iconst 1, 1) := by decide +kernel
theorem dX12_firstInk_73 : decode cX12_firstInk 73 = .ok (.goto 4, 3) := by decide +kernel
theorem dX12_firstInk_76 : decode cX12_firstInk 76 = .ok (.iconst 0, 1) := by decide +kernel
theorem dX12_firstInk_77 : decode cX12_firstInk 77 = .ok (.istore_n 2, 1) := by decide +kernel
theorem dX12_firstInk_78 : decode cX12_firstInk 78 = .ok (.iinc 3 1, 3) := by decide +kernel
theorem dX12_firstInk_81 : decode cX12_firstInk 81 = .ok (.goto (-33), 3) := by decide +kernel
theorem dX12_firstInk_84 : decode cX12_firstInk 84 = .ok (.iload_n 2, 1) := by decide +kernel
theorem dX12_firstInk_85 : decode cX12_firstInk 85 = .ok (.ifCond .eq 5, 3) := by decide +kernel
theorem dX12_firstInk_88 : decode cX12_firstInk 88 = .ok (.iload_n 1, 1) := by decide +kernel
theorem dX12_firstInk_89 : decode cX12_firstInk 89 = .ok (.ireturn, 1) := by decide +kernel
theorem dX12_firstInk_90 : decode cX12_firstInk 90 = .ok (.iinc 1 1, 3) := by decide +kernel
theorem dX12_firstInk_93 : decode cX12_firstInk 93 = .ok (.goto (-91), 3) := by decide +kernel
theorem dX12_firstInk_96 : decode cX12_firstInk 96 = .ok (.bipush (-2), 2) := by decide +kernel
theorem dX12_firstInk_98 : decode cX12_firstInk 98 = .ok (.ireturn, 1) := by decide +kernel
set_option maxRecDepth 20000 in
theorem ggX12_ringOf_X12_cameFirst : GoodIn wsX12_ringOf wsX12_cameFirst := goodIn_r _ [5, 6, 7, 8, 9, 4, 10, 11, 12, 13, 14, 15, 16, 17, 18, 19, 20, 21, 22, 23, 24, 25, 26, 27, 28, 29, 30, 31, 32, 33, 34, 35, 36, 37, 38, 39, 40, 41, 42, 43, 44, 45, 46, 47, 48, 49, 50, 51, 52, 53, 54, 55, 56, 57, 58, 59, 60, 61, 62, 63, 64, 65, 66, 67, 68, 69, 70, 71, 72, 73, 74, 75, 76, 77, 78, 79] rfl (by decide +kernel)
set_option maxRecDepth 20000 in
theorem gX12_ringOf_X12_cameFirst : GoodIn wsX12_ringOf (wsV RX12 210 RX12 yX12_cameFirst wsX12_cameFirst) := goodIn_app (goodIn_of _ (by decide +kernel)) ggX12_ringOf_X12_cameFirst
theorem dX12_ringOf_0 : decode cX12_ringOf 0 = .ok (.iconst 0, 1) := by decide +kernel
theorem dX12_ringOf_1 : decode cX12_ringOf 1 = .ok (.istore_n 1, 1) := by decide +kernel
theorem dX12_ringOf_2 : decode cX12_ringOf 2 = .ok (.iload_n 1, 1) := by decide +kernel
theorem dX12_ringOf_3 : decode cX12_ringOf 3 = .ok (.bipush 6, 2) := by decide +kernel
theorem dX12_ringOf_5 : decode cX12_ringOf 5 = .ok (.if_icmp .ge 50, 3) := by decide +kernel
theorem dX12_ringOf_8 : decode cX12_ringOf 8 = .ok (.iload_n 1, 1) := by decide +kernel
theorem dX12_ringOf_9 : decode cX12_ringOf 9 = .ok (.iconst 1, 1) := by decide +kernel
theorem dX12_ringOf_10 : decode cX12_ringOf 10 = .ok (.iadd, 1) := by decide +kernel
theorem dX12_ringOf_11 : decode cX12_ringOf 11 = .ok (.istore_n 2, 1) := by decide +kernel
theorem dX12_ringOf_12 : decode cX12_ringOf 12 = .ok (.iload_n 2, 1) := by decide +kernel
theorem dX12_ringOf_13 : decode cX12_ringOf 13 = .ok (.bipush 6, 2) := by decide +kernel
theorem dX12_ringOf_15 : decode cX12_ringOf 15 = .ok (.if_icmp .ge 34, 3) := by decide +kernel
theorem dX12_ringOf_18 : decode cX12_ringOf 18 = .ok (.aload_n 0, 1) := by decide +kernel
theorem dX12_ringOf_19 : decode cX12_ringOf 19 = .ok (.iload_n 1, 1) := by decide +kernel
theorem dX12_ringOf_20 : decode cX12_ringOf 20 = .ok (.iload_n 2, 1) := by decide +kernel
theorem dX12_ringOf_21 : decode cX12_ringOf 21 = .ok (.invokevirtual 210, 3) := by decide +kernel
theorem dX12_ringOf_24 : decode cX12_ringOf 24 = .ok (.ifCond .eq 19, 3) := by decide +kernel
theorem dX12_ringOf_27 : decode cX12_ringOf 27 = .ok (.aload_n 0, 1) := by decide +kernel
theorem dX12_ringOf_28 : decode cX12_ringOf 28 = .ok (.iload_n 2, 1) := by decide +kernel
theorem dX12_ringOf_29 : decode cX12_ringOf 29 = .ok (.iload_n 1, 1) := by decide +kernel
theorem dX12_ringOf_30 : decode cX12_ringOf 30 = .ok (.invokevirtual 210, 3) := by decide +kernel
theorem dX12_ringOf_33 : decode cX12_ringOf 33 = .ok (.ifCond .eq 10, 3) := by decide +kernel
theorem dX12_ringOf_36 : decode cX12_ringOf 36 = .ok (.bipush 10, 2) := by decide +kernel
theorem dX12_ringOf_38 : decode cX12_ringOf 38 = .ok (.iload_n 1, 1) := by decide +kernel
theorem dX12_ringOf_39 : decode cX12_ringOf 39 = .ok (.imul, 1) := by decide +kernel
theorem dX12_ringOf_40 : decode cX12_ringOf 40 = .ok (.iload_n 2, 1) := by decide +kernel
theorem dX12_ringOf_41 : decode cX12_ringOf 41 = .ok (.iadd, 1) := by decide +kernel
theorem dX12_ringOf_42 : decode cX12_ringOf 42 = .ok (.ireturn, 1) := by decide +kernel
theorem dX12_ringOf_43 : decode cX12_ringOf 43 = .ok (.iinc 2 1, 3) := by decide +kernel
theorem dX12_ringOf_46 : decode cX12_ringOf 46 = .ok (.goto (-34), 3) := by decide +kernel
theorem dX12_ringOf_49 : decode cX12_ringOf 49 = .ok (.iinc 1 1, 3) := by decide +kernel
theorem dX12_ringOf_52 : decode cX12_ringOf 52 = .ok (.goto (-50), 3) := by decide +kernel
theorem dX12_ringOf_55 : decode cX12_ringOf 55 = .ok (.bipush (-2), 2) := by decide +kernel
theorem dX12_ringOf_57 : decode cX12_ringOf 57 = .ok (.ireturn, 1) := by decide +kernel
set_option maxRecDepth 20000 in
theorem ggX12_inks_X12_isSlack : GoodIn wsX12_inks wsX12_isSlack := goodIn_r _ [4, 5, 6, 7, 3, 8] rfl (by decide +kernel)
set_option maxRecDepth 20000 in
theorem gX12_inks_X12_isSlack : GoodIn wsX12_inks (va_wsS RX12 163 yX12_isSlack wsX12_isSlack) := goodIn_app (goodIn_of _ (by decide +kernel)) ggX12_inks_X12_isSlack
set_option maxRecDepth 20000 in
theorem ggX12_inks_X12_isInk : GoodIn wsX12_inks wsX12_isInk := goodIn_r _ [11, 12, 6, 7, 3, 8] rfl (by decide +kernel)
set_option maxRecDepth 20000 in
theorem gX12_inks_X12_isInk : GoodIn wsX12_inks (va_wsS RX12 197 yX12_isInk wsX12_isInk) := goodIn_app (goodIn_of _ (by decide +kernel)) ggX12_inks_X12_isInk
set_option maxRecDepth 20000 in
theorem ggX12_inks_X12_findWorms : GoodIn wsX12_inks wsX12_findWorms := goodIn_r _ [16, 17, 18, 19, 20, 21, 22, 23, 46, 47, 48, 49, 50, 51, 52, 53, 54, 55, 56, 57, 58, 59, 60, 61, 62, 63, 64, 65, 66, 67, 68, 69, 70, 71, 72, 73, 74, 75, 76, 77, 78, 79, 80, 81, 82, 83, 84, 85, 86, 87, 88, 89, 90, 91, 92, 93, 94, 95, 96, 97, 98, 99, 100, 101, 102, 103, 104, 105, 106, 107, 108] rfl (by decide +kernel)
set_option maxRecDepth 20000 in
theorem gX12_inks_X12_findWorms : GoodIn wsX12_inks (wsV RX12 166 RX12 yX12_findWorms wsX12_findWorms) := goodIn_app (goodIn_of _ (by decide +kernel)) ggX12_inks_X12_findWorms
set_option maxRecDepth 20000 in
theorem ggX12_inks_X12_firstInk : GoodIn wsX12_inks wsX12_firstInk := goodIn_r _ [27, 28, 29, 30, 31, 32, 3, 33, 22, 34, 35, 36, 37, 38, 18, 39, 40, 41, 46, 47, 48, 49, 50, 51, 52, 53, 54, 55, 56, 57, 58, 59, 60, 61, 62, 63, 64, 65, 66, 67, 68, 69, 70, 71, 72, 73, 74, 75, 76, 77, 78, 79, 80, 81, 82, 83, 84, 85, 86, 87, 88, 89, 90, 91, 92, 93, 94, 95, 96, 97, 98, 99, 100, 101, 102, 103, 104, 105, 106, 107, 108] rfl (by decide +kernel)
set_option maxRecDepth 20000 in
theorem gX12_inks_X12_firstInk : GoodIn wsX12_inks (wsV RX12 214 RX12 yX12_firstInk wsX12_firstInk) := goodIn_app (goodIn_of _ (by decide +kernel)) ggX12_inks_X12_firstInk
set_option maxRecDepth 20000 in
theorem ggX12_inks_X12_ringOf : GoodIn wsX12_inks wsX12_ringOf := goodIn_r _ [45, 30, 31, 32, 3, 33, 22, 34, 35, 36, 37, 38, 18, 39, 40, 29, 41, 46, 47, 48, 49, 50, 51, 52, 53, 54, 55, 56, 57, 58, 59, 60, 61, 62, 63, 64, 65, 66, 67, 68, 69, 70, 71, 72, 73, 74, 75, 76, 77, 78, 79, 80, 81, 82, 83, 84, 85, 86, 87, 88, 89, 90, 91, 92, 93, 94, 95, 96, 97, 98, 99, 100, 101, 102, 103, 104, 105, 106, 107, 108] rfl (by decide +kernel)
set_option maxRecDepth 20000 in
theorem gX12_inks_X12_ringOf : GoodIn wsX12_inks (wsV RX12 218 RX12 yX12_ringOf wsX12_ringOf) := goodIn_app (goodIn_of _ (by decide +kernel)) ggX12_inks_X12_ringOf
set_option maxRecDepth 20000 in
theorem ggX12_inks_X12_cameFirst : GoodIn wsX12_inks wsX12_cameFirst := goodIn_r _ [33, 22, 34, 35, 36, 3, 37, 38, 18, 39, 40, 29, 41, 46, 47, 48, 49, 50, 51, 52, 53, 54, 55, 56, 57, 58, 59, 60, 61, 62, 63, 64, 65, 66, 67, 68, 69, 70, 71, 72, 73, 74, 75, 76, 77, 78, 79, 80, 81, 82, 83, 84, 85, 86, 87, 88, 89, 90, 91, 92, 93, 94, 95, 96, 97, 98, 99, 100, 101, 102, 103, 104, 105, 106, 107, 108] rfl (by decide +kernel)
set_option maxRecDepth 20000 in
theorem gX12_inks_X12_cameFirst : GoodIn wsX12_inks (wsV RX12 210 RX12 yX12_cameFirst wsX12_cameFirst) := goodIn_app (goodIn_of _ (by decide +kernel)) ggX12_inks_X12_cameFirst
theorem dX12_inks_0 : decode cX12_inks 0 = .ok (.iload_n 1, 1) := by decide +kernel
theorem dX12_inks_1 : decode cX12_inks 1 = .ok (.invokestatic 163, 3) := by decide +kernel
theorem dX12_inks_4 : decode cX12_inks 4 = .ok (.ifCond .eq 44, 3) := by decide +kernel
theorem dX12_inks_7 : decode cX12_inks 7 = .ok (.iload_n 2, 1) := by decide +kernel
theorem dX12_inks_8 : decode cX12_inks 8 = .ok (.bipush (-2), 2) := by decide +kernel
theorem dX12_inks_10 : decode cX12_inks 10 = .ok (.if_icmp .lt 38, 3) := by decide +kernel
theorem dX12_inks_13 : decode cX12_inks 13 = .ok (.iload_n 2, 1) := by decide +kernel
theorem dX12_inks_14 : decode cX12_inks 14 = .ok (.ifCond .lt 36, 3) := by decide +kernel
theorem dX12_inks_17 : decode cX12_inks 17 = .ok (.iload_n 2, 1) := by decide +kernel
theorem dX12_inks_18 : decode cX12_inks 18 = .ok (.bipush 10, 2) := by decide +kernel
theorem dX12_inks_20 : decode cX12_inks 20 = .ok (.idiv, 1) := by decide +kernel
theorem dX12_inks_21 : decode cX12_inks 21 = .ok (.invokestatic 197, 3) := by decide +kernel
theorem dX12_inks_24 : decode cX12_inks 24 = .ok (.ifCond .eq 24, 3) := by decide +kernel
theorem dX12_inks_27 : decode cX12_inks 27 = .ok (.iload_n 2, 1) := by decide +kernel
theorem dX12_inks_28 : decode cX12_inks 28 = .ok (.bipush 10, 2) := by decide +kernel
theorem dX12_inks_30 : decode cX12_inks 30 = .ok (.irem, 1) := by decide +kernel
theorem dX12_inks_31 : decode cX12_inks 31 = .ok (.invokestatic 197, 3) := by decide +kernel
theorem dX12_inks_34 : decode cX12_inks 34 = .ok (.ifCond .eq 14, 3) := by decide +kernel
theorem dX12_inks_37 : decode cX12_inks 37 = .ok (.iload_n 2, 1) := by decide +kernel
theorem dX12_inks_38 : decode cX12_inks 38 = .ok (.bipush 10, 2) := by decide +kernel
theorem dX12_inks_40 : decode cX12_inks 40 = .ok (.idiv, 1) := by decide +kernel
theorem dX12_inks_41 : decode cX12_inks 41 = .ok (.iload_n 2, 1) := by decide +kernel
theorem dX12_inks_42 : decode cX12_inks 42 = .ok (.bipush 10, 2) := by decide +kernel
theorem dX12_inks_44 : decode cX12_inks 44 = .ok (.irem, 1) := by decide +kernel
theorem dX12_inks_45 : decode cX12_inks 45 = .ok (.if_icmp .ne 5, 3) := by decide +kernel
theorem dX12_inks_48 : decode cX12_inks 48 = .ok (.iconst (-1), 1) := by decide +kernel
theorem dX12_inks_49 : decode cX12_inks 49 = .ok (.ireturn, 1) := by decide +kernel
theorem dX12_inks_50 : decode cX12_inks 50 = .ok (.aload_n 0, 1) := by decide +kernel
theorem dX12_inks_51 : decode cX12_inks 51 = .ok (.iload_n 1, 1) := by decide +kernel
theorem dX12_inks_52 : decode cX12_inks 52 = .ok (.iconst (-1), 1) := by decide +kernel
theorem dX12_inks_53 : decode cX12_inks 53 = .ok (.invokevirtual 166, 3) := by decide +kernel
theorem dX12_inks_56 : decode cX12_inks 56 = .ok (.iload_n 2, 1) := by decide +kernel
theorem dX12_inks_57 : decode cX12_inks 57 = .ok (.ifCond .ge 20, 3) := by decide +kernel
theorem dX12_inks_60 : decode cX12_inks 60 = .ok (.iload_n 2, 1) := by decide +kernel
theorem dX12_inks_61 : decode cX12_inks 61 = .ok (.iconst (-1), 1) := by decide +kernel
theorem dX12_inks_62 : decode cX12_inks 62 = .ok (.if_icmp .ne 10, 3) := by decide +kernel
theorem dX12_inks_65 : decode cX12_inks 65 = .ok (.aload_n 0, 1) := by decide +kernel
theorem dX12_inks_66 : decode cX12_inks 66 = .ok (.invokevirtual 214, 3) := by decide +kernel
theorem dX12_inks_69 : decode cX12_inks 69 = .ok (.goto 7, 3) := by decide +kernel
theorem dX12_inks_72 : decode cX12_inks 72 = .ok (.aload_n 0, 1) := by decide +kernel
theorem dX12_inks_73 : decode cX12_inks 73 = .ok (.invokevirtual 218, 3) := by decide +kernel
theorem dX12_inks_76 : decode cX12_inks 76 = .ok (.ireturn, 1) := by decide +kernel
theorem dX12_inks_77 : decode cX12_inks 77 = .ok (.aload_n 0, 1) := by decide +kernel
theorem dX12_inks_78 : decode cX12_inks 78 = .ok (.iload_n 2, 1) := by decide +kernel
theorem dX12_inks_79 : decode cX12_inks 79 = .ok (.bipush 10, 2) := by decide +kernel
theorem dX12_inks_81 : decode cX12_inks 81 = .ok (.idiv, 1) := by decide +kernel
theorem dX12_inks_82 : decode cX12_inks 82 = .ok (.iload_n 2, 1) := by decide +kernel
theorem dX12_inks_83 : decode cX12_inks 83 = .ok (.bipush 10, 2) := by decide +kernel
theorem dX12_inks_85 : decode cX12_inks 85 = .ok (.irem, 1) := by decide +kernel
theorem dX12_inks_86 : decode cX12_inks 86 = .ok (.invokevirtual 210, 3) := by decide +kernel
theorem dX12_inks_89 : decode cX12_inks 89 = .ok (.ifCond .eq 7, 3) := by decide +kernel
theorem dX12_inks_92 : decode cX12_inks 92 = .ok (.iconst 1, 1) := by decide +kernel
theorem dX12_inks_93 : decode cX12_inks 93 = .ok (.goto 4, 3) := by decide +kernel
theorem dX12_inks_96 : decode cX12_inks 96 = .ok (.iconst 0, 1) := by decide +kernel
theorem dX12_inks_97 : decode cX12_inks 97 = .ok (.ireturn, 1) := by decide +kernel
set_option maxRecDepth 20000 in
theorem ggX12_isDot_X12_within : GoodIn wsX12_isDot wsX12_within := goodIn_r _ [7] rfl (by decide +kernel)
set_option maxRecDepth 20000 in
theorem gX12_isDot_X12_within : GoodIn wsX12_isDot (va_wsS RX12 136 yX12_within wsX12_within) := goodIn_app (goodIn_of _ (by decide +kernel)) ggX12_isDot_X12_within
theorem dX12_isDot_0 : decode cX12_isDot 0 = .ok (.iload_n 0, 1) := by decide +kernel
theorem dX12_isDot_1 : decode cX12_isDot 1 = .ok (.i2l, 1) := by decide +kernel
theorem dX12_isDot_2 : decode cX12_isDot 2 = .ok (.lconst 0, 1) := by decide +kernel
theorem dX12_isDot_3 : decode cX12_isDot 3 = .ok (.ldc2_w 221, 3) := by decide +kernel
theorem dX12_isDot_6 : decode cX12_isDot 6 = .ok (.invokestatic 136, 3) := by decide +kernel
theorem dX12_isDot_9 : decode cX12_isDot 9 = .ok (.ifCond .eq 31, 3) := by decide +kernel
theorem dX12_isDot_12 : decode cX12_isDot 12 = .ok (.iload_n 1, 1) := by decide +kernel
theorem dX12_isDot_13 : decode cX12_isDot 13 = .ok (.i2l, 1) := by decide +kernel
theorem dX12_isDot_14 : decode cX12_isDot 14 = .ok (.lconst 0, 1) := by decide +kernel
theorem dX12_isDot_15 : decode cX12_isDot 15 = .ok (.ldc2_w 223, 3) := by decide +kernel
theorem dX12_isDot_18 : decode cX12_isDot 18 = .ok (.invokestatic 136, 3) := by decide +kernel
theorem dX12_isDot_21 : decode cX12_isDot 21 = .ok (.ifCond .eq 19, 3) := by decide +kernel
theorem dX12_isDot_24 : decode cX12_isDot 24 = .ok (.iload_n 2, 1) := by decide +kernel
theorem dX12_isDot_25 : decode cX12_isDot 25 = .ok (.i2l, 1) := by decide +kernel
theorem dX12_isDot_26 : decode cX12_isDot 26 = .ok (.lconst 0, 1) := by decide +kernel
theorem dX12_isDot_27 : decode cX12_isDot 27 = .ok (.ldc2_w 225, 3) := by decide +kernel
theorem dX12_isDot_30 : decode cX12_isDot 30 = .ok (.invokestatic 136, 3) := by decide +kernel
theorem dX12_isDot_33 : decode cX12_isDot 33 = .ok (.ifCond .eq 7, 3) := by decide +kernel
theorem dX12_isDot_36 : decode cX12_isDot 36 = .ok (.iconst 1, 1) := by decide +kernel
theorem dX12_isDot_37 : decode cX12_isDot 37 = .ok (.goto 4, 3) := by decide +kernel
theorem dX12_isDot_40 : decode cX12_isDot 40 = .ok (.iconst 0, 1) := by decide +kernel
theorem dX12_isDot_41 : decode cX12_isDot 41 = .ok (.ireturn, 1) := by decide +kernel
theorem dX12_adds_0 : decode cX12_adds 0 = .ok (.aload_n 0, 1) := by decide +kernel
theorem dX12_adds_1 : decode cX12_adds 1 = .ok (.getfield 59, 3) := by decide +kernel
theorem dX12_adds_4 : decode cX12_adds 4 = .ok (.aload_n 0, 1) := by decide +kernel
theorem dX12_adds_5 : decode cX12_adds 5 = .ok (.getfield 227, 3) := by decide +kernel
theorem dX12_adds_8 : decode cX12_adds 8 = .ok (.iload_n 1, 1) := by decide +kernel
theorem dX12_adds_9 : decode cX12_adds 9 = .ok (.iastore, 1) := by decide +kernel
theorem dX12_adds_10 : decode cX12_adds 10 = .ok (.aload_n 0, 1) := by decide +kernel
theorem dX12_adds_11 : decode cX12_adds 11 = .ok (.getfield 62, 3) := by decide +kernel
theorem dX12_adds_14 : decode cX12_adds 14 = .ok (.aload_n 0, 1) := by decide +kernel
theorem dX12_adds_15 : decode cX12_adds 15 = .ok (.getfield 227, 3) := by decide +kernel
theorem dX12_adds_18 : decode cX12_adds 18 = .ok (.iload_n 2, 1) := by decide +kernel
theorem dX12_adds_19 : decode cX12_adds 19 = .ok (.iastore, 1) := by decide +kernel
theorem dX12_adds_20 : decode cX12_adds 20 = .ok (.aload_n 0, 1) := by decide +kernel
theorem dX12_adds_21 : decode cX12_adds 21 = .ok (.getfield 9, 3) := by decide +kernel
theorem dX12_adds_24 : decode cX12_adds 24 = .ok (.aload_n 0, 1) := by decide +kernel
theorem dX12_adds_25 : decode cX12_adds 25 = .ok (.getfield 227, 3) := by decide +kernel
theorem dX12_adds_28 : decode cX12_adds 28 = .ok (.iload_n 3, 1) := by decide +kernel
theorem dX12_adds_29 : decode cX12_adds 29 = .ok (.iastore, 1) := by decide +kernel
theorem dX12_adds_30 : decode cX12_adds 30 = .ok (.aload_n 0, 1) := by decide +kernel
theorem dX12_adds_31 : decode cX12_adds 31 = .ok (.dup, 1) := by decide +kernel
theorem dX12_adds_32 : decode cX12_adds 32 = .ok (.getfield 227, 3) := by decide +kernel
theorem dX12_adds_35 : decode cX12_adds 35 = .ok (.iconst 1, 1) := by decide +kernel
theorem dX12_adds_36 : decode cX12_adds 36 = .ok (.iadd, 1) := by decide +kernel
theorem dX12_adds_37 : decode cX12_adds 37 = .ok (.putfield 227, 3) := by decide +kernel
theorem dX12_adds_40 : decode cX12_adds 40 = .ok (.return_, 1) := by decide +kernel
set_option maxRecDepth 20000 in
theorem ggX12_dot_X12_isDot : GoodIn wsX12_dot wsX12_isDot := goodIn_r _ [5, 6, 7, 8, 9, 10, 4, 11] rfl (by decide +kernel)
set_option maxRecDepth 20000 in
theorem gX12_dot_X12_isDot : GoodIn wsX12_dot (va_wsS RX12 230 yX12_isDot wsX12_isDot) := goodIn_app (goodIn_of _ (by decide +kernel)) ggX12_dot_X12_isDot
set_option maxRecDepth 20000 in
theorem ggX12_dot_X12_adds : GoodIn wsX12_dot wsX12_adds := goodIn_r _ [15, 16, 1, 17, 18, 19, 20, 21, 22, 23, 24, 25, 26, 27, 28, 29, 30, 31, 32, 33, 34, 35, 36, 37, 38, 39, 40, 41, 42, 43, 44, 45, 46, 47, 48, 49, 50, 51, 52, 53, 54, 55, 56, 57, 58, 59, 60, 61, 62, 63, 64, 65, 66, 67, 68, 69, 70, 71, 72, 73, 74, 75, 76, 77, 78, 79, 80, 81] rfl (by decide +kernel)
set_option maxRecDepth 20000 in
theorem gX12_dot_X12_adds : GoodIn wsX12_dot (wsV RX12 234 RX12 yX12_adds wsX12_adds) := goodIn_app (goodIn_of _ (by decide +kernel)) ggX12_dot_X12_adds
theorem dX12_dot_0 : decode cX12_dot 0 = .ok (.iload_n 1, 1) := by decide +kernel
theorem dX12_dot_1 : decode cX12_dot 1 = .ok (.ifCond .lt 18, 3) := by decide +kernel
theorem dX12_dot_4 : decode cX12_dot 4 = .ok (.iload_n 1, 1) := by decide +kernel
theorem dX12_dot_5 : decode cX12_dot 5 = .ok (.bipush 10, 2) := by decide +kernel
theorem dX12_dot_7 : decode cX12_dot 7 = .ok (.idiv, 1) := by decide +kernel
theorem dX12_dot_8 : decode cX12_dot 8 = .ok (.iload_n 1, 1) := by decide +kernel
theorem dX12_dot_9 : decode cX12_dot 9 = .ok (.bipush 10, 2) := by decide +kernel
theorem dX12_dot_11 : decode cX12_dot 11 = .ok (.irem, 1) := by decide +kernel
theorem dX12_dot_12 : decode cX12_dot 12 = .ok (.iload_n 2, 1) := by decide +kernel
theorem dX12_dot_13 : decode cX12_dot 13 = .ok (.invokestatic 230, 3) := by decide +kernel
theorem dX12_dot_16 : decode cX12_dot 16 = .ok (.ifCond .ne 5, 3) := by decide +kernel
theorem dX12_dot_19 : decode cX12_dot 19 = .ok (.iconst (-1), 1) := by decide +kernel
theorem dX12_dot_20 : decode cX12_dot 20 = .ok (.ireturn, 1) := by decide +kernel
theorem dX12_dot_21 : decode cX12_dot 21 = .ok (.aload_n 0, 1) := by decide +kernel
theorem dX12_dot_22 : decode cX12_dot 22 = .ok (.getfield 227, 3) := by decide +kernel
theorem dX12_dot_25 : decode cX12_dot 25 = .ok (.bipush 40, 2) := by decide +kernel
theorem dX12_dot_27 : decode cX12_dot 27 = .ok (.if_icmp .ne 6, 3) := by decide +kernel
theorem dX12_dot_30 : decode cX12_dot 30 = .ok (.bipush (-3), 2) := by decide +kernel
theorem dX12_dot_32 : decode cX12_dot 32 = .ok (.ireturn, 1) := by decide +kernel
theorem dX12_dot_33 : decode cX12_dot 33 = .ok (.aload_n 0, 1) := by decide +kernel
theorem dX12_dot_34 : decode cX12_dot 34 = .ok (.iload_n 1, 1) := by decide +kernel
theorem dX12_dot_35 : decode cX12_dot 35 = .ok (.bipush 10, 2) := by decide +kernel
theorem dX12_dot_37 : decode cX12_dot 37 = .ok (.idiv, 1) := by decide +kernel
theorem dX12_dot_38 : decode cX12_dot 38 = .ok (.iload_n 1, 1) := by decide +kernel
theorem dX12_dot_39 : decode cX12_dot 39 = .ok (.bipush 10, 2) := by decide +kernel
theorem dX12_dot_41 : decode cX12_dot 41 = .ok (.irem, 1) := by decide +kernel
theorem dX12_dot_42 : decode cX12_dot 42 = .ok (.iload_n 2, 1) := by decide +kernel
theorem dX12_dot_43 : decode cX12_dot 43 = .ok (.invokevirtual 234, 3) := by decide +kernel
theorem dX12_dot_46 : decode cX12_dot 46 = .ok (.aload_n 0, 1) := by decide +kernel
theorem dX12_dot_47 : decode cX12_dot 47 = .ok (.getfield 227, 3) := by decide +kernel
theorem dX12_dot_50 : decode cX12_dot 50 = .ok (.iconst 1, 1) := by decide +kernel
theorem dX12_dot_51 : decode cX12_dot 51 = .ok (.isub, 1) := by decide +kernel
theorem dX12_dot_52 : decode cX12_dot 52 = .ok (.ireturn, 1) := by decide +kernel
set_option maxRecDepth 20000 in
theorem ggX12_mend_X12_within : GoodIn wsX12_mend wsX12_within := goodIn_r _ [6] rfl (by decide +kernel)
set_option maxRecDepth 20000 in
theorem gX12_mend_X12_within : GoodIn wsX12_mend (va_wsS RX12 136 yX12_within wsX12_within) := goodIn_app (goodIn_of _ (by decide +kernel)) ggX12_mend_X12_within
set_option maxRecDepth 20000 in
theorem ggX12_mend_X12_becomes : GoodIn wsX12_mend wsX12_becomes := goodIn_r _ [10, 11, 12, 13, 14, 15, 16, 17, 18, 19, 20, 21, 22, 23, 24, 25, 26, 27, 28, 29, 30, 31, 32, 33, 34, 35, 36, 37, 38, 39, 40, 41, 42, 43, 44, 45, 46, 47, 48, 49, 50, 51, 52, 53, 54, 55, 56, 57, 58, 59, 60, 61, 62, 63, 64, 65, 66, 67, 68, 69, 70, 71, 72, 73, 74, 75, 76, 77, 78, 79] rfl (by decide +kernel)
set_option maxRecDepth 20000 in
theorem gX12_mend_X12_becomes : GoodIn wsX12_mend (wsV RX12 154 RX12 yX12_becomes wsX12_becomes) := goodIn_app (goodIn_of _ (by decide +kernel)) ggX12_mend_X12_becomes
theorem dX12_mend_0 : decode cX12_mend 0 = .ok (.iload_n 1, 1) := by decide +kernel
theorem dX12_mend_1 : decode cX12_mend 1 = .ok (.i2l, 1) := by decide +kernel
theorem dX12_mend_2 : decode cX12_mend 2 = .ok (.lconst 0, 1) := by decide +kernel
theorem dX12_mend_3 : decode cX12_mend 3 = .ok (.aload_n 0, 1) := by decide +kernel
theorem dX12_mend_4 : decode cX12_mend 4 = .ok (.getfield 227, 3) := by decide +kernel
theorem dX12_mend_7 : decode cX12_mend 7 = .ok (.iconst 1, 1) := by decide +kernel
theorem dX12_mend_8 : decode cX12_mend 8 = .ok (.isub, 1) := by decide +kernel
theorem dX12_mend_9 : decode cX12_mend 9 = .ok (.i2l, 1) := by decide +kernel
theorem dX12_mend_10 : decode cX12_mend 10 = .ok (.invokestatic 136, 3) := by decide +kernel
theorem dX12_mend_13 : decode cX12_mend 13 = .ok (.ifCond .eq 24, 3) := by decide +kernel
theorem dX12_mend_16 : decode cX12_mend 16 = .ok (.iload_n 2, 1) := by decide +kernel
theorem dX12_mend_17 : decode cX12_mend 17 = .ok (.i2l, 1) := by decide +kernel
theorem dX12_mend_18 : decode cX12_mend 18 = .ok (.lconst 0, 1) := by decide +kernel
theorem dX12_mend_19 : decode cX12_mend 19 = .ok (.ldc2_w 225, 3) := by decide +kernel
theorem dX12_mend_22 : decode cX12_mend 22 = .ok (.invokestatic 136, 3) := by decide +kernel
theorem dX12_mend_25 : decode cX12_mend 25 = .ok (.ifCond .eq 12, 3) := by decide +kernel
theorem dX12_mend_28 : decode cX12_mend 28 = .ok (.aload_n 0, 1) := by decide +kernel
theorem dX12_mend_29 : decode cX12_mend 29 = .ok (.iload_n 1, 1) := by decide +kernel
theorem dX12_mend_30 : decode cX12_mend 30 = .ok (.iload_n 2, 1) := by decide +kernel
theorem dX12_mend_31 : decode cX12_mend 31 = .ok (.invokevirtual 154, 3) := by decide +kernel
theorem dX12_mend_34 : decode cX12_mend 34 = .ok (.goto 4, 3) := by decide +kernel
theorem dX12_mend_37 : decode cX12_mend 37 = .ok (.iconst (-1), 1) := by decide +kernel
theorem dX12_mend_38 : decode cX12_mend 38 = .ok (.ireturn, 1) := by decide +kernel
set_option maxRecDepth 20000 in
theorem ggX12_dots_X12_isShelf : GoodIn wsX12_dots wsX12_isShelf := goodIn_r _ [9, 10, 11, 12, 8, 13] rfl (by decide +kernel)
set_option maxRecDepth 20000 in
theorem gX12_dots_X12_isShelf : GoodIn wsX12_dots (va_wsS RX12 238 yX12_isShelf wsX12_isShelf) := goodIn_app (goodIn_of _ (by decide +kernel)) ggX12_dots_X12_isShelf
set_option maxRecDepth 20000 in
theorem ggX12_dots_X12_within : GoodIn wsX12_dots wsX12_within := goodIn_r _ [13] rfl (by decide +kernel)
set_option maxRecDepth 20000 in
theorem gX12_dots_X12_within : GoodIn wsX12_dots (va_wsS RX12 136 yX12_within wsX12_within) := goodIn_app (goodIn_of _ (by decide +kernel)) ggX12_dots_X12_within
set_option maxRecDepth 20000 in
theorem ggX12_dots_X12_isDot : GoodIn wsX12_dots wsX12_isDot := goodIn_r _ [16, 17, 18, 19, 11, 12, 8, 13] rfl (by decide +kernel)
set_option maxRecDepth 20000 in
theorem gX12_dots_X12_isDot : GoodIn wsX12_dots (va_wsS RX12 230 yX12_isDot wsX12_isDot) := goodIn_app (goodIn_of _ (by decide +kernel)) ggX12_dots_X12_isDot
set_option maxRecDepth 20000 in
theorem ggX12_dots_X12_adds : GoodIn wsX12_dots wsX12_adds := goodIn_r _ [23, 24, 4, 25, 26, 27, 28, 29, 30, 31, 32, 33, 34, 35, 36, 37, 38, 39, 40, 41, 42, 43, 44, 45, 46, 47, 48, 49, 50, 51, 52, 53, 54, 55, 56, 57, 58, 59, 60, 61, 62, 63, 64, 65, 66, 67, 68, 69, 70, 71, 72, 73, 74, 75, 76, 77, 78, 79, 80, 81, 82, 83, 84, 85, 86, 87, 88, 89] rfl (by decide +kernel)
set_option maxRecDepth 20000 in
theorem gX12_dots_X12_adds : GoodIn wsX12_dots (wsV RX12 234 RX12 yX12_adds wsX12_adds) := goodIn_app (goodIn_of _ (by decide +kernel)) ggX12_dots_X12_adds
theorem dX12_dots_0 : decode cX12_dots 0 = .ok (.iload_n 1, 1) := by decide +kernel
theorem dX12_dots_1 : decode cX12_dots 1 = .ok (.invokestatic 238, 3) := by decide +kernel
theorem dX12_dots_4 : decode cX12_dots 4 = .ok (.ifCond .eq 15, 3) := by decide +kernel
theorem dX12_dots_7 : decode cX12_dots 7 = .ok (.iload_n 3, 1) := by decide +kernel
theorem dX12_dots_8 : decode cX12_dots 8 = .ok (.i2l, 1) := by decide +kernel
theorem dX12_dots_9 : decode cX12_dots 9 = .ok (.lconst 1, 1) := by decide +kernel
theorem dX12_dots_10 : decode cX12_dots 10 = .ok (.ldc2_w 241, 3) := by decide +kernel
theorem dX12_dots_13 : decode cX12_dots 13 = .ok (.invokestatic 136, 3) := by decide +kernel
theorem dX12_dots_16 : decode cX12_dots 16 = .ok (.ifCond .ne 5, 3) := by decide +kernel
theorem dX12_dots_19 : decode cX12_dots 19 = .ok (.iconst (-1), 1) := by decide +kernel
theorem dX12_dots_20 : decode cX12_dots 20 = .ok (.ireturn, 1) := by decide +kernel
theorem dX12_dots_21 : decode cX12_dots 21 = .ok (.aload_n 0, 1) := by decide +kernel
theorem dX12_dots_22 : decode cX12_dots 22 = .ok (.getfield 107, 3) := by decide +kernel
theorem dX12_dots_25 : decode cX12_dots 25 = .ok (.iload_n 1, 1) := by decide +kernel
theorem dX12_dots_26 : decode cX12_dots 26 = .ok (.iaload, 1) := by decide +kernel
theorem dX12_dots_27 : decode cX12_dots 27 = .ok (.ifCond .lt 17, 3) := by decide +kernel
theorem dX12_dots_30 : decode cX12_dots 30 = .ok (.aload_n 0, 1) := by decide +kernel
theorem dX12_dots_31 : decode cX12_dots 31 = .ok (.getfield 107, 3) := by decide +kernel
theorem dX12_dots_34 : decode cX12_dots 34 = .ok (.iload_n 1, 1) := by decide +kernel
theorem dX12_dots_35 : decode cX12_dots 35 = .ok (.iaload, 1) := by decide +kernel
theorem dX12_dots_36 : decode cX12_dots 36 = .ok (.bipush 51, 2) := by decide +kernel
theorem dX12_dots_38 : decode cX12_dots 38 = .ok (.if_icmp .eq 6, 3) := by decide +kernel
theorem dX12_dots_41 : decode cX12_dots 41 = .ok (.bipush (-12), 2) := by decide +kernel
theorem dX12_dots_43 : decode cX12_dots 43 = .ok (.ireturn, 1) := by decide +kernel
theorem dX12_dots_44 : decode cX12_dots 44 = .ok (.iconst 0, 1) := by decide +kernel
theorem dX12_dots_45 : decode cX12_dots 45 = .ok (.istore 4, 2) := by decide +kernel
theorem dX12_dots_47 : decode cX12_dots 47 = .ok (.aload_n 0, 1) := by decide +kernel
theorem dX12_dots_48 : decode cX12_dots 48 = .ok (.getfield 107, 3) := by decide +kernel
theorem dX12_dots_51 : decode cX12_dots 51 = .ok (.iload_n 1, 1) := by decide +kernel
theorem dX12_dots_52 : decode cX12_dots 52 = .ok (.iaload, 1) := by decide +kernel
theorem dX12_dots_53 : decode cX12_dots 53 = .ok (.bipush 51, 2) := by decide +kernel
theorem dX12_dots_55 : decode cX12_dots 55 = .ok (.if_icmp .ne 11, 3) := by decide +kernel
theorem dX12_dots_58 : decode cX12_dots 58 = .ok (.iload_n 2, 1) := by decide +kernel
theorem dX12_dots_59 : decode cX12_dots 59 = .ok (.ifCond .lt 7, 3) := by decide +kernel
theorem dX12_dots_62 : decode cX12_dots 62 = .ok (.iconst 1, 1) := by decide +kernel
theorem dX12_dots_63 : decode cX12_dots 63 = .ok (.goto 4, 3) := by decide +kernel
theorem dX12_dots_66 : decode cX12_dots 66 = .ok (.iconst 0, 1) := by decide +kernel
theorem dX12_dots_67 : decode cX12_dots 67 = .ok (.istore 5, 2) := by decide +kernel
theorem dX12_dots_69 : decode cX12_dots 69 = .ok (.iload 5, 2) := by decide +kernel
theorem dX12_dots_71 : decode cX12_dots 71 = .ok (.ifCond .eq 144, 3) := by decide +kernel
theorem dX12_dots_74 : decode cX12_dots 74 = .ok (.iload 4, 2) := by decide +kernel
theorem dX12_dots_76 : decode cX12_dots 76 = .ok (.iload_n 3, 1) := by decide +kernel
theorem dX12_dots_77 : decode cX12_dots 77 = .ok (.if_icmp .ge 138, 3) := by decide +kernel
theorem dX12_dots_80 : decode cX12_dots 80 = .ok (.iload_n 2, 1) := by decide +kernel
theorem dX12_dots_81 : decode cX12_dots 81 = .ok (.aload_n 0, 1) := by decide +kernel
theorem dX12_dots_82 : decode cX12_dots 82 = .ok (.getfield 110, 3) := by decide +kernel
theorem dX12_dots_85 : decode cX12_dots 85 = .ok (.iload_n 1, 1) := by decide +kernel
theorem dX12_dots_86 : decode cX12_dots 86 = .ok (.iaload, 1) := by decide +kernel
theorem dX12_dots_87 : decode cX12_dots 87 = .ok (.iconst 3, 1) := by decide +kernel
theorem dX12_dots_88 : decode cX12_dots 88 = .ok (.isub, 1) := by decide +kernel
theorem dX12_dots_89 : decode cX12_dots 89 = .ok (.iconst 3, 1) := by decide +kernel
theorem dX12_dots_90 : decode cX12_dots 90 = .ok (.iload 4, 2) := by decide +kernel
theorem dX12_dots_92 : decode cX12_dots 92 = .ok (.imul, 1) := by decide +kernel
theorem dX12_dots_93 : decode cX12_dots 93 = .ok (.isub, 1) := by decide +kernel
theorem dX12_dots_94 : decode cX12_dots 94 = .ok (.if_icmp .gt 16, 3) := by decide +kernel
theorem dX12_dots_97 : decode cX12_dots 97 = .ok (.aload_n 0, 1) := by decide +kernel
theorem dX12_dots_98 : decode cX12_dots 98 = .ok (.getfield 227, 3) := by decide +kernel
theorem dX12_dots_101 : decode cX12_dots 101 = .ok (.bipush 40, 2) := by decide +kernel
theorem dX12_dots_103 : decode cX12_dots 103 = .ok (.if_icmp .ge 7, 3) := by decide +kernel
theorem dX12_dots_106 : decode cX12_dots 106 = .ok (.iconst 1, 1) := by decide +kernel
theorem dX12_dots_107 : decode cX12_dots 107 = .ok (.goto 4, 3) := by decide +kernel
theorem dX12_dots_110 : decode cX12_dots 110 = .ok (.iconst 0, 1) := by decide +kernel
theorem dX12_dots_111 : decode cX12_dots 111 = .ok (.istore 5, 2) := by decide +kernel
theorem dX12_dots_113 : decode cX12_dots 113 = .ok (.bipush 60, 2) := by decide +kernel
theorem dX12_dots_115 : decode cX12_dots 115 = .ok (.iload_n 1, 1) := by decide +kernel
theorem dX12_dots_116 : decode cX12_dots 116 = .ok (.imul, 1) := by decide +kernel
theorem dX12_dots_117 : decode cX12_dots 117 = .ok (.iload_n 2, 1) := by decide +kernel
theorem dX12_dots_118 : decode cX12_dots 118 = .ok (.iadd, 1) := by decide +kernel
theorem dX12_dots_119 : decode cX12_dots 119 = .ok (.iconst 3, 1) := by decide +kernel
theorem dX12_dots_120 : decode cX12_dots 120 = .ok (.iload 4, 2) := by decide +kernel
theorem dX12_dots_122 : decode cX12_dots 122 = .ok (.imul, 1) := by decide +kernel
theorem dX12_dots_123 : decode cX12_dots 123 = .ok (.iadd, 1) := by decide +kernel
theorem dX12_dots_124 : decode cX12_dots 124 = .ok (.istore 6, 2) := by decide +kernel
theorem dX12_dots_126 : decode cX12_dots 126 = .ok (.iload 5, 2) := by decide +kernel
theorem dX12_dots_128 : decode cX12_dots 128 = .ok (.ifCond .eq 41, 3) := by decide +kernel
theorem dX12_dots_131 : decode cX12_dots 131 = .ok (.aload_n 0, 1) := by decide +kernel
theorem dX12_dots_132 : decode cX12_dots 132 = .ok (.getfield 113, 3) := by decide +kernel
theorem dX12_dots_135 : decode cX12_dots 135 = .ok (.iload 6, 2) := by decide +kernel
theorem dX12_dots_137 : decode cX12_dots 137 = .ok (.laload, 1) := by decide +kernel
theorem dX12_dots_138 : decode cX12_dots 138 = .ok (.l2i, 1) := by decide +kernel
theorem dX12_dots_139 : decode cX12_dots 139 = .ok (.aload_n 0, 1) := by decide +kernel
theorem dX12_dots_140 : decode cX12_dots 140 = .ok (.getfield 113, 3) := by decide +kernel
theorem dX12_dots_143 : decode cX12_dots 143 = .ok (.iload 6, 2) := by decide +kernel
theorem dX12_dots_145 : decode cX12_dots 145 = .ok (.iconst 1, 1) := by decide +kernel
theorem dX12_dots_146 : decode cX12_dots 146 = .ok (.iadd, 1) := by decide +kernel
theorem dX12_dots_147 : decode cX12_dots 147 = .ok (.laload, 1) := by decide +kernel
theorem dX12_dots_148 : decode cX12_dots 148 = .ok (.l2i, 1) := by decide +kernel
theorem dX12_dots_149 : decode cX12_dots 149 = .ok (.aload_n 0, 1) := by decide +kernel
theorem dX12_dots_150 : decode cX12_dots 150 = .ok (.getfield 113, 3) := by decide +kernel
theorem dX12_dots_153 : decode cX12_dots 153 = .ok (.iload 6, 2) := by decide +kernel
theorem dX12_dots_155 : decode cX12_dots 155 = .ok (.iconst 2, 1) := by decide +kernel
theorem dX12_dots_156 : decode cX12_dots 156 = .ok (.iadd, 1) := by decide +kernel
theorem dX12_dots_157 : decode cX12_dots 157 = .ok (.laload, 1) := by decide +kernel
theorem dX12_dots_158 : decode cX12_dots 158 = .ok (.l2i, 1) := by decide +kernel
theorem dX12_dots_159 : decode cX12_dots 159 = .ok (.invokestatic 230, 3) := by decide +kernel
theorem dX12_dots_162 : decode cX12_dots 162 = .ok (.ifCond .eq 7, 3) := by decide +kernel
theorem dX12_dots_165 : decode cX12_dots 165 = .ok (.iconst 1, 1) := by decide +kernel
theorem dX12_dots_166 : decode cX12_dots 166 = .ok (.goto 4, 3) := by decide +kernel
theorem dX12_dots_169 : decode cX12_dots 169 = .ok (.iconst 0, 1) := by decide +kernel
theorem dX12_dots_170 : decode cX12_dots 170 = .ok (.istore 5, 2) := by decide +kernel
theorem dX12_dots_172 : decode cX12_dots 172 = .ok (.iload 5, 2) := by decide +kernel
theorem dX12_dots_174 : decode cX12_dots 174 = .ok (.ifCond .eq 38, 3) := by decide +kernel
theorem dX12_dots_177 : decode cX12_dots 177 = .ok (.aload_n 0, 1) := by decide +kernel
theorem dX12_dots_178 : decode cX12_dots 178 = .ok (.aload_n 0, 1) := by decide +kernel
theorem dX12_dots_179 : decode cX12_dots 179 = .ok (.getfield 113, 3) := by decide +kernel
theorem dX12_dots_182 : decode cX12_dots 182 = .ok (.iload 6, 2) := by decide +kernel
theorem dX12_dots_184 : decode cX12_dots 184 = .ok (.laload, 1) := by decide +kernel
theorem dX12_dots_185 : decode cX12_dots 185 = .ok (.l2i, 1) := by decide +kernel
theorem dX12_dots_186 : decode cX12_dots 186 = .ok (.aload_n 0, 1) := by decide +kernel
theorem dX12_dots_187 : decode cX12_dots 187 = .ok (.getfield 113, 3) := by decide +kernel
theorem dX12_dots_190 : decode cX12_dots 190 = .ok (.iload 6, 2) := by decide +kernel
theorem dX12_dots_192 : decode cX12_dots 192 = .ok (.iconst 1, 1) := by decide +kernel
theorem dX12_dots_193 : decode cX12_dots 193 = .ok (.iadd, 1) := by decide +kernel
theorem dX12_dots_194 : decode cX12_dots 194 = .ok (.laload, 1) := by decide +kernel
theorem dX12_dots_195 : decode cX12_dots 195 = .ok (.l2i, 1) := by decide +kernel
theorem dX12_dots_196 : decode cX12_dots 196 = .ok (.aload_n 0, 1) := by decide +kernel
theorem dX12_dots_197 : decode cX12_dots 197 = .ok (.getfield 113, 3) := by decide +kernel
theorem dX12_dots_200 : decode cX12_dots 200 = .ok (.iload 6, 2) := by decide +kernel
theorem dX12_dots_202 : decode cX12_dots 202 = .ok (.iconst 2, 1) := by decide +kernel
theorem dX12_dots_203 : decode cX12_dots 203 = .ok (.iadd, 1) := by decide +kernel
theorem dX12_dots_204 : decode cX12_dots 204 = .ok (.laload, 1) := by decide +kernel
theorem dX12_dots_205 : decode cX12_dots 205 = .ok (.l2i, 1) := by decide +kernel
theorem dX12_dots_206 : decode cX12_dots 206 = .ok (.invokevirtual 234, 3) := by decide +kernel
theorem dX12_dots_209 : decode cX12_dots 209 = .ok (.iinc 4 1, 3) := by decide +kernel
theorem dX12_dots_212 : decode cX12_dots 212 = .ok (.goto (-143), 3) := by decide +kernel
theorem dX12_dots_215 : decode cX12_dots 215 = .ok (.iload 4, 2) := by decide +kernel
theorem dX12_dots_217 : decode cX12_dots 217 = .ok (.ireturn, 1) := by decide +kernel
set_option maxRecDepth 20000 in
theorem ggX12_meanOf_X12_within : GoodIn wsX12_meanOf wsX12_within := goodIn_r _ [8] rfl (by decide +kernel)
set_option maxRecDepth 20000 in
theorem gX12_meanOf_X12_within : GoodIn wsX12_meanOf (va_wsS RX12 136 yX12_within wsX12_within) := goodIn_app (goodIn_of _ (by decide +kernel)) ggX12_meanOf_X12_within
theorem dX12_meanOf_0 : decode cX12_meanOf 0 = .ok (.iconst 0, 1) := by decide +kernel
theorem dX12_meanOf_1 : decode cX12_meanOf 1 = .ok (.istore 4, 2) := by decide +kernel
theorem dX12_meanOf_3 : decode cX12_meanOf 3 = .ok (.iconst 0, 1) := by decide +kernel
theorem dX12_meanOf_4 : decode cX12_meanOf 4 = .ok (.istore 5, 2) := by decide +kernel
theorem dX12_meanOf_6 : decode cX12_meanOf 6 = .ok (.iconst 0, 1) := by decide +kernel
theorem dX12_meanOf_7 : decode cX12_meanOf 7 = .ok (.istore 6, 2) := by decide +kernel
theorem dX12_meanOf_9 : decode cX12_meanOf 9 = .ok (.iload 6, 2) := by decide +kernel
theorem dX12_meanOf_11 : decode cX12_meanOf 11 = .ok (.aload_n 0, 1) := by decide +kernel
theorem dX12_meanOf_12 : decode cX12_meanOf 12 = .ok (.getfield 227, 3) := by decide +kernel
theorem dX12_meanOf_15 : decode cX12_meanOf 15 = .ok (.if_icmp .ge 90, 3) := by decide +kernel
theorem dX12_meanOf_18 : decode cX12_meanOf 18 = .ok (.iload_n 1, 1) := by decide +kernel
theorem dX12_meanOf_19 : decode cX12_meanOf 19 = .ok (.iconst 5, 1) := by decide +kernel
theorem dX12_meanOf_20 : decode cX12_meanOf 20 = .ok (.if_icmp .eq 34, 3) := by decide +kernel
theorem dX12_meanOf_23 : decode cX12_meanOf 23 = .ok (.iload_n 1, 1) := by decide +kernel
theorem dX12_meanOf_24 : decode cX12_meanOf 24 = .ok (.ifCond .ge 19, 3) := by decide +kernel
theorem dX12_meanOf_27 : decode cX12_meanOf 27 = .ok (.aload_n 0, 1) := by decide +kernel
theorem dX12_meanOf_28 : decode cX12_meanOf 28 = .ok (.getfield 59, 3) := by decide +kernel
theorem dX12_meanOf_31 : decode cX12_meanOf 31 = .ok (.iload 6, 2) := by decide +kernel
theorem dX12_meanOf_33 : decode cX12_meanOf 33 = .ok (.iaload, 1) := by decide +kernel
theorem dX12_meanOf_34 : decode cX12_meanOf 34 = .ok (.iconst (-1), 1) := by decide +kernel
theorem dX12_meanOf_35 : decode cX12_meanOf 35 = .ok (.iload_n 1, 1) := by decide +kernel
theorem dX12_meanOf_36 : decode cX12_meanOf 36 = .ok (.isub, 1) := by decide +kernel
theorem dX12_meanOf_37 : decode cX12_meanOf 37 = .ok (.if_icmp .eq 21, 3) := by decide +kernel
theorem dX12_meanOf_40 : decode cX12_meanOf 40 = .ok (.goto 14, 3) := by decide +kernel
theorem dX12_meanOf_43 : decode cX12_meanOf 43 = .ok (.aload_n 0, 1) := by decide +kernel
theorem dX12_meanOf_44 : decode cX12_meanOf 44 = .ok (.getfield 59, 3) := by decide +kernel
theorem dX12_meanOf_47 : decode cX12_meanOf 47 = .ok (.iload 6, 2) := by decide +kernel
theorem dX12_meanOf_49 : decode cX12_meanOf 49 = .ok (.iaload, 1) := by decide +kernel
theorem dX12_meanOf_50 : decode cX12_meanOf 50 = .ok (.iload_n 1, 1) := by decide +kernel
theorem dX12_meanOf_51 : decode cX12_meanOf 51 = .ok (.if_icmp .ne 7, 3) := by decide +kernel
theorem dX12_meanOf_54 : decode cX12_meanOf 54 = .ok (.iconst 1, 1) := by decide +kernel
theorem dX12_meanOf_55 : decode cX12_meanOf 55 = .ok (.goto 4, 3) := by decide +kernel
theorem dX12_meanOf_58 : decode cX12_meanOf 58 = .ok (.iconst 0, 1) := by decide +kernel
theorem dX12_meanOf_59 : decode cX12_meanOf 59 = .ok (.istore 7, 2) := by decide +kernel
theorem dX12_meanOf_61 : decode cX12_meanOf 61 = .ok (.iload 7, 2) := by decide +kernel
theorem dX12_meanOf_63 : decode cX12_meanOf 63 = .ok (.ifCond .eq 36, 3) := by decide +kernel
theorem dX12_meanOf_66 : decode cX12_meanOf 66 = .ok (.aload_n 0, 1) := by decide +kernel
theorem dX12_meanOf_67 : decode cX12_meanOf 67 = .ok (.getfield 62, 3) := by decide +kernel
theorem dX12_meanOf_70 : decode cX12_meanOf 70 = .ok (.iload 6, 2) := by decide +kernel
theorem dX12_meanOf_72 : decode cX12_meanOf 72 = .ok (.iaload, 1) := by decide +kernel
theorem dX12_meanOf_73 : decode cX12_meanOf 73 = .ok (.i2l, 1) := by decide +kernel
theorem dX12_meanOf_74 : decode cX12_meanOf 74 = .ok (.iload_n 2, 1) := by decide +kernel
theorem dX12_meanOf_75 : decode cX12_meanOf 75 = .ok (.i2l, 1) := by decide +kernel
theorem dX12_meanOf_76 : decode cX12_meanOf 76 = .ok (.iload_n 3, 1) := by decide +kernel
theorem dX12_meanOf_77 : decode cX12_meanOf 77 = .ok (.i2l, 1) := by decide +kernel
theorem dX12_meanOf_78 : decode cX12_meanOf 78 = .ok (.invokestatic 136, 3) := by decide +kernel
theorem dX12_meanOf_81 : decode cX12_meanOf 81 = .ok (.ifCond .eq 18, 3) := by decide +kernel
theorem dX12_meanOf_84 : decode cX12_meanOf 84 = .ok (.iload 4, 2) := by decide +kernel
theorem dX12_meanOf_86 : decode cX12_meanOf 86 = .ok (.aload_n 0, 1) := by decide +kernel
theorem dX12_meanOf_87 : decode cX12_meanOf 87 = .ok (.getfield 9, 3) := by decide +kernel
theorem dX12_meanOf_90 : decode cX12_meanOf 90 = .ok (.iload 6, 2) := by decide +kernel
theorem dX12_meanOf_92 : decode cX12_meanOf 92 = .ok (.iaload, 1) := by decide +kernel
theorem dX12_meanOf_93 : decode cX12_meanOf 93 = .ok (.iadd, 1) := by decide +kernel
theorem dX12_meanOf_94 : decode cX12_meanOf 94 = .ok (.istore 4, 2) := by decide +kernel
theorem dX12_meanOf_96 : decode cX12_meanOf 96 = .ok (.iinc 5 1, 3) := by decide +kernel
theorem dX12_meanOf_99 : decode cX12_meanOf 99 = .ok (.iinc 6 1, 3) := by decide +kernel
theorem dX12_meanOf_102 : decode cX12_meanOf 102 = .ok (.goto (-93), 3) := by decide +kernel
theorem dX12_meanOf_105 : decode cX12_meanOf 105 = .ok (.iload 5, 2) := by decide +kernel
theorem dX12_meanOf_107 : decode cX12_meanOf 107 = .ok (.ifCond .ne 8, 3) := by decide +kernel
theorem dX12_meanOf_110 : decode cX12_meanOf 110 = .ok (.bipush (-2), 2) := by decide +kernel
theorem dX12_meanOf_112 : decode cX12_meanOf 112 = .ok (.goto 8, 3) := by decide +kernel
theorem dX12_meanOf_115 : decode cX12_meanOf 115 = .ok (.iload 4, 2) := by decide +kernel
theorem dX12_meanOf_117 : decode cX12_meanOf 117 = .ok (.iload 5, 2) := by decide +kernel
theorem dX12_meanOf_119 : decode cX12_meanOf 119 = .ok (.idiv, 1) := by decide +kernel
theorem dX12_meanOf_120 : decode cX12_meanOf 120 = .ok (.ireturn, 1) := by decide +kernel
set_option maxRecDepth 20000 in
theorem ggX12_mean_X12_within : GoodIn wsX12_mean wsX12_within := goodIn_r _ [5] rfl (by decide +kernel)
set_option maxRecDepth 20000 in
theorem gX12_mean_X12_within : GoodIn wsX12_mean (va_wsS RX12 136 yX12_within wsX12_within) := goodIn_app (goodIn_of _ (by decide +kernel)) ggX12_mean_X12_within
set_option maxRecDepth 20000 in
theorem ggX12_mean_X12_meanOf : GoodIn wsX12_mean wsX12_meanOf := goodIn_r _ [9, 10, 11, 12, 13, 2, 3, 4, 5, 14, 15, 16, 17, 18, 19, 20, 21, 22, 23, 24, 25, 26, 27, 28, 29, 30, 31, 32, 33, 34, 35, 36, 37, 38, 39, 40, 41, 42, 43, 44, 45, 46, 47, 48, 49, 50, 51, 52, 53, 54, 55, 56, 57, 58, 59, 60, 61, 62, 63, 64, 65, 66, 67, 68, 69, 70, 71, 72, 73, 74, 75, 76] rfl (by decide +kernel)
set_option maxRecDepth 20000 in
theorem gX12_mean_X12_meanOf : GoodIn wsX12_mean (wsV RX12 243 RX12 yX12_meanOf wsX12_meanOf) := goodIn_app (goodIn_of _ (by decide +kernel)) ggX12_mean_X12_meanOf
theorem dX12_mean_0 : decode cX12_mean 0 = .ok (.iload_n 1, 1) := by decide +kernel
theorem dX12_mean_1 : decode cX12_mean 1 = .ok (.ifCond .lt 46, 3) := by decide +kernel
theorem dX12_mean_4 : decode cX12_mean 4 = .ok (.iload_n 1, 1) := by decide +kernel
theorem dX12_mean_5 : decode cX12_mean 5 = .ok (.bipush 10, 2) := by decide +kernel
theorem dX12_mean_7 : decode cX12_mean 7 = .ok (.idiv, 1) := by decide +kernel
theorem dX12_mean_8 : decode cX12_mean 8 = .ok (.i2l, 1) := by decide +kernel
theorem dX12_mean_9 : decode cX12_mean 9 = .ok (.lconst 0, 1) := by decide +kernel
theorem dX12_mean_10 : decode cX12_mean 10 = .ok (.ldc2_w 195, 3) := by decide +kernel
theorem dX12_mean_13 : decode cX12_mean 13 = .ok (.invokestatic 136, 3) := by decide +kernel
theorem dX12_mean_16 : decode cX12_mean 16 = .ok (.ifCond .eq 31, 3) := by decide +kernel
theorem dX12_mean_19 : decode cX12_mean 19 = .ok (.iload_n 1, 1) := by decide +kernel
theorem dX12_mean_20 : decode cX12_mean 20 = .ok (.bipush 10, 2) := by decide +kernel
theorem dX12_mean_22 : decode cX12_mean 22 = .ok (.irem, 1) := by decide +kernel
theorem dX12_mean_23 : decode cX12_mean 23 = .ok (.bipush 7, 2) := by decide +kernel
theorem dX12_mean_25 : decode cX12_mean 25 = .ok (.if_icmp .gt 22, 3) := by decide +kernel
theorem dX12_mean_28 : decode cX12_mean 28 = .ok (.aload_n 0, 1) := by decide +kernel
theorem dX12_mean_29 : decode cX12_mean 29 = .ok (.iload_n 1, 1) := by decide +kernel
theorem dX12_mean_30 : decode cX12_mean 30 = .ok (.bipush 10, 2) := by decide +kernel
theorem dX12_mean_32 : decode cX12_mean 32 = .ok (.idiv, 1) := by decide +kernel
theorem dX12_mean_33 : decode cX12_mean 33 = .ok (.iload_n 1, 1) := by decide +kernel
theorem dX12_mean_34 : decode cX12_mean 34 = .ok (.bipush 10, 2) := by decide +kernel
theorem dX12_mean_36 : decode cX12_mean 36 = .ok (.irem, 1) := by decide +kernel
theorem dX12_mean_37 : decode cX12_mean 37 = .ok (.iload_n 1, 1) := by decide +kernel
theorem dX12_mean_38 : decode cX12_mean 38 = .ok (.bipush 10, 2) := by decide +kernel
theorem dX12_mean_40 : decode cX12_mean 40 = .ok (.irem, 1) := by decide +kernel
theorem dX12_mean_41 : decode cX12_mean 41 = .ok (.invokevirtual 243, 3) := by decide +kernel
theorem dX12_mean_44 : decode cX12_mean 44 = .ok (.goto 4, 3) := by decide +kernel
theorem dX12_mean_47 : decode cX12_mean 47 = .ok (.iconst (-1), 1) := by decide +kernel
theorem dX12_mean_48 : decode cX12_mean 48 = .ok (.ireturn, 1) := by decide +kernel
set_option maxRecDepth 20000 in
theorem ggX12_odd_X12_within : GoodIn wsX12_odd wsX12_within := goodIn_r _ [8] rfl (by decide +kernel)
set_option maxRecDepth 20000 in
theorem gX12_odd_X12_within : GoodIn wsX12_odd (va_wsS RX12 136 yX12_within wsX12_within) := goodIn_app (goodIn_of _ (by decide +kernel)) ggX12_odd_X12_within
theorem dX12_odd_0 : decode cX12_odd 0 = .ok (.iload_n 1, 1) := by decide +kernel
theorem dX12_odd_1 : decode cX12_odd 1 = .ok (.i2l, 1) := by decide +kernel
theorem dX12_odd_2 : decode cX12_odd 2 = .ok (.lconst 0, 1) := by decide +kernel
theorem dX12_odd_3 : decode cX12_odd 3 = .ok (.ldc2_w 247, 3) := by decide +kernel
theorem dX12_odd_6 : decode cX12_odd 6 = .ok (.invokestatic 136, 3) := by decide +kernel
theorem dX12_odd_9 : decode cX12_odd 9 = .ok (.ifCond .ne 5, 3) := by decide +kernel
theorem dX12_odd_12 : decode cX12_odd 12 = .ok (.iconst (-1), 1) := by decide +kernel
theorem dX12_odd_13 : decode cX12_odd 13 = .ok (.ireturn, 1) := by decide +kernel
theorem dX12_odd_14 : decode cX12_odd 14 = .ok (.iconst (-1), 1) := by decide +kernel
theorem dX12_odd_15 : decode cX12_odd 15 = .ok (.istore_n 2, 1) := by decide +kernel
theorem dX12_odd_16 : decode cX12_odd 16 = .ok (.iconst 0, 1) := by decide +kernel
theorem dX12_odd_17 : decode cX12_odd 17 = .ok (.istore_n 3, 1) := by decide +kernel
theorem dX12_odd_18 : decode cX12_odd 18 = .ok (.iload_n 3, 1) := by decide +kernel
theorem dX12_odd_19 : decode cX12_odd 19 = .ok (.aload_n 0, 1) := by decide +kernel
theorem dX12_odd_20 : decode cX12_odd 20 = .ok (.getfield 227, 3) := by decide +kernel
theorem dX12_odd_23 : decode cX12_odd 23 = .ok (.if_icmp .ge 41, 3) := by decide +kernel
theorem dX12_odd_26 : decode cX12_odd 26 = .ok (.aload_n 0, 1) := by decide +kernel
theorem dX12_odd_27 : decode cX12_odd 27 = .ok (.getfield 62, 3) := by decide +kernel
theorem dX12_odd_30 : decode cX12_odd 30 = .ok (.iload_n 3, 1) := by decide +kernel
theorem dX12_odd_31 : decode cX12_odd 31 = .ok (.iaload, 1) := by decide +kernel
theorem dX12_odd_32 : decode cX12_odd 32 = .ok (.bipush 7, 2) := by decide +kernel
theorem dX12_odd_34 : decode cX12_odd 34 = .ok (.if_icmp .ne 22, 3) := by decide +kernel
theorem dX12_odd_37 : decode cX12_odd 37 = .ok (.aload_n 0, 1) := by decide +kernel
theorem dX12_odd_38 : decode cX12_odd 38 = .ok (.getfield 9, 3) := by decide +kernel
theorem dX12_odd_41 : decode cX12_odd 41 = .ok (.iload_n 3, 1) := by decide +kernel
theorem dX12_odd_42 : decode cX12_odd 42 = .ok (.iaload, 1) := by decide +kernel
theorem dX12_odd_43 : decode cX12_odd 43 = .ok (.iload_n 2, 1) := by decide +kernel
theorem dX12_odd_44 : decode cX12_odd 44 = .ok (.if_icmp .le 12, 3) := by decide +kernel
theorem dX12_odd_47 : decode cX12_odd 47 = .ok (.aload_n 0, 1) := by decide +kernel
theorem dX12_odd_48 : decode cX12_odd 48 = .ok (.getfield 9, 3) := by decide +kernel
theorem dX12_odd_51 : decode cX12_odd 51 = .ok (.iload_n 3, 1) := by decide +kernel
theorem dX12_odd_52 : decode cX12_odd 52 = .ok (.iaload, 1) := by decide +kernel
theorem dX12_odd_53 : decode cX12_odd 53 = .ok (.goto 4, 3) := by decide +kernel
theorem dX12_odd_56 : decode cX12_odd 56 = .ok (.iload_n 2, 1) := by decide +kernel
theorem dX12_odd_57 : decode cX12_odd 57 = .ok (.istore_n 2, 1) := by decide +kernel
theorem dX12_odd_58 : decode cX12_odd 58 = .ok (.iinc 3 1, 3) := by decide +kernel
theorem dX12_odd_61 : decode cX12_odd 61 = .ok (.goto (-43), 3) := by decide +kernel
theorem dX12_odd_64 : decode cX12_odd 64 = .ok (.iconst 0, 1) := by decide +kernel
theorem dX12_odd_65 : decode cX12_odd 65 = .ok (.istore_n 3, 1) := by decide +kernel
theorem dX12_odd_66 : decode cX12_odd 66 = .ok (.iconst 0, 1) := by decide +kernel
theorem dX12_odd_67 : decode cX12_odd 67 = .ok (.istore 4, 2) := by decide +kernel
theorem dX12_odd_69 : decode cX12_odd 69 = .ok (.iload 4, 2) := by decide +kernel
theorem dX12_odd_71 : decode cX12_odd 71 = .ok (.aload_n 0, 1) := by decide +kernel
theorem dX12_odd_72 : decode cX12_odd 72 = .ok (.getfield 227, 3) := by decide +kernel
theorem dX12_odd_75 : decode cX12_odd 75 = .ok (.if_icmp .ge 39, 3) := by decide +kernel
theorem dX12_odd_78 : decode cX12_odd 78 = .ok (.iload_n 3, 1) := by decide +kernel
theorem dX12_odd_79 : decode cX12_odd 79 = .ok (.aload_n 0, 1) := by decide +kernel
theorem dX12_odd_80 : decode cX12_odd 80 = .ok (.getfield 62, 3) := by decide +kernel
theorem dX12_odd_83 : decode cX12_odd 83 = .ok (.iload 4, 2) := by decide +kernel
theorem dX12_odd_85 : decode cX12_odd 85 = .ok (.iaload, 1) := by decide +kernel
theorem dX12_odd_86 : decode cX12_odd 86 = .ok (.iload_n 1, 1) := by decide +kernel
theorem dX12_odd_87 : decode cX12_odd 87 = .ok (.if_icmp .ne 18, 3) := by decide +kernel
theorem dX12_odd_90 : decode cX12_odd 90 = .ok (.aload_n 0, 1) := by decide +kernel
theorem dX12_odd_91 : decode cX12_odd 91 = .ok (.getfield 9, 3) := by decide +kernel
theorem dX12_odd_94 : decode cX12_odd 94 = .ok (.iload 4, 2) := by decide +kernel
theorem dX12_odd_96 : decode cX12_odd 96 = .ok (.iaload, 1) := by decide +kernel
theorem dX12_odd_97 : decode cX12_odd 97 = .ok (.iload_n 2, 1) := by decide +kernel
theorem dX12_odd_98 : decode cX12_odd 98 = .ok (.if_icmp .le 7, 3) := by decide +kernel
theorem dX12_odd_101 : decode cX12_odd 101 = .ok (.iconst 1, 1) := by decide +kernel
theorem dX12_odd_102 : decode cX12_odd 102 = .ok (.goto 4, 3) := by decide +kernel
theorem dX12_odd_105 : decode cX12_odd 105 = .ok (.iconst 0, 1) := by decide +kernel
theorem dX12_odd_106 : decode cX12_odd 106 = .ok (.iadd, 1) := by decide +kernel
theorem dX12_odd_107 : decode cX12_odd 107 = .ok (.istore_n 3, 1) := by decide +kernel
theorem dX12_odd_108 : decode cX12_odd 108 = .ok (.iinc 4 1, 3) := by decide +kernel
theorem dX12_odd_111 : decode cX12_odd 111 = .ok (.goto (-42), 3) := by decide +kernel
theorem dX12_odd_114 : decode cX12_odd 114 = .ok (.iload_n 3, 1) := by decide +kernel
theorem dX12_odd_115 : decode cX12_odd 115 = .ok (.ireturn, 1) := by decide +kernel
theorem dX12_sumOwn_0 : decode cX12_sumOwn 0 = .ok (.iconst 0, 1) := by decide +kernel
theorem dX12_sumOwn_1 : decode cX12_sumOwn 1 = .ok (.istore_n 2, 1) := by decide +kernel
theorem dX12_sumOwn_2 : decode cX12_sumOwn 2 = .ok (.iconst 0, 1) := by decide +kernel
theorem dX12_sumOwn_3 : decode cX12_sumOwn 3 = .ok (.istore_n 3, 1) := by decide +kernel
theorem dX12_sumOwn_4 : decode cX12_sumOwn 4 = .ok (.iload_n 3, 1) := by decide +kernel
theorem dX12_sumOwn_5 : decode cX12_sumOwn 5 = .ok (.iload_n 1, 1) := by decide +kernel
theorem dX12_sumOwn_6 : decode cX12_sumOwn 6 = .ok (.if_icmp .ge 31, 3) := by decide +kernel
theorem dX12_sumOwn_9 : decode cX12_sumOwn 9 = .ok (.iload_n 2, 1) := by decide +kernel
theorem dX12_sumOwn_10 : decode cX12_sumOwn 10 = .ok (.aload_n 0, 1) := by decide +kernel
theorem dX12_sumOwn_11 : decode cX12_sumOwn 11 = .ok (.getfield 68, 3) := by decide +kernel
theorem dX12_sumOwn_14 : decode cX12_sumOwn 14 = .ok (.iload_n 3, 1) := by decide +kernel
theorem dX12_sumOwn_15 : decode cX12_sumOwn 15 = .ok (.baload, 1) := by decide +kernel
theorem dX12_sumOwn_16 : decode cX12_sumOwn 16 = .ok (.ifCond .eq 12, 3) := by decide +kernel
theorem dX12_sumOwn_19 : decode cX12_sumOwn 19 = .ok (.aload_n 0, 1) := by decide +kernel
theorem dX12_sumOwn_20 : decode cX12_sumOwn 20 = .ok (.getfield 65, 3) := by decide +kernel
theorem dX12_sumOwn_23 : decode cX12_sumOwn 23 = .ok (.iload_n 3, 1) := by decide +kernel
theorem dX12_sumOwn_24 : decode cX12_sumOwn 24 = .ok (.iaload, 1) := by decide +kernel
theorem dX12_sumOwn_25 : decode cX12_sumOwn 25 = .ok (.goto 4, 3) := by decide +kernel
theorem dX12_sumOwn_28 : decode cX12_sumOwn 28 = .ok (.iconst 0, 1) := by decide +kernel
theorem dX12_sumOwn_29 : decode cX12_sumOwn 29 = .ok (.iadd, 1) := by decide +kernel
theorem dX12_sumOwn_30 : decode cX12_sumOwn 30 = .ok (.istore_n 2, 1) := by decide +kernel
theorem dX12_sumOwn_31 : decode cX12_sumOwn 31 = .ok (.iinc 3 1, 3) := by decide +kernel
theorem dX12_sumOwn_34 : decode cX12_sumOwn 34 = .ok (.goto (-30), 3) := by decide +kernel
theorem dX12_sumOwn_37 : decode cX12_sumOwn 37 = .ok (.iload_n 2, 1) := by decide +kernel
theorem dX12_sumOwn_38 : decode cX12_sumOwn 38 = .ok (.ireturn, 1) := by decide +kernel
set_option maxRecDepth 20000 in
theorem ggX12_chance_X12_within : GoodIn wsX12_chance wsX12_within := goodIn_r _ [12] rfl (by decide +kernel)
set_option maxRecDepth 20000 in
theorem gX12_chance_X12_within : GoodIn wsX12_chance (va_wsS RX12 136 yX12_within wsX12_within) := goodIn_app (goodIn_of _ (by decide +kernel)) ggX12_chance_X12_within
set_option maxRecDepth 20000 in
theorem ggX12_chance_X12_meanOf : GoodIn wsX12_chance wsX12_meanOf := goodIn_r _ [16, 3, 17, 4, 6, 9, 10, 11, 12, 22, 23, 24, 25, 26, 27, 28, 29, 30, 31, 32, 33, 34, 35, 36, 37, 38, 39, 40, 41, 42, 43, 44, 45, 46, 47, 48, 49, 50, 51, 52, 53, 54, 55, 56, 57, 58, 59, 60, 61, 62, 63, 64, 65, 66, 67, 68, 69, 70, 71, 72, 73, 74, 75, 76, 77, 78, 79, 80, 81, 82, 83, 84] rfl (by decide +kernel)
set_option maxRecDepth 20000 in
theorem gX12_chance_X12_meanOf : GoodIn wsX12_chance (wsV RX12 243 RX12 yX12_meanOf wsX12_meanOf) := goodIn_app (goodIn_of _ (by decide +kernel)) ggX12_chance_X12_meanOf
set_option maxRecDepth 20000 in
theorem ggX12_chance_X12_sumOwn : GoodIn wsX12_chance wsX12_sumOwn := goodIn_r _ [21, 7, 5, 22, 23, 24, 25, 26, 27, 28, 29, 30, 31, 32, 33, 34, 35, 36, 37, 38, 39, 40, 41, 42, 43, 44, 45, 46, 47, 48, 49, 50, 51, 52, 53, 54, 55, 56, 57, 58, 59, 60, 61, 62, 63, 64, 65, 66, 67, 68, 69, 70, 71, 72, 73, 74, 75, 76, 77, 78, 79, 80, 81, 82, 83, 84] rfl (by decide +kernel)
set_option maxRecDepth 20000 in
theorem gX12_chance_X12_sumOwn : GoodIn wsX12_chance (wsV RX12 251 RX12 yX12_sumOwn wsX12_sumOwn) := goodIn_app (goodIn_of _ (by decide +kernel)) ggX12_chance_X12_sumOwn
theorem dX12_chance_0 : decode cX12_chance 0 = .ok (.iload_n 1, 1) := by decide +kernel
theorem dX12_chance_1 : decode cX12_chance 1 = .ok (.i2l, 1) := by decide +kernel
theorem dX12_chance_2 : decode cX12_chance 2 = .ok (.lconst 0, 1) := by decide +kernel
theorem dX12_chance_3 : decode cX12_chance 3 = .ok (.ldc2_w 247, 3) := by decide +kernel
theorem dX12_chance_6 : decode cX12_chance 6 = .ok (.invokestatic 136, 3) := by decide +kernel
theorem dX12_chance_9 : decode cX12_chance 9 = .ok (.ifCond .eq 15, 3) := by decide +kernel
theorem dX12_chance_12 : decode cX12_chance 12 = .ok (.iload_n 3, 1) := by decide +kernel
theorem dX12_chance_13 : decode cX12_chance 13 = .ok (.i2l, 1) := by decide +kernel
theorem dX12_chance_14 : decode cX12_chance 14 = .ok (.lconst 1, 1) := by decide +kernel
theorem dX12_chance_15 : decode cX12_chance 15 = .ok (.ldc2_w 249, 3) := by decide +kernel
theorem dX12_chance_18 : decode cX12_chance 18 = .ok (.invokestatic 136, 3) := by decide +kernel
theorem dX12_chance_21 : decode cX12_chance 21 = .ok (.ifCond .ne 5, 3) := by decide +kernel
theorem dX12_chance_24 : decode cX12_chance 24 = .ok (.iconst (-1), 1) := by decide +kernel
theorem dX12_chance_25 : decode cX12_chance 25 = .ok (.ireturn, 1) := by decide +kernel
theorem dX12_chance_26 : decode cX12_chance 26 = .ok (.aload_n 0, 1) := by decide +kernel
theorem dX12_chance_27 : decode cX12_chance 27 = .ok (.iconst 5, 1) := by decide +kernel
theorem dX12_chance_28 : decode cX12_chance 28 = .ok (.iload_n 1, 1) := by decide +kernel
theorem dX12_chance_29 : decode cX12_chance 29 = .ok (.iload_n 1, 1) := by decide +kernel
theorem dX12_chance_30 : decode cX12_chance 30 = .ok (.invokevirtual 243, 3) := by decide +kernel
theorem dX12_chance_33 : decode cX12_chance 33 = .ok (.bipush (-2), 2) := by decide +kernel
theorem dX12_chance_35 : decode cX12_chance 35 = .ok (.if_icmp .eq 17, 3) := by decide +kernel
theorem dX12_chance_38 : decode cX12_chance 38 = .ok (.aload_n 0, 1) := by decide +kernel
theorem dX12_chance_39 : decode cX12_chance 39 = .ok (.iconst 5, 1) := by decide +kernel
theorem dX12_chance_40 : decode cX12_chance 40 = .ok (.bipush 7, 2) := by decide +kernel
theorem dX12_chance_42 : decode cX12_chance 42 = .ok (.bipush 7, 2) := by decide +kernel
theorem dX12_chance_44 : decode cX12_chance 44 = .ok (.invokevirtual 243, 3) := by decide +kernel
theorem dX12_chance_47 : decode cX12_chance 47 = .ok (.bipush (-2), 2) := by decide +kernel
theorem dX12_chance_49 : decode cX12_chance 49 = .ok (.if_icmp .ne 6, 3) := by decide +kernel
theorem dX12_chance_52 : decode cX12_chance 52 = .ok (.bipush (-2), 2) := by decide +kernel
theorem dX12_chance_54 : decode cX12_chance 54 = .ok (.ireturn, 1) := by decide +kernel
theorem dX12_chance_55 : decode cX12_chance 55 = .ok (.iconst 0, 1) := by decide +kernel
theorem dX12_chance_56 : decode cX12_chance 56 = .ok (.istore 4, 2) := by decide +kernel
theorem dX12_chance_58 : decode cX12_chance 58 = .ok (.iconst 0, 1) := by decide +kernel
theorem dX12_chance_59 : decode cX12_chance 59 = .ok (.istore 5, 2) := by decide +kernel
theorem dX12_chance_61 : decode cX12_chance 61 = .ok (.iload 5, 2) := by decide +kernel
theorem dX12_chance_63 : decode cX12_chance 63 = .ok (.aload_n 0, 1) := by decide +kernel
theorem dX12_chance_64 : decode cX12_chance 64 = .ok (.getfield 227, 3) := by decide +kernel
theorem dX12_chance_67 : decode cX12_chance 67 = .ok (.if_icmp .ge 72, 3) := by decide +kernel
theorem dX12_chance_70 : decode cX12_chance 70 = .ok (.aload_n 0, 1) := by decide +kernel
theorem dX12_chance_71 : decode cX12_chance 71 = .ok (.getfield 62, 3) := by decide +kernel
theorem dX12_chance_74 : decode cX12_chance 74 = .ok (.iload 5, 2) := by decide +kernel
theorem dX12_chance_76 : decode cX12_chance 76 = .ok (.iaload, 1) := by decide +kernel
theorem dX12_chance_77 : decode cX12_chance 77 = .ok (.iload_n 1, 1) := by decide +kernel
theorem dX12_chance_78 : decode cX12_chance 78 = .ok (.if_icmp .eq 15, 3) := by decide +kernel
theorem dX12_chance_81 : decode cX12_chance 81 = .ok (.aload_n 0, 1) := by decide +kernel
theorem dX12_chance_82 : decode cX12_chance 82 = .ok (.getfield 62, 3) := by decide +kernel
theorem dX12_chance_85 : decode cX12_chance 85 = .ok (.iload 5, 2) := by decide +kernel
theorem dX12_chance_87 : decode cX12_chance 87 = .ok (.iaload, 1) := by decide +kernel
theorem dX12_chance_88 : decode cX12_chance 88 = .ok (.bipush 7, 2) := by decide +kernel
theorem dX12_chance_90 : decode cX12_chance 90 = .ok (.if_icmp .ne 43, 3) := by decide +kernel
theorem dX12_chance_93 : decode cX12_chance 93 = .ok (.aload_n 0, 1) := by decide +kernel
theorem dX12_chance_94 : decode cX12_chance 94 = .ok (.getfield 65, 3) := by decide +kernel
theorem dX12_chance_97 : decode cX12_chance 97 = .ok (.iload 4, 2) := by decide +kernel
theorem dX12_chance_99 : decode cX12_chance 99 = .ok (.aload_n 0, 1) := by decide +kernel
theorem dX12_chance_100 : decode cX12_chance 100 = .ok (.getfield 9, 3) := by decide +kernel
theorem dX12_chance_103 : decode cX12_chance 103 = .ok (.iload 5, 2) := by decide +kernel
theorem dX12_chance_105 : decode cX12_chance 105 = .ok (.iaload, 1) := by decide +kernel
theorem dX12_chance_106 : decode cX12_chance 106 = .ok (.iastore, 1) := by decide +kernel
theorem dX12_chance_107 : decode cX12_chance 107 = .ok (.aload_n 0, 1) := by decide +kernel
theorem dX12_chance_108 : decode cX12_chance 108 = .ok (.getfield 68, 3) := by decide +kernel
theorem dX12_chance_111 : decode cX12_chance 111 = .ok (.iload 4, 2) := by decide +kernel
theorem dX12_chance_113 : decode cX12_chance 113 = .ok (.aload_n 0, 1) := by decide +kernel
theorem dX12_chance_114 : decode cX12_chance 114 = .ok (.getfield 62, 3) := by decide +kernel
theorem dX12_chance_117 : decode cX12_chance 117 = .ok (.iload 5, 2) := by decide +kernel
theorem dX12_chance_119 : decode cX12_chance 119 = .ok (.iaload, 1) := by decide +kernel
theorem dX12_chance_120 : decode cX12_chance 120 = .ok (.iload_n 1, 1) := by decide +kernel
theorem dX12_chance_121 : decode cX12_chance 121 = .ok (.if_icmp .ne 7, 3) := by decide +kernel
theorem dX12_chance_124 : decode cX12_chance 124 = .ok (.iconst 1, 1) := by decide +kernel
theorem dX12_chance_125 : decode cX12_chance 125 = .ok (.goto 4, 3) := by decide +kernel
theorem dX12_chance_128 : decode cX12_chance 128 = .ok (.iconst 0, 1) := by decide +kernel
theorem dX12_chance_129 : decode cX12_chance 129 = .ok (.bastore, 1) := by decide +kernel
theorem dX12_chance_130 : decode cX12_chance 130 = .ok (.iinc 4 1, 3) := by decide +kernel
theorem dX12_chance_133 : decode cX12_chance 133 = .ok (.iinc 5 1, 3) := by decide +kernel
theorem dX12_chance_136 : decode cX12_chance 136 = .ok (.goto (-75), 3) := by decide +kernel
theorem dX12_chance_139 : decode cX12_chance 139 = .ok (.aload_n 0, 1) := by decide +kernel
theorem dX12_chance_140 : decode cX12_chance 140 = .ok (.iload 4, 2) := by decide +kernel
theorem dX12_chance_142 : decode cX12_chance 142 = .ok (.invokevirtual 251, 3) := by decide +kernel
theorem dX12_chance_145 : decode cX12_chance 145 = .ok (.istore 5, 2) := by decide +kernel
theorem dX12_chance_147 : decode cX12_chance 147 = .ok (.iload_n 2, 1) := by decide +kernel
theorem dX12_chance_148 : decode cX12_chance 148 = .ok (.istore 6, 2) := by decide +kernel
theorem dX12_chance_150 : decode cX12_chance 150 = .ok (.iconst 0, 1) := by decide +kernel
theorem dX12_chance_151 : decode cX12_chance 151 = .ok (.istore 7, 2) := by decide +kernel
theorem dX12_chance_153 : decode cX12_chance 153 = .ok (.iconst 0, 1) := by decide +kernel
theorem dX12_chance_154 : decode cX12_chance 154 = .ok (.istore 8, 2) := by decide +kernel
theorem dX12_chance_156 : decode cX12_chance 156 = .ok (.iload 8, 2) := by decide +kernel
theorem dX12_chance_158 : decode cX12_chance 158 = .ok (.iload_n 3, 1) := by decide +kernel
theorem dX12_chance_159 : decode cX12_chance 159 = .ok (.if_icmp .ge 102, 3) := by decide +kernel
theorem dX12_chance_162 : decode cX12_chance 162 = .ok (.iload 4, 2) := by decide +kernel
theorem dX12_chance_164 : decode cX12_chance 164 = .ok (.iconst 1, 1) := by decide +kernel
theorem dX12_chance_165 : decode cX12_chance 165 = .ok (.isub, 1) := by decide +kernel
theorem dX12_chance_166 : decode cX12_chance 166 = .ok (.istore 9, 2) := by decide +kernel
theorem dX12_chance_168 : decode cX12_chance 168 = .ok (.iload 9, 2) := by decide +kernel
theorem dX12_chance_170 : decode cX12_chance 170 = .ok (.ifCond .le 64, 3) := by decide +kernel
theorem dX12_chance_173 : decode cX12_chance 173 = .ok (.iload 6, 2) := by decide +kernel
theorem dX12_chance_175 : decode cX12_chance 175 = .ok (.ldc 255, 2) := by decide +kernel
theorem dX12_chance_177 : decode cX12_chance 177 = .ok (.imul, 1) := by decide +kernel
theorem dX12_chance_178 : decode cX12_chance 178 = .ok (.sipush 12345, 3) := by decide +kernel
theorem dX12_chance_181 : decode cX12_chance 181 = .ok (.iadd, 1) := by decide +kernel
theorem dX12_chance_182 : decode cX12_chance 182 = .ok (.istore 6, 2) := by decide +kernel
theorem dX12_chance_184 : decode cX12_chance 184 = .ok (.iload 6, 2) := by decide +kernel
theorem dX12_chance_186 : decode cX12_chance 186 = .ok (.bipush 8, 2) := by decide +kernel
theorem dX12_chance_188 : decode cX12_chance 188 = .ok (.iushr, 1) := by decide +kernel
theorem dX12_chance_189 : decode cX12_chance 189 = .ok (.iload 9, 2) := by decide +kernel
theorem dX12_chance_191 : decode cX12_chance 191 = .ok (.iconst 1, 1) := by decide +kernel
theorem dX12_chance_192 : decode cX12_chance 192 = .ok (.iadd, 1) := by decide +kernel
theorem dX12_chance_193 : decode cX12_chance 193 = .ok (.irem, 1) := by decide +kernel
theorem dX12_chance_194 : decode cX12_chance 194 = .ok (.istore 10, 2) := by decide +kernel
theorem dX12_chance_196 : decode cX12_chance 196 = .ok (.aload_n 0, 1) := by decide +kernel
theorem dX12_chance_197 : decode cX12_chance 197 = .ok (.getfield 65, 3) := by decide +kernel
theorem dX12_chance_200 : decode cX12_chance 200 = .ok (.iload 9, 2) := by decide +kernel
theorem dX12_chance_202 : decode cX12_chance 202 = .ok (.iaload, 1) := by decide +kernel
theorem dX12_chance_203 : decode cX12_chance 203 = .ok (.istore 11, 2) := by decide +kernel
theorem dX12_chance_205 : decode cX12_chance 205 = .ok (.aload_n 0, 1) := by decide +kernel
theorem dX12_chance_206 : decode cX12_chance 206 = .ok (.getfield 65, 3) := by decide +kernel
theorem dX12_chance_209 : decode cX12_chance 209 = .ok (.iload 9, 2) := by decide +kernel
theorem dX12_chance_211 : decode cX12_chance 211 = .ok (.aload_n 0, 1) := by decide +kernel
theorem dX12_chance_212 : decode cX12_chance 212 = .ok (.getfield 65, 3) := by decide +kernel
theorem dX12_chance_215 : decode cX12_chance 215 = .ok (.iload 10, 2) := by decide +kernel
theorem dX12_chance_217 : decode cX12_chance 217 = .ok (.iaload, 1) := by decide +kernel
theorem dX12_chance_218 : decode cX12_chance 218 = .ok (.iastore, 1) := by decide +kernel
theorem dX12_chance_219 : decode cX12_chance 219 = .ok (.aload_n 0, 1) := by decide +kernel
theorem dX12_chance_220 : decode cX12_chance 220 = .ok (.getfield 65, 3) := by decide +kernel
theorem dX12_chance_223 : decode cX12_chance 223 = .ok (.iload 10, 2) := by decide +kernel
theorem dX12_chance_225 : decode cX12_chance 225 = .ok (.iload 11, 2) := by decide +kernel
theorem dX12_chance_227 : decode cX12_chance 227 = .ok (.iastore, 1) := by decide +kernel
theorem dX12_chance_228 : decode cX12_chance 228 = .ok (.iinc 9 (-1), 3) := by decide +kernel
theorem dX12_chance_231 : decode cX12_chance 231 = .ok (.goto (-63), 3) := by decide +kernel
theorem dX12_chance_234 : decode cX12_chance 234 = .ok (.iload 7, 2) := by decide +kernel
theorem dX12_chance_236 : decode cX12_chance 236 = .ok (.aload_n 0, 1) := by decide +kernel
theorem dX12_chance_237 : decode cX12_chance 237 = .ok (.iload 4, 2) := by decide +kernel
theorem dX12_chance_239 : decode cX12_chance 239 = .ok (.invokevirtual 251, 3) := by decide +kernel
theorem dX12_chance_242 : decode cX12_chance 242 = .ok (.iload 5, 2) := by decide +kernel
theorem dX12_chance_244 : decode cX12_chance 244 = .ok (.if_icmp .lt 7, 3) := by decide +kernel
theorem dX12_chance_247 : decode cX12_chance 247 = .ok (.iconst 1, 1) := by decide +kernel
theorem dX12_chance_248 : decode cX12_chance 248 = .ok (.goto 4, 3) := by decide +kernel
theorem dX12_chance_251 : decode cX12_chance 251 = .ok (.iconst 0, 1) := by decide +kernel
theorem dX12_chance_252 : decode cX12_chance 252 = .ok (.iadd, 1) := by decide +kernel
theorem dX12_chance_253 : decode cX12_chance 253 = .ok (.istore 7, 2) := by decide +kernel
theorem dX12_chance_255 : decode cX12_chance 255 = .ok (.iinc 8 1, 3) := by decide +kernel
theorem dX12_chance_258 : decode cX12_chance 258 = .ok (.goto (-102), 3) := by decide +kernel
theorem dX12_chance_261 : decode cX12_chance 261 = .ok (.iload 7, 2) := by decide +kernel
theorem dX12_chance_263 : decode cX12_chance 263 = .ok (.ireturn, 1) := by decide +kernel
set_option maxRecDepth 20000 in
theorem ggX12_chosen_X12_within : GoodIn wsX12_chosen wsX12_within := goodIn_r _ [6] rfl (by decide +kernel)
set_option maxRecDepth 20000 in
theorem gX12_chosen_X12_within : GoodIn wsX12_chosen (va_wsS RX12 136 yX12_within wsX12_within) := goodIn_app (goodIn_of _ (by decide +kernel)) ggX12_chosen_X12_within
set_option maxRecDepth 20000 in
theorem ggX12_chosen_X12_meanOf : GoodIn wsX12_chosen wsX12_meanOf := goodIn_r _ [10, 11, 12, 13, 14, 3, 4, 5, 6, 15, 16, 17, 18, 19, 20, 21, 22, 23, 24, 25, 26, 27, 28, 29, 30, 31, 32, 33, 34, 35, 36, 37, 38, 39, 40, 41, 42, 43, 44, 45, 46, 47, 48, 49, 50, 51, 52, 53, 54, 55, 56, 57, 58, 59, 60, 61, 62, 63, 64, 65, 66, 67, 68, 69, 70, 71, 72, 73, 74, 75, 76, 77] rfl (by decide +kernel)
set_option maxRecDepth 20000 in
theorem gX12_chosen_X12_meanOf : GoodIn wsX12_chosen (wsV RX12 243 RX12 yX12_meanOf wsX12_meanOf) := goodIn_app (goodIn_of _ (by decide +kernel)) ggX12_chosen_X12_meanOf
theorem dX12_chosen_0 : decode cX12_chosen 0 = .ok (.iload_n 1, 1) := by decide +kernel
theorem dX12_chosen_1 : decode cX12_chosen 1 = .ok (.i2l, 1) := by decide +kernel
theorem dX12_chosen_2 : decode cX12_chosen 2 = .ok (.lconst 0, 1) := by decide +kernel
theorem dX12_chosen_3 : decode cX12_chosen 3 = .ok (.ldc2_w 221, 3) := by decide +kernel
theorem dX12_chosen_6 : decode cX12_chosen 6 = .ok (.invokestatic 136, 3) := by decide +kernel
theorem dX12_chosen_9 : decode cX12_chosen 9 = .ok (.ifCond .ne 7, 3) := by decide +kernel
theorem dX12_chosen_12 : decode cX12_chosen 12 = .ok (.ldc_w 256, 3) := by decide +kernel
theorem dX12_chosen_15 : decode cX12_chosen 15 = .ok (.ireturn, 1) := by decide +kernel
theorem dX12_chosen_16 : decode cX12_chosen 16 = .ok (.aload_n 0, 1) := by decide +kernel
theorem dX12_chosen_17 : decode cX12_chosen 17 = .ok (.iload_n 1, 1) := by decide +kernel
theorem dX12_chosen_18 : decode cX12_chosen 18 = .ok (.iconst 0, 1) := by decide +kernel
theorem dX12_chosen_19 : decode cX12_chosen 19 = .ok (.iconst 5, 1) := by decide +kernel
theorem dX12_chosen_20 : decode cX12_chosen 20 = .ok (.invokevirtual 243, 3) := by decide +kernel
theorem dX12_chosen_23 : decode cX12_chosen 23 = .ok (.istore_n 2, 1) := by decide +kernel
theorem dX12_chosen_24 : decode cX12_chosen 24 = .ok (.aload_n 0, 1) := by decide +kernel
theorem dX12_chosen_25 : decode cX12_chosen 25 = .ok (.iconst (-1), 1) := by decide +kernel
theorem dX12_chosen_26 : decode cX12_chosen 26 = .ok (.iload_n 1, 1) := by decide +kernel
theorem dX12_chosen_27 : decode cX12_chosen 27 = .ok (.isub, 1) := by decide +kernel
theorem dX12_chosen_28 : decode cX12_chosen 28 = .ok (.iconst 0, 1) := by decide +kernel
theorem dX12_chosen_29 : decode cX12_chosen 29 = .ok (.iconst 5, 1) := by decide +kernel
theorem dX12_chosen_30 : decode cX12_chosen 30 = .ok (.invokevirtual 243, 3) := by decide +kernel
theorem dX12_chosen_33 : decode cX12_chosen 33 = .ok (.istore_n 3, 1) := by decide +kernel
theorem dX12_chosen_34 : decode cX12_chosen 34 = .ok (.iload_n 2, 1) := by decide +kernel
theorem dX12_chosen_35 : decode cX12_chosen 35 = .ok (.bipush (-2), 2) := by decide +kernel
theorem dX12_chosen_37 : decode cX12_chosen 37 = .ok (.if_icmp .eq 9, 3) := by decide +kernel
theorem dX12_chosen_40 : decode cX12_chosen 40 = .ok (.iload_n 3, 1) := by decide +kernel
theorem dX12_chosen_41 : decode cX12_chosen 41 = .ok (.bipush (-2), 2) := by decide +kernel
theorem dX12_chosen_43 : decode cX12_chosen 43 = .ok (.if_icmp .ne 9, 3) := by decide +kernel
theorem dX12_chosen_46 : decode cX12_chosen 46 = .ok (.ldc_w 256, 3) := by decide +kernel
theorem dX12_chosen_49 : decode cX12_chosen 49 = .ok (.goto 6, 3) := by decide +kernel
theorem dX12_chosen_52 : decode cX12_chosen 52 = .ok (.iload_n 2, 1) := by decide +kernel
theorem dX12_chosen_53 : decode cX12_chosen 53 = .ok (.iload_n 3, 1) := by decide +kernel
theorem dX12_chosen_54 : decode cX12_chosen 54 = .ok (.isub, 1) := by decide +kernel
theorem dX12_chosen_55 : decode cX12_chosen 55 = .ok (.ireturn, 1) := by decide +kernel
set_option maxRecDepth 20000 in
theorem ggX12_made_X12_within : GoodIn wsX12_made wsX12_within := goodIn_r _ [8] rfl (by decide +kernel)
set_option maxRecDepth 20000 in
theorem gX12_made_X12_within : GoodIn wsX12_made (va_wsS RX12 136 yX12_within wsX12_within) := goodIn_app (goodIn_of _ (by decide +kernel)) ggX12_made_X12_within
theorem dX12_made_0 : decode cX12_made 0 = .ok (.iload_n 1, 1) := by decide +kernel
theorem dX12_made_1 : decode cX12_made 1 = .ok (.i2l, 1) := by decide +kernel
theorem dX12_made_2 : decode cX12_made 2 = .ok (.lconst 0, 1) := by decide +kernel
theorem dX12_made_3 : decode cX12_made 3 = .ok (.ldc2_w 257, 3) := by decide +kernel
theorem dX12_made_6 : decode cX12_made 6 = .ok (.invokestatic 136, 3) := by decide +kernel
theorem dX12_made_9 : decode cX12_made 9 = .ok (.ifCond .eq 15, 3) := by decide +kernel
theorem dX12_made_12 : decode cX12_made 12 = .ok (.iload_n 2, 1) := by decide +kernel
theorem dX12_made_13 : decode cX12_made 13 = .ok (.i2l, 1) := by decide +kernel
theorem dX12_made_14 : decode cX12_made 14 = .ok (.lconst 0, 1) := by decide +kernel
theorem dX12_made_15 : decode cX12_made 15 = .ok (.ldc2_w 225, 3) := by decide +kernel
theorem dX12_made_18 : decode cX12_made 18 = .ok (.invokestatic 136, 3) := by decide +kernel
theorem dX12_made_21 : decode cX12_made 21 = .ok (.ifCond .ne 5, 3) := by decide +kernel
theorem dX12_made_24 : decode cX12_made 24 = .ok (.iconst (-1), 1) := by decide +kernel
theorem dX12_made_25 : decode cX12_made 25 = .ok (.ireturn, 1) := by decide +kernel
theorem dX12_made_26 : decode cX12_made 26 = .ok (.aload_n 0, 1) := by decide +kernel
theorem dX12_made_27 : decode cX12_made 27 = .ok (.getfield 120, 3) := by decide +kernel
theorem dX12_made_30 : decode cX12_made 30 = .ok (.istore_n 3, 1) := by decide +kernel
theorem dX12_made_31 : decode cX12_made 31 = .ok (.aload_n 0, 1) := by decide +kernel
theorem dX12_made_32 : decode cX12_made 32 = .ok (.iload_n 1, 1) := by decide +kernel
theorem dX12_made_33 : decode cX12_made 33 = .ok (.putfield 120, 3) := by decide +kernel
theorem dX12_made_36 : decode cX12_made 36 = .ok (.aload_n 0, 1) := by decide +kernel
theorem dX12_made_37 : decode cX12_made 37 = .ok (.iload_n 2, 1) := by decide +kernel
theorem dX12_made_38 : decode cX12_made 38 = .ok (.putfield 124, 3) := by decide +kernel
theorem dX12_made_41 : decode cX12_made 41 = .ok (.iload_n 3, 1) := by decide +kernel
theorem dX12_made_42 : decode cX12_made 42 = .ok (.ireturn, 1) := by decide +kernel
set_option maxRecDepth 20000 in
theorem ggX12_doesBar_X12_meanOf : GoodIn wsX12_doesBar wsX12_meanOf := goodIn_r _ [7, 8, 9, 10, 11, 12, 13, 6, 14, 15, 16, 17, 18, 19, 20, 21, 22, 23, 24, 25, 26, 27, 28, 29, 30, 31, 32, 33, 34, 35, 36, 37, 38, 39, 40, 41, 42, 43, 44, 45, 46, 47, 48, 49, 50, 51, 52, 53, 54, 55, 56, 57, 58, 59, 60, 61, 62, 63, 64, 65, 66, 67, 68, 69, 70, 71, 72, 73, 74, 75, 76, 77] rfl (by decide +kernel)
set_option maxRecDepth 20000 in
theorem gX12_doesBar_X12_meanOf : GoodIn wsX12_doesBar (wsV RX12 243 RX12 yX12_meanOf wsX12_meanOf) := goodIn_app (goodIn_of _ (by decide +kernel)) ggX12_doesBar_X12_meanOf
theorem dX12_doesBar_0 : decode cX12_doesBar 0 = .ok (.aload_n 0, 1) := by decide +kernel
theorem dX12_doesBar_1 : decode cX12_doesBar 1 = .ok (.getfield 120, 3) := by decide +kernel
theorem dX12_doesBar_4 : decode cX12_doesBar 4 = .ok (.sipush 2000, 3) := by decide +kernel
theorem dX12_doesBar_7 : decode cX12_doesBar 7 = .ok (.if_icmp .gt 29, 3) := by decide +kernel
theorem dX12_doesBar_10 : decode cX12_doesBar 10 = .ok (.iload_n 2, 1) := by decide +kernel
theorem dX12_doesBar_11 : decode cX12_doesBar 11 = .ok (.aload_n 0, 1) := by decide +kernel
theorem dX12_doesBar_12 : decode cX12_doesBar 12 = .ok (.getfield 120, 3) := by decide +kernel
theorem dX12_doesBar_15 : decode cX12_doesBar 15 = .ok (.if_icmp .ge 21, 3) := by decide +kernel
theorem dX12_doesBar_18 : decode cX12_doesBar 18 = .ok (.aload_n 0, 1) := by decide +kernel
theorem dX12_doesBar_19 : decode cX12_doesBar 19 = .ok (.iconst 5, 1) := by decide +kernel
theorem dX12_doesBar_20 : decode cX12_doesBar 20 = .ok (.iload_n 1, 1) := by decide +kernel
theorem dX12_doesBar_21 : decode cX12_doesBar 21 = .ok (.iload_n 1, 1) := by decide +kernel
theorem dX12_doesBar_22 : decode cX12_doesBar 22 = .ok (.invokevirtual 243, 3) := by decide +kernel
theorem dX12_doesBar_25 : decode cX12_doesBar 25 = .ok (.aload_n 0, 1) := by decide +kernel
theorem dX12_doesBar_26 : decode cX12_doesBar 26 = .ok (.getfield 124, 3) := by decide +kernel
theorem dX12_doesBar_29 : decode cX12_doesBar 29 = .ok (.if_icmp .le 7, 3) := by decide +kernel
theorem dX12_doesBar_32 : decode cX12_doesBar 32 = .ok (.iconst 1, 1) := by decide +kernel
theorem dX12_doesBar_33 : decode cX12_doesBar 33 = .ok (.goto 4, 3) := by decide +kernel
theorem dX12_doesBar_36 : decode cX12_doesBar 36 = .ok (.iconst 0, 1) := by decide +kernel
theorem dX12_doesBar_37 : decode cX12_doesBar 37 = .ok (.ireturn, 1) := by decide +kernel
set_option maxRecDepth 20000 in
theorem ggX12_bars_X12_isInk : GoodIn wsX12_bars wsX12_isInk := goodIn_r _ [4, 5, 6, 7, 3, 8] rfl (by decide +kernel)
set_option maxRecDepth 20000 in
theorem gX12_bars_X12_isInk : GoodIn wsX12_bars (va_wsS RX12 197 yX12_isInk wsX12_isInk) := goodIn_app (goodIn_of _ (by decide +kernel)) ggX12_bars_X12_isInk
set_option maxRecDepth 20000 in
theorem ggX12_bars_X12_isYear : GoodIn wsX12_bars wsX12_isYear := goodIn_r _ [11, 12, 6, 7, 3, 8] rfl (by decide +kernel)
set_option maxRecDepth 20000 in
theorem gX12_bars_X12_isYear : GoodIn wsX12_bars (va_wsS RX12 147 yX12_isYear wsX12_isYear) := goodIn_app (goodIn_of _ (by decide +kernel)) ggX12_bars_X12_isYear
set_option maxRecDepth 20000 in
theorem ggX12_bars_X12_doesBar : GoodIn wsX12_bars wsX12_doesBar := goodIn_r _ [16, 17, 18, 19, 20, 21, 3, 22, 23, 24, 25, 26, 6, 7, 8, 27, 28, 29, 30, 31, 32, 33, 34, 35, 36, 37, 38, 39, 40, 41, 42, 43, 44, 45, 46, 47, 48, 49, 50, 51, 52, 53, 54, 55, 56, 57, 58, 59, 60, 61, 62, 63, 64, 65, 66, 67, 68, 69, 70, 71, 72, 73, 74, 75, 76, 77, 78, 79, 80, 81, 82, 83, 84, 85, 86, 87, 88, 89] rfl (by decide +kernel)
set_option maxRecDepth 20000 in
theorem gX12_bars_X12_doesBar : GoodIn wsX12_bars (wsV RX12 259 RX12 yX12_doesBar wsX12_doesBar) := goodIn_app (goodIn_of _ (by decide +kernel)) ggX12_bars_X12_doesBar
theorem dX12_bars_0 : decode cX12_bars 0 = .ok (.iload_n 1, 1) := by decide +kernel
theorem dX12_bars_1 : decode cX12_bars 1 = .ok (.invokestatic 197, 3) := by decide +kernel
theorem dX12_bars_4 : decode cX12_bars 4 = .ok (.ifCond .eq 27, 3) := by decide +kernel
theorem dX12_bars_7 : decode cX12_bars 7 = .ok (.iload_n 2, 1) := by decide +kernel
theorem dX12_bars_8 : decode cX12_bars 8 = .ok (.invokestatic 147, 3) := by decide +kernel
theorem dX12_bars_11 : decode cX12_bars 11 = .ok (.ifCond .eq 20, 3) := by decide +kernel
theorem dX12_bars_14 : decode cX12_bars 14 = .ok (.aload_n 0, 1) := by decide +kernel
theorem dX12_bars_15 : decode cX12_bars 15 = .ok (.iload_n 1, 1) := by decide +kernel
theorem dX12_bars_16 : decode cX12_bars 16 = .ok (.iload_n 2, 1) := by decide +kernel
theorem dX12_bars_17 : decode cX12_bars 17 = .ok (.invokevirtual 259, 3) := by decide +kernel
theorem dX12_bars_20 : decode cX12_bars 20 = .ok (.ifCond .eq 7, 3) := by decide +kernel
theorem dX12_bars_23 : decode cX12_bars 23 = .ok (.iconst 1, 1) := by decide +kernel
theorem dX12_bars_24 : decode cX12_bars 24 = .ok (.goto 8, 3) := by decide +kernel
theorem dX12_bars_27 : decode cX12_bars 27 = .ok (.iconst 0, 1) := by decide +kernel
theorem dX12_bars_28 : decode cX12_bars 28 = .ok (.goto 4, 3) := by decide +kernel
theorem dX12_bars_31 : decode cX12_bars 31 = .ok (.iconst (-1), 1) := by decide +kernel
theorem dX12_bars_32 : decode cX12_bars 32 = .ok (.ireturn, 1) := by decide +kernel
set_option maxRecDepth 20000 in
theorem ggX12_place_X12_isYear : GoodIn wsX12_place wsX12_isYear := goodIn_r _ [9, 10, 11, 12, 8, 13] rfl (by decide +kernel)
set_option maxRecDepth 20000 in
theorem gX12_place_X12_isYear : GoodIn wsX12_place (va_wsS RX12 147 yX12_isYear wsX12_isYear) := goodIn_app (goodIn_of _ (by decide +kernel)) ggX12_place_X12_isYear
set_option maxRecDepth 20000 in
theorem ggX12_place_X12_within : GoodIn wsX12_place wsX12_within := goodIn_r _ [13] rfl (by decide +kernel)
set_option maxRecDepth 20000 in
theorem gX12_place_X12_within : GoodIn wsX12_place (va_wsS RX12 136 yX12_within wsX12_within) := goodIn_app (goodIn_of _ (by decide +kernel)) ggX12_place_X12_within
theorem dX12_place_0 : decode cX12_place 0 = .ok (.iload_n 1, 1) := by decide +kernel
theorem dX12_place_1 : decode cX12_place 1 = .ok (.invokestatic 147, 3) := by decide +kernel
theorem dX12_place_4 : decode cX12_place 4 = .ok (.ifCond .eq 27, 3) := by decide +kernel
theorem dX12_place_7 : decode cX12_place 7 = .ok (.iload_n 2, 1) := by decide +kernel
theorem dX12_place_8 : decode cX12_place 8 = .ok (.i2l, 1) := by decide +kernel
theorem dX12_place_9 : decode cX12_place 9 = .ok (.lconst 0, 1) := by decide +kernel
theorem dX12_place_10 : decode cX12_place 10 = .ok (.ldc2_w 225, 3) := by decide +kernel
theorem dX12_place_13 : decode cX12_place 13 = .ok (.invokestatic 136, 3) := by decide +kernel
theorem dX12_place_16 : decode cX12_place 16 = .ok (.ifCond .eq 15, 3) := by decide +kernel
theorem dX12_place_19 : decode cX12_place 19 = .ok (.iload_n 3, 1) := by decide +kernel
theorem dX12_place_20 : decode cX12_place 20 = .ok (.i2l, 1) := by decide +kernel
theorem dX12_place_21 : decode cX12_place 21 = .ok (.lconst 0, 1) := by decide +kernel
theorem dX12_place_22 : decode cX12_place 22 = .ok (.ldc2_w 225, 3) := by decide +kernel
theorem dX12_place_25 : decode cX12_place 25 = .ok (.invokestatic 136, 3) := by decide +kernel
theorem dX12_place_28 : decode cX12_place 28 = .ok (.ifCond .ne 5, 3) := by decide +kernel
theorem dX12_place_31 : decode cX12_place 31 = .ok (.iconst (-1), 1) := by decide +kernel
theorem dX12_place_32 : decode cX12_place 32 = .ok (.ireturn, 1) := by decide +kernel
theorem dX12_place_33 : decode cX12_place 33 = .ok (.aload_n 0, 1) := by decide +kernel
theorem dX12_place_34 : decode cX12_place 34 = .ok (.getfield 262, 3) := by decide +kernel
theorem dX12_place_37 : decode cX12_place 37 = .ok (.bipush 20, 2) := by decide +kernel
theorem dX12_place_39 : decode cX12_place 39 = .ok (.if_icmp .ne 6, 3) := by decide +kernel
theorem dX12_place_42 : decode cX12_place 42 = .ok (.bipush (-3), 2) := by decide +kernel
theorem dX12_place_44 : decode cX12_place 44 = .ok (.ireturn, 1) := by decide +kernel
theorem dX12_place_45 : decode cX12_place 45 = .ok (.aload_n 0, 1) := by decide +kernel
theorem dX12_place_46 : decode cX12_place 46 = .ok (.getfield 71, 3) := by decide +kernel
theorem dX12_place_49 : decode cX12_place 49 = .ok (.aload_n 0, 1) := by decide +kernel
theorem dX12_place_50 : decode cX12_place 50 = .ok (.getfield 262, 3) := by decide +kernel
theorem dX12_place_53 : decode cX12_place 53 = .ok (.iload_n 1, 1) := by decide +kernel
theorem dX12_place_54 : decode cX12_place 54 = .ok (.iastore, 1) := by decide +kernel
theorem dX12_place_55 : decode cX12_place 55 = .ok (.aload_n 0, 1) := by decide +kernel
theorem dX12_place_56 : decode cX12_place 56 = .ok (.getfield 74, 3) := by decide +kernel
theorem dX12_place_59 : decode cX12_place 59 = .ok (.aload_n 0, 1) := by decide +kernel
theorem dX12_place_60 : decode cX12_place 60 = .ok (.getfield 262, 3) := by decide +kernel
theorem dX12_place_63 : decode cX12_place 63 = .ok (.iload_n 2, 1) := by decide +kernel
theorem dX12_place_64 : decode cX12_place 64 = .ok (.iastore, 1) := by decide +kernel
theorem dX12_place_65 : decode cX12_place 65 = .ok (.aload_n 0, 1) := by decide +kernel
theorem dX12_place_66 : decode cX12_place 66 = .ok (.getfield 77, 3) := by decide +kernel
theorem dX12_place_69 : decode cX12_place 69 = .ok (.aload_n 0, 1) := by decide +kernel
theorem dX12_place_70 : decode cX12_place 70 = .ok (.getfield 262, 3) := by decide +kernel
theorem dX12_place_73 : decode cX12_place 73 = .ok (.iload_n 3, 1) := by decide +kernel
theorem dX12_place_74 : decode cX12_place 74 = .ok (.iastore, 1) := by decide +kernel
theorem dX12_place_75 : decode cX12_place 75 = .ok (.aload_n 0, 1) := by decide +kernel
theorem dX12_place_76 : decode cX12_place 76 = .ok (.dup, 1) := by decide +kernel
theorem dX12_place_77 : decode cX12_place 77 = .ok (.getfield 262, 3) := by decide +kernel
theorem dX12_place_80 : decode cX12_place 80 = .ok (.iconst 1, 1) := by decide +kernel
theorem dX12_place_81 : decode cX12_place 81 = .ok (.iadd, 1) := by decide +kernel
theorem dX12_place_82 : decode cX12_place 82 = .ok (.putfield 262, 3) := by decide +kernel
theorem dX12_place_85 : decode cX12_place 85 = .ok (.aload_n 0, 1) := by decide +kernel
theorem dX12_place_86 : decode cX12_place 86 = .ok (.getfield 262, 3) := by decide +kernel
theorem dX12_place_89 : decode cX12_place 89 = .ok (.iconst 1, 1) := by decide +kernel
theorem dX12_place_90 : decode cX12_place 90 = .ok (.isub, 1) := by decide +kernel
theorem dX12_place_91 : decode cX12_place 91 = .ok (.ireturn, 1) := by decide +kernel
set_option maxRecDepth 20000 in
theorem ggX12_apart_X12_size : GoodIn wsX12_apart wsX12_size := goodIn_r _ [4] rfl (by decide +kernel)
set_option maxRecDepth 20000 in
theorem gX12_apart_X12_size : GoodIn wsX12_apart (va_wsS RX12 265 yX12_size wsX12_size) := goodIn_app (goodIn_of _ (by decide +kernel)) ggX12_apart_X12_size
theorem dX12_apart_0 : decode cX12_apart 0 = .ok (.iload_n 0, 1) := by decide +kernel
theorem dX12_apart_1 : decode cX12_apart 1 = .ok (.bipush 100, 2) := by decide +kernel
theorem dX12_apart_3 : decode cX12_apart 3 = .ok (.idiv, 1) := by decide +kernel
theorem dX12_apart_4 : decode cX12_apart 4 = .ok (.iload_n 1, 1) := by decide +kernel
theorem dX12_apart_5 : decode cX12_apart 5 = .ok (.bipush 100, 2) := by decide +kernel
theorem dX12_apart_7 : decode cX12_apart 7 = .ok (.idiv, 1) := by decide +kernel
theorem dX12_apart_8 : decode cX12_apart 8 = .ok (.isub, 1) := by decide +kernel
theorem dX12_apart_9 : decode cX12_apart 9 = .ok (.invokestatic 265, 3) := by decide +kernel
theorem dX12_apart_12 : decode cX12_apart 12 = .ok (.iload_n 0, 1) := by decide +kernel
theorem dX12_apart_13 : decode cX12_apart 13 = .ok (.bipush 100, 2) := by decide +kernel
theorem dX12_apart_15 : decode cX12_apart 15 = .ok (.irem, 1) := by decide +kernel
theorem dX12_apart_16 : decode cX12_apart 16 = .ok (.iload_n 1, 1) := by decide +kernel
theorem dX12_apart_17 : decode cX12_apart 17 = .ok (.bipush 100, 2) := by decide +kernel
theorem dX12_apart_19 : decode cX12_apart 19 = .ok (.irem, 1) := by decide +kernel
theorem dX12_apart_20 : decode cX12_apart 20 = .ok (.isub, 1) := by decide +kernel
theorem dX12_apart_21 : decode cX12_apart 21 = .ok (.invokestatic 265, 3) := by decide +kernel
theorem dX12_apart_24 : decode cX12_apart 24 = .ok (.iadd, 1) := by decide +kernel
theorem dX12_apart_25 : decode cX12_apart 25 = .ok (.ireturn, 1) := by decide +kernel
theorem dX12_lateMany_0 : decode cX12_lateMany 0 = .ok (.iconst 0, 1) := by decide +kernel
theorem dX12_lateMany_1 : decode cX12_lateMany 1 = .ok (.istore_n 2, 1) := by decide +kernel
theorem dX12_lateMany_2 : decode cX12_lateMany 2 = .ok (.iconst 0, 1) := by decide +kernel
theorem dX12_lateMany_3 : decode cX12_lateMany 3 = .ok (.istore_n 3, 1) := by decide +kernel
theorem dX12_lateMany_4 : decode cX12_lateMany 4 = .ok (.iload_n 3, 1) := by decide +kernel
theorem dX12_lateMany_5 : decode cX12_lateMany 5 = .ok (.aload_n 0, 1) := by decide +kernel
theorem dX12_lateMany_6 : decode cX12_lateMany 6 = .ok (.getfield 262, 3) := by decide +kernel
theorem dX12_lateMany_9 : decode cX12_lateMany 9 = .ok (.if_icmp .ge 27, 3) := by decide +kernel
theorem dX12_lateMany_12 : decode cX12_lateMany 12 = .ok (.iload_n 2, 1) := by decide +kernel
theorem dX12_lateMany_13 : decode cX12_lateMany 13 = .ok (.aload_n 0, 1) := by decide +kernel
theorem dX12_lateMany_14 : decode cX12_lateMany 14 = .ok (.getfield 71, 3) := by decide +kernel
theorem dX12_lateMany_17 : decode cX12_lateMany 17 = .ok (.iload_n 3, 1) := by decide +kernel
theorem dX12_lateMany_18 : decode cX12_lateMany 18 = .ok (.iaload, 1) := by decide +kernel
theorem dX12_lateMany_19 : decode cX12_lateMany 19 = .ok (.iload_n 1, 1) := by decide +kernel
theorem dX12_lateMany_20 : decode cX12_lateMany 20 = .ok (.if_icmp .le 7, 3) := by decide +kernel
theorem dX12_lateMany_23 : decode cX12_lateMany 23 = .ok (.iconst 1, 1) := by decide +kernel
theorem dX12_lateMany_24 : decode cX12_lateMany 24 = .ok (.goto 4, 3) := by decide +kernel
theorem dX12_lateMany_27 : decode cX12_lateMany 27 = .ok (.iconst 0, 1) := by decide +kernel
theorem dX12_lateMany_28 : decode cX12_lateMany 28 = .ok (.iadd, 1) := by decide +kernel
theorem dX12_lateMany_29 : decode cX12_lateMany 29 = .ok (.istore_n 2, 1) := by decide +kernel
theorem dX12_lateMany_30 : decode cX12_lateMany 30 = .ok (.iinc 3 1, 3) := by decide +kernel
theorem dX12_lateMany_33 : decode cX12_lateMany 33 = .ok (.goto (-29), 3) := by decide +kernel
theorem dX12_lateMany_36 : decode cX12_lateMany 36 = .ok (.iload_n 2, 1) := by decide +kernel
theorem dX12_lateMany_37 : decode cX12_lateMany 37 = .ok (.ireturn, 1) := by decide +kernel
set_option maxRecDepth 20000 in
theorem ggX12_lateOff_X12_apart : GoodIn wsX12_lateOff wsX12_apart := goodIn_r _ [8, 9, 10, 7, 11] rfl (by decide +kernel)
set_option maxRecDepth 20000 in
theorem gX12_lateOff_X12_apart : GoodIn wsX12_lateOff (va_wsS RX12 268 yX12_apart wsX12_apart) := goodIn_app (goodIn_of _ (by decide +kernel)) ggX12_lateOff_X12_apart
theorem dX12_lateOff_0 : decode cX12_lateOff 0 = .ok (.iconst 0, 1) := by decide +kernel
theorem dX12_lateOff_1 : decode cX12_lateOff 1 = .ok (.istore_n 2, 1) := by decide +kernel
theorem dX12_lateOff_2 : decode cX12_lateOff 2 = .ok (.iconst 0, 1) := by decide +kernel
theorem dX12_lateOff_3 : decode cX12_lateOff 3 = .ok (.istore_n 3, 1) := by decide +kernel
theorem dX12_lateOff_4 : decode cX12_lateOff 4 = .ok (.iload_n 3, 1) := by decide +kernel
theorem dX12_lateOff_5 : decode cX12_lateOff 5 = .ok (.aload_n 0, 1) := by decide +kernel
theorem dX12_lateOff_6 : decode cX12_lateOff 6 = .ok (.getfield 262, 3) := by decide +kernel
theorem dX12_lateOff_9 : decode cX12_lateOff 9 = .ok (.if_icmp .ge 41, 3) := by decide +kernel
theorem dX12_lateOff_12 : decode cX12_lateOff 12 = .ok (.iload_n 2, 1) := by decide +kernel
theorem dX12_lateOff_13 : decode cX12_lateOff 13 = .ok (.aload_n 0, 1) := by decide +kernel
theorem dX12_lateOff_14 : decode cX12_lateOff 14 = .ok (.getfield 71, 3) := by decide +kernel
theorem dX12_lateOff_17 : decode cX12_lateOff 17 = .ok (.iload_n 3, 1) := by decide +kernel
theorem dX12_lateOff_18 : decode cX12_lateOff 18 = .ok (.iaload, 1) := by decide +kernel
theorem dX12_lateOff_19 : decode cX12_lateOff 19 = .ok (.iload_n 1, 1) := by decide +kernel
theorem dX12_lateOff_20 : decode cX12_lateOff 20 = .ok (.if_icmp .le 21, 3) := by decide +kernel
theorem dX12_lateOff_23 : decode cX12_lateOff 23 = .ok (.aload_n 0, 1) := by decide +kernel
theorem dX12_lateOff_24 : decode cX12_lateOff 24 = .ok (.getfield 74, 3) := by decide +kernel
theorem dX12_lateOff_27 : decode cX12_lateOff 27 = .ok (.iload_n 3, 1) := by decide +kernel
theorem dX12_lateOff_28 : decode cX12_lateOff 28 = .ok (.iaload, 1) := by decide +kernel
theorem dX12_lateOff_29 : decode cX12_lateOff 29 = .ok (.aload_n 0, 1) := by decide +kernel
theorem dX12_lateOff_30 : decode cX12_lateOff 30 = .ok (.getfield 77, 3) := by decide +kernel
theorem dX12_lateOff_33 : decode cX12_lateOff 33 = .ok (.iload_n 3, 1) := by decide +kernel
theorem dX12_lateOff_34 : decode cX12_lateOff 34 = .ok (.iaload, 1) := by decide +kernel
theorem dX12_lateOff_35 : decode cX12_lateOff 35 = .ok (.invokestatic 268, 3) := by decide +kernel
theorem dX12_lateOff_38 : decode cX12_lateOff 38 = .ok (.goto 4, 3) := by decide +kernel
theorem dX12_lateOff_41 : decode cX12_lateOff 41 = .ok (.iconst 0, 1) := by decide +kernel
theorem dX12_lateOff_42 : decode cX12_lateOff 42 = .ok (.iadd, 1) := by decide +kernel
theorem dX12_lateOff_43 : decode cX12_lateOff 43 = .ok (.istore_n 2, 1) := by decide +kernel
theorem dX12_lateOff_44 : decode cX12_lateOff 44 = .ok (.iinc 3 1, 3) := by decide +kernel
theorem dX12_lateOff_47 : decode cX12_lateOff 47 = .ok (.goto (-43), 3) := by decide +kernel
theorem dX12_lateOff_50 : decode cX12_lateOff 50 = .ok (.iload_n 2, 1) := by decide +kernel
theorem dX12_lateOff_51 : decode cX12_lateOff 51 = .ok (.ireturn, 1) := by decide +kernel
set_option maxRecDepth 20000 in
theorem ggX12_late_X12_isYear : GoodIn wsX12_late wsX12_isYear := goodIn_r _ [4, 5, 6, 7, 3, 8] rfl (by decide +kernel)
set_option maxRecDepth 20000 in
theorem gX12_late_X12_isYear : GoodIn wsX12_late (va_wsS RX12 147 yX12_isYear wsX12_isYear) := goodIn_app (goodIn_of _ (by decide +kernel)) ggX12_late_X12_isYear
set_option maxRecDepth 20000 in
theorem ggX12_late_X12_within : GoodIn wsX12_late wsX12_within := goodIn_r _ [8] rfl (by decide +kernel)
set_option maxRecDepth 20000 in
theorem gX12_late_X12_within : GoodIn wsX12_late (va_wsS RX12 136 yX12_within wsX12_within) := goodIn_app (goodIn_of _ (by decide +kernel)) ggX12_late_X12_within
set_option maxRecDepth 20000 in
theorem ggX12_late_X12_lateMany : GoodIn wsX12_late wsX12_lateMany := goodIn_r _ [12, 13, 14, 27, 28, 29, 30, 31, 32, 33, 34, 35, 36, 37, 38, 39, 40, 41, 42, 43, 44, 45, 46, 47, 48, 49, 50, 51, 52, 53, 54, 55, 56, 57, 58, 59, 60, 61, 62, 63, 64, 65, 66, 67, 68, 69, 70, 71, 72, 73, 74, 75, 76, 77, 78, 79, 80, 81, 82, 83, 84, 85, 86, 87, 88, 89] rfl (by decide +kernel)
set_option maxRecDepth 20000 in
theorem gX12_late_X12_lateMany : GoodIn wsX12_late (wsV RX12 271 RX12 yX12_lateMany wsX12_lateMany) := goodIn_app (goodIn_of _ (by decide +kernel)) ggX12_late_X12_lateMany
set_option maxRecDepth 20000 in
theorem ggX12_late_X12_lateOff : GoodIn wsX12_late wsX12_lateOff := goodIn_r _ [18, 13, 14, 19, 20, 21, 22, 3, 23, 24, 25, 26, 27, 28, 29, 30, 31, 32, 33, 34, 35, 36, 37, 38, 39, 40, 41, 42, 43, 44, 45, 46, 47, 48, 49, 50, 51, 52, 53, 54, 55, 56, 57, 58, 59, 60, 61, 62, 63, 64, 65, 66, 67, 68, 69, 70, 71, 72, 73, 74, 75, 76, 77, 78, 79, 80, 81, 82, 83, 84, 85, 86, 87, 88, 89] rfl (by decide +kernel)
set_option maxRecDepth 20000 in
theorem gX12_late_X12_lateOff : GoodIn wsX12_late (wsV RX12 274 RX12 yX12_lateOff wsX12_lateOff) := goodIn_app (goodIn_of _ (by decide +kernel)) ggX12_late_X12_lateOff
theorem dX12_late_0 : decode cX12_late 0 = .ok (.iload_n 1, 1) := by decide +kernel
theorem dX12_late_1 : decode cX12_late 1 = .ok (.invokestatic 147, 3) := by decide +kernel
theorem dX12_late_4 : decode cX12_late 4 = .ok (.ifCond .eq 33, 3) := by decide +kernel
theorem dX12_late_7 : decode cX12_late 7 = .ok (.iload_n 2, 1) := by decide +kernel
theorem dX12_late_8 : decode cX12_late 8 = .ok (.i2l, 1) := by decide +kernel
theorem dX12_late_9 : decode cX12_late 9 = .ok (.lconst 0, 1) := by decide +kernel
theorem dX12_late_10 : decode cX12_late 10 = .ok (.lconst 1, 1) := by decide +kernel
theorem dX12_late_11 : decode cX12_late 11 = .ok (.invokestatic 136, 3) := by decide +kernel
theorem dX12_late_14 : decode cX12_late 14 = .ok (.ifCond .eq 23, 3) := by decide +kernel
theorem dX12_late_17 : decode cX12_late 17 = .ok (.iload_n 2, 1) := by decide +kernel
theorem dX12_late_18 : decode cX12_late 18 = .ok (.ifCond .ne 11, 3) := by decide +kernel
theorem dX12_late_21 : decode cX12_late 21 = .ok (.aload_n 0, 1) := by decide +kernel
theorem dX12_late_22 : decode cX12_late 22 = .ok (.iload_n 1, 1) := by decide +kernel
theorem dX12_late_23 : decode cX12_late 23 = .ok (.invokevirtual 271, 3) := by decide +kernel
theorem dX12_late_26 : decode cX12_late 26 = .ok (.goto 12, 3) := by decide +kernel
theorem dX12_late_29 : decode cX12_late 29 = .ok (.aload_n 0, 1) := by decide +kernel
theorem dX12_late_30 : decode cX12_late 30 = .ok (.iload_n 1, 1) := by decide +kernel
theorem dX12_late_31 : decode cX12_late 31 = .ok (.invokevirtual 274, 3) := by decide +kernel
theorem dX12_late_34 : decode cX12_late 34 = .ok (.goto 4, 3) := by decide +kernel
theorem dX12_late_37 : decode cX12_late 37 = .ok (.iconst (-1), 1) := by decide +kernel
theorem dX12_late_38 : decode cX12_late 38 = .ok (.ireturn, 1) := by decide +kernel
set_option maxRecDepth 20000 in
theorem ggX12_well_X12_isYear : GoodIn wsX12_well wsX12_isYear := goodIn_r _ [9, 10, 11, 12, 8, 13] rfl (by decide +kernel)
set_option maxRecDepth 20000 in
theorem gX12_well_X12_isYear : GoodIn wsX12_well (va_wsS RX12 147 yX12_isYear wsX12_isYear) := goodIn_app (goodIn_of _ (by decide +kernel)) ggX12_well_X12_isYear
set_option maxRecDepth 20000 in
theorem ggX12_well_X12_within : GoodIn wsX12_well wsX12_within := goodIn_r _ [13] rfl (by decide +kernel)
set_option maxRecDepth 20000 in
theorem gX12_well_X12_within : GoodIn wsX12_well (va_wsS RX12 136 yX12_within wsX12_within) := goodIn_app (goodIn_of _ (by decide +kernel)) ggX12_well_X12_within
set_option maxRecDepth 20000 in
theorem ggX12_well_X12_lateMany : GoodIn wsX12_well wsX12_lateMany := goodIn_r _ [17, 2, 3, 29, 30, 31, 32, 33, 34, 35, 36, 37, 38, 39, 40, 41, 42, 43, 44, 45, 46, 47, 48, 49, 50, 51, 52, 53, 54, 55, 56, 57, 58, 59, 60, 61, 62, 63, 64, 65, 66, 67, 68, 69, 70, 71, 72, 73, 74, 75, 76, 77, 78, 79, 80, 81, 82, 83, 84, 85, 86, 87, 88, 89, 90, 91] rfl (by decide +kernel)
set_option maxRecDepth 20000 in
theorem gX12_well_X12_lateMany : GoodIn wsX12_well (wsV RX12 271 RX12 yX12_lateMany wsX12_lateMany) := goodIn_app (goodIn_of _ (by decide +kernel)) ggX12_well_X12_lateMany
set_option maxRecDepth 20000 in
theorem ggX12_well_X12_lateOff : GoodIn wsX12_well wsX12_lateOff := goodIn_r _ [21, 2, 3, 5, 22, 23, 24, 8, 25, 26, 27, 28, 29, 30, 31, 32, 33, 34, 35, 36, 37, 38, 39, 40, 41, 42, 43, 44, 45, 46, 47, 48, 49, 50, 51, 52, 53, 54, 55, 56, 57, 58, 59, 60, 61, 62, 63, 64, 65, 66, 67, 68, 69, 70, 71, 72, 73, 74, 75, 76, 77, 78, 79, 80, 81, 82, 83, 84, 85, 86, 87, 88, 89, 90, 91] rfl (by decide +kernel)
set_option maxRecDepth 20000 in
theorem gX12_well_X12_lateOff : GoodIn wsX12_well (wsV RX12 274 RX12 yX12_lateOff wsX12_lateOff) := goodIn_app (goodIn_of _ (by decide +kernel)) ggX12_well_X12_lateOff
set_option maxRecDepth 20000 in
theorem ggX12_well_X12_apart : GoodIn wsX12_well wsX12_apart := goodIn_r _ [25, 26, 27, 8, 28] rfl (by decide +kernel)
set_option maxRecDepth 20000 in
theorem gX12_well_X12_apart : GoodIn wsX12_well (va_wsS RX12 268 yX12_apart wsX12_apart) := goodIn_app (goodIn_of _ (by decide +kernel)) ggX12_well_X12_apart
theorem dX12_well_0 : decode cX12_well 0 = .ok (.iload_n 1, 1) := by decide +kernel
theorem dX12_well_1 : decode cX12_well 1 = .ok (.invokestatic 147, 3) := by decide +kernel
theorem dX12_well_4 : decode cX12_well 4 = .ok (.ifCond .eq 15, 3) := by decide +kernel
theorem dX12_well_7 : decode cX12_well 7 = .ok (.iload_n 3, 1) := by decide +kernel
theorem dX12_well_8 : decode cX12_well 8 = .ok (.i2l, 1) := by decide +kernel
theorem dX12_well_9 : decode cX12_well 9 = .ok (.lconst 1, 1) := by decide +kernel
theorem dX12_well_10 : decode cX12_well 10 = .ok (.ldc2_w 249, 3) := by decide +kernel
theorem dX12_well_13 : decode cX12_well 13 = .ok (.invokestatic 136, 3) := by decide +kernel
theorem dX12_well_16 : decode cX12_well 16 = .ok (.ifCond .ne 5, 3) := by decide +kernel
theorem dX12_well_19 : decode cX12_well 19 = .ok (.iconst (-1), 1) := by decide +kernel
theorem dX12_well_20 : decode cX12_well 20 = .ok (.ireturn, 1) := by decide +kernel
theorem dX12_well_21 : decode cX12_well 21 = .ok (.aload_n 0, 1) := by decide +kernel
theorem dX12_well_22 : decode cX12_well 22 = .ok (.iload_n 1, 1) := by decide +kernel
theorem dX12_well_23 : decode cX12_well 23 = .ok (.invokevirtual 271, 3) := by decide +kernel
theorem dX12_well_26 : decode cX12_well 26 = .ok (.ifCond .ne 6, 3) := by decide +kernel
theorem dX12_well_29 : decode cX12_well 29 = .ok (.bipush (-2), 2) := by decide +kernel
theorem dX12_well_31 : decode cX12_well 31 = .ok (.ireturn, 1) := by decide +kernel
theorem dX12_well_32 : decode cX12_well 32 = .ok (.aload_n 0, 1) := by decide +kernel
theorem dX12_well_33 : decode cX12_well 33 = .ok (.iload_n 1, 1) := by decide +kernel
theorem dX12_well_34 : decode cX12_well 34 = .ok (.invokevirtual 274, 3) := by decide +kernel
theorem dX12_well_37 : decode cX12_well 37 = .ok (.istore 4, 2) := by decide +kernel
theorem dX12_well_39 : decode cX12_well 39 = .ok (.iload_n 2, 1) := by decide +kernel
theorem dX12_well_40 : decode cX12_well 40 = .ok (.istore 5, 2) := by decide +kernel
theorem dX12_well_42 : decode cX12_well 42 = .ok (.iconst 0, 1) := by decide +kernel
theorem dX12_well_43 : decode cX12_well 43 = .ok (.istore 6, 2) := by decide +kernel
theorem dX12_well_45 : decode cX12_well 45 = .ok (.iconst 0, 1) := by decide +kernel
theorem dX12_well_46 : decode cX12_well 46 = .ok (.istore 7, 2) := by decide +kernel
theorem dX12_well_48 : decode cX12_well 48 = .ok (.iload 7, 2) := by decide +kernel
theorem dX12_well_50 : decode cX12_well 50 = .ok (.iload_n 3, 1) := by decide +kernel
theorem dX12_well_51 : decode cX12_well 51 = .ok (.if_icmp .ge 122, 3) := by decide +kernel
theorem dX12_well_54 : decode cX12_well 54 = .ok (.iconst 0, 1) := by decide +kernel
theorem dX12_well_55 : decode cX12_well 55 = .ok (.istore 8, 2) := by decide +kernel
theorem dX12_well_57 : decode cX12_well 57 = .ok (.iconst 0, 1) := by decide +kernel
theorem dX12_well_58 : decode cX12_well 58 = .ok (.istore 9, 2) := by decide +kernel
theorem dX12_well_60 : decode cX12_well 60 = .ok (.iload 9, 2) := by decide +kernel
theorem dX12_well_62 : decode cX12_well 62 = .ok (.aload_n 0, 1) := by decide +kernel
theorem dX12_well_63 : decode cX12_well 63 = .ok (.getfield 262, 3) := by decide +kernel
theorem dX12_well_66 : decode cX12_well 66 = .ok (.if_icmp .ge 84, 3) := by decide +kernel
theorem dX12_well_69 : decode cX12_well 69 = .ok (.aload_n 0, 1) := by decide +kernel
theorem dX12_well_70 : decode cX12_well 70 = .ok (.getfield 71, 3) := by decide +kernel
theorem dX12_well_73 : decode cX12_well 73 = .ok (.iload 9, 2) := by decide +kernel
theorem dX12_well_75 : decode cX12_well 75 = .ok (.iaload, 1) := by decide +kernel
