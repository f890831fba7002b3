theorem dX1_init_0 : decode cX1_init 0 = .ok (.aload_n 0, 1) := by decide +kernel
theorem dX1_init_1 : decode cX1_init 1 = .ok (.invokespecial 1, 3) := by decide +kernel
theorem dX1_init_4 : decode cX1_init 4 = .ok (.aload_n 0, 1) := by decide +kernel
theorem dX1_init_5 : decode cX1_init 5 = .ok (.bipush 40, 2) := by decide +kernel
theorem dX1_init_7 : decode cX1_init 7 = .ok (.newarray .int, 2) := by decide +kernel
theorem dX1_init_9 : decode cX1_init 9 = .ok (.putfield 7, 3) := by decide +kernel
theorem dX1_init_12 : decode cX1_init 12 = .ok (.aload_n 0, 1) := by decide +kernel
theorem dX1_init_13 : decode cX1_init 13 = .ok (.bipush 40, 2) := by decide +kernel
theorem dX1_init_15 : decode cX1_init 15 = .ok (.newarray .int, 2) := by decide +kernel
theorem dX1_init_17 : decode cX1_init 17 = .ok (.putfield 13, 3) := by decide +kernel
theorem dX1_init_20 : decode cX1_init 20 = .ok (.aload_n 0, 1) := by decide +kernel
theorem dX1_init_21 : decode cX1_init 21 = .ok (.bipush 40, 2) := by decide +kernel
theorem dX1_init_23 : decode cX1_init 23 = .ok (.newarray .int, 2) := by decide +kernel
theorem dX1_init_25 : decode cX1_init 25 = .ok (.putfield 16, 3) := by decide +kernel
theorem dX1_init_28 : decode cX1_init 28 = .ok (.aload_n 0, 1) := by decide +kernel
theorem dX1_init_29 : decode cX1_init 29 = .ok (.bipush 40, 2) := by decide +kernel
theorem dX1_init_31 : decode cX1_init 31 = .ok (.newarray .int, 2) := by decide +kernel
theorem dX1_init_33 : decode cX1_init 33 = .ok (.putfield 19, 3) := by decide +kernel
theorem dX1_init_36 : decode cX1_init 36 = .ok (.return_, 1) := by decide +kernel
set_option maxRecDepth 20000 in
theorem ggX1_add_X1_dropOldest : GoodIn wsX1_add wsX1_dropOldest := goodIn_r _ [11, 1, 2, 12, 13, 14, 15, 3, 4, 5, 16, 17, 18, 19, 20, 21] rfl (by decide +kernel)
set_option maxRecDepth 20000 in
theorem gX1_add_X1_dropOldest : GoodIn wsX1_add (wsV RX1 26 RX1 yX1_dropOldest wsX1_dropOldest) := goodIn_app (goodIn_of _ (by decide +kernel)) ggX1_add_X1_dropOldest
theorem dX1_add_0 : decode cX1_add 0 = .ok (.aload_n 0, 1) := by decide +kernel
theorem dX1_add_1 : decode cX1_add 1 = .ok (.getfield 22, 3) := by decide +kernel
theorem dX1_add_4 : decode cX1_add 4 = .ok (.aload_n 0, 1) := by decide +kernel
theorem dX1_add_5 : decode cX1_add 5 = .ok (.getfield 7, 3) := by decide +kernel
theorem dX1_add_8 : decode cX1_add 8 = .ok (.arraylength, 1) := by decide +kernel
theorem dX1_add_9 : decode cX1_add 9 = .ok (.if_icmp .ne 7, 3) := by decide +kernel
theorem dX1_add_12 : decode cX1_add 12 = .ok (.aload_n 0, 1) := by decide +kernel
theorem dX1_add_13 : decode cX1_add 13 = .ok (.invokevirtual 26, 3) := by decide +kernel
theorem dX1_add_16 : decode cX1_add 16 = .ok (.aload_n 0, 1) := by decide +kernel
theorem dX1_add_17 : decode cX1_add 17 = .ok (.getfield 7, 3) := by decide +kernel
theorem dX1_add_20 : decode cX1_add 20 = .ok (.aload_n 0, 1) := by decide +kernel
theorem dX1_add_21 : decode cX1_add 21 = .ok (.getfield 22, 3) := by decide +kernel
theorem dX1_add_24 : decode cX1_add 24 = .ok (.iload_n 1, 1) := by decide +kernel
theorem dX1_add_25 : decode cX1_add 25 = .ok (.iastore, 1) := by decide +kernel
theorem dX1_add_26 : decode cX1_add 26 = .ok (.aload_n 0, 1) := by decide +kernel
theorem dX1_add_27 : decode cX1_add 27 = .ok (.getfield 13, 3) := by decide +kernel
theorem dX1_add_30 : decode cX1_add 30 = .ok (.aload_n 0, 1) := by decide +kernel
theorem dX1_add_31 : decode cX1_add 31 = .ok (.getfield 22, 3) := by decide +kernel
theorem dX1_add_34 : decode cX1_add 34 = .ok (.iload_n 2, 1) := by decide +kernel
theorem dX1_add_35 : decode cX1_add 35 = .ok (.iastore, 1) := by decide +kernel
theorem dX1_add_36 : decode cX1_add 36 = .ok (.aload_n 0, 1) := by decide +kernel
theorem dX1_add_37 : decode cX1_add 37 = .ok (.getfield 16, 3) := by decide +kernel
theorem dX1_add_40 : decode cX1_add 40 = .ok (.aload_n 0, 1) := by decide +kernel
theorem dX1_add_41 : decode cX1_add 41 = .ok (.getfield 22, 3) := by decide +kernel
theorem dX1_add_44 : decode cX1_add 44 = .ok (.iload_n 3, 1) := by decide +kernel
theorem dX1_add_45 : decode cX1_add 45 = .ok (.iastore, 1) := by decide +kernel
theorem dX1_add_46 : decode cX1_add 46 = .ok (.aload_n 0, 1) := by decide +kernel
theorem dX1_add_47 : decode cX1_add 47 = .ok (.getfield 19, 3) := by decide +kernel
theorem dX1_add_50 : decode cX1_add 50 = .ok (.aload_n 0, 1) := by decide +kernel
theorem dX1_add_51 : decode cX1_add 51 = .ok (.getfield 22, 3) := by decide +kernel
theorem dX1_add_54 : decode cX1_add 54 = .ok (.iload 4, 2) := by decide +kernel
theorem dX1_add_56 : decode cX1_add 56 = .ok (.iastore, 1) := by decide +kernel
theorem dX1_add_57 : decode cX1_add 57 = .ok (.aload_n 0, 1) := by decide +kernel
theorem dX1_add_58 : decode cX1_add 58 = .ok (.dup, 1) := by decide +kernel
theorem dX1_add_59 : decode cX1_add 59 = .ok (.getfield 22, 3) := by decide +kernel
theorem dX1_add_62 : decode cX1_add 62 = .ok (.iconst 1, 1) := by decide +kernel
theorem dX1_add_63 : decode cX1_add 63 = .ok (.iadd, 1) := by decide +kernel
theorem dX1_add_64 : decode cX1_add 64 = .ok (.putfield 22, 3) := by decide +kernel
theorem dX1_add_67 : decode cX1_add 67 = .ok (.aload_n 0, 1) := by decide +kernel
theorem dX1_add_68 : decode cX1_add 68 = .ok (.aload_n 0, 1) := by decide +kernel
theorem dX1_add_69 : decode cX1_add 69 = .ok (.getfield 22, 3) := by decide +kernel
theorem dX1_add_72 : decode cX1_add 72 = .ok (.putfield 29, 3) := by decide +kernel
theorem dX1_add_75 : decode cX1_add 75 = .ok (.return_, 1) := by decide +kernel
theorem dX1_dropOldest_0 : decode cX1_dropOldest 0 = .ok (.aload_n 0, 1) := by decide +kernel
theorem dX1_dropOldest_1 : decode cX1_dropOldest 1 = .ok (.dup, 1) := by decide +kernel
theorem dX1_dropOldest_2 : decode cX1_dropOldest 2 = .ok (.getfield 22, 3) := by decide +kernel
theorem dX1_dropOldest_5 : decode cX1_dropOldest 5 = .ok (.iconst 1, 1) := by decide +kernel
theorem dX1_dropOldest_6 : decode cX1_dropOldest 6 = .ok (.isub, 1) := by decide +kernel
theorem dX1_dropOldest_7 : decode cX1_dropOldest 7 = .ok (.putfield 22, 3) := by decide +kernel
theorem dX1_dropOldest_10 : decode cX1_dropOldest 10 = .ok (.aload_n 0, 1) := by decide +kernel
theorem dX1_dropOldest_11 : decode cX1_dropOldest 11 = .ok (.getfield 7, 3) := by decide +kernel
theorem dX1_dropOldest_14 : decode cX1_dropOldest 14 = .ok (.iconst 1, 1) := by decide +kernel
theorem dX1_dropOldest_15 : decode cX1_dropOldest 15 = .ok (.aload_n 0, 1) := by decide +kernel
theorem dX1_dropOldest_16 : decode cX1_dropOldest 16 = .ok (.getfield 7, 3) := by decide +kernel
theorem dX1_dropOldest_19 : decode cX1_dropOldest 19 = .ok (.iconst 0, 1) := by decide +kernel
theorem dX1_dropOldest_20 : decode cX1_dropOldest 20 = .ok (.aload_n 0, 1) := by decide +kernel
theorem dX1_dropOldest_21 : decode cX1_dropOldest 21 = .ok (.getfield 22, 3) := by decide +kernel
theorem dX1_dropOldest_24 : decode cX1_dropOldest 24 = .ok (.invokestatic 32, 3) := by decide +kernel
theorem dX1_dropOldest_27 : decode cX1_dropOldest 27 = .ok (.aload_n 0, 1) := by decide +kernel
theorem dX1_dropOldest_28 : decode cX1_dropOldest 28 = .ok (.getfield 13, 3) := by decide +kernel
theorem dX1_dropOldest_31 : decode cX1_dropOldest 31 = .ok (.iconst 1, 1) := by decide +kernel
theorem dX1_dropOldest_32 : decode cX1_dropOldest 32 = .ok (.aload_n 0, 1) := by decide +kernel
theorem dX1_dropOldest_33 : decode cX1_dropOldest 33 = .ok (.getfield 13, 3) := by decide +kernel
theorem dX1_dropOldest_36 : decode cX1_dropOldest 36 = .ok (.iconst 0, 1) := by decide +kernel
theorem dX1_dropOldest_37 : decode cX1_dropOldest 37 = .ok (.aload_n 0, 1) := by decide +kernel
theorem dX1_dropOldest_38 : decode cX1_dropOldest 38 = .ok (.getfield 22, 3) := by decide +kernel
theorem dX1_dropOldest_41 : decode cX1_dropOldest 41 = .ok (.invokestatic 32, 3) := by decide +kernel
theorem dX1_dropOldest_44 : decode cX1_dropOldest 44 = .ok (.aload_n 0, 1) := by decide +kernel
theorem dX1_dropOldest_45 : decode cX1_dropOldest 45 = .ok (.getfield 16, 3) := by decide +kernel
theorem dX1_dropOldest_48 : decode cX1_dropOldest 48 = .ok (.iconst 1, 1) := by decide +kernel
theorem dX1_dropOldest_49 : decode cX1_dropOldest 49 = .ok (.aload_n 0, 1) := by decide +kernel
theorem dX1_dropOldest_50 : decode cX1_dropOldest 50 = .ok (.getfield 16, 3) := by decide +kernel
theorem dX1_dropOldest_53 : decode cX1_dropOldest 53 = .ok (.iconst 0, 1) := by decide +kernel
theorem dX1_dropOldest_54 : decode cX1_dropOldest 54 = .ok (.aload_n 0, 1) := by decide +kernel
theorem dX1_dropOldest_55 : decode cX1_dropOldest 55 = .ok (.getfield 22, 3) := by decide +kernel
theorem dX1_dropOldest_58 : decode cX1_dropOldest 58 = .ok (.invokestatic 32, 3) := by decide +kernel
theorem dX1_dropOldest_61 : decode cX1_dropOldest 61 = .ok (.aload_n 0, 1) := by decide +kernel
theorem dX1_dropOldest_62 : decode cX1_dropOldest 62 = .ok (.getfield 19, 3) := by decide +kernel
theorem dX1_dropOldest_65 : decode cX1_dropOldest 65 = .ok (.iconst 1, 1) := by decide +kernel
theorem dX1_dropOldest_66 : decode cX1_dropOldest 66 = .ok (.aload_n 0, 1) := by decide +kernel
theorem dX1_dropOldest_67 : decode cX1_dropOldest 67 = .ok (.getfield 19, 3) := by decide +kernel
theorem dX1_dropOldest_70 : decode cX1_dropOldest 70 = .ok (.iconst 0, 1) := by decide +kernel
theorem dX1_dropOldest_71 : decode cX1_dropOldest 71 = .ok (.aload_n 0, 1) := by decide +kernel
theorem dX1_dropOldest_72 : decode cX1_dropOldest 72 = .ok (.getfield 22, 3) := by decide +kernel
theorem dX1_dropOldest_75 : decode cX1_dropOldest 75 = .ok (.invokestatic 32, 3) := by decide +kernel
theorem dX1_dropOldest_78 : decode cX1_dropOldest 78 = .ok (.return_, 1) := by decide +kernel
theorem dX1_stepBack_0 : decode cX1_stepBack 0 = .ok (.aload_n 0, 1) := by decide +kernel
theorem dX1_stepBack_1 : decode cX1_stepBack 1 = .ok (.aload_n 0, 1) := by decide +kernel
theorem dX1_stepBack_2 : decode cX1_stepBack 2 = .ok (.getfield 22, 3) := by decide +kernel
theorem dX1_stepBack_5 : decode cX1_stepBack 5 = .ok (.iconst 1, 1) := by decide +kernel
theorem dX1_stepBack_6 : decode cX1_stepBack 6 = .ok (.isub, 1) := by decide +kernel
theorem dX1_stepBack_7 : decode cX1_stepBack 7 = .ok (.iconst 0, 1) := by decide +kernel
theorem dX1_stepBack_8 : decode cX1_stepBack 8 = .ok (.invokestatic 38, 3) := by decide +kernel
theorem dX1_stepBack_11 : decode cX1_stepBack 11 = .ok (.putfield 22, 3) := by decide +kernel
theorem dX1_stepBack_14 : decode cX1_stepBack 14 = .ok (.aload_n 0, 1) := by decide +kernel
theorem dX1_stepBack_15 : decode cX1_stepBack 15 = .ok (.getfield 22, 3) := by decide +kernel
theorem dX1_stepBack_18 : decode cX1_stepBack 18 = .ok (.ireturn, 1) := by decide +kernel
theorem dX1_stepOn_0 : decode cX1_stepOn 0 = .ok (.aload_n 0, 1) := by decide +kernel
theorem dX1_stepOn_1 : decode cX1_stepOn 1 = .ok (.getfield 22, 3) := by decide +kernel
theorem dX1_stepOn_4 : decode cX1_stepOn 4 = .ok (.aload_n 0, 1) := by decide +kernel
theorem dX1_stepOn_5 : decode cX1_stepOn 5 = .ok (.getfield 7, 3) := by decide +kernel
theorem dX1_stepOn_8 : decode cX1_stepOn 8 = .ok (.arraylength, 1) := by decide +kernel
theorem dX1_stepOn_9 : decode cX1_stepOn 9 = .ok (.iconst 1, 1) := by decide +kernel
theorem dX1_stepOn_10 : decode cX1_stepOn 10 = .ok (.isub, 1) := by decide +kernel
theorem dX1_stepOn_11 : decode cX1_stepOn 11 = .ok (.invokestatic 44, 3) := by decide +kernel
theorem dX1_stepOn_14 : decode cX1_stepOn 14 = .ok (.istore_n 1, 1) := by decide +kernel
theorem dX1_stepOn_15 : decode cX1_stepOn 15 = .ok (.aload_n 0, 1) := by decide +kernel
theorem dX1_stepOn_16 : decode cX1_stepOn 16 = .ok (.iload_n 1, 1) := by decide +kernel
theorem dX1_stepOn_17 : decode cX1_stepOn 17 = .ok (.iconst 1, 1) := by decide +kernel
theorem dX1_stepOn_18 : decode cX1_stepOn 18 = .ok (.iadd, 1) := by decide +kernel
theorem dX1_stepOn_19 : decode cX1_stepOn 19 = .ok (.putfield 22, 3) := by decide +kernel
theorem dX1_stepOn_22 : decode cX1_stepOn 22 = .ok (.iload_n 1, 1) := by decide +kernel
theorem dX1_stepOn_23 : decode cX1_stepOn 23 = .ok (.ireturn, 1) := by decide +kernel
theorem dX2_init_0 : decode cX2_init 0 = .ok (.aload_n 0, 1) := by decide +kernel
theorem dX2_init_1 : decode cX2_init 1 = .ok (.invokespecial 3, 3) := by decide +kernel
theorem dX2_init_4 : decode cX2_init 4 = .ok (.aload_n 0, 1) := by decide +kernel
theorem dX2_init_5 : decode cX2_init 5 = .ok (.bipush 40, 2) := by decide +kernel
theorem dX2_init_7 : decode cX2_init 7 = .ok (.newarray .int, 2) := by decide +kernel
theorem dX2_init_9 : decode cX2_init 9 = .ok (.putfield 9, 3) := by decide +kernel
theorem dX2_init_12 : decode cX2_init 12 = .ok (.aload_n 0, 1) := by decide +kernel
theorem dX2_init_13 : decode cX2_init 13 = .ok (.bipush 40, 2) := by decide +kernel
theorem dX2_init_15 : decode cX2_init 15 = .ok (.newarray .int, 2) := by decide +kernel
theorem dX2_init_17 : decode cX2_init 17 = .ok (.putfield 15, 3) := by decide +kernel
theorem dX2_init_20 : decode cX2_init 20 = .ok (.aload_n 0, 1) := by decide +kernel
theorem dX2_init_21 : decode cX2_init 21 = .ok (.bipush 40, 2) := by decide +kernel
theorem dX2_init_23 : decode cX2_init 23 = .ok (.newarray .int, 2) := by decide +kernel
theorem dX2_init_25 : decode cX2_init 25 = .ok (.putfield 18, 3) := by decide +kernel
theorem dX2_init_28 : decode cX2_init 28 = .ok (.aload_n 0, 1) := by decide +kernel
theorem dX2_init_29 : decode cX2_init 29 = .ok (.sipush 2001, 3) := by decide +kernel
theorem dX2_init_32 : decode cX2_init 32 = .ok (.putfield 21, 3) := by decide +kernel
theorem dX2_init_35 : decode cX2_init 35 = .ok (.aload_n 0, 1) := by decide +kernel
theorem dX2_init_36 : decode cX2_init 36 = .ok (.sipush 9999, 3) := by decide +kernel
theorem dX2_init_39 : decode cX2_init 39 = .ok (.putfield 25, 3) := by decide +kernel
theorem dX2_init_42 : decode cX2_init 42 = .ok (.aload_n 0, 1) := by decide +kernel
theorem dX2_init_43 : decode cX2_init 43 = .ok (.bipush 40, 2) := by decide +kernel
theorem dX2_init_45 : decode cX2_init 45 = .ok (.newarray .int, 2) := by decide +kernel
theorem dX2_init_47 : decode cX2_init 47 = .ok (.putfield 28, 3) := by decide +kernel
theorem dX2_init_50 : decode cX2_init 50 = .ok (.aload_n 0, 1) := by decide +kernel
theorem dX2_init_51 : decode cX2_init 51 = .ok (.bipush 40, 2) := by decide +kernel
theorem dX2_init_53 : decode cX2_init 53 = .ok (.newarray .int, 2) := by decide +kernel
theorem dX2_init_55 : decode cX2_init 55 = .ok (.putfield 31, 3) := by decide +kernel
theorem dX2_init_58 : decode cX2_init 58 = .ok (.return_, 1) := by decide +kernel
set_option maxRecDepth 20000 in
theorem ggX2_isOne_X11_within : GoodIn wsX2_isOne wsX11_within := goodIn_r _ [4] rfl (by decide +kernel)
set_option maxRecDepth 20000 in
theorem gX2_isOne_X11_within_n37 : GoodIn wsX2_isOne (wsX11_within) := ggX2_isOne_X11_within
theorem dX2_isOne_0 : decode cX2_isOne 0 = .ok (.iload_n 1, 1) := by decide +kernel
theorem dX2_isOne_1 : decode cX2_isOne 1 = .ok (.iconst 0, 1) := by decide +kernel
theorem dX2_isOne_2 : decode cX2_isOne 2 = .ok (.aload_n 0, 1) := by decide +kernel
theorem dX2_isOne_3 : decode cX2_isOne 3 = .ok (.getfield 34, 3) := by decide +kernel
theorem dX2_isOne_6 : decode cX2_isOne 6 = .ok (.iconst 1, 1) := by decide +kernel
theorem dX2_isOne_7 : decode cX2_isOne 7 = .ok (.isub, 1) := by decide +kernel
theorem dX2_isOne_8 : decode cX2_isOne 8 = .ok (.invokestatic 37, 3) := by decide +kernel
theorem dX2_isOne_11 : decode cX2_isOne 11 = .ok (.ireturn, 1) := by decide +kernel
theorem dX2_isFull_0 : decode cX2_isFull 0 = .ok (.aload_n 0, 1) := by decide +kernel
theorem dX2_isFull_1 : decode cX2_isFull 1 = .ok (.getfield 34, 3) := by decide +kernel
theorem dX2_isFull_4 : decode cX2_isFull 4 = .ok (.aload_n 0, 1) := by decide +kernel
theorem dX2_isFull_5 : decode cX2_isFull 5 = .ok (.getfield 18, 3) := by decide +kernel
theorem dX2_isFull_8 : decode cX2_isFull 8 = .ok (.arraylength, 1) := by decide +kernel
theorem dX2_isFull_9 : decode cX2_isFull 9 = .ok (.if_icmp .ne 7, 3) := by decide +kernel
theorem dX2_isFull_12 : decode cX2_isFull 12 = .ok (.iconst 1, 1) := by decide +kernel
theorem dX2_isFull_13 : decode cX2_isFull 13 = .ok (.goto 4, 3) := by decide +kernel
theorem dX2_isFull_16 : decode cX2_isFull 16 = .ok (.iconst 0, 1) := by decide +kernel
theorem dX2_isFull_17 : decode cX2_isFull 17 = .ok (.ireturn, 1) := by decide +kernel
set_option maxRecDepth 20000 in
theorem ggX2_add_X2_isFull : GoodIn wsX2_add wsX2_isFull := goodIn_r _ [9, 2, 4, 10, 11, 12, 13, 14, 15, 16, 17] rfl (by decide +kernel)
set_option maxRecDepth 20000 in
theorem gX2_add_X2_isFull : GoodIn wsX2_add (wsV RX2 41 RX2 yX2_isFull wsX2_isFull) := goodIn_app (goodIn_of _ (by decide +kernel)) ggX2_add_X2_isFull
theorem dX2_add_0 : decode cX2_add 0 = .ok (.aload_n 0, 1) := by decide +kernel
theorem dX2_add_1 : decode cX2_add 1 = .ok (.invokevirtual 41, 3) := by decide +kernel
theorem dX2_add_4 : decode cX2_add 4 = .ok (.ifCond .eq 6, 3) := by decide +kernel
theorem dX2_add_7 : decode cX2_add 7 = .ok (.bipush (-3), 2) := by decide +kernel
theorem dX2_add_9 : decode cX2_add 9 = .ok (.ireturn, 1) := by decide +kernel
theorem dX2_add_10 : decode cX2_add 10 = .ok (.aload_n 0, 1) := by decide +kernel
theorem dX2_add_11 : decode cX2_add 11 = .ok (.getfield 9, 3) := by decide +kernel
theorem dX2_add_14 : decode cX2_add 14 = .ok (.aload_n 0, 1) := by decide +kernel
theorem dX2_add_15 : decode cX2_add 15 = .ok (.getfield 34, 3) := by decide +kernel
theorem dX2_add_18 : decode cX2_add 18 = .ok (.iload_n 1, 1) := by decide +kernel
theorem dX2_add_19 : decode cX2_add 19 = .ok (.iastore, 1) := by decide +kernel
theorem dX2_add_20 : decode cX2_add 20 = .ok (.aload_n 0, 1) := by decide +kernel
theorem dX2_add_21 : decode cX2_add 21 = .ok (.getfield 15, 3) := by decide +kernel
theorem dX2_add_24 : decode cX2_add 24 = .ok (.aload_n 0, 1) := by decide +kernel
theorem dX2_add_25 : decode cX2_add 25 = .ok (.getfield 34, 3) := by decide +kernel
theorem dX2_add_28 : decode cX2_add 28 = .ok (.iload_n 2, 1) := by decide +kernel
theorem dX2_add_29 : decode cX2_add 29 = .ok (.iastore, 1) := by decide +kernel
theorem dX2_add_30 : decode cX2_add 30 = .ok (.aload_n 0, 1) := by decide +kernel
theorem dX2_add_31 : decode cX2_add 31 = .ok (.getfield 18, 3) := by decide +kernel
theorem dX2_add_34 : decode cX2_add 34 = .ok (.aload_n 0, 1) := by decide +kernel
theorem dX2_add_35 : decode cX2_add 35 = .ok (.getfield 34, 3) := by decide +kernel
theorem dX2_add_38 : decode cX2_add 38 = .ok (.iload_n 3, 1) := by decide +kernel
theorem dX2_add_39 : decode cX2_add 39 = .ok (.iastore, 1) := by decide +kernel
theorem dX2_add_40 : decode cX2_add 40 = .ok (.aload_n 0, 1) := by decide +kernel
theorem dX2_add_41 : decode cX2_add 41 = .ok (.dup, 1) := by decide +kernel
theorem dX2_add_42 : decode cX2_add 42 = .ok (.getfield 34, 3) := by decide +kernel
theorem dX2_add_45 : decode cX2_add 45 = .ok (.dup_x1, 1) := by decide +kernel
theorem dX2_add_46 : decode cX2_add 46 = .ok (.iconst 1, 1) := by decide +kernel
theorem dX2_add_47 : decode cX2_add 47 = .ok (.iadd, 1) := by decide +kernel
theorem dX2_add_48 : decode cX2_add 48 = .ok (.putfield 34, 3) := by decide +kernel
theorem dX2_add_51 : decode cX2_add 51 = .ok (.ireturn, 1) := by decide +kernel
theorem dX2_dropLast_0 : decode cX2_dropLast 0 = .ok (.aload_n 0, 1) := by decide +kernel
theorem dX2_dropLast_1 : decode cX2_dropLast 1 = .ok (.aload_n 0, 1) := by decide +kernel
theorem dX2_dropLast_2 : decode cX2_dropLast 2 = .ok (.getfield 34, 3) := by decide +kernel
theorem dX2_dropLast_5 : decode cX2_dropLast 5 = .ok (.iconst 1, 1) := by decide +kernel
theorem dX2_dropLast_6 : decode cX2_dropLast 6 = .ok (.isub, 1) := by decide +kernel
theorem dX2_dropLast_7 : decode cX2_dropLast 7 = .ok (.iconst 0, 1) := by decide +kernel
theorem dX2_dropLast_8 : decode cX2_dropLast 8 = .ok (.invokestatic 45, 3) := by decide +kernel
theorem dX2_dropLast_11 : decode cX2_dropLast 11 = .ok (.putfield 34, 3) := by decide +kernel
theorem dX2_dropLast_14 : decode cX2_dropLast 14 = .ok (.return_, 1) := by decide +kernel
set_option maxRecDepth 20000 in
theorem ggX2_meanOf_X11_hasBit : GoodIn wsX2_meanOf wsX11_hasBit := goodIn_r _ [7] rfl (by decide +kernel)
set_option maxRecDepth 20000 in
theorem gX2_meanOf_X11_hasBit_n51 : GoodIn wsX2_meanOf (wsX11_hasBit) := ggX2_meanOf_X11_hasBit
theorem dX2_meanOf_0 : decode cX2_meanOf 0 = .ok (.iconst 0, 1) := by decide +kernel
theorem dX2_meanOf_1 : decode cX2_meanOf 1 = .ok (.istore_n 3, 1) := by decide +kernel
theorem dX2_meanOf_2 : decode cX2_meanOf 2 = .ok (.iconst 0, 1) := by decide +kernel
theorem dX2_meanOf_3 : decode cX2_meanOf 3 = .ok (.istore 4, 2) := by decide +kernel
theorem dX2_meanOf_5 : decode cX2_meanOf 5 = .ok (.iconst 0, 1) := by decide +kernel
theorem dX2_meanOf_6 : decode cX2_meanOf 6 = .ok (.istore 5, 2) := by decide +kernel
theorem dX2_meanOf_8 : decode cX2_meanOf 8 = .ok (.iload 5, 2) := by decide +kernel
theorem dX2_meanOf_10 : decode cX2_meanOf 10 = .ok (.aload_n 0, 1) := by decide +kernel
theorem dX2_meanOf_11 : decode cX2_meanOf 11 = .ok (.getfield 34, 3) := by decide +kernel
theorem dX2_meanOf_14 : decode cX2_meanOf 14 = .ok (.if_icmp .ge 50, 3) := by decide +kernel
theorem dX2_meanOf_17 : decode cX2_meanOf 17 = .ok (.iload_n 1, 1) := by decide +kernel
theorem dX2_meanOf_18 : decode cX2_meanOf 18 = .ok (.aload_n 0, 1) := by decide +kernel
theorem dX2_meanOf_19 : decode cX2_meanOf 19 = .ok (.getfield 9, 3) := by decide +kernel
theorem dX2_meanOf_22 : decode cX2_meanOf 22 = .ok (.iload 5, 2) := by decide +kernel
theorem dX2_meanOf_24 : decode cX2_meanOf 24 = .ok (.iaload, 1) := by decide +kernel
theorem dX2_meanOf_25 : decode cX2_meanOf 25 = .ok (.invokestatic 51, 3) := by decide +kernel
theorem dX2_meanOf_28 : decode cX2_meanOf 28 = .ok (.ifCond .eq 30, 3) := by decide +kernel
theorem dX2_meanOf_31 : decode cX2_meanOf 31 = .ok (.iload_n 2, 1) := by decide +kernel
theorem dX2_meanOf_32 : decode cX2_meanOf 32 = .ok (.aload_n 0, 1) := by decide +kernel
theorem dX2_meanOf_33 : decode cX2_meanOf 33 = .ok (.getfield 15, 3) := by decide +kernel
theorem dX2_meanOf_36 : decode cX2_meanOf 36 = .ok (.iload 5, 2) := by decide +kernel
theorem dX2_meanOf_38 : decode cX2_meanOf 38 = .ok (.iaload, 1) := by decide +kernel
theorem dX2_meanOf_39 : decode cX2_meanOf 39 = .ok (.invokestatic 51, 3) := by decide +kernel
theorem dX2_meanOf_42 : decode cX2_meanOf 42 = .ok (.ifCond .eq 16, 3) := by decide +kernel
theorem dX2_meanOf_45 : decode cX2_meanOf 45 = .ok (.iload_n 3, 1) := by decide +kernel
theorem dX2_meanOf_46 : decode cX2_meanOf 46 = .ok (.aload_n 0, 1) := by decide +kernel
theorem dX2_meanOf_47 : decode cX2_meanOf 47 = .ok (.getfield 18, 3) := by decide +kernel
theorem dX2_meanOf_50 : decode cX2_meanOf 50 = .ok (.iload 5, 2) := by decide +kernel
theorem dX2_meanOf_52 : decode cX2_meanOf 52 = .ok (.iaload, 1) := by decide +kernel
theorem dX2_meanOf_53 : decode cX2_meanOf 53 = .ok (.iadd, 1) := by decide +kernel
theorem dX2_meanOf_54 : decode cX2_meanOf 54 = .ok (.istore_n 3, 1) := by decide +kernel
theorem dX2_meanOf_55 : decode cX2_meanOf 55 = .ok (.iinc 4 1, 3) := by decide +kernel
theorem dX2_meanOf_58 : decode cX2_meanOf 58 = .ok (.iinc 5 1, 3) := by decide +kernel
theorem dX2_meanOf_61 : decode cX2_meanOf 61 = .ok (.goto (-53), 3) := by decide +kernel
theorem dX2_meanOf_64 : decode cX2_meanOf 64 = .ok (.iload 4, 2) := by decide +kernel
theorem dX2_meanOf_66 : decode cX2_meanOf 66 = .ok (.ifCond .ne 8, 3) := by decide +kernel
theorem dX2_meanOf_69 : decode cX2_meanOf 69 = .ok (.bipush (-2), 2) := by decide +kernel
theorem dX2_meanOf_71 : decode cX2_meanOf 71 = .ok (.goto 7, 3) := by decide +kernel
theorem dX2_meanOf_74 : decode cX2_meanOf 74 = .ok (.iload_n 3, 1) := by decide +kernel
theorem dX2_meanOf_75 : decode cX2_meanOf 75 = .ok (.iload 4, 2) := by decide +kernel
theorem dX2_meanOf_77 : decode cX2_meanOf 77 = .ok (.idiv, 1) := by decide +kernel
theorem dX2_meanOf_78 : decode cX2_meanOf 78 = .ok (.ireturn, 1) := by decide +kernel
set_option maxRecDepth 20000 in
theorem ggX2_howMany_X11_asBit : GoodIn wsX2_howMany wsX11_asBit := goodIn_r _ [5] rfl (by decide +kernel)
set_option maxRecDepth 20000 in
theorem gX2_howMany_X11_asBit_n55 : GoodIn wsX2_howMany (wsX11_asBit) := ggX2_howMany_X11_asBit
theorem dX2_howMany_0 : decode cX2_howMany 0 = .ok (.iconst 0, 1) := by decide +kernel
theorem dX2_howMany_1 : decode cX2_howMany 1 = .ok (.istore_n 2, 1) := by decide +kernel
theorem dX2_howMany_2 : decode cX2_howMany 2 = .ok (.iconst 0, 1) := by decide +kernel
theorem dX2_howMany_3 : decode cX2_howMany 3 = .ok (.istore_n 3, 1) := by decide +kernel
theorem dX2_howMany_4 : decode cX2_howMany 4 = .ok (.iload_n 3, 1) := by decide +kernel
theorem dX2_howMany_5 : decode cX2_howMany 5 = .ok (.aload_n 0, 1) := by decide +kernel
theorem dX2_howMany_6 : decode cX2_howMany 6 = .ok (.getfield 34, 3) := by decide +kernel
theorem dX2_howMany_9 : decode cX2_howMany 9 = .ok (.if_icmp .ge 30, 3) := by decide +kernel
theorem dX2_howMany_12 : decode cX2_howMany 12 = .ok (.iload_n 2, 1) := by decide +kernel
theorem dX2_howMany_13 : decode cX2_howMany 13 = .ok (.aload_n 0, 1) := by decide +kernel
theorem dX2_howMany_14 : decode cX2_howMany 14 = .ok (.getfield 15, 3) := by decide +kernel
theorem dX2_howMany_17 : decode cX2_howMany 17 = .ok (.iload_n 3, 1) := by decide +kernel
theorem dX2_howMany_18 : decode cX2_howMany 18 = .ok (.iaload, 1) := by decide +kernel
theorem dX2_howMany_19 : decode cX2_howMany 19 = .ok (.iload_n 1, 1) := by decide +kernel
theorem dX2_howMany_20 : decode cX2_howMany 20 = .ok (.if_icmp .ne 7, 3) := by decide +kernel
theorem dX2_howMany_23 : decode cX2_howMany 23 = .ok (.iconst 1, 1) := by decide +kernel
theorem dX2_howMany_24 : decode cX2_howMany 24 = .ok (.goto 4, 3) := by decide +kernel
theorem dX2_howMany_27 : decode cX2_howMany 27 = .ok (.iconst 0, 1) := by decide +kernel
theorem dX2_howMany_28 : decode cX2_howMany 28 = .ok (.invokestatic 55, 3) := by decide +kernel
theorem dX2_howMany_31 : decode cX2_howMany 31 = .ok (.iadd, 1) := by decide +kernel
theorem dX2_howMany_32 : decode cX2_howMany 32 = .ok (.istore_n 2, 1) := by decide +kernel
theorem dX2_howMany_33 : decode cX2_howMany 33 = .ok (.iinc 3 1, 3) := by decide +kernel
theorem dX2_howMany_36 : decode cX2_howMany 36 = .ok (.goto (-32), 3) := by decide +kernel
theorem dX2_howMany_39 : decode cX2_howMany 39 = .ok (.iload_n 2, 1) := by decide +kernel
theorem dX2_howMany_40 : decode cX2_howMany 40 = .ok (.ireturn, 1) := by decide +kernel
set_option maxRecDepth 20000 in
theorem ggX2_oddOnes_X11_asBit : GoodIn wsX2_oddOnes wsX11_asBit := goodIn_r _ [10] rfl (by decide +kernel)
set_option maxRecDepth 20000 in
theorem gX2_oddOnes_X11_asBit_n55 : GoodIn wsX2_oddOnes (wsX11_asBit) := ggX2_oddOnes_X11_asBit
theorem dX2_oddOnes_0 : decode cX2_oddOnes 0 = .ok (.iconst (-1), 1) := by decide +kernel
theorem dX2_oddOnes_1 : decode cX2_oddOnes 1 = .ok (.istore_n 2, 1) := by decide +kernel
theorem dX2_oddOnes_2 : decode cX2_oddOnes 2 = .ok (.iconst 0, 1) := by decide +kernel
theorem dX2_oddOnes_3 : decode cX2_oddOnes 3 = .ok (.istore_n 3, 1) := by decide +kernel
theorem dX2_oddOnes_4 : decode cX2_oddOnes 4 = .ok (.iload_n 3, 1) := by decide +kernel
theorem dX2_oddOnes_5 : decode cX2_oddOnes 5 = .ok (.aload_n 0, 1) := by decide +kernel
theorem dX2_oddOnes_6 : decode cX2_oddOnes 6 = .ok (.getfield 34, 3) := by decide +kernel
theorem dX2_oddOnes_9 : decode cX2_oddOnes 9 = .ok (.if_icmp .ge 31, 3) := by decide +kernel
theorem dX2_oddOnes_12 : decode cX2_oddOnes 12 = .ok (.aload_n 0, 1) := by decide +kernel
theorem dX2_oddOnes_13 : decode cX2_oddOnes 13 = .ok (.getfield 15, 3) := by decide +kernel
theorem dX2_oddOnes_16 : decode cX2_oddOnes 16 = .ok (.iload_n 3, 1) := by decide +kernel
theorem dX2_oddOnes_17 : decode cX2_oddOnes 17 = .ok (.iaload, 1) := by decide +kernel
theorem dX2_oddOnes_18 : decode cX2_oddOnes 18 = .ok (.bipush 7, 2) := by decide +kernel
theorem dX2_oddOnes_20 : decode cX2_oddOnes 20 = .ok (.if_icmp .ne 14, 3) := by decide +kernel
theorem dX2_oddOnes_23 : decode cX2_oddOnes 23 = .ok (.iload_n 2, 1) := by decide +kernel
theorem dX2_oddOnes_24 : decode cX2_oddOnes 24 = .ok (.aload_n 0, 1) := by decide +kernel
theorem dX2_oddOnes_25 : decode cX2_oddOnes 25 = .ok (.getfield 18, 3) := by decide +kernel
theorem dX2_oddOnes_28 : decode cX2_oddOnes 28 = .ok (.iload_n 3, 1) := by decide +kernel
theorem dX2_oddOnes_29 : decode cX2_oddOnes 29 = .ok (.iaload, 1) := by decide +kernel
theorem dX2_oddOnes_30 : decode cX2_oddOnes 30 = .ok (.invokestatic 45, 3) := by decide +kernel
theorem dX2_oddOnes_33 : decode cX2_oddOnes 33 = .ok (.istore_n 2, 1) := by decide +kernel
theorem dX2_oddOnes_34 : decode cX2_oddOnes 34 = .ok (.iinc 3 1, 3) := by decide +kernel
theorem dX2_oddOnes_37 : decode cX2_oddOnes 37 = .ok (.goto (-33), 3) := by decide +kernel
theorem dX2_oddOnes_40 : decode cX2_oddOnes 40 = .ok (.iconst 0, 1) := by decide +kernel
theorem dX2_oddOnes_41 : decode cX2_oddOnes 41 = .ok (.istore_n 3, 1) := by decide +kernel
theorem dX2_oddOnes_42 : decode cX2_oddOnes 42 = .ok (.iconst 0, 1) := by decide +kernel
theorem dX2_oddOnes_43 : decode cX2_oddOnes 43 = .ok (.istore 4, 2) := by decide +kernel
theorem dX2_oddOnes_45 : decode cX2_oddOnes 45 = .ok (.iload 4, 2) := by decide +kernel
theorem dX2_oddOnes_47 : decode cX2_oddOnes 47 = .ok (.aload_n 0, 1) := by decide +kernel
theorem dX2_oddOnes_48 : decode cX2_oddOnes 48 = .ok (.getfield 34, 3) := by decide +kernel
theorem dX2_oddOnes_51 : decode cX2_oddOnes 51 = .ok (.if_icmp .ge 42, 3) := by decide +kernel
theorem dX2_oddOnes_54 : decode cX2_oddOnes 54 = .ok (.iload_n 3, 1) := by decide +kernel
theorem dX2_oddOnes_55 : decode cX2_oddOnes 55 = .ok (.aload_n 0, 1) := by decide +kernel
theorem dX2_oddOnes_56 : decode cX2_oddOnes 56 = .ok (.getfield 15, 3) := by decide +kernel
theorem dX2_oddOnes_59 : decode cX2_oddOnes 59 = .ok (.iload 4, 2) := by decide +kernel
theorem dX2_oddOnes_61 : decode cX2_oddOnes 61 = .ok (.iaload, 1) := by decide +kernel
theorem dX2_oddOnes_62 : decode cX2_oddOnes 62 = .ok (.iload_n 1, 1) := by decide +kernel
theorem dX2_oddOnes_63 : decode cX2_oddOnes 63 = .ok (.if_icmp .ne 18, 3) := by decide +kernel
theorem dX2_oddOnes_66 : decode cX2_oddOnes 66 = .ok (.aload_n 0, 1) := by decide +kernel
theorem dX2_oddOnes_67 : decode cX2_oddOnes 67 = .ok (.getfield 18, 3) := by decide +kernel
theorem dX2_oddOnes_70 : decode cX2_oddOnes 70 = .ok (.iload 4, 2) := by decide +kernel
theorem dX2_oddOnes_72 : decode cX2_oddOnes 72 = .ok (.iaload, 1) := by decide +kernel
theorem dX2_oddOnes_73 : decode cX2_oddOnes 73 = .ok (.iload_n 2, 1) := by decide +kernel
theorem dX2_oddOnes_74 : decode cX2_oddOnes 74 = .ok (.if_icmp .le 7, 3) := by decide +kernel
theorem dX2_oddOnes_77 : decode cX2_oddOnes 77 = .ok (.iconst 1, 1) := by decide +kernel
theorem dX2_oddOnes_78 : decode cX2_oddOnes 78 = .ok (.goto 4, 3) := by decide +kernel
theorem dX2_oddOnes_81 : decode cX2_oddOnes 81 = .ok (.iconst 0, 1) := by decide +kernel
theorem dX2_oddOnes_82 : decode cX2_oddOnes 82 = .ok (.invokestatic 55, 3) := by decide +kernel
theorem dX2_oddOnes_85 : decode cX2_oddOnes 85 = .ok (.iadd, 1) := by decide +kernel
theorem dX2_oddOnes_86 : decode cX2_oddOnes 86 = .ok (.istore_n 3, 1) := by decide +kernel
theorem dX2_oddOnes_87 : decode cX2_oddOnes 87 = .ok (.iinc 4 1, 3) := by decide +kernel
theorem dX2_oddOnes_90 : decode cX2_oddOnes 90 = .ok (.goto (-45), 3) := by decide +kernel
theorem dX2_oddOnes_93 : decode cX2_oddOnes 93 = .ok (.iload_n 3, 1) := by decide +kernel
theorem dX2_oddOnes_94 : decode cX2_oddOnes 94 = .ok (.ireturn, 1) := by decide +kernel
set_option maxRecDepth 20000 in
theorem ggX2_byChance_X2_gather : GoodIn wsX2_byChance wsX2_gather := goodIn_r _ [5, 6, 7, 8, 9, 10, 25, 26, 27, 28, 29, 30, 31, 32] rfl (by decide +kernel)
set_option maxRecDepth 20000 in
theorem gX2_byChance_X2_gather : GoodIn wsX2_byChance (wsV RX2 59 RX2 yX2_gather wsX2_gather) := goodIn_app (goodIn_of _ (by decide +kernel)) ggX2_byChance_X2_gather
set_option maxRecDepth 20000 in
theorem ggX2_byChance_X2_sumOf : GoodIn wsX2_byChance wsX2_sumOf := goodIn_r _ [14, 10, 8, 25, 26, 27, 28, 29, 30, 31, 32] rfl (by decide +kernel)
set_option maxRecDepth 20000 in
theorem gX2_byChance_X2_sumOf : GoodIn wsX2_byChance (wsV RX2 63 RX2 yX2_sumOf wsX2_sumOf) := goodIn_app (goodIn_of _ (by decide +kernel)) ggX2_byChance_X2_sumOf
set_option maxRecDepth 20000 in
theorem ggX2_byChance_X2_shuffle : GoodIn wsX2_byChance wsX2_shuffle := goodIn_r _ [18, 8, 19, 20, 21, 22, 25, 26, 27, 28, 29, 30, 31, 32] rfl (by decide +kernel)
set_option maxRecDepth 20000 in
theorem gX2_byChance_X2_shuffle : GoodIn wsX2_byChance (wsV RX2 66 RX2 yX2_shuffle wsX2_shuffle) := goodIn_app (goodIn_of _ (by decide +kernel)) ggX2_byChance_X2_shuffle
set_option maxRecDepth 20000 in
theorem ggX2_byChance_X11_asBit : GoodIn wsX2_byChance wsX11_asBit := goodIn_r _ [24] rfl (by decide +kernel)
set_option maxRecDepth 20000 in
theorem gX2_byChance_X11_asBit_n55 : GoodIn wsX2_byChance (wsX11_asBit) := ggX2_byChance_X11_asBit
theorem dX2_byChance_0 : decode cX2_byChance 0 = .ok (.aload_n 0, 1) := by decide +kernel
theorem dX2_byChance_1 : decode cX2_byChance 1 = .ok (.iload_n 1, 1) := by decide +kernel
theorem dX2_byChance_2 : decode cX2_byChance 2 = .ok (.invokevirtual 59, 3) := by decide +kernel
theorem dX2_byChance_5 : decode cX2_byChance 5 = .ok (.istore 4, 2) := by decide +kernel
theorem dX2_byChance_7 : decode cX2_byChance 7 = .ok (.aload_n 0, 1) := by decide +kernel
theorem dX2_byChance_8 : decode cX2_byChance 8 = .ok (.iload_n 1, 1) := by decide +kernel
theorem dX2_byChance_9 : decode cX2_byChance 9 = .ok (.iload 4, 2) := by decide +kernel
theorem dX2_byChance_11 : decode cX2_byChance 11 = .ok (.invokevirtual 63, 3) := by decide +kernel
theorem dX2_byChance_14 : decode cX2_byChance 14 = .ok (.istore 5, 2) := by decide +kernel
theorem dX2_byChance_16 : decode cX2_byChance 16 = .ok (.iload_n 2, 1) := by decide +kernel
theorem dX2_byChance_17 : decode cX2_byChance 17 = .ok (.istore 6, 2) := by decide +kernel
theorem dX2_byChance_19 : decode cX2_byChance 19 = .ok (.iconst 0, 1) := by decide +kernel
theorem dX2_byChance_20 : decode cX2_byChance 20 = .ok (.istore 7, 2) := by decide +kernel
theorem dX2_byChance_22 : decode cX2_byChance 22 = .ok (.iconst 0, 1) := by decide +kernel
theorem dX2_byChance_23 : decode cX2_byChance 23 = .ok (.istore 8, 2) := by decide +kernel
theorem dX2_byChance_25 : decode cX2_byChance 25 = .ok (.iload 8, 2) := by decide +kernel
theorem dX2_byChance_27 : decode cX2_byChance 27 = .ok (.iload_n 3, 1) := by decide +kernel
theorem dX2_byChance_28 : decode cX2_byChance 28 = .ok (.if_icmp .ge 44, 3) := by decide +kernel
theorem dX2_byChance_31 : decode cX2_byChance 31 = .ok (.aload_n 0, 1) := by decide +kernel
theorem dX2_byChance_32 : decode cX2_byChance 32 = .ok (.iload 4, 2) := by decide +kernel
theorem dX2_byChance_34 : decode cX2_byChance 34 = .ok (.iload 6, 2) := by decide +kernel
theorem dX2_byChance_36 : decode cX2_byChance 36 = .ok (.invokevirtual 66, 3) := by decide +kernel
theorem dX2_byChance_39 : decode cX2_byChance 39 = .ok (.istore 6, 2) := by decide +kernel
theorem dX2_byChance_41 : decode cX2_byChance 41 = .ok (.iload 7, 2) := by decide +kernel
theorem dX2_byChance_43 : decode cX2_byChance 43 = .ok (.aload_n 0, 1) := by decide +kernel
theorem dX2_byChance_44 : decode cX2_byChance 44 = .ok (.iload_n 1, 1) := by decide +kernel
theorem dX2_byChance_45 : decode cX2_byChance 45 = .ok (.iload 4, 2) := by decide +kernel
theorem dX2_byChance_47 : decode cX2_byChance 47 = .ok (.invokevirtual 63, 3) := by decide +kernel
theorem dX2_byChance_50 : decode cX2_byChance 50 = .ok (.iload 5, 2) := by decide +kernel
theorem dX2_byChance_52 : decode cX2_byChance 52 = .ok (.if_icmp .lt 7, 3) := by decide +kernel
theorem dX2_byChance_55 : decode cX2_byChance 55 = .ok (.iconst 1, 1) := by decide +kernel
theorem dX2_byChance_56 : decode cX2_byChance 56 = .ok (.goto 4, 3) := by decide +kernel
theorem dX2_byChance_59 : decode cX2_byChance 59 = .ok (.iconst 0, 1) := by decide +kernel
theorem dX2_byChance_60 : decode cX2_byChance 60 = .ok (.invokestatic 55, 3) := by decide +kernel
theorem dX2_byChance_63 : decode cX2_byChance 63 = .ok (.iadd, 1) := by decide +kernel
theorem dX2_byChance_64 : decode cX2_byChance 64 = .ok (.istore 7, 2) := by decide +kernel
theorem dX2_byChance_66 : decode cX2_byChance 66 = .ok (.iinc 8 1, 3) := by decide +kernel
theorem dX2_byChance_69 : decode cX2_byChance 69 = .ok (.goto (-44), 3) := by decide +kernel
theorem dX2_byChance_72 : decode cX2_byChance 72 = .ok (.iload 7, 2) := by decide +kernel
theorem dX2_byChance_74 : decode cX2_byChance 74 = .ok (.ireturn, 1) := by decide +kernel
theorem dX2_gather_0 : decode cX2_gather 0 = .ok (.iconst 0, 1) := by decide +kernel
theorem dX2_gather_1 : decode cX2_gather 1 = .ok (.istore_n 2, 1) := by decide +kernel
theorem dX2_gather_2 : decode cX2_gather 2 = .ok (.iconst 0, 1) := by decide +kernel
theorem dX2_gather_3 : decode cX2_gather 3 = .ok (.istore_n 3, 1) := by decide +kernel
theorem dX2_gather_4 : decode cX2_gather 4 = .ok (.iload_n 3, 1) := by decide +kernel
theorem dX2_gather_5 : decode cX2_gather 5 = .ok (.aload_n 0, 1) := by decide +kernel
theorem dX2_gather_6 : decode cX2_gather 6 = .ok (.getfield 34, 3) := by decide +kernel
theorem dX2_gather_9 : decode cX2_gather 9 = .ok (.if_icmp .ge 57, 3) := by decide +kernel
theorem dX2_gather_12 : decode cX2_gather 12 = .ok (.aload_n 0, 1) := by decide +kernel
theorem dX2_gather_13 : decode cX2_gather 13 = .ok (.getfield 15, 3) := by decide +kernel
theorem dX2_gather_16 : decode cX2_gather 16 = .ok (.iload_n 3, 1) := by decide +kernel
theorem dX2_gather_17 : decode cX2_gather 17 = .ok (.iaload, 1) := by decide +kernel
theorem dX2_gather_18 : decode cX2_gather 18 = .ok (.iload_n 1, 1) := by decide +kernel
theorem dX2_gather_19 : decode cX2_gather 19 = .ok (.if_icmp .eq 14, 3) := by decide +kernel
theorem dX2_gather_22 : decode cX2_gather 22 = .ok (.aload_n 0, 1) := by decide +kernel
theorem dX2_gather_23 : decode cX2_gather 23 = .ok (.getfield 15, 3) := by decide +kernel
theorem dX2_gather_26 : decode cX2_gather 26 = .ok (.iload_n 3, 1) := by decide +kernel
theorem dX2_gather_27 : decode cX2_gather 27 = .ok (.iaload, 1) := by decide +kernel
theorem dX2_gather_28 : decode cX2_gather 28 = .ok (.bipush 7, 2) := by decide +kernel
theorem dX2_gather_30 : decode cX2_gather 30 = .ok (.if_icmp .ne 30, 3) := by decide +kernel
theorem dX2_gather_33 : decode cX2_gather 33 = .ok (.aload_n 0, 1) := by decide +kernel
theorem dX2_gather_34 : decode cX2_gather 34 = .ok (.getfield 28, 3) := by decide +kernel
theorem dX2_gather_37 : decode cX2_gather 37 = .ok (.iload_n 2, 1) := by decide +kernel
theorem dX2_gather_38 : decode cX2_gather 38 = .ok (.aload_n 0, 1) := by decide +kernel
theorem dX2_gather_39 : decode cX2_gather 39 = .ok (.getfield 18, 3) := by decide +kernel
theorem dX2_gather_42 : decode cX2_gather 42 = .ok (.iload_n 3, 1) := by decide +kernel
theorem dX2_gather_43 : decode cX2_gather 43 = .ok (.iaload, 1) := by decide +kernel
theorem dX2_gather_44 : decode cX2_gather 44 = .ok (.iastore, 1) := by decide +kernel
theorem dX2_gather_45 : decode cX2_gather 45 = .ok (.aload_n 0, 1) := by decide +kernel
theorem dX2_gather_46 : decode cX2_gather 46 = .ok (.getfield 31, 3) := by decide +kernel
theorem dX2_gather_49 : decode cX2_gather 49 = .ok (.iload_n 2, 1) := by decide +kernel
theorem dX2_gather_50 : decode cX2_gather 50 = .ok (.aload_n 0, 1) := by decide +kernel
theorem dX2_gather_51 : decode cX2_gather 51 = .ok (.getfield 15, 3) := by decide +kernel
theorem dX2_gather_54 : decode cX2_gather 54 = .ok (.iload_n 3, 1) := by decide +kernel
theorem dX2_gather_55 : decode cX2_gather 55 = .ok (.iaload, 1) := by decide +kernel
theorem dX2_gather_56 : decode cX2_gather 56 = .ok (.iastore, 1) := by decide +kernel
theorem dX2_gather_57 : decode cX2_gather 57 = .ok (.iinc 2 1, 3) := by decide +kernel
theorem dX2_gather_60 : decode cX2_gather 60 = .ok (.iinc 3 1, 3) := by decide +kernel
theorem dX2_gather_63 : decode cX2_gather 63 = .ok (.goto (-59), 3) := by decide +kernel
theorem dX2_gather_66 : decode cX2_gather 66 = .ok (.iload_n 2, 1) := by decide +kernel
theorem dX2_gather_67 : decode cX2_gather 67 = .ok (.ireturn, 1) := by decide +kernel
theorem dX2_sumOf_0 : decode cX2_sumOf 0 = .ok (.iconst 0, 1) := by decide +kernel
theorem dX2_sumOf_1 : decode cX2_sumOf 1 = .ok (.istore_n 3, 1) := by decide +kernel
theorem dX2_sumOf_2 : decode cX2_sumOf 2 = .ok (.iconst 0, 1) := by decide +kernel
theorem dX2_sumOf_3 : decode cX2_sumOf 3 = .ok (.istore 4, 2) := by decide +kernel
theorem dX2_sumOf_5 : decode cX2_sumOf 5 = .ok (.iload 4, 2) := by decide +kernel
theorem dX2_sumOf_7 : decode cX2_sumOf 7 = .ok (.iload_n 2, 1) := by decide +kernel
theorem dX2_sumOf_8 : decode cX2_sumOf 8 = .ok (.if_icmp .ge 34, 3) := by decide +kernel
theorem dX2_sumOf_11 : decode cX2_sumOf 11 = .ok (.iload_n 3, 1) := by decide +kernel
theorem dX2_sumOf_12 : decode cX2_sumOf 12 = .ok (.aload_n 0, 1) := by decide +kernel
theorem dX2_sumOf_13 : decode cX2_sumOf 13 = .ok (.getfield 31, 3) := by decide +kernel
theorem dX2_sumOf_16 : decode cX2_sumOf 16 = .ok (.iload 4, 2) := by decide +kernel
theorem dX2_sumOf_18 : decode cX2_sumOf 18 = .ok (.iaload, 1) := by decide +kernel
theorem dX2_sumOf_19 : decode cX2_sumOf 19 = .ok (.iload_n 1, 1) := by decide +kernel
theorem dX2_sumOf_20 : decode cX2_sumOf 20 = .ok (.if_icmp .ne 13, 3) := by decide +kernel
theorem dX2_sumOf_23 : decode cX2_sumOf 23 = .ok (.aload_n 0, 1) := by decide +kernel
theorem dX2_sumOf_24 : decode cX2_sumOf 24 = .ok (.getfield 28, 3) := by decide +kernel
theorem dX2_sumOf_27 : decode cX2_sumOf 27 = .ok (.iload 4, 2) := by decide +kernel
theorem dX2_sumOf_29 : decode cX2_sumOf 29 = .ok (.iaload, 1) := by decide +kernel
theorem dX2_sumOf_30 : decode cX2_sumOf 30 = .ok (.goto 4, 3) := by decide +kernel
theorem dX2_sumOf_33 : decode cX2_sumOf 33 = .ok (.iconst 0, 1) := by decide +kernel
theorem dX2_sumOf_34 : decode cX2_sumOf 34 = .ok (.iadd, 1) := by decide +kernel
theorem dX2_sumOf_35 : decode cX2_sumOf 35 = .ok (.istore_n 3, 1) := by decide +kernel
theorem dX2_sumOf_36 : decode cX2_sumOf 36 = .ok (.iinc 4 1, 3) := by decide +kernel
theorem dX2_sumOf_39 : decode cX2_sumOf 39 = .ok (.goto (-34), 3) := by decide +kernel
theorem dX2_sumOf_42 : decode cX2_sumOf 42 = .ok (.iload_n 3, 1) := by decide +kernel
theorem dX2_sumOf_43 : decode cX2_sumOf 43 = .ok (.ireturn, 1) := by decide +kernel
set_option maxRecDepth 20000 in
theorem ggX2_shuffle_X11_drawn : GoodIn wsX2_shuffle wsX11_drawn := goodIn_r _ [4, 5] rfl (by decide +kernel)
set_option maxRecDepth 20000 in
theorem gX2_shuffle_X11_drawn_n69 : GoodIn wsX2_shuffle (wsX11_drawn) := ggX2_shuffle_X11_drawn
theorem dX2_shuffle_0 : decode cX2_shuffle 0 = .ok (.iload_n 2, 1) := by decide +kernel
theorem dX2_shuffle_1 : decode cX2_shuffle 1 = .ok (.istore_n 3, 1) := by decide +kernel
theorem dX2_shuffle_2 : decode cX2_shuffle 2 = .ok (.iload_n 1, 1) := by decide +kernel
theorem dX2_shuffle_3 : decode cX2_shuffle 3 = .ok (.iconst 1, 1) := by decide +kernel
theorem dX2_shuffle_4 : decode cX2_shuffle 4 = .ok (.isub, 1) := by decide +kernel
theorem dX2_shuffle_5 : decode cX2_shuffle 5 = .ok (.istore 4, 2) := by decide +kernel
theorem dX2_shuffle_7 : decode cX2_shuffle 7 = .ok (.iload 4, 2) := by decide +kernel
theorem dX2_shuffle_9 : decode cX2_shuffle 9 = .ok (.iconst 1, 1) := by decide +kernel
theorem dX2_shuffle_10 : decode cX2_shuffle 10 = .ok (.if_icmp .lt 57, 3) := by decide +kernel
theorem dX2_shuffle_13 : decode cX2_shuffle 13 = .ok (.iload_n 3, 1) := by decide +kernel
theorem dX2_shuffle_14 : decode cX2_shuffle 14 = .ok (.invokestatic 69, 3) := by decide +kernel
theorem dX2_shuffle_17 : decode cX2_shuffle 17 = .ok (.istore_n 3, 1) := by decide +kernel
theorem dX2_shuffle_18 : decode cX2_shuffle 18 = .ok (.iload_n 3, 1) := by decide +kernel
theorem dX2_shuffle_19 : decode cX2_shuffle 19 = .ok (.bipush 8, 2) := by decide +kernel
theorem dX2_shuffle_21 : decode cX2_shuffle 21 = .ok (.iushr, 1) := by decide +kernel
theorem dX2_shuffle_22 : decode cX2_shuffle 22 = .ok (.iload 4, 2) := by decide +kernel
theorem dX2_shuffle_24 : decode cX2_shuffle 24 = .ok (.iconst 1, 1) := by decide +kernel
theorem dX2_shuffle_25 : decode cX2_shuffle 25 = .ok (.iadd, 1) := by decide +kernel
theorem dX2_shuffle_26 : decode cX2_shuffle 26 = .ok (.irem, 1) := by decide +kernel
theorem dX2_shuffle_27 : decode cX2_shuffle 27 = .ok (.istore 5, 2) := by decide +kernel
theorem dX2_shuffle_29 : decode cX2_shuffle 29 = .ok (.aload_n 0, 1) := by decide +kernel
theorem dX2_shuffle_30 : decode cX2_shuffle 30 = .ok (.getfield 28, 3) := by decide +kernel
theorem dX2_shuffle_33 : decode cX2_shuffle 33 = .ok (.iload 4, 2) := by decide +kernel
theorem dX2_shuffle_35 : decode cX2_shuffle 35 = .ok (.iaload, 1) := by decide +kernel
theorem dX2_shuffle_36 : decode cX2_shuffle 36 = .ok (.istore 6, 2) := by decide +kernel
theorem dX2_shuffle_38 : decode cX2_shuffle 38 = .ok (.aload_n 0, 1) := by decide +kernel
theorem dX2_shuffle_39 : decode cX2_shuffle 39 = .ok (.getfield 28, 3) := by decide +kernel
theorem dX2_shuffle_42 : decode cX2_shuffle 42 = .ok (.iload 4, 2) := by decide +kernel
theorem dX2_shuffle_44 : decode cX2_shuffle 44 = .ok (.aload_n 0, 1) := by decide +kernel
theorem dX2_shuffle_45 : decode cX2_shuffle 45 = .ok (.getfield 28, 3) := by decide +kernel
theorem dX2_shuffle_48 : decode cX2_shuffle 48 = .ok (.iload 5, 2) := by decide +kernel
theorem dX2_shuffle_50 : decode cX2_shuffle 50 = .ok (.iaload, 1) := by decide +kernel
theorem dX2_shuffle_51 : decode cX2_shuffle 51 = .ok (.iastore, 1) := by decide +kernel
theorem dX2_shuffle_52 : decode cX2_shuffle 52 = .ok (.aload_n 0, 1) := by decide +kernel
theorem dX2_shuffle_53 : decode cX2_shuffle 53 = .ok (.getfield 28, 3) := by decide +kernel
theorem dX2_shuffle_56 : decode cX2_shuffle 56 = .ok (.iload 5, 2) := by decide +kernel
theorem dX2_shuffle_58 : decode cX2_shuffle 58 = .ok (.iload 6, 2) := by decide +kernel
theorem dX2_shuffle_60 : decode cX2_shuffle 60 = .ok (.iastore, 1) := by decide +kernel
theorem dX2_shuffle_61 : decode cX2_shuffle 61 = .ok (.iinc 4 (-1), 3) := by decide +kernel
theorem dX2_shuffle_64 : decode cX2_shuffle 64 = .ok (.goto (-57), 3) := by decide +kernel
theorem dX2_shuffle_67 : decode cX2_shuffle 67 = .ok (.iload_n 3, 1) := by decide +kernel
theorem dX2_shuffle_68 : decode cX2_shuffle 68 = .ok (.ireturn, 1) := by decide +kernel
set_option maxRecDepth 20000 in
theorem ggX2_inkBars_X2_meanOf : GoodIn wsX2_inkBars wsX2_meanOf := goodIn_r _ [7, 8, 9, 10, 11, 12, 13, 14, 15, 16, 17, 18, 19, 20, 21, 22] rfl (by decide +kernel)
set_option maxRecDepth 20000 in
theorem gX2_inkBars_X2_meanOf : GoodIn wsX2_inkBars (wsV RX2 72 RX2 yX2_meanOf wsX2_meanOf) := goodIn_app (goodIn_of _ (by decide +kernel)) ggX2_inkBars_X2_meanOf
theorem dX2_inkBars_0 : decode cX2_inkBars 0 = .ok (.aload_n 0, 1) := by decide +kernel
theorem dX2_inkBars_1 : decode cX2_inkBars 1 = .ok (.getfield 21, 3) := by decide +kernel
theorem dX2_inkBars_4 : decode cX2_inkBars 4 = .ok (.sipush 2001, 3) := by decide +kernel
theorem dX2_inkBars_7 : decode cX2_inkBars 7 = .ok (.if_icmp .eq 31, 3) := by decide +kernel
theorem dX2_inkBars_10 : decode cX2_inkBars 10 = .ok (.iload_n 2, 1) := by decide +kernel
theorem dX2_inkBars_11 : decode cX2_inkBars 11 = .ok (.aload_n 0, 1) := by decide +kernel
theorem dX2_inkBars_12 : decode cX2_inkBars 12 = .ok (.getfield 21, 3) := by decide +kernel
theorem dX2_inkBars_15 : decode cX2_inkBars 15 = .ok (.if_icmp .ge 23, 3) := by decide +kernel
theorem dX2_inkBars_18 : decode cX2_inkBars 18 = .ok (.aload_n 0, 1) := by decide +kernel
theorem dX2_inkBars_19 : decode cX2_inkBars 19 = .ok (.bipush 31, 2) := by decide +kernel
theorem dX2_inkBars_21 : decode cX2_inkBars 21 = .ok (.iconst 1, 1) := by decide +kernel
theorem dX2_inkBars_22 : decode cX2_inkBars 22 = .ok (.iload_n 1, 1) := by decide +kernel
theorem dX2_inkBars_23 : decode cX2_inkBars 23 = .ok (.ishl, 1) := by decide +kernel
theorem dX2_inkBars_24 : decode cX2_inkBars 24 = .ok (.invokevirtual 72, 3) := by decide +kernel
theorem dX2_inkBars_27 : decode cX2_inkBars 27 = .ok (.aload_n 0, 1) := by decide +kernel
theorem dX2_inkBars_28 : decode cX2_inkBars 28 = .ok (.getfield 25, 3) := by decide +kernel
theorem dX2_inkBars_31 : decode cX2_inkBars 31 = .ok (.if_icmp .le 7, 3) := by decide +kernel
theorem dX2_inkBars_34 : decode cX2_inkBars 34 = .ok (.iconst 1, 1) := by decide +kernel
theorem dX2_inkBars_35 : decode cX2_inkBars 35 = .ok (.goto 4, 3) := by decide +kernel
theorem dX2_inkBars_38 : decode cX2_inkBars 38 = .ok (.iconst 0, 1) := by decide +kernel
theorem dX2_inkBars_39 : decode cX2_inkBars 39 = .ok (.ireturn, 1) := by decide +kernel
set_option maxRecDepth 20000 in
theorem ggX2_someInkBars_X2_inkBars : GoodIn wsX2_someInkBars wsX2_inkBars := goodIn_r _ [5, 6, 7, 8, 9, 10, 4, 11, 12, 13, 14, 15, 16, 17, 18, 19, 20, 21, 22, 23, 24, 25, 26] rfl (by decide +kernel)
set_option maxRecDepth 20000 in
theorem gX2_someInkBars_X2_inkBars : GoodIn wsX2_someInkBars (wsV RX2 75 RX2 yX2_inkBars wsX2_inkBars) := goodIn_app (goodIn_of _ (by decide +kernel)) ggX2_someInkBars_X2_inkBars
theorem dX2_someInkBars_0 : decode cX2_someInkBars 0 = .ok (.iconst 0, 1) := by decide +kernel
theorem dX2_someInkBars_1 : decode cX2_someInkBars 1 = .ok (.istore_n 2, 1) := by decide +kernel
theorem dX2_someInkBars_2 : decode cX2_someInkBars 2 = .ok (.iload_n 2, 1) := by decide +kernel
theorem dX2_someInkBars_3 : decode cX2_someInkBars 3 = .ok (.bipush 6, 2) := by decide +kernel
theorem dX2_someInkBars_5 : decode cX2_someInkBars 5 = .ok (.if_icmp .ge 20, 3) := by decide +kernel
theorem dX2_someInkBars_8 : decode cX2_someInkBars 8 = .ok (.aload_n 0, 1) := by decide +kernel
theorem dX2_someInkBars_9 : decode cX2_someInkBars 9 = .ok (.iload_n 2, 1) := by decide +kernel
theorem dX2_someInkBars_10 : decode cX2_someInkBars 10 = .ok (.iload_n 1, 1) := by decide +kernel
theorem dX2_someInkBars_11 : decode cX2_someInkBars 11 = .ok (.invokevirtual 75, 3) := by decide +kernel
theorem dX2_someInkBars_14 : decode cX2_someInkBars 14 = .ok (.ifCond .eq 5, 3) := by decide +kernel
theorem dX2_someInkBars_17 : decode cX2_someInkBars 17 = .ok (.iconst 1, 1) := by decide +kernel
theorem dX2_someInkBars_18 : decode cX2_someInkBars 18 = .ok (.ireturn, 1) := by decide +kernel
theorem dX2_someInkBars_19 : decode cX2_someInkBars 19 = .ok (.iinc 2 1, 3) := by decide +kernel
theorem dX2_someInkBars_22 : decode cX2_someInkBars 22 = .ok (.goto (-20), 3) := by decide +kernel
theorem dX2_someInkBars_25 : decode cX2_someInkBars 25 = .ok (.iconst 0, 1) := by decide +kernel
theorem dX2_someInkBars_26 : decode cX2_someInkBars 26 = .ok (.ireturn, 1) := by decide +kernel
theorem dX3_init_0 : decode cX3_init 0 = .ok (.aload_n 0, 1) := by decide +kernel
theorem dX3_init_1 : decode cX3_init 1 = .ok (.invokespecial 3, 3) := by decide +kernel
theorem dX3_init_4 : decode cX3_init 4 = .ok (.aload_n 0, 1) := by decide +kernel
theorem dX3_init_5 : decode cX3_init 5 = .ok (.bipush 20, 2) := by decide +kernel
theorem dX3_init_7 : decode cX3_init 7 = .ok (.newarray .int, 2) := by decide +kernel
theorem dX3_init_9 : decode cX3_init 9 = .ok (.putfield 9, 3) := by decide +kernel
theorem dX3_init_12 : decode cX3_init 12 = .ok (.aload_n 0, 1) := by decide +kernel
theorem dX3_init_13 : decode cX3_init 13 = .ok (.bipush 20, 2) := by decide +kernel
theorem dX3_init_15 : decode cX3_init 15 = .ok (.newarray .int, 2) := by decide +kernel
theorem dX3_init_17 : decode cX3_init 17 = .ok (.putfield 15, 3) := by decide +kernel
theorem dX3_init_20 : decode cX3_init 20 = .ok (.aload_n 0, 1) := by decide +kernel
theorem dX3_init_21 : decode cX3_init 21 = .ok (.bipush 60, 2) := by decide +kernel
theorem dX3_init_23 : decode cX3_init 23 = .ok (.newarray .int, 2) := by decide +kernel
theorem dX3_init_25 : decode cX3_init 25 = .ok (.putfield 18, 3) := by decide +kernel
theorem dX3_init_28 : decode cX3_init 28 = .ok (.aload_n 0, 1) := by decide +kernel
theorem dX3_init_29 : decode cX3_init 29 = .ok (.bipush 60, 2) := by decide +kernel
theorem dX3_init_31 : decode cX3_init 31 = .ok (.newarray .int, 2) := by decide +kernel
theorem dX3_init_33 : decode cX3_init 33 = .ok (.putfield 21, 3) := by decide +kernel
theorem dX3_init_36 : decode cX3_init 36 = .ok (.aload_n 0, 1) := by decide +kernel
theorem dX3_init_37 : decode cX3_init 37 = .ok (.bipush 60, 2) := by decide +kernel
theorem dX3_init_39 : decode cX3_init 39 = .ok (.newarray .int, 2) := by decide +kernel
theorem dX3_init_41 : decode cX3_init 41 = .ok (.putfield 24, 3) := by decide +kernel
theorem dX3_init_44 : decode cX3_init 44 = .ok (.aload_n 0, 1) := by decide +kernel
theorem dX3_init_45 : decode cX3_init 45 = .ok (.bipush 40, 2) := by decide +kernel
theorem dX3_init_47 : decode cX3_init 47 = .ok (.newarray .int, 2) := by decide +kernel
theorem dX3_init_49 : decode cX3_init 49 = .ok (.putfield 27, 3) := by decide +kernel
theorem dX3_init_52 : decode cX3_init 52 = .ok (.aload_n 0, 1) := by decide +kernel
theorem dX3_init_53 : decode cX3_init 53 = .ok (.bipush 40, 2) := by decide +kernel
theorem dX3_init_55 : decode cX3_init 55 = .ok (.newarray .int, 2) := by decide +kernel
theorem dX3_init_57 : decode cX3_init 57 = .ok (.putfield 30, 3) := by decide +kernel
theorem dX3_init_60 : decode cX3_init 60 = .ok (.aload_n 0, 1) := by decide +kernel
theorem dX3_init_61 : decode cX3_init 61 = .ok (.bipush 6, 2) := by decide +kernel
theorem dX3_init_63 : decode cX3_init 63 = .ok (.newarray .int, 2) := by decide +kernel
theorem dX3_init_65 : decode cX3_init 65 = .ok (.putfield 33, 3) := by decide +kernel
theorem dX3_init_68 : decode cX3_init 68 = .ok (.return_, 1) := by decide +kernel
set_option maxRecDepth 20000 in
theorem ggX3_isLine_X11_within : GoodIn wsX3_isLine wsX11_within := goodIn_r _ [4] rfl (by decide +kernel)
set_option maxRecDepth 20000 in
theorem gX3_isLine_X11_within_n40 : GoodIn wsX3_isLine (wsX11_within) := ggX3_isLine_X11_within
theorem dX3_isLine_0 : decode cX3_isLine 0 = .ok (.iload_n 1, 1) := by decide +kernel
theorem dX3_isLine_1 : decode cX3_isLine 1 = .ok (.iconst 0, 1) := by decide +kernel
theorem dX3_isLine_2 : decode cX3_isLine 2 = .ok (.aload_n 0, 1) := by decide +kernel
theorem dX3_isLine_3 : decode cX3_isLine 3 = .ok (.getfield 36, 3) := by decide +kernel
theorem dX3_isLine_6 : decode cX3_isLine 6 = .ok (.iconst 1, 1) := by decide +kernel
theorem dX3_isLine_7 : decode cX3_isLine 7 = .ok (.isub, 1) := by decide +kernel
theorem dX3_isLine_8 : decode cX3_isLine 8 = .ok (.invokestatic 40, 3) := by decide +kernel
theorem dX3_isLine_11 : decode cX3_isLine 11 = .ok (.ireturn, 1) := by decide +kernel
theorem dX3_add_0 : decode cX3_add 0 = .ok (.aload_n 0, 1) := by decide +kernel
theorem dX3_add_1 : decode cX3_add 1 = .ok (.getfield 36, 3) := by decide +kernel
theorem dX3_add_4 : decode cX3_add 4 = .ok (.aload_n 0, 1) := by decide +kernel
theorem dX3_add_5 : decode cX3_add 5 = .ok (.getfield 9, 3) := by decide +kernel
theorem dX3_add_8 : decode cX3_add 8 = .ok (.arraylength, 1) := by decide +kernel
theorem dX3_add_9 : decode cX3_add 9 = .ok (.if_icmp .ne 6, 3) := by decide +kernel
theorem dX3_add_12 : decode cX3_add 12 = .ok (.bipush (-3), 2) := by decide +kernel
theorem dX3_add_14 : decode cX3_add 14 = .ok (.ireturn, 1) := by decide +kernel
theorem dX3_add_15 : decode cX3_add 15 = .ok (.aload_n 0, 1) := by decide +kernel
theorem dX3_add_16 : decode cX3_add 16 = .ok (.getfield 9, 3) := by decide +kernel
theorem dX3_add_19 : decode cX3_add 19 = .ok (.aload_n 0, 1) := by decide +kernel
theorem dX3_add_20 : decode cX3_add 20 = .ok (.getfield 36, 3) := by decide +kernel
theorem dX3_add_23 : decode cX3_add 23 = .ok (.iload_n 1, 1) := by decide +kernel
theorem dX3_add_24 : decode cX3_add 24 = .ok (.iastore, 1) := by decide +kernel
theorem dX3_add_25 : decode cX3_add 25 = .ok (.aload_n 0, 1) := by decide +kernel
theorem dX3_add_26 : decode cX3_add 26 = .ok (.getfield 15, 3) := by decide +kernel
theorem dX3_add_29 : decode cX3_add 29 = .ok (.aload_n 0, 1) := by decide +kernel
theorem dX3_add_30 : decode cX3_add 30 = .ok (.getfield 36, 3) := by decide +kernel
theorem dX3_add_33 : decode cX3_add 33 = .ok (.iload_n 2, 1) := by decide +kernel
theorem dX3_add_34 : decode cX3_add 34 = .ok (.iastore, 1) := by decide +kernel
theorem dX3_add_35 : decode cX3_add 35 = .ok (.aload_n 0, 1) := by decide +kernel
theorem dX3_add_36 : decode cX3_add 36 = .ok (.dup, 1) := by decide +kernel
theorem dX3_add_37 : decode cX3_add 37 = .ok (.getfield 36, 3) := by decide +kernel
theorem dX3_add_40 : decode cX3_add 40 = .ok (.dup_x1, 1) := by decide +kernel
theorem dX3_add_41 : decode cX3_add 41 = .ok (.iconst 1, 1) := by decide +kernel
theorem dX3_add_42 : decode cX3_add 42 = .ok (.iadd, 1) := by decide +kernel
theorem dX3_add_43 : decode cX3_add 43 = .ok (.putfield 36, 3) := by decide +kernel
theorem dX3_add_46 : decode cX3_add 46 = .ok (.ireturn, 1) := by decide +kernel
theorem dX3_tellMark_0 : decode cX3_tellMark 0 = .ok (.iconst 0, 1) := by decide +kernel
theorem dX3_tellMark_1 : decode cX3_tellMark 1 = .ok (.istore 4, 2) := by decide +kernel
theorem dX3_tellMark_3 : decode cX3_tellMark 3 = .ok (.iload 4, 2) := by decide +kernel
theorem dX3_tellMark_5 : decode cX3_tellMark 5 = .ok (.aload_n 0, 1) := by decide +kernel
theorem dX3_tellMark_6 : decode cX3_tellMark 6 = .ok (.getfield 44, 3) := by decide +kernel
theorem dX3_tellMark_9 : decode cX3_tellMark 9 = .ok (.if_icmp .ge 31, 3) := by decide +kernel
theorem dX3_tellMark_12 : decode cX3_tellMark 12 = .ok (.aload_n 0, 1) := by decide +kernel
theorem dX3_tellMark_13 : decode cX3_tellMark 13 = .ok (.getfield 18, 3) := by decide +kernel
theorem dX3_tellMark_16 : decode cX3_tellMark 16 = .ok (.iload 4, 2) := by decide +kernel
theorem dX3_tellMark_18 : decode cX3_tellMark 18 = .ok (.iaload, 1) := by decide +kernel
theorem dX3_tellMark_19 : decode cX3_tellMark 19 = .ok (.iload_n 1, 1) := by decide +kernel
theorem dX3_tellMark_20 : decode cX3_tellMark 20 = .ok (.if_icmp .ne 14, 3) := by decide +kernel
theorem dX3_tellMark_23 : decode cX3_tellMark 23 = .ok (.aload_n 0, 1) := by decide +kernel
theorem dX3_tellMark_24 : decode cX3_tellMark 24 = .ok (.getfield 21, 3) := by decide +kernel
theorem dX3_tellMark_27 : decode cX3_tellMark 27 = .ok (.iload 4, 2) := by decide +kernel
theorem dX3_tellMark_29 : decode cX3_tellMark 29 = .ok (.iaload, 1) := by decide +kernel
theorem dX3_tellMark_30 : decode cX3_tellMark 30 = .ok (.iload_n 2, 1) := by decide +kernel
theorem dX3_tellMark_31 : decode cX3_tellMark 31 = .ok (.if_icmp .eq 9, 3) := by decide +kernel
theorem dX3_tellMark_34 : decode cX3_tellMark 34 = .ok (.iinc 4 1, 3) := by decide +kernel
theorem dX3_tellMark_37 : decode cX3_tellMark 37 = .ok (.goto (-34), 3) := by decide +kernel
theorem dX3_tellMark_40 : decode cX3_tellMark 40 = .ok (.iload 4, 2) := by decide +kernel
theorem dX3_tellMark_42 : decode cX3_tellMark 42 = .ok (.aload_n 0, 1) := by decide +kernel
theorem dX3_tellMark_43 : decode cX3_tellMark 43 = .ok (.getfield 18, 3) := by decide +kernel
theorem dX3_tellMark_46 : decode cX3_tellMark 46 = .ok (.arraylength, 1) := by decide +kernel
theorem dX3_tellMark_47 : decode cX3_tellMark 47 = .ok (.if_icmp .ne 6, 3) := by decide +kernel
theorem dX3_tellMark_50 : decode cX3_tellMark 50 = .ok (.bipush (-3), 2) := by decide +kernel
theorem dX3_tellMark_52 : decode cX3_tellMark 52 = .ok (.ireturn, 1) := by decide +kernel
theorem dX3_tellMark_53 : decode cX3_tellMark 53 = .ok (.aload_n 0, 1) := by decide +kernel
theorem dX3_tellMark_54 : decode cX3_tellMark 54 = .ok (.getfield 18, 3) := by decide +kernel
theorem dX3_tellMark_57 : decode cX3_tellMark 57 = .ok (.iload 4, 2) := by decide +kernel
theorem dX3_tellMark_59 : decode cX3_tellMark 59 = .ok (.iload_n 1, 1) := by decide +kernel
theorem dX3_tellMark_60 : decode cX3_tellMark 60 = .ok (.iastore, 1) := by decide +kernel
theorem dX3_tellMark_61 : decode cX3_tellMark 61 = .ok (.aload_n 0, 1) := by decide +kernel
theorem dX3_tellMark_62 : decode cX3_tellMark 62 = .ok (.getfield 21, 3) := by decide +kernel
theorem dX3_tellMark_65 : decode cX3_tellMark 65 = .ok (.iload 4, 2) := by decide +kernel
theorem dX3_tellMark_67 : decode cX3_tellMark 67 = .ok (.iload_n 2, 1) := by decide +kernel
theorem dX3_tellMark_68 : decode cX3_tellMark 68 = .ok (.iastore, 1) := by decide +kernel
theorem dX3_tellMark_69 : decode cX3_tellMark 69 = .ok (.aload_n 0, 1) := by decide +kernel
theorem dX3_tellMark_70 : decode cX3_tellMark 70 = .ok (.getfield 24, 3) := by decide +kernel
theorem dX3_tellMark_73 : decode cX3_tellMark 73 = .ok (.iload 4, 2) := by decide +kernel
theorem dX3_tellMark_75 : decode cX3_tellMark 75 = .ok (.iload_n 3, 1) := by decide +kernel
theorem dX3_tellMark_76 : decode cX3_tellMark 76 = .ok (.iastore, 1) := by decide +kernel
theorem dX3_tellMark_77 : decode cX3_tellMark 77 = .ok (.aload_n 0, 1) := by decide +kernel
theorem dX3_tellMark_78 : decode cX3_tellMark 78 = .ok (.aload_n 0, 1) := by decide +kernel
theorem dX3_tellMark_79 : decode cX3_tellMark 79 = .ok (.getfield 44, 3) := by decide +kernel
theorem dX3_tellMark_82 : decode cX3_tellMark 82 = .ok (.iload 4, 2) := by decide +kernel
theorem dX3_tellMark_84 : decode cX3_tellMark 84 = .ok (.iconst 1, 1) := by decide +kernel
theorem dX3_tellMark_85 : decode cX3_tellMark 85 = .ok (.iadd, 1) := by decide +kernel
theorem dX3_tellMark_86 : decode cX3_tellMark 86 = .ok (.invokestatic 47, 3) := by decide +kernel
theorem dX3_tellMark_89 : decode cX3_tellMark 89 = .ok (.putfield 44, 3) := by decide +kernel
theorem dX3_tellMark_92 : decode cX3_tellMark 92 = .ok (.aload_n 0, 1) := by decide +kernel
theorem dX3_tellMark_93 : decode cX3_tellMark 93 = .ok (.getfield 44, 3) := by decide +kernel
theorem dX3_tellMark_96 : decode cX3_tellMark 96 = .ok (.ireturn, 1) := by decide +kernel
set_option maxRecDepth 20000 in
theorem ggX3_marksThatAre_X11_asBit : GoodIn wsX3_marksThatAre wsX11_asBit := goodIn_r _ [5] rfl (by decide +kernel)
set_option maxRecDepth 20000 in
theorem gX3_marksThatAre_X11_asBit_n53 : GoodIn wsX3_marksThatAre (wsX11_asBit) := ggX3_marksThatAre_X11_asBit
theorem dX3_marksThatAre_0 : decode cX3_marksThatAre 0 = .ok (.iconst 0, 1) := by decide +kernel
theorem dX3_marksThatAre_1 : decode cX3_marksThatAre 1 = .ok (.istore_n 2, 1) := by decide +kernel
theorem dX3_marksThatAre_2 : decode cX3_marksThatAre 2 = .ok (.iconst 0, 1) := by decide +kernel
theorem dX3_marksThatAre_3 : decode cX3_marksThatAre 3 = .ok (.istore_n 3, 1) := by decide +kernel
theorem dX3_marksThatAre_4 : decode cX3_marksThatAre 4 = .ok (.iload_n 3, 1) := by decide +kernel
theorem dX3_marksThatAre_5 : decode cX3_marksThatAre 5 = .ok (.aload_n 0, 1) := by decide +kernel
theorem dX3_marksThatAre_6 : decode cX3_marksThatAre 6 = .ok (.getfield 44, 3) := by decide +kernel
theorem dX3_marksThatAre_9 : decode cX3_marksThatAre 9 = .ok (.if_icmp .ge 30, 3) := by decide +kernel
theorem dX3_marksThatAre_12 : decode cX3_marksThatAre 12 = .ok (.iload_n 2, 1) := by decide +kernel
theorem dX3_marksThatAre_13 : decode cX3_marksThatAre 13 = .ok (.aload_n 0, 1) := by decide +kernel
theorem dX3_marksThatAre_14 : decode cX3_marksThatAre 14 = .ok (.getfield 24, 3) := by decide +kernel
theorem dX3_marksThatAre_17 : decode cX3_marksThatAre 17 = .ok (.iload_n 3, 1) := by decide +kernel
theorem dX3_marksThatAre_18 : decode cX3_marksThatAre 18 = .ok (.iaload, 1) := by decide +kernel
theorem dX3_marksThatAre_19 : decode cX3_marksThatAre 19 = .ok (.iload_n 1, 1) := by decide +kernel
theorem dX3_marksThatAre_20 : decode cX3_marksThatAre 20 = .ok (.if_icmp .ne 7, 3) := by decide +kernel
theorem dX3_marksThatAre_23 : decode cX3_marksThatAre 23 = .ok (.iconst 1, 1) := by decide +kernel
theorem dX3_marksThatAre_24 : decode cX3_marksThatAre 24 = .ok (.goto 4, 3) := by decide +kernel
theorem dX3_marksThatAre_27 : decode cX3_marksThatAre 27 = .ok (.iconst 0, 1) := by decide +kernel
theorem dX3_marksThatAre_28 : decode cX3_marksThatAre 28 = .ok (.invokestatic 53, 3) := by decide +kernel
theorem dX3_marksThatAre_31 : decode cX3_marksThatAre 31 = .ok (.iadd, 1) := by decide +kernel
theorem dX3_marksThatAre_32 : decode cX3_marksThatAre 32 = .ok (.istore_n 2, 1) := by decide +kernel
theorem dX3_marksThatAre_33 : decode cX3_marksThatAre 33 = .ok (.iinc 3 1, 3) := by decide +kernel
theorem dX3_marksThatAre_36 : decode cX3_marksThatAre 36 = .ok (.goto (-32), 3) := by decide +kernel
theorem dX3_marksThatAre_39 : decode cX3_marksThatAre 39 = .ok (.iload_n 2, 1) := by decide +kernel
theorem dX3_marksThatAre_40 : decode cX3_marksThatAre 40 = .ok (.ireturn, 1) := by decide +kernel
set_option maxRecDepth 20000 in
theorem ggX3_findInks_J7_fill_53178 : GoodIn wsX3_findInks wsJ7_fill_53178 := goodIn_r _ [12] rfl (by decide +kernel)
set_option maxRecDepth 20000 in
theorem gX3_findInks_J7_fill_53178 : GoodIn wsX3_findInks (va_wsS RX3 57 yJ7_fill_53178 wsJ7_fill_53178) := goodIn_app (goodIn_of _ (by decide +kernel)) ggX3_findInks_J7_fill_53178
set_option maxRecDepth 20000 in
theorem ggX3_findInks_X11_hasBit : GoodIn wsX3_findInks wsX11_hasBit := goodIn_r _ [15] rfl (by decide +kernel)
set_option maxRecDepth 20000 in
theorem gX3_findInks_X11_hasBit_n63 : GoodIn wsX3_findInks (wsX11_hasBit) := ggX3_findInks_X11_hasBit
theorem dX3_findInks_0 : decode cX3_findInks 0 = .ok (.aload_n 0, 1) := by decide +kernel
theorem dX3_findInks_1 : decode cX3_findInks 1 = .ok (.getfield 27, 3) := by decide +kernel
theorem dX3_findInks_4 : decode cX3_findInks 4 = .ok (.iconst 0, 1) := by decide +kernel
theorem dX3_findInks_5 : decode cX3_findInks 5 = .ok (.invokestatic 57, 3) := by decide +kernel
theorem dX3_findInks_8 : decode cX3_findInks 8 = .ok (.aload_n 0, 1) := by decide +kernel
theorem dX3_findInks_9 : decode cX3_findInks 9 = .ok (.getfield 30, 3) := by decide +kernel
theorem dX3_findInks_12 : decode cX3_findInks 12 = .ok (.iconst 0, 1) := by decide +kernel
theorem dX3_findInks_13 : decode cX3_findInks 13 = .ok (.invokestatic 57, 3) := by decide +kernel
theorem dX3_findInks_16 : decode cX3_findInks 16 = .ok (.aload_n 0, 1) := by decide +kernel
theorem dX3_findInks_17 : decode cX3_findInks 17 = .ok (.getfield 33, 3) := by decide +kernel
theorem dX3_findInks_20 : decode cX3_findInks 20 = .ok (.iconst 0, 1) := by decide +kernel
theorem dX3_findInks_21 : decode cX3_findInks 21 = .ok (.invokestatic 57, 3) := by decide +kernel
theorem dX3_findInks_24 : decode cX3_findInks 24 = .ok (.iconst 0, 1) := by decide +kernel
theorem dX3_findInks_25 : decode cX3_findInks 25 = .ok (.istore_n 3, 1) := by decide +kernel
theorem dX3_findInks_26 : decode cX3_findInks 26 = .ok (.iload_n 3, 1) := by decide +kernel
theorem dX3_findInks_27 : decode cX3_findInks 27 = .ok (.aload_n 0, 1) := by decide +kernel
theorem dX3_findInks_28 : decode cX3_findInks 28 = .ok (.getfield 44, 3) := by decide +kernel
theorem dX3_findInks_31 : decode cX3_findInks 31 = .ok (.if_icmp .ge 71, 3) := by decide +kernel
theorem dX3_findInks_34 : decode cX3_findInks 34 = .ok (.aload_n 1, 1) := by decide +kernel
theorem dX3_findInks_35 : decode cX3_findInks 35 = .ok (.aload_n 0, 1) := by decide +kernel
theorem dX3_findInks_36 : decode cX3_findInks 36 = .ok (.getfield 21, 3) := by decide +kernel
theorem dX3_findInks_39 : decode cX3_findInks 39 = .ok (.iload_n 3, 1) := by decide +kernel
theorem dX3_findInks_40 : decode cX3_findInks 40 = .ok (.iaload, 1) := by decide +kernel
theorem dX3_findInks_41 : decode cX3_findInks 41 = .ok (.iaload, 1) := by decide +kernel
theorem dX3_findInks_42 : decode cX3_findInks 42 = .ok (.istore 4, 2) := by decide +kernel
theorem dX3_findInks_44 : decode cX3_findInks 44 = .ok (.iconst 1, 1) := by decide +kernel
theorem dX3_findInks_45 : decode cX3_findInks 45 = .ok (.aload_n 0, 1) := by decide +kernel
theorem dX3_findInks_46 : decode cX3_findInks 46 = .ok (.getfield 15, 3) := by decide +kernel
theorem dX3_findInks_49 : decode cX3_findInks 49 = .ok (.aload_n 0, 1) := by decide +kernel
theorem dX3_findInks_50 : decode cX3_findInks 50 = .ok (.getfield 18, 3) := by decide +kernel
theorem dX3_findInks_53 : decode cX3_findInks 53 = .ok (.iload_n 3, 1) := by decide +kernel
theorem dX3_findInks_54 : decode cX3_findInks 54 = .ok (.iaload, 1) := by decide +kernel
theorem dX3_findInks_55 : decode cX3_findInks 55 = .ok (.iaload, 1) := by decide +kernel
theorem dX3_findInks_56 : decode cX3_findInks 56 = .ok (.ishl, 1) := by decide +kernel
theorem dX3_findInks_57 : decode cX3_findInks 57 = .ok (.istore 5, 2) := by decide +kernel
theorem dX3_findInks_59 : decode cX3_findInks 59 = .ok (.aload_n 0, 1) := by decide +kernel
theorem dX3_findInks_60 : decode cX3_findInks 60 = .ok (.getfield 24, 3) := by decide +kernel
theorem dX3_findInks_63 : decode cX3_findInks 63 = .ok (.iload_n 3, 1) := by decide +kernel
theorem dX3_findInks_64 : decode cX3_findInks 64 = .ok (.iaload, 1) := by decide +kernel
theorem dX3_findInks_65 : decode cX3_findInks 65 = .ok (.iconst 1, 1) := by decide +kernel
theorem dX3_findInks_66 : decode cX3_findInks 66 = .ok (.if_icmp .ne 18, 3) := by decide +kernel
theorem dX3_findInks_69 : decode cX3_findInks 69 = .ok (.aload_n 0, 1) := by decide +kernel
theorem dX3_findInks_70 : decode cX3_findInks 70 = .ok (.getfield 27, 3) := by decide +kernel
theorem dX3_findInks_73 : decode cX3_findInks 73 = .ok (.iload 4, 2) := by decide +kernel
theorem dX3_findInks_75 : decode cX3_findInks 75 = .ok (.dup2, 1) := by decide +kernel
theorem dX3_findInks_76 : decode cX3_findInks 76 = .ok (.iaload, 1) := by decide +kernel
theorem dX3_findInks_77 : decode cX3_findInks 77 = .ok (.iload 5, 2) := by decide +kernel
theorem dX3_findInks_79 : decode cX3_findInks 79 = .ok (.ior, 1) := by decide +kernel
theorem dX3_findInks_80 : decode cX3_findInks 80 = .ok (.iastore, 1) := by decide +kernel
theorem dX3_findInks_81 : decode cX3_findInks 81 = .ok (.goto 15, 3) := by decide +kernel
theorem dX3_findInks_84 : decode cX3_findInks 84 = .ok (.aload_n 0, 1) := by decide +kernel
theorem dX3_findInks_85 : decode cX3_findInks 85 = .ok (.getfield 30, 3) := by decide +kernel
theorem dX3_findInks_88 : decode cX3_findInks 88 = .ok (.iload 4, 2) := by decide +kernel
theorem dX3_findInks_90 : decode cX3_findInks 90 = .ok (.dup2, 1) := by decide +kernel
theorem dX3_findInks_91 : decode cX3_findInks 91 = .ok (.iaload, 1) := by decide +kernel
theorem dX3_findInks_92 : decode cX3_findInks 92 = .ok (.iload 5, 2) := by decide +kernel
theorem dX3_findInks_94 : decode cX3_findInks 94 = .ok (.ior, 1) := by decide +kernel
theorem dX3_findInks_95 : decode cX3_findInks 95 = .ok (.iastore, 1) := by decide +kernel
theorem dX3_findInks_96 : decode cX3_findInks 96 = .ok (.iinc 3 1, 3) := by decide +kernel
theorem dX3_findInks_99 : decode cX3_findInks 99 = .ok (.goto (-73), 3) := by decide +kernel
theorem dX3_findInks_102 : decode cX3_findInks 102 = .ok (.iconst 0, 1) := by decide +kernel
theorem dX3_findInks_103 : decode cX3_findInks 103 = .ok (.istore_n 3, 1) := by decide +kernel
theorem dX3_findInks_104 : decode cX3_findInks 104 = .ok (.iload_n 3, 1) := by decide +kernel
theorem dX3_findInks_105 : decode cX3_findInks 105 = .ok (.iload_n 2, 1) := by decide +kernel
theorem dX3_findInks_106 : decode cX3_findInks 106 = .ok (.if_icmp .ge 62, 3) := by decide +kernel
theorem dX3_findInks_109 : decode cX3_findInks 109 = .ok (.iconst 0, 1) := by decide +kernel
theorem dX3_findInks_110 : decode cX3_findInks 110 = .ok (.istore 4, 2) := by decide +kernel
theorem dX3_findInks_112 : decode cX3_findInks 112 = .ok (.iload 4, 2) := by decide +kernel
theorem dX3_findInks_114 : decode cX3_findInks 114 = .ok (.bipush 6, 2) := by decide +kernel
theorem dX3_findInks_116 : decode cX3_findInks 116 = .ok (.if_icmp .ge 46, 3) := by decide +kernel
theorem dX3_findInks_119 : decode cX3_findInks 119 = .ok (.aload_n 0, 1) := by decide +kernel
theorem dX3_findInks_120 : decode cX3_findInks 120 = .ok (.getfield 30, 3) := by decide +kernel
theorem dX3_findInks_123 : decode cX3_findInks 123 = .ok (.iload_n 3, 1) := by decide +kernel
theorem dX3_findInks_124 : decode cX3_findInks 124 = .ok (.iaload, 1) := by decide +kernel
theorem dX3_findInks_125 : decode cX3_findInks 125 = .ok (.iload 4, 2) := by decide +kernel
theorem dX3_findInks_127 : decode cX3_findInks 127 = .ok (.invokestatic 63, 3) := by decide +kernel
theorem dX3_findInks_130 : decode cX3_findInks 130 = .ok (.ifCond .eq 26, 3) := by decide +kernel
theorem dX3_findInks_133 : decode cX3_findInks 133 = .ok (.aload_n 0, 1) := by decide +kernel
theorem dX3_findInks_134 : decode cX3_findInks 134 = .ok (.getfield 33, 3) := by decide +kernel
theorem dX3_findInks_137 : decode cX3_findInks 137 = .ok (.iload 4, 2) := by decide +kernel
theorem dX3_findInks_139 : decode cX3_findInks 139 = .ok (.dup2, 1) := by decide +kernel
theorem dX3_findInks_140 : decode cX3_findInks 140 = .ok (.iaload, 1) := by decide +kernel
theorem dX3_findInks_141 : decode cX3_findInks 141 = .ok (.aload_n 0, 1) := by decide +kernel
theorem dX3_findInks_142 : decode cX3_findInks 142 = .ok (.getfield 27, 3) := by decide +kernel
theorem dX3_findInks_145 : decode cX3_findInks 145 = .ok (.iload_n 3, 1) := by decide +kernel
theorem dX3_findInks_146 : decode cX3_findInks 146 = .ok (.iaload, 1) := by decide +kernel
theorem dX3_findInks_147 : decode cX3_findInks 147 = .ok (.iconst 1, 1) := by decide +kernel
theorem dX3_findInks_148 : decode cX3_findInks 148 = .ok (.iload 4, 2) := by decide +kernel
theorem dX3_findInks_150 : decode cX3_findInks 150 = .ok (.ishl, 1) := by decide +kernel
theorem dX3_findInks_151 : decode cX3_findInks 151 = .ok (.iconst (-1), 1) := by decide +kernel
theorem dX3_findInks_152 : decode cX3_findInks 152 = .ok (.ixor, 1) := by decide +kernel
theorem dX3_findInks_153 : decode cX3_findInks 153 = .ok (.iand, 1) := by decide +kernel
theorem dX3_findInks_154 : decode cX3_findInks 154 = .ok (.ior, 1) := by decide +kernel
theorem dX3_findInks_155 : decode cX3_findInks 155 = .ok (.iastore, 1) := by decide +kernel
theorem dX3_findInks_156 : decode cX3_findInks 156 = .ok (.iinc 4 1, 3) := by decide +kernel
theorem dX3_findInks_159 : decode cX3_findInks 159 = .ok (.goto (-47), 3) := by decide +kernel
theorem dX3_findInks_162 : decode cX3_findInks 162 = .ok (.iinc 3 1, 3) := by decide +kernel
theorem dX3_findInks_165 : decode cX3_findInks 165 = .ok (.goto (-61), 3) := by decide +kernel
theorem dX3_findInks_168 : decode cX3_findInks 168 = .ok (.return_, 1) := by decide +kernel
set_option maxRecDepth 20000 in
theorem ggX3_cameAhead_X11_hasBit : GoodIn wsX3_cameAhead wsX11_hasBit := goodIn_r _ [4] rfl (by decide +kernel)
set_option maxRecDepth 20000 in
theorem gX3_cameAhead_X11_hasBit_n63 : GoodIn wsX3_cameAhead (wsX11_hasBit) := ggX3_cameAhead_X11_hasBit
theorem dX3_cameAhead_0 : decode cX3_cameAhead 0 = .ok (.aload_n 0, 1) := by decide +kernel
theorem dX3_cameAhead_1 : decode cX3_cameAhead 1 = .ok (.getfield 33, 3) := by decide +kernel
theorem dX3_cameAhead_4 : decode cX3_cameAhead 4 = .ok (.iload_n 2, 1) := by decide +kernel
theorem dX3_cameAhead_5 : decode cX3_cameAhead 5 = .ok (.iaload, 1) := by decide +kernel
theorem dX3_cameAhead_6 : decode cX3_cameAhead 6 = .ok (.iload_n 1, 1) := by decide +kernel
theorem dX3_cameAhead_7 : decode cX3_cameAhead 7 = .ok (.invokestatic 63, 3) := by decide +kernel
theorem dX3_cameAhead_10 : decode cX3_cameAhead 10 = .ok (.ireturn, 1) := by decide +kernel
set_option maxRecDepth 20000 in
theorem ggX3_firstInk_X3_someLineHas : GoodIn wsX3_firstInk wsX3_someLineHas := goodIn_r _ [6, 7, 8, 9, 10, 11, 12, 13, 14, 15, 16, 17, 18] rfl (by decide +kernel)
set_option maxRecDepth 20000 in
theorem gX3_firstInk_X3_someLineHas : GoodIn wsX3_firstInk (wsV RX3 67 RX3 yX3_someLineHas wsX3_someLineHas) := goodIn_app (goodIn_of _ (by decide +kernel)) ggX3_firstInk_X3_someLineHas
theorem dX3_firstInk_0 : decode cX3_firstInk 0 = .ok (.iconst 0, 1) := by decide +kernel
theorem dX3_firstInk_1 : decode cX3_firstInk 1 = .ok (.istore_n 1, 1) := by decide +kernel
theorem dX3_firstInk_2 : decode cX3_firstInk 2 = .ok (.iload_n 1, 1) := by decide +kernel
theorem dX3_firstInk_3 : decode cX3_firstInk 3 = .ok (.bipush 6, 2) := by decide +kernel
theorem dX3_firstInk_5 : decode cX3_firstInk 5 = .ok (.if_icmp .ge 28, 3) := by decide +kernel
theorem dX3_firstInk_8 : decode cX3_firstInk 8 = .ok (.aload_n 0, 1) := by decide +kernel
theorem dX3_firstInk_9 : decode cX3_firstInk 9 = .ok (.getfield 33, 3) := by decide +kernel
theorem dX3_firstInk_12 : decode cX3_firstInk 12 = .ok (.iload_n 1, 1) := by decide +kernel
theorem dX3_firstInk_13 : decode cX3_firstInk 13 = .ok (.iaload, 1) := by decide +kernel
theorem dX3_firstInk_14 : decode cX3_firstInk 14 = .ok (.ifCond .ne 13, 3) := by decide +kernel
theorem dX3_firstInk_17 : decode cX3_firstInk 17 = .ok (.aload_n 0, 1) := by decide +kernel
theorem dX3_firstInk_18 : decode cX3_firstInk 18 = .ok (.iload_n 1, 1) := by decide +kernel
theorem dX3_firstInk_19 : decode cX3_firstInk 19 = .ok (.invokevirtual 67, 3) := by decide +kernel
theorem dX3_firstInk_22 : decode cX3_firstInk 22 = .ok (.ifCond .eq 5, 3) := by decide +kernel
theorem dX3_firstInk_25 : decode cX3_firstInk 25 = .ok (.iload_n 1, 1) := by decide +kernel
theorem dX3_firstInk_26 : decode cX3_firstInk 26 = .ok (.ireturn, 1) := by decide +kernel
theorem dX3_firstInk_27 : decode cX3_firstInk 27 = .ok (.iinc 1 1, 3) := by decide +kernel
theorem dX3_firstInk_30 : decode cX3_firstInk 30 = .ok (.goto (-28), 3) := by decide +kernel
theorem dX3_firstInk_33 : decode cX3_firstInk 33 = .ok (.bipush (-2), 2) := by decide +kernel
theorem dX3_firstInk_35 : decode cX3_firstInk 35 = .ok (.ireturn, 1) := by decide +kernel
theorem dX3_someLineHas_0 : decode cX3_someLineHas 0 = .ok (.iconst 0, 1) := by decide +kernel
theorem dX3_someLineHas_1 : decode cX3_someLineHas 1 = .ok (.istore_n 2, 1) := by decide +kernel
theorem dX3_someLineHas_2 : decode cX3_someLineHas 2 = .ok (.iload_n 2, 1) := by decide +kernel
theorem dX3_someLineHas_3 : decode cX3_someLineHas 3 = .ok (.aload_n 0, 1) := by decide +kernel
theorem dX3_someLineHas_4 : decode cX3_someLineHas 4 = .ok (.getfield 36, 3) := by decide +kernel
theorem dX3_someLineHas_7 : decode cX3_someLineHas 7 = .ok (.if_icmp .ge 21, 3) := by decide +kernel
theorem dX3_someLineHas_10 : decode cX3_someLineHas 10 = .ok (.aload_n 0, 1) := by decide +kernel
theorem dX3_someLineHas_11 : decode cX3_someLineHas 11 = .ok (.getfield 15, 3) := by decide +kernel
theorem dX3_someLineHas_14 : decode cX3_someLineHas 14 = .ok (.iload_n 2, 1) := by decide +kernel
theorem dX3_someLineHas_15 : decode cX3_someLineHas 15 = .ok (.iaload, 1) := by decide +kernel
theorem dX3_someLineHas_16 : decode cX3_someLineHas 16 = .ok (.iload_n 1, 1) := by decide +kernel
theorem dX3_someLineHas_17 : decode cX3_someLineHas 17 = .ok (.if_icmp .ne 5, 3) := by decide +kernel
theorem dX3_someLineHas_20 : decode cX3_someLineHas 20 = .ok (.iconst 1, 1) := by decide +kernel
theorem dX3_someLineHas_21 : decode cX3_someLineHas 21 = .ok (.ireturn, 1) := by decide +kernel
theorem dX3_someLineHas_22 : decode cX3_someLineHas 22 = .ok (.iinc 2 1, 3) := by decide +kernel
theorem dX3_someLineHas_25 : decode cX3_someLineHas 25 = .ok (.goto (-23), 3) := by decide +kernel
theorem dX3_someLineHas_28 : decode cX3_someLineHas 28 = .ok (.iconst 0, 1) := by decide +kernel
theorem dX3_someLineHas_29 : decode cX3_someLineHas 29 = .ok (.ireturn, 1) := by decide +kernel
set_option maxRecDepth 20000 in
theorem ggX3_leastRing_X3_cameAhead : GoodIn wsX3_leastRing wsX3_cameAhead := goodIn_r _ [5, 6, 7, 8, 9, 10, 11, 12, 13, 14, 15, 16, 17, 18, 19] rfl (by decide +kernel)
set_option maxRecDepth 20000 in
theorem gX3_leastRing_X3_cameAhead : GoodIn wsX3_leastRing (wsV RX3 71 RX3 yX3_cameAhead wsX3_cameAhead) := goodIn_app (goodIn_of _ (by decide +kernel)) ggX3_leastRing_X3_cameAhead
theorem dX3_leastRing_0 : decode cX3_leastRing 0 = .ok (.iconst 0, 1) := by decide +kernel
theorem dX3_leastRing_1 : decode cX3_leastRing 1 = .ok (.istore_n 1, 1) := by decide +kernel
theorem dX3_leastRing_2 : decode cX3_leastRing 2 = .ok (.iload_n 1, 1) := by decide +kernel
theorem dX3_leastRing_3 : decode cX3_leastRing 3 = .ok (.bipush 6, 2) := by decide +kernel
theorem dX3_leastRing_5 : decode cX3_leastRing 5 = .ok (.if_icmp .ge 50, 3) := by decide +kernel
theorem dX3_leastRing_8 : decode cX3_leastRing 8 = .ok (.iload_n 1, 1) := by decide +kernel
theorem dX3_leastRing_9 : decode cX3_leastRing 9 = .ok (.iconst 1, 1) := by decide +kernel
theorem dX3_leastRing_10 : decode cX3_leastRing 10 = .ok (.iadd, 1) := by decide +kernel
theorem dX3_leastRing_11 : decode cX3_leastRing 11 = .ok (.istore_n 2, 1) := by decide +kernel
theorem dX3_leastRing_12 : decode cX3_leastRing 12 = .ok (.iload_n 2, 1) := by decide +kernel
theorem dX3_leastRing_13 : decode cX3_leastRing 13 = .ok (.bipush 6, 2) := by decide +kernel
theorem dX3_leastRing_15 : decode cX3_leastRing 15 = .ok (.if_icmp .ge 34, 3) := by decide +kernel
theorem dX3_leastRing_18 : decode cX3_leastRing 18 = .ok (.aload_n 0, 1) := by decide +kernel
theorem dX3_leastRing_19 : decode cX3_leastRing 19 = .ok (.iload_n 1, 1) := by decide +kernel
theorem dX3_leastRing_20 : decode cX3_leastRing 20 = .ok (.iload_n 2, 1) := by decide +kernel
theorem dX3_leastRing_21 : decode cX3_leastRing 21 = .ok (.invokevirtual 71, 3) := by decide +kernel
theorem dX3_leastRing_24 : decode cX3_leastRing 24 = .ok (.ifCond .eq 19, 3) := by decide +kernel
theorem dX3_leastRing_27 : decode cX3_leastRing 27 = .ok (.aload_n 0, 1) := by decide +kernel
theorem dX3_leastRing_28 : decode cX3_leastRing 28 = .ok (.iload_n 2, 1) := by decide +kernel
theorem dX3_leastRing_29 : decode cX3_leastRing 29 = .ok (.iload_n 1, 1) := by decide +kernel
theorem dX3_leastRing_30 : decode cX3_leastRing 30 = .ok (.invokevirtual 71, 3) := by decide +kernel
theorem dX3_leastRing_33 : decode cX3_leastRing 33 = .ok (.ifCond .eq 10, 3) := by decide +kernel
theorem dX3_leastRing_36 : decode cX3_leastRing 36 = .ok (.bipush 10, 2) := by decide +kernel
theorem dX3_leastRing_38 : decode cX3_leastRing 38 = .ok (.iload_n 1, 1) := by decide +kernel
theorem dX3_leastRing_39 : decode cX3_leastRing 39 = .ok (.imul, 1) := by decide +kernel
theorem dX3_leastRing_40 : decode cX3_leastRing 40 = .ok (.iload_n 2, 1) := by decide +kernel
theorem dX3_leastRing_41 : decode cX3_leastRing 41 = .ok (.iadd, 1) := by decide +kernel
theorem dX3_leastRing_42 : decode cX3_leastRing 42 = .ok (.ireturn, 1) := by decide +kernel
theorem dX3_leastRing_43 : decode cX3_leastRing 43 = .ok (.iinc 2 1, 3) := by decide +kernel
theorem dX3_leastRing_46 : decode cX3_leastRing 46 = .ok (.goto (-34), 3) := by decide +kernel
theorem dX3_leastRing_49 : decode cX3_leastRing 49 = .ok (.iinc 1 1, 3) := by decide +kernel
theorem dX3_leastRing_52 : decode cX3_leastRing 52 = .ok (.goto (-50), 3) := by decide +kernel
theorem dX3_leastRing_55 : decode cX3_leastRing 55 = .ok (.bipush (-2), 2) := by decide +kernel
theorem dX3_leastRing_57 : decode cX3_leastRing 57 = .ok (.ireturn, 1) := by decide +kernel
set_option maxRecDepth 20000 in
theorem ggX3_firstFighting_X3_foughtWorm : GoodIn wsX3_firstFighting wsX3_foughtWorm := goodIn_r _ [6, 7, 8, 9, 10, 11, 12, 13, 14, 15, 16, 17, 18, 19, 20, 21, 22, 23, 24, 25] rfl (by decide +kernel)
set_option maxRecDepth 20000 in
theorem gX3_firstFighting_X3_foughtWorm : GoodIn wsX3_firstFighting (wsV RX3 74 RX3 yX3_foughtWorm wsX3_foughtWorm) := goodIn_app (goodIn_of _ (by decide +kernel)) ggX3_firstFighting_X3_foughtWorm
theorem dX3_firstFighting_0 : decode cX3_firstFighting 0 = .ok (.iconst 0, 1) := by decide +kernel
theorem dX3_firstFighting_1 : decode cX3_firstFighting 1 = .ok (.istore_n 2, 1) := by decide +kernel
theorem dX3_firstFighting_2 : decode cX3_firstFighting 2 = .ok (.iload_n 2, 1) := by decide +kernel
theorem dX3_firstFighting_3 : decode cX3_firstFighting 3 = .ok (.aload_n 0, 1) := by decide +kernel
theorem dX3_firstFighting_4 : decode cX3_firstFighting 4 = .ok (.getfield 36, 3) := by decide +kernel
theorem dX3_firstFighting_7 : decode cX3_firstFighting 7 = .ok (.if_icmp .ge 20, 3) := by decide +kernel
theorem dX3_firstFighting_10 : decode cX3_firstFighting 10 = .ok (.aload_n 0, 1) := by decide +kernel
theorem dX3_firstFighting_11 : decode cX3_firstFighting 11 = .ok (.iload_n 2, 1) := by decide +kernel
theorem dX3_firstFighting_12 : decode cX3_firstFighting 12 = .ok (.aload_n 1, 1) := by decide +kernel
theorem dX3_firstFighting_13 : decode cX3_firstFighting 13 = .ok (.invokevirtual 74, 3) := by decide +kernel
theorem dX3_firstFighting_16 : decode cX3_firstFighting 16 = .ok (.ifCond .lt 5, 3) := by decide +kernel
theorem dX3_firstFighting_19 : decode cX3_firstFighting 19 = .ok (.iload_n 2, 1) := by decide +kernel
theorem dX3_firstFighting_20 : decode cX3_firstFighting 20 = .ok (.ireturn, 1) := by decide +kernel
theorem dX3_firstFighting_21 : decode cX3_firstFighting 21 = .ok (.iinc 2 1, 3) := by decide +kernel
theorem dX3_firstFighting_24 : decode cX3_firstFighting 24 = .ok (.goto (-22), 3) := by decide +kernel
theorem dX3_firstFighting_27 : decode cX3_firstFighting 27 = .ok (.iconst (-1), 1) := by decide +kernel
theorem dX3_firstFighting_28 : decode cX3_firstFighting 28 = .ok (.ireturn, 1) := by decide +kernel
set_option maxRecDepth 20000 in
theorem ggX3_foughtWorm_X11_hasBit : GoodIn wsX3_foughtWorm wsX11_hasBit := goodIn_r _ [9] rfl (by decide +kernel)
set_option maxRecDepth 20000 in
theorem gX3_foughtWorm_X11_hasBit_n63 : GoodIn wsX3_foughtWorm (wsX11_hasBit) := ggX3_foughtWorm_X11_hasBit
theorem dX3_foughtWorm_0 : decode cX3_foughtWorm 0 = .ok (.iconst (-1), 1) := by decide +kernel
theorem dX3_foughtWorm_1 : decode cX3_foughtWorm 1 = .ok (.istore_n 3, 1) := by decide +kernel
theorem dX3_foughtWorm_2 : decode cX3_foughtWorm 2 = .ok (.iconst 0, 1) := by decide +kernel
theorem dX3_foughtWorm_3 : decode cX3_foughtWorm 3 = .ok (.istore 4, 2) := by decide +kernel
theorem dX3_foughtWorm_5 : decode cX3_foughtWorm 5 = .ok (.iload 4, 2) := by decide +kernel
theorem dX3_foughtWorm_7 : decode cX3_foughtWorm 7 = .ok (.aload_n 0, 1) := by decide +kernel
theorem dX3_foughtWorm_8 : decode cX3_foughtWorm 8 = .ok (.getfield 44, 3) := by decide +kernel
theorem dX3_foughtWorm_11 : decode cX3_foughtWorm 11 = .ok (.if_icmp .ge 74, 3) := by decide +kernel
theorem dX3_foughtWorm_14 : decode cX3_foughtWorm 14 = .ok (.aload_n 0, 1) := by decide +kernel
theorem dX3_foughtWorm_15 : decode cX3_foughtWorm 15 = .ok (.getfield 18, 3) := by decide +kernel
theorem dX3_foughtWorm_18 : decode cX3_foughtWorm 18 = .ok (.iload 4, 2) := by decide +kernel
theorem dX3_foughtWorm_20 : decode cX3_foughtWorm 20 = .ok (.iaload, 1) := by decide +kernel
theorem dX3_foughtWorm_21 : decode cX3_foughtWorm 21 = .ok (.iload_n 1, 1) := by decide +kernel
theorem dX3_foughtWorm_22 : decode cX3_foughtWorm 22 = .ok (.if_icmp .ne 57, 3) := by decide +kernel
theorem dX3_foughtWorm_25 : decode cX3_foughtWorm 25 = .ok (.aload_n 0, 1) := by decide +kernel
theorem dX3_foughtWorm_26 : decode cX3_foughtWorm 26 = .ok (.getfield 24, 3) := by decide +kernel
theorem dX3_foughtWorm_29 : decode cX3_foughtWorm 29 = .ok (.iload 4, 2) := by decide +kernel
theorem dX3_foughtWorm_31 : decode cX3_foughtWorm 31 = .ok (.iaload, 1) := by decide +kernel
theorem dX3_foughtWorm_32 : decode cX3_foughtWorm 32 = .ok (.iconst 1, 1) := by decide +kernel
theorem dX3_foughtWorm_33 : decode cX3_foughtWorm 33 = .ok (.if_icmp .ne 46, 3) := by decide +kernel
theorem dX3_foughtWorm_36 : decode cX3_foughtWorm 36 = .ok (.aload_n 2, 1) := by decide +kernel
theorem dX3_foughtWorm_37 : decode cX3_foughtWorm 37 = .ok (.aload_n 0, 1) := by decide +kernel
theorem dX3_foughtWorm_38 : decode cX3_foughtWorm 38 = .ok (.getfield 21, 3) := by decide +kernel
theorem dX3_foughtWorm_41 : decode cX3_foughtWorm 41 = .ok (.iload 4, 2) := by decide +kernel
theorem dX3_foughtWorm_43 : decode cX3_foughtWorm 43 = .ok (.iaload, 1) := by decide +kernel
theorem dX3_foughtWorm_44 : decode cX3_foughtWorm 44 = .ok (.iaload, 1) := by decide +kernel
theorem dX3_foughtWorm_45 : decode cX3_foughtWorm 45 = .ok (.istore 5, 2) := by decide +kernel
theorem dX3_foughtWorm_47 : decode cX3_foughtWorm 47 = .ok (.aload_n 0, 1) := by decide +kernel
theorem dX3_foughtWorm_48 : decode cX3_foughtWorm 48 = .ok (.getfield 30, 3) := by decide +kernel
theorem dX3_foughtWorm_51 : decode cX3_foughtWorm 51 = .ok (.iload 5, 2) := by decide +kernel
theorem dX3_foughtWorm_53 : decode cX3_foughtWorm 53 = .ok (.iaload, 1) := by decide +kernel
theorem dX3_foughtWorm_54 : decode cX3_foughtWorm 54 = .ok (.aload_n 0, 1) := by decide +kernel
theorem dX3_foughtWorm_55 : decode cX3_foughtWorm 55 = .ok (.getfield 15, 3) := by decide +kernel
theorem dX3_foughtWorm_58 : decode cX3_foughtWorm 58 = .ok (.iload_n 1, 1) := by decide +kernel
theorem dX3_foughtWorm_59 : decode cX3_foughtWorm 59 = .ok (.iaload, 1) := by decide +kernel
theorem dX3_foughtWorm_60 : decode cX3_foughtWorm 60 = .ok (.invokestatic 63, 3) := by decide +kernel
theorem dX3_foughtWorm_63 : decode cX3_foughtWorm 63 = .ok (.ifCond .eq 16, 3) := by decide +kernel
theorem dX3_foughtWorm_66 : decode cX3_foughtWorm 66 = .ok (.iload_n 3, 1) := by decide +kernel
theorem dX3_foughtWorm_67 : decode cX3_foughtWorm 67 = .ok (.ifCond .lt 9, 3) := by decide +kernel
theorem dX3_foughtWorm_70 : decode cX3_foughtWorm 70 = .ok (.iload 5, 2) := by decide +kernel
theorem dX3_foughtWorm_72 : decode cX3_foughtWorm 72 = .ok (.iload_n 3, 1) := by decide +kernel
theorem dX3_foughtWorm_73 : decode cX3_foughtWorm 73 = .ok (.if_icmp .ge 6, 3) := by decide +kernel
theorem dX3_foughtWorm_76 : decode cX3_foughtWorm 76 = .ok (.iload 5, 2) := by decide +kernel
theorem dX3_foughtWorm_78 : decode cX3_foughtWorm 78 = .ok (.istore_n 3, 1) := by decide +kernel
theorem dX3_foughtWorm_79 : decode cX3_foughtWorm 79 = .ok (.iinc 4 1, 3) := by decide +kernel
theorem dX3_foughtWorm_82 : decode cX3_foughtWorm 82 = .ok (.goto (-77), 3) := by decide +kernel
theorem dX3_foughtWorm_85 : decode cX3_foughtWorm 85 = .ok (.iload_n 3, 1) := by decide +kernel
theorem dX3_foughtWorm_86 : decode cX3_foughtWorm 86 = .ok (.ireturn, 1) := by decide +kernel
theorem dX4_init_0 : decode cX4_init 0 = .ok (.aload_n 0, 1) := by decide +kernel
theorem dX4_init_1 : decode cX4_init 1 = .ok (.invokespecial 3, 3) := by decide +kernel
theorem dX4_init_4 : decode cX4_init 4 = .ok (.aload_n 0, 1) := by decide +kernel
theorem dX4_init_5 : decode cX4_init 5 = .ok (.bipush 8, 2) := by decide +kernel
theorem dX4_init_7 : decode cX4_init 7 = .ok (.newarray .int, 2) := by decide +kernel
theorem dX4_init_9 : decode cX4_init 9 = .ok (.putfield 9, 3) := by decide +kernel
theorem dX4_init_12 : decode cX4_init 12 = .ok (.aload_n 0, 1) := by decide +kernel
theorem dX4_init_13 : decode cX4_init 13 = .ok (.bipush 8, 2) := by decide +kernel
theorem dX4_init_15 : decode cX4_init 15 = .ok (.newarray .int, 2) := by decide +kernel
theorem dX4_init_17 : decode cX4_init 17 = .ok (.putfield 15, 3) := by decide +kernel
theorem dX4_init_20 : decode cX4_init 20 = .ok (.return_, 1) := by decide +kernel
set_option maxRecDepth 20000 in
theorem ggX4_isMap_X11_within : GoodIn wsX4_isMap wsX11_within := goodIn_r _ [4] rfl (by decide +kernel)
set_option maxRecDepth 20000 in
theorem gX4_isMap_X11_within_n22 : GoodIn wsX4_isMap (wsX11_within) := ggX4_isMap_X11_within
theorem dX4_isMap_0 : decode cX4_isMap 0 = .ok (.iload_n 1, 1) := by decide +kernel
theorem dX4_isMap_1 : decode cX4_isMap 1 = .ok (.iconst 0, 1) := by decide +kernel
theorem dX4_isMap_2 : decode cX4_isMap 2 = .ok (.aload_n 0, 1) := by decide +kernel
theorem dX4_isMap_3 : decode cX4_isMap 3 = .ok (.getfield 18, 3) := by decide +kernel
theorem dX4_isMap_6 : decode cX4_isMap 6 = .ok (.iconst 1, 1) := by decide +kernel
theorem dX4_isMap_7 : decode cX4_isMap 7 = .ok (.isub, 1) := by decide +kernel
theorem dX4_isMap_8 : decode cX4_isMap 8 = .ok (.invokestatic 22, 3) := by decide +kernel
theorem dX4_isMap_11 : decode cX4_isMap 11 = .ok (.ireturn, 1) := by decide +kernel
theorem dX4_add_0 : decode cX4_add 0 = .ok (.aload_n 0, 1) := by decide +kernel
theorem dX4_add_1 : decode cX4_add 1 = .ok (.getfield 18, 3) := by decide +kernel
theorem dX4_add_4 : decode cX4_add 4 = .ok (.aload_n 0, 1) := by decide +kernel
theorem dX4_add_5 : decode cX4_add 5 = .ok (.getfield 9, 3) := by decide +kernel
theorem dX4_add_8 : decode cX4_add 8 = .ok (.arraylength, 1) := by decide +kernel
theorem dX4_add_9 : decode cX4_add 9 = .ok (.if_icmp .ne 6, 3) := by decide +kernel
theorem dX4_add_12 : decode cX4_add 12 = .ok (.bipush (-3), 2) := by decide +kernel
theorem dX4_add_14 : decode cX4_add 14 = .ok (.ireturn, 1) := by decide +kernel
theorem dX4_add_15 : decode cX4_add 15 = .ok (.aload_n 0, 1) := by decide +kernel
theorem dX4_add_16 : decode cX4_add 16 = .ok (.getfield 9, 3) := by decide +kernel
theorem dX4_add_19 : decode cX4_add 19 = .ok (.aload_n 0, 1) := by decide +kernel
theorem dX4_add_20 : decode cX4_add 20 = .ok (.getfield 18, 3) := by decide +kernel
theorem dX4_add_23 : decode cX4_add 23 = .ok (.iload_n 1, 1) := by decide +kernel
theorem dX4_add_24 : decode cX4_add 24 = .ok (.iastore, 1) := by decide +kernel
theorem dX4_add_25 : decode cX4_add 25 = .ok (.aload_n 0, 1) := by decide +kernel
theorem dX4_add_26 : decode cX4_add 26 = .ok (.getfield 15, 3) := by decide +kernel
theorem dX4_add_29 : decode cX4_add 29 = .ok (.aload_n 0, 1) := by decide +kernel
theorem dX4_add_30 : decode cX4_add 30 = .ok (.getfield 18, 3) := by decide +kernel
theorem dX4_add_33 : decode cX4_add 33 = .ok (.iload_n 2, 1) := by decide +kernel
theorem dX4_add_34 : decode cX4_add 34 = .ok (.iastore, 1) := by decide +kernel
theorem dX4_add_35 : decode cX4_add 35 = .ok (.aload_n 0, 1) := by decide +kernel
theorem dX4_add_36 : decode cX4_add 36 = .ok (.dup, 1) := by decide +kernel
theorem dX4_add_37 : decode cX4_add 37 = .ok (.getfield 18, 3) := by decide +kernel
theorem dX4_add_40 : decode cX4_add 40 = .ok (.dup_x1, 1) := by decide +kernel
theorem dX4_add_41 : decode cX4_add 41 = .ok (.iconst 1, 1) := by decide +kernel
theorem dX4_add_42 : decode cX4_add 42 = .ok (.iadd, 1) := by decide +kernel
theorem dX4_add_43 : decode cX4_add 43 = .ok (.putfield 18, 3) := by decide +kernel
theorem dX4_add_46 : decode cX4_add 46 = .ok (.ireturn, 1) := by decide +kernel
set_option maxRecDepth 20000 in
theorem ggX4_apart_J6_bitCount_0f7a4 : GoodIn wsX4_apart wsJ6_bitCount_0f7a4 := goodIn_r _ [5, 6, 7, 8] rfl (by decide +kernel)
set_option maxRecDepth 20000 in
theorem gX4_apart_J6_bitCount_0f7a4 : GoodIn wsX4_apart (va_wsS RX4 26 yJ6_bitCount_0f7a4 wsJ6_bitCount_0f7a4) := goodIn_app (goodIn_of _ (by decide +kernel)) ggX4_apart_J6_bitCount_0f7a4
theorem dX4_apart_0 : decode cX4_apart 0 = .ok (.aload_n 0, 1) := by decide +kernel
theorem dX4_apart_1 : decode cX4_apart 1 = .ok (.getfield 15, 3) := by decide +kernel
theorem dX4_apart_4 : decode cX4_apart 4 = .ok (.iload_n 1, 1) := by decide +kernel
theorem dX4_apart_5 : decode cX4_apart 5 = .ok (.iaload, 1) := by decide +kernel
theorem dX4_apart_6 : decode cX4_apart 6 = .ok (.aload_n 0, 1) := by decide +kernel
theorem dX4_apart_7 : decode cX4_apart 7 = .ok (.getfield 15, 3) := by decide +kernel
theorem dX4_apart_10 : decode cX4_apart 10 = .ok (.iload_n 2, 1) := by decide +kernel
theorem dX4_apart_11 : decode cX4_apart 11 = .ok (.iaload, 1) := by decide +kernel
theorem dX4_apart_12 : decode cX4_apart 12 = .ok (.ixor, 1) := by decide +kernel
theorem dX4_apart_13 : decode cX4_apart 13 = .ok (.invokestatic 26, 3) := by decide +kernel
theorem dX4_apart_16 : decode cX4_apart 16 = .ok (.ireturn, 1) := by decide +kernel
set_option maxRecDepth 20000 in
theorem ggX4_fatherOf_X4_isNearer : GoodIn wsX4_fatherOf wsX4_isNearer := goodIn_r _ [7, 2, 8, 9, 10, 6, 11, 12, 13, 14, 15, 16, 17, 18, 19, 20, 21, 22] rfl (by decide +kernel)
set_option maxRecDepth 20000 in
theorem gX4_fatherOf_X4_isNearer : GoodIn wsX4_fatherOf (wsV RX4 32 RX4 yX4_isNearer wsX4_isNearer) := goodIn_app (goodIn_of _ (by decide +kernel)) ggX4_fatherOf_X4_isNearer
theorem dX4_fatherOf_0 : decode cX4_fatherOf 0 = .ok (.iconst (-1), 1) := by decide +kernel
theorem dX4_fatherOf_1 : decode cX4_fatherOf 1 = .ok (.istore_n 2, 1) := by decide +kernel
theorem dX4_fatherOf_2 : decode cX4_fatherOf 2 = .ok (.iconst 0, 1) := by decide +kernel
theorem dX4_fatherOf_3 : decode cX4_fatherOf 3 = .ok (.istore_n 3, 1) := by decide +kernel
theorem dX4_fatherOf_4 : decode cX4_fatherOf 4 = .ok (.iload_n 3, 1) := by decide +kernel
theorem dX4_fatherOf_5 : decode cX4_fatherOf 5 = .ok (.aload_n 0, 1) := by decide +kernel
theorem dX4_fatherOf_6 : decode cX4_fatherOf 6 = .ok (.getfield 18, 3) := by decide +kernel
theorem dX4_fatherOf_9 : decode cX4_fatherOf 9 = .ok (.if_icmp .ge 40, 3) := by decide +kernel
theorem dX4_fatherOf_12 : decode cX4_fatherOf 12 = .ok (.aload_n 0, 1) := by decide +kernel
theorem dX4_fatherOf_13 : decode cX4_fatherOf 13 = .ok (.getfield 9, 3) := by decide +kernel
theorem dX4_fatherOf_16 : decode cX4_fatherOf 16 = .ok (.iload_n 3, 1) := by decide +kernel
theorem dX4_fatherOf_17 : decode cX4_fatherOf 17 = .ok (.iaload, 1) := by decide +kernel
theorem dX4_fatherOf_18 : decode cX4_fatherOf 18 = .ok (.aload_n 0, 1) := by decide +kernel
theorem dX4_fatherOf_19 : decode cX4_fatherOf 19 = .ok (.getfield 9, 3) := by decide +kernel
theorem dX4_fatherOf_22 : decode cX4_fatherOf 22 = .ok (.iload_n 1, 1) := by decide +kernel
theorem dX4_fatherOf_23 : decode cX4_fatherOf 23 = .ok (.iaload, 1) := by decide +kernel
theorem dX4_fatherOf_24 : decode cX4_fatherOf 24 = .ok (.if_icmp .ge 19, 3) := by decide +kernel
theorem dX4_fatherOf_27 : decode cX4_fatherOf 27 = .ok (.iload_n 2, 1) := by decide +kernel
theorem dX4_fatherOf_28 : decode cX4_fatherOf 28 = .ok (.ifCond .lt 13, 3) := by decide +kernel
theorem dX4_fatherOf_31 : decode cX4_fatherOf 31 = .ok (.aload_n 0, 1) := by decide +kernel
theorem dX4_fatherOf_32 : decode cX4_fatherOf 32 = .ok (.iload_n 1, 1) := by decide +kernel
theorem dX4_fatherOf_33 : decode cX4_fatherOf 33 = .ok (.iload_n 3, 1) := by decide +kernel
theorem dX4_fatherOf_34 : decode cX4_fatherOf 34 = .ok (.iload_n 2, 1) := by decide +kernel
theorem dX4_fatherOf_35 : decode cX4_fatherOf 35 = .ok (.invokevirtual 32, 3) := by decide +kernel
theorem dX4_fatherOf_38 : decode cX4_fatherOf 38 = .ok (.ifCond .eq 5, 3) := by decide +kernel
theorem dX4_fatherOf_41 : decode cX4_fatherOf 41 = .ok (.iload_n 3, 1) := by decide +kernel
theorem dX4_fatherOf_42 : decode cX4_fatherOf 42 = .ok (.istore_n 2, 1) := by decide +kernel
theorem dX4_fatherOf_43 : decode cX4_fatherOf 43 = .ok (.iinc 3 1, 3) := by decide +kernel
theorem dX4_fatherOf_46 : decode cX4_fatherOf 46 = .ok (.goto (-42), 3) := by decide +kernel
theorem dX4_fatherOf_49 : decode cX4_fatherOf 49 = .ok (.iload_n 2, 1) := by decide +kernel
theorem dX4_fatherOf_50 : decode cX4_fatherOf 50 = .ok (.ireturn, 1) := by decide +kernel
set_option maxRecDepth 20000 in
theorem ggX4_isNearer_X4_apart : GoodIn wsX4_isNearer wsX4_apart := goodIn_r _ [6, 7, 8, 9, 10, 11, 12, 13, 14, 15, 16, 17] rfl (by decide +kernel)
set_option maxRecDepth 20000 in
theorem gX4_isNearer_X4_apart : GoodIn wsX4_isNearer (wsV RX4 35 RX4 yX4_apart wsX4_apart) := goodIn_app (goodIn_of _ (by decide +kernel)) ggX4_isNearer_X4_apart
theorem dX4_isNearer_0 : decode cX4_isNearer 0 = .ok (.aload_n 0, 1) := by decide +kernel
theorem dX4_isNearer_1 : decode cX4_isNearer 1 = .ok (.iload_n 1, 1) := by decide +kernel
theorem dX4_isNearer_2 : decode cX4_isNearer 2 = .ok (.iload_n 2, 1) := by decide +kernel
theorem dX4_isNearer_3 : decode cX4_isNearer 3 = .ok (.invokevirtual 35, 3) := by decide +kernel
theorem dX4_isNearer_6 : decode cX4_isNearer 6 = .ok (.istore 4, 2) := by decide +kernel
theorem dX4_isNearer_8 : decode cX4_isNearer 8 = .ok (.aload_n 0, 1) := by decide +kernel
theorem dX4_isNearer_9 : decode cX4_isNearer 9 = .ok (.iload_n 1, 1) := by decide +kernel
theorem dX4_isNearer_10 : decode cX4_isNearer 10 = .ok (.iload_n 3, 1) := by decide +kernel
theorem dX4_isNearer_11 : decode cX4_isNearer 11 = .ok (.invokevirtual 35, 3) := by decide +kernel
theorem dX4_isNearer_14 : decode cX4_isNearer 14 = .ok (.istore 5, 2) := by decide +kernel
theorem dX4_isNearer_16 : decode cX4_isNearer 16 = .ok (.iload 4, 2) := by decide +kernel
theorem dX4_isNearer_18 : decode cX4_isNearer 18 = .ok (.iload 5, 2) := by decide +kernel
theorem dX4_isNearer_20 : decode cX4_isNearer 20 = .ok (.if_icmp .lt 25, 3) := by decide +kernel
theorem dX4_isNearer_23 : decode cX4_isNearer 23 = .ok (.iload 4, 2) := by decide +kernel
theorem dX4_isNearer_25 : decode cX4_isNearer 25 = .ok (.iload 5, 2) := by decide +kernel
theorem dX4_isNearer_27 : decode cX4_isNearer 27 = .ok (.if_icmp .ne 22, 3) := by decide +kernel
theorem dX4_isNearer_30 : decode cX4_isNearer 30 = .ok (.aload_n 0, 1) := by decide +kernel
theorem dX4_isNearer_31 : decode cX4_isNearer 31 = .ok (.getfield 9, 3) := by decide +kernel
theorem dX4_isNearer_34 : decode cX4_isNearer 34 = .ok (.iload_n 2, 1) := by decide +kernel
theorem dX4_isNearer_35 : decode cX4_isNearer 35 = .ok (.iaload, 1) := by decide +kernel
theorem dX4_isNearer_36 : decode cX4_isNearer 36 = .ok (.aload_n 0, 1) := by decide +kernel
theorem dX4_isNearer_37 : decode cX4_isNearer 37 = .ok (.getfield 9, 3) := by decide +kernel
theorem dX4_isNearer_40 : decode cX4_isNearer 40 = .ok (.iload_n 3, 1) := by decide +kernel
theorem dX4_isNearer_41 : decode cX4_isNearer 41 = .ok (.iaload, 1) := by decide +kernel
theorem dX4_isNearer_42 : decode cX4_isNearer 42 = .ok (.if_icmp .le 7, 3) := by decide +kernel
theorem dX4_isNearer_45 : decode cX4_isNearer 45 = .ok (.iconst 1, 1) := by decide +kernel
theorem dX4_isNearer_46 : decode cX4_isNearer 46 = .ok (.goto 4, 3) := by decide +kernel
theorem dX4_isNearer_49 : decode cX4_isNearer 49 = .ok (.iconst 0, 1) := by decide +kernel
theorem dX4_isNearer_50 : decode cX4_isNearer 50 = .ok (.ireturn, 1) := by decide +kernel
set_option maxRecDepth 20000 in
theorem ggX4_leadsTo_X4_fatherOf : GoodIn wsX4_leadsTo wsX4_fatherOf := goodIn_r _ [6, 1, 7, 8, 9, 10, 5, 11, 12, 13, 14, 15, 16, 17, 18, 19, 20, 21, 22, 23, 24, 25, 26] rfl (by decide +kernel)
set_option maxRecDepth 20000 in
theorem gX4_leadsTo_X4_fatherOf : GoodIn wsX4_leadsTo (wsV RX4 39 RX4 yX4_fatherOf wsX4_fatherOf) := goodIn_app (goodIn_of _ (by decide +kernel)) ggX4_leadsTo_X4_fatherOf
theorem dX4_leadsTo_0 : decode cX4_leadsTo 0 = .ok (.aload_n 0, 1) := by decide +kernel
theorem dX4_leadsTo_1 : decode cX4_leadsTo 1 = .ok (.iload_n 1, 1) := by decide +kernel
theorem dX4_leadsTo_2 : decode cX4_leadsTo 2 = .ok (.invokevirtual 39, 3) := by decide +kernel
theorem dX4_leadsTo_5 : decode cX4_leadsTo 5 = .ok (.istore_n 3, 1) := by decide +kernel
theorem dX4_leadsTo_6 : decode cX4_leadsTo 6 = .ok (.iconst 0, 1) := by decide +kernel
theorem dX4_leadsTo_7 : decode cX4_leadsTo 7 = .ok (.istore 4, 2) := by decide +kernel
theorem dX4_leadsTo_9 : decode cX4_leadsTo 9 = .ok (.iload 4, 2) := by decide +kernel
theorem dX4_leadsTo_11 : decode cX4_leadsTo 11 = .ok (.aload_n 0, 1) := by decide +kernel
theorem dX4_leadsTo_12 : decode cX4_leadsTo 12 = .ok (.getfield 18, 3) := by decide +kernel
theorem dX4_leadsTo_15 : decode cX4_leadsTo 15 = .ok (.if_icmp .ge 26, 3) := by decide +kernel
theorem dX4_leadsTo_18 : decode cX4_leadsTo 18 = .ok (.iload_n 3, 1) := by decide +kernel
theorem dX4_leadsTo_19 : decode cX4_leadsTo 19 = .ok (.ifCond .lt 22, 3) := by decide +kernel
theorem dX4_leadsTo_22 : decode cX4_leadsTo 22 = .ok (.iload_n 3, 1) := by decide +kernel
theorem dX4_leadsTo_23 : decode cX4_leadsTo 23 = .ok (.iload_n 2, 1) := by decide +kernel
theorem dX4_leadsTo_24 : decode cX4_leadsTo 24 = .ok (.if_icmp .ne 5, 3) := by decide +kernel
theorem dX4_leadsTo_27 : decode cX4_leadsTo 27 = .ok (.iconst 1, 1) := by decide +kernel
theorem dX4_leadsTo_28 : decode cX4_leadsTo 28 = .ok (.ireturn, 1) := by decide +kernel
theorem dX4_leadsTo_29 : decode cX4_leadsTo 29 = .ok (.aload_n 0, 1) := by decide +kernel
theorem dX4_leadsTo_30 : decode cX4_leadsTo 30 = .ok (.iload_n 3, 1) := by decide +kernel
theorem dX4_leadsTo_31 : decode cX4_leadsTo 31 = .ok (.invokevirtual 39, 3) := by decide +kernel
theorem dX4_leadsTo_34 : decode cX4_leadsTo 34 = .ok (.istore_n 3, 1) := by decide +kernel
theorem dX4_leadsTo_35 : decode cX4_leadsTo 35 = .ok (.iinc 4 1, 3) := by decide +kernel
theorem dX4_leadsTo_38 : decode cX4_leadsTo 38 = .ok (.goto (-29), 3) := by decide +kernel
theorem dX4_leadsTo_41 : decode cX4_leadsTo 41 = .ok (.iconst 0, 1) := by decide +kernel
theorem dX4_leadsTo_42 : decode cX4_leadsTo 42 = .ok (.ireturn, 1) := by decide +kernel
set_option maxRecDepth 20000 in
theorem ggX4_tree_X4_fatherOf : GoodIn wsX4_tree wsX4_fatherOf := goodIn_r _ [6, 1, 7, 8, 9, 10, 5, 11, 12, 13, 14, 15, 16, 17, 18, 19, 20, 21, 22, 23, 24, 25, 26] rfl (by decide +kernel)
set_option maxRecDepth 20000 in
theorem gX4_tree_X4_fatherOf : GoodIn wsX4_tree (wsV RX4 39 RX4 yX4_fatherOf wsX4_fatherOf) := goodIn_app (goodIn_of _ (by decide +kernel)) ggX4_tree_X4_fatherOf
set_option maxRecDepth 20000 in
theorem ggX4_tree_X4_apart : GoodIn wsX4_tree wsX4_apart := goodIn_r _ [15, 16, 17, 18, 19, 20, 21, 22, 23, 24, 25, 26] rfl (by decide +kernel)
set_option maxRecDepth 20000 in
theorem gX4_tree_X4_apart : GoodIn wsX4_tree (wsV RX4 35 RX4 yX4_apart wsX4_apart) := goodIn_app (goodIn_of _ (by decide +kernel)) ggX4_tree_X4_apart
theorem dX4_tree_0 : decode cX4_tree 0 = .ok (.iconst 0, 1) := by decide +kernel
theorem dX4_tree_1 : decode cX4_tree 1 = .ok (.istore_n 1, 1) := by decide +kernel
theorem dX4_tree_2 : decode cX4_tree 2 = .ok (.iconst 0, 1) := by decide +kernel
theorem dX4_tree_3 : decode cX4_tree 3 = .ok (.istore_n 2, 1) := by decide +kernel
theorem dX4_tree_4 : decode cX4_tree 4 = .ok (.iload_n 2, 1) := by decide +kernel
theorem dX4_tree_5 : decode cX4_tree 5 = .ok (.aload_n 0, 1) := by decide +kernel
theorem dX4_tree_6 : decode cX4_tree 6 = .ok (.getfield 18, 3) := by decide +kernel
theorem dX4_tree_9 : decode cX4_tree 9 = .ok (.if_icmp .ge 32, 3) := by decide +kernel
theorem dX4_tree_12 : decode cX4_tree 12 = .ok (.aload_n 0, 1) := by decide +kernel
theorem dX4_tree_13 : decode cX4_tree 13 = .ok (.iload_n 2, 1) := by decide +kernel
theorem dX4_tree_14 : decode cX4_tree 14 = .ok (.invokevirtual 39, 3) := by decide +kernel
theorem dX4_tree_17 : decode cX4_tree 17 = .ok (.istore_n 3, 1) := by decide +kernel
theorem dX4_tree_18 : decode cX4_tree 18 = .ok (.iload_n 1, 1) := by decide +kernel
theorem dX4_tree_19 : decode cX4_tree 19 = .ok (.iload_n 3, 1) := by decide +kernel
theorem dX4_tree_20 : decode cX4_tree 20 = .ok (.ifCond .ge 7, 3) := by decide +kernel
theorem dX4_tree_23 : decode cX4_tree 23 = .ok (.iconst 0, 1) := by decide +kernel
theorem dX4_tree_24 : decode cX4_tree 24 = .ok (.goto 9, 3) := by decide +kernel
theorem dX4_tree_27 : decode cX4_tree 27 = .ok (.aload_n 0, 1) := by decide +kernel
theorem dX4_tree_28 : decode cX4_tree 28 = .ok (.iload_n 2, 1) := by decide +kernel
theorem dX4_tree_29 : decode cX4_tree 29 = .ok (.iload_n 3, 1) := by decide +kernel
theorem dX4_tree_30 : decode cX4_tree 30 = .ok (.invokevirtual 35, 3) := by decide +kernel
theorem dX4_tree_33 : decode cX4_tree 33 = .ok (.iadd, 1) := by decide +kernel
theorem dX4_tree_34 : decode cX4_tree 34 = .ok (.istore_n 1, 1) := by decide +kernel
theorem dX4_tree_35 : decode cX4_tree 35 = .ok (.iinc 2 1, 3) := by decide +kernel
theorem dX4_tree_38 : decode cX4_tree 38 = .ok (.goto (-34), 3) := by decide +kernel
theorem dX4_tree_41 : decode cX4_tree 41 = .ok (.iload_n 1, 1) := by decide +kernel
theorem dX4_tree_42 : decode cX4_tree 42 = .ok (.ireturn, 1) := by decide +kernel
theorem dX4_sharedSlips_0 : decode cX4_sharedSlips 0 = .ok (.aload_n 0, 1) := by decide +kernel
theorem dX4_sharedSlips_1 : decode cX4_sharedSlips 1 = .ok (.getfield 15, 3) := by decide +kernel
theorem dX4_sharedSlips_4 : decode cX4_sharedSlips 4 = .ok (.iload_n 1, 1) := by decide +kernel
theorem dX4_sharedSlips_5 : decode cX4_sharedSlips 5 = .ok (.iaload, 1) := by decide +kernel
theorem dX4_sharedSlips_6 : decode cX4_sharedSlips 6 = .ok (.aload_n 0, 1) := by decide +kernel
theorem dX4_sharedSlips_7 : decode cX4_sharedSlips 7 = .ok (.getfield 15, 3) := by decide +kernel
theorem dX4_sharedSlips_10 : decode cX4_sharedSlips 10 = .ok (.iload_n 2, 1) := by decide +kernel
theorem dX4_sharedSlips_11 : decode cX4_sharedSlips 11 = .ok (.iaload, 1) := by decide +kernel
theorem dX4_sharedSlips_12 : decode cX4_sharedSlips 12 = .ok (.iand, 1) := by decide +kernel
theorem dX4_sharedSlips_13 : decode cX4_sharedSlips 13 = .ok (.istore_n 3, 1) := by decide +kernel
theorem dX4_sharedSlips_14 : decode cX4_sharedSlips 14 = .ok (.iconst 0, 1) := by decide +kernel
theorem dX4_sharedSlips_15 : decode cX4_sharedSlips 15 = .ok (.istore 4, 2) := by decide +kernel
theorem dX4_sharedSlips_17 : decode cX4_sharedSlips 17 = .ok (.iload 4, 2) := by decide +kernel
theorem dX4_sharedSlips_19 : decode cX4_sharedSlips 19 = .ok (.aload_n 0, 1) := by decide +kernel
theorem dX4_sharedSlips_20 : decode cX4_sharedSlips 20 = .ok (.getfield 18, 3) := by decide +kernel
theorem dX4_sharedSlips_23 : decode cX4_sharedSlips 23 = .ok (.if_icmp .ge 33, 3) := by decide +kernel
theorem dX4_sharedSlips_26 : decode cX4_sharedSlips 26 = .ok (.iload 4, 2) := by decide +kernel
theorem dX4_sharedSlips_28 : decode cX4_sharedSlips 28 = .ok (.iload_n 1, 1) := by decide +kernel
theorem dX4_sharedSlips_29 : decode cX4_sharedSlips 29 = .ok (.if_icmp .eq 21, 3) := by decide +kernel
theorem dX4_sharedSlips_32 : decode cX4_sharedSlips 32 = .ok (.iload 4, 2) := by decide +kernel
theorem dX4_sharedSlips_34 : decode cX4_sharedSlips 34 = .ok (.iload_n 2, 1) := by decide +kernel
theorem dX4_sharedSlips_35 : decode cX4_sharedSlips 35 = .ok (.if_icmp .eq 15, 3) := by decide +kernel
theorem dX4_sharedSlips_38 : decode cX4_sharedSlips 38 = .ok (.iload_n 3, 1) := by decide +kernel
theorem dX4_sharedSlips_39 : decode cX4_sharedSlips 39 = .ok (.aload_n 0, 1) := by decide +kernel
theorem dX4_sharedSlips_40 : decode cX4_sharedSlips 40 = .ok (.getfield 15, 3) := by decide +kernel
theorem dX4_sharedSlips_43 : decode cX4_sharedSlips 43 = .ok (.iload 4, 2) := by decide +kernel
theorem dX4_sharedSlips_45 : decode cX4_sharedSlips 45 = .ok (.iaload, 1) := by decide +kernel
theorem dX4_sharedSlips_46 : decode cX4_sharedSlips 46 = .ok (.iconst (-1), 1) := by decide +kernel
theorem dX4_sharedSlips_47 : decode cX4_sharedSlips 47 = .ok (.ixor, 1) := by decide +kernel
theorem dX4_sharedSlips_48 : decode cX4_sharedSlips 48 = .ok (.iand, 1) := by decide +kernel
theorem dX4_sharedSlips_49 : decode cX4_sharedSlips 49 = .ok (.istore_n 3, 1) := by decide +kernel
theorem dX4_sharedSlips_50 : decode cX4_sharedSlips 50 = .ok (.iinc 4 1, 3) := by decide +kernel
theorem dX4_sharedSlips_53 : decode cX4_sharedSlips 53 = .ok (.goto (-36), 3) := by decide +kernel
theorem dX4_sharedSlips_56 : decode cX4_sharedSlips 56 = .ok (.iload_n 3, 1) := by decide +kernel
theorem dX4_sharedSlips_57 : decode cX4_sharedSlips 57 = .ok (.ireturn, 1) := by decide +kernel
theorem dX5_init_0 : decode cX5_init 0 = .ok (.aload_n 0, 1) := by decide +kernel
theorem dX5_init_1 : decode cX5_init 1 = .ok (.invokespecial 3, 3) := by decide +kernel
theorem dX5_init_4 : decode cX5_init 4 = .ok (.aload_n 0, 1) := by decide +kernel
theorem dX5_init_5 : decode cX5_init 5 = .ok (.sipush 256, 3) := by decide +kernel
theorem dX5_init_8 : decode cX5_init 8 = .ok (.newarray .int, 2) := by decide +kernel
theorem dX5_init_10 : decode cX5_init 10 = .ok (.putfield 9, 3) := by decide +kernel
theorem dX5_init_13 : decode cX5_init 13 = .ok (.aload_n 0, 1) := by decide +kernel
theorem dX5_init_14 : decode cX5_init 14 = .ok (.sipush 256, 3) := by decide +kernel
theorem dX5_init_17 : decode cX5_init 17 = .ok (.newarray .int, 2) := by decide +kernel
theorem dX5_init_19 : decode cX5_init 19 = .ok (.putfield 15, 3) := by decide +kernel
theorem dX5_init_22 : decode cX5_init 22 = .ok (.aload_n 0, 1) := by decide +kernel
theorem dX5_init_23 : decode cX5_init 23 = .ok (.sipush 256, 3) := by decide +kernel
theorem dX5_init_26 : decode cX5_init 26 = .ok (.newarray .int, 2) := by decide +kernel
theorem dX5_init_28 : decode cX5_init 28 = .ok (.putfield 18, 3) := by decide +kernel
theorem dX5_init_31 : decode cX5_init 31 = .ok (.return_, 1) := by decide +kernel
set_option maxRecDepth 20000 in
theorem ggX5_lay_X5_thoseThatMayFollow : GoodIn wsX5_lay wsX5_thoseThatMayFollow := goodIn_r _ [7, 1, 25, 26, 27, 28] rfl (by decide +kernel)
set_option maxRecDepth 20000 in
theorem gX5_lay_X5_thoseThatMayFollow : GoodIn wsX5_lay (wsV RX5 25 RX5 yX5_thoseThatMayFollow wsX5_thoseThatMayFollow) := goodIn_app (goodIn_of _ (by decide +kernel)) ggX5_lay_X5_thoseThatMayFollow
set_option maxRecDepth 20000 in
theorem ggX5_lay_X5_countWaysTo : GoodIn wsX5_lay wsX5_countWaysTo := goodIn_r _ [11, 12, 1, 2, 13, 14, 15, 16, 17, 18, 19, 25, 26, 27, 28] rfl (by decide +kernel)
set_option maxRecDepth 20000 in
theorem gX5_lay_X5_countWaysTo : GoodIn wsX5_lay (wsV RX5 29 RX5 yX5_countWaysTo wsX5_countWaysTo) := goodIn_app (goodIn_of _ (by decide +kernel)) ggX5_lay_X5_countWaysTo
set_option maxRecDepth 20000 in
theorem ggX5_lay_X5_countWaysOn : GoodIn wsX5_lay wsX5_countWaysOn := goodIn_r _ [23, 24, 1, 2, 13, 14, 15, 16, 17, 18, 19, 25, 26, 27, 28] rfl (by decide +kernel)
set_option maxRecDepth 20000 in
theorem gX5_lay_X5_countWaysOn : GoodIn wsX5_lay (wsV RX5 32 RX5 yX5_countWaysOn wsX5_countWaysOn) := goodIn_app (goodIn_of _ (by decide +kernel)) ggX5_lay_X5_countWaysOn
theorem dX5_lay_0 : decode cX5_lay 0 = .ok (.aload_n 0, 1) := by decide +kernel
theorem dX5_lay_1 : decode cX5_lay 1 = .ok (.iload_n 1, 1) := by decide +kernel
theorem dX5_lay_2 : decode cX5_lay 2 = .ok (.putfield 21, 3) := by decide +kernel
theorem dX5_lay_5 : decode cX5_lay 5 = .ok (.iconst 0, 1) := by decide +kernel
theorem dX5_lay_6 : decode cX5_lay 6 = .ok (.istore 4, 2) := by decide +kernel
theorem dX5_lay_8 : decode cX5_lay 8 = .ok (.iload 4, 2) := by decide +kernel
theorem dX5_lay_10 : decode cX5_lay 10 = .ok (.aload_n 0, 1) := by decide +kernel
theorem dX5_lay_11 : decode cX5_lay 11 = .ok (.getfield 21, 3) := by decide +kernel
theorem dX5_lay_14 : decode cX5_lay 14 = .ok (.if_icmp .gt 24, 3) := by decide +kernel
theorem dX5_lay_17 : decode cX5_lay 17 = .ok (.aload_n 0, 1) := by decide +kernel
theorem dX5_lay_18 : decode cX5_lay 18 = .ok (.getfield 9, 3) := by decide +kernel
theorem dX5_lay_21 : decode cX5_lay 21 = .ok (.iload 4, 2) := by decide +kernel
theorem dX5_lay_23 : decode cX5_lay 23 = .ok (.aload_n 0, 1) := by decide +kernel
theorem dX5_lay_24 : decode cX5_lay 24 = .ok (.iload 4, 2) := by decide +kernel
theorem dX5_lay_26 : decode cX5_lay 26 = .ok (.aload_n 2, 1) := by decide +kernel
theorem dX5_lay_27 : decode cX5_lay 27 = .ok (.iload_n 3, 1) := by decide +kernel
theorem dX5_lay_28 : decode cX5_lay 28 = .ok (.invokevirtual 25, 3) := by decide +kernel
theorem dX5_lay_31 : decode cX5_lay 31 = .ok (.iastore, 1) := by decide +kernel
theorem dX5_lay_32 : decode cX5_lay 32 = .ok (.iinc 4 1, 3) := by decide +kernel
theorem dX5_lay_35 : decode cX5_lay 35 = .ok (.goto (-27), 3) := by decide +kernel
theorem dX5_lay_38 : decode cX5_lay 38 = .ok (.aload_n 0, 1) := by decide +kernel
theorem dX5_lay_39 : decode cX5_lay 39 = .ok (.invokevirtual 29, 3) := by decide +kernel
theorem dX5_lay_42 : decode cX5_lay 42 = .ok (.aload_n 0, 1) := by decide +kernel
theorem dX5_lay_43 : decode cX5_lay 43 = .ok (.invokevirtual 32, 3) := by decide +kernel
theorem dX5_lay_46 : decode cX5_lay 46 = .ok (.return_, 1) := by decide +kernel
theorem dX5_thoseThatMayFollow_0 : decode cX5_thoseThatMayFollow 0 = .ok (.iload_n 1, 1) := by decide +kernel
theorem dX5_thoseThatMayFollow_1 : decode cX5_thoseThatMayFollow 1 = .ok (.aload_n 0, 1) := by decide +kernel
theorem dX5_thoseThatMayFollow_2 : decode cX5_thoseThatMayFollow 2 = .ok (.getfield 21, 3) := by decide +kernel
theorem dX5_thoseThatMayFollow_5 : decode cX5_thoseThatMayFollow 5 = .ok (.iconst (-1), 1) := by decide +kernel
theorem dX5_thoseThatMayFollow_6 : decode cX5_thoseThatMayFollow 6 = .ok (.ixor, 1) := by decide +kernel
theorem dX5_thoseThatMayFollow_7 : decode cX5_thoseThatMayFollow 7 = .ok (.iand, 1) := by decide +kernel
theorem dX5_thoseThatMayFollow_8 : decode cX5_thoseThatMayFollow 8 = .ok (.ifCond .eq 5, 3) := by decide +kernel
theorem dX5_thoseThatMayFollow_11 : decode cX5_thoseThatMayFollow 11 = .ok (.iconst 0, 1) := by decide +kernel
theorem dX5_thoseThatMayFollow_12 : decode cX5_thoseThatMayFollow 12 = .ok (.ireturn, 1) := by decide +kernel
theorem dX5_thoseThatMayFollow_13 : decode cX5_thoseThatMayFollow 13 = .ok (.aload_n 0, 1) := by decide +kernel
theorem dX5_thoseThatMayFollow_14 : decode cX5_thoseThatMayFollow 14 = .ok (.getfield 21, 3) := by decide +kernel
theorem dX5_thoseThatMayFollow_17 : decode cX5_thoseThatMayFollow 17 = .ok (.iload_n 1, 1) := by decide +kernel
theorem dX5_thoseThatMayFollow_18 : decode cX5_thoseThatMayFollow 18 = .ok (.iconst (-1), 1) := by decide +kernel
theorem dX5_thoseThatMayFollow_19 : decode cX5_thoseThatMayFollow 19 = .ok (.ixor, 1) := by decide +kernel
theorem dX5_thoseThatMayFollow_20 : decode cX5_thoseThatMayFollow 20 = .ok (.iand, 1) := by decide +kernel
theorem dX5_thoseThatMayFollow_21 : decode cX5_thoseThatMayFollow 21 = .ok (.istore 4, 2) := by decide +kernel
theorem dX5_thoseThatMayFollow_23 : decode cX5_thoseThatMayFollow 23 = .ok (.iconst 0, 1) := by decide +kernel
theorem dX5_thoseThatMayFollow_24 : decode cX5_thoseThatMayFollow 24 = .ok (.istore 5, 2) := by decide +kernel
theorem dX5_thoseThatMayFollow_26 : decode cX5_thoseThatMayFollow 26 = .ok (.iload 5, 2) := by decide +kernel
theorem dX5_thoseThatMayFollow_28 : decode cX5_thoseThatMayFollow 28 = .ok (.iload_n 3, 1) := by decide +kernel
theorem dX5_thoseThatMayFollow_29 : decode cX5_thoseThatMayFollow 29 = .ok (.if_icmp .ge 38, 3) := by decide +kernel
theorem dX5_thoseThatMayFollow_32 : decode cX5_thoseThatMayFollow 32 = .ok (.aload_n 2, 1) := by decide +kernel
theorem dX5_thoseThatMayFollow_33 : decode cX5_thoseThatMayFollow 33 = .ok (.iload 5, 2) := by decide +kernel
theorem dX5_thoseThatMayFollow_35 : decode cX5_thoseThatMayFollow 35 = .ok (.iaload, 1) := by decide +kernel
theorem dX5_thoseThatMayFollow_36 : decode cX5_thoseThatMayFollow 36 = .ok (.iload_n 1, 1) := by decide +kernel
theorem dX5_thoseThatMayFollow_37 : decode cX5_thoseThatMayFollow 37 = .ok (.iand, 1) := by decide +kernel
theorem dX5_thoseThatMayFollow_38 : decode cX5_thoseThatMayFollow 38 = .ok (.ifCond .eq 23, 3) := by decide +kernel
theorem dX5_thoseThatMayFollow_41 : decode cX5_thoseThatMayFollow 41 = .ok (.aload_n 2, 1) := by decide +kernel
theorem dX5_thoseThatMayFollow_42 : decode cX5_thoseThatMayFollow 42 = .ok (.iload 5, 2) := by decide +kernel
theorem dX5_thoseThatMayFollow_44 : decode cX5_thoseThatMayFollow 44 = .ok (.iaload, 1) := by decide +kernel
theorem dX5_thoseThatMayFollow_45 : decode cX5_thoseThatMayFollow 45 = .ok (.iload_n 1, 1) := by decide +kernel
theorem dX5_thoseThatMayFollow_46 : decode cX5_thoseThatMayFollow 46 = .ok (.iconst (-1), 1) := by decide +kernel
theorem dX5_thoseThatMayFollow_47 : decode cX5_thoseThatMayFollow 47 = .ok (.ixor, 1) := by decide +kernel
theorem dX5_thoseThatMayFollow_48 : decode cX5_thoseThatMayFollow 48 = .ok (.iand, 1) := by decide +kernel
theorem dX5_thoseThatMayFollow_49 : decode cX5_thoseThatMayFollow 49 = .ok (.ifCond .eq 12, 3) := by decide +kernel
theorem dX5_thoseThatMayFollow_52 : decode cX5_thoseThatMayFollow 52 = .ok (.iload 4, 2) := by decide +kernel
theorem dX5_thoseThatMayFollow_54 : decode cX5_thoseThatMayFollow 54 = .ok (.aload_n 2, 1) := by decide +kernel
theorem dX5_thoseThatMayFollow_55 : decode cX5_thoseThatMayFollow 55 = .ok (.iload 5, 2) := by decide +kernel
theorem dX5_thoseThatMayFollow_57 : decode cX5_thoseThatMayFollow 57 = .ok (.iaload, 1) := by decide +kernel
theorem dX5_thoseThatMayFollow_58 : decode cX5_thoseThatMayFollow 58 = .ok (.iand, 1) := by decide +kernel
theorem dX5_thoseThatMayFollow_59 : decode cX5_thoseThatMayFollow 59 = .ok (.istore 4, 2) := by decide +kernel
theorem dX5_thoseThatMayFollow_61 : decode cX5_thoseThatMayFollow 61 = .ok (.iinc 5 1, 3) := by decide +kernel
theorem dX5_thoseThatMayFollow_64 : decode cX5_thoseThatMayFollow 64 = .ok (.goto (-38), 3) := by decide +kernel
theorem dX5_thoseThatMayFollow_67 : decode cX5_thoseThatMayFollow 67 = .ok (.iload 4, 2) := by decide +kernel
theorem dX5_thoseThatMayFollow_69 : decode cX5_thoseThatMayFollow 69 = .ok (.ireturn, 1) := by decide +kernel
set_option maxRecDepth 20000 in
theorem ggX5_countWaysTo_J7_fill_53178 : GoodIn wsX5_countWaysTo wsJ7_fill_53178 := goodIn_r _ [7] rfl (by decide +kernel)
set_option maxRecDepth 20000 in
theorem gX5_countWaysTo_J7_fill_53178 : GoodIn wsX5_countWaysTo (va_wsS RX5 35 yJ7_fill_53178 wsJ7_fill_53178) := goodIn_app (goodIn_of _ (by decide +kernel)) ggX5_countWaysTo_J7_fill_53178
set_option maxRecDepth 20000 in
theorem ggX5_countWaysTo_X11_hasBit : GoodIn wsX5_countWaysTo wsX11_hasBit := goodIn_r _ [10] rfl (by decide +kernel)
set_option maxRecDepth 20000 in
theorem gX5_countWaysTo_X11_hasBit_n41 : GoodIn wsX5_countWaysTo (wsX11_hasBit) := ggX5_countWaysTo_X11_hasBit
theorem dX5_countWaysTo_0 : decode cX5_countWaysTo 0 = .ok (.aload_n 0, 1) := by decide +kernel
theorem dX5_countWaysTo_1 : decode cX5_countWaysTo 1 = .ok (.getfield 15, 3) := by decide +kernel
theorem dX5_countWaysTo_4 : decode cX5_countWaysTo 4 = .ok (.iconst 0, 1) := by decide +kernel
theorem dX5_countWaysTo_5 : decode cX5_countWaysTo 5 = .ok (.invokestatic 35, 3) := by decide +kernel
theorem dX5_countWaysTo_8 : decode cX5_countWaysTo 8 = .ok (.aload_n 0, 1) := by decide +kernel
theorem dX5_countWaysTo_9 : decode cX5_countWaysTo 9 = .ok (.getfield 15, 3) := by decide +kernel
theorem dX5_countWaysTo_12 : decode cX5_countWaysTo 12 = .ok (.iconst 0, 1) := by decide +kernel
theorem dX5_countWaysTo_13 : decode cX5_countWaysTo 13 = .ok (.iconst 1, 1) := by decide +kernel
theorem dX5_countWaysTo_14 : decode cX5_countWaysTo 14 = .ok (.iastore, 1) := by decide +kernel
theorem dX5_countWaysTo_15 : decode cX5_countWaysTo 15 = .ok (.iconst 0, 1) := by decide +kernel
theorem dX5_countWaysTo_16 : decode cX5_countWaysTo 16 = .ok (.istore_n 1, 1) := by decide +kernel
theorem dX5_countWaysTo_17 : decode cX5_countWaysTo 17 = .ok (.iload_n 1, 1) := by decide +kernel
theorem dX5_countWaysTo_18 : decode cX5_countWaysTo 18 = .ok (.aload_n 0, 1) := by decide +kernel
theorem dX5_countWaysTo_19 : decode cX5_countWaysTo 19 = .ok (.getfield 21, 3) := by decide +kernel
theorem dX5_countWaysTo_22 : decode cX5_countWaysTo 22 = .ok (.if_icmp .gt 55, 3) := by decide +kernel
theorem dX5_countWaysTo_25 : decode cX5_countWaysTo 25 = .ok (.iconst 0, 1) := by decide +kernel
theorem dX5_countWaysTo_26 : decode cX5_countWaysTo 26 = .ok (.istore_n 2, 1) := by decide +kernel
theorem dX5_countWaysTo_27 : decode cX5_countWaysTo 27 = .ok (.iload_n 2, 1) := by decide +kernel
theorem dX5_countWaysTo_28 : decode cX5_countWaysTo 28 = .ok (.bipush 8, 2) := by decide +kernel
theorem dX5_countWaysTo_30 : decode cX5_countWaysTo 30 = .ok (.if_icmp .ge 41, 3) := by decide +kernel
theorem dX5_countWaysTo_33 : decode cX5_countWaysTo 33 = .ok (.aload_n 0, 1) := by decide +kernel
theorem dX5_countWaysTo_34 : decode cX5_countWaysTo 34 = .ok (.getfield 9, 3) := by decide +kernel
theorem dX5_countWaysTo_37 : decode cX5_countWaysTo 37 = .ok (.iload_n 1, 1) := by decide +kernel
theorem dX5_countWaysTo_38 : decode cX5_countWaysTo 38 = .ok (.iaload, 1) := by decide +kernel
theorem dX5_countWaysTo_39 : decode cX5_countWaysTo 39 = .ok (.iload_n 2, 1) := by decide +kernel
theorem dX5_countWaysTo_40 : decode cX5_countWaysTo 40 = .ok (.invokestatic 41, 3) := by decide +kernel
theorem dX5_countWaysTo_43 : decode cX5_countWaysTo 43 = .ok (.ifCond .eq 22, 3) := by decide +kernel
theorem dX5_countWaysTo_46 : decode cX5_countWaysTo 46 = .ok (.aload_n 0, 1) := by decide +kernel
theorem dX5_countWaysTo_47 : decode cX5_countWaysTo 47 = .ok (.getfield 15, 3) := by decide +kernel
theorem dX5_countWaysTo_50 : decode cX5_countWaysTo 50 = .ok (.iload_n 1, 1) := by decide +kernel
theorem dX5_countWaysTo_51 : decode cX5_countWaysTo 51 = .ok (.iconst 1, 1) := by decide +kernel
theorem dX5_countWaysTo_52 : decode cX5_countWaysTo 52 = .ok (.iload_n 2, 1) := by decide +kernel
theorem dX5_countWaysTo_53 : decode cX5_countWaysTo 53 = .ok (.ishl, 1) := by decide +kernel
theorem dX5_countWaysTo_54 : decode cX5_countWaysTo 54 = .ok (.ior, 1) := by decide +kernel
theorem dX5_countWaysTo_55 : decode cX5_countWaysTo 55 = .ok (.dup2, 1) := by decide +kernel
theorem dX5_countWaysTo_56 : decode cX5_countWaysTo 56 = .ok (.iaload, 1) := by decide +kernel
theorem dX5_countWaysTo_57 : decode cX5_countWaysTo 57 = .ok (.aload_n 0, 1) := by decide +kernel
theorem dX5_countWaysTo_58 : decode cX5_countWaysTo 58 = .ok (.getfield 15, 3) := by decide +kernel
theorem dX5_countWaysTo_61 : decode cX5_countWaysTo 61 = .ok (.iload_n 1, 1) := by decide +kernel
theorem dX5_countWaysTo_62 : decode cX5_countWaysTo 62 = .ok (.iaload, 1) := by decide +kernel
theorem dX5_countWaysTo_63 : decode cX5_countWaysTo 63 = .ok (.iadd, 1) := by decide +kernel
theorem dX5_countWaysTo_64 : decode cX5_countWaysTo 64 = .ok (.iastore, 1) := by decide +kernel
theorem dX5_countWaysTo_65 : decode cX5_countWaysTo 65 = .ok (.iinc 2 1, 3) := by decide +kernel
theorem dX5_countWaysTo_68 : decode cX5_countWaysTo 68 = .ok (.goto (-41), 3) := by decide +kernel
theorem dX5_countWaysTo_71 : decode cX5_countWaysTo 71 = .ok (.iinc 1 1, 3) := by decide +kernel
theorem dX5_countWaysTo_74 : decode cX5_countWaysTo 74 = .ok (.goto (-57), 3) := by decide +kernel
theorem dX5_countWaysTo_77 : decode cX5_countWaysTo 77 = .ok (.return_, 1) := by decide +kernel
set_option maxRecDepth 20000 in
theorem ggX5_countWaysOn_J7_fill_53178 : GoodIn wsX5_countWaysOn wsJ7_fill_53178 := goodIn_r _ [7] rfl (by decide +kernel)
set_option maxRecDepth 20000 in
theorem gX5_countWaysOn_J7_fill_53178 : GoodIn wsX5_countWaysOn (va_wsS RX5 35 yJ7_fill_53178 wsJ7_fill_53178) := goodIn_app (goodIn_of _ (by decide +kernel)) ggX5_countWaysOn_J7_fill_53178
set_option maxRecDepth 20000 in
theorem ggX5_countWaysOn_X11_hasBit : GoodIn wsX5_countWaysOn wsX11_hasBit := goodIn_r _ [10] rfl (by decide +kernel)
set_option maxRecDepth 20000 in
theorem gX5_countWaysOn_X11_hasBit_n41 : GoodIn wsX5_countWaysOn (wsX11_hasBit) := ggX5_countWaysOn_X11_hasBit
theorem dX5_countWaysOn_0 : decode cX5_countWaysOn 0 = .ok (.aload_n 0, 1) := by decide +kernel
theorem dX5_countWaysOn_1 : decode cX5_countWaysOn 1 = .ok (.getfield 18, 3) := by decide +kernel
theorem dX5_countWaysOn_4 : decode cX5_countWaysOn 4 = .ok (.iconst 0, 1) := by decide +kernel
theorem dX5_countWaysOn_5 : decode cX5_countWaysOn 5 = .ok (.invokestatic 35, 3) := by decide +kernel
theorem dX5_countWaysOn_8 : decode cX5_countWaysOn 8 = .ok (.aload_n 0, 1) := by decide +kernel
theorem dX5_countWaysOn_9 : decode cX5_countWaysOn 9 = .ok (.getfield 18, 3) := by decide +kernel
theorem dX5_countWaysOn_12 : decode cX5_countWaysOn 12 = .ok (.aload_n 0, 1) := by decide +kernel
theorem dX5_countWaysOn_13 : decode cX5_countWaysOn 13 = .ok (.getfield 21, 3) := by decide +kernel
theorem dX5_countWaysOn_16 : decode cX5_countWaysOn 16 = .ok (.iconst 1, 1) := by decide +kernel
theorem dX5_countWaysOn_17 : decode cX5_countWaysOn 17 = .ok (.iastore, 1) := by decide +kernel
theorem dX5_countWaysOn_18 : decode cX5_countWaysOn 18 = .ok (.aload_n 0, 1) := by decide +kernel
theorem dX5_countWaysOn_19 : decode cX5_countWaysOn 19 = .ok (.getfield 21, 3) := by decide +kernel
theorem dX5_countWaysOn_22 : decode cX5_countWaysOn 22 = .ok (.istore_n 1, 1) := by decide +kernel
theorem dX5_countWaysOn_23 : decode cX5_countWaysOn 23 = .ok (.iload_n 1, 1) := by decide +kernel
theorem dX5_countWaysOn_24 : decode cX5_countWaysOn 24 = .ok (.ifCond .lt 55, 3) := by decide +kernel
theorem dX5_countWaysOn_27 : decode cX5_countWaysOn 27 = .ok (.iconst 0, 1) := by decide +kernel
theorem dX5_countWaysOn_28 : decode cX5_countWaysOn 28 = .ok (.istore_n 2, 1) := by decide +kernel
theorem dX5_countWaysOn_29 : decode cX5_countWaysOn 29 = .ok (.iload_n 2, 1) := by decide +kernel
theorem dX5_countWaysOn_30 : decode cX5_countWaysOn 30 = .ok (.bipush 8, 2) := by decide +kernel
theorem dX5_countWaysOn_32 : decode cX5_countWaysOn 32 = .ok (.if_icmp .ge 41, 3) := by decide +kernel
theorem dX5_countWaysOn_35 : decode cX5_countWaysOn 35 = .ok (.aload_n 0, 1) := by decide +kernel
theorem dX5_countWaysOn_36 : decode cX5_countWaysOn 36 = .ok (.getfield 9, 3) := by decide +kernel
theorem dX5_countWaysOn_39 : decode cX5_countWaysOn 39 = .ok (.iload_n 1, 1) := by decide +kernel
theorem dX5_countWaysOn_40 : decode cX5_countWaysOn 40 = .ok (.iaload, 1) := by decide +kernel
theorem dX5_countWaysOn_41 : decode cX5_countWaysOn 41 = .ok (.iload_n 2, 1) := by decide +kernel
theorem dX5_countWaysOn_42 : decode cX5_countWaysOn 42 = .ok (.invokestatic 41, 3) := by decide +kernel
theorem dX5_countWaysOn_45 : decode cX5_countWaysOn 45 = .ok (.ifCond .eq 22, 3) := by decide +kernel
theorem dX5_countWaysOn_48 : decode cX5_countWaysOn 48 = .ok (.aload_n 0, 1) := by decide +kernel
theorem dX5_countWaysOn_49 : decode cX5_countWaysOn 49 = .ok (.getfield 18, 3) := by decide +kernel
theorem dX5_countWaysOn_52 : decode cX5_countWaysOn 52 = .ok (.iload_n 1, 1) := by decide +kernel
theorem dX5_countWaysOn_53 : decode cX5_countWaysOn 53 = .ok (.dup2, 1) := by decide +kernel
theorem dX5_countWaysOn_54 : decode cX5_countWaysOn 54 = .ok (.iaload, 1) := by decide +kernel
theorem dX5_countWaysOn_55 : decode cX5_countWaysOn 55 = .ok (.aload_n 0, 1) := by decide +kernel
theorem dX5_countWaysOn_56 : decode cX5_countWaysOn 56 = .ok (.getfield 18, 3) := by decide +kernel
theorem dX5_countWaysOn_59 : decode cX5_countWaysOn 59 = .ok (.iload_n 1, 1) := by decide +kernel
theorem dX5_countWaysOn_60 : decode cX5_countWaysOn 60 = .ok (.iconst 1, 1) := by decide +kernel
theorem dX5_countWaysOn_61 : decode cX5_countWaysOn 61 = .ok (.iload_n 2, 1) := by decide +kernel
theorem dX5_countWaysOn_62 : decode cX5_countWaysOn 62 = .ok (.ishl, 1) := by decide +kernel
theorem dX5_countWaysOn_63 : decode cX5_countWaysOn 63 = .ok (.ior, 1) := by decide +kernel
theorem dX5_countWaysOn_64 : decode cX5_countWaysOn 64 = .ok (.iaload, 1) := by decide +kernel
theorem dX5_countWaysOn_65 : decode cX5_countWaysOn 65 = .ok (.iadd, 1) := by decide +kernel
theorem dX5_countWaysOn_66 : decode cX5_countWaysOn 66 = .ok (.iastore, 1) := by decide +kernel
theorem dX5_countWaysOn_67 : decode cX5_countWaysOn 67 = .ok (.iinc 2 1, 3) := by decide +kernel
theorem dX5_countWaysOn_70 : decode cX5_countWaysOn 70 = .ok (.goto (-41), 3) := by decide +kernel
theorem dX5_countWaysOn_73 : decode cX5_countWaysOn 73 = .ok (.iinc 1 (-1), 3) := by decide +kernel
theorem dX5_countWaysOn_76 : decode cX5_countWaysOn 76 = .ok (.goto (-53), 3) := by decide +kernel
theorem dX5_countWaysOn_79 : decode cX5_countWaysOn 79 = .ok (.return_, 1) := by decide +kernel
theorem dX5_howMany_0 : decode cX5_howMany 0 = .ok (.aload_n 0, 1) := by decide +kernel
theorem dX5_howMany_1 : decode cX5_howMany 1 = .ok (.getfield 18, 3) := by decide +kernel
theorem dX5_howMany_4 : decode cX5_howMany 4 = .ok (.iconst 0, 1) := by decide +kernel
theorem dX5_howMany_5 : decode cX5_howMany 5 = .ok (.iaload, 1) := by decide +kernel
theorem dX5_howMany_6 : decode cX5_howMany 6 = .ok (.ireturn, 1) := by decide +kernel
set_option maxRecDepth 20000 in
theorem ggX5_firstAsDigits_X5_leastThatGoesOn : GoodIn wsX5_firstAsDigits wsX5_leastThatGoesOn := goodIn_r _ [7, 8, 1, 9, 10, 11, 12, 13, 14, 15] rfl (by decide +kernel)
set_option maxRecDepth 20000 in
theorem gX5_firstAsDigits_X5_leastThatGoesOn : GoodIn wsX5_firstAsDigits (wsV RX5 45 RX5 yX5_leastThatGoesOn wsX5_leastThatGoesOn) := goodIn_app (goodIn_of _ (by decide +kernel)) ggX5_firstAsDigits_X5_leastThatGoesOn
theorem dX5_firstAsDigits_0 : decode cX5_firstAsDigits 0 = .ok (.aload_n 0, 1) := by decide +kernel
theorem dX5_firstAsDigits_1 : decode cX5_firstAsDigits 1 = .ok (.getfield 18, 3) := by decide +kernel
theorem dX5_firstAsDigits_4 : decode cX5_firstAsDigits 4 = .ok (.iconst 0, 1) := by decide +kernel
theorem dX5_firstAsDigits_5 : decode cX5_firstAsDigits 5 = .ok (.iaload, 1) := by decide +kernel
theorem dX5_firstAsDigits_6 : decode cX5_firstAsDigits 6 = .ok (.ifCond .ne 6, 3) := by decide +kernel
theorem dX5_firstAsDigits_9 : decode cX5_firstAsDigits 9 = .ok (.bipush (-2), 2) := by decide +kernel
theorem dX5_firstAsDigits_11 : decode cX5_firstAsDigits 11 = .ok (.ireturn, 1) := by decide +kernel
theorem dX5_firstAsDigits_12 : decode cX5_firstAsDigits 12 = .ok (.iconst 0, 1) := by decide +kernel
theorem dX5_firstAsDigits_13 : decode cX5_firstAsDigits 13 = .ok (.istore_n 1, 1) := by decide +kernel
theorem dX5_firstAsDigits_14 : decode cX5_firstAsDigits 14 = .ok (.iconst 0, 1) := by decide +kernel
theorem dX5_firstAsDigits_15 : decode cX5_firstAsDigits 15 = .ok (.istore_n 2, 1) := by decide +kernel
theorem dX5_firstAsDigits_16 : decode cX5_firstAsDigits 16 = .ok (.iconst 0, 1) := by decide +kernel
theorem dX5_firstAsDigits_17 : decode cX5_firstAsDigits 17 = .ok (.istore_n 3, 1) := by decide +kernel
theorem dX5_firstAsDigits_18 : decode cX5_firstAsDigits 18 = .ok (.iload_n 3, 1) := by decide +kernel
theorem dX5_firstAsDigits_19 : decode cX5_firstAsDigits 19 = .ok (.bipush 8, 2) := by decide +kernel
theorem dX5_firstAsDigits_21 : decode cX5_firstAsDigits 21 = .ok (.if_icmp .ge 41, 3) := by decide +kernel
theorem dX5_firstAsDigits_24 : decode cX5_firstAsDigits 24 = .ok (.iload_n 1, 1) := by decide +kernel
theorem dX5_firstAsDigits_25 : decode cX5_firstAsDigits 25 = .ok (.aload_n 0, 1) := by decide +kernel
theorem dX5_firstAsDigits_26 : decode cX5_firstAsDigits 26 = .ok (.getfield 21, 3) := by decide +kernel
theorem dX5_firstAsDigits_29 : decode cX5_firstAsDigits 29 = .ok (.if_icmp .eq 33, 3) := by decide +kernel
theorem dX5_firstAsDigits_32 : decode cX5_firstAsDigits 32 = .ok (.aload_n 0, 1) := by decide +kernel
theorem dX5_firstAsDigits_33 : decode cX5_firstAsDigits 33 = .ok (.iload_n 1, 1) := by decide +kernel
theorem dX5_firstAsDigits_34 : decode cX5_firstAsDigits 34 = .ok (.invokevirtual 45, 3) := by decide +kernel
theorem dX5_firstAsDigits_37 : decode cX5_firstAsDigits 37 = .ok (.istore 4, 2) := by decide +kernel
theorem dX5_firstAsDigits_39 : decode cX5_firstAsDigits 39 = .ok (.iload_n 1, 1) := by decide +kernel
theorem dX5_firstAsDigits_40 : decode cX5_firstAsDigits 40 = .ok (.iconst 1, 1) := by decide +kernel
theorem dX5_firstAsDigits_41 : decode cX5_firstAsDigits 41 = .ok (.iload 4, 2) := by decide +kernel
theorem dX5_firstAsDigits_43 : decode cX5_firstAsDigits 43 = .ok (.ishl, 1) := by decide +kernel
theorem dX5_firstAsDigits_44 : decode cX5_firstAsDigits 44 = .ok (.ior, 1) := by decide +kernel
theorem dX5_firstAsDigits_45 : decode cX5_firstAsDigits 45 = .ok (.istore_n 1, 1) := by decide +kernel
theorem dX5_firstAsDigits_46 : decode cX5_firstAsDigits 46 = .ok (.iload_n 2, 1) := by decide +kernel
theorem dX5_firstAsDigits_47 : decode cX5_firstAsDigits 47 = .ok (.bipush 10, 2) := by decide +kernel
theorem dX5_firstAsDigits_49 : decode cX5_firstAsDigits 49 = .ok (.imul, 1) := by decide +kernel
theorem dX5_firstAsDigits_50 : decode cX5_firstAsDigits 50 = .ok (.iload 4, 2) := by decide +kernel
theorem dX5_firstAsDigits_52 : decode cX5_firstAsDigits 52 = .ok (.iadd, 1) := by decide +kernel
theorem dX5_firstAsDigits_53 : decode cX5_firstAsDigits 53 = .ok (.iconst 1, 1) := by decide +kernel
theorem dX5_firstAsDigits_54 : decode cX5_firstAsDigits 54 = .ok (.iadd, 1) := by decide +kernel
theorem dX5_firstAsDigits_55 : decode cX5_firstAsDigits 55 = .ok (.istore_n 2, 1) := by decide +kernel
theorem dX5_firstAsDigits_56 : decode cX5_firstAsDigits 56 = .ok (.iinc 3 1, 3) := by decide +kernel
theorem dX5_firstAsDigits_59 : decode cX5_firstAsDigits 59 = .ok (.goto (-41), 3) := by decide +kernel
theorem dX5_firstAsDigits_62 : decode cX5_firstAsDigits 62 = .ok (.iload_n 2, 1) := by decide +kernel
theorem dX5_firstAsDigits_63 : decode cX5_firstAsDigits 63 = .ok (.ireturn, 1) := by decide +kernel
set_option maxRecDepth 20000 in
theorem ggX5_leastThatGoesOn_X11_hasBit : GoodIn wsX5_leastThatGoesOn wsX11_hasBit := goodIn_r _ [5] rfl (by decide +kernel)
set_option maxRecDepth 20000 in
theorem gX5_leastThatGoesOn_X11_hasBit_n41 : GoodIn wsX5_leastThatGoesOn (wsX11_hasBit) := ggX5_leastThatGoesOn_X11_hasBit
theorem dX5_leastThatGoesOn_0 : decode cX5_leastThatGoesOn 0 = .ok (.iconst 0, 1) := by decide +kernel
theorem dX5_leastThatGoesOn_1 : decode cX5_leastThatGoesOn 1 = .ok (.istore_n 2, 1) := by decide +kernel
theorem dX5_leastThatGoesOn_2 : decode cX5_leastThatGoesOn 2 = .ok (.iload_n 2, 1) := by decide +kernel
theorem dX5_leastThatGoesOn_3 : decode cX5_leastThatGoesOn 3 = .ok (.bipush 7, 2) := by decide +kernel
theorem dX5_leastThatGoesOn_5 : decode cX5_leastThatGoesOn 5 = .ok (.if_icmp .ge 35, 3) := by decide +kernel
theorem dX5_leastThatGoesOn_8 : decode cX5_leastThatGoesOn 8 = .ok (.aload_n 0, 1) := by decide +kernel
theorem dX5_leastThatGoesOn_9 : decode cX5_leastThatGoesOn 9 = .ok (.getfield 9, 3) := by decide +kernel
theorem dX5_leastThatGoesOn_12 : decode cX5_leastThatGoesOn 12 = .ok (.iload_n 1, 1) := by decide +kernel
theorem dX5_leastThatGoesOn_13 : decode cX5_leastThatGoesOn 13 = .ok (.iaload, 1) := by decide +kernel
theorem dX5_leastThatGoesOn_14 : decode cX5_leastThatGoesOn 14 = .ok (.iload_n 2, 1) := by decide +kernel
theorem dX5_leastThatGoesOn_15 : decode cX5_leastThatGoesOn 15 = .ok (.invokestatic 41, 3) := by decide +kernel
theorem dX5_leastThatGoesOn_18 : decode cX5_leastThatGoesOn 18 = .ok (.ifCond .eq 16, 3) := by decide +kernel
theorem dX5_leastThatGoesOn_21 : decode cX5_leastThatGoesOn 21 = .ok (.aload_n 0, 1) := by decide +kernel
theorem dX5_leastThatGoesOn_22 : decode cX5_leastThatGoesOn 22 = .ok (.getfield 18, 3) := by decide +kernel
theorem dX5_leastThatGoesOn_25 : decode cX5_leastThatGoesOn 25 = .ok (.iload_n 1, 1) := by decide +kernel
theorem dX5_leastThatGoesOn_26 : decode cX5_leastThatGoesOn 26 = .ok (.iconst 1, 1) := by decide +kernel
theorem dX5_leastThatGoesOn_27 : decode cX5_leastThatGoesOn 27 = .ok (.iload_n 2, 1) := by decide +kernel
theorem dX5_leastThatGoesOn_28 : decode cX5_leastThatGoesOn 28 = .ok (.ishl, 1) := by decide +kernel
theorem dX5_leastThatGoesOn_29 : decode cX5_leastThatGoesOn 29 = .ok (.ior, 1) := by decide +kernel
theorem dX5_leastThatGoesOn_30 : decode cX5_leastThatGoesOn 30 = .ok (.iaload, 1) := by decide +kernel
theorem dX5_leastThatGoesOn_31 : decode cX5_leastThatGoesOn 31 = .ok (.ifCond .gt 9, 3) := by decide +kernel
theorem dX5_leastThatGoesOn_34 : decode cX5_leastThatGoesOn 34 = .ok (.iinc 2 1, 3) := by decide +kernel
theorem dX5_leastThatGoesOn_37 : decode cX5_leastThatGoesOn 37 = .ok (.goto (-35), 3) := by decide +kernel
theorem dX5_leastThatGoesOn_40 : decode cX5_leastThatGoesOn 40 = .ok (.iload_n 2, 1) := by decide +kernel
theorem dX5_leastThatGoesOn_41 : decode cX5_leastThatGoesOn 41 = .ok (.ireturn, 1) := by decide +kernel
set_option maxRecDepth 20000 in
theorem ggX5_sideBySide_X5_oneThenOther : GoodIn wsX5_sideBySide wsX5_oneThenOther := goodIn_r _ [5, 6, 7, 8, 9, 10, 11, 12, 13, 14, 15, 16] rfl (by decide +kernel)
set_option maxRecDepth 20000 in
theorem gX5_sideBySide_X5_oneThenOther : GoodIn wsX5_sideBySide (wsV RX5 49 RX5 yX5_oneThenOther wsX5_oneThenOther) := goodIn_app (goodIn_of _ (by decide +kernel)) ggX5_sideBySide_X5_oneThenOther
theorem dX5_sideBySide_0 : decode cX5_sideBySide 0 = .ok (.aload_n 0, 1) := by decide +kernel
theorem dX5_sideBySide_1 : decode cX5_sideBySide 1 = .ok (.iload_n 1, 1) := by decide +kernel
theorem dX5_sideBySide_2 : decode cX5_sideBySide 2 = .ok (.iload_n 2, 1) := by decide +kernel
theorem dX5_sideBySide_3 : decode cX5_sideBySide 3 = .ok (.invokevirtual 49, 3) := by decide +kernel
theorem dX5_sideBySide_6 : decode cX5_sideBySide 6 = .ok (.aload_n 0, 1) := by decide +kernel
theorem dX5_sideBySide_7 : decode cX5_sideBySide 7 = .ok (.iload_n 2, 1) := by decide +kernel
theorem dX5_sideBySide_8 : decode cX5_sideBySide 8 = .ok (.iload_n 1, 1) := by decide +kernel
theorem dX5_sideBySide_9 : decode cX5_sideBySide 9 = .ok (.invokevirtual 49, 3) := by decide +kernel
theorem dX5_sideBySide_12 : decode cX5_sideBySide 12 = .ok (.iadd, 1) := by decide +kernel
theorem dX5_sideBySide_13 : decode cX5_sideBySide 13 = .ok (.ireturn, 1) := by decide +kernel
set_option maxRecDepth 20000 in
theorem ggX5_oneThenOther_X11_hasBit : GoodIn wsX5_oneThenOther wsX11_hasBit := goodIn_r _ [7] rfl (by decide +kernel)
set_option maxRecDepth 20000 in
theorem gX5_oneThenOther_X11_hasBit_n41 : GoodIn wsX5_oneThenOther (wsX11_hasBit) := ggX5_oneThenOther_X11_hasBit
theorem dX5_oneThenOther_0 : decode cX5_oneThenOther 0 = .ok (.iconst 0, 1) := by decide +kernel
theorem dX5_oneThenOther_1 : decode cX5_oneThenOther 1 = .ok (.istore_n 3, 1) := by decide +kernel
theorem dX5_oneThenOther_2 : decode cX5_oneThenOther 2 = .ok (.iconst 0, 1) := by decide +kernel
theorem dX5_oneThenOther_3 : decode cX5_oneThenOther 3 = .ok (.istore 4, 2) := by decide +kernel
theorem dX5_oneThenOther_5 : decode cX5_oneThenOther 5 = .ok (.iload 4, 2) := by decide +kernel
theorem dX5_oneThenOther_7 : decode cX5_oneThenOther 7 = .ok (.aload_n 0, 1) := by decide +kernel
theorem dX5_oneThenOther_8 : decode cX5_oneThenOther 8 = .ok (.getfield 21, 3) := by decide +kernel
theorem dX5_oneThenOther_11 : decode cX5_oneThenOther 11 = .ok (.if_icmp .gt 67, 3) := by decide +kernel
theorem dX5_oneThenOther_14 : decode cX5_oneThenOther 14 = .ok (.iload 4, 2) := by decide +kernel
theorem dX5_oneThenOther_16 : decode cX5_oneThenOther 16 = .ok (.iconst 1, 1) := by decide +kernel
theorem dX5_oneThenOther_17 : decode cX5_oneThenOther 17 = .ok (.iload_n 1, 1) := by decide +kernel
theorem dX5_oneThenOther_18 : decode cX5_oneThenOther 18 = .ok (.ishl, 1) := by decide +kernel
theorem dX5_oneThenOther_19 : decode cX5_oneThenOther 19 = .ok (.ior, 1) := by decide +kernel
theorem dX5_oneThenOther_20 : decode cX5_oneThenOther 20 = .ok (.istore 5, 2) := by decide +kernel
theorem dX5_oneThenOther_22 : decode cX5_oneThenOther 22 = .ok (.aload_n 0, 1) := by decide +kernel
theorem dX5_oneThenOther_23 : decode cX5_oneThenOther 23 = .ok (.getfield 9, 3) := by decide +kernel
theorem dX5_oneThenOther_26 : decode cX5_oneThenOther 26 = .ok (.iload 4, 2) := by decide +kernel
theorem dX5_oneThenOther_28 : decode cX5_oneThenOther 28 = .ok (.iaload, 1) := by decide +kernel
theorem dX5_oneThenOther_29 : decode cX5_oneThenOther 29 = .ok (.iload_n 1, 1) := by decide +kernel
theorem dX5_oneThenOther_30 : decode cX5_oneThenOther 30 = .ok (.invokestatic 41, 3) := by decide +kernel
theorem dX5_oneThenOther_33 : decode cX5_oneThenOther 33 = .ok (.ifCond .eq 39, 3) := by decide +kernel
theorem dX5_oneThenOther_36 : decode cX5_oneThenOther 36 = .ok (.aload_n 0, 1) := by decide +kernel
theorem dX5_oneThenOther_37 : decode cX5_oneThenOther 37 = .ok (.getfield 9, 3) := by decide +kernel
theorem dX5_oneThenOther_40 : decode cX5_oneThenOther 40 = .ok (.iload 5, 2) := by decide +kernel
theorem dX5_oneThenOther_42 : decode cX5_oneThenOther 42 = .ok (.iaload, 1) := by decide +kernel
theorem dX5_oneThenOther_43 : decode cX5_oneThenOther 43 = .ok (.iload_n 2, 1) := by decide +kernel
theorem dX5_oneThenOther_44 : decode cX5_oneThenOther 44 = .ok (.invokestatic 41, 3) := by decide +kernel
theorem dX5_oneThenOther_47 : decode cX5_oneThenOther 47 = .ok (.ifCond .eq 25, 3) := by decide +kernel
theorem dX5_oneThenOther_50 : decode cX5_oneThenOther 50 = .ok (.iload_n 3, 1) := by decide +kernel
theorem dX5_oneThenOther_51 : decode cX5_oneThenOther 51 = .ok (.aload_n 0, 1) := by decide +kernel
theorem dX5_oneThenOther_52 : decode cX5_oneThenOther 52 = .ok (.getfield 15, 3) := by decide +kernel
theorem dX5_oneThenOther_55 : decode cX5_oneThenOther 55 = .ok (.iload 4, 2) := by decide +kernel
theorem dX5_oneThenOther_57 : decode cX5_oneThenOther 57 = .ok (.iaload, 1) := by decide +kernel
theorem dX5_oneThenOther_58 : decode cX5_oneThenOther 58 = .ok (.aload_n 0, 1) := by decide +kernel
theorem dX5_oneThenOther_59 : decode cX5_oneThenOther 59 = .ok (.getfield 18, 3) := by decide +kernel
theorem dX5_oneThenOther_62 : decode cX5_oneThenOther 62 = .ok (.iload 5, 2) := by decide +kernel
theorem dX5_oneThenOther_64 : decode cX5_oneThenOther 64 = .ok (.iconst 1, 1) := by decide +kernel
theorem dX5_oneThenOther_65 : decode cX5_oneThenOther 65 = .ok (.iload_n 2, 1) := by decide +kernel
theorem dX5_oneThenOther_66 : decode cX5_oneThenOther 66 = .ok (.ishl, 1) := by decide +kernel
theorem dX5_oneThenOther_67 : decode cX5_oneThenOther 67 = .ok (.ior, 1) := by decide +kernel
theorem dX5_oneThenOther_68 : decode cX5_oneThenOther 68 = .ok (.iaload, 1) := by decide +kernel
theorem dX5_oneThenOther_69 : decode cX5_oneThenOther 69 = .ok (.imul, 1) := by decide +kernel
theorem dX5_oneThenOther_70 : decode cX5_oneThenOther 70 = .ok (.iadd, 1) := by decide +kernel
theorem dX5_oneThenOther_71 : decode cX5_oneThenOther 71 = .ok (.istore_n 3, 1) := by decide +kernel
theorem dX5_oneThenOther_72 : decode cX5_oneThenOther 72 = .ok (.iinc 4 1, 3) := by decide +kernel
theorem dX5_oneThenOther_75 : decode cX5_oneThenOther 75 = .ok (.goto (-70), 3) := by decide +kernel
theorem dX5_oneThenOther_78 : decode cX5_oneThenOther 78 = .ok (.iload_n 3, 1) := by decide +kernel
theorem dX5_oneThenOther_79 : decode cX5_oneThenOther 79 = .ok (.ireturn, 1) := by decide +kernel
theorem dX6_init_0 : decode cX6_init 0 = .ok (.aload_n 0, 1) := by decide +kernel
theorem dX6_init_1 : decode cX6_init 1 = .ok (.invokespecial 3, 3) := by decide +kernel
theorem dX6_init_4 : decode cX6_init 4 = .ok (.aload_n 0, 1) := by decide +kernel
theorem dX6_init_5 : decode cX6_init 5 = .ok (.bipush 20, 2) := by decide +kernel
theorem dX6_init_7 : decode cX6_init 7 = .ok (.newarray .int, 2) := by decide +kernel
theorem dX6_init_9 : decode cX6_init 9 = .ok (.putfield 9, 3) := by decide +kernel
theorem dX6_init_12 : decode cX6_init 12 = .ok (.aload_n 0, 1) := by decide +kernel
theorem dX6_init_13 : decode cX6_init 13 = .ok (.bipush 20, 2) := by decide +kernel
theorem dX6_init_15 : decode cX6_init 15 = .ok (.newarray .int, 2) := by decide +kernel
theorem dX6_init_17 : decode cX6_init 17 = .ok (.putfield 15, 3) := by decide +kernel
theorem dX6_init_20 : decode cX6_init 20 = .ok (.aload_n 0, 1) := by decide +kernel
theorem dX6_init_21 : decode cX6_init 21 = .ok (.bipush 20, 2) := by decide +kernel
theorem dX6_init_23 : decode cX6_init 23 = .ok (.newarray .int, 2) := by decide +kernel
theorem dX6_init_25 : decode cX6_init 25 = .ok (.putfield 18, 3) := by decide +kernel
theorem dX6_init_28 : decode cX6_init 28 = .ok (.return_, 1) := by decide +kernel
theorem dX6_add_0 : decode cX6_add 0 = .ok (.aload_n 0, 1) := by decide +kernel
theorem dX6_add_1 : decode cX6_add 1 = .ok (.getfield 21, 3) := by decide +kernel
theorem dX6_add_4 : decode cX6_add 4 = .ok (.aload_n 0, 1) := by decide +kernel
theorem dX6_add_5 : decode cX6_add 5 = .ok (.getfield 9, 3) := by decide +kernel
theorem dX6_add_8 : decode cX6_add 8 = .ok (.arraylength, 1) := by decide +kernel
theorem dX6_add_9 : decode cX6_add 9 = .ok (.if_icmp .ne 6, 3) := by decide +kernel
theorem dX6_add_12 : decode cX6_add 12 = .ok (.bipush (-3), 2) := by decide +kernel
theorem dX6_add_14 : decode cX6_add 14 = .ok (.ireturn, 1) := by decide +kernel
theorem dX6_add_15 : decode cX6_add 15 = .ok (.aload_n 0, 1) := by decide +kernel
theorem dX6_add_16 : decode cX6_add 16 = .ok (.getfield 9, 3) := by decide +kernel
theorem dX6_add_19 : decode cX6_add 19 = .ok (.aload_n 0, 1) := by decide +kernel
theorem dX6_add_20 : decode cX6_add 20 = .ok (.getfield 21, 3) := by decide +kernel
theorem dX6_add_23 : decode cX6_add 23 = .ok (.iload_n 1, 1) := by decide +kernel
theorem dX6_add_24 : decode cX6_add 24 = .ok (.iastore, 1) := by decide +kernel
theorem dX6_add_25 : decode cX6_add 25 = .ok (.aload_n 0, 1) := by decide +kernel
theorem dX6_add_26 : decode cX6_add 26 = .ok (.getfield 15, 3) := by decide +kernel
theorem dX6_add_29 : decode cX6_add 29 = .ok (.aload_n 0, 1) := by decide +kernel
theorem dX6_add_30 : decode cX6_add 30 = .ok (.getfield 21, 3) := by decide +kernel
theorem dX6_add_33 : decode cX6_add 33 = .ok (.iload_n 2, 1) := by decide +kernel
theorem dX6_add_34 : decode cX6_add 34 = .ok (.iastore, 1) := by decide +kernel
theorem dX6_add_35 : decode cX6_add 35 = .ok (.aload_n 0, 1) := by decide +kernel
theorem dX6_add_36 : decode cX6_add 36 = .ok (.getfield 18, 3) := by decide +kernel
theorem dX6_add_39 : decode cX6_add 39 = .ok (.aload_n 0, 1) := by decide +kernel
theorem dX6_add_40 : decode cX6_add 40 = .ok (.getfield 21, 3) := by decide +kernel
theorem dX6_add_43 : decode cX6_add 43 = .ok (.iload_n 3, 1) := by decide +kernel
theorem dX6_add_44 : decode cX6_add 44 = .ok (.iastore, 1) := by decide +kernel
theorem dX6_add_45 : decode cX6_add 45 = .ok (.aload_n 0, 1) := by decide +kernel
theorem dX6_add_46 : decode cX6_add 46 = .ok (.dup, 1) := by decide +kernel
theorem dX6_add_47 : decode cX6_add 47 = .ok (.getfield 21, 3) := by decide +kernel
theorem dX6_add_50 : decode cX6_add 50 = .ok (.dup_x1, 1) := by decide +kernel
theorem dX6_add_51 : decode cX6_add 51 = .ok (.iconst 1, 1) := by decide +kernel
theorem dX6_add_52 : decode cX6_add 52 = .ok (.iadd, 1) := by decide +kernel
theorem dX6_add_53 : decode cX6_add 53 = .ok (.putfield 21, 3) := by decide +kernel
theorem dX6_add_56 : decode cX6_add 56 = .ok (.ireturn, 1) := by decide +kernel
set_option maxRecDepth 20000 in
theorem ggX6_lateOnes_X11_asBit : GoodIn wsX6_lateOnes wsX11_asBit := goodIn_r _ [5] rfl (by decide +kernel)
set_option maxRecDepth 20000 in
theorem gX6_lateOnes_X11_asBit_n25 : GoodIn wsX6_lateOnes (wsX11_asBit) := ggX6_lateOnes_X11_asBit
theorem dX6_lateOnes_0 : decode cX6_lateOnes 0 = .ok (.iconst 0, 1) := by decide +kernel
theorem dX6_lateOnes_1 : decode cX6_lateOnes 1 = .ok (.istore_n 2, 1) := by decide +kernel
theorem dX6_lateOnes_2 : decode cX6_lateOnes 2 = .ok (.iconst 0, 1) := by decide +kernel
theorem dX6_lateOnes_3 : decode cX6_lateOnes 3 = .ok (.istore_n 3, 1) := by decide +kernel
theorem dX6_lateOnes_4 : decode cX6_lateOnes 4 = .ok (.iload_n 3, 1) := by decide +kernel
theorem dX6_lateOnes_5 : decode cX6_lateOnes 5 = .ok (.aload_n 0, 1) := by decide +kernel
theorem dX6_lateOnes_6 : decode cX6_lateOnes 6 = .ok (.getfield 21, 3) := by decide +kernel
theorem dX6_lateOnes_9 : decode cX6_lateOnes 9 = .ok (.if_icmp .ge 30, 3) := by decide +kernel
theorem dX6_lateOnes_12 : decode cX6_lateOnes 12 = .ok (.iload_n 2, 1) := by decide +kernel
theorem dX6_lateOnes_13 : decode cX6_lateOnes 13 = .ok (.aload_n 0, 1) := by decide +kernel
theorem dX6_lateOnes_14 : decode cX6_lateOnes 14 = .ok (.getfield 9, 3) := by decide +kernel
theorem dX6_lateOnes_17 : decode cX6_lateOnes 17 = .ok (.iload_n 3, 1) := by decide +kernel
theorem dX6_lateOnes_18 : decode cX6_lateOnes 18 = .ok (.iaload, 1) := by decide +kernel
theorem dX6_lateOnes_19 : decode cX6_lateOnes 19 = .ok (.iload_n 1, 1) := by decide +kernel
theorem dX6_lateOnes_20 : decode cX6_lateOnes 20 = .ok (.if_icmp .le 7, 3) := by decide +kernel
theorem dX6_lateOnes_23 : decode cX6_lateOnes 23 = .ok (.iconst 1, 1) := by decide +kernel
theorem dX6_lateOnes_24 : decode cX6_lateOnes 24 = .ok (.goto 4, 3) := by decide +kernel
theorem dX6_lateOnes_27 : decode cX6_lateOnes 27 = .ok (.iconst 0, 1) := by decide +kernel
theorem dX6_lateOnes_28 : decode cX6_lateOnes 28 = .ok (.invokestatic 25, 3) := by decide +kernel
theorem dX6_lateOnes_31 : decode cX6_lateOnes 31 = .ok (.iadd, 1) := by decide +kernel
theorem dX6_lateOnes_32 : decode cX6_lateOnes 32 = .ok (.istore_n 2, 1) := by decide +kernel
theorem dX6_lateOnes_33 : decode cX6_lateOnes 33 = .ok (.iinc 3 1, 3) := by decide +kernel
theorem dX6_lateOnes_36 : decode cX6_lateOnes 36 = .ok (.goto (-32), 3) := by decide +kernel
theorem dX6_lateOnes_39 : decode cX6_lateOnes 39 = .ok (.iload_n 2, 1) := by decide +kernel
theorem dX6_lateOnes_40 : decode cX6_lateOnes 40 = .ok (.ireturn, 1) := by decide +kernel
set_option maxRecDepth 20000 in
theorem ggX6_lateOff_X6_offBy : GoodIn wsX6_lateOff wsX6_offBy := goodIn_r _ [8, 9, 10, 11, 12, 13, 14, 15, 16, 17] rfl (by decide +kernel)
set_option maxRecDepth 20000 in
theorem gX6_lateOff_X6_offBy : GoodIn wsX6_lateOff (wsV RX6 29 RX6 yX6_offBy wsX6_offBy) := goodIn_app (goodIn_of _ (by decide +kernel)) ggX6_lateOff_X6_offBy
theorem dX6_lateOff_0 : decode cX6_lateOff 0 = .ok (.iconst 0, 1) := by decide +kernel
theorem dX6_lateOff_1 : decode cX6_lateOff 1 = .ok (.istore_n 2, 1) := by decide +kernel
theorem dX6_lateOff_2 : decode cX6_lateOff 2 = .ok (.iconst 0, 1) := by decide +kernel
theorem dX6_lateOff_3 : decode cX6_lateOff 3 = .ok (.istore_n 3, 1) := by decide +kernel
theorem dX6_lateOff_4 : decode cX6_lateOff 4 = .ok (.iload_n 3, 1) := by decide +kernel
theorem dX6_lateOff_5 : decode cX6_lateOff 5 = .ok (.aload_n 0, 1) := by decide +kernel
theorem dX6_lateOff_6 : decode cX6_lateOff 6 = .ok (.getfield 21, 3) := by decide +kernel
theorem dX6_lateOff_9 : decode cX6_lateOff 9 = .ok (.if_icmp .ge 45, 3) := by decide +kernel
theorem dX6_lateOff_12 : decode cX6_lateOff 12 = .ok (.aload_n 0, 1) := by decide +kernel
theorem dX6_lateOff_13 : decode cX6_lateOff 13 = .ok (.getfield 9, 3) := by decide +kernel
theorem dX6_lateOff_16 : decode cX6_lateOff 16 = .ok (.iload_n 3, 1) := by decide +kernel
theorem dX6_lateOff_17 : decode cX6_lateOff 17 = .ok (.iaload, 1) := by decide +kernel
theorem dX6_lateOff_18 : decode cX6_lateOff 18 = .ok (.iload_n 1, 1) := by decide +kernel
theorem dX6_lateOff_19 : decode cX6_lateOff 19 = .ok (.if_icmp .le 29, 3) := by decide +kernel
theorem dX6_lateOff_22 : decode cX6_lateOff 22 = .ok (.iload_n 2, 1) := by decide +kernel
theorem dX6_lateOff_23 : decode cX6_lateOff 23 = .ok (.aload_n 0, 1) := by decide +kernel
theorem dX6_lateOff_24 : decode cX6_lateOff 24 = .ok (.iload_n 3, 1) := by decide +kernel
theorem dX6_lateOff_25 : decode cX6_lateOff 25 = .ok (.aload_n 0, 1) := by decide +kernel
theorem dX6_lateOff_26 : decode cX6_lateOff 26 = .ok (.getfield 18, 3) := by decide +kernel
theorem dX6_lateOff_29 : decode cX6_lateOff 29 = .ok (.iload_n 3, 1) := by decide +kernel
theorem dX6_lateOff_30 : decode cX6_lateOff 30 = .ok (.iaload, 1) := by decide +kernel
theorem dX6_lateOff_31 : decode cX6_lateOff 31 = .ok (.bipush 100, 2) := by decide +kernel
theorem dX6_lateOff_33 : decode cX6_lateOff 33 = .ok (.idiv, 1) := by decide +kernel
theorem dX6_lateOff_34 : decode cX6_lateOff 34 = .ok (.aload_n 0, 1) := by decide +kernel
theorem dX6_lateOff_35 : decode cX6_lateOff 35 = .ok (.getfield 18, 3) := by decide +kernel
theorem dX6_lateOff_38 : decode cX6_lateOff 38 = .ok (.iload_n 3, 1) := by decide +kernel
theorem dX6_lateOff_39 : decode cX6_lateOff 39 = .ok (.iaload, 1) := by decide +kernel
theorem dX6_lateOff_40 : decode cX6_lateOff 40 = .ok (.bipush 100, 2) := by decide +kernel
theorem dX6_lateOff_42 : decode cX6_lateOff 42 = .ok (.irem, 1) := by decide +kernel
theorem dX6_lateOff_43 : decode cX6_lateOff 43 = .ok (.invokevirtual 29, 3) := by decide +kernel
theorem dX6_lateOff_46 : decode cX6_lateOff 46 = .ok (.iadd, 1) := by decide +kernel
theorem dX6_lateOff_47 : decode cX6_lateOff 47 = .ok (.istore_n 2, 1) := by decide +kernel
theorem dX6_lateOff_48 : decode cX6_lateOff 48 = .ok (.iinc 3 1, 3) := by decide +kernel
theorem dX6_lateOff_51 : decode cX6_lateOff 51 = .ok (.goto (-47), 3) := by decide +kernel
theorem dX6_lateOff_54 : decode cX6_lateOff 54 = .ok (.iload_n 2, 1) := by decide +kernel
theorem dX6_lateOff_55 : decode cX6_lateOff 55 = .ok (.ireturn, 1) := by decide +kernel
theorem dX6_offBy_0 : decode cX6_offBy 0 = .ok (.aload_n 0, 1) := by decide +kernel
theorem dX6_offBy_1 : decode cX6_offBy 1 = .ok (.getfield 15, 3) := by decide +kernel
theorem dX6_offBy_4 : decode cX6_offBy 4 = .ok (.iload_n 1, 1) := by decide +kernel
theorem dX6_offBy_5 : decode cX6_offBy 5 = .ok (.iaload, 1) := by decide +kernel
theorem dX6_offBy_6 : decode cX6_offBy 6 = .ok (.bipush 100, 2) := by decide +kernel
theorem dX6_offBy_8 : decode cX6_offBy 8 = .ok (.idiv, 1) := by decide +kernel
theorem dX6_offBy_9 : decode cX6_offBy 9 = .ok (.iload_n 2, 1) := by decide +kernel
theorem dX6_offBy_10 : decode cX6_offBy 10 = .ok (.isub, 1) := by decide +kernel
theorem dX6_offBy_11 : decode cX6_offBy 11 = .ok (.invokestatic 33, 3) := by decide +kernel
theorem dX6_offBy_14 : decode cX6_offBy 14 = .ok (.aload_n 0, 1) := by decide +kernel
theorem dX6_offBy_15 : decode cX6_offBy 15 = .ok (.getfield 15, 3) := by decide +kernel
theorem dX6_offBy_18 : decode cX6_offBy 18 = .ok (.iload_n 1, 1) := by decide +kernel
theorem dX6_offBy_19 : decode cX6_offBy 19 = .ok (.iaload, 1) := by decide +kernel
theorem dX6_offBy_20 : decode cX6_offBy 20 = .ok (.bipush 100, 2) := by decide +kernel
theorem dX6_offBy_22 : decode cX6_offBy 22 = .ok (.irem, 1) := by decide +kernel
theorem dX6_offBy_23 : decode cX6_offBy 23 = .ok (.iload_n 3, 1) := by decide +kernel
theorem dX6_offBy_24 : decode cX6_offBy 24 = .ok (.isub, 1) := by decide +kernel
theorem dX6_offBy_25 : decode cX6_offBy 25 = .ok (.invokestatic 33, 3) := by decide +kernel
theorem dX6_offBy_28 : decode cX6_offBy 28 = .ok (.iadd, 1) := by decide +kernel
theorem dX6_offBy_29 : decode cX6_offBy 29 = .ok (.ireturn, 1) := by decide +kernel
set_option maxRecDepth 20000 in
theorem ggX6_guessedAsWell_X6_lateOff : GoodIn wsX6_guessedAsWell wsX6_lateOff := goodIn_r _ [7, 1, 2, 8, 9, 10, 11, 6, 12, 13, 14, 15, 16, 17, 24, 25, 26, 27] rfl (by decide +kernel)
set_option maxRecDepth 20000 in
theorem gX6_guessedAsWell_X6_lateOff : GoodIn wsX6_guessedAsWell (wsV RX6 39 RX6 yX6_lateOff wsX6_lateOff) := goodIn_app (goodIn_of _ (by decide +kernel)) ggX6_guessedAsWell_X6_lateOff
set_option maxRecDepth 20000 in
theorem ggX6_guessedAsWell_X11_drawn : GoodIn wsX6_guessedAsWell wsX11_drawn := goodIn_r _ [20, 21] rfl (by decide +kernel)
set_option maxRecDepth 20000 in
theorem gX6_guessedAsWell_X11_drawn_n42 : GoodIn wsX6_guessedAsWell (wsX11_drawn) := ggX6_guessedAsWell_X11_drawn
set_option maxRecDepth 20000 in
theorem ggX6_guessedAsWell_X6_offBy : GoodIn wsX6_guessedAsWell wsX6_offBy := goodIn_r _ [12, 13, 14, 15, 16, 17, 24, 25, 26, 27] rfl (by decide +kernel)
set_option maxRecDepth 20000 in
theorem gX6_guessedAsWell_X6_offBy : GoodIn wsX6_guessedAsWell (wsV RX6 29 RX6 yX6_offBy wsX6_offBy) := goodIn_app (goodIn_of _ (by decide +kernel)) ggX6_guessedAsWell_X6_offBy
set_option maxRecDepth 20000 in
theorem ggX6_guessedAsWell_X11_asBit : GoodIn wsX6_guessedAsWell wsX11_asBit := goodIn_r _ [23] rfl (by decide +kernel)
set_option maxRecDepth 20000 in
theorem gX6_guessedAsWell_X11_asBit_n25 : GoodIn wsX6_guessedAsWell (wsX11_asBit) := ggX6_guessedAsWell_X11_asBit
theorem dX6_guessedAsWell_0 : decode cX6_guessedAsWell 0 = .ok (.aload_n 0, 1) := by decide +kernel
theorem dX6_guessedAsWell_1 : decode cX6_guessedAsWell 1 = .ok (.iload_n 1, 1) := by decide +kernel
theorem dX6_guessedAsWell_2 : decode cX6_guessedAsWell 2 = .ok (.invokevirtual 39, 3) := by decide +kernel
theorem dX6_guessedAsWell_5 : decode cX6_guessedAsWell 5 = .ok (.istore 4, 2) := by decide +kernel
theorem dX6_guessedAsWell_7 : decode cX6_guessedAsWell 7 = .ok (.iload_n 2, 1) := by decide +kernel
theorem dX6_guessedAsWell_8 : decode cX6_guessedAsWell 8 = .ok (.istore 5, 2) := by decide +kernel
theorem dX6_guessedAsWell_10 : decode cX6_guessedAsWell 10 = .ok (.iconst 0, 1) := by decide +kernel
theorem dX6_guessedAsWell_11 : decode cX6_guessedAsWell 11 = .ok (.istore 6, 2) := by decide +kernel
theorem dX6_guessedAsWell_13 : decode cX6_guessedAsWell 13 = .ok (.iconst 0, 1) := by decide +kernel
theorem dX6_guessedAsWell_14 : decode cX6_guessedAsWell 14 = .ok (.istore 7, 2) := by decide +kernel
theorem dX6_guessedAsWell_16 : decode cX6_guessedAsWell 16 = .ok (.iload 7, 2) := by decide +kernel
theorem dX6_guessedAsWell_18 : decode cX6_guessedAsWell 18 = .ok (.iload_n 3, 1) := by decide +kernel
theorem dX6_guessedAsWell_19 : decode cX6_guessedAsWell 19 = .ok (.if_icmp .ge 102, 3) := by decide +kernel
theorem dX6_guessedAsWell_22 : decode cX6_guessedAsWell 22 = .ok (.iconst 0, 1) := by decide +kernel
theorem dX6_guessedAsWell_23 : decode cX6_guessedAsWell 23 = .ok (.istore 8, 2) := by decide +kernel
theorem dX6_guessedAsWell_25 : decode cX6_guessedAsWell 25 = .ok (.iconst 0, 1) := by decide +kernel
theorem dX6_guessedAsWell_26 : decode cX6_guessedAsWell 26 = .ok (.istore 9, 2) := by decide +kernel
theorem dX6_guessedAsWell_28 : decode cX6_guessedAsWell 28 = .ok (.iload 9, 2) := by decide +kernel
theorem dX6_guessedAsWell_30 : decode cX6_guessedAsWell 30 = .ok (.aload_n 0, 1) := by decide +kernel
theorem dX6_guessedAsWell_31 : decode cX6_guessedAsWell 31 = .ok (.getfield 21, 3) := by decide +kernel
theorem dX6_guessedAsWell_34 : decode cX6_guessedAsWell 34 = .ok (.if_icmp .ge 61, 3) := by decide +kernel
theorem dX6_guessedAsWell_37 : decode cX6_guessedAsWell 37 = .ok (.aload_n 0, 1) := by decide +kernel
theorem dX6_guessedAsWell_38 : decode cX6_guessedAsWell 38 = .ok (.getfield 9, 3) := by decide +kernel
theorem dX6_guessedAsWell_41 : decode cX6_guessedAsWell 41 = .ok (.iload 9, 2) := by decide +kernel
theorem dX6_guessedAsWell_43 : decode cX6_guessedAsWell 43 = .ok (.iaload, 1) := by decide +kernel
theorem dX6_guessedAsWell_44 : decode cX6_guessedAsWell 44 = .ok (.iload_n 1, 1) := by decide +kernel
theorem dX6_guessedAsWell_45 : decode cX6_guessedAsWell 45 = .ok (.if_icmp .le 44, 3) := by decide +kernel
theorem dX6_guessedAsWell_48 : decode cX6_guessedAsWell 48 = .ok (.iload 5, 2) := by decide +kernel
theorem dX6_guessedAsWell_50 : decode cX6_guessedAsWell 50 = .ok (.invokestatic 42, 3) := by decide +kernel
theorem dX6_guessedAsWell_53 : decode cX6_guessedAsWell 53 = .ok (.istore 10, 2) := by decide +kernel
theorem dX6_guessedAsWell_55 : decode cX6_guessedAsWell 55 = .ok (.iload 10, 2) := by decide +kernel
theorem dX6_guessedAsWell_57 : decode cX6_guessedAsWell 57 = .ok (.invokestatic 42, 3) := by decide +kernel
theorem dX6_guessedAsWell_60 : decode cX6_guessedAsWell 60 = .ok (.istore 5, 2) := by decide +kernel
theorem dX6_guessedAsWell_62 : decode cX6_guessedAsWell 62 = .ok (.iload 8, 2) := by decide +kernel
theorem dX6_guessedAsWell_64 : decode cX6_guessedAsWell 64 = .ok (.aload_n 0, 1) := by decide +kernel
theorem dX6_guessedAsWell_65 : decode cX6_guessedAsWell 65 = .ok (.iload 9, 2) := by decide +kernel
theorem dX6_guessedAsWell_67 : decode cX6_guessedAsWell 67 = .ok (.iload 10, 2) := by decide +kernel
theorem dX6_guessedAsWell_69 : decode cX6_guessedAsWell 69 = .ok (.bipush 8, 2) := by decide +kernel
theorem dX6_guessedAsWell_71 : decode cX6_guessedAsWell 71 = .ok (.iushr, 1) := by decide +kernel
theorem dX6_guessedAsWell_72 : decode cX6_guessedAsWell 72 = .ok (.bipush 100, 2) := by decide +kernel
theorem dX6_guessedAsWell_74 : decode cX6_guessedAsWell 74 = .ok (.irem, 1) := by decide +kernel
theorem dX6_guessedAsWell_75 : decode cX6_guessedAsWell 75 = .ok (.iload 5, 2) := by decide +kernel
theorem dX6_guessedAsWell_77 : decode cX6_guessedAsWell 77 = .ok (.bipush 8, 2) := by decide +kernel
theorem dX6_guessedAsWell_79 : decode cX6_guessedAsWell 79 = .ok (.iushr, 1) := by decide +kernel
theorem dX6_guessedAsWell_80 : decode cX6_guessedAsWell 80 = .ok (.bipush 100, 2) := by decide +kernel
theorem dX6_guessedAsWell_82 : decode cX6_guessedAsWell 82 = .ok (.irem, 1) := by decide +kernel
theorem dX6_guessedAsWell_83 : decode cX6_guessedAsWell 83 = .ok (.invokevirtual 29, 3) := by decide +kernel
theorem dX6_guessedAsWell_86 : decode cX6_guessedAsWell 86 = .ok (.iadd, 1) := by decide +kernel
theorem dX6_guessedAsWell_87 : decode cX6_guessedAsWell 87 = .ok (.istore 8, 2) := by decide +kernel
theorem dX6_guessedAsWell_89 : decode cX6_guessedAsWell 89 = .ok (.iinc 9 1, 3) := by decide +kernel
theorem dX6_guessedAsWell_92 : decode cX6_guessedAsWell 92 = .ok (.goto (-64), 3) := by decide +kernel
theorem dX6_guessedAsWell_95 : decode cX6_guessedAsWell 95 = .ok (.iload 6, 2) := by decide +kernel
theorem dX6_guessedAsWell_97 : decode cX6_guessedAsWell 97 = .ok (.iload 8, 2) := by decide +kernel
theorem dX6_guessedAsWell_99 : decode cX6_guessedAsWell 99 = .ok (.iload 4, 2) := by decide +kernel
theorem dX6_guessedAsWell_101 : decode cX6_guessedAsWell 101 = .ok (.if_icmp .gt 7, 3) := by decide +kernel
theorem dX6_guessedAsWell_104 : decode cX6_guessedAsWell 104 = .ok (.iconst 1, 1) := by decide +kernel
theorem dX6_guessedAsWell_105 : decode cX6_guessedAsWell 105 = .ok (.goto 4, 3) := by decide +kernel
theorem dX6_guessedAsWell_108 : decode cX6_guessedAsWell 108 = .ok (.iconst 0, 1) := by decide +kernel
theorem dX6_guessedAsWell_109 : decode cX6_guessedAsWell 109 = .ok (.invokestatic 25, 3) := by decide +kernel
theorem dX6_guessedAsWell_112 : decode cX6_guessedAsWell 112 = .ok (.iadd, 1) := by decide +kernel
theorem dX6_guessedAsWell_113 : decode cX6_guessedAsWell 113 = .ok (.istore 6, 2) := by decide +kernel
theorem dX6_guessedAsWell_115 : decode cX6_guessedAsWell 115 = .ok (.iinc 7 1, 3) := by decide +kernel
theorem dX6_guessedAsWell_118 : decode cX6_guessedAsWell 118 = .ok (.goto (-102), 3) := by decide +kernel
theorem dX6_guessedAsWell_121 : decode cX6_guessedAsWell 121 = .ok (.iload 6, 2) := by decide +kernel
theorem dX6_guessedAsWell_123 : decode cX6_guessedAsWell 123 = .ok (.ireturn, 1) := by decide +kernel
theorem dJ6_bitCount_0f7a4_0 : decode cJ6_bitCount_0f7a4 0 = .ok (.iload_n 0, 1) := by decide +kernel
theorem dJ6_bitCount_0f7a4_1 : decode cJ6_bitCount_0f7a4 1 = .ok (.iload_n 0, 1) := by decide +kernel
theorem dJ6_bitCount_0f7a4_2 : decode cJ6_bitCount_0f7a4 2 = .ok (.iconst 1, 1) := by decide +kernel
theorem dJ6_bitCount_0f7a4_3 : decode cJ6_bitCount_0f7a4 3 = .ok (.iushr, 1) := by decide +kernel
theorem dJ6_bitCount_0f7a4_4 : decode cJ6_bitCount_0f7a4 4 = .ok (.ldc_w 265, 3) := by decide +kernel
theorem dJ6_bitCount_0f7a4_7 : decode cJ6_bitCount_0f7a4 7 = .ok (.iand, 1) := by decide +kernel
theorem dJ6_bitCount_0f7a4_8 : decode cJ6_bitCount_0f7a4 8 = .ok (.isub, 1) := by decide +kernel
theorem dJ6_bitCount_0f7a4_9 : decode cJ6_bitCount_0f7a4 9 = .ok (.istore_n 0, 1) := by decide +kernel
theorem dJ6_bitCount_0f7a4_10 : decode cJ6_bitCount_0f7a4 10 = .ok (.iload_n 0, 1) := by decide +kernel
theorem dJ6_bitCount_0f7a4_11 : decode cJ6_bitCount_0f7a4 11 = .ok (.ldc_w 266, 3) := by decide +kernel
theorem dJ6_bitCount_0f7a4_14 : decode cJ6_bitCount_0f7a4 14 = .ok (.iand, 1) := by decide +kernel
theorem dJ6_bitCount_0f7a4_15 : decode cJ6_bitCount_0f7a4 15 = .ok (.iload_n 0, 1) := by decide +kernel
theorem dJ6_bitCount_0f7a4_16 : decode cJ6_bitCount_0f7a4 16 = .ok (.iconst 2, 1) := by decide +kernel
theorem dJ6_bitCount_0f7a4_17 : decode cJ6_bitCount_0f7a4 17 = .ok (.iushr, 1) := by decide +kernel
theorem dJ6_bitCount_0f7a4_18 : decode cJ6_bitCount_0f7a4 18 = .ok (.ldc_w 266, 3) := by decide +kernel
theorem dJ6_bitCount_0f7a4_21 : decode cJ6_bitCount_0f7a4 21 = .ok (.iand, 1) := by decide +kernel
theorem dJ6_bitCount_0f7a4_22 : decode cJ6_bitCount_0f7a4 22 = .ok (.iadd, 1) := by decide +kernel
theorem dJ6_bitCount_0f7a4_23 : decode cJ6_bitCount_0f7a4 23 = .ok (.istore_n 0, 1) := by decide +kernel
theorem dJ6_bitCount_0f7a4_24 : decode cJ6_bitCount_0f7a4 24 = .ok (.iload_n 0, 1) := by decide +kernel
theorem dJ6_bitCount_0f7a4_25 : decode cJ6_bitCount_0f7a4 25 = .ok (.iload_n 0, 1) := by decide +kernel
theorem dJ6_bitCount_0f7a4_26 : decode cJ6_bitCount_0f7a4 26 = .ok (.iconst 4, 1) := by decide +kernel
theorem dJ6_bitCount_0f7a4_27 : decode cJ6_bitCount_0f7a4 27 = .ok (.iushr, 1) := by decide +kernel
theorem dJ6_bitCount_0f7a4_28 : decode cJ6_bitCount_0f7a4 28 = .ok (.iadd, 1) := by decide +kernel
theorem dJ6_bitCount_0f7a4_29 : decode cJ6_bitCount_0f7a4 29 = .ok (.ldc_w 267, 3) := by decide +kernel
theorem dJ6_bitCount_0f7a4_32 : decode cJ6_bitCount_0f7a4 32 = .ok (.iand, 1) := by decide +kernel
theorem dJ6_bitCount_0f7a4_33 : decode cJ6_bitCount_0f7a4 33 = .ok (.istore_n 0, 1) := by decide +kernel
theorem dJ6_bitCount_0f7a4_34 : decode cJ6_bitCount_0f7a4 34 = .ok (.iload_n 0, 1) := by decide +kernel
theorem dJ6_bitCount_0f7a4_35 : decode cJ6_bitCount_0f7a4 35 = .ok (.iload_n 0, 1) := by decide +kernel
theorem dJ6_bitCount_0f7a4_36 : decode cJ6_bitCount_0f7a4 36 = .ok (.bipush 8, 2) := by decide +kernel
theorem dJ6_bitCount_0f7a4_38 : decode cJ6_bitCount_0f7a4 38 = .ok (.iushr, 1) := by decide +kernel
theorem dJ6_bitCount_0f7a4_39 : decode cJ6_bitCount_0f7a4 39 = .ok (.iadd, 1) := by decide +kernel
theorem dJ6_bitCount_0f7a4_40 : decode cJ6_bitCount_0f7a4 40 = .ok (.istore_n 0, 1) := by decide +kernel
theorem dJ6_bitCount_0f7a4_41 : decode cJ6_bitCount_0f7a4 41 = .ok (.iload_n 0, 1) := by decide +kernel
theorem dJ6_bitCount_0f7a4_42 : decode cJ6_bitCount_0f7a4 42 = .ok (.iload_n 0, 1) := by decide +kernel
theorem dJ6_bitCount_0f7a4_43 : decode cJ6_bitCount_0f7a4 43 = .ok (.bipush 16, 2) := by decide +kernel
theorem dJ6_bitCount_0f7a4_45 : decode cJ6_bitCount_0f7a4 45 = .ok (.iushr, 1) := by decide +kernel
theorem dJ6_bitCount_0f7a4_46 : decode cJ6_bitCount_0f7a4 46 = .ok (.iadd, 1) := by decide +kernel
theorem dJ6_bitCount_0f7a4_47 : decode cJ6_bitCount_0f7a4 47 = .ok (.istore_n 0, 1) := by decide +kernel
theorem dJ6_bitCount_0f7a4_48 : decode cJ6_bitCount_0f7a4 48 = .ok (.iload_n 0, 1) := by decide +kernel
theorem dJ6_bitCount_0f7a4_49 : decode cJ6_bitCount_0f7a4 49 = .ok (.bipush 63, 2) := by decide +kernel
theorem dJ6_bitCount_0f7a4_51 : decode cJ6_bitCount_0f7a4 51 = .ok (.iand, 1) := by decide +kernel
theorem dJ6_bitCount_0f7a4_52 : decode cJ6_bitCount_0f7a4 52 = .ok (.ireturn, 1) := by decide +kernel
theorem dJ7_fill_d0a16_0 : decode cJ7_fill_d0a16 0 = .ok (.iconst 0, 1) := by decide +kernel
theorem dJ7_fill_d0a16_1 : decode cJ7_fill_d0a16 1 = .ok (.istore_n 3, 1) := by decide +kernel
theorem dJ7_fill_d0a16_2 : decode cJ7_fill_d0a16 2 = .ok (.aload_n 0, 1) := by decide +kernel
theorem dJ7_fill_d0a16_3 : decode cJ7_fill_d0a16 3 = .ok (.arraylength, 1) := by decide +kernel
theorem dJ7_fill_d0a16_4 : decode cJ7_fill_d0a16 4 = .ok (.istore 4, 2) := by decide +kernel
theorem dJ7_fill_d0a16_6 : decode cJ7_fill_d0a16 6 = .ok (.iload_n 3, 1) := by decide +kernel
theorem dJ7_fill_d0a16_7 : decode cJ7_fill_d0a16 7 = .ok (.iload 4, 2) := by decide +kernel
theorem dJ7_fill_d0a16_9 : decode cJ7_fill_d0a16 9 = .ok (.if_icmp .ge 13, 3) := by decide +kernel
theorem dJ7_fill_d0a16_12 : decode cJ7_fill_d0a16 12 = .ok (.aload_n 0, 1) := by decide +kernel
theorem dJ7_fill_d0a16_13 : decode cJ7_fill_d0a16 13 = .ok (.iload_n 3, 1) := by decide +kernel
theorem dJ7_fill_d0a16_14 : decode cJ7_fill_d0a16 14 = .ok (.lload_n 1, 1) := by decide +kernel
theorem dJ7_fill_d0a16_15 : decode cJ7_fill_d0a16 15 = .ok (.lastore, 1) := by decide +kernel
theorem dJ7_fill_d0a16_16 : decode cJ7_fill_d0a16 16 = .ok (.iinc 3 1, 3) := by decide +kernel
theorem dJ7_fill_d0a16_19 : decode cJ7_fill_d0a16 19 = .ok (.goto (-13), 3) := by decide +kernel
theorem dJ7_fill_d0a16_22 : decode cJ7_fill_d0a16 22 = .ok (.return_, 1) := by decide +kernel
theorem dJ7_fill_53178_0 : decode cJ7_fill_53178 0 = .ok (.iconst 0, 1) := by decide +kernel
theorem dJ7_fill_53178_1 : decode cJ7_fill_53178 1 = .ok (.istore_n 2, 1) := by decide +kernel
theorem dJ7_fill_53178_2 : decode cJ7_fill_53178 2 = .ok (.aload_n 0, 1) := by decide +kernel
theorem dJ7_fill_53178_3 : decode cJ7_fill_53178 3 = .ok (.arraylength, 1) := by decide +kernel
theorem dJ7_fill_53178_4 : decode cJ7_fill_53178 4 = .ok (.istore_n 3, 1) := by decide +kernel
theorem dJ7_fill_53178_5 : decode cJ7_fill_53178 5 = .ok (.iload_n 2, 1) := by decide +kernel
theorem dJ7_fill_53178_6 : decode cJ7_fill_53178 6 = .ok (.iload_n 3, 1) := by decide +kernel
theorem dJ7_fill_53178_7 : decode cJ7_fill_53178 7 = .ok (.if_icmp .ge 13, 3) := by decide +kernel
theorem dJ7_fill_53178_10 : decode cJ7_fill_53178 10 = .ok (.aload_n 0, 1) := by decide +kernel
theorem dJ7_fill_53178_11 : decode cJ7_fill_53178 11 = .ok (.iload_n 2, 1) := by decide +kernel
theorem dJ7_fill_53178_12 : decode cJ7_fill_53178 12 = .ok (.iload_n 1, 1) := by decide +kernel
theorem dJ7_fill_53178_13 : decode cJ7_fill_53178 13 = .ok (.iastore, 1) := by decide +kernel
theorem dJ7_fill_53178_14 : decode cJ7_fill_53178 14 = .ok (.iinc 2 1, 3) := by decide +kernel
theorem dJ7_fill_53178_17 : decode cJ7_fill_53178 17 = .ok (.goto (-12), 3) := by decide +kernel
theorem dJ7_fill_53178_20 : decode cJ7_fill_53178 20 = .ok (.return_, 1) := by decide +kernel
