theorem dX11_dotComes_34 : decode cX11_dotComes 34 = .ok (.iload_n 2, 1) := by decide +kernel
theorem dX11_dotComes_35 : decode cX11_dotComes 35 = .ok (.laload, 1) := by decide +kernel
theorem dX11_dotComes_36 : decode cX11_dotComes 36 = .ok (.l2i, 1) := by decide +kernel
theorem dX11_dotComes_37 : decode cX11_dotComes 37 = .ok (.istore_n 3, 1) := by decide +kernel
theorem dX11_dotComes_38 : decode cX11_dotComes 38 = .ok (.aload_n 0, 1) := by decide +kernel
theorem dX11_dotComes_39 : decode cX11_dotComes 39 = .ok (.getfield 82, 3) := by decide +kernel
theorem dX11_dotComes_42 : decode cX11_dotComes 42 = .ok (.getfield 240, 3) := by decide +kernel
theorem dX11_dotComes_45 : decode cX11_dotComes 45 = .ok (.iload_n 1, 1) := by decide +kernel
theorem dX11_dotComes_46 : decode cX11_dotComes 46 = .ok (.aaload, 1) := by decide +kernel
theorem dX11_dotComes_47 : decode cX11_dotComes 47 = .ok (.iload_n 2, 1) := by decide +kernel
theorem dX11_dotComes_48 : decode cX11_dotComes 48 = .ok (.iconst 1, 1) := by decide +kernel
theorem dX11_dotComes_49 : decode cX11_dotComes 49 = .ok (.iadd, 1) := by decide +kernel
theorem dX11_dotComes_50 : decode cX11_dotComes 50 = .ok (.laload, 1) := by decide +kernel
theorem dX11_dotComes_51 : decode cX11_dotComes 51 = .ok (.l2i, 1) := by decide +kernel
theorem dX11_dotComes_52 : decode cX11_dotComes 52 = .ok (.istore 4, 2) := by decide +kernel
theorem dX11_dotComes_54 : decode cX11_dotComes 54 = .ok (.aload_n 0, 1) := by decide +kernel
theorem dX11_dotComes_55 : decode cX11_dotComes 55 = .ok (.getfield 82, 3) := by decide +kernel
theorem dX11_dotComes_58 : decode cX11_dotComes 58 = .ok (.getfield 240, 3) := by decide +kernel
theorem dX11_dotComes_61 : decode cX11_dotComes 61 = .ok (.iload_n 1, 1) := by decide +kernel
theorem dX11_dotComes_62 : decode cX11_dotComes 62 = .ok (.aaload, 1) := by decide +kernel
theorem dX11_dotComes_63 : decode cX11_dotComes 63 = .ok (.iload_n 2, 1) := by decide +kernel
theorem dX11_dotComes_64 : decode cX11_dotComes 64 = .ok (.iconst 2, 1) := by decide +kernel
theorem dX11_dotComes_65 : decode cX11_dotComes 65 = .ok (.iadd, 1) := by decide +kernel
theorem dX11_dotComes_66 : decode cX11_dotComes 66 = .ok (.laload, 1) := by decide +kernel
theorem dX11_dotComes_67 : decode cX11_dotComes 67 = .ok (.l2i, 1) := by decide +kernel
theorem dX11_dotComes_68 : decode cX11_dotComes 68 = .ok (.istore 5, 2) := by decide +kernel
theorem dX11_dotComes_70 : decode cX11_dotComes 70 = .ok (.iload_n 3, 1) := by decide +kernel
theorem dX11_dotComes_71 : decode cX11_dotComes 71 = .ok (.iload 4, 2) := by decide +kernel
theorem dX11_dotComes_73 : decode cX11_dotComes 73 = .ok (.iload 5, 2) := by decide +kernel
theorem dX11_dotComes_75 : decode cX11_dotComes 75 = .ok (.invokestatic 210, 3) := by decide +kernel
theorem dX11_dotComes_78 : decode cX11_dotComes 78 = .ok (.ifCond .ne 5, 3) := by decide +kernel
theorem dX11_dotComes_81 : decode cX11_dotComes 81 = .ok (.iconst 0, 1) := by decide +kernel
theorem dX11_dotComes_82 : decode cX11_dotComes 82 = .ok (.ireturn, 1) := by decide +kernel
theorem dX11_dotComes_83 : decode cX11_dotComes 83 = .ok (.aload_n 0, 1) := by decide +kernel
theorem dX11_dotComes_84 : decode cX11_dotComes 84 = .ok (.getfield 33, 3) := by decide +kernel
theorem dX11_dotComes_87 : decode cX11_dotComes 87 = .ok (.iload_n 3, 1) := by decide +kernel
theorem dX11_dotComes_88 : decode cX11_dotComes 88 = .ok (.iload 4, 2) := by decide +kernel
theorem dX11_dotComes_90 : decode cX11_dotComes 90 = .ok (.iload 5, 2) := by decide +kernel
theorem dX11_dotComes_92 : decode cX11_dotComes 92 = .ok (.invokevirtual 213, 3) := by decide +kernel
theorem dX11_dotComes_95 : decode cX11_dotComes 95 = .ok (.pop, 1) := by decide +kernel
theorem dX11_dotComes_96 : decode cX11_dotComes 96 = .ok (.iconst 1, 1) := by decide +kernel
theorem dX11_dotComes_97 : decode cX11_dotComes 97 = .ok (.ireturn, 1) := by decide +kernel
set_option maxRecDepth 20000 in
theorem ggX11_mean_X11_within : GoodIn wsX11_mean wsX11_within := goodIn_r _ [5] (by decide +kernel) (by decide +kernel)
set_option maxRecDepth 20000 in
theorem gX11_mean_X11_within : GoodIn wsX11_mean (va_wsS RX11 113 yX11_within wsX11_within) := goodIn_app (goodIn_of _ (by decide +kernel)) ggX11_mean_X11_within
set_option maxRecDepth 20000 in
theorem ggX11_mean_X2_meanOf : GoodIn wsX11_mean wsX2_meanOf := goodIn_r _ [10, 11, 12, 13, 14, 15, 4, 16, 29, 30, 31, 32, 33, 34, 35, 36] (by decide +kernel) (by decide +kernel)
set_option maxRecDepth 20000 in
theorem gX11_mean_X2_meanOf : GoodIn wsX11_mean (wsV RX11 244 RX2 yX2_meanOf wsX2_meanOf) := goodIn_app (goodIn_of _ (by decide +kernel)) ggX11_mean_X2_meanOf
theorem dX11_mean_0 : decode cX11_mean 0 = .ok (.iload_n 1, 1) := by decide +kernel
theorem dX11_mean_1 : decode cX11_mean 1 = .ok (.bipush 10, 2) := by decide +kernel
theorem dX11_mean_3 : decode cX11_mean 3 = .ok (.idiv, 1) := by decide +kernel
theorem dX11_mean_4 : decode cX11_mean 4 = .ok (.istore_n 2, 1) := by decide +kernel
theorem dX11_mean_5 : decode cX11_mean 5 = .ok (.iload_n 1, 1) := by decide +kernel
theorem dX11_mean_6 : decode cX11_mean 6 = .ok (.bipush 10, 2) := by decide +kernel
theorem dX11_mean_8 : decode cX11_mean 8 = .ok (.irem, 1) := by decide +kernel
theorem dX11_mean_9 : decode cX11_mean 9 = .ok (.istore_n 3, 1) := by decide +kernel
theorem dX11_mean_10 : decode cX11_mean 10 = .ok (.iload_n 2, 1) := by decide +kernel
theorem dX11_mean_11 : decode cX11_mean 11 = .ok (.iconst 0, 1) := by decide +kernel
theorem dX11_mean_12 : decode cX11_mean 12 = .ok (.iconst 5, 1) := by decide +kernel
theorem dX11_mean_13 : decode cX11_mean 13 = .ok (.invokestatic 113, 3) := by decide +kernel
theorem dX11_mean_16 : decode cX11_mean 16 = .ok (.ifCond .eq 13, 3) := by decide +kernel
theorem dX11_mean_19 : decode cX11_mean 19 = .ok (.iload_n 3, 1) := by decide +kernel
theorem dX11_mean_20 : decode cX11_mean 20 = .ok (.iconst 0, 1) := by decide +kernel
theorem dX11_mean_21 : decode cX11_mean 21 = .ok (.bipush 7, 2) := by decide +kernel
theorem dX11_mean_23 : decode cX11_mean 23 = .ok (.invokestatic 113, 3) := by decide +kernel
theorem dX11_mean_26 : decode cX11_mean 26 = .ok (.ifCond .ne 5, 3) := by decide +kernel
theorem dX11_mean_29 : decode cX11_mean 29 = .ok (.iconst (-1), 1) := by decide +kernel
theorem dX11_mean_30 : decode cX11_mean 30 = .ok (.ireturn, 1) := by decide +kernel
theorem dX11_mean_31 : decode cX11_mean 31 = .ok (.aload_n 0, 1) := by decide +kernel
theorem dX11_mean_32 : decode cX11_mean 32 = .ok (.getfield 33, 3) := by decide +kernel
theorem dX11_mean_35 : decode cX11_mean 35 = .ok (.iload_n 2, 1) := by decide +kernel
theorem dX11_mean_36 : decode cX11_mean 36 = .ok (.iconst 5, 1) := by decide +kernel
theorem dX11_mean_37 : decode cX11_mean 37 = .ok (.if_icmp .ne 8, 3) := by decide +kernel
theorem dX11_mean_40 : decode cX11_mean 40 = .ok (.bipush 31, 2) := by decide +kernel
theorem dX11_mean_42 : decode cX11_mean 42 = .ok (.goto 6, 3) := by decide +kernel
theorem dX11_mean_45 : decode cX11_mean 45 = .ok (.iconst 1, 1) := by decide +kernel
theorem dX11_mean_46 : decode cX11_mean 46 = .ok (.iload_n 2, 1) := by decide +kernel
theorem dX11_mean_47 : decode cX11_mean 47 = .ok (.ishl, 1) := by decide +kernel
theorem dX11_mean_48 : decode cX11_mean 48 = .ok (.iconst 1, 1) := by decide +kernel
theorem dX11_mean_49 : decode cX11_mean 49 = .ok (.iload_n 3, 1) := by decide +kernel
theorem dX11_mean_50 : decode cX11_mean 50 = .ok (.ishl, 1) := by decide +kernel
theorem dX11_mean_51 : decode cX11_mean 51 = .ok (.invokevirtual 244, 3) := by decide +kernel
theorem dX11_mean_54 : decode cX11_mean 54 = .ok (.ireturn, 1) := by decide +kernel
set_option maxRecDepth 20000 in
theorem ggX11_odd_X11_within : GoodIn wsX11_odd wsX11_within := goodIn_r _ [5] (by decide +kernel) (by decide +kernel)
set_option maxRecDepth 20000 in
theorem gX11_odd_X11_within : GoodIn wsX11_odd (va_wsS RX11 113 yX11_within wsX11_within) := goodIn_app (goodIn_of _ (by decide +kernel)) ggX11_odd_X11_within
set_option maxRecDepth 20000 in
theorem ggX11_odd_X2_oddOnes : GoodIn wsX11_odd wsX2_oddOnes := goodIn_r _ [10, 11, 12, 13, 14, 15, 16, 17, 18, 4, 19, 32, 33, 34, 35, 36, 37, 38, 39] (by decide +kernel) (by decide +kernel)
set_option maxRecDepth 20000 in
theorem gX11_odd_X2_oddOnes : GoodIn wsX11_odd (wsV RX11 247 RX2 yX2_oddOnes wsX2_oddOnes) := goodIn_app (goodIn_of _ (by decide +kernel)) ggX11_odd_X2_oddOnes
theorem dX11_odd_0 : decode cX11_odd 0 = .ok (.iload_n 1, 1) := by decide +kernel
theorem dX11_odd_1 : decode cX11_odd 1 = .ok (.iconst 0, 1) := by decide +kernel
theorem dX11_odd_2 : decode cX11_odd 2 = .ok (.bipush 6, 2) := by decide +kernel
theorem dX11_odd_4 : decode cX11_odd 4 = .ok (.invokestatic 113, 3) := by decide +kernel
theorem dX11_odd_7 : decode cX11_odd 7 = .ok (.ifCond .ne 5, 3) := by decide +kernel
theorem dX11_odd_10 : decode cX11_odd 10 = .ok (.iconst (-1), 1) := by decide +kernel
theorem dX11_odd_11 : decode cX11_odd 11 = .ok (.ireturn, 1) := by decide +kernel
theorem dX11_odd_12 : decode cX11_odd 12 = .ok (.aload_n 0, 1) := by decide +kernel
theorem dX11_odd_13 : decode cX11_odd 13 = .ok (.getfield 33, 3) := by decide +kernel
theorem dX11_odd_16 : decode cX11_odd 16 = .ok (.iload_n 1, 1) := by decide +kernel
theorem dX11_odd_17 : decode cX11_odd 17 = .ok (.invokevirtual 247, 3) := by decide +kernel
theorem dX11_odd_20 : decode cX11_odd 20 = .ok (.ireturn, 1) := by decide +kernel
set_option maxRecDepth 20000 in
theorem ggX11_chance_X11_within : GoodIn wsX11_chance wsX11_within := goodIn_r _ [5] (by decide +kernel) (by decide +kernel)
set_option maxRecDepth 20000 in
theorem gX11_chance_X11_within : GoodIn wsX11_chance (va_wsS RX11 113 yX11_within wsX11_within) := goodIn_app (goodIn_of _ (by decide +kernel)) ggX11_chance_X11_within
set_option maxRecDepth 20000 in
theorem ggX11_chance_X2_howMany : GoodIn wsX11_chance wsX2_howMany := goodIn_r _ [10, 11, 12, 13, 4, 14, 49, 50, 51, 52, 53, 54, 55, 56] (by decide +kernel) (by decide +kernel)
set_option maxRecDepth 20000 in
theorem gX11_chance_X2_howMany : GoodIn wsX11_chance (wsV RX11 250 RX2 yX2_howMany wsX2_howMany) := goodIn_app (goodIn_of _ (by decide +kernel)) ggX11_chance_X2_howMany
set_option maxRecDepth 20000 in
theorem ggX11_chance_X2_byChance : GoodIn wsX11_chance wsX2_byChance := goodIn_r _ [18, 19, 20, 21, 9, 22, 11, 12, 23, 24, 25, 26, 27, 28, 29, 30, 31, 32, 33, 34, 4, 35, 36, 13, 14, 49, 50, 51, 52, 53, 54, 55, 56] (by decide +kernel) (by decide +kernel)
set_option maxRecDepth 20000 in
theorem gX11_chance_X2_byChance : GoodIn wsX11_chance (wsV RX11 252 RX2 yX2_byChance wsX2_byChance) := goodIn_app (goodIn_of _ (by decide +kernel)) ggX11_chance_X2_byChance
theorem dX11_chance_0 : decode cX11_chance 0 = .ok (.iload_n 1, 1) := by decide +kernel
theorem dX11_chance_1 : decode cX11_chance 1 = .ok (.iconst 0, 1) := by decide +kernel
theorem dX11_chance_2 : decode cX11_chance 2 = .ok (.bipush 6, 2) := by decide +kernel
theorem dX11_chance_4 : decode cX11_chance 4 = .ok (.invokestatic 113, 3) := by decide +kernel
theorem dX11_chance_7 : decode cX11_chance 7 = .ok (.ifCond .eq 13, 3) := by decide +kernel
theorem dX11_chance_10 : decode cX11_chance 10 = .ok (.iload_n 3, 1) := by decide +kernel
theorem dX11_chance_11 : decode cX11_chance 11 = .ok (.iconst 1, 1) := by decide +kernel
theorem dX11_chance_12 : decode cX11_chance 12 = .ok (.bipush 50, 2) := by decide +kernel
theorem dX11_chance_14 : decode cX11_chance 14 = .ok (.invokestatic 113, 3) := by decide +kernel
theorem dX11_chance_17 : decode cX11_chance 17 = .ok (.ifCond .ne 5, 3) := by decide +kernel
theorem dX11_chance_20 : decode cX11_chance 20 = .ok (.iconst (-1), 1) := by decide +kernel
theorem dX11_chance_21 : decode cX11_chance 21 = .ok (.ireturn, 1) := by decide +kernel
theorem dX11_chance_22 : decode cX11_chance 22 = .ok (.aload_n 0, 1) := by decide +kernel
theorem dX11_chance_23 : decode cX11_chance 23 = .ok (.getfield 33, 3) := by decide +kernel
theorem dX11_chance_26 : decode cX11_chance 26 = .ok (.iload_n 1, 1) := by decide +kernel
theorem dX11_chance_27 : decode cX11_chance 27 = .ok (.invokevirtual 250, 3) := by decide +kernel
theorem dX11_chance_30 : decode cX11_chance 30 = .ok (.ifCond .eq 15, 3) := by decide +kernel
theorem dX11_chance_33 : decode cX11_chance 33 = .ok (.aload_n 0, 1) := by decide +kernel
theorem dX11_chance_34 : decode cX11_chance 34 = .ok (.getfield 33, 3) := by decide +kernel
theorem dX11_chance_37 : decode cX11_chance 37 = .ok (.bipush 7, 2) := by decide +kernel
theorem dX11_chance_39 : decode cX11_chance 39 = .ok (.invokevirtual 250, 3) := by decide +kernel
theorem dX11_chance_42 : decode cX11_chance 42 = .ok (.ifCond .ne 6, 3) := by decide +kernel
theorem dX11_chance_45 : decode cX11_chance 45 = .ok (.bipush (-2), 2) := by decide +kernel
theorem dX11_chance_47 : decode cX11_chance 47 = .ok (.ireturn, 1) := by decide +kernel
theorem dX11_chance_48 : decode cX11_chance 48 = .ok (.aload_n 0, 1) := by decide +kernel
theorem dX11_chance_49 : decode cX11_chance 49 = .ok (.getfield 33, 3) := by decide +kernel
theorem dX11_chance_52 : decode cX11_chance 52 = .ok (.iload_n 1, 1) := by decide +kernel
theorem dX11_chance_53 : decode cX11_chance 53 = .ok (.iload_n 2, 1) := by decide +kernel
theorem dX11_chance_54 : decode cX11_chance 54 = .ok (.iload_n 3, 1) := by decide +kernel
theorem dX11_chance_55 : decode cX11_chance 55 = .ok (.invokevirtual 252, 3) := by decide +kernel
theorem dX11_chance_58 : decode cX11_chance 58 = .ok (.ireturn, 1) := by decide +kernel
set_option maxRecDepth 20000 in
theorem ggX11_chosen_X11_within : GoodIn wsX11_chosen wsX11_within := goodIn_r _ [6] (by decide +kernel) (by decide +kernel)
set_option maxRecDepth 20000 in
theorem gX11_chosen_X11_within : GoodIn wsX11_chosen (va_wsS RX11 113 yX11_within wsX11_within) := goodIn_app (goodIn_of _ (by decide +kernel)) ggX11_chosen_X11_within
set_option maxRecDepth 20000 in
theorem ggX11_chosen_X2_meanOf : GoodIn wsX11_chosen wsX2_meanOf := goodIn_r _ [11, 12, 13, 14, 15, 16, 5, 17, 30, 31, 32, 33, 34, 35, 36, 37] (by decide +kernel) (by decide +kernel)
set_option maxRecDepth 20000 in
theorem gX11_chosen_X2_meanOf : GoodIn wsX11_chosen (wsV RX11 244 RX2 yX2_meanOf wsX2_meanOf) := goodIn_app (goodIn_of _ (by decide +kernel)) ggX11_chosen_X2_meanOf
theorem dX11_chosen_0 : decode cX11_chosen 0 = .ok (.iload_n 1, 1) := by decide +kernel
theorem dX11_chosen_1 : decode cX11_chosen 1 = .ok (.iconst 0, 1) := by decide +kernel
theorem dX11_chosen_2 : decode cX11_chosen 2 = .ok (.iconst 4, 1) := by decide +kernel
theorem dX11_chosen_3 : decode cX11_chosen 3 = .ok (.invokestatic 113, 3) := by decide +kernel
theorem dX11_chosen_6 : decode cX11_chosen 6 = .ok (.ifCond .ne 6, 3) := by decide +kernel
theorem dX11_chosen_9 : decode cX11_chosen 9 = .ok (.ldc 255, 2) := by decide +kernel
theorem dX11_chosen_11 : decode cX11_chosen 11 = .ok (.ireturn, 1) := by decide +kernel
theorem dX11_chosen_12 : decode cX11_chosen 12 = .ok (.aload_n 0, 1) := by decide +kernel
theorem dX11_chosen_13 : decode cX11_chosen 13 = .ok (.getfield 33, 3) := by decide +kernel
theorem dX11_chosen_16 : decode cX11_chosen 16 = .ok (.iconst 1, 1) := by decide +kernel
theorem dX11_chosen_17 : decode cX11_chosen 17 = .ok (.iload_n 1, 1) := by decide +kernel
theorem dX11_chosen_18 : decode cX11_chosen 18 = .ok (.ishl, 1) := by decide +kernel
theorem dX11_chosen_19 : decode cX11_chosen 19 = .ok (.bipush 63, 2) := by decide +kernel
theorem dX11_chosen_21 : decode cX11_chosen 21 = .ok (.invokevirtual 244, 3) := by decide +kernel
theorem dX11_chosen_24 : decode cX11_chosen 24 = .ok (.istore_n 2, 1) := by decide +kernel
theorem dX11_chosen_25 : decode cX11_chosen 25 = .ok (.aload_n 0, 1) := by decide +kernel
theorem dX11_chosen_26 : decode cX11_chosen 26 = .ok (.getfield 33, 3) := by decide +kernel
theorem dX11_chosen_29 : decode cX11_chosen 29 = .ok (.bipush 31, 2) := by decide +kernel
theorem dX11_chosen_31 : decode cX11_chosen 31 = .ok (.iconst 1, 1) := by decide +kernel
theorem dX11_chosen_32 : decode cX11_chosen 32 = .ok (.iload_n 1, 1) := by decide +kernel
theorem dX11_chosen_33 : decode cX11_chosen 33 = .ok (.ishl, 1) := by decide +kernel
theorem dX11_chosen_34 : decode cX11_chosen 34 = .ok (.iconst (-1), 1) := by decide +kernel
theorem dX11_chosen_35 : decode cX11_chosen 35 = .ok (.ixor, 1) := by decide +kernel
theorem dX11_chosen_36 : decode cX11_chosen 36 = .ok (.iand, 1) := by decide +kernel
theorem dX11_chosen_37 : decode cX11_chosen 37 = .ok (.bipush 63, 2) := by decide +kernel
theorem dX11_chosen_39 : decode cX11_chosen 39 = .ok (.invokevirtual 244, 3) := by decide +kernel
theorem dX11_chosen_42 : decode cX11_chosen 42 = .ok (.istore_n 3, 1) := by decide +kernel
theorem dX11_chosen_43 : decode cX11_chosen 43 = .ok (.iload_n 2, 1) := by decide +kernel
theorem dX11_chosen_44 : decode cX11_chosen 44 = .ok (.bipush (-2), 2) := by decide +kernel
theorem dX11_chosen_46 : decode cX11_chosen 46 = .ok (.if_icmp .eq 9, 3) := by decide +kernel
theorem dX11_chosen_49 : decode cX11_chosen 49 = .ok (.iload_n 3, 1) := by decide +kernel
theorem dX11_chosen_50 : decode cX11_chosen 50 = .ok (.bipush (-2), 2) := by decide +kernel
theorem dX11_chosen_52 : decode cX11_chosen 52 = .ok (.if_icmp .ne 8, 3) := by decide +kernel
theorem dX11_chosen_55 : decode cX11_chosen 55 = .ok (.ldc 255, 2) := by decide +kernel
theorem dX11_chosen_57 : decode cX11_chosen 57 = .ok (.goto 6, 3) := by decide +kernel
theorem dX11_chosen_60 : decode cX11_chosen 60 = .ok (.iload_n 2, 1) := by decide +kernel
theorem dX11_chosen_61 : decode cX11_chosen 61 = .ok (.iload_n 3, 1) := by decide +kernel
theorem dX11_chosen_62 : decode cX11_chosen 62 = .ok (.isub, 1) := by decide +kernel
theorem dX11_chosen_63 : decode cX11_chosen 63 = .ok (.ireturn, 1) := by decide +kernel
set_option maxRecDepth 20000 in
theorem ggX11_made_X11_within : GoodIn wsX11_made wsX11_within := goodIn_r _ [7] (by decide +kernel) (by decide +kernel)
set_option maxRecDepth 20000 in
theorem gX11_made_X11_within : GoodIn wsX11_made (va_wsS RX11 113 yX11_within wsX11_within) := goodIn_app (goodIn_of _ (by decide +kernel)) ggX11_made_X11_within
set_option maxRecDepth 20000 in
theorem ggX11_made_X11_isStuff : GoodIn wsX11_made wsX11_isStuff := goodIn_r _ [10, 4, 5, 6, 7] (by decide +kernel) (by decide +kernel)
set_option maxRecDepth 20000 in
theorem gX11_made_X11_isStuff : GoodIn wsX11_made (va_wsS RX11 218 yX11_isStuff wsX11_isStuff) := goodIn_app (goodIn_of _ (by decide +kernel)) ggX11_made_X11_isStuff
theorem dX11_made_0 : decode cX11_made 0 = .ok (.iload_n 1, 1) := by decide +kernel
theorem dX11_made_1 : decode cX11_made 1 = .ok (.iconst 0, 1) := by decide +kernel
theorem dX11_made_2 : decode cX11_made 2 = .ok (.sipush 2001, 3) := by decide +kernel
theorem dX11_made_5 : decode cX11_made 5 = .ok (.invokestatic 113, 3) := by decide +kernel
theorem dX11_made_8 : decode cX11_made 8 = .ok (.ifCond .eq 10, 3) := by decide +kernel
theorem dX11_made_11 : decode cX11_made 11 = .ok (.iload_n 2, 1) := by decide +kernel
theorem dX11_made_12 : decode cX11_made 12 = .ok (.invokestatic 218, 3) := by decide +kernel
theorem dX11_made_15 : decode cX11_made 15 = .ok (.ifCond .ne 5, 3) := by decide +kernel
theorem dX11_made_18 : decode cX11_made 18 = .ok (.iconst (-1), 1) := by decide +kernel
theorem dX11_made_19 : decode cX11_made 19 = .ok (.ireturn, 1) := by decide +kernel
theorem dX11_made_20 : decode cX11_made 20 = .ok (.aload_n 0, 1) := by decide +kernel
theorem dX11_made_21 : decode cX11_made 21 = .ok (.getfield 33, 3) := by decide +kernel
theorem dX11_made_24 : decode cX11_made 24 = .ok (.getfield 256, 3) := by decide +kernel
theorem dX11_made_27 : decode cX11_made 27 = .ok (.istore_n 3, 1) := by decide +kernel
theorem dX11_made_28 : decode cX11_made 28 = .ok (.aload_n 0, 1) := by decide +kernel
theorem dX11_made_29 : decode cX11_made 29 = .ok (.getfield 33, 3) := by decide +kernel
theorem dX11_made_32 : decode cX11_made 32 = .ok (.iload_n 1, 1) := by decide +kernel
theorem dX11_made_33 : decode cX11_made 33 = .ok (.putfield 256, 3) := by decide +kernel
theorem dX11_made_36 : decode cX11_made 36 = .ok (.aload_n 0, 1) := by decide +kernel
theorem dX11_made_37 : decode cX11_made 37 = .ok (.getfield 33, 3) := by decide +kernel
theorem dX11_made_40 : decode cX11_made 40 = .ok (.iload_n 2, 1) := by decide +kernel
theorem dX11_made_41 : decode cX11_made 41 = .ok (.putfield 259, 3) := by decide +kernel
theorem dX11_made_44 : decode cX11_made 44 = .ok (.iload_n 3, 1) := by decide +kernel
theorem dX11_made_45 : decode cX11_made 45 = .ok (.ireturn, 1) := by decide +kernel
set_option maxRecDepth 20000 in
theorem ggX11_bars_X11_isInk : GoodIn wsX11_bars wsX11_isInk := goodIn_r _ [5, 6, 7, 4, 8] (by decide +kernel) (by decide +kernel)
set_option maxRecDepth 20000 in
theorem gX11_bars_X11_isInk : GoodIn wsX11_bars (va_wsS RX11 170 yX11_isInk wsX11_isInk) := goodIn_app (goodIn_of _ (by decide +kernel)) ggX11_bars_X11_isInk
set_option maxRecDepth 20000 in
theorem ggX11_bars_X11_isYear : GoodIn wsX11_bars wsX11_isYear := goodIn_r _ [11, 6, 7, 4, 8] (by decide +kernel) (by decide +kernel)
set_option maxRecDepth 20000 in
theorem gX11_bars_X11_isYear : GoodIn wsX11_bars (va_wsS RX11 98 yX11_isYear wsX11_isYear) := goodIn_app (goodIn_of _ (by decide +kernel)) ggX11_bars_X11_isYear
set_option maxRecDepth 20000 in
theorem ggX11_bars_X2_inkBars : GoodIn wsX11_bars wsX2_inkBars := goodIn_r _ [16, 17, 18, 19, 20, 21, 15, 22, 23, 24, 25, 26, 27, 4, 28, 44, 45, 46, 47, 48, 49, 50, 51] (by decide +kernel) (by decide +kernel)
set_option maxRecDepth 20000 in
theorem gX11_bars_X2_inkBars : GoodIn wsX11_bars (wsV RX11 262 RX2 yX2_inkBars wsX2_inkBars) := goodIn_app (goodIn_of _ (by decide +kernel)) ggX11_bars_X2_inkBars
set_option maxRecDepth 20000 in
theorem ggX11_bars_X11_asBit : GoodIn wsX11_bars wsX11_asBit := goodIn_r _ [31] (by decide +kernel) (by decide +kernel)
set_option maxRecDepth 20000 in
theorem gX11_bars_X11_asBit : GoodIn wsX11_bars (va_wsS RX11 162 yX11_asBit wsX11_asBit) := goodIn_app (goodIn_of _ (by decide +kernel)) ggX11_bars_X11_asBit
theorem dX11_bars_0 : decode cX11_bars 0 = .ok (.iload_n 1, 1) := by decide +kernel
theorem dX11_bars_1 : decode cX11_bars 1 = .ok (.invokestatic 170, 3) := by decide +kernel
theorem dX11_bars_4 : decode cX11_bars 4 = .ok (.ifCond .eq 10, 3) := by decide +kernel
theorem dX11_bars_7 : decode cX11_bars 7 = .ok (.iload_n 2, 1) := by decide +kernel
theorem dX11_bars_8 : decode cX11_bars 8 = .ok (.invokestatic 98, 3) := by decide +kernel
theorem dX11_bars_11 : decode cX11_bars 11 = .ok (.ifCond .ne 5, 3) := by decide +kernel
theorem dX11_bars_14 : decode cX11_bars 14 = .ok (.iconst (-1), 1) := by decide +kernel
theorem dX11_bars_15 : decode cX11_bars 15 = .ok (.ireturn, 1) := by decide +kernel
theorem dX11_bars_16 : decode cX11_bars 16 = .ok (.aload_n 0, 1) := by decide +kernel
theorem dX11_bars_17 : decode cX11_bars 17 = .ok (.getfield 33, 3) := by decide +kernel
theorem dX11_bars_20 : decode cX11_bars 20 = .ok (.iload_n 1, 1) := by decide +kernel
theorem dX11_bars_21 : decode cX11_bars 21 = .ok (.iload_n 2, 1) := by decide +kernel
theorem dX11_bars_22 : decode cX11_bars 22 = .ok (.invokevirtual 262, 3) := by decide +kernel
theorem dX11_bars_25 : decode cX11_bars 25 = .ok (.invokestatic 162, 3) := by decide +kernel
theorem dX11_bars_28 : decode cX11_bars 28 = .ok (.ireturn, 1) := by decide +kernel
set_option maxRecDepth 20000 in
theorem ggX11_place_X11_isYear : GoodIn wsX11_place wsX11_isYear := goodIn_r _ [5, 6, 7, 4, 8] (by decide +kernel) (by decide +kernel)
set_option maxRecDepth 20000 in
theorem gX11_place_X11_isYear : GoodIn wsX11_place (va_wsS RX11 98 yX11_isYear wsX11_isYear) := goodIn_app (goodIn_of _ (by decide +kernel)) ggX11_place_X11_isYear
set_option maxRecDepth 20000 in
theorem ggX11_place_X11_within : GoodIn wsX11_place wsX11_within := goodIn_r _ [8] (by decide +kernel) (by decide +kernel)
set_option maxRecDepth 20000 in
theorem gX11_place_X11_within : GoodIn wsX11_place (va_wsS RX11 113 yX11_within wsX11_within) := goodIn_app (goodIn_of _ (by decide +kernel)) ggX11_place_X11_within
set_option maxRecDepth 20000 in
theorem ggX11_place_X6_add : GoodIn wsX11_place wsX6_add := goodIn_r _ [13, 14, 15, 16, 17, 30, 31, 32, 33] (by decide +kernel) (by decide +kernel)
set_option maxRecDepth 20000 in
theorem gX11_place_X6_add : GoodIn wsX11_place (wsV RX11 265 RX6 yX6_add wsX6_add) := goodIn_app (goodIn_of _ (by decide +kernel)) ggX11_place_X6_add
theorem dX11_place_0 : decode cX11_place 0 = .ok (.iload_n 1, 1) := by decide +kernel
theorem dX11_place_1 : decode cX11_place 1 = .ok (.invokestatic 98, 3) := by decide +kernel
theorem dX11_place_4 : decode cX11_place 4 = .ok (.ifCond .eq 25, 3) := by decide +kernel
theorem dX11_place_7 : decode cX11_place 7 = .ok (.iload_n 2, 1) := by decide +kernel
theorem dX11_place_8 : decode cX11_place 8 = .ok (.iconst 0, 1) := by decide +kernel
theorem dX11_place_9 : decode cX11_place 9 = .ok (.sipush 9999, 3) := by decide +kernel
theorem dX11_place_12 : decode cX11_place 12 = .ok (.invokestatic 113, 3) := by decide +kernel
theorem dX11_place_15 : decode cX11_place 15 = .ok (.ifCond .eq 14, 3) := by decide +kernel
theorem dX11_place_18 : decode cX11_place 18 = .ok (.iload_n 3, 1) := by decide +kernel
theorem dX11_place_19 : decode cX11_place 19 = .ok (.iconst 0, 1) := by decide +kernel
theorem dX11_place_20 : decode cX11_place 20 = .ok (.sipush 9999, 3) := by decide +kernel
theorem dX11_place_23 : decode cX11_place 23 = .ok (.invokestatic 113, 3) := by decide +kernel
theorem dX11_place_26 : decode cX11_place 26 = .ok (.ifCond .ne 5, 3) := by decide +kernel
theorem dX11_place_29 : decode cX11_place 29 = .ok (.iconst (-1), 1) := by decide +kernel
theorem dX11_place_30 : decode cX11_place 30 = .ok (.ireturn, 1) := by decide +kernel
theorem dX11_place_31 : decode cX11_place 31 = .ok (.aload_n 0, 1) := by decide +kernel
theorem dX11_place_32 : decode cX11_place 32 = .ok (.getfield 40, 3) := by decide +kernel
theorem dX11_place_35 : decode cX11_place 35 = .ok (.iload_n 1, 1) := by decide +kernel
theorem dX11_place_36 : decode cX11_place 36 = .ok (.iload_n 2, 1) := by decide +kernel
theorem dX11_place_37 : decode cX11_place 37 = .ok (.iload_n 3, 1) := by decide +kernel
theorem dX11_place_38 : decode cX11_place 38 = .ok (.invokevirtual 265, 3) := by decide +kernel
theorem dX11_place_41 : decode cX11_place 41 = .ok (.ireturn, 1) := by decide +kernel
set_option maxRecDepth 20000 in
theorem ggX11_late_X11_isYear : GoodIn wsX11_late wsX11_isYear := goodIn_r _ [5, 6, 7, 4, 8] (by decide +kernel) (by decide +kernel)
set_option maxRecDepth 20000 in
theorem gX11_late_X11_isYear : GoodIn wsX11_late (va_wsS RX11 98 yX11_isYear wsX11_isYear) := goodIn_app (goodIn_of _ (by decide +kernel)) ggX11_late_X11_isYear
set_option maxRecDepth 20000 in
theorem ggX11_late_X11_isBit : GoodIn wsX11_late wsX11_isBit := goodIn_r _ [11] (by decide +kernel) (by decide +kernel)
set_option maxRecDepth 20000 in
theorem gX11_late_X11_isBit : GoodIn wsX11_late (va_wsS RX11 144 yX11_isBit wsX11_isBit) := goodIn_app (goodIn_of _ (by decide +kernel)) ggX11_late_X11_isBit
set_option maxRecDepth 20000 in
theorem ggX11_late_X6_lateOnes : GoodIn wsX11_late wsX6_lateOnes := goodIn_r _ [16, 17, 18, 19, 4, 20, 47, 48, 49, 50] (by decide +kernel) (by decide +kernel)
set_option maxRecDepth 20000 in
theorem gX11_late_X6_lateOnes : GoodIn wsX11_late (wsV RX11 266 RX6 yX6_lateOnes wsX6_lateOnes) := goodIn_app (goodIn_of _ (by decide +kernel)) ggX11_late_X6_lateOnes
set_option maxRecDepth 20000 in
theorem ggX11_late_X6_lateOff : GoodIn wsX11_late wsX6_lateOff := goodIn_r _ [24, 17, 18, 25, 26, 27, 28, 15, 29, 30, 31, 32, 33, 34, 47, 48, 49, 50] (by decide +kernel) (by decide +kernel)
set_option maxRecDepth 20000 in
theorem gX11_late_X6_lateOff : GoodIn wsX11_late (wsV RX11 269 RX6 yX6_lateOff wsX6_lateOff) := goodIn_app (goodIn_of _ (by decide +kernel)) ggX11_late_X6_lateOff
theorem dX11_late_0 : decode cX11_late 0 = .ok (.iload_n 1, 1) := by decide +kernel
theorem dX11_late_1 : decode cX11_late 1 = .ok (.invokestatic 98, 3) := by decide +kernel
theorem dX11_late_4 : decode cX11_late 4 = .ok (.ifCond .eq 10, 3) := by decide +kernel
theorem dX11_late_7 : decode cX11_late 7 = .ok (.iload_n 2, 1) := by decide +kernel
theorem dX11_late_8 : decode cX11_late 8 = .ok (.invokestatic 144, 3) := by decide +kernel
theorem dX11_late_11 : decode cX11_late 11 = .ok (.ifCond .ne 5, 3) := by decide +kernel
theorem dX11_late_14 : decode cX11_late 14 = .ok (.iconst (-1), 1) := by decide +kernel
theorem dX11_late_15 : decode cX11_late 15 = .ok (.ireturn, 1) := by decide +kernel
theorem dX11_late_16 : decode cX11_late 16 = .ok (.iload_n 2, 1) := by decide +kernel
theorem dX11_late_17 : decode cX11_late 17 = .ok (.ifCond .ne 14, 3) := by decide +kernel
theorem dX11_late_20 : decode cX11_late 20 = .ok (.aload_n 0, 1) := by decide +kernel
theorem dX11_late_21 : decode cX11_late 21 = .ok (.getfield 40, 3) := by decide +kernel
theorem dX11_late_24 : decode cX11_late 24 = .ok (.iload_n 1, 1) := by decide +kernel
theorem dX11_late_25 : decode cX11_late 25 = .ok (.invokevirtual 266, 3) := by decide +kernel
theorem dX11_late_28 : decode cX11_late 28 = .ok (.goto 11, 3) := by decide +kernel
theorem dX11_late_31 : decode cX11_late 31 = .ok (.aload_n 0, 1) := by decide +kernel
theorem dX11_late_32 : decode cX11_late 32 = .ok (.getfield 40, 3) := by decide +kernel
theorem dX11_late_35 : decode cX11_late 35 = .ok (.iload_n 1, 1) := by decide +kernel
theorem dX11_late_36 : decode cX11_late 36 = .ok (.invokevirtual 269, 3) := by decide +kernel
theorem dX11_late_39 : decode cX11_late 39 = .ok (.ireturn, 1) := by decide +kernel
set_option maxRecDepth 20000 in
theorem ggX11_well_X11_isYear : GoodIn wsX11_well wsX11_isYear := goodIn_r _ [5, 6, 7, 4, 8] (by decide +kernel) (by decide +kernel)
set_option maxRecDepth 20000 in
theorem gX11_well_X11_isYear : GoodIn wsX11_well (va_wsS RX11 98 yX11_isYear wsX11_isYear) := goodIn_app (goodIn_of _ (by decide +kernel)) ggX11_well_X11_isYear
set_option maxRecDepth 20000 in
theorem ggX11_well_X11_within : GoodIn wsX11_well wsX11_within := goodIn_r _ [8] (by decide +kernel) (by decide +kernel)
set_option maxRecDepth 20000 in
theorem gX11_well_X11_within : GoodIn wsX11_well (va_wsS RX11 113 yX11_within wsX11_within) := goodIn_app (goodIn_of _ (by decide +kernel)) ggX11_well_X11_within
set_option maxRecDepth 20000 in
theorem ggX11_well_X6_lateOnes : GoodIn wsX11_well wsX6_lateOnes := goodIn_r _ [13, 14, 15, 16, 4, 17, 51, 52, 53, 54] (by decide +kernel) (by decide +kernel)
set_option maxRecDepth 20000 in
theorem gX11_well_X6_lateOnes : GoodIn wsX11_well (wsV RX11 266 RX6 yX6_lateOnes wsX6_lateOnes) := goodIn_app (goodIn_of _ (by decide +kernel)) ggX11_well_X6_lateOnes
set_option maxRecDepth 20000 in
theorem ggX11_well_X6_guessedAsWell : GoodIn wsX11_well wsX6_guessedAsWell := goodIn_r _ [21, 14, 15, 22, 23, 24, 12, 25, 26, 27, 28, 29, 30, 31, 32, 33, 34, 35, 36, 4, 37, 38, 16, 17, 51, 52, 53, 54] (by decide +kernel) (by decide +kernel)
set_option maxRecDepth 20000 in
theorem gX11_well_X6_guessedAsWell : GoodIn wsX11_well (wsV RX11 272 RX6 yX6_guessedAsWell wsX6_guessedAsWell) := goodIn_app (goodIn_of _ (by decide +kernel)) ggX11_well_X6_guessedAsWell
theorem dX11_well_0 : decode cX11_well 0 = .ok (.iload_n 1, 1) := by decide +kernel
theorem dX11_well_1 : decode cX11_well 1 = .ok (.invokestatic 98, 3) := by decide +kernel
theorem dX11_well_4 : decode cX11_well 4 = .ok (.ifCond .eq 13, 3) := by decide +kernel
theorem dX11_well_7 : decode cX11_well 7 = .ok (.iload_n 3, 1) := by decide +kernel
theorem dX11_well_8 : decode cX11_well 8 = .ok (.iconst 1, 1) := by decide +kernel
theorem dX11_well_9 : decode cX11_well 9 = .ok (.bipush 50, 2) := by decide +kernel
theorem dX11_well_11 : decode cX11_well 11 = .ok (.invokestatic 113, 3) := by decide +kernel
theorem dX11_well_14 : decode cX11_well 14 = .ok (.ifCond .ne 5, 3) := by decide +kernel
theorem dX11_well_17 : decode cX11_well 17 = .ok (.iconst (-1), 1) := by decide +kernel
theorem dX11_well_18 : decode cX11_well 18 = .ok (.ireturn, 1) := by decide +kernel
theorem dX11_well_19 : decode cX11_well 19 = .ok (.aload_n 0, 1) := by decide +kernel
theorem dX11_well_20 : decode cX11_well 20 = .ok (.getfield 40, 3) := by decide +kernel
theorem dX11_well_23 : decode cX11_well 23 = .ok (.iload_n 1, 1) := by decide +kernel
theorem dX11_well_24 : decode cX11_well 24 = .ok (.invokevirtual 266, 3) := by decide +kernel
theorem dX11_well_27 : decode cX11_well 27 = .ok (.ifCond .ne 6, 3) := by decide +kernel
theorem dX11_well_30 : decode cX11_well 30 = .ok (.bipush (-2), 2) := by decide +kernel
theorem dX11_well_32 : decode cX11_well 32 = .ok (.ireturn, 1) := by decide +kernel
theorem dX11_well_33 : decode cX11_well 33 = .ok (.aload_n 0, 1) := by decide +kernel
theorem dX11_well_34 : decode cX11_well 34 = .ok (.getfield 40, 3) := by decide +kernel
theorem dX11_well_37 : decode cX11_well 37 = .ok (.iload_n 1, 1) := by decide +kernel
theorem dX11_well_38 : decode cX11_well 38 = .ok (.iload_n 2, 1) := by decide +kernel
theorem dX11_well_39 : decode cX11_well 39 = .ok (.iload_n 3, 1) := by decide +kernel
theorem dX11_well_40 : decode cX11_well 40 = .ok (.invokevirtual 272, 3) := by decide +kernel
theorem dX11_well_43 : decode cX11_well 43 = .ok (.ireturn, 1) := by decide +kernel
set_option maxRecDepth 20000 in
theorem ggX11_map_X11_isYear : GoodIn wsX11_map wsX11_isYear := goodIn_r _ [6, 7, 8, 5, 9] (by decide +kernel) (by decide +kernel)
set_option maxRecDepth 20000 in
theorem gX11_map_X11_isYear : GoodIn wsX11_map (va_wsS RX11 98 yX11_isYear wsX11_isYear) := goodIn_app (goodIn_of _ (by decide +kernel)) ggX11_map_X11_isYear
set_option maxRecDepth 20000 in
theorem ggX11_map_X11_within : GoodIn wsX11_map wsX11_within := goodIn_r _ [9] (by decide +kernel) (by decide +kernel)
set_option maxRecDepth 20000 in
theorem gX11_map_X11_within : GoodIn wsX11_map (va_wsS RX11 113 yX11_within wsX11_within) := goodIn_app (goodIn_of _ (by decide +kernel)) ggX11_map_X11_within
set_option maxRecDepth 20000 in
theorem ggX11_map_X4_add : GoodIn wsX11_map wsX4_add := goodIn_r _ [14, 15, 16, 17, 30, 31, 32] (by decide +kernel) (by decide +kernel)
set_option maxRecDepth 20000 in
theorem gX11_map_X4_add : GoodIn wsX11_map (wsV RX11 276 RX4 yX4_add wsX4_add) := goodIn_app (goodIn_of _ (by decide +kernel)) ggX11_map_X4_add
theorem dX11_map_0 : decode cX11_map 0 = .ok (.iload_n 1, 1) := by decide +kernel
theorem dX11_map_1 : decode cX11_map 1 = .ok (.invokestatic 98, 3) := by decide +kernel
theorem dX11_map_4 : decode cX11_map 4 = .ok (.ifCond .eq 14, 3) := by decide +kernel
theorem dX11_map_7 : decode cX11_map 7 = .ok (.iload_n 2, 1) := by decide +kernel
theorem dX11_map_8 : decode cX11_map 8 = .ok (.iconst 0, 1) := by decide +kernel
theorem dX11_map_9 : decode cX11_map 9 = .ok (.ldc_w 275, 3) := by decide +kernel
theorem dX11_map_12 : decode cX11_map 12 = .ok (.invokestatic 113, 3) := by decide +kernel
theorem dX11_map_15 : decode cX11_map 15 = .ok (.ifCond .ne 5, 3) := by decide +kernel
theorem dX11_map_18 : decode cX11_map 18 = .ok (.iconst (-1), 1) := by decide +kernel
theorem dX11_map_19 : decode cX11_map 19 = .ok (.ireturn, 1) := by decide +kernel
theorem dX11_map_20 : decode cX11_map 20 = .ok (.aload_n 0, 1) := by decide +kernel
theorem dX11_map_21 : decode cX11_map 21 = .ok (.getfield 47, 3) := by decide +kernel
theorem dX11_map_24 : decode cX11_map 24 = .ok (.iload_n 1, 1) := by decide +kernel
theorem dX11_map_25 : decode cX11_map 25 = .ok (.iload_n 2, 1) := by decide +kernel
theorem dX11_map_26 : decode cX11_map 26 = .ok (.invokevirtual 276, 3) := by decide +kernel
theorem dX11_map_29 : decode cX11_map 29 = .ok (.ireturn, 1) := by decide +kernel
set_option maxRecDepth 20000 in
theorem ggX11_father_X4_isMap : GoodIn wsX11_father wsX4_isMap := goodIn_r _ [6, 7, 8, 9, 10, 48, 49, 50] (by decide +kernel) (by decide +kernel)
set_option maxRecDepth 20000 in
theorem gX11_father_X4_isMap : GoodIn wsX11_father (wsV RX11 277 RX4 yX4_isMap wsX4_isMap) := goodIn_app (goodIn_of _ (by decide +kernel)) ggX11_father_X4_isMap
set_option maxRecDepth 20000 in
theorem ggX11_father_X11_isBit : GoodIn wsX11_father wsX11_isBit := goodIn_r _ [13] (by decide +kernel) (by decide +kernel)
set_option maxRecDepth 20000 in
theorem gX11_father_X11_isBit : GoodIn wsX11_father (va_wsS RX11 144 yX11_isBit wsX11_isBit) := goodIn_app (goodIn_of _ (by decide +kernel)) ggX11_father_X11_isBit
set_option maxRecDepth 20000 in
theorem ggX11_father_X4_fatherOf : GoodIn wsX11_father wsX4_fatherOf := goodIn_r _ [17, 7, 18, 19, 20, 21, 5, 22, 23, 24, 25, 26, 27, 28, 29, 30, 31, 32, 33, 34, 48, 49, 50] (by decide +kernel) (by decide +kernel)
set_option maxRecDepth 20000 in
theorem gX11_father_X4_fatherOf : GoodIn wsX11_father (wsV RX11 280 RX4 yX4_fatherOf wsX4_fatherOf) := goodIn_app (goodIn_of _ (by decide +kernel)) ggX11_father_X4_fatherOf
set_option maxRecDepth 20000 in
theorem ggX11_father_X4_apart : GoodIn wsX11_father wsX4_apart := goodIn_r _ [26, 27, 28, 29, 30, 31, 32, 33, 34, 48, 49, 50] (by decide +kernel) (by decide +kernel)
set_option maxRecDepth 20000 in
theorem gX11_father_X4_apart : GoodIn wsX11_father (wsV RX11 283 RX4 yX4_apart wsX4_apart) := goodIn_app (goodIn_of _ (by decide +kernel)) ggX11_father_X4_apart
theorem dX11_father_0 : decode cX11_father 0 = .ok (.aload_n 0, 1) := by decide +kernel
theorem dX11_father_1 : decode cX11_father 1 = .ok (.getfield 47, 3) := by decide +kernel
theorem dX11_father_4 : decode cX11_father 4 = .ok (.iload_n 1, 1) := by decide +kernel
theorem dX11_father_5 : decode cX11_father 5 = .ok (.invokevirtual 277, 3) := by decide +kernel
theorem dX11_father_8 : decode cX11_father 8 = .ok (.ifCond .eq 10, 3) := by decide +kernel
theorem dX11_father_11 : decode cX11_father 11 = .ok (.iload_n 2, 1) := by decide +kernel
theorem dX11_father_12 : decode cX11_father 12 = .ok (.invokestatic 144, 3) := by decide +kernel
theorem dX11_father_15 : decode cX11_father 15 = .ok (.ifCond .ne 5, 3) := by decide +kernel
theorem dX11_father_18 : decode cX11_father 18 = .ok (.iconst (-1), 1) := by decide +kernel
theorem dX11_father_19 : decode cX11_father 19 = .ok (.ireturn, 1) := by decide +kernel
theorem dX11_father_20 : decode cX11_father 20 = .ok (.aload_n 0, 1) := by decide +kernel
theorem dX11_father_21 : decode cX11_father 21 = .ok (.getfield 47, 3) := by decide +kernel
theorem dX11_father_24 : decode cX11_father 24 = .ok (.iload_n 1, 1) := by decide +kernel
theorem dX11_father_25 : decode cX11_father 25 = .ok (.invokevirtual 280, 3) := by decide +kernel
theorem dX11_father_28 : decode cX11_father 28 = .ok (.istore_n 3, 1) := by decide +kernel
theorem dX11_father_29 : decode cX11_father 29 = .ok (.iload_n 3, 1) := by decide +kernel
theorem dX11_father_30 : decode cX11_father 30 = .ok (.ifCond .ge 6, 3) := by decide +kernel
theorem dX11_father_33 : decode cX11_father 33 = .ok (.bipush (-2), 2) := by decide +kernel
theorem dX11_father_35 : decode cX11_father 35 = .ok (.ireturn, 1) := by decide +kernel
theorem dX11_father_36 : decode cX11_father 36 = .ok (.iload_n 2, 1) := by decide +kernel
theorem dX11_father_37 : decode cX11_father 37 = .ok (.ifCond .ne 7, 3) := by decide +kernel
theorem dX11_father_40 : decode cX11_father 40 = .ok (.iload_n 3, 1) := by decide +kernel
theorem dX11_father_41 : decode cX11_father 41 = .ok (.goto 12, 3) := by decide +kernel
theorem dX11_father_44 : decode cX11_father 44 = .ok (.aload_n 0, 1) := by decide +kernel
theorem dX11_father_45 : decode cX11_father 45 = .ok (.getfield 47, 3) := by decide +kernel
theorem dX11_father_48 : decode cX11_father 48 = .ok (.iload_n 1, 1) := by decide +kernel
theorem dX11_father_49 : decode cX11_father 49 = .ok (.iload_n 3, 1) := by decide +kernel
theorem dX11_father_50 : decode cX11_father 50 = .ok (.invokevirtual 283, 3) := by decide +kernel
theorem dX11_father_53 : decode cX11_father 53 = .ok (.ireturn, 1) := by decide +kernel
set_option maxRecDepth 20000 in
theorem ggX11_hangs_X4_isMap : GoodIn wsX11_hangs wsX4_isMap := goodIn_r _ [6, 7, 8, 9, 10, 51, 52, 53] (by decide +kernel) (by decide +kernel)
set_option maxRecDepth 20000 in
theorem gX11_hangs_X4_isMap : GoodIn wsX11_hangs (wsV RX11 277 RX4 yX4_isMap wsX4_isMap) := goodIn_app (goodIn_of _ (by decide +kernel)) ggX11_hangs_X4_isMap
set_option maxRecDepth 20000 in
theorem ggX11_hangs_X4_leadsTo : GoodIn wsX11_hangs wsX4_leadsTo := goodIn_r _ [14, 7, 15, 16, 17, 5, 18, 19, 20, 21, 22, 23, 24, 25, 26, 27, 28, 29, 30, 31, 32, 33, 34, 35, 51, 52, 53] (by decide +kernel) (by decide +kernel)
set_option maxRecDepth 20000 in
theorem gX11_hangs_X4_leadsTo : GoodIn wsX11_hangs (wsV RX11 286 RX4 yX4_leadsTo wsX4_leadsTo) := goodIn_app (goodIn_of _ (by decide +kernel)) ggX11_hangs_X4_leadsTo
set_option maxRecDepth 20000 in
theorem ggX11_hangs_X11_asBit : GoodIn wsX11_hangs wsX11_asBit := goodIn_r _ [38] (by decide +kernel) (by decide +kernel)
set_option maxRecDepth 20000 in
theorem gX11_hangs_X11_asBit : GoodIn wsX11_hangs (va_wsS RX11 162 yX11_asBit wsX11_asBit) := goodIn_app (goodIn_of _ (by decide +kernel)) ggX11_hangs_X11_asBit
theorem dX11_hangs_0 : decode cX11_hangs 0 = .ok (.iload_n 1, 1) := by decide +kernel
theorem dX11_hangs_1 : decode cX11_hangs 1 = .ok (.bipush 10, 2) := by decide +kernel
theorem dX11_hangs_3 : decode cX11_hangs 3 = .ok (.idiv, 1) := by decide +kernel
theorem dX11_hangs_4 : decode cX11_hangs 4 = .ok (.istore_n 2, 1) := by decide +kernel
theorem dX11_hangs_5 : decode cX11_hangs 5 = .ok (.iload_n 1, 1) := by decide +kernel
theorem dX11_hangs_6 : decode cX11_hangs 6 = .ok (.bipush 10, 2) := by decide +kernel
theorem dX11_hangs_8 : decode cX11_hangs 8 = .ok (.irem, 1) := by decide +kernel
theorem dX11_hangs_9 : decode cX11_hangs 9 = .ok (.istore_n 3, 1) := by decide +kernel
theorem dX11_hangs_10 : decode cX11_hangs 10 = .ok (.aload_n 0, 1) := by decide +kernel
theorem dX11_hangs_11 : decode cX11_hangs 11 = .ok (.getfield 47, 3) := by decide +kernel
theorem dX11_hangs_14 : decode cX11_hangs 14 = .ok (.iload_n 2, 1) := by decide +kernel
theorem dX11_hangs_15 : decode cX11_hangs 15 = .ok (.invokevirtual 277, 3) := by decide +kernel
theorem dX11_hangs_18 : decode cX11_hangs 18 = .ok (.ifCond .eq 14, 3) := by decide +kernel
theorem dX11_hangs_21 : decode cX11_hangs 21 = .ok (.aload_n 0, 1) := by decide +kernel
theorem dX11_hangs_22 : decode cX11_hangs 22 = .ok (.getfield 47, 3) := by decide +kernel
theorem dX11_hangs_25 : decode cX11_hangs 25 = .ok (.iload_n 3, 1) := by decide +kernel
theorem dX11_hangs_26 : decode cX11_hangs 26 = .ok (.invokevirtual 277, 3) := by decide +kernel
theorem dX11_hangs_29 : decode cX11_hangs 29 = .ok (.ifCond .ne 5, 3) := by decide +kernel
theorem dX11_hangs_32 : decode cX11_hangs 32 = .ok (.iconst (-1), 1) := by decide +kernel
theorem dX11_hangs_33 : decode cX11_hangs 33 = .ok (.ireturn, 1) := by decide +kernel
theorem dX11_hangs_34 : decode cX11_hangs 34 = .ok (.aload_n 0, 1) := by decide +kernel
theorem dX11_hangs_35 : decode cX11_hangs 35 = .ok (.getfield 47, 3) := by decide +kernel
theorem dX11_hangs_38 : decode cX11_hangs 38 = .ok (.iload_n 2, 1) := by decide +kernel
theorem dX11_hangs_39 : decode cX11_hangs 39 = .ok (.iload_n 3, 1) := by decide +kernel
theorem dX11_hangs_40 : decode cX11_hangs 40 = .ok (.invokevirtual 286, 3) := by decide +kernel
theorem dX11_hangs_43 : decode cX11_hangs 43 = .ok (.invokestatic 162, 3) := by decide +kernel
theorem dX11_hangs_46 : decode cX11_hangs 46 = .ok (.ireturn, 1) := by decide +kernel
set_option maxRecDepth 20000 in
theorem ggX11_shared_X4_tree : GoodIn wsX11_shared wsX4_tree := goodIn_r _ [6, 7, 8, 9, 10, 5, 11, 12, 13, 14, 15, 16, 17, 18, 19, 20, 21, 22, 23, 24, 25, 26, 27, 28, 52, 53, 54] (by decide +kernel) (by decide +kernel)
set_option maxRecDepth 20000 in
theorem gX11_shared_X4_tree : GoodIn wsX11_shared (wsV RX11 289 RX4 yX4_tree wsX4_tree) := goodIn_app (goodIn_of _ (by decide +kernel)) ggX11_shared_X4_tree
set_option maxRecDepth 20000 in
theorem ggX11_shared_X4_isMap : GoodIn wsX11_shared wsX4_isMap := goodIn_r _ [32, 7, 33, 34, 35, 52, 53, 54] (by decide +kernel) (by decide +kernel)
set_option maxRecDepth 20000 in
theorem gX11_shared_X4_isMap : GoodIn wsX11_shared (wsV RX11 277 RX4 yX4_isMap wsX4_isMap) := goodIn_app (goodIn_of _ (by decide +kernel)) ggX11_shared_X4_isMap
set_option maxRecDepth 20000 in
theorem ggX11_shared_X4_sharedSlips : GoodIn wsX11_shared wsX4_sharedSlips := goodIn_r _ [39, 21, 7, 52, 53, 54] (by decide +kernel) (by decide +kernel)
set_option maxRecDepth 20000 in
theorem gX11_shared_X4_sharedSlips : GoodIn wsX11_shared (wsV RX11 292 RX4 yX4_sharedSlips wsX4_sharedSlips) := goodIn_app (goodIn_of _ (by decide +kernel)) ggX11_shared_X4_sharedSlips
theorem dX11_shared_0 : decode cX11_shared 0 = .ok (.iload_n 1, 1) := by decide +kernel
theorem dX11_shared_1 : decode cX11_shared 1 = .ok (.iconst (-1), 1) := by decide +kernel
theorem dX11_shared_2 : decode cX11_shared 2 = .ok (.if_icmp .ne 11, 3) := by decide +kernel
theorem dX11_shared_5 : decode cX11_shared 5 = .ok (.aload_n 0, 1) := by decide +kernel
theorem dX11_shared_6 : decode cX11_shared 6 = .ok (.getfield 47, 3) := by decide +kernel
theorem dX11_shared_9 : decode cX11_shared 9 = .ok (.invokevirtual 289, 3) := by decide +kernel
theorem dX11_shared_12 : decode cX11_shared 12 = .ok (.ireturn, 1) := by decide +kernel
theorem dX11_shared_13 : decode cX11_shared 13 = .ok (.iload_n 1, 1) := by decide +kernel
theorem dX11_shared_14 : decode cX11_shared 14 = .ok (.bipush 10, 2) := by decide +kernel
theorem dX11_shared_16 : decode cX11_shared 16 = .ok (.idiv, 1) := by decide +kernel
theorem dX11_shared_17 : decode cX11_shared 17 = .ok (.istore_n 2, 1) := by decide +kernel
theorem dX11_shared_18 : decode cX11_shared 18 = .ok (.iload_n 1, 1) := by decide +kernel
theorem dX11_shared_19 : decode cX11_shared 19 = .ok (.bipush 10, 2) := by decide +kernel
theorem dX11_shared_21 : decode cX11_shared 21 = .ok (.irem, 1) := by decide +kernel
theorem dX11_shared_22 : decode cX11_shared 22 = .ok (.istore_n 3, 1) := by decide +kernel
theorem dX11_shared_23 : decode cX11_shared 23 = .ok (.aload_n 0, 1) := by decide +kernel
theorem dX11_shared_24 : decode cX11_shared 24 = .ok (.getfield 47, 3) := by decide +kernel
theorem dX11_shared_27 : decode cX11_shared 27 = .ok (.iload_n 2, 1) := by decide +kernel
theorem dX11_shared_28 : decode cX11_shared 28 = .ok (.invokevirtual 277, 3) := by decide +kernel
theorem dX11_shared_31 : decode cX11_shared 31 = .ok (.ifCond .eq 19, 3) := by decide +kernel
theorem dX11_shared_34 : decode cX11_shared 34 = .ok (.aload_n 0, 1) := by decide +kernel
theorem dX11_shared_35 : decode cX11_shared 35 = .ok (.getfield 47, 3) := by decide +kernel
theorem dX11_shared_38 : decode cX11_shared 38 = .ok (.iload_n 3, 1) := by decide +kernel
theorem dX11_shared_39 : decode cX11_shared 39 = .ok (.invokevirtual 277, 3) := by decide +kernel
theorem dX11_shared_42 : decode cX11_shared 42 = .ok (.ifCond .eq 8, 3) := by decide +kernel
theorem dX11_shared_45 : decode cX11_shared 45 = .ok (.iload_n 2, 1) := by decide +kernel
theorem dX11_shared_46 : decode cX11_shared 46 = .ok (.iload_n 3, 1) := by decide +kernel
theorem dX11_shared_47 : decode cX11_shared 47 = .ok (.if_icmp .ne 5, 3) := by decide +kernel
theorem dX11_shared_50 : decode cX11_shared 50 = .ok (.iconst (-1), 1) := by decide +kernel
theorem dX11_shared_51 : decode cX11_shared 51 = .ok (.ireturn, 1) := by decide +kernel
theorem dX11_shared_52 : decode cX11_shared 52 = .ok (.aload_n 0, 1) := by decide +kernel
theorem dX11_shared_53 : decode cX11_shared 53 = .ok (.getfield 47, 3) := by decide +kernel
theorem dX11_shared_56 : decode cX11_shared 56 = .ok (.iload_n 2, 1) := by decide +kernel
theorem dX11_shared_57 : decode cX11_shared 57 = .ok (.iload_n 3, 1) := by decide +kernel
theorem dX11_shared_58 : decode cX11_shared 58 = .ok (.invokevirtual 292, 3) := by decide +kernel
theorem dX11_shared_61 : decode cX11_shared 61 = .ok (.ireturn, 1) := by decide +kernel
set_option maxRecDepth 20000 in
theorem ggX11_feed_X11_within : GoodIn wsX11_feed wsX11_within := goodIn_r _ [5] (by decide +kernel) (by decide +kernel)
set_option maxRecDepth 20000 in
theorem gX11_feed_X11_within : GoodIn wsX11_feed (va_wsS RX11 113 yX11_within wsX11_within) := goodIn_app (goodIn_of _ (by decide +kernel)) ggX11_feed_X11_within
set_option maxRecDepth 20000 in
theorem ggX11_feed_X10_take : GoodIn wsX11_feed wsX10_take := goodIn_r _ [10, 11, 12, 13, 14, 15, 16, 17, 18, 19, 20, 21, 22, 23, 24, 25, 26, 27, 28, 29, 30, 31, 44, 45, 46, 47, 48] (by decide +kernel) (by decide +kernel)
set_option maxRecDepth 20000 in
theorem gX11_feed_X10_take : GoodIn wsX11_feed (wsV RX11 295 RX10 yX10_take wsX10_take) := goodIn_app (goodIn_of _ (by decide +kernel)) ggX11_feed_X10_take
theorem dX11_feed_0 : decode cX11_feed 0 = .ok (.iload_n 1, 1) := by decide +kernel
theorem dX11_feed_1 : decode cX11_feed 1 = .ok (.iconst 1, 1) := by decide +kernel
theorem dX11_feed_2 : decode cX11_feed 2 = .ok (.iconst 4, 1) := by decide +kernel
theorem dX11_feed_3 : decode cX11_feed 3 = .ok (.invokestatic 113, 3) := by decide +kernel
theorem dX11_feed_6 : decode cX11_feed 6 = .ok (.ifCond .ne 5, 3) := by decide +kernel
theorem dX11_feed_9 : decode cX11_feed 9 = .ok (.iconst (-1), 1) := by decide +kernel
theorem dX11_feed_10 : decode cX11_feed 10 = .ok (.ireturn, 1) := by decide +kernel
theorem dX11_feed_11 : decode cX11_feed 11 = .ok (.aload_n 0, 1) := by decide +kernel
theorem dX11_feed_12 : decode cX11_feed 12 = .ok (.getfield 54, 3) := by decide +kernel
theorem dX11_feed_15 : decode cX11_feed 15 = .ok (.iload_n 1, 1) := by decide +kernel
theorem dX11_feed_16 : decode cX11_feed 16 = .ok (.iload_n 2, 1) := by decide +kernel
theorem dX11_feed_17 : decode cX11_feed 17 = .ok (.invokevirtual 295, 3) := by decide +kernel
theorem dX11_feed_20 : decode cX11_feed 20 = .ok (.ireturn, 1) := by decide +kernel
set_option maxRecDepth 20000 in
theorem ggX11_story_X11_isYear : GoodIn wsX11_story wsX11_isYear := goodIn_r _ [10, 11, 12, 9, 13] (by decide +kernel) (by decide +kernel)
set_option maxRecDepth 20000 in
theorem gX11_story_X11_isYear : GoodIn wsX11_story (va_wsS RX11 98 yX11_isYear wsX11_isYear) := goodIn_app (goodIn_of _ (by decide +kernel)) ggX11_story_X11_isYear
set_option maxRecDepth 20000 in
theorem ggX11_story_X11_isPrior : GoodIn wsX11_story wsX11_isPrior := goodIn_r _ [16, 11, 12, 9, 13] (by decide +kernel) (by decide +kernel)
set_option maxRecDepth 20000 in
theorem gX11_story_X11_isPrior : GoodIn wsX11_story (va_wsS RX11 298 yX11_isPrior wsX11_isPrior) := goodIn_app (goodIn_of _ (by decide +kernel)) ggX11_story_X11_isPrior
set_option maxRecDepth 20000 in
theorem ggX11_story_X9_isFull : GoodIn wsX11_story wsX9_isFull := goodIn_r _ [21, 22, 23, 183, 184, 185, 186, 187, 188, 189] (by decide +kernel) (by decide +kernel)
set_option maxRecDepth 20000 in
theorem gX11_story_X9_isFull : GoodIn wsX11_story (wsV RX11 301 RX9 yX9_isFull wsX9_isFull) := goodIn_app (goodIn_of _ (by decide +kernel)) ggX11_story_X9_isFull
set_option maxRecDepth 20000 in
theorem ggX11_story_X10_read : GoodIn wsX11_story wsX10_read := goodIn_r _ [28, 29, 30, 31, 32, 33, 34, 35, 36, 27, 37, 38, 39, 40, 41, 42, 43, 44, 45, 46, 47, 48, 49, 50, 51, 52, 53, 54, 55, 56, 57, 58, 59, 60, 61, 62, 63, 64, 65, 66, 67, 68, 69, 70, 71, 72, 73, 74, 75, 76, 77, 78, 79, 80, 81, 82, 83, 84, 85, 86, 87, 88, 89, 90, 91, 92, 93, 94, 95, 96, 97, 98, 99, 100, 101, 102, 103, 104, 105, 106, 107, 108, 109, 110, 111, 112, 113, 114, 115, 116, 117, 118, 119, 120, 121, 122, 123, 124, 125, 126, 127, 128, 129, 130, 131, 132, 133, 134, 135, 136, 137, 138, 139, 140, 141, 142, 143, 144, 145, 146, 147, 148, 149, 150, 151, 152, 153, 154, 155, 156, 157, 178, 179, 180, 181, 182] (by decide +kernel) (by decide +kernel)
set_option maxRecDepth 20000 in
theorem gX11_story_X10_read : GoodIn wsX11_story (wsV RX11 302 RX10 yX10_read wsX10_read) := goodIn_app (goodIn_of _ (by decide +kernel)) ggX11_story_X10_read
set_option maxRecDepth 20000 in
theorem ggX11_story_X9_add : GoodIn wsX11_story wsX9_add := goodIn_r _ [161, 23, 22, 162, 163, 164, 165, 18, 19, 20, 21, 183, 184, 185, 186, 187, 188, 189] (by decide +kernel) (by decide +kernel)
set_option maxRecDepth 20000 in
theorem gX11_story_X9_add : GoodIn wsX11_story (wsV RX11 315 RX9 yX9_add wsX9_add) := goodIn_app (goodIn_of _ (by decide +kernel)) ggX11_story_X9_add
theorem dX11_story_0 : decode cX11_story 0 = .ok (.iload_n 1, 1) := by decide +kernel
theorem dX11_story_1 : decode cX11_story 1 = .ok (.invokestatic 98, 3) := by decide +kernel
theorem dX11_story_4 : decode cX11_story 4 = .ok (.ifCond .eq 10, 3) := by decide +kernel
theorem dX11_story_7 : decode cX11_story 7 = .ok (.iload_n 2, 1) := by decide +kernel
theorem dX11_story_8 : decode cX11_story 8 = .ok (.invokestatic 298, 3) := by decide +kernel
theorem dX11_story_11 : decode cX11_story 11 = .ok (.ifCond .ne 5, 3) := by decide +kernel
theorem dX11_story_14 : decode cX11_story 14 = .ok (.iconst (-1), 1) := by decide +kernel
theorem dX11_story_15 : decode cX11_story 15 = .ok (.ireturn, 1) := by decide +kernel
theorem dX11_story_16 : decode cX11_story 16 = .ok (.aload_n 0, 1) := by decide +kernel
theorem dX11_story_17 : decode cX11_story 17 = .ok (.getfield 61, 3) := by decide +kernel
theorem dX11_story_20 : decode cX11_story 20 = .ok (.invokevirtual 301, 3) := by decide +kernel
theorem dX11_story_23 : decode cX11_story 23 = .ok (.ifCond .eq 6, 3) := by decide +kernel
theorem dX11_story_26 : decode cX11_story 26 = .ok (.bipush (-3), 2) := by decide +kernel
theorem dX11_story_28 : decode cX11_story 28 = .ok (.ireturn, 1) := by decide +kernel
theorem dX11_story_29 : decode cX11_story 29 = .ok (.aload_n 0, 1) := by decide +kernel
theorem dX11_story_30 : decode cX11_story 30 = .ok (.getfield 54, 3) := by decide +kernel
theorem dX11_story_33 : decode cX11_story 33 = .ok (.invokevirtual 302, 3) := by decide +kernel
theorem dX11_story_36 : decode cX11_story 36 = .ok (.istore_n 3, 1) := by decide +kernel
theorem dX11_story_37 : decode cX11_story 37 = .ok (.aload_n 0, 1) := by decide +kernel
theorem dX11_story_38 : decode cX11_story 38 = .ok (.getfield 54, 3) := by decide +kernel
theorem dX11_story_41 : decode cX11_story 41 = .ok (.iconst 0, 1) := by decide +kernel
theorem dX11_story_42 : decode cX11_story 42 = .ok (.putfield 305, 3) := by decide +kernel
theorem dX11_story_45 : decode cX11_story 45 = .ok (.iload_n 3, 1) := by decide +kernel
theorem dX11_story_46 : decode cX11_story 46 = .ok (.ifCond .ne 14, 3) := by decide +kernel
theorem dX11_story_49 : decode cX11_story 49 = .ok (.bipush (-100), 2) := by decide +kernel
theorem dX11_story_51 : decode cX11_story 51 = .ok (.aload_n 0, 1) := by decide +kernel
theorem dX11_story_52 : decode cX11_story 52 = .ok (.getfield 54, 3) := by decide +kernel
theorem dX11_story_55 : decode cX11_story 55 = .ok (.getfield 306, 3) := by decide +kernel
theorem dX11_story_58 : decode cX11_story 58 = .ok (.isub, 1) := by decide +kernel
theorem dX11_story_59 : decode cX11_story 59 = .ok (.ireturn, 1) := by decide +kernel
theorem dX11_story_60 : decode cX11_story 60 = .ok (.aload_n 0, 1) := by decide +kernel
theorem dX11_story_61 : decode cX11_story 61 = .ok (.getfield 61, 3) := by decide +kernel
theorem dX11_story_64 : decode cX11_story 64 = .ok (.iload_n 1, 1) := by decide +kernel
theorem dX11_story_65 : decode cX11_story 65 = .ok (.iload_n 2, 1) := by decide +kernel
theorem dX11_story_66 : decode cX11_story 66 = .ok (.aload_n 0, 1) := by decide +kernel
theorem dX11_story_67 : decode cX11_story 67 = .ok (.getfield 54, 3) := by decide +kernel
theorem dX11_story_70 : decode cX11_story 70 = .ok (.getfield 309, 3) := by decide +kernel
theorem dX11_story_73 : decode cX11_story 73 = .ok (.aload_n 0, 1) := by decide +kernel
theorem dX11_story_74 : decode cX11_story 74 = .ok (.getfield 54, 3) := by decide +kernel
theorem dX11_story_77 : decode cX11_story 77 = .ok (.getfield 312, 3) := by decide +kernel
theorem dX11_story_80 : decode cX11_story 80 = .ok (.invokevirtual 315, 3) := by decide +kernel
theorem dX11_story_83 : decode cX11_story 83 = .ok (.ireturn, 1) := by decide +kernel
set_option maxRecDepth 20000 in
theorem ggX11_prior_X9_isStory : GoodIn wsX11_prior wsX9_isStory := goodIn_r _ [6, 7, 8, 9, 10, 60, 61, 62, 63, 64, 65, 66] (by decide +kernel) (by decide +kernel)
set_option maxRecDepth 20000 in
theorem gX11_prior_X9_isStory : GoodIn wsX11_prior (wsV RX11 318 RX9 yX9_isStory wsX9_isStory) := goodIn_app (goodIn_of _ (by decide +kernel)) ggX11_prior_X9_isStory
set_option maxRecDepth 20000 in
theorem ggX11_prior_X11_isPrior : GoodIn wsX11_prior wsX11_isPrior := goodIn_r _ [13, 14, 8, 9, 10] (by decide +kernel) (by decide +kernel)
set_option maxRecDepth 20000 in
theorem gX11_prior_X11_isPrior : GoodIn wsX11_prior (va_wsS RX11 298 yX11_isPrior wsX11_isPrior) := goodIn_app (goodIn_of _ (by decide +kernel)) ggX11_prior_X11_isPrior
set_option maxRecDepth 20000 in
theorem ggX11_prior_X11_change : GoodIn wsX11_prior wsX11_change := goodIn_r _ [18, 19, 20, 21, 22, 9, 23, 24, 25, 1, 26, 27, 28, 14, 8, 10, 29, 30, 31, 32, 33, 34, 35, 36, 37, 38, 39, 40, 41, 42, 43, 44, 45, 46, 47, 48, 49, 50, 51, 52, 53, 54, 55, 56, 57, 58, 59, 67, 68, 69, 70, 71, 72, 73, 74, 60, 61, 62, 63, 64, 65, 66, 75, 76, 77, 78, 79, 80, 81, 82, 83, 84, 85, 86, 87, 88, 89] (by decide +kernel) (by decide +kernel)
set_option maxRecDepth 20000 in
theorem gX11_prior_X11_change : GoodIn wsX11_prior (wsV RX11 109 RX11 yX11_change wsX11_change) := goodIn_app (goodIn_of _ (by decide +kernel)) ggX11_prior_X11_change
theorem dX11_prior_0 : decode cX11_prior 0 = .ok (.aload_n 0, 1) := by decide +kernel
theorem dX11_prior_1 : decode cX11_prior 1 = .ok (.getfield 61, 3) := by decide +kernel
theorem dX11_prior_4 : decode cX11_prior 4 = .ok (.iload_n 1, 1) := by decide +kernel
theorem dX11_prior_5 : decode cX11_prior 5 = .ok (.invokevirtual 318, 3) := by decide +kernel
theorem dX11_prior_8 : decode cX11_prior 8 = .ok (.ifCond .eq 10, 3) := by decide +kernel
theorem dX11_prior_11 : decode cX11_prior 11 = .ok (.iload_n 2, 1) := by decide +kernel
theorem dX11_prior_12 : decode cX11_prior 12 = .ok (.invokestatic 298, 3) := by decide +kernel
theorem dX11_prior_15 : decode cX11_prior 15 = .ok (.ifCond .ne 5, 3) := by decide +kernel
theorem dX11_prior_18 : decode cX11_prior 18 = .ok (.iconst (-1), 1) := by decide +kernel
theorem dX11_prior_19 : decode cX11_prior 19 = .ok (.ireturn, 1) := by decide +kernel
theorem dX11_prior_20 : decode cX11_prior 20 = .ok (.aload_n 0, 1) := by decide +kernel
theorem dX11_prior_21 : decode cX11_prior 21 = .ok (.iconst 1, 1) := by decide +kernel
theorem dX11_prior_22 : decode cX11_prior 22 = .ok (.iload_n 1, 1) := by decide +kernel
theorem dX11_prior_23 : decode cX11_prior 23 = .ok (.iload_n 2, 1) := by decide +kernel
theorem dX11_prior_24 : decode cX11_prior 24 = .ok (.invokevirtual 109, 3) := by decide +kernel
theorem dX11_prior_27 : decode cX11_prior 27 = .ok (.ireturn, 1) := by decide +kernel
set_option maxRecDepth 20000 in
theorem ggX11_odds_X9_isStory : GoodIn wsX11_odds wsX9_isStory := goodIn_r _ [7, 8, 9, 10, 11, 161, 162, 163, 164, 165, 166, 167] (by decide +kernel) (by decide +kernel)
set_option maxRecDepth 20000 in
theorem gX11_odds_X9_isStory : GoodIn wsX11_odds (wsV RX11 318 RX9 yX9_isStory wsX9_isStory) := goodIn_app (goodIn_of _ (by decide +kernel)) ggX11_odds_X9_isStory
set_option maxRecDepth 20000 in
theorem ggX11_odds_X11_isBit : GoodIn wsX11_odds wsX11_isBit := goodIn_r _ [14] (by decide +kernel) (by decide +kernel)
set_option maxRecDepth 20000 in
theorem gX11_odds_X11_isBit : GoodIn wsX11_odds (va_wsS RX11 144 yX11_isBit wsX11_isBit) := goodIn_app (goodIn_of _ (by decide +kernel)) ggX11_odds_X11_isBit
set_option maxRecDepth 20000 in
theorem ggX11_odds_X11_weighStories : GoodIn wsX11_odds wsX11_weighStories := goodIn_r _ [18, 19, 20, 21, 22, 23, 24, 25, 26, 27, 1, 28, 29, 30, 31, 32, 33, 10, 34, 35, 36, 37, 38, 39, 40, 41, 42, 43, 44, 45, 46, 47, 48, 49, 50, 51, 52, 53, 54, 55, 56, 57, 58, 59, 60, 61, 62, 63, 64, 65, 66, 67, 68, 69, 70, 71, 72, 73, 74, 75, 76, 77, 78, 79, 80, 81, 82, 83, 84, 85, 86, 87, 88, 89, 90, 91, 92, 93, 94, 95, 96, 97, 98, 99, 100, 101, 102, 103, 104, 105, 106, 107, 108, 109, 110, 111, 112, 113, 114, 115, 116, 117, 118, 119, 120, 121, 122, 123, 6, 124, 125, 126, 127, 128, 129, 130, 131, 132, 133, 134, 135, 136, 137, 138, 139, 140, 141, 142, 143, 149, 150, 151, 152, 153, 154, 155, 156, 157, 158, 159, 160, 168, 169, 170, 171, 172, 173, 174, 175, 176, 161, 162, 163, 164, 165, 166, 167, 177, 178, 179, 180, 181, 182, 183, 184, 185, 186, 187, 188, 189, 190, 191, 192, 193, 194, 195, 196, 197, 198] (by decide +kernel) (by decide +kernel)
set_option maxRecDepth 20000 in
theorem gX11_odds_X11_weighStories : GoodIn wsX11_odds (wsV RX11 321 RX11 yX11_weighStories wsX11_weighStories) := goodIn_app (goodIn_of _ (by decide +kernel)) ggX11_odds_X11_weighStories
set_option maxRecDepth 20000 in
theorem ggX11_odds_X9_oddsOf : GoodIn wsX11_odds wsX9_oddsOf := goodIn_r _ [147, 8, 148, 125, 161, 162, 163, 164, 165, 166, 167] (by decide +kernel) (by decide +kernel)
set_option maxRecDepth 20000 in
theorem gX11_odds_X9_oddsOf : GoodIn wsX11_odds (wsV RX11 327 RX9 yX9_oddsOf wsX9_oddsOf) := goodIn_app (goodIn_of _ (by decide +kernel)) ggX11_odds_X9_oddsOf
theorem dX11_odds_0 : decode cX11_odds 0 = .ok (.aload_n 0, 1) := by decide +kernel
theorem dX11_odds_1 : decode cX11_odds 1 = .ok (.getfield 61, 3) := by decide +kernel
theorem dX11_odds_4 : decode cX11_odds 4 = .ok (.iload_n 1, 1) := by decide +kernel
theorem dX11_odds_5 : decode cX11_odds 5 = .ok (.invokevirtual 318, 3) := by decide +kernel
theorem dX11_odds_8 : decode cX11_odds 8 = .ok (.ifCond .eq 10, 3) := by decide +kernel
theorem dX11_odds_11 : decode cX11_odds 11 = .ok (.iload_n 2, 1) := by decide +kernel
theorem dX11_odds_12 : decode cX11_odds 12 = .ok (.invokestatic 144, 3) := by decide +kernel
theorem dX11_odds_15 : decode cX11_odds 15 = .ok (.ifCond .ne 5, 3) := by decide +kernel
theorem dX11_odds_18 : decode cX11_odds 18 = .ok (.iconst (-1), 1) := by decide +kernel
theorem dX11_odds_19 : decode cX11_odds 19 = .ok (.ireturn, 1) := by decide +kernel
theorem dX11_odds_20 : decode cX11_odds 20 = .ok (.aload_n 0, 1) := by decide +kernel
theorem dX11_odds_21 : decode cX11_odds 21 = .ok (.invokevirtual 321, 3) := by decide +kernel
theorem dX11_odds_24 : decode cX11_odds 24 = .ok (.iload_n 2, 1) := by decide +kernel
theorem dX11_odds_25 : decode cX11_odds 25 = .ok (.ifCond .ne 15, 3) := by decide +kernel
theorem dX11_odds_28 : decode cX11_odds 28 = .ok (.aload_n 0, 1) := by decide +kernel
theorem dX11_odds_29 : decode cX11_odds 29 = .ok (.getfield 61, 3) := by decide +kernel
theorem dX11_odds_32 : decode cX11_odds 32 = .ok (.getfield 324, 3) := by decide +kernel
theorem dX11_odds_35 : decode cX11_odds 35 = .ok (.iload_n 1, 1) := by decide +kernel
theorem dX11_odds_36 : decode cX11_odds 36 = .ok (.iaload, 1) := by decide +kernel
theorem dX11_odds_37 : decode cX11_odds 37 = .ok (.goto 11, 3) := by decide +kernel
theorem dX11_odds_40 : decode cX11_odds 40 = .ok (.aload_n 0, 1) := by decide +kernel
theorem dX11_odds_41 : decode cX11_odds 41 = .ok (.getfield 61, 3) := by decide +kernel
theorem dX11_odds_44 : decode cX11_odds 44 = .ok (.iload_n 1, 1) := by decide +kernel
theorem dX11_odds_45 : decode cX11_odds 45 = .ok (.invokevirtual 327, 3) := by decide +kernel
theorem dX11_odds_48 : decode cX11_odds 48 = .ok (.ireturn, 1) := by decide +kernel
set_option maxRecDepth 20000 in
theorem ggX11_best_X11_weighStories : GoodIn wsX11_best wsX11_weighStories := goodIn_r _ [7, 8, 9, 10, 11, 12, 13, 14, 15, 16, 1, 2, 17, 18, 19, 20, 21, 6, 22, 23, 24, 25, 26, 27, 28, 29, 30, 31, 32, 33, 34, 35, 36, 37, 38, 39, 40, 41, 42, 43, 44, 45, 46, 47, 48, 49, 50, 51, 52, 53, 54, 55, 56, 57, 58, 59, 60, 61, 62, 63, 64, 65, 66, 67, 68, 69, 70, 71, 72, 73, 74, 75, 76, 77, 78, 79, 80, 81, 82, 83, 84, 85, 86, 87, 88, 89, 90, 91, 92, 93, 94, 95, 96, 97, 98, 99, 100, 101, 102, 103, 104, 105, 106, 107, 108, 109, 110, 111, 112, 113, 114, 115, 116, 117, 118, 119, 120, 121, 122, 123, 124, 125, 126, 127, 128, 129, 130, 131, 132, 139, 140, 141, 142, 143, 144, 145, 146, 147, 148, 149, 150, 158, 159, 160, 161, 162, 163, 164, 165, 166, 151, 152, 153, 154, 155, 156, 157, 167, 168, 169, 170, 171, 172, 173, 174, 175, 176, 177, 178, 179, 180, 181, 182, 183, 184, 185, 186, 187, 188] (by decide +kernel) (by decide +kernel)
set_option maxRecDepth 20000 in
theorem gX11_best_X11_weighStories : GoodIn wsX11_best (wsV RX11 321 RX11 yX11_weighStories wsX11_weighStories) := goodIn_app (goodIn_of _ (by decide +kernel)) ggX11_best_X11_weighStories
set_option maxRecDepth 20000 in
theorem ggX11_best_X9_bestOne : GoodIn wsX11_best wsX9_bestOne := goodIn_r _ [136, 137, 138, 114, 151, 152, 153, 154, 155, 156, 157] (by decide +kernel) (by decide +kernel)
set_option maxRecDepth 20000 in
theorem gX11_best_X9_bestOne : GoodIn wsX11_best (wsV RX11 331 RX9 yX9_bestOne wsX9_bestOne) := goodIn_app (goodIn_of _ (by decide +kernel)) ggX11_best_X9_bestOne
theorem dX11_best_0 : decode cX11_best 0 = .ok (.aload_n 0, 1) := by decide +kernel
theorem dX11_best_1 : decode cX11_best 1 = .ok (.getfield 61, 3) := by decide +kernel
theorem dX11_best_4 : decode cX11_best 4 = .ok (.getfield 330, 3) := by decide +kernel
theorem dX11_best_7 : decode cX11_best 7 = .ok (.ifCond .ne 6, 3) := by decide +kernel
theorem dX11_best_10 : decode cX11_best 10 = .ok (.bipush (-5), 2) := by decide +kernel
theorem dX11_best_12 : decode cX11_best 12 = .ok (.ireturn, 1) := by decide +kernel
theorem dX11_best_13 : decode cX11_best 13 = .ok (.aload_n 0, 1) := by decide +kernel
theorem dX11_best_14 : decode cX11_best 14 = .ok (.invokevirtual 321, 3) := by decide +kernel
theorem dX11_best_17 : decode cX11_best 17 = .ok (.aload_n 0, 1) := by decide +kernel
theorem dX11_best_18 : decode cX11_best 18 = .ok (.getfield 61, 3) := by decide +kernel
theorem dX11_best_21 : decode cX11_best 21 = .ok (.invokevirtual 331, 3) := by decide +kernel
theorem dX11_best_24 : decode cX11_best 24 = .ok (.ireturn, 1) := by decide +kernel
set_option maxRecDepth 20000 in
theorem ggX11_next_X11_isStuff : GoodIn wsX11_next wsX11_isStuff := goodIn_r _ [11, 12, 13, 10, 14] (by decide +kernel) (by decide +kernel)
set_option maxRecDepth 20000 in
theorem gX11_next_X11_isStuff : GoodIn wsX11_next (va_wsS RX11 218 yX11_isStuff wsX11_isStuff) := goodIn_app (goodIn_of _ (by decide +kernel)) ggX11_next_X11_isStuff
set_option maxRecDepth 20000 in
theorem ggX11_next_X11_isBit : GoodIn wsX11_next wsX11_isBit := goodIn_r _ [17] (by decide +kernel) (by decide +kernel)
set_option maxRecDepth 20000 in
theorem gX11_next_X11_isBit : GoodIn wsX11_next (va_wsS RX11 144 yX11_isBit wsX11_isBit) := goodIn_app (goodIn_of _ (by decide +kernel)) ggX11_next_X11_isBit
set_option maxRecDepth 20000 in
theorem ggX11_next_X2_isFull : GoodIn wsX11_next wsX2_isFull := goodIn_r _ [22, 23, 24, 192, 193, 194, 195, 196, 197, 198, 199] (by decide +kernel) (by decide +kernel)
set_option maxRecDepth 20000 in
theorem gX11_next_X2_isFull : GoodIn wsX11_next (wsV RX11 233 RX2 yX2_isFull wsX2_isFull) := goodIn_app (goodIn_of _ (by decide +kernel)) ggX11_next_X2_isFull
set_option maxRecDepth 20000 in
theorem ggX11_next_X11_weighStories : GoodIn wsX11_next wsX11_weighStories := goodIn_r _ [28, 29, 30, 3, 4, 5, 6, 7, 31, 32, 1, 2, 33, 34, 35, 36, 37, 10, 38, 39, 40, 41, 42, 43, 44, 45, 46, 47, 48, 49, 50, 51, 52, 53, 54, 55, 56, 57, 58, 59, 60, 61, 62, 63, 64, 65, 66, 67, 68, 69, 70, 71, 72, 73, 74, 75, 76, 77, 78, 79, 80, 81, 82, 83, 84, 21, 85, 23, 86, 87, 24, 88, 89, 90, 91, 92, 93, 94, 95, 96, 97, 98, 99, 100, 101, 102, 103, 104, 105, 106, 107, 108, 109, 110, 111, 112, 113, 114, 115, 116, 117, 118, 119, 120, 121, 122, 123, 124, 125, 126, 127, 128, 129, 130, 131, 132, 133, 134, 135, 136, 137, 138, 139, 140, 141, 142, 143, 144, 145, 173, 174, 175, 176, 177, 178, 179, 180, 181, 182, 183, 184, 200, 201, 202, 203, 204, 205, 206, 207, 208, 185, 186, 187, 188, 189, 190, 191, 209, 210, 211, 212, 213, 214, 215, 216, 217, 218, 192, 193, 194, 195, 196, 197, 198, 199, 219, 220, 221, 222] (by decide +kernel) (by decide +kernel)
set_option maxRecDepth 20000 in
theorem gX11_next_X11_weighStories : GoodIn wsX11_next (wsV RX11 321 RX11 yX11_weighStories wsX11_weighStories) := goodIn_app (goodIn_of _ (by decide +kernel)) ggX11_next_X11_weighStories
set_option maxRecDepth 20000 in
theorem ggX11_next_X9_bestOne : GoodIn wsX11_next wsX9_bestOne := goodIn_r _ [149, 150, 151, 127, 185, 186, 187, 188, 189, 190, 191] (by decide +kernel) (by decide +kernel)
set_option maxRecDepth 20000 in
theorem gX11_next_X9_bestOne : GoodIn wsX11_next (wsV RX11 331 RX9 yX9_bestOne wsX9_bestOne) := goodIn_app (goodIn_of _ (by decide +kernel)) ggX11_next_X9_bestOne
set_option maxRecDepth 20000 in
theorem ggX11_next_X9_oddsOf : GoodIn wsX11_next wsX9_oddsOf := goodIn_r _ [155, 150, 151, 127, 185, 186, 187, 188, 189, 190, 191] (by decide +kernel) (by decide +kernel)
set_option maxRecDepth 20000 in
theorem gX11_next_X9_oddsOf : GoodIn wsX11_next (wsV RX11 327 RX9 yX9_oddsOf wsX9_oddsOf) := goodIn_app (goodIn_of _ (by decide +kernel)) ggX11_next_X9_oddsOf
set_option maxRecDepth 20000 in
theorem ggX11_next_X11_movedBy : GoodIn wsX11_next wsX11_movedBy := goodIn_r _ [159, 3, 1, 160, 161, 6, 162, 163, 164, 165, 21, 166, 86, 23, 87, 24, 167, 19, 20, 22, 25, 26, 27, 10, 28, 29, 30, 4, 5, 7, 31, 32, 2, 33, 34, 35, 36, 37, 38, 39, 40, 41, 42, 43, 44, 45, 46, 47, 48, 49, 50, 51, 52, 53, 54, 55, 56, 57, 58, 59, 60, 61, 62, 63, 64, 65, 66, 67, 68, 69, 70, 71, 72, 73, 74, 75, 76, 77, 78, 79, 80, 81, 82, 83, 84, 85, 88, 89, 90, 91, 92, 93, 94, 95, 96, 97, 98, 99, 100, 101, 102, 103, 104, 105, 106, 107, 108, 109, 110, 111, 112, 113, 114, 115, 116, 117, 118, 119, 120, 121, 122, 123, 124, 125, 126, 127, 128, 129, 130, 131, 132, 133, 134, 135, 136, 137, 138, 139, 140, 141, 142, 143, 144, 145, 168, 169, 170, 171, 172, 152, 153, 154, 155, 150, 151, 173, 174, 175, 176, 177, 178, 179, 180, 181, 182, 183, 184, 192, 193, 194, 195, 196, 197, 198, 199, 200, 201, 202, 203, 204, 205, 206, 207, 208, 185, 186, 187, 188, 189, 190, 191, 209, 210, 211, 212, 213, 214, 215, 216, 217, 218, 219, 220, 221, 222] (by decide +kernel) (by decide +kernel)
set_option maxRecDepth 20000 in
theorem gX11_next_X11_movedBy : GoodIn wsX11_next (wsV RX11 334 RX11 yX11_movedBy wsX11_movedBy) := goodIn_app (goodIn_of _ (by decide +kernel)) ggX11_next_X11_movedBy
theorem dX11_next_0 : decode cX11_next 0 = .ok (.iload_n 1, 1) := by decide +kernel
theorem dX11_next_1 : decode cX11_next 1 = .ok (.invokestatic 218, 3) := by decide +kernel
theorem dX11_next_4 : decode cX11_next 4 = .ok (.ifCond .eq 10, 3) := by decide +kernel
theorem dX11_next_7 : decode cX11_next 7 = .ok (.iload_n 2, 1) := by decide +kernel
theorem dX11_next_8 : decode cX11_next 8 = .ok (.invokestatic 144, 3) := by decide +kernel
theorem dX11_next_11 : decode cX11_next 11 = .ok (.ifCond .ne 5, 3) := by decide +kernel
theorem dX11_next_14 : decode cX11_next 14 = .ok (.iconst (-1), 1) := by decide +kernel
theorem dX11_next_15 : decode cX11_next 15 = .ok (.ireturn, 1) := by decide +kernel
theorem dX11_next_16 : decode cX11_next 16 = .ok (.aload_n 0, 1) := by decide +kernel
theorem dX11_next_17 : decode cX11_next 17 = .ok (.getfield 61, 3) := by decide +kernel
theorem dX11_next_20 : decode cX11_next 20 = .ok (.getfield 330, 3) := by decide +kernel
theorem dX11_next_23 : decode cX11_next 23 = .ok (.ifCond .eq 13, 3) := by decide +kernel
theorem dX11_next_26 : decode cX11_next 26 = .ok (.aload_n 0, 1) := by decide +kernel
theorem dX11_next_27 : decode cX11_next 27 = .ok (.getfield 33, 3) := by decide +kernel
theorem dX11_next_30 : decode cX11_next 30 = .ok (.invokevirtual 233, 3) := by decide +kernel
theorem dX11_next_33 : decode cX11_next 33 = .ok (.ifCond .eq 6, 3) := by decide +kernel
theorem dX11_next_36 : decode cX11_next 36 = .ok (.bipush (-5), 2) := by decide +kernel
theorem dX11_next_38 : decode cX11_next 38 = .ok (.ireturn, 1) := by decide +kernel
theorem dX11_next_39 : decode cX11_next 39 = .ok (.aload_n 0, 1) := by decide +kernel
theorem dX11_next_40 : decode cX11_next 40 = .ok (.invokevirtual 321, 3) := by decide +kernel
theorem dX11_next_43 : decode cX11_next 43 = .ok (.aload_n 0, 1) := by decide +kernel
theorem dX11_next_44 : decode cX11_next 44 = .ok (.getfield 61, 3) := by decide +kernel
theorem dX11_next_47 : decode cX11_next 47 = .ok (.invokevirtual 331, 3) := by decide +kernel
theorem dX11_next_50 : decode cX11_next 50 = .ok (.istore_n 3, 1) := by decide +kernel
theorem dX11_next_51 : decode cX11_next 51 = .ok (.aload_n 0, 1) := by decide +kernel
theorem dX11_next_52 : decode cX11_next 52 = .ok (.getfield 61, 3) := by decide +kernel
theorem dX11_next_55 : decode cX11_next 55 = .ok (.iload_n 3, 1) := by decide +kernel
theorem dX11_next_56 : decode cX11_next 56 = .ok (.invokevirtual 327, 3) := by decide +kernel
theorem dX11_next_59 : decode cX11_next 59 = .ok (.istore 4, 2) := by decide +kernel
theorem dX11_next_61 : decode cX11_next 61 = .ok (.iload 4, 2) := by decide +kernel
theorem dX11_next_63 : decode cX11_next 63 = .ok (.bipush (-2), 2) := by decide +kernel
theorem dX11_next_65 : decode cX11_next 65 = .ok (.if_icmp .ne 6, 3) := by decide +kernel
theorem dX11_next_68 : decode cX11_next 68 = .ok (.bipush (-2), 2) := by decide +kernel
theorem dX11_next_70 : decode cX11_next 70 = .ok (.ireturn, 1) := by decide +kernel
theorem dX11_next_71 : decode cX11_next 71 = .ok (.iconst 0, 1) := by decide +kernel
theorem dX11_next_72 : decode cX11_next 72 = .ok (.istore 5, 2) := by decide +kernel
theorem dX11_next_74 : decode cX11_next 74 = .ok (.iconst (-1), 1) := by decide +kernel
theorem dX11_next_75 : decode cX11_next 75 = .ok (.istore 6, 2) := by decide +kernel
theorem dX11_next_77 : decode cX11_next 77 = .ok (.iconst 0, 1) := by decide +kernel
theorem dX11_next_78 : decode cX11_next 78 = .ok (.istore 7, 2) := by decide +kernel
theorem dX11_next_80 : decode cX11_next 80 = .ok (.iload 7, 2) := by decide +kernel
theorem dX11_next_82 : decode cX11_next 82 = .ok (.bipush 7, 2) := by decide +kernel
theorem dX11_next_84 : decode cX11_next 84 = .ok (.if_icmp .gt 49, 3) := by decide +kernel
theorem dX11_next_87 : decode cX11_next 87 = .ok (.aload_n 0, 1) := by decide +kernel
theorem dX11_next_88 : decode cX11_next 88 = .ok (.iload 7, 2) := by decide +kernel
theorem dX11_next_90 : decode cX11_next 90 = .ok (.iconst 0, 1) := by decide +kernel
theorem dX11_next_91 : decode cX11_next 91 = .ok (.iload_n 3, 1) := by decide +kernel
theorem dX11_next_92 : decode cX11_next 92 = .ok (.iload 4, 2) := by decide +kernel
theorem dX11_next_94 : decode cX11_next 94 = .ok (.invokevirtual 334, 3) := by decide +kernel
theorem dX11_next_97 : decode cX11_next 97 = .ok (.aload_n 0, 1) := by decide +kernel
theorem dX11_next_98 : decode cX11_next 98 = .ok (.iload 7, 2) := by decide +kernel
theorem dX11_next_100 : decode cX11_next 100 = .ok (.iload_n 1, 1) := by decide +kernel
theorem dX11_next_101 : decode cX11_next 101 = .ok (.iload_n 3, 1) := by decide +kernel
theorem dX11_next_102 : decode cX11_next 102 = .ok (.iload 4, 2) := by decide +kernel
theorem dX11_next_104 : decode cX11_next 104 = .ok (.invokevirtual 334, 3) := by decide +kernel
theorem dX11_next_107 : decode cX11_next 107 = .ok (.invokestatic 338, 3) := by decide +kernel
theorem dX11_next_110 : decode cX11_next 110 = .ok (.istore 8, 2) := by decide +kernel
theorem dX11_next_112 : decode cX11_next 112 = .ok (.iload 8, 2) := by decide +kernel
theorem dX11_next_114 : decode cX11_next 114 = .ok (.iload 6, 2) := by decide +kernel
theorem dX11_next_116 : decode cX11_next 116 = .ok (.if_icmp .le 11, 3) := by decide +kernel
theorem dX11_next_119 : decode cX11_next 119 = .ok (.iload 7, 2) := by decide +kernel
theorem dX11_next_121 : decode cX11_next 121 = .ok (.istore 5, 2) := by decide +kernel
theorem dX11_next_123 : decode cX11_next 123 = .ok (.iload 8, 2) := by decide +kernel
theorem dX11_next_125 : decode cX11_next 125 = .ok (.istore 6, 2) := by decide +kernel
theorem dX11_next_127 : decode cX11_next 127 = .ok (.iinc 7 1, 3) := by decide +kernel
theorem dX11_next_130 : decode cX11_next 130 = .ok (.goto (-50), 3) := by decide +kernel
theorem dX11_next_133 : decode cX11_next 133 = .ok (.iload_n 2, 1) := by decide +kernel
theorem dX11_next_134 : decode cX11_next 134 = .ok (.ifCond .ne 8, 3) := by decide +kernel
theorem dX11_next_137 : decode cX11_next 137 = .ok (.iload 5, 2) := by decide +kernel
theorem dX11_next_139 : decode cX11_next 139 = .ok (.goto 5, 3) := by decide +kernel
theorem dX11_next_142 : decode cX11_next 142 = .ok (.iload 6, 2) := by decide +kernel
theorem dX11_next_144 : decode cX11_next 144 = .ok (.ireturn, 1) := by decide +kernel
set_option maxRecDepth 20000 in
theorem ggX11_movedBy_X2_add : GoodIn wsX11_movedBy wsX2_add := goodIn_r _ [11, 12, 13, 14, 15, 16, 17, 18, 10, 19, 167, 168, 169, 170, 171, 172, 173, 174] (by decide +kernel) (by decide +kernel)
set_option maxRecDepth 20000 in
theorem gX11_movedBy_X2_add : GoodIn wsX11_movedBy (wsV RX11 213 RX2 yX2_add wsX2_add) := goodIn_app (goodIn_of _ (by decide +kernel)) ggX11_movedBy_X2_add
set_option maxRecDepth 20000 in
theorem ggX11_movedBy_X11_weighStories : GoodIn wsX11_movedBy wsX11_weighStories := goodIn_r _ [24, 25, 26, 1, 27, 28, 5, 29, 30, 31, 2, 32, 33, 34, 35, 36, 37, 23, 38, 39, 40, 41, 42, 43, 44, 45, 46, 47, 48, 49, 50, 51, 52, 53, 54, 55, 56, 57, 58, 59, 60, 61, 62, 63, 64, 65, 66, 67, 68, 69, 70, 71, 72, 73, 74, 75, 76, 77, 78, 79, 80, 81, 82, 83, 84, 10, 85, 13, 12, 14, 15, 86, 87, 88, 89, 90, 91, 92, 93, 94, 95, 96, 97, 98, 99, 100, 101, 102, 103, 104, 105, 106, 107, 108, 109, 110, 111, 112, 113, 114, 115, 116, 117, 118, 119, 120, 121, 122, 123, 124, 125, 126, 127, 128, 129, 130, 131, 132, 133, 134, 135, 136, 137, 138, 139, 140, 141, 142, 143, 155, 156, 157, 158, 159, 160, 161, 162, 163, 164, 165, 166, 175, 176, 177, 178, 179, 180, 181, 182, 183, 184, 185, 186, 187, 188, 189, 190, 191, 192, 193, 194, 195, 196, 197, 198, 199, 200, 167, 168, 169, 170, 171, 172, 173, 174, 201, 202, 203, 204] (by decide +kernel) (by decide +kernel)
set_option maxRecDepth 20000 in
theorem gX11_movedBy_X11_weighStories : GoodIn wsX11_movedBy (wsV RX11 321 RX11 yX11_weighStories wsX11_weighStories) := goodIn_app (goodIn_of _ (by decide +kernel)) ggX11_movedBy_X11_weighStories
set_option maxRecDepth 20000 in
theorem ggX11_movedBy_X2_dropLast : GoodIn wsX11_movedBy wsX2_dropLast := goodIn_r _ [147, 13, 148, 28, 5, 29, 167, 168, 169, 170, 171, 172, 173, 174] (by decide +kernel) (by decide +kernel)
set_option maxRecDepth 20000 in
theorem gX11_movedBy_X2_dropLast : GoodIn wsX11_movedBy (wsV RX11 343 RX2 yX2_dropLast wsX2_dropLast) := goodIn_app (goodIn_of _ (by decide +kernel)) ggX11_movedBy_X2_dropLast
set_option maxRecDepth 20000 in
theorem ggX11_movedBy_X9_oddsOf : GoodIn wsX11_movedBy wsX9_oddsOf := goodIn_r _ [152, 153, 154, 125, 184, 185, 186, 187, 188, 189, 190] (by decide +kernel) (by decide +kernel)
set_option maxRecDepth 20000 in
theorem gX11_movedBy_X9_oddsOf : GoodIn wsX11_movedBy (wsV RX11 327 RX9 yX9_oddsOf wsX9_oddsOf) := goodIn_app (goodIn_of _ (by decide +kernel)) ggX11_movedBy_X9_oddsOf
theorem dX11_movedBy_0 : decode cX11_movedBy 0 = .ok (.aload_n 0, 1) := by decide +kernel
theorem dX11_movedBy_1 : decode cX11_movedBy 1 = .ok (.getfield 33, 3) := by decide +kernel
theorem dX11_movedBy_4 : decode cX11_movedBy 4 = .ok (.iconst 0, 1) := by decide +kernel
theorem dX11_movedBy_5 : decode cX11_movedBy 5 = .ok (.iload_n 1, 1) := by decide +kernel
theorem dX11_movedBy_6 : decode cX11_movedBy 6 = .ok (.iload_n 2, 1) := by decide +kernel
theorem dX11_movedBy_7 : decode cX11_movedBy 7 = .ok (.invokevirtual 213, 3) := by decide +kernel
theorem dX11_movedBy_10 : decode cX11_movedBy 10 = .ok (.pop, 1) := by decide +kernel
theorem dX11_movedBy_11 : decode cX11_movedBy 11 = .ok (.aload_n 0, 1) := by decide +kernel
theorem dX11_movedBy_12 : decode cX11_movedBy 12 = .ok (.invokevirtual 321, 3) := by decide +kernel
theorem dX11_movedBy_15 : decode cX11_movedBy 15 = .ok (.aload_n 0, 1) := by decide +kernel
theorem dX11_movedBy_16 : decode cX11_movedBy 16 = .ok (.getfield 33, 3) := by decide +kernel
theorem dX11_movedBy_19 : decode cX11_movedBy 19 = .ok (.invokevirtual 343, 3) := by decide +kernel
theorem dX11_movedBy_22 : decode cX11_movedBy 22 = .ok (.aload_n 0, 1) := by decide +kernel
theorem dX11_movedBy_23 : decode cX11_movedBy 23 = .ok (.getfield 61, 3) := by decide +kernel
theorem dX11_movedBy_26 : decode cX11_movedBy 26 = .ok (.iload_n 3, 1) := by decide +kernel
theorem dX11_movedBy_27 : decode cX11_movedBy 27 = .ok (.invokevirtual 327, 3) := by decide +kernel
theorem dX11_movedBy_30 : decode cX11_movedBy 30 = .ok (.istore 5, 2) := by decide +kernel
theorem dX11_movedBy_32 : decode cX11_movedBy 32 = .ok (.iload 5, 2) := by decide +kernel
theorem dX11_movedBy_34 : decode cX11_movedBy 34 = .ok (.bipush (-2), 2) := by decide +kernel
theorem dX11_movedBy_36 : decode cX11_movedBy 36 = .ok (.if_icmp .ne 7, 3) := by decide +kernel
theorem dX11_movedBy_39 : decode cX11_movedBy 39 = .ok (.iconst 0, 1) := by decide +kernel
theorem dX11_movedBy_40 : decode cX11_movedBy 40 = .ok (.goto 5, 3) := by decide +kernel
theorem dX11_movedBy_43 : decode cX11_movedBy 43 = .ok (.iload 5, 2) := by decide +kernel
theorem dX11_movedBy_45 : decode cX11_movedBy 45 = .ok (.iload 4, 2) := by decide +kernel
theorem dX11_movedBy_47 : decode cX11_movedBy 47 = .ok (.isub, 1) := by decide +kernel
theorem dX11_movedBy_48 : decode cX11_movedBy 48 = .ok (.invokestatic 346, 3) := by decide +kernel
theorem dX11_movedBy_51 : decode cX11_movedBy 51 = .ok (.ireturn, 1) := by decide +kernel
set_option maxRecDepth 20000 in
theorem ggX11_weighStories_X11_findInks : GoodIn wsX11_weighStories wsX11_findInks := goodIn_r _ [18, 8, 2, 9, 19, 20, 21, 22, 23, 24, 25, 26, 27, 28, 29, 30, 31, 32, 33, 34, 35, 36, 37, 38, 39, 40, 41, 42, 43, 44, 45, 46, 47, 48, 49, 50, 51, 52, 53, 54, 17, 55, 129, 130, 131, 132, 133, 134, 135, 136, 137, 138, 139, 140, 141, 142, 143, 144, 145, 146, 147, 148, 149, 157, 158, 159, 160, 161, 162, 163, 164, 165, 166] (by decide +kernel) (by decide +kernel)
set_option maxRecDepth 20000 in
theorem gX11_weighStories_X11_findInks : GoodIn wsX11_weighStories (wsV RX11 185 RX11 yX11_findInks wsX11_findInks) := goodIn_app (goodIn_of _ (by decide +kernel)) ggX11_weighStories_X11_findInks
set_option maxRecDepth 20000 in
theorem ggX11_weighStories_X3_marksThatAre : GoodIn wsX11_weighStories wsX3_marksThatAre := goodIn_r _ [59, 45, 49, 60, 17, 61, 157, 158, 159, 160, 161, 162, 163, 164, 165, 166] (by decide +kernel) (by decide +kernel)
set_option maxRecDepth 20000 in
theorem gX11_weighStories_X3_marksThatAre : GoodIn wsX11_weighStories (wsV RX11 349 RX3 yX3_marksThatAre wsX3_marksThatAre) := goodIn_app (goodIn_of _ (by decide +kernel)) ggX11_weighStories_X3_marksThatAre
set_option maxRecDepth 20000 in
theorem ggX11_weighStories_X2_meanOf : GoodIn wsX11_weighStories wsX2_meanOf := goodIn_r _ [66, 67, 68, 69, 70, 54, 17, 55, 167, 168, 169, 170, 171, 172, 173, 174] (by decide +kernel) (by decide +kernel)
set_option maxRecDepth 20000 in
theorem gX11_weighStories_X2_meanOf : GoodIn wsX11_weighStories (wsV RX11 244 RX2 yX2_meanOf wsX2_meanOf) := goodIn_app (goodIn_of _ (by decide +kernel)) ggX11_weighStories_X2_meanOf
set_option maxRecDepth 20000 in
theorem ggX11_weighStories_X3_firstFighting : GoodIn wsX11_weighStories wsX3_firstFighting := goodIn_r _ [74, 75, 76, 77, 78, 40, 79, 45, 48, 49, 46, 43, 47, 54, 17, 55, 157, 158, 159, 160, 161, 162, 163, 164, 165, 166] (by decide +kernel) (by decide +kernel)
set_option maxRecDepth 20000 in
theorem gX11_weighStories_X3_firstFighting : GoodIn wsX11_weighStories (wsV RX11 189 RX3 yX3_firstFighting wsX3_firstFighting) := goodIn_app (goodIn_of _ (by decide +kernel)) ggX11_weighStories_X3_firstFighting
set_option maxRecDepth 20000 in
theorem ggX11_weighStories_X11_asBit : GoodIn wsX11_weighStories wsX11_asBit := goodIn_r _ [61] (by decide +kernel) (by decide +kernel)
set_option maxRecDepth 20000 in
theorem gX11_weighStories_X11_asBit : GoodIn wsX11_weighStories (va_wsS RX11 162 yX11_asBit wsX11_asBit) := goodIn_app (goodIn_of _ (by decide +kernel)) ggX11_weighStories_X11_asBit
set_option maxRecDepth 20000 in
theorem ggX11_weighStories_X6_lateOnes : GoodIn wsX11_weighStories wsX6_lateOnes := goodIn_r _ [85, 86, 87, 60, 17, 61, 175, 176, 177, 178] (by decide +kernel) (by decide +kernel)
set_option maxRecDepth 20000 in
theorem gX11_weighStories_X6_lateOnes : GoodIn wsX11_weighStories (wsV RX11 266 RX6 yX6_lateOnes wsX6_lateOnes) := goodIn_app (goodIn_of _ (by decide +kernel)) ggX11_weighStories_X6_lateOnes
set_option maxRecDepth 20000 in
theorem ggX11_weighStories_X2_someInkBars : GoodIn wsX11_weighStories wsX2_someInkBars := goodIn_r _ [91, 92, 93, 94, 65, 95, 96, 97, 98, 63, 64, 66, 67, 68, 69, 70, 54, 17, 55, 167, 168, 169, 170, 171, 172, 173, 174] (by decide +kernel) (by decide +kernel)
set_option maxRecDepth 20000 in
theorem gX11_weighStories_X2_someInkBars : GoodIn wsX11_weighStories (wsV RX11 355 RX2 yX2_someInkBars wsX2_someInkBars) := goodIn_app (goodIn_of _ (by decide +kernel)) ggX11_weighStories_X2_someInkBars
set_option maxRecDepth 20000 in
theorem ggX11_weighStories_X7_youngest : GoodIn wsX11_weighStories wsX7_youngest := goodIn_r _ [102, 25, 103, 104, 5, 6, 7, 141, 142, 143, 144, 145, 146, 147, 148, 149] (by decide +kernel) (by decide +kernel)
set_option maxRecDepth 20000 in
theorem gX11_weighStories_X7_youngest : GoodIn wsX11_weighStories (wsV RX11 358 RX7 yX7_youngest wsX7_youngest) := goodIn_app (goodIn_of _ (by decide +kernel)) ggX11_weighStories_X7_youngest
set_option maxRecDepth 20000 in
theorem ggX11_weighStories_X9_weigh : GoodIn wsX11_weighStories wsX9_weigh := goodIn_r _ [109, 110, 111, 112, 113, 114, 6, 115, 116, 5, 7, 117, 118, 119, 108, 120, 121, 122, 123, 124, 125, 60, 17, 61, 126, 127, 128, 150, 151, 152, 153, 154, 155, 156] (by decide +kernel) (by decide +kernel)
set_option maxRecDepth 20000 in
theorem gX11_weighStories_X9_weigh : GoodIn wsX11_weighStories (wsV RX11 361 RX9 yX9_weigh wsX9_weigh) := goodIn_app (goodIn_of _ (by decide +kernel)) ggX11_weighStories_X9_weigh
theorem dX11_weighStories_0 : decode cX11_weighStories 0 = .ok (.aload_n 0, 1) := by decide +kernel
theorem dX11_weighStories_1 : decode cX11_weighStories 1 = .ok (.iconst 5, 1) := by decide +kernel
theorem dX11_weighStories_2 : decode cX11_weighStories 2 = .ok (.invokevirtual 185, 3) := by decide +kernel
theorem dX11_weighStories_5 : decode cX11_weighStories 5 = .ok (.aload_n 0, 1) := by decide +kernel
theorem dX11_weighStories_6 : decode cX11_weighStories 6 = .ok (.getfield 94, 3) := by decide +kernel
theorem dX11_weighStories_9 : decode cX11_weighStories 9 = .ok (.iconst 0, 1) := by decide +kernel
theorem dX11_weighStories_10 : decode cX11_weighStories 10 = .ok (.aload_n 0, 1) := by decide +kernel
theorem dX11_weighStories_11 : decode cX11_weighStories 11 = .ok (.getfield 26, 3) := by decide +kernel
theorem dX11_weighStories_14 : decode cX11_weighStories 14 = .ok (.iconst 1, 1) := by decide +kernel
theorem dX11_weighStories_15 : decode cX11_weighStories 15 = .ok (.invokevirtual 349, 3) := by decide +kernel
theorem dX11_weighStories_18 : decode cX11_weighStories 18 = .ok (.iastore, 1) := by decide +kernel
theorem dX11_weighStories_19 : decode cX11_weighStories 19 = .ok (.aload_n 0, 1) := by decide +kernel
theorem dX11_weighStories_20 : decode cX11_weighStories 20 = .ok (.getfield 94, 3) := by decide +kernel
theorem dX11_weighStories_23 : decode cX11_weighStories 23 = .ok (.iconst 1, 1) := by decide +kernel
theorem dX11_weighStories_24 : decode cX11_weighStories 24 = .ok (.aload_n 0, 1) := by decide +kernel
theorem dX11_weighStories_25 : decode cX11_weighStories 25 = .ok (.getfield 26, 3) := by decide +kernel
theorem dX11_weighStories_28 : decode cX11_weighStories 28 = .ok (.iconst 0, 1) := by decide +kernel
theorem dX11_weighStories_29 : decode cX11_weighStories 29 = .ok (.invokevirtual 349, 3) := by decide +kernel
theorem dX11_weighStories_32 : decode cX11_weighStories 32 = .ok (.iastore, 1) := by decide +kernel
theorem dX11_weighStories_33 : decode cX11_weighStories 33 = .ok (.aload_n 0, 1) := by decide +kernel
theorem dX11_weighStories_34 : decode cX11_weighStories 34 = .ok (.getfield 94, 3) := by decide +kernel
theorem dX11_weighStories_37 : decode cX11_weighStories 37 = .ok (.iconst 2, 1) := by decide +kernel
theorem dX11_weighStories_38 : decode cX11_weighStories 38 = .ok (.aload_n 0, 1) := by decide +kernel
theorem dX11_weighStories_39 : decode cX11_weighStories 39 = .ok (.getfield 33, 3) := by decide +kernel
theorem dX11_weighStories_42 : decode cX11_weighStories 42 = .ok (.bipush 31, 2) := by decide +kernel
theorem dX11_weighStories_44 : decode cX11_weighStories 44 = .ok (.bipush 63, 2) := by decide +kernel
theorem dX11_weighStories_46 : decode cX11_weighStories 46 = .ok (.invokevirtual 244, 3) := by decide +kernel
theorem dX11_weighStories_49 : decode cX11_weighStories 49 = .ok (.iconst 0, 1) := by decide +kernel
theorem dX11_weighStories_50 : decode cX11_weighStories 50 = .ok (.invokestatic 338, 3) := by decide +kernel
theorem dX11_weighStories_53 : decode cX11_weighStories 53 = .ok (.iastore, 1) := by decide +kernel
theorem dX11_weighStories_54 : decode cX11_weighStories 54 = .ok (.aload_n 0, 1) := by decide +kernel
theorem dX11_weighStories_55 : decode cX11_weighStories 55 = .ok (.getfield 94, 3) := by decide +kernel
theorem dX11_weighStories_58 : decode cX11_weighStories 58 = .ok (.iconst 3, 1) := by decide +kernel
theorem dX11_weighStories_59 : decode cX11_weighStories 59 = .ok (.aload_n 0, 1) := by decide +kernel
theorem dX11_weighStories_60 : decode cX11_weighStories 60 = .ok (.getfield 33, 3) := by decide +kernel
theorem dX11_weighStories_63 : decode cX11_weighStories 63 = .ok (.bipush 31, 2) := by decide +kernel
theorem dX11_weighStories_65 : decode cX11_weighStories 65 = .ok (.sipush 128, 3) := by decide +kernel
theorem dX11_weighStories_68 : decode cX11_weighStories 68 = .ok (.invokevirtual 244, 3) := by decide +kernel
theorem dX11_weighStories_71 : decode cX11_weighStories 71 = .ok (.iconst 0, 1) := by decide +kernel
theorem dX11_weighStories_72 : decode cX11_weighStories 72 = .ok (.invokestatic 338, 3) := by decide +kernel
theorem dX11_weighStories_75 : decode cX11_weighStories 75 = .ok (.iastore, 1) := by decide +kernel
theorem dX11_weighStories_76 : decode cX11_weighStories 76 = .ok (.aload_n 0, 1) := by decide +kernel
theorem dX11_weighStories_77 : decode cX11_weighStories 77 = .ok (.getfield 94, 3) := by decide +kernel
theorem dX11_weighStories_80 : decode cX11_weighStories 80 = .ok (.bipush 6, 2) := by decide +kernel
theorem dX11_weighStories_82 : decode cX11_weighStories 82 = .ok (.aload_n 0, 1) := by decide +kernel
theorem dX11_weighStories_83 : decode cX11_weighStories 83 = .ok (.getfield 26, 3) := by decide +kernel
theorem dX11_weighStories_86 : decode cX11_weighStories 86 = .ok (.aload_n 0, 1) := by decide +kernel
theorem dX11_weighStories_87 : decode cX11_weighStories 87 = .ok (.getfield 10, 3) := by decide +kernel
theorem dX11_weighStories_90 : decode cX11_weighStories 90 = .ok (.getfield 141, 3) := by decide +kernel
theorem dX11_weighStories_93 : decode cX11_weighStories 93 = .ok (.invokevirtual 189, 3) := by decide +kernel
theorem dX11_weighStories_96 : decode cX11_weighStories 96 = .ok (.ifCond .lt 7, 3) := by decide +kernel
theorem dX11_weighStories_99 : decode cX11_weighStories 99 = .ok (.iconst 1, 1) := by decide +kernel
theorem dX11_weighStories_100 : decode cX11_weighStories 100 = .ok (.goto 4, 3) := by decide +kernel
theorem dX11_weighStories_103 : decode cX11_weighStories 103 = .ok (.iconst 0, 1) := by decide +kernel
theorem dX11_weighStories_104 : decode cX11_weighStories 104 = .ok (.invokestatic 162, 3) := by decide +kernel
theorem dX11_weighStories_107 : decode cX11_weighStories 107 = .ok (.iastore, 1) := by decide +kernel
theorem dX11_weighStories_108 : decode cX11_weighStories 108 = .ok (.iconst 0, 1) := by decide +kernel
theorem dX11_weighStories_109 : decode cX11_weighStories 109 = .ok (.istore_n 1, 1) := by decide +kernel
theorem dX11_weighStories_110 : decode cX11_weighStories 110 = .ok (.iload_n 1, 1) := by decide +kernel
theorem dX11_weighStories_111 : decode cX11_weighStories 111 = .ok (.aload_n 0, 1) := by decide +kernel
theorem dX11_weighStories_112 : decode cX11_weighStories 112 = .ok (.getfield 61, 3) := by decide +kernel
theorem dX11_weighStories_115 : decode cX11_weighStories 115 = .ok (.getfield 330, 3) := by decide +kernel
theorem dX11_weighStories_118 : decode cX11_weighStories 118 = .ok (.if_icmp .ge 82, 3) := by decide +kernel
theorem dX11_weighStories_121 : decode cX11_weighStories 121 = .ok (.aload_n 0, 1) := by decide +kernel
theorem dX11_weighStories_122 : decode cX11_weighStories 122 = .ok (.getfield 61, 3) := by decide +kernel
theorem dX11_weighStories_125 : decode cX11_weighStories 125 = .ok (.getfield 352, 3) := by decide +kernel
theorem dX11_weighStories_128 : decode cX11_weighStories 128 = .ok (.iload_n 1, 1) := by decide +kernel
theorem dX11_weighStories_129 : decode cX11_weighStories 129 = .ok (.iaload, 1) := by decide +kernel
theorem dX11_weighStories_130 : decode cX11_weighStories 130 = .ok (.istore_n 2, 1) := by decide +kernel
theorem dX11_weighStories_131 : decode cX11_weighStories 131 = .ok (.aload_n 0, 1) := by decide +kernel
theorem dX11_weighStories_132 : decode cX11_weighStories 132 = .ok (.getfield 94, 3) := by decide +kernel
theorem dX11_weighStories_135 : decode cX11_weighStories 135 = .ok (.iconst 4, 1) := by decide +kernel
theorem dX11_weighStories_136 : decode cX11_weighStories 136 = .ok (.aload_n 0, 1) := by decide +kernel
theorem dX11_weighStories_137 : decode cX11_weighStories 137 = .ok (.getfield 40, 3) := by decide +kernel
theorem dX11_weighStories_140 : decode cX11_weighStories 140 = .ok (.iload_n 2, 1) := by decide +kernel
theorem dX11_weighStories_141 : decode cX11_weighStories 141 = .ok (.invokevirtual 266, 3) := by decide +kernel
theorem dX11_weighStories_144 : decode cX11_weighStories 144 = .ok (.iastore, 1) := by decide +kernel
theorem dX11_weighStories_145 : decode cX11_weighStories 145 = .ok (.aload_n 0, 1) := by decide +kernel
theorem dX11_weighStories_146 : decode cX11_weighStories 146 = .ok (.getfield 94, 3) := by decide +kernel
theorem dX11_weighStories_149 : decode cX11_weighStories 149 = .ok (.iconst 5, 1) := by decide +kernel
theorem dX11_weighStories_150 : decode cX11_weighStories 150 = .ok (.aload_n 0, 1) := by decide +kernel
theorem dX11_weighStories_151 : decode cX11_weighStories 151 = .ok (.getfield 33, 3) := by decide +kernel
theorem dX11_weighStories_154 : decode cX11_weighStories 154 = .ok (.iload_n 2, 1) := by decide +kernel
theorem dX11_weighStories_155 : decode cX11_weighStories 155 = .ok (.invokevirtual 355, 3) := by decide +kernel
theorem dX11_weighStories_158 : decode cX11_weighStories 158 = .ok (.invokestatic 162, 3) := by decide +kernel
theorem dX11_weighStories_161 : decode cX11_weighStories 161 = .ok (.iastore, 1) := by decide +kernel
theorem dX11_weighStories_162 : decode cX11_weighStories 162 = .ok (.aload_n 0, 1) := by decide +kernel
theorem dX11_weighStories_163 : decode cX11_weighStories 163 = .ok (.getfield 94, 3) := by decide +kernel
theorem dX11_weighStories_166 : decode cX11_weighStories 166 = .ok (.bipush 7, 2) := by decide +kernel
theorem dX11_weighStories_168 : decode cX11_weighStories 168 = .ok (.aload_n 0, 1) := by decide +kernel
theorem dX11_weighStories_169 : decode cX11_weighStories 169 = .ok (.getfield 10, 3) := by decide +kernel
theorem dX11_weighStories_172 : decode cX11_weighStories 172 = .ok (.invokevirtual 358, 3) := by decide +kernel
theorem dX11_weighStories_175 : decode cX11_weighStories 175 = .ok (.iload_n 2, 1) := by decide +kernel
theorem dX11_weighStories_176 : decode cX11_weighStories 176 = .ok (.isub, 1) := by decide +kernel
theorem dX11_weighStories_177 : decode cX11_weighStories 177 = .ok (.iconst 0, 1) := by decide +kernel
theorem dX11_weighStories_178 : decode cX11_weighStories 178 = .ok (.invokestatic 338, 3) := by decide +kernel
theorem dX11_weighStories_181 : decode cX11_weighStories 181 = .ok (.iastore, 1) := by decide +kernel
theorem dX11_weighStories_182 : decode cX11_weighStories 182 = .ok (.aload_n 0, 1) := by decide +kernel
theorem dX11_weighStories_183 : decode cX11_weighStories 183 = .ok (.getfield 61, 3) := by decide +kernel
theorem dX11_weighStories_186 : decode cX11_weighStories 186 = .ok (.iload_n 1, 1) := by decide +kernel
theorem dX11_weighStories_187 : decode cX11_weighStories 187 = .ok (.aload_n 0, 1) := by decide +kernel
theorem dX11_weighStories_188 : decode cX11_weighStories 188 = .ok (.getfield 94, 3) := by decide +kernel
theorem dX11_weighStories_191 : decode cX11_weighStories 191 = .ok (.invokevirtual 361, 3) := by decide +kernel
theorem dX11_weighStories_194 : decode cX11_weighStories 194 = .ok (.iinc 1 1, 3) := by decide +kernel
theorem dX11_weighStories_197 : decode cX11_weighStories 197 = .ok (.goto (-87), 3) := by decide +kernel
theorem dX11_weighStories_200 : decode cX11_weighStories 200 = .ok (.return_, 1) := by decide +kernel
set_option maxRecDepth 20000 in
theorem ggX11_undo_X1_stepBack : GoodIn wsX11_undo wsX1_stepBack := goodIn_r _ [10, 11, 12, 13, 14, 15, 42, 43, 44, 45, 46, 47] (by decide +kernel) (by decide +kernel)
set_option maxRecDepth 20000 in
theorem gX11_undo_X1_stepBack : GoodIn wsX11_undo (wsV RX11 368 RX1 yX1_stepBack wsX1_stepBack) := goodIn_app (goodIn_of _ (by decide +kernel)) ggX11_undo_X1_stepBack
set_option maxRecDepth 20000 in
theorem ggX11_undo_X11_become : GoodIn wsX11_undo wsX11_become := goodIn_r _ [20, 21, 22, 23, 24, 25, 26, 27, 28, 19, 29, 30, 31, 32, 33, 34, 35, 36, 37, 38, 39, 40, 41, 48, 49, 50, 51, 52, 53, 54, 55, 56, 57, 58, 59, 60, 61, 62, 63, 64, 65, 66, 67, 68, 69, 70, 71] (by decide +kernel) (by decide +kernel)
set_option maxRecDepth 20000 in
theorem gX11_undo_X11_become : GoodIn wsX11_undo (wsV RX11 380 RX11 yX11_become wsX11_become) := goodIn_app (goodIn_of _ (by decide +kernel)) ggX11_undo_X11_become
theorem dX11_undo_0 : decode cX11_undo 0 = .ok (.aload_n 0, 1) := by decide +kernel
theorem dX11_undo_1 : decode cX11_undo 1 = .ok (.getfield 68, 3) := by decide +kernel
theorem dX11_undo_4 : decode cX11_undo 4 = .ok (.getfield 365, 3) := by decide +kernel
theorem dX11_undo_7 : decode cX11_undo 7 = .ok (.ifCond .ne 6, 3) := by decide +kernel
theorem dX11_undo_10 : decode cX11_undo 10 = .ok (.bipush (-5), 2) := by decide +kernel
theorem dX11_undo_12 : decode cX11_undo 12 = .ok (.ireturn, 1) := by decide +kernel
theorem dX11_undo_13 : decode cX11_undo 13 = .ok (.aload_n 0, 1) := by decide +kernel
theorem dX11_undo_14 : decode cX11_undo 14 = .ok (.getfield 68, 3) := by decide +kernel
theorem dX11_undo_17 : decode cX11_undo 17 = .ok (.invokevirtual 368, 3) := by decide +kernel
theorem dX11_undo_20 : decode cX11_undo 20 = .ok (.istore_n 1, 1) := by decide +kernel
theorem dX11_undo_21 : decode cX11_undo 21 = .ok (.aload_n 0, 1) := by decide +kernel
theorem dX11_undo_22 : decode cX11_undo 22 = .ok (.aload_n 0, 1) := by decide +kernel
theorem dX11_undo_23 : decode cX11_undo 23 = .ok (.getfield 68, 3) := by decide +kernel
theorem dX11_undo_26 : decode cX11_undo 26 = .ok (.getfield 371, 3) := by decide +kernel
theorem dX11_undo_29 : decode cX11_undo 29 = .ok (.iload_n 1, 1) := by decide +kernel
theorem dX11_undo_30 : decode cX11_undo 30 = .ok (.iaload, 1) := by decide +kernel
theorem dX11_undo_31 : decode cX11_undo 31 = .ok (.aload_n 0, 1) := by decide +kernel
theorem dX11_undo_32 : decode cX11_undo 32 = .ok (.getfield 68, 3) := by decide +kernel
theorem dX11_undo_35 : decode cX11_undo 35 = .ok (.getfield 374, 3) := by decide +kernel
theorem dX11_undo_38 : decode cX11_undo 38 = .ok (.iload_n 1, 1) := by decide +kernel
theorem dX11_undo_39 : decode cX11_undo 39 = .ok (.iaload, 1) := by decide +kernel
theorem dX11_undo_40 : decode cX11_undo 40 = .ok (.aload_n 0, 1) := by decide +kernel
theorem dX11_undo_41 : decode cX11_undo 41 = .ok (.getfield 68, 3) := by decide +kernel
theorem dX11_undo_44 : decode cX11_undo 44 = .ok (.getfield 377, 3) := by decide +kernel
theorem dX11_undo_47 : decode cX11_undo 47 = .ok (.iload_n 1, 1) := by decide +kernel
theorem dX11_undo_48 : decode cX11_undo 48 = .ok (.iaload, 1) := by decide +kernel
theorem dX11_undo_49 : decode cX11_undo 49 = .ok (.invokevirtual 380, 3) := by decide +kernel
theorem dX11_undo_52 : decode cX11_undo 52 = .ok (.pop, 1) := by decide +kernel
theorem dX11_undo_53 : decode cX11_undo 53 = .ok (.aload_n 0, 1) := by decide +kernel
theorem dX11_undo_54 : decode cX11_undo 54 = .ok (.getfield 68, 3) := by decide +kernel
theorem dX11_undo_57 : decode cX11_undo 57 = .ok (.getfield 365, 3) := by decide +kernel
theorem dX11_undo_60 : decode cX11_undo 60 = .ok (.ireturn, 1) := by decide +kernel
set_option maxRecDepth 20000 in
theorem ggX11_redo_X1_stepOn : GoodIn wsX11_redo wsX1_stepOn := goodIn_r _ [11, 12, 13, 14, 15, 16, 17, 44, 45, 46, 47, 48, 49] (by decide +kernel) (by decide +kernel)
set_option maxRecDepth 20000 in
theorem gX11_redo_X1_stepOn : GoodIn wsX11_redo (wsV RX11 386 RX1 yX1_stepOn wsX1_stepOn) := goodIn_app (goodIn_of _ (by decide +kernel)) ggX11_redo_X1_stepOn
set_option maxRecDepth 20000 in
theorem ggX11_redo_X11_become : GoodIn wsX11_redo wsX11_become := goodIn_r _ [22, 23, 24, 25, 26, 27, 28, 29, 30, 21, 31, 32, 33, 34, 35, 36, 37, 38, 39, 40, 41, 42, 43, 50, 51, 52, 53, 54, 55, 56, 57, 58, 59, 60, 61, 62, 63, 64, 65, 66, 67, 68, 69, 70, 71, 72, 73] (by decide +kernel) (by decide +kernel)
set_option maxRecDepth 20000 in
theorem gX11_redo_X11_become : GoodIn wsX11_redo (wsV RX11 380 RX11 yX11_become wsX11_become) := goodIn_app (goodIn_of _ (by decide +kernel)) ggX11_redo_X11_become
theorem dX11_redo_0 : decode cX11_redo 0 = .ok (.aload_n 0, 1) := by decide +kernel
theorem dX11_redo_1 : decode cX11_redo 1 = .ok (.getfield 68, 3) := by decide +kernel
theorem dX11_redo_4 : decode cX11_redo 4 = .ok (.getfield 365, 3) := by decide +kernel
theorem dX11_redo_7 : decode cX11_redo 7 = .ok (.aload_n 0, 1) := by decide +kernel
theorem dX11_redo_8 : decode cX11_redo 8 = .ok (.getfield 68, 3) := by decide +kernel
theorem dX11_redo_11 : decode cX11_redo 11 = .ok (.getfield 383, 3) := by decide +kernel
theorem dX11_redo_14 : decode cX11_redo 14 = .ok (.if_icmp .ne 6, 3) := by decide +kernel
theorem dX11_redo_17 : decode cX11_redo 17 = .ok (.bipush (-5), 2) := by decide +kernel
theorem dX11_redo_19 : decode cX11_redo 19 = .ok (.ireturn, 1) := by decide +kernel
theorem dX11_redo_20 : decode cX11_redo 20 = .ok (.aload_n 0, 1) := by decide +kernel
theorem dX11_redo_21 : decode cX11_redo 21 = .ok (.getfield 68, 3) := by decide +kernel
theorem dX11_redo_24 : decode cX11_redo 24 = .ok (.invokevirtual 386, 3) := by decide +kernel
theorem dX11_redo_27 : decode cX11_redo 27 = .ok (.istore_n 1, 1) := by decide +kernel
theorem dX11_redo_28 : decode cX11_redo 28 = .ok (.aload_n 0, 1) := by decide +kernel
theorem dX11_redo_29 : decode cX11_redo 29 = .ok (.aload_n 0, 1) := by decide +kernel
theorem dX11_redo_30 : decode cX11_redo 30 = .ok (.getfield 68, 3) := by decide +kernel
theorem dX11_redo_33 : decode cX11_redo 33 = .ok (.getfield 371, 3) := by decide +kernel
theorem dX11_redo_36 : decode cX11_redo 36 = .ok (.iload_n 1, 1) := by decide +kernel
theorem dX11_redo_37 : decode cX11_redo 37 = .ok (.iaload, 1) := by decide +kernel
theorem dX11_redo_38 : decode cX11_redo 38 = .ok (.aload_n 0, 1) := by decide +kernel
theorem dX11_redo_39 : decode cX11_redo 39 = .ok (.getfield 68, 3) := by decide +kernel
theorem dX11_redo_42 : decode cX11_redo 42 = .ok (.getfield 374, 3) := by decide +kernel
theorem dX11_redo_45 : decode cX11_redo 45 = .ok (.iload_n 1, 1) := by decide +kernel
theorem dX11_redo_46 : decode cX11_redo 46 = .ok (.iaload, 1) := by decide +kernel
theorem dX11_redo_47 : decode cX11_redo 47 = .ok (.aload_n 0, 1) := by decide +kernel
theorem dX11_redo_48 : decode cX11_redo 48 = .ok (.getfield 68, 3) := by decide +kernel
theorem dX11_redo_51 : decode cX11_redo 51 = .ok (.getfield 389, 3) := by decide +kernel
theorem dX11_redo_54 : decode cX11_redo 54 = .ok (.iload_n 1, 1) := by decide +kernel
theorem dX11_redo_55 : decode cX11_redo 55 = .ok (.iaload, 1) := by decide +kernel
theorem dX11_redo_56 : decode cX11_redo 56 = .ok (.invokevirtual 380, 3) := by decide +kernel
theorem dX11_redo_59 : decode cX11_redo 59 = .ok (.pop, 1) := by decide +kernel
theorem dX11_redo_60 : decode cX11_redo 60 = .ok (.aload_n 0, 1) := by decide +kernel
theorem dX11_redo_61 : decode cX11_redo 61 = .ok (.getfield 68, 3) := by decide +kernel
theorem dX11_redo_64 : decode cX11_redo 64 = .ok (.getfield 383, 3) := by decide +kernel
theorem dX11_redo_67 : decode cX11_redo 67 = .ok (.aload_n 0, 1) := by decide +kernel
theorem dX11_redo_68 : decode cX11_redo 68 = .ok (.getfield 68, 3) := by decide +kernel
theorem dX11_redo_71 : decode cX11_redo 71 = .ok (.getfield 365, 3) := by decide +kernel
theorem dX11_redo_74 : decode cX11_redo 74 = .ok (.isub, 1) := by decide +kernel
theorem dX11_redo_75 : decode cX11_redo 75 = .ok (.ireturn, 1) := by decide +kernel
set_option maxRecDepth 20000 in
theorem ggX11_change_X11_become : GoodIn wsX11_change wsX11_become := goodIn_r _ [6, 7, 8, 9, 10, 11, 12, 13, 14, 5, 15, 35, 36, 37, 38, 39, 40, 41, 42, 43, 44, 45, 46, 47, 48, 49, 50, 51, 52, 53, 54, 55, 56, 57, 58, 59, 60, 61, 62, 63, 64, 65, 66, 67, 68, 69, 70] (by decide +kernel) (by decide +kernel)
set_option maxRecDepth 20000 in
theorem gX11_change_X11_become : GoodIn wsX11_change (wsV RX11 380 RX11 yX11_become wsX11_become) := goodIn_app (goodIn_of _ (by decide +kernel)) ggX11_change_X11_become
set_option maxRecDepth 20000 in
theorem ggX11_change_X1_add : GoodIn wsX11_change wsX1_add := goodIn_r _ [20, 21, 22, 23, 24, 25, 26, 27, 28, 29, 19, 30, 31, 32, 33, 34, 71, 72, 73, 74, 75, 76] (by decide +kernel) (by decide +kernel)
set_option maxRecDepth 20000 in
theorem gX11_change_X1_add : GoodIn wsX11_change (wsV RX11 392 RX1 yX1_add wsX1_add) := goodIn_app (goodIn_of _ (by decide +kernel)) ggX11_change_X1_add
theorem dX11_change_0 : decode cX11_change 0 = .ok (.aload_n 0, 1) := by decide +kernel
theorem dX11_change_1 : decode cX11_change 1 = .ok (.iload_n 1, 1) := by decide +kernel
theorem dX11_change_2 : decode cX11_change 2 = .ok (.iload_n 2, 1) := by decide +kernel
theorem dX11_change_3 : decode cX11_change 3 = .ok (.iload_n 3, 1) := by decide +kernel
theorem dX11_change_4 : decode cX11_change 4 = .ok (.invokevirtual 380, 3) := by decide +kernel
theorem dX11_change_7 : decode cX11_change 7 = .ok (.istore 4, 2) := by decide +kernel
theorem dX11_change_9 : decode cX11_change 9 = .ok (.iload 4, 2) := by decide +kernel
theorem dX11_change_11 : decode cX11_change 11 = .ok (.iload_n 3, 1) := by decide +kernel
theorem dX11_change_12 : decode cX11_change 12 = .ok (.if_icmp .eq 15, 3) := by decide +kernel
theorem dX11_change_15 : decode cX11_change 15 = .ok (.aload_n 0, 1) := by decide +kernel
theorem dX11_change_16 : decode cX11_change 16 = .ok (.getfield 68, 3) := by decide +kernel
theorem dX11_change_19 : decode cX11_change 19 = .ok (.iload_n 1, 1) := by decide +kernel
theorem dX11_change_20 : decode cX11_change 20 = .ok (.iload_n 2, 1) := by decide +kernel
theorem dX11_change_21 : decode cX11_change 21 = .ok (.iload 4, 2) := by decide +kernel
theorem dX11_change_23 : decode cX11_change 23 = .ok (.iload_n 3, 1) := by decide +kernel
theorem dX11_change_24 : decode cX11_change 24 = .ok (.invokevirtual 392, 3) := by decide +kernel
theorem dX11_change_27 : decode cX11_change 27 = .ok (.iload 4, 2) := by decide +kernel
theorem dX11_change_29 : decode cX11_change 29 = .ok (.ireturn, 1) := by decide +kernel
set_option maxRecDepth 20000 in
theorem ggX11_become_X11_within : GoodIn wsX11_become wsX11_within := goodIn_r _ [10] (by decide +kernel) (by decide +kernel)
set_option maxRecDepth 20000 in
theorem gX11_become_X11_within : GoodIn wsX11_become (va_wsS RX11 113 yX11_within wsX11_within) := goodIn_app (goodIn_of _ (by decide +kernel)) ggX11_become_X11_within
theorem dX11_become_0 : decode cX11_become 0 = .ok (.iload_n 1, 1) := by decide +kernel
theorem dX11_become_1 : decode cX11_become 1 = .ok (.ifCond .ne 13, 3) := by decide +kernel
theorem dX11_become_4 : decode cX11_become 4 = .ok (.aload_n 0, 1) := by decide +kernel
theorem dX11_become_5 : decode cX11_become 5 = .ok (.getfield 33, 3) := by decide +kernel
theorem dX11_become_8 : decode cX11_become 8 = .ok (.getfield 395, 3) := by decide +kernel
theorem dX11_become_11 : decode cX11_become 11 = .ok (.goto 25, 3) := by decide +kernel
theorem dX11_become_14 : decode cX11_become 14 = .ok (.iload_n 1, 1) := by decide +kernel
theorem dX11_become_15 : decode cX11_become 15 = .ok (.iconst 1, 1) := by decide +kernel
theorem dX11_become_16 : decode cX11_become 16 = .ok (.if_icmp .ne 13, 3) := by decide +kernel
theorem dX11_become_19 : decode cX11_become 19 = .ok (.aload_n 0, 1) := by decide +kernel
theorem dX11_become_20 : decode cX11_become 20 = .ok (.getfield 61, 3) := by decide +kernel
theorem dX11_become_23 : decode cX11_become 23 = .ok (.getfield 398, 3) := by decide +kernel
theorem dX11_become_26 : decode cX11_become 26 = .ok (.goto 10, 3) := by decide +kernel
theorem dX11_become_29 : decode cX11_become 29 = .ok (.aload_n 0, 1) := by decide +kernel
theorem dX11_become_30 : decode cX11_become 30 = .ok (.getfield 10, 3) := by decide +kernel
theorem dX11_become_33 : decode cX11_become 33 = .ok (.getfield 401, 3) := by decide +kernel
theorem dX11_become_36 : decode cX11_become 36 = .ok (.astore 4, 2) := by decide +kernel
theorem dX11_become_38 : decode cX11_become 38 = .ok (.iload_n 2, 1) := by decide +kernel
theorem dX11_become_39 : decode cX11_become 39 = .ok (.iconst 0, 1) := by decide +kernel
theorem dX11_become_40 : decode cX11_become 40 = .ok (.aload 4, 2) := by decide +kernel
theorem dX11_become_42 : decode cX11_become 42 = .ok (.arraylength, 1) := by decide +kernel
theorem dX11_become_43 : decode cX11_become 43 = .ok (.iconst 1, 1) := by decide +kernel
theorem dX11_become_44 : decode cX11_become 44 = .ok (.isub, 1) := by decide +kernel
theorem dX11_become_45 : decode cX11_become 45 = .ok (.invokestatic 113, 3) := by decide +kernel
theorem dX11_become_48 : decode cX11_become 48 = .ok (.ifCond .ne 5, 3) := by decide +kernel
theorem dX11_become_51 : decode cX11_become 51 = .ok (.iload_n 3, 1) := by decide +kernel
theorem dX11_become_52 : decode cX11_become 52 = .ok (.ireturn, 1) := by decide +kernel
theorem dX11_become_53 : decode cX11_become 53 = .ok (.aload 4, 2) := by decide +kernel
theorem dX11_become_55 : decode cX11_become 55 = .ok (.iload_n 2, 1) := by decide +kernel
theorem dX11_become_56 : decode cX11_become 56 = .ok (.iaload, 1) := by decide +kernel
theorem dX11_become_57 : decode cX11_become 57 = .ok (.istore 5, 2) := by decide +kernel
theorem dX11_become_59 : decode cX11_become 59 = .ok (.aload 4, 2) := by decide +kernel
theorem dX11_become_61 : decode cX11_become 61 = .ok (.iload_n 2, 1) := by decide +kernel
theorem dX11_become_62 : decode cX11_become 62 = .ok (.iload_n 3, 1) := by decide +kernel
theorem dX11_become_63 : decode cX11_become 63 = .ok (.iastore, 1) := by decide +kernel
theorem dX11_become_64 : decode cX11_become 64 = .ok (.iload 5, 2) := by decide +kernel
theorem dX11_become_66 : decode cX11_become 66 = .ok (.ireturn, 1) := by decide +kernel
set_option maxRecDepth 20000 in
theorem ggX11_body_X11_within : GoodIn wsX11_body wsX11_within := goodIn_r _ [5] (by decide +kernel) (by decide +kernel)
set_option maxRecDepth 20000 in
theorem gX11_body_X11_within : GoodIn wsX11_body (va_wsS RX11 113 yX11_within wsX11_within) := goodIn_app (goodIn_of _ (by decide +kernel)) ggX11_body_X11_within
set_option maxRecDepth 20000 in
theorem ggX11_body_X0_add : GoodIn wsX11_body wsX0_add := goodIn_r _ [10, 11, 12, 25, 26, 27, 28, 29] (by decide +kernel) (by decide +kernel)
set_option maxRecDepth 20000 in
theorem gX11_body_X0_add : GoodIn wsX11_body (wsV RX11 404 RX0 yX0_add wsX0_add) := goodIn_app (goodIn_of _ (by decide +kernel)) ggX11_body_X0_add
theorem dX11_body_0 : decode cX11_body 0 = .ok (.iload_n 1, 1) := by decide +kernel
theorem dX11_body_1 : decode cX11_body 1 = .ok (.iconst 0, 1) := by decide +kernel
theorem dX11_body_2 : decode cX11_body 2 = .ok (.bipush 7, 2) := by decide +kernel
theorem dX11_body_4 : decode cX11_body 4 = .ok (.invokestatic 113, 3) := by decide +kernel
theorem dX11_body_7 : decode cX11_body 7 = .ok (.ifCond .ne 5, 3) := by decide +kernel
theorem dX11_body_10 : decode cX11_body 10 = .ok (.iconst (-1), 1) := by decide +kernel
theorem dX11_body_11 : decode cX11_body 11 = .ok (.ireturn, 1) := by decide +kernel
theorem dX11_body_12 : decode cX11_body 12 = .ok (.aload_n 0, 1) := by decide +kernel
theorem dX11_body_13 : decode cX11_body 13 = .ok (.getfield 75, 3) := by decide +kernel
theorem dX11_body_16 : decode cX11_body 16 = .ok (.iload_n 1, 1) := by decide +kernel
theorem dX11_body_17 : decode cX11_body 17 = .ok (.invokevirtual 404, 3) := by decide +kernel
theorem dX11_body_20 : decode cX11_body 20 = .ok (.ireturn, 1) := by decide +kernel
set_option maxRecDepth 20000 in
theorem ggX11_act_X0_start : GoodIn wsX11_act wsX0_start := goodIn_r _ [6, 7, 8, 9, 10, 11, 5, 12, 13, 14, 15, 16, 17, 18, 19, 20, 21, 22, 23, 24, 25, 26, 27, 28, 29, 30, 31, 32, 45, 46, 47, 48, 49] (by decide +kernel) (by decide +kernel)
set_option maxRecDepth 20000 in
theorem gX11_act_X0_start : GoodIn wsX11_act (wsV RX11 405 RX0 yX0_start wsX0_start) := goodIn_app (goodIn_of _ (by decide +kernel)) ggX11_act_X0_start
theorem dX11_act_0 : decode cX11_act 0 = .ok (.aload_n 0, 1) := by decide +kernel
theorem dX11_act_1 : decode cX11_act 1 = .ok (.getfield 75, 3) := by decide +kernel
theorem dX11_act_4 : decode cX11_act 4 = .ok (.iload_n 1, 1) := by decide +kernel
theorem dX11_act_5 : decode cX11_act 5 = .ok (.iload_n 2, 1) := by decide +kernel
theorem dX11_act_6 : decode cX11_act 6 = .ok (.iload_n 3, 1) := by decide +kernel
theorem dX11_act_7 : decode cX11_act 7 = .ok (.invokevirtual 405, 3) := by decide +kernel
theorem dX11_act_10 : decode cX11_act 10 = .ok (.ireturn, 1) := by decide +kernel
set_option maxRecDepth 20000 in
theorem ggX11_trace_X0_traced : GoodIn wsX11_trace wsX0_traced := goodIn_r _ [7, 8, 9, 10, 11, 12, 13, 30, 31, 32, 33, 34] (by decide +kernel) (by decide +kernel)
set_option maxRecDepth 20000 in
theorem gX11_trace_X0_traced : GoodIn wsX11_trace (wsV RX11 408 RX0 yX0_traced wsX0_traced) := goodIn_app (goodIn_of _ (by decide +kernel)) ggX11_trace_X0_traced
set_option maxRecDepth 20000 in
theorem ggX11_trace_X11_within : GoodIn wsX11_trace wsX11_within := goodIn_r _ [17] (by decide +kernel) (by decide +kernel)
set_option maxRecDepth 20000 in
theorem gX11_trace_X11_within : GoodIn wsX11_trace (va_wsS RX11 113 yX11_within wsX11_within) := goodIn_app (goodIn_of _ (by decide +kernel)) ggX11_trace_X11_within
theorem dX11_trace_0 : decode cX11_trace 0 = .ok (.iload_n 1, 1) := by decide +kernel
theorem dX11_trace_1 : decode cX11_trace 1 = .ok (.iconst 0, 1) := by decide +kernel
theorem dX11_trace_2 : decode cX11_trace 2 = .ok (.aload_n 0, 1) := by decide +kernel
theorem dX11_trace_3 : decode cX11_trace 3 = .ok (.getfield 75, 3) := by decide +kernel
theorem dX11_trace_6 : decode cX11_trace 6 = .ok (.invokevirtual 408, 3) := by decide +kernel
theorem dX11_trace_9 : decode cX11_trace 9 = .ok (.iconst 1, 1) := by decide +kernel
theorem dX11_trace_10 : decode cX11_trace 10 = .ok (.isub, 1) := by decide +kernel
theorem dX11_trace_11 : decode cX11_trace 11 = .ok (.invokestatic 113, 3) := by decide +kernel
theorem dX11_trace_14 : decode cX11_trace 14 = .ok (.ifCond .eq 15, 3) := by decide +kernel
theorem dX11_trace_17 : decode cX11_trace 17 = .ok (.aload_n 0, 1) := by decide +kernel
theorem dX11_trace_18 : decode cX11_trace 18 = .ok (.getfield 75, 3) := by decide +kernel
theorem dX11_trace_21 : decode cX11_trace 21 = .ok (.getfield 411, 3) := by decide +kernel
theorem dX11_trace_24 : decode cX11_trace 24 = .ok (.iload_n 1, 1) := by decide +kernel
theorem dX11_trace_25 : decode cX11_trace 25 = .ok (.iaload, 1) := by decide +kernel
theorem dX11_trace_26 : decode cX11_trace 26 = .ok (.goto 4, 3) := by decide +kernel
theorem dX11_trace_29 : decode cX11_trace 29 = .ok (.iconst (-1), 1) := by decide +kernel
theorem dX11_trace_30 : decode cX11_trace 30 = .ok (.ireturn, 1) := by decide +kernel
set_option maxRecDepth 20000 in
theorem ggX11_keep_X8_isShelf : GoodIn wsX11_keep wsX8_isShelf := goodIn_r _ [8, 9, 10, 11, 12, 45, 46, 47, 48] (by decide +kernel) (by decide +kernel)
set_option maxRecDepth 20000 in
theorem gX11_keep_X8_isShelf : GoodIn wsX11_keep (wsV RX11 221 RX8 yX8_isShelf wsX8_isShelf) := goodIn_app (goodIn_of _ (by decide +kernel)) ggX11_keep_X8_isShelf
set_option maxRecDepth 20000 in
theorem ggX11_keep_X0_isBody : GoodIn wsX11_keep wsX0_isBody := goodIn_r _ [17, 18, 10, 11, 12, 40, 41, 42, 43, 44] (by decide +kernel) (by decide +kernel)
set_option maxRecDepth 20000 in
theorem gX11_keep_X0_isBody : GoodIn wsX11_keep (wsV RX11 414 RX0 yX0_isBody wsX0_isBody) := goodIn_app (goodIn_of _ (by decide +kernel)) ggX11_keep_X0_isBody
set_option maxRecDepth 20000 in
theorem ggX11_keep_X8_clear : GoodIn wsX11_keep wsX8_clear := goodIn_r _ [22, 9, 45, 46, 47, 48] (by decide +kernel) (by decide +kernel)
set_option maxRecDepth 20000 in
theorem gX11_keep_X8_clear : GoodIn wsX11_keep (wsV RX11 417 RX8 yX8_clear wsX8_clear) := goodIn_app (goodIn_of _ (by decide +kernel)) ggX11_keep_X8_clear
set_option maxRecDepth 20000 in
theorem ggX11_keep_X8_layBody : GoodIn wsX11_keep wsX8_layBody := goodIn_r _ [26, 9, 27, 45, 46, 47, 48] (by decide +kernel) (by decide +kernel)
set_option maxRecDepth 20000 in
theorem gX11_keep_X8_layBody : GoodIn wsX11_keep (wsV RX11 423 RX8 yX8_layBody wsX8_layBody) := goodIn_app (goodIn_of _ (by decide +kernel)) ggX11_keep_X8_layBody
theorem dX11_keep_0 : decode cX11_keep 0 = .ok (.aload_n 0, 1) := by decide +kernel
theorem dX11_keep_1 : decode cX11_keep 1 = .ok (.getfield 82, 3) := by decide +kernel
theorem dX11_keep_4 : decode cX11_keep 4 = .ok (.iload_n 1, 1) := by decide +kernel
theorem dX11_keep_5 : decode cX11_keep 5 = .ok (.invokevirtual 221, 3) := by decide +kernel
theorem dX11_keep_8 : decode cX11_keep 8 = .ok (.ifCond .eq 19, 3) := by decide +kernel
theorem dX11_keep_11 : decode cX11_keep 11 = .ok (.iload_n 2, 1) := by decide +kernel
theorem dX11_keep_12 : decode cX11_keep 12 = .ok (.iconst (-1), 1) := by decide +kernel
theorem dX11_keep_13 : decode cX11_keep 13 = .ok (.if_icmp .eq 16, 3) := by decide +kernel
theorem dX11_keep_16 : decode cX11_keep 16 = .ok (.aload_n 0, 1) := by decide +kernel
theorem dX11_keep_17 : decode cX11_keep 17 = .ok (.getfield 75, 3) := by decide +kernel
theorem dX11_keep_20 : decode cX11_keep 20 = .ok (.iload_n 2, 1) := by decide +kernel
theorem dX11_keep_21 : decode cX11_keep 21 = .ok (.invokevirtual 414, 3) := by decide +kernel
theorem dX11_keep_24 : decode cX11_keep 24 = .ok (.ifCond .ne 5, 3) := by decide +kernel
theorem dX11_keep_27 : decode cX11_keep 27 = .ok (.iconst (-1), 1) := by decide +kernel
theorem dX11_keep_28 : decode cX11_keep 28 = .ok (.ireturn, 1) := by decide +kernel
theorem dX11_keep_29 : decode cX11_keep 29 = .ok (.iload_n 2, 1) := by decide +kernel
theorem dX11_keep_30 : decode cX11_keep 30 = .ok (.iconst (-1), 1) := by decide +kernel
theorem dX11_keep_31 : decode cX11_keep 31 = .ok (.if_icmp .ne 14, 3) := by decide +kernel
theorem dX11_keep_34 : decode cX11_keep 34 = .ok (.aload_n 0, 1) := by decide +kernel
theorem dX11_keep_35 : decode cX11_keep 35 = .ok (.getfield 82, 3) := by decide +kernel
theorem dX11_keep_38 : decode cX11_keep 38 = .ok (.iload_n 1, 1) := by decide +kernel
theorem dX11_keep_39 : decode cX11_keep 39 = .ok (.invokevirtual 417, 3) := by decide +kernel
theorem dX11_keep_42 : decode cX11_keep 42 = .ok (.goto 20, 3) := by decide +kernel
theorem dX11_keep_45 : decode cX11_keep 45 = .ok (.aload_n 0, 1) := by decide +kernel
theorem dX11_keep_46 : decode cX11_keep 46 = .ok (.getfield 82, 3) := by decide +kernel
theorem dX11_keep_49 : decode cX11_keep 49 = .ok (.iload_n 1, 1) := by decide +kernel
theorem dX11_keep_50 : decode cX11_keep 50 = .ok (.aload_n 0, 1) := by decide +kernel
theorem dX11_keep_51 : decode cX11_keep 51 = .ok (.getfield 75, 3) := by decide +kernel
theorem dX11_keep_54 : decode cX11_keep 54 = .ok (.getfield 420, 3) := by decide +kernel
theorem dX11_keep_57 : decode cX11_keep 57 = .ok (.iload_n 2, 1) := by decide +kernel
theorem dX11_keep_58 : decode cX11_keep 58 = .ok (.iaload, 1) := by decide +kernel
theorem dX11_keep_59 : decode cX11_keep 59 = .ok (.invokevirtual 423, 3) := by decide +kernel
theorem dX11_keep_62 : decode cX11_keep 62 = .ok (.iconst 1, 1) := by decide +kernel
theorem dX11_keep_63 : decode cX11_keep 63 = .ok (.ireturn, 1) := by decide +kernel
set_option maxRecDepth 20000 in
theorem ggX11_row_X8_isShelf : GoodIn wsX11_row wsX8_isShelf := goodIn_r _ [6, 7, 8, 9, 10, 34, 35, 36, 37] (by decide +kernel) (by decide +kernel)
set_option maxRecDepth 20000 in
theorem gX11_row_X8_isShelf : GoodIn wsX11_row (wsV RX11 221 RX8 yX8_isShelf wsX8_isShelf) := goodIn_app (goodIn_of _ (by decide +kernel)) ggX11_row_X8_isShelf
set_option maxRecDepth 20000 in
theorem ggX11_row_X11_within : GoodIn wsX11_row wsX11_within := goodIn_r _ [10] (by decide +kernel) (by decide +kernel)
set_option maxRecDepth 20000 in
theorem gX11_row_X11_within : GoodIn wsX11_row (va_wsS RX11 113 yX11_within wsX11_within) := goodIn_app (goodIn_of _ (by decide +kernel)) ggX11_row_X11_within
set_option maxRecDepth 20000 in
theorem ggX11_row_X8_layRow : GoodIn wsX11_row wsX8_layRow := goodIn_r _ [15, 7, 16, 17, 18, 19, 20, 21, 34, 35, 36, 37] (by decide +kernel) (by decide +kernel)
set_option maxRecDepth 20000 in
theorem gX11_row_X8_layRow : GoodIn wsX11_row (wsV RX11 426 RX8 yX8_layRow wsX8_layRow) := goodIn_app (goodIn_of _ (by decide +kernel)) ggX11_row_X8_layRow
theorem dX11_row_0 : decode cX11_row 0 = .ok (.aload_n 0, 1) := by decide +kernel
theorem dX11_row_1 : decode cX11_row 1 = .ok (.getfield 82, 3) := by decide +kernel
theorem dX11_row_4 : decode cX11_row 4 = .ok (.iload_n 1, 1) := by decide +kernel
theorem dX11_row_5 : decode cX11_row 5 = .ok (.invokevirtual 221, 3) := by decide +kernel
theorem dX11_row_8 : decode cX11_row 8 = .ok (.ifCond .eq 18, 3) := by decide +kernel
theorem dX11_row_11 : decode cX11_row 11 = .ok (.iload_n 2, 1) := by decide +kernel
theorem dX11_row_12 : decode cX11_row 12 = .ok (.iconst 0, 1) := by decide +kernel
theorem dX11_row_13 : decode cX11_row 13 = .ok (.iconst 4, 1) := by decide +kernel
theorem dX11_row_14 : decode cX11_row 14 = .ok (.invokestatic 113, 3) := by decide +kernel
theorem dX11_row_17 : decode cX11_row 17 = .ok (.ifCond .eq 9, 3) := by decide +kernel
theorem dX11_row_20 : decode cX11_row 20 = .ok (.iload_n 3, 1) := by decide +kernel
theorem dX11_row_21 : decode cX11_row 21 = .ok (.bipush 60, 2) := by decide +kernel
theorem dX11_row_23 : decode cX11_row 23 = .ok (.if_icmp .le 5, 3) := by decide +kernel
theorem dX11_row_26 : decode cX11_row 26 = .ok (.iconst (-1), 1) := by decide +kernel
theorem dX11_row_27 : decode cX11_row 27 = .ok (.ireturn, 1) := by decide +kernel
theorem dX11_row_28 : decode cX11_row 28 = .ok (.iload_n 3, 1) := by decide +kernel
theorem dX11_row_29 : decode cX11_row 29 = .ok (.ifCond .ge 6, 3) := by decide +kernel
theorem dX11_row_32 : decode cX11_row 32 = .ok (.bipush (-14), 2) := by decide +kernel
theorem dX11_row_34 : decode cX11_row 34 = .ok (.ireturn, 1) := by decide +kernel
theorem dX11_row_35 : decode cX11_row 35 = .ok (.aload_n 0, 1) := by decide +kernel
theorem dX11_row_36 : decode cX11_row 36 = .ok (.getfield 82, 3) := by decide +kernel
theorem dX11_row_39 : decode cX11_row 39 = .ok (.iload_n 1, 1) := by decide +kernel
theorem dX11_row_40 : decode cX11_row 40 = .ok (.iload_n 2, 1) := by decide +kernel
theorem dX11_row_41 : decode cX11_row 41 = .ok (.iload_n 3, 1) := by decide +kernel
theorem dX11_row_42 : decode cX11_row 42 = .ok (.invokevirtual 426, 3) := by decide +kernel
theorem dX11_row_45 : decode cX11_row 45 = .ok (.iconst 1, 1) := by decide +kernel
theorem dX11_row_46 : decode cX11_row 46 = .ok (.ireturn, 1) := by decide +kernel
set_option maxRecDepth 20000 in
theorem ggX11_put_X8_refusal : GoodIn wsX11_put wsX8_refusal := goodIn_r _ [7, 8, 9, 10, 11, 12, 6, 13, 14, 15, 16, 17, 18, 19, 20, 37, 38, 39, 40] (by decide +kernel) (by decide +kernel)
set_option maxRecDepth 20000 in
theorem gX11_put_X8_refusal : GoodIn wsX11_put (wsV RX11 430 RX8 yX8_refusal wsX8_refusal) := goodIn_app (goodIn_of _ (by decide +kernel)) ggX11_put_X8_refusal
set_option maxRecDepth 20000 in
theorem ggX11_put_X8_lowBits : GoodIn wsX11_put wsX8_lowBits := goodIn_r _ [24, 8, 37, 38, 39, 40] (by decide +kernel) (by decide +kernel)
set_option maxRecDepth 20000 in
theorem gX11_put_X8_lowBits : GoodIn wsX11_put (wsV RX11 433 RX8 yX8_lowBits wsX8_lowBits) := goodIn_app (goodIn_of _ (by decide +kernel)) ggX11_put_X8_lowBits
theorem dX11_put_0 : decode cX11_put 0 = .ok (.aload_n 0, 1) := by decide +kernel
theorem dX11_put_1 : decode cX11_put 1 = .ok (.getfield 82, 3) := by decide +kernel
theorem dX11_put_4 : decode cX11_put 4 = .ok (.iload_n 1, 1) := by decide +kernel
theorem dX11_put_5 : decode cX11_put 5 = .ok (.iload_n 2, 1) := by decide +kernel
theorem dX11_put_6 : decode cX11_put 6 = .ok (.invokevirtual 430, 3) := by decide +kernel
theorem dX11_put_9 : decode cX11_put 9 = .ok (.istore 5, 2) := by decide +kernel
theorem dX11_put_11 : decode cX11_put 11 = .ok (.iload 5, 2) := by decide +kernel
theorem dX11_put_13 : decode cX11_put 13 = .ok (.ifCond .eq 6, 3) := by decide +kernel
theorem dX11_put_16 : decode cX11_put 16 = .ok (.iload 5, 2) := by decide +kernel
theorem dX11_put_18 : decode cX11_put 18 = .ok (.ireturn, 1) := by decide +kernel
theorem dX11_put_19 : decode cX11_put 19 = .ok (.aload_n 0, 1) := by decide +kernel
theorem dX11_put_20 : decode cX11_put 20 = .ok (.getfield 82, 3) := by decide +kernel
theorem dX11_put_23 : decode cX11_put 23 = .ok (.getfield 240, 3) := by decide +kernel
theorem dX11_put_26 : decode cX11_put 26 = .ok (.iload_n 1, 1) := by decide +kernel
theorem dX11_put_27 : decode cX11_put 27 = .ok (.aaload, 1) := by decide +kernel
theorem dX11_put_28 : decode cX11_put 28 = .ok (.iload_n 2, 1) := by decide +kernel
theorem dX11_put_29 : decode cX11_put 29 = .ok (.aload_n 0, 1) := by decide +kernel
theorem dX11_put_30 : decode cX11_put 30 = .ok (.getfield 82, 3) := by decide +kernel
theorem dX11_put_33 : decode cX11_put 33 = .ok (.iload_n 1, 1) := by decide +kernel
theorem dX11_put_34 : decode cX11_put 34 = .ok (.lload_n 3, 1) := by decide +kernel
theorem dX11_put_35 : decode cX11_put 35 = .ok (.invokevirtual 433, 3) := by decide +kernel
theorem dX11_put_38 : decode cX11_put 38 = .ok (.lastore, 1) := by decide +kernel
theorem dX11_put_39 : decode cX11_put 39 = .ok (.iconst 1, 1) := by decide +kernel
theorem dX11_put_40 : decode cX11_put 40 = .ok (.ireturn, 1) := by decide +kernel
set_option maxRecDepth 20000 in
theorem ggX11_element_X8_refusal : GoodIn wsX11_element wsX8_refusal := goodIn_r _ [8, 9, 10, 11, 12, 13, 7, 14, 15, 16, 17, 18, 19, 20, 21, 34, 35, 36, 37] (by decide +kernel) (by decide +kernel)
set_option maxRecDepth 20000 in
theorem gX11_element_X8_refusal : GoodIn wsX11_element (wsV RX11 430 RX8 yX8_refusal wsX8_refusal) := goodIn_app (goodIn_of _ (by decide +kernel)) ggX11_element_X8_refusal
theorem dX11_element_0 : decode cX11_element 0 = .ok (.aload_n 0, 1) := by decide +kernel
theorem dX11_element_1 : decode cX11_element 1 = .ok (.getfield 82, 3) := by decide +kernel
theorem dX11_element_4 : decode cX11_element 4 = .ok (.iload_n 1, 1) := by decide +kernel
theorem dX11_element_5 : decode cX11_element 5 = .ok (.iload_n 2, 1) := by decide +kernel
theorem dX11_element_6 : decode cX11_element 6 = .ok (.invokevirtual 430, 3) := by decide +kernel
theorem dX11_element_9 : decode cX11_element 9 = .ok (.ifCond .eq 9, 3) := by decide +kernel
theorem dX11_element_12 : decode cX11_element 12 = .ok (.ldc2_w 439, 3) := by decide +kernel
theorem dX11_element_15 : decode cX11_element 15 = .ok (.goto 14, 3) := by decide +kernel
theorem dX11_element_18 : decode cX11_element 18 = .ok (.aload_n 0, 1) := by decide +kernel
theorem dX11_element_19 : decode cX11_element 19 = .ok (.getfield 82, 3) := by decide +kernel
theorem dX11_element_22 : decode cX11_element 22 = .ok (.getfield 240, 3) := by decide +kernel
theorem dX11_element_25 : decode cX11_element 25 = .ok (.iload_n 1, 1) := by decide +kernel
theorem dX11_element_26 : decode cX11_element 26 = .ok (.aaload, 1) := by decide +kernel
theorem dX11_element_27 : decode cX11_element 27 = .ok (.iload_n 2, 1) := by decide +kernel
theorem dX11_element_28 : decode cX11_element 28 = .ok (.laload, 1) := by decide +kernel
theorem dX11_element_29 : decode cX11_element 29 = .ok (.lreturn, 1) := by decide +kernel
set_option maxRecDepth 20000 in
theorem ggX11_shift_X8_isShelf : GoodIn wsX11_shift wsX8_isShelf := goodIn_r _ [11, 12, 13, 14, 15, 41, 42, 43, 44] (by decide +kernel) (by decide +kernel)
set_option maxRecDepth 20000 in
theorem gX11_shift_X8_isShelf : GoodIn wsX11_shift (wsV RX11 221 RX8 yX8_isShelf wsX8_isShelf) := goodIn_app (goodIn_of _ (by decide +kernel)) ggX11_shift_X8_isShelf
set_option maxRecDepth 20000 in
theorem ggX11_shift_X8_isBare : GoodIn wsX11_shift wsX8_isBare := goodIn_r _ [19, 12, 41, 42, 43, 44] (by decide +kernel) (by decide +kernel)
set_option maxRecDepth 20000 in
theorem gX11_shift_X8_isBare : GoodIn wsX11_shift (wsV RX11 224 RX8 yX8_isBare wsX8_isBare) := goodIn_app (goodIn_of _ (by decide +kernel)) ggX11_shift_X8_isBare
set_option maxRecDepth 20000 in
theorem ggX11_shift_X8_areAlikeRows : GoodIn wsX11_shift wsX8_areAlikeRows := goodIn_r _ [23, 12, 41, 42, 43, 44] (by decide +kernel) (by decide +kernel)
set_option maxRecDepth 20000 in
theorem gX11_shift_X8_areAlikeRows : GoodIn wsX11_shift (wsV RX11 441 RX8 yX8_areAlikeRows wsX8_areAlikeRows) := goodIn_app (goodIn_of _ (by decide +kernel)) ggX11_shift_X8_areAlikeRows
set_option maxRecDepth 20000 in
theorem ggX11_shift_X8_hasPlaces : GoodIn wsX11_shift wsX8_hasPlaces := goodIn_r _ [27, 28, 41, 42, 43, 44] (by decide +kernel) (by decide +kernel)
set_option maxRecDepth 20000 in
theorem gX11_shift_X8_hasPlaces : GoodIn wsX11_shift (wsV RX11 237 RX8 yX8_hasPlaces wsX8_hasPlaces) := goodIn_app (goodIn_of _ (by decide +kernel)) ggX11_shift_X8_hasPlaces
theorem dX11_shift_0 : decode cX11_shift 0 = .ok (.aload_n 0, 1) := by decide +kernel
theorem dX11_shift_1 : decode cX11_shift 1 = .ok (.getfield 82, 3) := by decide +kernel
theorem dX11_shift_4 : decode cX11_shift 4 = .ok (.iload_n 1, 1) := by decide +kernel
theorem dX11_shift_5 : decode cX11_shift 5 = .ok (.invokevirtual 221, 3) := by decide +kernel
theorem dX11_shift_8 : decode cX11_shift 8 = .ok (.ifCond .eq 14, 3) := by decide +kernel
theorem dX11_shift_11 : decode cX11_shift 11 = .ok (.aload_n 0, 1) := by decide +kernel
theorem dX11_shift_12 : decode cX11_shift 12 = .ok (.getfield 82, 3) := by decide +kernel
theorem dX11_shift_15 : decode cX11_shift 15 = .ok (.iload_n 3, 1) := by decide +kernel
theorem dX11_shift_16 : decode cX11_shift 16 = .ok (.invokevirtual 221, 3) := by decide +kernel
theorem dX11_shift_19 : decode cX11_shift 19 = .ok (.ifCond .ne 5, 3) := by decide +kernel
theorem dX11_shift_22 : decode cX11_shift 22 = .ok (.iconst (-1), 1) := by decide +kernel
theorem dX11_shift_23 : decode cX11_shift 23 = .ok (.ireturn, 1) := by decide +kernel
theorem dX11_shift_24 : decode cX11_shift 24 = .ok (.aload_n 0, 1) := by decide +kernel
theorem dX11_shift_25 : decode cX11_shift 25 = .ok (.getfield 82, 3) := by decide +kernel
theorem dX11_shift_28 : decode cX11_shift 28 = .ok (.iload_n 1, 1) := by decide +kernel
theorem dX11_shift_29 : decode cX11_shift 29 = .ok (.invokevirtual 224, 3) := by decide +kernel
theorem dX11_shift_32 : decode cX11_shift 32 = .ok (.ifCond .ne 14, 3) := by decide +kernel
theorem dX11_shift_35 : decode cX11_shift 35 = .ok (.aload_n 0, 1) := by decide +kernel
theorem dX11_shift_36 : decode cX11_shift 36 = .ok (.getfield 82, 3) := by decide +kernel
theorem dX11_shift_39 : decode cX11_shift 39 = .ok (.iload_n 3, 1) := by decide +kernel
theorem dX11_shift_40 : decode cX11_shift 40 = .ok (.invokevirtual 224, 3) := by decide +kernel
theorem dX11_shift_43 : decode cX11_shift 43 = .ok (.ifCond .eq 6, 3) := by decide +kernel
theorem dX11_shift_46 : decode cX11_shift 46 = .ok (.bipush (-11), 2) := by decide +kernel
theorem dX11_shift_48 : decode cX11_shift 48 = .ok (.ireturn, 1) := by decide +kernel
theorem dX11_shift_49 : decode cX11_shift 49 = .ok (.aload_n 0, 1) := by decide +kernel
theorem dX11_shift_50 : decode cX11_shift 50 = .ok (.getfield 82, 3) := by decide +kernel
theorem dX11_shift_53 : decode cX11_shift 53 = .ok (.iload_n 1, 1) := by decide +kernel
theorem dX11_shift_54 : decode cX11_shift 54 = .ok (.iload_n 3, 1) := by decide +kernel
theorem dX11_shift_55 : decode cX11_shift 55 = .ok (.invokevirtual 441, 3) := by decide +kernel
theorem dX11_shift_58 : decode cX11_shift 58 = .ok (.ifCond .ne 6, 3) := by decide +kernel
theorem dX11_shift_61 : decode cX11_shift 61 = .ok (.bipush (-12), 2) := by decide +kernel
theorem dX11_shift_63 : decode cX11_shift 63 = .ok (.ireturn, 1) := by decide +kernel
theorem dX11_shift_64 : decode cX11_shift 64 = .ok (.aload_n 0, 1) := by decide +kernel
theorem dX11_shift_65 : decode cX11_shift 65 = .ok (.getfield 82, 3) := by decide +kernel
theorem dX11_shift_68 : decode cX11_shift 68 = .ok (.iload_n 1, 1) := by decide +kernel
theorem dX11_shift_69 : decode cX11_shift 69 = .ok (.iload_n 2, 1) := by decide +kernel
theorem dX11_shift_70 : decode cX11_shift 70 = .ok (.iload 5, 2) := by decide +kernel
theorem dX11_shift_72 : decode cX11_shift 72 = .ok (.invokevirtual 237, 3) := by decide +kernel
theorem dX11_shift_75 : decode cX11_shift 75 = .ok (.ifCond .eq 18, 3) := by decide +kernel
theorem dX11_shift_78 : decode cX11_shift 78 = .ok (.aload_n 0, 1) := by decide +kernel
theorem dX11_shift_79 : decode cX11_shift 79 = .ok (.getfield 82, 3) := by decide +kernel
theorem dX11_shift_82 : decode cX11_shift 82 = .ok (.iload_n 3, 1) := by decide +kernel
theorem dX11_shift_83 : decode cX11_shift 83 = .ok (.iload 4, 2) := by decide +kernel
theorem dX11_shift_85 : decode cX11_shift 85 = .ok (.iload 5, 2) := by decide +kernel
theorem dX11_shift_87 : decode cX11_shift 87 = .ok (.invokevirtual 237, 3) := by decide +kernel
theorem dX11_shift_90 : decode cX11_shift 90 = .ok (.ifCond .ne 6, 3) := by decide +kernel
theorem dX11_shift_93 : decode cX11_shift 93 = .ok (.bipush (-13), 2) := by decide +kernel
theorem dX11_shift_95 : decode cX11_shift 95 = .ok (.ireturn, 1) := by decide +kernel
theorem dX11_shift_96 : decode cX11_shift 96 = .ok (.aload_n 0, 1) := by decide +kernel
theorem dX11_shift_97 : decode cX11_shift 97 = .ok (.getfield 82, 3) := by decide +kernel
theorem dX11_shift_100 : decode cX11_shift 100 = .ok (.getfield 240, 3) := by decide +kernel
theorem dX11_shift_103 : decode cX11_shift 103 = .ok (.iload_n 1, 1) := by decide +kernel
theorem dX11_shift_104 : decode cX11_shift 104 = .ok (.aaload, 1) := by decide +kernel
theorem dX11_shift_105 : decode cX11_shift 105 = .ok (.iload_n 2, 1) := by decide +kernel
theorem dX11_shift_106 : decode cX11_shift 106 = .ok (.aload_n 0, 1) := by decide +kernel
theorem dX11_shift_107 : decode cX11_shift 107 = .ok (.getfield 82, 3) := by decide +kernel
theorem dX11_shift_110 : decode cX11_shift 110 = .ok (.getfield 240, 3) := by decide +kernel
theorem dX11_shift_113 : decode cX11_shift 113 = .ok (.iload_n 3, 1) := by decide +kernel
theorem dX11_shift_114 : decode cX11_shift 114 = .ok (.aaload, 1) := by decide +kernel
theorem dX11_shift_115 : decode cX11_shift 115 = .ok (.iload 4, 2) := by decide +kernel
theorem dX11_shift_117 : decode cX11_shift 117 = .ok (.iload 5, 2) := by decide +kernel
theorem dX11_shift_119 : decode cX11_shift 119 = .ok (.invokestatic 444, 3) := by decide +kernel
theorem dX11_shift_122 : decode cX11_shift 122 = .ok (.iload 5, 2) := by decide +kernel
theorem dX11_shift_124 : decode cX11_shift 124 = .ok (.ireturn, 1) := by decide +kernel
set_option maxRecDepth 20000 in
theorem ggX11_taken_X8_isShelf : GoodIn wsX11_taken wsX8_isShelf := goodIn_r _ [8, 9, 10, 11, 12, 40, 41, 42, 43] (by decide +kernel) (by decide +kernel)
set_option maxRecDepth 20000 in
theorem gX11_taken_X8_isShelf : GoodIn wsX11_taken (wsV RX11 221 RX8 yX8_isShelf wsX8_isShelf) := goodIn_app (goodIn_of _ (by decide +kernel)) ggX11_taken_X8_isShelf
set_option maxRecDepth 20000 in
theorem ggX11_taken_X11_within : GoodIn wsX11_taken wsX11_within := goodIn_r _ [12] (by decide +kernel) (by decide +kernel)
set_option maxRecDepth 20000 in
theorem gX11_taken_X11_within : GoodIn wsX11_taken (va_wsS RX11 113 yX11_within wsX11_within) := goodIn_app (goodIn_of _ (by decide +kernel)) ggX11_taken_X11_within
set_option maxRecDepth 20000 in
theorem ggX11_taken_X8_isBare : GoodIn wsX11_taken wsX8_isBare := goodIn_r _ [17, 9, 40, 41, 42, 43] (by decide +kernel) (by decide +kernel)
set_option maxRecDepth 20000 in
theorem gX11_taken_X8_isBare : GoodIn wsX11_taken (wsV RX11 224 RX8 yX8_isBare wsX8_isBare) := goodIn_app (goodIn_of _ (by decide +kernel)) ggX11_taken_X8_isBare
set_option maxRecDepth 20000 in
theorem ggX11_taken_X8_holdsSort : GoodIn wsX11_taken wsX8_holdsSort := goodIn_r _ [21, 9, 40, 41, 42, 43] (by decide +kernel) (by decide +kernel)
set_option maxRecDepth 20000 in
theorem gX11_taken_X8_holdsSort : GoodIn wsX11_taken (wsV RX11 227 RX8 yX8_holdsSort wsX8_holdsSort) := goodIn_app (goodIn_of _ (by decide +kernel)) ggX11_taken_X8_holdsSort
set_option maxRecDepth 20000 in
theorem ggX11_taken_X0_isUnder : GoodIn wsX11_taken wsX0_isUnder := goodIn_r _ [26, 27] (by decide +kernel) (by decide +kernel)
set_option maxRecDepth 20000 in
theorem gX11_taken_X0_isUnder : GoodIn wsX11_taken (wsV RX11 453 RX0 yX0_isUnder wsX0_isUnder) := goodIn_app (goodIn_of _ (by decide +kernel)) ggX11_taken_X0_isUnder
theorem dX11_taken_0 : decode cX11_taken 0 = .ok (.aload_n 0, 1) := by decide +kernel
theorem dX11_taken_1 : decode cX11_taken 1 = .ok (.getfield 82, 3) := by decide +kernel
theorem dX11_taken_4 : decode cX11_taken 4 = .ok (.iload_n 1, 1) := by decide +kernel
theorem dX11_taken_5 : decode cX11_taken 5 = .ok (.invokevirtual 221, 3) := by decide +kernel
theorem dX11_taken_8 : decode cX11_taken 8 = .ok (.ifCond .eq 13, 3) := by decide +kernel
theorem dX11_taken_11 : decode cX11_taken 11 = .ok (.iload_n 2, 1) := by decide +kernel
theorem dX11_taken_12 : decode cX11_taken 12 = .ok (.iconst 0, 1) := by decide +kernel
theorem dX11_taken_13 : decode cX11_taken 13 = .ok (.bipush 7, 2) := by decide +kernel
theorem dX11_taken_15 : decode cX11_taken 15 = .ok (.invokestatic 113, 3) := by decide +kernel
theorem dX11_taken_18 : decode cX11_taken 18 = .ok (.ifCond .ne 5, 3) := by decide +kernel
theorem dX11_taken_21 : decode cX11_taken 21 = .ok (.iconst (-1), 1) := by decide +kernel
theorem dX11_taken_22 : decode cX11_taken 22 = .ok (.ireturn, 1) := by decide +kernel
theorem dX11_taken_23 : decode cX11_taken 23 = .ok (.aload_n 0, 1) := by decide +kernel
theorem dX11_taken_24 : decode cX11_taken 24 = .ok (.getfield 82, 3) := by decide +kernel
theorem dX11_taken_27 : decode cX11_taken 27 = .ok (.iload_n 1, 1) := by decide +kernel
theorem dX11_taken_28 : decode cX11_taken 28 = .ok (.invokevirtual 224, 3) := by decide +kernel
theorem dX11_taken_31 : decode cX11_taken 31 = .ok (.ifCond .eq 6, 3) := by decide +kernel
theorem dX11_taken_34 : decode cX11_taken 34 = .ok (.bipush (-11), 2) := by decide +kernel
theorem dX11_taken_36 : decode cX11_taken 36 = .ok (.ireturn, 1) := by decide +kernel
theorem dX11_taken_37 : decode cX11_taken 37 = .ok (.aload_n 0, 1) := by decide +kernel
theorem dX11_taken_38 : decode cX11_taken 38 = .ok (.getfield 82, 3) := by decide +kernel
theorem dX11_taken_41 : decode cX11_taken 41 = .ok (.iload_n 1, 1) := by decide +kernel
theorem dX11_taken_42 : decode cX11_taken 42 = .ok (.iconst 5, 1) := by decide +kernel
theorem dX11_taken_43 : decode cX11_taken 43 = .ok (.invokevirtual 227, 3) := by decide +kernel
theorem dX11_taken_46 : decode cX11_taken 46 = .ok (.ifCond .eq 23, 3) := by decide +kernel
theorem dX11_taken_49 : decode cX11_taken 49 = .ok (.aload_n 0, 1) := by decide +kernel
theorem dX11_taken_50 : decode cX11_taken 50 = .ok (.getfield 75, 3) := by decide +kernel
theorem dX11_taken_53 : decode cX11_taken 53 = .ok (.aload_n 0, 1) := by decide +kernel
theorem dX11_taken_54 : decode cX11_taken 54 = .ok (.getfield 82, 3) := by decide +kernel
theorem dX11_taken_57 : decode cX11_taken 57 = .ok (.getfield 450, 3) := by decide +kernel
theorem dX11_taken_60 : decode cX11_taken 60 = .ok (.iload_n 1, 1) := by decide +kernel
theorem dX11_taken_61 : decode cX11_taken 61 = .ok (.iaload, 1) := by decide +kernel
theorem dX11_taken_62 : decode cX11_taken 62 = .ok (.iload_n 2, 1) := by decide +kernel
theorem dX11_taken_63 : decode cX11_taken 63 = .ok (.invokevirtual 453, 3) := by decide +kernel
theorem dX11_taken_66 : decode cX11_taken 66 = .ok (.ifCond .ne 6, 3) := by decide +kernel
theorem dX11_taken_69 : decode cX11_taken 69 = .ok (.bipush (-12), 2) := by decide +kernel
theorem dX11_taken_71 : decode cX11_taken 71 = .ok (.ireturn, 1) := by decide +kernel
theorem dX11_taken_72 : decode cX11_taken 72 = .ok (.aload_n 0, 1) := by decide +kernel
theorem dX11_taken_73 : decode cX11_taken 73 = .ok (.getfield 82, 3) := by decide +kernel
theorem dX11_taken_76 : decode cX11_taken 76 = .ok (.getfield 450, 3) := by decide +kernel
theorem dX11_taken_79 : decode cX11_taken 79 = .ok (.iload_n 1, 1) := by decide +kernel
theorem dX11_taken_80 : decode cX11_taken 80 = .ok (.iaload, 1) := by decide +kernel
theorem dX11_taken_81 : decode cX11_taken 81 = .ok (.ireturn, 1) := by decide +kernel
theorem dX11_count_0 : decode cX11_count 0 = .ok (.iload_n 1, 1) := by decide +kernel
theorem dX11_count_1 : decode cX11_count 1 = .ok (.tableswitch 159 0 11 #[63, 71, 79, 87, 95, 103, 111, 119, 127, 135, 143, 151], 63) := by decide +kernel
theorem dX11_count_64 : decode cX11_count 64 = .ok (.aload_n 0, 1) := by decide +kernel
theorem dX11_count_65 : decode cX11_count 65 = .ok (.getfield 10, 3) := by decide +kernel
theorem dX11_count_68 : decode cX11_count 68 = .ok (.getfield 147, 3) := by decide +kernel
theorem dX11_count_71 : decode cX11_count 71 = .ok (.ireturn, 1) := by decide +kernel
theorem dX11_count_72 : decode cX11_count 72 = .ok (.aload_n 0, 1) := by decide +kernel
theorem dX11_count_73 : decode cX11_count 73 = .ok (.getfield 10, 3) := by decide +kernel
theorem dX11_count_76 : decode cX11_count 76 = .ok (.getfield 456, 3) := by decide +kernel
theorem dX11_count_79 : decode cX11_count 79 = .ok (.ireturn, 1) := by decide +kernel
theorem dX11_count_80 : decode cX11_count 80 = .ok (.aload_n 0, 1) := by decide +kernel
theorem dX11_count_81 : decode cX11_count 81 = .ok (.getfield 26, 3) := by decide +kernel
theorem dX11_count_84 : decode cX11_count 84 = .ok (.getfield 459, 3) := by decide +kernel
theorem dX11_count_87 : decode cX11_count 87 = .ok (.ireturn, 1) := by decide +kernel
theorem dX11_count_88 : decode cX11_count 88 = .ok (.aload_n 0, 1) := by decide +kernel
theorem dX11_count_89 : decode cX11_count 89 = .ok (.getfield 26, 3) := by decide +kernel
theorem dX11_count_92 : decode cX11_count 92 = .ok (.getfield 460, 3) := by decide +kernel
theorem dX11_count_95 : decode cX11_count 95 = .ok (.ireturn, 1) := by decide +kernel
theorem dX11_count_96 : decode cX11_count 96 = .ok (.aload_n 0, 1) := by decide +kernel
theorem dX11_count_97 : decode cX11_count 97 = .ok (.getfield 33, 3) := by decide +kernel
theorem dX11_count_100 : decode cX11_count 100 = .ok (.getfield 463, 3) := by decide +kernel
theorem dX11_count_103 : decode cX11_count 103 = .ok (.ireturn, 1) := by decide +kernel
theorem dX11_count_104 : decode cX11_count 104 = .ok (.aload_n 0, 1) := by decide +kernel
theorem dX11_count_105 : decode cX11_count 105 = .ok (.getfield 40, 3) := by decide +kernel
theorem dX11_count_108 : decode cX11_count 108 = .ok (.getfield 464, 3) := by decide +kernel
theorem dX11_count_111 : decode cX11_count 111 = .ok (.ireturn, 1) := by decide +kernel
theorem dX11_count_112 : decode cX11_count 112 = .ok (.aload_n 0, 1) := by decide +kernel
theorem dX11_count_113 : decode cX11_count 113 = .ok (.getfield 47, 3) := by decide +kernel
theorem dX11_count_116 : decode cX11_count 116 = .ok (.getfield 465, 3) := by decide +kernel
theorem dX11_count_119 : decode cX11_count 119 = .ok (.ireturn, 1) := by decide +kernel
theorem dX11_count_120 : decode cX11_count 120 = .ok (.aload_n 0, 1) := by decide +kernel
theorem dX11_count_121 : decode cX11_count 121 = .ok (.getfield 54, 3) := by decide +kernel
theorem dX11_count_124 : decode cX11_count 124 = .ok (.getfield 305, 3) := by decide +kernel
theorem dX11_count_127 : decode cX11_count 127 = .ok (.ireturn, 1) := by decide +kernel
theorem dX11_count_128 : decode cX11_count 128 = .ok (.aload_n 0, 1) := by decide +kernel
theorem dX11_count_129 : decode cX11_count 129 = .ok (.getfield 61, 3) := by decide +kernel
theorem dX11_count_132 : decode cX11_count 132 = .ok (.getfield 330, 3) := by decide +kernel
theorem dX11_count_135 : decode cX11_count 135 = .ok (.ireturn, 1) := by decide +kernel
theorem dX11_count_136 : decode cX11_count 136 = .ok (.aload_n 0, 1) := by decide +kernel
theorem dX11_count_137 : decode cX11_count 137 = .ok (.getfield 68, 3) := by decide +kernel
theorem dX11_count_140 : decode cX11_count 140 = .ok (.getfield 365, 3) := by decide +kernel
theorem dX11_count_143 : decode cX11_count 143 = .ok (.ireturn, 1) := by decide +kernel
theorem dX11_count_144 : decode cX11_count 144 = .ok (.aload_n 0, 1) := by decide +kernel
theorem dX11_count_145 : decode cX11_count 145 = .ok (.getfield 75, 3) := by decide +kernel
theorem dX11_count_148 : decode cX11_count 148 = .ok (.getfield 466, 3) := by decide +kernel
theorem dX11_count_151 : decode cX11_count 151 = .ok (.ireturn, 1) := by decide +kernel
theorem dX11_count_152 : decode cX11_count 152 = .ok (.aload_n 0, 1) := by decide +kernel
theorem dX11_count_153 : decode cX11_count 153 = .ok (.getfield 75, 3) := by decide +kernel
theorem dX11_count_156 : decode cX11_count 156 = .ok (.getfield 467, 3) := by decide +kernel
theorem dX11_count_159 : decode cX11_count 159 = .ok (.ireturn, 1) := by decide +kernel
theorem dX11_count_160 : decode cX11_count 160 = .ok (.iconst (-1), 1) := by decide +kernel
theorem dX11_count_161 : decode cX11_count 161 = .ok (.ireturn, 1) := by decide +kernel
theorem dX11_within_0 : decode cX11_within 0 = .ok (.iload_n 1, 1) := by decide +kernel
theorem dX11_within_1 : decode cX11_within 1 = .ok (.iload_n 0, 1) := by decide +kernel
theorem dX11_within_2 : decode cX11_within 2 = .ok (.if_icmp .gt 12, 3) := by decide +kernel
theorem dX11_within_5 : decode cX11_within 5 = .ok (.iload_n 0, 1) := by decide +kernel
theorem dX11_within_6 : decode cX11_within 6 = .ok (.iload_n 2, 1) := by decide +kernel
theorem dX11_within_7 : decode cX11_within 7 = .ok (.if_icmp .gt 7, 3) := by decide +kernel
theorem dX11_within_10 : decode cX11_within 10 = .ok (.iconst 1, 1) := by decide +kernel
theorem dX11_within_11 : decode cX11_within 11 = .ok (.goto 4, 3) := by decide +kernel
theorem dX11_within_14 : decode cX11_within 14 = .ok (.iconst 0, 1) := by decide +kernel
theorem dX11_within_15 : decode cX11_within 15 = .ok (.ireturn, 1) := by decide +kernel
set_option maxRecDepth 20000 in
theorem ggX11_isYear_X11_within : GoodIn wsX11_isYear wsX11_within := goodIn_r _ [4] (by decide +kernel) (by decide +kernel)
set_option maxRecDepth 20000 in
theorem gX11_isYear_X11_within : GoodIn wsX11_isYear (va_wsS RX11 113 yX11_within wsX11_within) := goodIn_app (goodIn_of _ (by decide +kernel)) ggX11_isYear_X11_within
theorem dX11_isYear_0 : decode cX11_isYear 0 = .ok (.iload_n 0, 1) := by decide +kernel
theorem dX11_isYear_1 : decode cX11_isYear 1 = .ok (.iconst 0, 1) := by decide +kernel
theorem dX11_isYear_2 : decode cX11_isYear 2 = .ok (.sipush 2000, 3) := by decide +kernel
theorem dX11_isYear_5 : decode cX11_isYear 5 = .ok (.invokestatic 113, 3) := by decide +kernel
theorem dX11_isYear_8 : decode cX11_isYear 8 = .ok (.ireturn, 1) := by decide +kernel
set_option maxRecDepth 20000 in
theorem ggX11_isSlack_X11_within : GoodIn wsX11_isSlack wsX11_within := goodIn_r _ [4] (by decide +kernel) (by decide +kernel)
set_option maxRecDepth 20000 in
theorem gX11_isSlack_X11_within : GoodIn wsX11_isSlack (va_wsS RX11 113 yX11_within wsX11_within) := goodIn_app (goodIn_of _ (by decide +kernel)) ggX11_isSlack_X11_within
theorem dX11_isSlack_0 : decode cX11_isSlack 0 = .ok (.iload_n 0, 1) := by decide +kernel
theorem dX11_isSlack_1 : decode cX11_isSlack 1 = .ok (.iconst 0, 1) := by decide +kernel
theorem dX11_isSlack_2 : decode cX11_isSlack 2 = .ok (.bipush 99, 2) := by decide +kernel
theorem dX11_isSlack_4 : decode cX11_isSlack 4 = .ok (.invokestatic 113, 3) := by decide +kernel
theorem dX11_isSlack_7 : decode cX11_isSlack 7 = .ok (.ireturn, 1) := by decide +kernel
theorem dX11_isBit_0 : decode cX11_isBit 0 = .ok (.iload_n 0, 1) := by decide +kernel
theorem dX11_isBit_1 : decode cX11_isBit 1 = .ok (.ifCond .eq 8, 3) := by decide +kernel
theorem dX11_isBit_4 : decode cX11_isBit 4 = .ok (.iload_n 0, 1) := by decide +kernel
theorem dX11_isBit_5 : decode cX11_isBit 5 = .ok (.iconst 1, 1) := by decide +kernel
theorem dX11_isBit_6 : decode cX11_isBit 6 = .ok (.if_icmp .ne 7, 3) := by decide +kernel
theorem dX11_isBit_9 : decode cX11_isBit 9 = .ok (.iconst 1, 1) := by decide +kernel
theorem dX11_isBit_10 : decode cX11_isBit 10 = .ok (.goto 4, 3) := by decide +kernel
theorem dX11_isBit_13 : decode cX11_isBit 13 = .ok (.iconst 0, 1) := by decide +kernel
theorem dX11_isBit_14 : decode cX11_isBit 14 = .ok (.ireturn, 1) := by decide +kernel
theorem dX11_asBit_0 : decode cX11_asBit 0 = .ok (.iload_n 0, 1) := by decide +kernel
theorem dX11_asBit_1 : decode cX11_asBit 1 = .ok (.ifCond .eq 7, 3) := by decide +kernel
theorem dX11_asBit_4 : decode cX11_asBit 4 = .ok (.iconst 1, 1) := by decide +kernel
theorem dX11_asBit_5 : decode cX11_asBit 5 = .ok (.goto 4, 3) := by decide +kernel
theorem dX11_asBit_8 : decode cX11_asBit 8 = .ok (.iconst 0, 1) := by decide +kernel
theorem dX11_asBit_9 : decode cX11_asBit 9 = .ok (.ireturn, 1) := by decide +kernel
set_option maxRecDepth 20000 in
theorem ggX11_isInk_X11_within : GoodIn wsX11_isInk wsX11_within := goodIn_r _ [4] (by decide +kernel) (by decide +kernel)
set_option maxRecDepth 20000 in
theorem gX11_isInk_X11_within : GoodIn wsX11_isInk (va_wsS RX11 113 yX11_within wsX11_within) := goodIn_app (goodIn_of _ (by decide +kernel)) ggX11_isInk_X11_within
theorem dX11_isInk_0 : decode cX11_isInk 0 = .ok (.iload_n 0, 1) := by decide +kernel
theorem dX11_isInk_1 : decode cX11_isInk 1 = .ok (.iconst 0, 1) := by decide +kernel
theorem dX11_isInk_2 : decode cX11_isInk 2 = .ok (.iconst 5, 1) := by decide +kernel
theorem dX11_isInk_3 : decode cX11_isInk 3 = .ok (.invokestatic 113, 3) := by decide +kernel
theorem dX11_isInk_6 : decode cX11_isInk 6 = .ok (.ireturn, 1) := by decide +kernel
set_option maxRecDepth 20000 in
theorem ggX11_isStuff_X11_within : GoodIn wsX11_isStuff wsX11_within := goodIn_r _ [4] (by decide +kernel) (by decide +kernel)
set_option maxRecDepth 20000 in
theorem gX11_isStuff_X11_within : GoodIn wsX11_isStuff (va_wsS RX11 113 yX11_within wsX11_within) := goodIn_app (goodIn_of _ (by decide +kernel)) ggX11_isStuff_X11_within
theorem dX11_isStuff_0 : decode cX11_isStuff 0 = .ok (.iload_n 0, 1) := by decide +kernel
theorem dX11_isStuff_1 : decode cX11_isStuff 1 = .ok (.iconst 0, 1) := by decide +kernel
theorem dX11_isStuff_2 : decode cX11_isStuff 2 = .ok (.sipush 9999, 3) := by decide +kernel
theorem dX11_isStuff_5 : decode cX11_isStuff 5 = .ok (.invokestatic 113, 3) := by decide +kernel
theorem dX11_isStuff_8 : decode cX11_isStuff 8 = .ok (.ireturn, 1) := by decide +kernel
set_option maxRecDepth 20000 in
theorem ggX11_isPrior_X11_within : GoodIn wsX11_isPrior wsX11_within := goodIn_r _ [4] (by decide +kernel) (by decide +kernel)
set_option maxRecDepth 20000 in
theorem gX11_isPrior_X11_within : GoodIn wsX11_isPrior (va_wsS RX11 113 yX11_within wsX11_within) := goodIn_app (goodIn_of _ (by decide +kernel)) ggX11_isPrior_X11_within
theorem dX11_isPrior_0 : decode cX11_isPrior 0 = .ok (.iload_n 0, 1) := by decide +kernel
theorem dX11_isPrior_1 : decode cX11_isPrior 1 = .ok (.iconst 1, 1) := by decide +kernel
theorem dX11_isPrior_2 : decode cX11_isPrior 2 = .ok (.bipush 99, 2) := by decide +kernel
theorem dX11_isPrior_4 : decode cX11_isPrior 4 = .ok (.invokestatic 113, 3) := by decide +kernel
theorem dX11_isPrior_7 : decode cX11_isPrior 7 = .ok (.ireturn, 1) := by decide +kernel
set_option maxRecDepth 20000 in
theorem ggX11_isDot_X11_within : GoodIn wsX11_isDot wsX11_within := goodIn_r _ [4] (by decide +kernel) (by decide +kernel)
set_option maxRecDepth 20000 in
theorem gX11_isDot_X11_within : GoodIn wsX11_isDot (va_wsS RX11 113 yX11_within wsX11_within) := goodIn_app (goodIn_of _ (by decide +kernel)) ggX11_isDot_X11_within
set_option maxRecDepth 20000 in
theorem ggX11_isDot_X11_isStuff : GoodIn wsX11_isDot wsX11_isStuff := goodIn_r _ [7, 1, 2, 3, 4] (by decide +kernel) (by decide +kernel)
set_option maxRecDepth 20000 in
theorem gX11_isDot_X11_isStuff : GoodIn wsX11_isDot (va_wsS RX11 218 yX11_isStuff wsX11_isStuff) := goodIn_app (goodIn_of _ (by decide +kernel)) ggX11_isDot_X11_isStuff
theorem dX11_isDot_0 : decode cX11_isDot 0 = .ok (.iload_n 0, 1) := by decide +kernel
theorem dX11_isDot_1 : decode cX11_isDot 1 = .ok (.iconst 0, 1) := by decide +kernel
theorem dX11_isDot_2 : decode cX11_isDot 2 = .ok (.iconst 4, 1) := by decide +kernel
theorem dX11_isDot_3 : decode cX11_isDot 3 = .ok (.invokestatic 113, 3) := by decide +kernel
theorem dX11_isDot_6 : decode cX11_isDot 6 = .ok (.ifCond .eq 24, 3) := by decide +kernel
theorem dX11_isDot_9 : decode cX11_isDot 9 = .ok (.iload_n 1, 1) := by decide +kernel
theorem dX11_isDot_10 : decode cX11_isDot 10 = .ok (.iconst 0, 1) := by decide +kernel
theorem dX11_isDot_11 : decode cX11_isDot 11 = .ok (.bipush 7, 2) := by decide +kernel
theorem dX11_isDot_13 : decode cX11_isDot 13 = .ok (.invokestatic 113, 3) := by decide +kernel
theorem dX11_isDot_16 : decode cX11_isDot 16 = .ok (.ifCond .eq 14, 3) := by decide +kernel
theorem dX11_isDot_19 : decode cX11_isDot 19 = .ok (.iload_n 2, 1) := by decide +kernel
theorem dX11_isDot_20 : decode cX11_isDot 20 = .ok (.invokestatic 218, 3) := by decide +kernel
theorem dX11_isDot_23 : decode cX11_isDot 23 = .ok (.ifCond .eq 7, 3) := by decide +kernel
theorem dX11_isDot_26 : decode cX11_isDot 26 = .ok (.iconst 1, 1) := by decide +kernel
theorem dX11_isDot_27 : decode cX11_isDot 27 = .ok (.goto 4, 3) := by decide +kernel
theorem dX11_isDot_30 : decode cX11_isDot 30 = .ok (.iconst 0, 1) := by decide +kernel
theorem dX11_isDot_31 : decode cX11_isDot 31 = .ok (.ireturn, 1) := by decide +kernel
theorem dX11_hasBit_0 : decode cX11_hasBit 0 = .ok (.iload_n 0, 1) := by decide +kernel
theorem dX11_hasBit_1 : decode cX11_hasBit 1 = .ok (.iload_n 1, 1) := by decide +kernel
theorem dX11_hasBit_2 : decode cX11_hasBit 2 = .ok (.ishr, 1) := by decide +kernel
theorem dX11_hasBit_3 : decode cX11_hasBit 3 = .ok (.iconst 1, 1) := by decide +kernel
theorem dX11_hasBit_4 : decode cX11_hasBit 4 = .ok (.iand, 1) := by decide +kernel
theorem dX11_hasBit_5 : decode cX11_hasBit 5 = .ok (.ifCond .eq 7, 3) := by decide +kernel
theorem dX11_hasBit_8 : decode cX11_hasBit 8 = .ok (.iconst 1, 1) := by decide +kernel
theorem dX11_hasBit_9 : decode cX11_hasBit 9 = .ok (.goto 4, 3) := by decide +kernel
theorem dX11_hasBit_12 : decode cX11_hasBit 12 = .ok (.iconst 0, 1) := by decide +kernel
theorem dX11_hasBit_13 : decode cX11_hasBit 13 = .ok (.ireturn, 1) := by decide +kernel
theorem dX11_drawn_0 : decode cX11_drawn 0 = .ok (.iload_n 0, 1) := by decide +kernel
theorem dX11_drawn_1 : decode cX11_drawn 1 = .ok (.ldc_w 470, 3) := by decide +kernel
theorem dX11_drawn_4 : decode cX11_drawn 4 = .ok (.imul, 1) := by decide +kernel
theorem dX11_drawn_5 : decode cX11_drawn 5 = .ok (.sipush 12345, 3) := by decide +kernel
theorem dX11_drawn_8 : decode cX11_drawn 8 = .ok (.iadd, 1) := by decide +kernel
theorem dX11_drawn_9 : decode cX11_drawn 9 = .ok (.ireturn, 1) := by decide +kernel
theorem dX12_within_0 : decode cX12_within 0 = .ok (.lload_n 0, 1) := by decide +kernel
theorem dX12_within_1 : decode cX12_within 1 = .ok (.lload_n 2, 1) := by decide +kernel
theorem dX12_within_2 : decode cX12_within 2 = .ok (.lcmp, 1) := by decide +kernel
theorem dX12_within_3 : decode cX12_within 3 = .ok (.ifCond .lt 14, 3) := by decide +kernel
theorem dX12_within_6 : decode cX12_within 6 = .ok (.lload_n 0, 1) := by decide +kernel
theorem dX12_within_7 : decode cX12_within 7 = .ok (.lload 4, 2) := by decide +kernel
theorem dX12_within_9 : decode cX12_within 9 = .ok (.lcmp, 1) := by decide +kernel
theorem dX12_within_10 : decode cX12_within 10 = .ok (.ifCond .gt 7, 3) := by decide +kernel
theorem dX12_within_13 : decode cX12_within 13 = .ok (.iconst 1, 1) := by decide +kernel
theorem dX12_within_14 : decode cX12_within 14 = .ok (.goto 4, 3) := by decide +kernel
theorem dX12_within_17 : decode cX12_within 17 = .ok (.iconst 0, 1) := by decide +kernel
theorem dX12_within_18 : decode cX12_within 18 = .ok (.ireturn, 1) := by decide +kernel
theorem dX12_size_0 : decode cX12_size 0 = .ok (.iload_n 0, 1) := by decide +kernel
theorem dX12_size_1 : decode cX12_size 1 = .ok (.ifCond .ge 8, 3) := by decide +kernel
theorem dX12_size_4 : decode cX12_size 4 = .ok (.iload_n 0, 1) := by decide +kernel
theorem dX12_size_5 : decode cX12_size 5 = .ok (.ineg, 1) := by decide +kernel
theorem dX12_size_6 : decode cX12_size 6 = .ok (.goto 4, 3) := by decide +kernel
theorem dX12_size_9 : decode cX12_size 9 = .ok (.iload_n 0, 1) := by decide +kernel
theorem dX12_size_10 : decode cX12_size 10 = .ok (.ireturn, 1) := by decide +kernel
theorem dX12_bitsOf_0 : decode cX12_bitsOf 0 = .ok (.iconst 0, 1) := by decide +kernel
theorem dX12_bitsOf_1 : decode cX12_bitsOf 1 = .ok (.istore_n 1, 1) := by decide +kernel
theorem dX12_bitsOf_2 : decode cX12_bitsOf 2 = .ok (.iload_n 0, 1) := by decide +kernel
theorem dX12_bitsOf_3 : decode cX12_bitsOf 3 = .ok (.istore_n 2, 1) := by decide +kernel
theorem dX12_bitsOf_4 : decode cX12_bitsOf 4 = .ok (.iload_n 2, 1) := by decide +kernel
theorem dX12_bitsOf_5 : decode cX12_bitsOf 5 = .ok (.ifCond .eq 15, 3) := by decide +kernel
theorem dX12_bitsOf_8 : decode cX12_bitsOf 8 = .ok (.iinc 1 1, 3) := by decide +kernel
theorem dX12_bitsOf_11 : decode cX12_bitsOf 11 = .ok (.iload_n 2, 1) := by decide +kernel
theorem dX12_bitsOf_12 : decode cX12_bitsOf 12 = .ok (.iload_n 2, 1) := by decide +kernel
theorem dX12_bitsOf_13 : decode cX12_bitsOf 13 = .ok (.iconst 1, 1) := by decide +kernel
theorem dX12_bitsOf_14 : decode cX12_bitsOf 14 = .ok (.isub, 1) := by decide +kernel
theorem dX12_bitsOf_15 : decode cX12_bitsOf 15 = .ok (.iand, 1) := by decide +kernel
theorem dX12_bitsOf_16 : decode cX12_bitsOf 16 = .ok (.istore_n 2, 1) := by decide +kernel
theorem dX12_bitsOf_17 : decode cX12_bitsOf 17 = .ok (.goto (-13), 3) := by decide +kernel
theorem dX12_bitsOf_20 : decode cX12_bitsOf 20 = .ok (.iload_n 1, 1) := by decide +kernel
theorem dX12_bitsOf_21 : decode cX12_bitsOf 21 = .ok (.ireturn, 1) := by decide +kernel
theorem dX12_init_0 : decode cX12_init 0 = .ok (.aload_n 0, 1) := by decide +kernel
theorem dX12_init_1 : decode cX12_init 1 = .ok (.invokespecial 3, 3) := by decide +kernel
theorem dX12_init_4 : decode cX12_init 4 = .ok (.aload_n 0, 1) := by decide +kernel
theorem dX12_init_5 : decode cX12_init 5 = .ok (.bipush 55, 2) := by decide +kernel
theorem dX12_init_7 : decode cX12_init 7 = .ok (.newarray .int, 2) := by decide +kernel
theorem dX12_init_9 : decode cX12_init 9 = .ok (.putfield 9, 3) := by decide +kernel
theorem dX12_init_12 : decode cX12_init 12 = .ok (.aload_n 0, 1) := by decide +kernel
theorem dX12_init_13 : decode cX12_init 13 = .ok (.bipush 40, 2) := by decide +kernel
theorem dX12_init_15 : decode cX12_init 15 = .ok (.newarray .int, 2) := by decide +kernel
theorem dX12_init_17 : decode cX12_init 17 = .ok (.putfield 13, 3) := by decide +kernel
theorem dX12_init_20 : decode cX12_init 20 = .ok (.aload_n 0, 1) := by decide +kernel
theorem dX12_init_21 : decode cX12_init 21 = .ok (.bipush 40, 2) := by decide +kernel
theorem dX12_init_23 : decode cX12_init 23 = .ok (.newarray .int, 2) := by decide +kernel
theorem dX12_init_25 : decode cX12_init 25 = .ok (.putfield 16, 3) := by decide +kernel
theorem dX12_init_28 : decode cX12_init 28 = .ok (.aload_n 0, 1) := by decide +kernel
theorem dX12_init_29 : decode cX12_init 29 = .ok (.bipush 40, 2) := by decide +kernel
theorem dX12_init_31 : decode cX12_init 31 = .ok (.newarray .int, 2) := by decide +kernel
theorem dX12_init_33 : decode cX12_init 33 = .ok (.putfield 19, 3) := by decide +kernel
theorem dX12_init_36 : decode cX12_init 36 = .ok (.aload_n 0, 1) := by decide +kernel
theorem dX12_init_37 : decode cX12_init 37 = .ok (.bipush 40, 2) := by decide +kernel
theorem dX12_init_39 : decode cX12_init 39 = .ok (.newarray .int, 2) := by decide +kernel
theorem dX12_init_41 : decode cX12_init 41 = .ok (.putfield 22, 3) := by decide +kernel
theorem dX12_init_44 : decode cX12_init 44 = .ok (.aload_n 0, 1) := by decide +kernel
theorem dX12_init_45 : decode cX12_init 45 = .ok (.bipush 40, 2) := by decide +kernel
theorem dX12_init_47 : decode cX12_init 47 = .ok (.newarray .int, 2) := by decide +kernel
theorem dX12_init_49 : decode cX12_init 49 = .ok (.putfield 25, 3) := by decide +kernel
theorem dX12_init_52 : decode cX12_init 52 = .ok (.aload_n 0, 1) := by decide +kernel
theorem dX12_init_53 : decode cX12_init 53 = .ok (.bipush 40, 2) := by decide +kernel
theorem dX12_init_55 : decode cX12_init 55 = .ok (.newarray .int, 2) := by decide +kernel
theorem dX12_init_57 : decode cX12_init 57 = .ok (.putfield 28, 3) := by decide +kernel
theorem dX12_init_60 : decode cX12_init 60 = .ok (.aload_n 0, 1) := by decide +kernel
theorem dX12_init_61 : decode cX12_init 61 = .ok (.bipush 40, 2) := by decide +kernel
theorem dX12_init_63 : decode cX12_init 63 = .ok (.newarray .int, 2) := by decide +kernel
theorem dX12_init_65 : decode cX12_init 65 = .ok (.putfield 31, 3) := by decide +kernel
theorem dX12_init_68 : decode cX12_init 68 = .ok (.aload_n 0, 1) := by decide +kernel
theorem dX12_init_69 : decode cX12_init 69 = .ok (.bipush 40, 2) := by decide +kernel
theorem dX12_init_71 : decode cX12_init 71 = .ok (.newarray .int, 2) := by decide +kernel
theorem dX12_init_73 : decode cX12_init 73 = .ok (.putfield 34, 3) := by decide +kernel
theorem dX12_init_76 : decode cX12_init 76 = .ok (.aload_n 0, 1) := by decide +kernel
theorem dX12_init_77 : decode cX12_init 77 = .ok (.bipush 8, 2) := by decide +kernel
theorem dX12_init_79 : decode cX12_init 79 = .ok (.newarray .int, 2) := by decide +kernel
theorem dX12_init_81 : decode cX12_init 81 = .ok (.putfield 37, 3) := by decide +kernel
theorem dX12_init_84 : decode cX12_init 84 = .ok (.aload_n 0, 1) := by decide +kernel
theorem dX12_init_85 : decode cX12_init 85 = .ok (.bipush 64, 2) := by decide +kernel
theorem dX12_init_87 : decode cX12_init 87 = .ok (.newarray .int, 2) := by decide +kernel
theorem dX12_init_89 : decode cX12_init 89 = .ok (.putfield 40, 3) := by decide +kernel
theorem dX12_init_92 : decode cX12_init 92 = .ok (.aload_n 0, 1) := by decide +kernel
theorem dX12_init_93 : decode cX12_init 93 = .ok (.bipush 20, 2) := by decide +kernel
theorem dX12_init_95 : decode cX12_init 95 = .ok (.newarray .int, 2) := by decide +kernel
theorem dX12_init_97 : decode cX12_init 97 = .ok (.putfield 43, 3) := by decide +kernel
theorem dX12_init_100 : decode cX12_init 100 = .ok (.aload_n 0, 1) := by decide +kernel
theorem dX12_init_101 : decode cX12_init 101 = .ok (.bipush 20, 2) := by decide +kernel
theorem dX12_init_103 : decode cX12_init 103 = .ok (.newarray .int, 2) := by decide +kernel
theorem dX12_init_105 : decode cX12_init 105 = .ok (.putfield 46, 3) := by decide +kernel
theorem dX12_init_108 : decode cX12_init 108 = .ok (.aload_n 0, 1) := by decide +kernel
theorem dX12_init_109 : decode cX12_init 109 = .ok (.bipush 60, 2) := by decide +kernel
theorem dX12_init_111 : decode cX12_init 111 = .ok (.newarray .int, 2) := by decide +kernel
theorem dX12_init_113 : decode cX12_init 113 = .ok (.putfield 49, 3) := by decide +kernel
theorem dX12_init_116 : decode cX12_init 116 = .ok (.aload_n 0, 1) := by decide +kernel
theorem dX12_init_117 : decode cX12_init 117 = .ok (.bipush 60, 2) := by decide +kernel
theorem dX12_init_119 : decode cX12_init 119 = .ok (.newarray .int, 2) := by decide +kernel
theorem dX12_init_121 : decode cX12_init 121 = .ok (.putfield 52, 3) := by decide +kernel
theorem dX12_init_124 : decode cX12_init 124 = .ok (.aload_n 0, 1) := by decide +kernel
theorem dX12_init_125 : decode cX12_init 125 = .ok (.bipush 60, 2) := by decide +kernel
theorem dX12_init_127 : decode cX12_init 127 = .ok (.newarray .boolean, 2) := by decide +kernel
theorem dX12_init_129 : decode cX12_init 129 = .ok (.putfield 55, 3) := by decide +kernel
theorem dX12_init_132 : decode cX12_init 132 = .ok (.aload_n 0, 1) := by decide +kernel
theorem dX12_init_133 : decode cX12_init 133 = .ok (.bipush 41, 2) := by decide +kernel
theorem dX12_init_135 : decode cX12_init 135 = .ok (.newarray .int, 2) := by decide +kernel
theorem dX12_init_137 : decode cX12_init 137 = .ok (.putfield 59, 3) := by decide +kernel
theorem dX12_init_140 : decode cX12_init 140 = .ok (.aload_n 0, 1) := by decide +kernel
theorem dX12_init_141 : decode cX12_init 141 = .ok (.bipush 41, 2) := by decide +kernel
theorem dX12_init_143 : decode cX12_init 143 = .ok (.newarray .int, 2) := by decide +kernel
theorem dX12_init_145 : decode cX12_init 145 = .ok (.putfield 62, 3) := by decide +kernel
theorem dX12_init_148 : decode cX12_init 148 = .ok (.aload_n 0, 1) := by decide +kernel
theorem dX12_init_149 : decode cX12_init 149 = .ok (.bipush 40, 2) := by decide +kernel
theorem dX12_init_151 : decode cX12_init 151 = .ok (.newarray .int, 2) := by decide +kernel
theorem dX12_init_153 : decode cX12_init 153 = .ok (.putfield 65, 3) := by decide +kernel
theorem dX12_init_156 : decode cX12_init 156 = .ok (.aload_n 0, 1) := by decide +kernel
theorem dX12_init_157 : decode cX12_init 157 = .ok (.bipush 40, 2) := by decide +kernel
theorem dX12_init_159 : decode cX12_init 159 = .ok (.newarray .boolean, 2) := by decide +kernel
theorem dX12_init_161 : decode cX12_init 161 = .ok (.putfield 68, 3) := by decide +kernel
theorem dX12_init_164 : decode cX12_init 164 = .ok (.aload_n 0, 1) := by decide +kernel
theorem dX12_init_165 : decode cX12_init 165 = .ok (.bipush 20, 2) := by decide +kernel
theorem dX12_init_167 : decode cX12_init 167 = .ok (.newarray .int, 2) := by decide +kernel
theorem dX12_init_169 : decode cX12_init 169 = .ok (.putfield 71, 3) := by decide +kernel
theorem dX12_init_172 : decode cX12_init 172 = .ok (.aload_n 0, 1) := by decide +kernel
theorem dX12_init_173 : decode cX12_init 173 = .ok (.bipush 20, 2) := by decide +kernel
theorem dX12_init_175 : decode cX12_init 175 = .ok (.newarray .int, 2) := by decide +kernel
theorem dX12_init_177 : decode cX12_init 177 = .ok (.putfield 74, 3) := by decide +kernel
theorem dX12_init_180 : decode cX12_init 180 = .ok (.aload_n 0, 1) := by decide +kernel
theorem dX12_init_181 : decode cX12_init 181 = .ok (.bipush 20, 2) := by decide +kernel
theorem dX12_init_183 : decode cX12_init 183 = .ok (.newarray .int, 2) := by decide +kernel
theorem dX12_init_185 : decode cX12_init 185 = .ok (.putfield 77, 3) := by decide +kernel
theorem dX12_init_188 : decode cX12_init 188 = .ok (.aload_n 0, 1) := by decide +kernel
theorem dX12_init_189 : decode cX12_init 189 = .ok (.bipush 8, 2) := by decide +kernel
theorem dX12_init_191 : decode cX12_init 191 = .ok (.newarray .int, 2) := by decide +kernel
theorem dX12_init_193 : decode cX12_init 193 = .ok (.putfield 80, 3) := by decide +kernel
theorem dX12_init_196 : decode cX12_init 196 = .ok (.aload_n 0, 1) := by decide +kernel
theorem dX12_init_197 : decode cX12_init 197 = .ok (.bipush 8, 2) := by decide +kernel
theorem dX12_init_199 : decode cX12_init 199 = .ok (.newarray .int, 2) := by decide +kernel
theorem dX12_init_201 : decode cX12_init 201 = .ok (.putfield 83, 3) := by decide +kernel
theorem dX12_init_204 : decode cX12_init 204 = .ok (.aload_n 0, 1) := by decide +kernel
theorem dX12_init_205 : decode cX12_init 205 = .ok (.bipush 120, 2) := by decide +kernel
theorem dX12_init_207 : decode cX12_init 207 = .ok (.newarray .int, 2) := by decide +kernel
theorem dX12_init_209 : decode cX12_init 209 = .ok (.putfield 86, 3) := by decide +kernel
theorem dX12_init_212 : decode cX12_init 212 = .ok (.aload_n 0, 1) := by decide +kernel
theorem dX12_init_213 : decode cX12_init 213 = .ok (.bipush 6, 2) := by decide +kernel
theorem dX12_init_215 : decode cX12_init 215 = .ok (.newarray .int, 2) := by decide +kernel
theorem dX12_init_217 : decode cX12_init 217 = .ok (.putfield 89, 3) := by decide +kernel
theorem dX12_init_220 : decode cX12_init 220 = .ok (.aload_n 0, 1) := by decide +kernel
theorem dX12_init_221 : decode cX12_init 221 = .ok (.sipush 720, 3) := by decide +kernel
theorem dX12_init_224 : decode cX12_init 224 = .ok (.newarray .int, 2) := by decide +kernel
theorem dX12_init_226 : decode cX12_init 226 = .ok (.putfield 92, 3) := by decide +kernel
theorem dX12_init_229 : decode cX12_init 229 = .ok (.aload_n 0, 1) := by decide +kernel
theorem dX12_init_230 : decode cX12_init 230 = .ok (.bipush 6, 2) := by decide +kernel
theorem dX12_init_232 : decode cX12_init 232 = .ok (.newarray .int, 2) := by decide +kernel
theorem dX12_init_234 : decode cX12_init 234 = .ok (.putfield 95, 3) := by decide +kernel
theorem dX12_init_237 : decode cX12_init 237 = .ok (.aload_n 0, 1) := by decide +kernel
theorem dX12_init_238 : decode cX12_init 238 = .ok (.bipush 8, 2) := by decide +kernel
theorem dX12_init_240 : decode cX12_init 240 = .ok (.newarray .int, 2) := by decide +kernel
theorem dX12_init_242 : decode cX12_init 242 = .ok (.putfield 98, 3) := by decide +kernel
theorem dX12_init_245 : decode cX12_init 245 = .ok (.aload_n 0, 1) := by decide +kernel
theorem dX12_init_246 : decode cX12_init 246 = .ok (.bipush 50, 2) := by decide +kernel
theorem dX12_init_248 : decode cX12_init 248 = .ok (.newarray .int, 2) := by decide +kernel
theorem dX12_init_250 : decode cX12_init 250 = .ok (.putfield 101, 3) := by decide +kernel
theorem dX12_init_253 : decode cX12_init 253 = .ok (.aload_n 0, 1) := by decide +kernel
theorem dX12_init_254 : decode cX12_init 254 = .ok (.bipush 24, 2) := by decide +kernel
theorem dX12_init_256 : decode cX12_init 256 = .ok (.newarray .int, 2) := by decide +kernel
theorem dX12_init_258 : decode cX12_init 258 = .ok (.putfield 104, 3) := by decide +kernel
theorem dX12_init_261 : decode cX12_init 261 = .ok (.aload_n 0, 1) := by decide +kernel
theorem dX12_init_262 : decode cX12_init 262 = .ok (.bipush 6, 2) := by decide +kernel
theorem dX12_init_264 : decode cX12_init 264 = .ok (.newarray .int, 2) := by decide +kernel
theorem dX12_init_266 : decode cX12_init 266 = .ok (.putfield 107, 3) := by decide +kernel
theorem dX12_init_269 : decode cX12_init 269 = .ok (.aload_n 0, 1) := by decide +kernel
theorem dX12_init_270 : decode cX12_init 270 = .ok (.bipush 6, 2) := by decide +kernel
theorem dX12_init_272 : decode cX12_init 272 = .ok (.newarray .int, 2) := by decide +kernel
theorem dX12_init_274 : decode cX12_init 274 = .ok (.putfield 110, 3) := by decide +kernel
theorem dX12_init_277 : decode cX12_init 277 = .ok (.aload_n 0, 1) := by decide +kernel
theorem dX12_init_278 : decode cX12_init 278 = .ok (.sipush 360, 3) := by decide +kernel
theorem dX12_init_281 : decode cX12_init 281 = .ok (.newarray .long, 2) := by decide +kernel
theorem dX12_init_283 : decode cX12_init 283 = .ok (.putfield 113, 3) := by decide +kernel
theorem dX12_init_286 : decode cX12_init 286 = .ok (.aload_n 0, 1) := by decide +kernel
theorem dX12_init_287 : decode cX12_init 287 = .ok (.bipush 60, 2) := by decide +kernel
theorem dX12_init_289 : decode cX12_init 289 = .ok (.newarray .long, 2) := by decide +kernel
theorem dX12_init_291 : decode cX12_init 291 = .ok (.putfield 117, 3) := by decide +kernel
theorem dX12_init_294 : decode cX12_init 294 = .ok (.iconst 0, 1) := by decide +kernel
theorem dX12_init_295 : decode cX12_init 295 = .ok (.istore_n 1, 1) := by decide +kernel
theorem dX12_init_296 : decode cX12_init 296 = .ok (.iload_n 1, 1) := by decide +kernel
theorem dX12_init_297 : decode cX12_init 297 = .ok (.bipush 6, 2) := by decide +kernel
theorem dX12_init_299 : decode cX12_init 299 = .ok (.if_icmp .ge 16, 3) := by decide +kernel
theorem dX12_init_302 : decode cX12_init 302 = .ok (.aload_n 0, 1) := by decide +kernel
theorem dX12_init_303 : decode cX12_init 303 = .ok (.getfield 107, 3) := by decide +kernel
theorem dX12_init_306 : decode cX12_init 306 = .ok (.iload_n 1, 1) := by decide +kernel
theorem dX12_init_307 : decode cX12_init 307 = .ok (.iconst (-1), 1) := by decide +kernel
theorem dX12_init_308 : decode cX12_init 308 = .ok (.iastore, 1) := by decide +kernel
theorem dX12_init_309 : decode cX12_init 309 = .ok (.iinc 1 1, 3) := by decide +kernel
theorem dX12_init_312 : decode cX12_init 312 = .ok (.goto (-16), 3) := by decide +kernel
theorem dX12_init_315 : decode cX12_init 315 = .ok (.aload_n 0, 1) := by decide +kernel
theorem dX12_init_316 : decode cX12_init 316 = .ok (.sipush 2001, 3) := by decide +kernel
theorem dX12_init_319 : decode cX12_init 319 = .ok (.putfield 120, 3) := by decide +kernel
theorem dX12_init_322 : decode cX12_init 322 = .ok (.aload_n 0, 1) := by decide +kernel
theorem dX12_init_323 : decode cX12_init 323 = .ok (.sipush 9999, 3) := by decide +kernel
theorem dX12_init_326 : decode cX12_init 326 = .ok (.putfield 124, 3) := by decide +kernel
theorem dX12_init_329 : decode cX12_init 329 = .ok (.return_, 1) := by decide +kernel
theorem dX12_becomes_0 : decode cX12_becomes 0 = .ok (.aload_n 0, 1) := by decide +kernel
theorem dX12_becomes_1 : decode cX12_becomes 1 = .ok (.getfield 9, 3) := by decide +kernel
theorem dX12_becomes_4 : decode cX12_becomes 4 = .ok (.iload_n 1, 1) := by decide +kernel
theorem dX12_becomes_5 : decode cX12_becomes 5 = .ok (.iaload, 1) := by decide +kernel
theorem dX12_becomes_6 : decode cX12_becomes 6 = .ok (.istore_n 3, 1) := by decide +kernel
theorem dX12_becomes_7 : decode cX12_becomes 7 = .ok (.iload_n 3, 1) := by decide +kernel
theorem dX12_becomes_8 : decode cX12_becomes 8 = .ok (.iload_n 2, 1) := by decide +kernel
theorem dX12_becomes_9 : decode cX12_becomes 9 = .ok (.if_icmp .ne 5, 3) := by decide +kernel
theorem dX12_becomes_12 : decode cX12_becomes 12 = .ok (.iload_n 3, 1) := by decide +kernel
theorem dX12_becomes_13 : decode cX12_becomes 13 = .ok (.ireturn, 1) := by decide +kernel
theorem dX12_becomes_14 : decode cX12_becomes 14 = .ok (.aload_n 0, 1) := by decide +kernel
theorem dX12_becomes_15 : decode cX12_becomes 15 = .ok (.getfield 127, 3) := by decide +kernel
theorem dX12_becomes_18 : decode cX12_becomes 18 = .ok (.bipush 40, 2) := by decide +kernel
theorem dX12_becomes_20 : decode cX12_becomes 20 = .ok (.if_icmp .ne 77, 3) := by decide +kernel
theorem dX12_becomes_23 : decode cX12_becomes 23 = .ok (.iconst 1, 1) := by decide +kernel
theorem dX12_becomes_24 : decode cX12_becomes 24 = .ok (.istore 4, 2) := by decide +kernel
theorem dX12_becomes_26 : decode cX12_becomes 26 = .ok (.iload 4, 2) := by decide +kernel
theorem dX12_becomes_28 : decode cX12_becomes 28 = .ok (.bipush 40, 2) := by decide +kernel
theorem dX12_becomes_30 : decode cX12_becomes 30 = .ok (.if_icmp .ge 57, 3) := by decide +kernel
theorem dX12_becomes_33 : decode cX12_becomes 33 = .ok (.aload_n 0, 1) := by decide +kernel
theorem dX12_becomes_34 : decode cX12_becomes 34 = .ok (.getfield 13, 3) := by decide +kernel
theorem dX12_becomes_37 : decode cX12_becomes 37 = .ok (.iload 4, 2) := by decide +kernel
theorem dX12_becomes_39 : decode cX12_becomes 39 = .ok (.iconst 1, 1) := by decide +kernel
theorem dX12_becomes_40 : decode cX12_becomes 40 = .ok (.isub, 1) := by decide +kernel
theorem dX12_becomes_41 : decode cX12_becomes 41 = .ok (.aload_n 0, 1) := by decide +kernel
theorem dX12_becomes_42 : decode cX12_becomes 42 = .ok (.getfield 13, 3) := by decide +kernel
theorem dX12_becomes_45 : decode cX12_becomes 45 = .ok (.iload 4, 2) := by decide +kernel
theorem dX12_becomes_47 : decode cX12_becomes 47 = .ok (.iaload, 1) := by decide +kernel
theorem dX12_becomes_48 : decode cX12_becomes 48 = .ok (.iastore, 1) := by decide +kernel
theorem dX12_becomes_49 : decode cX12_becomes 49 = .ok (.aload_n 0, 1) := by decide +kernel
theorem dX12_becomes_50 : decode cX12_becomes 50 = .ok (.getfield 16, 3) := by decide +kernel
theorem dX12_becomes_53 : decode cX12_becomes 53 = .ok (.iload 4, 2) := by decide +kernel
theorem dX12_becomes_55 : decode cX12_becomes 55 = .ok (.iconst 1, 1) := by decide +kernel
theorem dX12_becomes_56 : decode cX12_becomes 56 = .ok (.isub, 1) := by decide +kernel
theorem dX12_becomes_57 : decode cX12_becomes 57 = .ok (.aload_n 0, 1) := by decide +kernel
theorem dX12_becomes_58 : decode cX12_becomes 58 = .ok (.getfield 16, 3) := by decide +kernel
theorem dX12_becomes_61 : decode cX12_becomes 61 = .ok (.iload 4, 2) := by decide +kernel
theorem dX12_becomes_63 : decode cX12_becomes 63 = .ok (.iaload, 1) := by decide +kernel
theorem dX12_becomes_64 : decode cX12_becomes 64 = .ok (.iastore, 1) := by decide +kernel
theorem dX12_becomes_65 : decode cX12_becomes 65 = .ok (.aload_n 0, 1) := by decide +kernel
theorem dX12_becomes_66 : decode cX12_becomes 66 = .ok (.getfield 19, 3) := by decide +kernel
theorem dX12_becomes_69 : decode cX12_becomes 69 = .ok (.iload 4, 2) := by decide +kernel
theorem dX12_becomes_71 : decode cX12_becomes 71 = .ok (.iconst 1, 1) := by decide +kernel
theorem dX12_becomes_72 : decode cX12_becomes 72 = .ok (.isub, 1) := by decide +kernel
theorem dX12_becomes_73 : decode cX12_becomes 73 = .ok (.aload_n 0, 1) := by decide +kernel
theorem dX12_becomes_74 : decode cX12_becomes 74 = .ok (.getfield 19, 3) := by decide +kernel
theorem dX12_becomes_77 : decode cX12_becomes 77 = .ok (.iload 4, 2) := by decide +kernel
theorem dX12_becomes_79 : decode cX12_becomes 79 = .ok (.iaload, 1) := by decide +kernel
theorem dX12_becomes_80 : decode cX12_becomes 80 = .ok (.iastore, 1) := by decide +kernel
theorem dX12_becomes_81 : decode cX12_becomes 81 = .ok (.iinc 4 1, 3) := by decide +kernel
theorem dX12_becomes_84 : decode cX12_becomes 84 = .ok (.goto (-58), 3) := by decide +kernel
theorem dX12_becomes_87 : decode cX12_becomes 87 = .ok (.aload_n 0, 1) := by decide +kernel
theorem dX12_becomes_88 : decode cX12_becomes 88 = .ok (.dup, 1) := by decide +kernel
theorem dX12_becomes_89 : decode cX12_becomes 89 = .ok (.getfield 127, 3) := by decide +kernel
theorem dX12_becomes_92 : decode cX12_becomes 92 = .ok (.iconst 1, 1) := by decide +kernel
theorem dX12_becomes_93 : decode cX12_becomes 93 = .ok (.isub, 1) := by decide +kernel
theorem dX12_becomes_94 : decode cX12_becomes 94 = .ok (.putfield 127, 3) := by decide +kernel
theorem dX12_becomes_97 : decode cX12_becomes 97 = .ok (.aload_n 0, 1) := by decide +kernel
theorem dX12_becomes_98 : decode cX12_becomes 98 = .ok (.getfield 13, 3) := by decide +kernel
theorem dX12_becomes_101 : decode cX12_becomes 101 = .ok (.aload_n 0, 1) := by decide +kernel
theorem dX12_becomes_102 : decode cX12_becomes 102 = .ok (.getfield 127, 3) := by decide +kernel
theorem dX12_becomes_105 : decode cX12_becomes 105 = .ok (.iload_n 1, 1) := by decide +kernel
theorem dX12_becomes_106 : decode cX12_becomes 106 = .ok (.iastore, 1) := by decide +kernel
theorem dX12_becomes_107 : decode cX12_becomes 107 = .ok (.aload_n 0, 1) := by decide +kernel
theorem dX12_becomes_108 : decode cX12_becomes 108 = .ok (.getfield 16, 3) := by decide +kernel
theorem dX12_becomes_111 : decode cX12_becomes 111 = .ok (.aload_n 0, 1) := by decide +kernel
theorem dX12_becomes_112 : decode cX12_becomes 112 = .ok (.getfield 127, 3) := by decide +kernel
theorem dX12_becomes_115 : decode cX12_becomes 115 = .ok (.iload_n 3, 1) := by decide +kernel
theorem dX12_becomes_116 : decode cX12_becomes 116 = .ok (.iastore, 1) := by decide +kernel
theorem dX12_becomes_117 : decode cX12_becomes 117 = .ok (.aload_n 0, 1) := by decide +kernel
theorem dX12_becomes_118 : decode cX12_becomes 118 = .ok (.getfield 19, 3) := by decide +kernel
theorem dX12_becomes_121 : decode cX12_becomes 121 = .ok (.aload_n 0, 1) := by decide +kernel
theorem dX12_becomes_122 : decode cX12_becomes 122 = .ok (.getfield 127, 3) := by decide +kernel
theorem dX12_becomes_125 : decode cX12_becomes 125 = .ok (.iload_n 2, 1) := by decide +kernel
theorem dX12_becomes_126 : decode cX12_becomes 126 = .ok (.iastore, 1) := by decide +kernel
theorem dX12_becomes_127 : decode cX12_becomes 127 = .ok (.aload_n 0, 1) := by decide +kernel
theorem dX12_becomes_128 : decode cX12_becomes 128 = .ok (.dup, 1) := by decide +kernel
theorem dX12_becomes_129 : decode cX12_becomes 129 = .ok (.getfield 127, 3) := by decide +kernel
theorem dX12_becomes_132 : decode cX12_becomes 132 = .ok (.iconst 1, 1) := by decide +kernel
theorem dX12_becomes_133 : decode cX12_becomes 133 = .ok (.iadd, 1) := by decide +kernel
theorem dX12_becomes_134 : decode cX12_becomes 134 = .ok (.putfield 127, 3) := by decide +kernel
theorem dX12_becomes_137 : decode cX12_becomes 137 = .ok (.aload_n 0, 1) := by decide +kernel
theorem dX12_becomes_138 : decode cX12_becomes 138 = .ok (.aload_n 0, 1) := by decide +kernel
theorem dX12_becomes_139 : decode cX12_becomes 139 = .ok (.getfield 127, 3) := by decide +kernel
theorem dX12_becomes_142 : decode cX12_becomes 142 = .ok (.putfield 130, 3) := by decide +kernel
theorem dX12_becomes_145 : decode cX12_becomes 145 = .ok (.aload_n 0, 1) := by decide +kernel
theorem dX12_becomes_146 : decode cX12_becomes 146 = .ok (.getfield 9, 3) := by decide +kernel
theorem dX12_becomes_149 : decode cX12_becomes 149 = .ok (.iload_n 1, 1) := by decide +kernel
theorem dX12_becomes_150 : decode cX12_becomes 150 = .ok (.iload_n 2, 1) := by decide +kernel
theorem dX12_becomes_151 : decode cX12_becomes 151 = .ok (.iastore, 1) := by decide +kernel
theorem dX12_becomes_152 : decode cX12_becomes 152 = .ok (.iload_n 3, 1) := by decide +kernel
theorem dX12_becomes_153 : decode cX12_becomes 153 = .ok (.ireturn, 1) := by decide +kernel
theorem dX12_undo_0 : decode cX12_undo 0 = .ok (.aload_n 0, 1) := by decide +kernel
theorem dX12_undo_1 : decode cX12_undo 1 = .ok (.getfield 127, 3) := by decide +kernel
theorem dX12_undo_4 : decode cX12_undo 4 = .ok (.ifCond .ne 6, 3) := by decide +kernel
theorem dX12_undo_7 : decode cX12_undo 7 = .ok (.bipush (-5), 2) := by decide +kernel
theorem dX12_undo_9 : decode cX12_undo 9 = .ok (.ireturn, 1) := by decide +kernel
theorem dX12_undo_10 : decode cX12_undo 10 = .ok (.aload_n 0, 1) := by decide +kernel
theorem dX12_undo_11 : decode cX12_undo 11 = .ok (.dup, 1) := by decide +kernel
theorem dX12_undo_12 : decode cX12_undo 12 = .ok (.getfield 127, 3) := by decide +kernel
theorem dX12_undo_15 : decode cX12_undo 15 = .ok (.iconst 1, 1) := by decide +kernel
theorem dX12_undo_16 : decode cX12_undo 16 = .ok (.isub, 1) := by decide +kernel
theorem dX12_undo_17 : decode cX12_undo 17 = .ok (.putfield 127, 3) := by decide +kernel
theorem dX12_undo_20 : decode cX12_undo 20 = .ok (.aload_n 0, 1) := by decide +kernel
theorem dX12_undo_21 : decode cX12_undo 21 = .ok (.getfield 9, 3) := by decide +kernel
theorem dX12_undo_24 : decode cX12_undo 24 = .ok (.aload_n 0, 1) := by decide +kernel
theorem dX12_undo_25 : decode cX12_undo 25 = .ok (.getfield 13, 3) := by decide +kernel
theorem dX12_undo_28 : decode cX12_undo 28 = .ok (.aload_n 0, 1) := by decide +kernel
theorem dX12_undo_29 : decode cX12_undo 29 = .ok (.getfield 127, 3) := by decide +kernel
theorem dX12_undo_32 : decode cX12_undo 32 = .ok (.iaload, 1) := by decide +kernel
theorem dX12_undo_33 : decode cX12_undo 33 = .ok (.aload_n 0, 1) := by decide +kernel
theorem dX12_undo_34 : decode cX12_undo 34 = .ok (.getfield 16, 3) := by decide +kernel
theorem dX12_undo_37 : decode cX12_undo 37 = .ok (.aload_n 0, 1) := by decide +kernel
theorem dX12_undo_38 : decode cX12_undo 38 = .ok (.getfield 127, 3) := by decide +kernel
theorem dX12_undo_41 : decode cX12_undo 41 = .ok (.iaload, 1) := by decide +kernel
theorem dX12_undo_42 : decode cX12_undo 42 = .ok (.iastore, 1) := by decide +kernel
theorem dX12_undo_43 : decode cX12_undo 43 = .ok (.aload_n 0, 1) := by decide +kernel
theorem dX12_undo_44 : decode cX12_undo 44 = .ok (.getfield 127, 3) := by decide +kernel
theorem dX12_undo_47 : decode cX12_undo 47 = .ok (.ireturn, 1) := by decide +kernel
theorem dX12_redo_0 : decode cX12_redo 0 = .ok (.aload_n 0, 1) := by decide +kernel
theorem dX12_redo_1 : decode cX12_redo 1 = .ok (.getfield 127, 3) := by decide +kernel
theorem dX12_redo_4 : decode cX12_redo 4 = .ok (.aload_n 0, 1) := by decide +kernel
theorem dX12_redo_5 : decode cX12_redo 5 = .ok (.getfield 130, 3) := by decide +kernel
theorem dX12_redo_8 : decode cX12_redo 8 = .ok (.if_icmp .ne 6, 3) := by decide +kernel
theorem dX12_redo_11 : decode cX12_redo 11 = .ok (.bipush (-5), 2) := by decide +kernel
theorem dX12_redo_13 : decode cX12_redo 13 = .ok (.ireturn, 1) := by decide +kernel
theorem dX12_redo_14 : decode cX12_redo 14 = .ok (.aload_n 0, 1) := by decide +kernel
theorem dX12_redo_15 : decode cX12_redo 15 = .ok (.getfield 9, 3) := by decide +kernel
theorem dX12_redo_18 : decode cX12_redo 18 = .ok (.aload_n 0, 1) := by decide +kernel
theorem dX12_redo_19 : decode cX12_redo 19 = .ok (.getfield 13, 3) := by decide +kernel
theorem dX12_redo_22 : decode cX12_redo 22 = .ok (.aload_n 0, 1) := by decide +kernel
theorem dX12_redo_23 : decode cX12_redo 23 = .ok (.getfield 127, 3) := by decide +kernel
theorem dX12_redo_26 : decode cX12_redo 26 = .ok (.iaload, 1) := by decide +kernel
theorem dX12_redo_27 : decode cX12_redo 27 = .ok (.aload_n 0, 1) := by decide +kernel
theorem dX12_redo_28 : decode cX12_redo 28 = .ok (.getfield 19, 3) := by decide +kernel
theorem dX12_redo_31 : decode cX12_redo 31 = .ok (.aload_n 0, 1) := by decide +kernel
theorem dX12_redo_32 : decode cX12_redo 32 = .ok (.getfield 127, 3) := by decide +kernel
theorem dX12_redo_35 : decode cX12_redo 35 = .ok (.iaload, 1) := by decide +kernel
theorem dX12_redo_36 : decode cX12_redo 36 = .ok (.iastore, 1) := by decide +kernel
theorem dX12_redo_37 : decode cX12_redo 37 = .ok (.aload_n 0, 1) := by decide +kernel
theorem dX12_redo_38 : decode cX12_redo 38 = .ok (.dup, 1) := by decide +kernel
theorem dX12_redo_39 : decode cX12_redo 39 = .ok (.getfield 127, 3) := by decide +kernel
theorem dX12_redo_42 : decode cX12_redo 42 = .ok (.iconst 1, 1) := by decide +kernel
theorem dX12_redo_43 : decode cX12_redo 43 = .ok (.iadd, 1) := by decide +kernel
theorem dX12_redo_44 : decode cX12_redo 44 = .ok (.putfield 127, 3) := by decide +kernel
theorem dX12_redo_47 : decode cX12_redo 47 = .ok (.aload_n 0, 1) := by decide +kernel
theorem dX12_redo_48 : decode cX12_redo 48 = .ok (.getfield 130, 3) := by decide +kernel
theorem dX12_redo_51 : decode cX12_redo 51 = .ok (.aload_n 0, 1) := by decide +kernel
theorem dX12_redo_52 : decode cX12_redo 52 = .ok (.getfield 127, 3) := by decide +kernel
theorem dX12_redo_55 : decode cX12_redo 55 = .ok (.isub, 1) := by decide +kernel
theorem dX12_redo_56 : decode cX12_redo 56 = .ok (.ireturn, 1) := by decide +kernel
set_option maxRecDepth 20000 in
theorem ggX12_isSheet_X12_within : GoodIn wsX12_isSheet wsX12_within := goodIn_r _ [5] (by decide +kernel) (by decide +kernel)
set_option maxRecDepth 20000 in
theorem gX12_isSheet_X12_within : GoodIn wsX12_isSheet (va_wsS RX12 136 yX12_within wsX12_within) := goodIn_app (goodIn_of _ (by decide +kernel)) ggX12_isSheet_X12_within
theorem dX12_isSheet_0 : decode cX12_isSheet 0 = .ok (.iload_n 1, 1) := by decide +kernel
theorem dX12_isSheet_1 : decode cX12_isSheet 1 = .ok (.i2l, 1) := by decide +kernel
theorem dX12_isSheet_2 : decode cX12_isSheet 2 = .ok (.lconst 0, 1) := by decide +kernel
theorem dX12_isSheet_3 : decode cX12_isSheet 3 = .ok (.aload_n 0, 1) := by decide +kernel
theorem dX12_isSheet_4 : decode cX12_isSheet 4 = .ok (.getfield 133, 3) := by decide +kernel
theorem dX12_isSheet_7 : decode cX12_isSheet 7 = .ok (.iconst 1, 1) := by decide +kernel
theorem dX12_isSheet_8 : decode cX12_isSheet 8 = .ok (.isub, 1) := by decide +kernel
theorem dX12_isSheet_9 : decode cX12_isSheet 9 = .ok (.i2l, 1) := by decide +kernel
theorem dX12_isSheet_10 : decode cX12_isSheet 10 = .ok (.invokestatic 136, 3) := by decide +kernel
theorem dX12_isSheet_13 : decode cX12_isSheet 13 = .ok (.ireturn, 1) := by decide +kernel
set_option maxRecDepth 20000 in
theorem ggX12_isHole_X12_within : GoodIn wsX12_isHole wsX12_within := goodIn_r _ [5] (by decide +kernel) (by decide +kernel)
set_option maxRecDepth 20000 in
theorem gX12_isHole_X12_within : GoodIn wsX12_isHole (va_wsS RX12 136 yX12_within wsX12_within) := goodIn_app (goodIn_of _ (by decide +kernel)) ggX12_isHole_X12_within
theorem dX12_isHole_0 : decode cX12_isHole 0 = .ok (.iload_n 1, 1) := by decide +kernel
theorem dX12_isHole_1 : decode cX12_isHole 1 = .ok (.i2l, 1) := by decide +kernel
theorem dX12_isHole_2 : decode cX12_isHole 2 = .ok (.lconst 0, 1) := by decide +kernel
theorem dX12_isHole_3 : decode cX12_isHole 3 = .ok (.aload_n 0, 1) := by decide +kernel
theorem dX12_isHole_4 : decode cX12_isHole 4 = .ok (.getfield 140, 3) := by decide +kernel
theorem dX12_isHole_7 : decode cX12_isHole 7 = .ok (.iconst 1, 1) := by decide +kernel
theorem dX12_isHole_8 : decode cX12_isHole 8 = .ok (.isub, 1) := by decide +kernel
theorem dX12_isHole_9 : decode cX12_isHole 9 = .ok (.i2l, 1) := by decide +kernel
theorem dX12_isHole_10 : decode cX12_isHole 10 = .ok (.invokestatic 136, 3) := by decide +kernel
theorem dX12_isHole_13 : decode cX12_isHole 13 = .ok (.ireturn, 1) := by decide +kernel
set_option maxRecDepth 20000 in
theorem ggX12_isYear_X12_within : GoodIn wsX12_isYear wsX12_within := goodIn_r _ [5] (by decide +kernel) (by decide +kernel)
set_option maxRecDepth 20000 in
theorem gX12_isYear_X12_within : GoodIn wsX12_isYear (va_wsS RX12 136 yX12_within wsX12_within) := goodIn_app (goodIn_of _ (by decide +kernel)) ggX12_isYear_X12_within
theorem dX12_isYear_0 : decode cX12_isYear 0 = .ok (.iload_n 0, 1) := by decide +kernel
theorem dX12_isYear_1 : decode cX12_isYear 1 = .ok (.i2l, 1) := by decide +kernel
theorem dX12_isYear_2 : decode cX12_isYear 2 = .ok (.lconst 0, 1) := by decide +kernel
theorem dX12_isYear_3 : decode cX12_isYear 3 = .ok (.ldc2_w 143, 3) := by decide +kernel
theorem dX12_isYear_6 : decode cX12_isYear 6 = .ok (.invokestatic 136, 3) := by decide +kernel
theorem dX12_isYear_9 : decode cX12_isYear 9 = .ok (.ireturn, 1) := by decide +kernel
set_option maxRecDepth 20000 in
theorem ggX12_isSlack_X12_within : GoodIn wsX12_isSlack wsX12_within := goodIn_r _ [5] (by decide +kernel) (by decide +kernel)
set_option maxRecDepth 20000 in
theorem gX12_isSlack_X12_within : GoodIn wsX12_isSlack (va_wsS RX12 136 yX12_within wsX12_within) := goodIn_app (goodIn_of _ (by decide +kernel)) ggX12_isSlack_X12_within
theorem dX12_isSlack_0 : decode cX12_isSlack 0 = .ok (.iload_n 0, 1) := by decide +kernel
theorem dX12_isSlack_1 : decode cX12_isSlack 1 = .ok (.i2l, 1) := by decide +kernel
theorem dX12_isSlack_2 : decode cX12_isSlack 2 = .ok (.lconst 0, 1) := by decide +kernel
theorem dX12_isSlack_3 : decode cX12_isSlack 3 = .ok (.ldc2_w 145, 3) := by decide +kernel
theorem dX12_isSlack_6 : decode cX12_isSlack 6 = .ok (.invokestatic 136, 3) := by decide +kernel
theorem dX12_isSlack_9 : decode cX12_isSlack 9 = .ok (.ireturn, 1) := by decide +kernel
set_option maxRecDepth 20000 in
theorem ggX12_sheet_X12_isYear : GoodIn wsX12_sheet wsX12_isYear := goodIn_r _ [6, 7, 8, 9, 5, 10] (by decide +kernel) (by decide +kernel)
set_option maxRecDepth 20000 in
theorem gX12_sheet_X12_isYear : GoodIn wsX12_sheet (va_wsS RX12 147 yX12_isYear wsX12_isYear) := goodIn_app (goodIn_of _ (by decide +kernel)) ggX12_sheet_X12_isYear
theorem dX12_sheet_0 : decode cX12_sheet 0 = .ok (.iload_n 1, 1) := by decide +kernel
theorem dX12_sheet_1 : decode cX12_sheet 1 = .ok (.invokestatic 147, 3) := by decide +kernel
theorem dX12_sheet_4 : decode cX12_sheet 4 = .ok (.ifCond .ne 5, 3) := by decide +kernel
theorem dX12_sheet_7 : decode cX12_sheet 7 = .ok (.iconst (-1), 1) := by decide +kernel
theorem dX12_sheet_8 : decode cX12_sheet 8 = .ok (.ireturn, 1) := by decide +kernel
theorem dX12_sheet_9 : decode cX12_sheet 9 = .ok (.aload_n 0, 1) := by decide +kernel
theorem dX12_sheet_10 : decode cX12_sheet 10 = .ok (.getfield 133, 3) := by decide +kernel
theorem dX12_sheet_13 : decode cX12_sheet 13 = .ok (.bipush 8, 2) := by decide +kernel
theorem dX12_sheet_15 : decode cX12_sheet 15 = .ok (.if_icmp .ne 6, 3) := by decide +kernel
theorem dX12_sheet_18 : decode cX12_sheet 18 = .ok (.bipush (-3), 2) := by decide +kernel
theorem dX12_sheet_20 : decode cX12_sheet 20 = .ok (.ireturn, 1) := by decide +kernel
theorem dX12_sheet_21 : decode cX12_sheet 21 = .ok (.aload_n 0, 1) := by decide +kernel
theorem dX12_sheet_22 : decode cX12_sheet 22 = .ok (.getfield 9, 3) := by decide +kernel
theorem dX12_sheet_25 : decode cX12_sheet 25 = .ok (.bipush 47, 2) := by decide +kernel
theorem dX12_sheet_27 : decode cX12_sheet 27 = .ok (.aload_n 0, 1) := by decide +kernel
theorem dX12_sheet_28 : decode cX12_sheet 28 = .ok (.getfield 133, 3) := by decide +kernel
theorem dX12_sheet_31 : decode cX12_sheet 31 = .ok (.iadd, 1) := by decide +kernel
theorem dX12_sheet_32 : decode cX12_sheet 32 = .ok (.iload_n 1, 1) := by decide +kernel
theorem dX12_sheet_33 : decode cX12_sheet 33 = .ok (.iastore, 1) := by decide +kernel
theorem dX12_sheet_34 : decode cX12_sheet 34 = .ok (.aload_n 0, 1) := by decide +kernel
theorem dX12_sheet_35 : decode cX12_sheet 35 = .ok (.dup, 1) := by decide +kernel
theorem dX12_sheet_36 : decode cX12_sheet 36 = .ok (.getfield 133, 3) := by decide +kernel
theorem dX12_sheet_39 : decode cX12_sheet 39 = .ok (.iconst 1, 1) := by decide +kernel
theorem dX12_sheet_40 : decode cX12_sheet 40 = .ok (.iadd, 1) := by decide +kernel
theorem dX12_sheet_41 : decode cX12_sheet 41 = .ok (.putfield 133, 3) := by decide +kernel
theorem dX12_sheet_44 : decode cX12_sheet 44 = .ok (.aload_n 0, 1) := by decide +kernel
theorem dX12_sheet_45 : decode cX12_sheet 45 = .ok (.getfield 133, 3) := by decide +kernel
theorem dX12_sheet_48 : decode cX12_sheet 48 = .ok (.iconst 1, 1) := by decide +kernel
theorem dX12_sheet_49 : decode cX12_sheet 49 = .ok (.isub, 1) := by decide +kernel
theorem dX12_sheet_50 : decode cX12_sheet 50 = .ok (.ireturn, 1) := by decide +kernel
set_option maxRecDepth 20000 in
theorem ggX12_age_X12_isSheet : GoodIn wsX12_age wsX12_isSheet := goodIn_r _ [5, 6, 7, 8, 4, 9, 24, 25, 26, 27, 28, 29, 30, 31, 32, 33, 34, 35, 36, 37, 38, 39, 40, 41, 42, 43, 44, 45, 46, 47, 48, 49, 50, 51, 52, 53, 54, 55, 56, 57, 58, 59, 60, 61, 62, 63, 64, 65, 66, 67, 68, 69, 70, 71, 72, 73, 74, 75, 76, 77, 78, 79, 80, 81, 82, 83, 84, 85, 86] (by decide +kernel) (by decide +kernel)
set_option maxRecDepth 20000 in
theorem gX12_age_X12_isSheet : GoodIn wsX12_age (wsV RX12 151 RX12 yX12_isSheet wsX12_isSheet) := goodIn_app (goodIn_of _ (by decide +kernel)) ggX12_age_X12_isSheet
set_option maxRecDepth 20000 in
theorem ggX12_age_X12_isYear : GoodIn wsX12_age wsX12_isYear := goodIn_r _ [12, 13, 7, 8, 4, 9] (by decide +kernel) (by decide +kernel)
set_option maxRecDepth 20000 in
theorem gX12_age_X12_isYear : GoodIn wsX12_age (va_wsS RX12 147 yX12_isYear wsX12_isYear) := goodIn_app (goodIn_of _ (by decide +kernel)) ggX12_age_X12_isYear
set_option maxRecDepth 20000 in
theorem ggX12_age_X12_becomes : GoodIn wsX12_age wsX12_becomes := goodIn_r _ [17, 18, 19, 20, 21, 22, 23, 24, 25, 26, 27, 28, 29, 30, 31, 32, 33, 34, 35, 36, 37, 38, 39, 40, 41, 42, 43, 44, 45, 46, 47, 48, 49, 50, 51, 52, 53, 54, 55, 56, 57, 58, 59, 60, 61, 62, 63, 64, 65, 66, 67, 68, 69, 70, 71, 72, 73, 74, 75, 76, 77, 78, 79, 80, 81, 82, 83, 84, 85, 86] (by decide +kernel) (by decide +kernel)
set_option maxRecDepth 20000 in
theorem gX12_age_X12_becomes : GoodIn wsX12_age (wsV RX12 154 RX12 yX12_becomes wsX12_becomes) := goodIn_app (goodIn_of _ (by decide +kernel)) ggX12_age_X12_becomes
theorem dX12_age_0 : decode cX12_age 0 = .ok (.aload_n 0, 1) := by decide +kernel
theorem dX12_age_1 : decode cX12_age 1 = .ok (.iload_n 1, 1) := by decide +kernel
theorem dX12_age_2 : decode cX12_age 2 = .ok (.invokevirtual 151, 3) := by decide +kernel
theorem dX12_age_5 : decode cX12_age 5 = .ok (.ifCond .eq 22, 3) := by decide +kernel
theorem dX12_age_8 : decode cX12_age 8 = .ok (.iload_n 2, 1) := by decide +kernel
theorem dX12_age_9 : decode cX12_age 9 = .ok (.invokestatic 147, 3) := by decide +kernel
theorem dX12_age_12 : decode cX12_age 12 = .ok (.ifCond .eq 15, 3) := by decide +kernel
theorem dX12_age_15 : decode cX12_age 15 = .ok (.aload_n 0, 1) := by decide +kernel
theorem dX12_age_16 : decode cX12_age 16 = .ok (.bipush 47, 2) := by decide +kernel
theorem dX12_age_18 : decode cX12_age 18 = .ok (.iload_n 1, 1) := by decide +kernel
theorem dX12_age_19 : decode cX12_age 19 = .ok (.iadd, 1) := by decide +kernel
theorem dX12_age_20 : decode cX12_age 20 = .ok (.iload_n 2, 1) := by decide +kernel
theorem dX12_age_21 : decode cX12_age 21 = .ok (.invokevirtual 154, 3) := by decide +kernel
theorem dX12_age_24 : decode cX12_age 24 = .ok (.goto 4, 3) := by decide +kernel
theorem dX12_age_27 : decode cX12_age 27 = .ok (.iconst (-1), 1) := by decide +kernel
theorem dX12_age_28 : decode cX12_age 28 = .ok (.ireturn, 1) := by decide +kernel
set_option maxRecDepth 20000 in
theorem ggX12_hole_X12_isSheet : GoodIn wsX12_hole wsX12_isSheet := goodIn_r _ [9, 10, 11, 12, 8, 13, 14, 15, 16, 17, 18, 19, 20, 21, 22, 23, 24, 25, 26, 27, 28, 29, 30, 31, 32, 33, 34, 35, 36, 37, 38, 39, 40, 41, 42, 43, 44, 45, 46, 47, 48, 49, 50, 51, 52, 53, 54, 55, 56, 57, 58, 59, 60, 61, 62, 63, 64, 65, 66, 67, 68, 69, 70, 71, 72, 73, 74, 75, 76] (by decide +kernel) (by decide +kernel)
set_option maxRecDepth 20000 in
theorem gX12_hole_X12_isSheet : GoodIn wsX12_hole (wsV RX12 151 RX12 yX12_isSheet wsX12_isSheet) := goodIn_app (goodIn_of _ (by decide +kernel)) ggX12_hole_X12_isSheet
set_option maxRecDepth 20000 in
theorem ggX12_hole_X12_within : GoodIn wsX12_hole wsX12_within := goodIn_r _ [13] (by decide +kernel) (by decide +kernel)
set_option maxRecDepth 20000 in
theorem gX12_hole_X12_within : GoodIn wsX12_hole (va_wsS RX12 136 yX12_within wsX12_within) := goodIn_app (goodIn_of _ (by decide +kernel)) ggX12_hole_X12_within
theorem dX12_hole_0 : decode cX12_hole 0 = .ok (.aload_n 0, 1) := by decide +kernel
theorem dX12_hole_1 : decode cX12_hole 1 = .ok (.iload_n 1, 1) := by decide +kernel
theorem dX12_hole_2 : decode cX12_hole 2 = .ok (.invokevirtual 151, 3) := by decide +kernel
theorem dX12_hole_5 : decode cX12_hole 5 = .ok (.ifCond .eq 15, 3) := by decide +kernel
theorem dX12_hole_8 : decode cX12_hole 8 = .ok (.iload_n 2, 1) := by decide +kernel
theorem dX12_hole_9 : decode cX12_hole 9 = .ok (.i2l, 1) := by decide +kernel
theorem dX12_hole_10 : decode cX12_hole 10 = .ok (.lconst 0, 1) := by decide +kernel
theorem dX12_hole_11 : decode cX12_hole 11 = .ok (.ldc2_w 158, 3) := by decide +kernel
theorem dX12_hole_14 : decode cX12_hole 14 = .ok (.invokestatic 136, 3) := by decide +kernel
theorem dX12_hole_17 : decode cX12_hole 17 = .ok (.ifCond .ne 5, 3) := by decide +kernel
theorem dX12_hole_20 : decode cX12_hole 20 = .ok (.iconst (-1), 1) := by decide +kernel
theorem dX12_hole_21 : decode cX12_hole 21 = .ok (.ireturn, 1) := by decide +kernel
theorem dX12_hole_22 : decode cX12_hole 22 = .ok (.aload_n 0, 1) := by decide +kernel
theorem dX12_hole_23 : decode cX12_hole 23 = .ok (.getfield 140, 3) := by decide +kernel
theorem dX12_hole_26 : decode cX12_hole 26 = .ok (.bipush 40, 2) := by decide +kernel
theorem dX12_hole_28 : decode cX12_hole 28 = .ok (.if_icmp .ne 6, 3) := by decide +kernel
theorem dX12_hole_31 : decode cX12_hole 31 = .ok (.bipush (-3), 2) := by decide +kernel
theorem dX12_hole_33 : decode cX12_hole 33 = .ok (.ireturn, 1) := by decide +kernel
theorem dX12_hole_34 : decode cX12_hole 34 = .ok (.aload_n 0, 1) := by decide +kernel
theorem dX12_hole_35 : decode cX12_hole 35 = .ok (.getfield 22, 3) := by decide +kernel
theorem dX12_hole_38 : decode cX12_hole 38 = .ok (.aload_n 0, 1) := by decide +kernel
theorem dX12_hole_39 : decode cX12_hole 39 = .ok (.getfield 140, 3) := by decide +kernel
theorem dX12_hole_42 : decode cX12_hole 42 = .ok (.iload_n 1, 1) := by decide +kernel
theorem dX12_hole_43 : decode cX12_hole 43 = .ok (.iastore, 1) := by decide +kernel
theorem dX12_hole_44 : decode cX12_hole 44 = .ok (.aload_n 0, 1) := by decide +kernel
theorem dX12_hole_45 : decode cX12_hole 45 = .ok (.getfield 25, 3) := by decide +kernel
theorem dX12_hole_48 : decode cX12_hole 48 = .ok (.aload_n 0, 1) := by decide +kernel
theorem dX12_hole_49 : decode cX12_hole 49 = .ok (.getfield 140, 3) := by decide +kernel
theorem dX12_hole_52 : decode cX12_hole 52 = .ok (.iload_n 2, 1) := by decide +kernel
theorem dX12_hole_53 : decode cX12_hole 53 = .ok (.iastore, 1) := by decide +kernel
theorem dX12_hole_54 : decode cX12_hole 54 = .ok (.aload_n 0, 1) := by decide +kernel
theorem dX12_hole_55 : decode cX12_hole 55 = .ok (.dup, 1) := by decide +kernel
theorem dX12_hole_56 : decode cX12_hole 56 = .ok (.getfield 140, 3) := by decide +kernel
theorem dX12_hole_59 : decode cX12_hole 59 = .ok (.iconst 1, 1) := by decide +kernel
theorem dX12_hole_60 : decode cX12_hole 60 = .ok (.iadd, 1) := by decide +kernel
theorem dX12_hole_61 : decode cX12_hole 61 = .ok (.putfield 140, 3) := by decide +kernel
theorem dX12_hole_64 : decode cX12_hole 64 = .ok (.aload_n 0, 1) := by decide +kernel
theorem dX12_hole_65 : decode cX12_hole 65 = .ok (.getfield 140, 3) := by decide +kernel
theorem dX12_hole_68 : decode cX12_hole 68 = .ok (.iconst 1, 1) := by decide +kernel
theorem dX12_hole_69 : decode cX12_hole 69 = .ok (.isub, 1) := by decide +kernel
theorem dX12_hole_70 : decode cX12_hole 70 = .ok (.ireturn, 1) := by decide +kernel
theorem dX12_findWorms_0 : decode cX12_findWorms 0 = .ok (.iconst 0, 1) := by decide +kernel
theorem dX12_findWorms_1 : decode cX12_findWorms 1 = .ok (.istore_n 3, 1) := by decide +kernel
theorem dX12_findWorms_2 : decode cX12_findWorms 2 = .ok (.iconst 0, 1) := by decide +kernel
theorem dX12_findWorms_3 : decode cX12_findWorms 3 = .ok (.istore 4, 2) := by decide +kernel
theorem dX12_findWorms_5 : decode cX12_findWorms 5 = .ok (.iload 4, 2) := by decide +kernel
theorem dX12_findWorms_7 : decode cX12_findWorms 7 = .ok (.aload_n 0, 1) := by decide +kernel
theorem dX12_findWorms_8 : decode cX12_findWorms 8 = .ok (.getfield 140, 3) := by decide +kernel
theorem dX12_findWorms_11 : decode cX12_findWorms 11 = .ok (.if_icmp .ge 94, 3) := by decide +kernel
theorem dX12_findWorms_14 : decode cX12_findWorms 14 = .ok (.aload_n 0, 1) := by decide +kernel
theorem dX12_findWorms_15 : decode cX12_findWorms 15 = .ok (.getfield 31, 3) := by decide +kernel
theorem dX12_findWorms_18 : decode cX12_findWorms 18 = .ok (.iload 4, 2) := by decide +kernel
theorem dX12_findWorms_20 : decode cX12_findWorms 20 = .ok (.iconst (-1), 1) := by decide +kernel
theorem dX12_findWorms_21 : decode cX12_findWorms 21 = .ok (.iastore, 1) := by decide +kernel
theorem dX12_findWorms_22 : decode cX12_findWorms 22 = .ok (.aload_n 0, 1) := by decide +kernel
theorem dX12_findWorms_23 : decode cX12_findWorms 23 = .ok (.getfield 22, 3) := by decide +kernel
theorem dX12_findWorms_26 : decode cX12_findWorms 26 = .ok (.iload 4, 2) := by decide +kernel
theorem dX12_findWorms_28 : decode cX12_findWorms 28 = .ok (.iaload, 1) := by decide +kernel
theorem dX12_findWorms_29 : decode cX12_findWorms 29 = .ok (.iload_n 2, 1) := by decide +kernel
theorem dX12_findWorms_30 : decode cX12_findWorms 30 = .ok (.if_icmp .eq 69, 3) := by decide +kernel
theorem dX12_findWorms_33 : decode cX12_findWorms 33 = .ok (.iload_n 3, 1) := by decide +kernel
theorem dX12_findWorms_34 : decode cX12_findWorms 34 = .ok (.istore 5, 2) := by decide +kernel
theorem dX12_findWorms_36 : decode cX12_findWorms 36 = .ok (.iload 5, 2) := by decide +kernel
theorem dX12_findWorms_38 : decode cX12_findWorms 38 = .ok (.ifCond .le 49, 3) := by decide +kernel
theorem dX12_findWorms_41 : decode cX12_findWorms 41 = .ok (.aload_n 0, 1) := by decide +kernel
theorem dX12_findWorms_42 : decode cX12_findWorms 42 = .ok (.getfield 25, 3) := by decide +kernel
theorem dX12_findWorms_45 : decode cX12_findWorms 45 = .ok (.aload_n 0, 1) := by decide +kernel
theorem dX12_findWorms_46 : decode cX12_findWorms 46 = .ok (.getfield 28, 3) := by decide +kernel
theorem dX12_findWorms_49 : decode cX12_findWorms 49 = .ok (.iload 5, 2) := by decide +kernel
theorem dX12_findWorms_51 : decode cX12_findWorms 51 = .ok (.iconst 1, 1) := by decide +kernel
theorem dX12_findWorms_52 : decode cX12_findWorms 52 = .ok (.isub, 1) := by decide +kernel
theorem dX12_findWorms_53 : decode cX12_findWorms 53 = .ok (.iaload, 1) := by decide +kernel
theorem dX12_findWorms_54 : decode cX12_findWorms 54 = .ok (.iaload, 1) := by decide +kernel
theorem dX12_findWorms_55 : decode cX12_findWorms 55 = .ok (.aload_n 0, 1) := by decide +kernel
theorem dX12_findWorms_56 : decode cX12_findWorms 56 = .ok (.getfield 25, 3) := by decide +kernel
theorem dX12_findWorms_59 : decode cX12_findWorms 59 = .ok (.iload 4, 2) := by decide +kernel
theorem dX12_findWorms_61 : decode cX12_findWorms 61 = .ok (.iaload, 1) := by decide +kernel
theorem dX12_findWorms_62 : decode cX12_findWorms 62 = .ok (.if_icmp .le 25, 3) := by decide +kernel
theorem dX12_findWorms_65 : decode cX12_findWorms 65 = .ok (.aload_n 0, 1) := by decide +kernel
theorem dX12_findWorms_66 : decode cX12_findWorms 66 = .ok (.getfield 28, 3) := by decide +kernel
theorem dX12_findWorms_69 : decode cX12_findWorms 69 = .ok (.iload 5, 2) := by decide +kernel
theorem dX12_findWorms_71 : decode cX12_findWorms 71 = .ok (.aload_n 0, 1) := by decide +kernel
theorem dX12_findWorms_72 : decode cX12_findWorms 72 = .ok (.getfield 28, 3) := by decide +kernel
theorem dX12_findWorms_75 : decode cX12_findWorms 75 = .ok (.iload 5, 2) := by decide +kernel
theorem dX12_findWorms_77 : decode cX12_findWorms 77 = .ok (.iconst 1, 1) := by decide +kernel
theorem dX12_findWorms_78 : decode cX12_findWorms 78 = .ok (.isub, 1) := by decide +kernel
theorem dX12_findWorms_79 : decode cX12_findWorms 79 = .ok (.iaload, 1) := by decide +kernel
theorem dX12_findWorms_80 : decode cX12_findWorms 80 = .ok (.iastore, 1) := by decide +kernel
theorem dX12_findWorms_81 : decode cX12_findWorms 81 = .ok (.iinc 5 (-1), 3) := by decide +kernel
theorem dX12_findWorms_84 : decode cX12_findWorms 84 = .ok (.goto (-48), 3) := by decide +kernel
theorem dX12_findWorms_87 : decode cX12_findWorms 87 = .ok (.aload_n 0, 1) := by decide +kernel
theorem dX12_findWorms_88 : decode cX12_findWorms 88 = .ok (.getfield 28, 3) := by decide +kernel
theorem dX12_findWorms_91 : decode cX12_findWorms 91 = .ok (.iload 5, 2) := by decide +kernel
theorem dX12_findWorms_93 : decode cX12_findWorms 93 = .ok (.iload 4, 2) := by decide +kernel
theorem dX12_findWorms_95 : decode cX12_findWorms 95 = .ok (.iastore, 1) := by decide +kernel
theorem dX12_findWorms_96 : decode cX12_findWorms 96 = .ok (.iinc 3 1, 3) := by decide +kernel
theorem dX12_findWorms_99 : decode cX12_findWorms 99 = .ok (.iinc 4 1, 3) := by decide +kernel
theorem dX12_findWorms_102 : decode cX12_findWorms 102 = .ok (.goto (-97), 3) := by decide +kernel
theorem dX12_findWorms_105 : decode cX12_findWorms 105 = .ok (.aload_n 0, 1) := by decide +kernel
theorem dX12_findWorms_106 : decode cX12_findWorms 106 = .ok (.iconst 0, 1) := by decide +kernel
theorem dX12_findWorms_107 : decode cX12_findWorms 107 = .ok (.putfield 160, 3) := by decide +kernel
theorem dX12_findWorms_110 : decode cX12_findWorms 110 = .ok (.iconst 0, 1) := by decide +kernel
theorem dX12_findWorms_111 : decode cX12_findWorms 111 = .ok (.istore 4, 2) := by decide +kernel
theorem dX12_findWorms_113 : decode cX12_findWorms 113 = .ok (.iload 4, 2) := by decide +kernel
theorem dX12_findWorms_115 : decode cX12_findWorms 115 = .ok (.iload_n 3, 1) := by decide +kernel
theorem dX12_findWorms_116 : decode cX12_findWorms 116 = .ok (.if_icmp .ge 147, 3) := by decide +kernel
theorem dX12_findWorms_119 : decode cX12_findWorms 119 = .ok (.aload_n 0, 1) := by decide +kernel
theorem dX12_findWorms_120 : decode cX12_findWorms 120 = .ok (.getfield 28, 3) := by decide +kernel
theorem dX12_findWorms_123 : decode cX12_findWorms 123 = .ok (.iload 4, 2) := by decide +kernel
