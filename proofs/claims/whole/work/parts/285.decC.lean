set_option maxRecDepth 20000 in
theorem ggX7_init_X7_laysFirst : GoodIn wsX7_init wsX7_laysFirst := goodIn_r _ [21, 5, 22, 23, 24, 25, 26, 27, 28, 29, 30, 31, 32, 33, 34, 35, 36, 37] (by decide +kernel) (by decide +kernel)
set_option maxRecDepth 20000 in
theorem gX7_init_X7_laysFirst : GoodIn wsX7_init (wsV RX7 41 RX7 yX7_laysFirst wsX7_laysFirst) := goodIn_app (goodIn_of _ (by decide +kernel)) ggX7_init_X7_laysFirst
theorem dX7_init_0 : decode cX7_init 0 = .ok (.aload_n 0, 1) := by decide +kernel
theorem dX7_init_1 : decode cX7_init 1 = .ok (.invokespecial 1, 3) := by decide +kernel
theorem dX7_init_4 : decode cX7_init 4 = .ok (.aload_n 0, 1) := by decide +kernel
theorem dX7_init_5 : decode cX7_init 5 = .ok (.sipush 205, 3) := by decide +kernel
theorem dX7_init_8 : decode cX7_init 8 = .ok (.newarray .long, 2) := by decide +kernel
theorem dX7_init_10 : decode cX7_init 10 = .ok (.putfield 7, 3) := by decide +kernel
theorem dX7_init_13 : decode cX7_init 13 = .ok (.aload_n 0, 1) := by decide +kernel
theorem dX7_init_14 : decode cX7_init 14 = .ok (.sipush 820, 3) := by decide +kernel
theorem dX7_init_17 : decode cX7_init 17 = .ok (.newarray .long, 2) := by decide +kernel
theorem dX7_init_19 : decode cX7_init 19 = .ok (.putfield 13, 3) := by decide +kernel
theorem dX7_init_22 : decode cX7_init 22 = .ok (.aload_n 0, 1) := by decide +kernel
theorem dX7_init_23 : decode cX7_init 23 = .ok (.bipush 120, 2) := by decide +kernel
theorem dX7_init_25 : decode cX7_init 25 = .ok (.newarray .int, 2) := by decide +kernel
theorem dX7_init_27 : decode cX7_init 27 = .ok (.putfield 16, 3) := by decide +kernel
theorem dX7_init_30 : decode cX7_init 30 = .ok (.aload_n 0, 1) := by decide +kernel
theorem dX7_init_31 : decode cX7_init 31 = .ok (.bipush 121, 2) := by decide +kernel
theorem dX7_init_33 : decode cX7_init 33 = .ok (.newarray .int, 2) := by decide +kernel
theorem dX7_init_35 : decode cX7_init 35 = .ok (.putfield 20, 3) := by decide +kernel
theorem dX7_init_38 : decode cX7_init 38 = .ok (.aload_n 0, 1) := by decide +kernel
theorem dX7_init_39 : decode cX7_init 39 = .ok (.bipush 120, 2) := by decide +kernel
theorem dX7_init_41 : decode cX7_init 41 = .ok (.newarray .int, 2) := by decide +kernel
theorem dX7_init_43 : decode cX7_init 43 = .ok (.putfield 23, 3) := by decide +kernel
theorem dX7_init_46 : decode cX7_init 46 = .ok (.aload_n 0, 1) := by decide +kernel
theorem dX7_init_47 : decode cX7_init 47 = .ok (.bipush 60, 2) := by decide +kernel
theorem dX7_init_49 : decode cX7_init 49 = .ok (.newarray .int, 2) := by decide +kernel
theorem dX7_init_51 : decode cX7_init 51 = .ok (.putfield 26, 3) := by decide +kernel
theorem dX7_init_54 : decode cX7_init 54 = .ok (.aload_n 0, 1) := by decide +kernel
theorem dX7_init_55 : decode cX7_init 55 = .ok (.bipush 60, 2) := by decide +kernel
theorem dX7_init_57 : decode cX7_init 57 = .ok (.newarray .int, 2) := by decide +kernel
theorem dX7_init_59 : decode cX7_init 59 = .ok (.putfield 29, 3) := by decide +kernel
theorem dX7_init_62 : decode cX7_init 62 = .ok (.aload_n 0, 1) := by decide +kernel
theorem dX7_init_63 : decode cX7_init 63 = .ok (.sipush 205, 3) := by decide +kernel
theorem dX7_init_66 : decode cX7_init 66 = .ok (.newarray .long, 2) := by decide +kernel
theorem dX7_init_68 : decode cX7_init 68 = .ok (.putfield 32, 3) := by decide +kernel
theorem dX7_init_71 : decode cX7_init 71 = .ok (.aload_n 0, 1) := by decide +kernel
theorem dX7_init_72 : decode cX7_init 72 = .ok (.getfield 7, 3) := by decide +kernel
theorem dX7_init_75 : decode cX7_init 75 = .ok (.iconst 2, 1) := by decide +kernel
theorem dX7_init_76 : decode cX7_init 76 = .ok (.ldc2_w 35, 3) := by decide +kernel
theorem dX7_init_79 : decode cX7_init 79 = .ok (.lastore, 1) := by decide +kernel
theorem dX7_init_80 : decode cX7_init 80 = .ok (.aload_n 0, 1) := by decide +kernel
theorem dX7_init_81 : decode cX7_init 81 = .ok (.getfield 7, 3) := by decide +kernel
theorem dX7_init_84 : decode cX7_init 84 = .ok (.iconst 3, 1) := by decide +kernel
theorem dX7_init_85 : decode cX7_init 85 = .ok (.ldc2_w 37, 3) := by decide +kernel
theorem dX7_init_88 : decode cX7_init 88 = .ok (.lastore, 1) := by decide +kernel
theorem dX7_init_89 : decode cX7_init 89 = .ok (.aload_n 0, 1) := by decide +kernel
theorem dX7_init_90 : decode cX7_init 90 = .ok (.getfield 7, 3) := by decide +kernel
theorem dX7_init_93 : decode cX7_init 93 = .ok (.iconst 4, 1) := by decide +kernel
theorem dX7_init_94 : decode cX7_init 94 = .ok (.ldc2_w 39, 3) := by decide +kernel
theorem dX7_init_97 : decode cX7_init 97 = .ok (.lastore, 1) := by decide +kernel
theorem dX7_init_98 : decode cX7_init 98 = .ok (.aload_n 0, 1) := by decide +kernel
theorem dX7_init_99 : decode cX7_init 99 = .ok (.bipush 6, 2) := by decide +kernel
theorem dX7_init_101 : decode cX7_init 101 = .ok (.invokevirtual 41, 3) := by decide +kernel
theorem dX7_init_104 : decode cX7_init 104 = .ok (.return_, 1) := by decide +kernel
theorem dX7_thrown_0 : decode cX7_thrown 0 = .ok (.aload_n 0, 1) := by decide +kernel
theorem dX7_thrown_1 : decode cX7_thrown 1 = .ok (.getfield 45, 3) := by decide +kernel
theorem dX7_thrown_4 : decode cX7_thrown 4 = .ok (.ireturn, 1) := by decide +kernel
theorem dX7_in_0 : decode cX7_in 0 = .ok (.iload_n 0, 1) := by decide +kernel
theorem dX7_in_1 : decode cX7_in 1 = .ok (.iload_n 1, 1) := by decide +kernel
theorem dX7_in_2 : decode cX7_in 2 = .ok (.if_icmp .lt 12, 3) := by decide +kernel
theorem dX7_in_5 : decode cX7_in 5 = .ok (.iload_n 0, 1) := by decide +kernel
theorem dX7_in_6 : decode cX7_in 6 = .ok (.iload_n 2, 1) := by decide +kernel
theorem dX7_in_7 : decode cX7_in 7 = .ok (.if_icmp .gt 7, 3) := by decide +kernel
theorem dX7_in_10 : decode cX7_in 10 = .ok (.iconst 1, 1) := by decide +kernel
theorem dX7_in_11 : decode cX7_in 11 = .ok (.goto 4, 3) := by decide +kernel
theorem dX7_in_14 : decode cX7_in 14 = .ok (.iconst 0, 1) := by decide +kernel
theorem dX7_in_15 : decode cX7_in 15 = .ok (.ireturn, 1) := by decide +kernel
theorem dX7_throwsAt_0 : decode cX7_throwsAt 0 = .ok (.aload_n 0, 1) := by decide +kernel
theorem dX7_throwsAt_1 : decode cX7_throwsAt 1 = .ok (.iload_n 1, 1) := by decide +kernel
theorem dX7_throwsAt_2 : decode cX7_throwsAt 2 = .ok (.putfield 45, 3) := by decide +kernel
theorem dX7_throwsAt_5 : decode cX7_throwsAt 5 = .ok (.iload_n 1, 1) := by decide +kernel
theorem dX7_throwsAt_6 : decode cX7_throwsAt 6 = .ok (.ifCond .le 7, 3) := by decide +kernel
theorem dX7_throwsAt_9 : decode cX7_throwsAt 9 = .ok (.iconst 1, 1) := by decide +kernel
theorem dX7_throwsAt_10 : decode cX7_throwsAt 10 = .ok (.goto 4, 3) := by decide +kernel
theorem dX7_throwsAt_13 : decode cX7_throwsAt 13 = .ok (.iconst 0, 1) := by decide +kernel
theorem dX7_throwsAt_14 : decode cX7_throwsAt 14 = .ok (.ireturn, 1) := by decide +kernel
theorem dX7_saves_0 : decode cX7_saves 0 = .ok (.aload_n 0, 1) := by decide +kernel
theorem dX7_saves_1 : decode cX7_saves 1 = .ok (.getfield 49, 3) := by decide +kernel
theorem dX7_saves_4 : decode cX7_saves 4 = .ok (.iconst 4, 1) := by decide +kernel
theorem dX7_saves_5 : decode cX7_saves 5 = .ok (.if_icmp .ne 44, 3) := by decide +kernel
theorem dX7_saves_8 : decode cX7_saves 8 = .ok (.iconst 0, 1) := by decide +kernel
theorem dX7_saves_9 : decode cX7_saves 9 = .ok (.istore_n 1, 1) := by decide +kernel
theorem dX7_saves_10 : decode cX7_saves 10 = .ok (.iload_n 1, 1) := by decide +kernel
theorem dX7_saves_11 : decode cX7_saves 11 = .ok (.sipush 615, 3) := by decide +kernel
theorem dX7_saves_14 : decode cX7_saves 14 = .ok (.if_icmp .ge 25, 3) := by decide +kernel
theorem dX7_saves_17 : decode cX7_saves 17 = .ok (.aload_n 0, 1) := by decide +kernel
theorem dX7_saves_18 : decode cX7_saves 18 = .ok (.getfield 13, 3) := by decide +kernel
theorem dX7_saves_21 : decode cX7_saves 21 = .ok (.iload_n 1, 1) := by decide +kernel
theorem dX7_saves_22 : decode cX7_saves 22 = .ok (.aload_n 0, 1) := by decide +kernel
theorem dX7_saves_23 : decode cX7_saves 23 = .ok (.getfield 13, 3) := by decide +kernel
theorem dX7_saves_26 : decode cX7_saves 26 = .ok (.iload_n 1, 1) := by decide +kernel
theorem dX7_saves_27 : decode cX7_saves 27 = .ok (.sipush 205, 3) := by decide +kernel
theorem dX7_saves_30 : decode cX7_saves 30 = .ok (.iadd, 1) := by decide +kernel
theorem dX7_saves_31 : decode cX7_saves 31 = .ok (.laload, 1) := by decide +kernel
theorem dX7_saves_32 : decode cX7_saves 32 = .ok (.lastore, 1) := by decide +kernel
theorem dX7_saves_33 : decode cX7_saves 33 = .ok (.iinc 1 1, 3) := by decide +kernel
theorem dX7_saves_36 : decode cX7_saves 36 = .ok (.goto (-26), 3) := by decide +kernel
theorem dX7_saves_39 : decode cX7_saves 39 = .ok (.aload_n 0, 1) := by decide +kernel
theorem dX7_saves_40 : decode cX7_saves 40 = .ok (.dup, 1) := by decide +kernel
theorem dX7_saves_41 : decode cX7_saves 41 = .ok (.getfield 49, 3) := by decide +kernel
theorem dX7_saves_44 : decode cX7_saves 44 = .ok (.iconst 1, 1) := by decide +kernel
theorem dX7_saves_45 : decode cX7_saves 45 = .ok (.isub, 1) := by decide +kernel
theorem dX7_saves_46 : decode cX7_saves 46 = .ok (.putfield 49, 3) := by decide +kernel
theorem dX7_saves_49 : decode cX7_saves 49 = .ok (.iconst 0, 1) := by decide +kernel
theorem dX7_saves_50 : decode cX7_saves 50 = .ok (.istore_n 1, 1) := by decide +kernel
theorem dX7_saves_51 : decode cX7_saves 51 = .ok (.iload_n 1, 1) := by decide +kernel
theorem dX7_saves_52 : decode cX7_saves 52 = .ok (.sipush 205, 3) := by decide +kernel
theorem dX7_saves_55 : decode cX7_saves 55 = .ok (.if_icmp .ge 30, 3) := by decide +kernel
theorem dX7_saves_58 : decode cX7_saves 58 = .ok (.aload_n 0, 1) := by decide +kernel
theorem dX7_saves_59 : decode cX7_saves 59 = .ok (.getfield 13, 3) := by decide +kernel
theorem dX7_saves_62 : decode cX7_saves 62 = .ok (.sipush 205, 3) := by decide +kernel
theorem dX7_saves_65 : decode cX7_saves 65 = .ok (.aload_n 0, 1) := by decide +kernel
theorem dX7_saves_66 : decode cX7_saves 66 = .ok (.getfield 49, 3) := by decide +kernel
theorem dX7_saves_69 : decode cX7_saves 69 = .ok (.imul, 1) := by decide +kernel
theorem dX7_saves_70 : decode cX7_saves 70 = .ok (.iload_n 1, 1) := by decide +kernel
theorem dX7_saves_71 : decode cX7_saves 71 = .ok (.iadd, 1) := by decide +kernel
theorem dX7_saves_72 : decode cX7_saves 72 = .ok (.aload_n 0, 1) := by decide +kernel
theorem dX7_saves_73 : decode cX7_saves 73 = .ok (.getfield 7, 3) := by decide +kernel
theorem dX7_saves_76 : decode cX7_saves 76 = .ok (.iload_n 1, 1) := by decide +kernel
theorem dX7_saves_77 : decode cX7_saves 77 = .ok (.laload, 1) := by decide +kernel
theorem dX7_saves_78 : decode cX7_saves 78 = .ok (.lastore, 1) := by decide +kernel
theorem dX7_saves_79 : decode cX7_saves 79 = .ok (.iinc 1 1, 3) := by decide +kernel
theorem dX7_saves_82 : decode cX7_saves 82 = .ok (.goto (-31), 3) := by decide +kernel
theorem dX7_saves_85 : decode cX7_saves 85 = .ok (.aload_n 0, 1) := by decide +kernel
theorem dX7_saves_86 : decode cX7_saves 86 = .ok (.dup, 1) := by decide +kernel
theorem dX7_saves_87 : decode cX7_saves 87 = .ok (.getfield 49, 3) := by decide +kernel
theorem dX7_saves_90 : decode cX7_saves 90 = .ok (.iconst 1, 1) := by decide +kernel
theorem dX7_saves_91 : decode cX7_saves 91 = .ok (.iadd, 1) := by decide +kernel
theorem dX7_saves_92 : decode cX7_saves 92 = .ok (.putfield 49, 3) := by decide +kernel
theorem dX7_saves_95 : decode cX7_saves 95 = .ok (.return_, 1) := by decide +kernel
theorem dX7_rounds_0 : decode cX7_rounds 0 = .ok (.aload_n 0, 1) := by decide +kernel
theorem dX7_rounds_1 : decode cX7_rounds 1 = .ok (.getfield 7, 3) := by decide +kernel
theorem dX7_rounds_4 : decode cX7_rounds 4 = .ok (.iconst 0, 1) := by decide +kernel
theorem dX7_rounds_5 : decode cX7_rounds 5 = .ok (.laload, 1) := by decide +kernel
theorem dX7_rounds_6 : decode cX7_rounds 6 = .ok (.l2i, 1) := by decide +kernel
theorem dX7_rounds_7 : decode cX7_rounds 7 = .ok (.ireturn, 1) := by decide +kernel
theorem dX7_worksOf_0 : decode cX7_worksOf 0 = .ok (.aload_n 0, 1) := by decide +kernel
theorem dX7_worksOf_1 : decode cX7_worksOf 1 = .ok (.getfield 7, 3) := by decide +kernel
theorem dX7_worksOf_4 : decode cX7_worksOf 4 = .ok (.iconst 5, 1) := by decide +kernel
theorem dX7_worksOf_5 : decode cX7_worksOf 5 = .ok (.iload_n 1, 1) := by decide +kernel
theorem dX7_worksOf_6 : decode cX7_worksOf 6 = .ok (.iadd, 1) := by decide +kernel
theorem dX7_worksOf_7 : decode cX7_worksOf 7 = .ok (.laload, 1) := by decide +kernel
theorem dX7_worksOf_8 : decode cX7_worksOf 8 = .ok (.l2i, 1) := by decide +kernel
theorem dX7_worksOf_9 : decode cX7_worksOf 9 = .ok (.ireturn, 1) := by decide +kernel
theorem dX7_kindOf_0 : decode cX7_kindOf 0 = .ok (.aload_n 0, 1) := by decide +kernel
theorem dX7_kindOf_1 : decode cX7_kindOf 1 = .ok (.getfield 7, 3) := by decide +kernel
theorem dX7_kindOf_4 : decode cX7_kindOf 4 = .ok (.bipush 45, 2) := by decide +kernel
theorem dX7_kindOf_6 : decode cX7_kindOf 6 = .ok (.iconst 4, 1) := by decide +kernel
theorem dX7_kindOf_7 : decode cX7_kindOf 7 = .ok (.iload_n 1, 1) := by decide +kernel
theorem dX7_kindOf_8 : decode cX7_kindOf 8 = .ok (.imul, 1) := by decide +kernel
theorem dX7_kindOf_9 : decode cX7_kindOf 9 = .ok (.iadd, 1) := by decide +kernel
theorem dX7_kindOf_10 : decode cX7_kindOf 10 = .ok (.iload_n 2, 1) := by decide +kernel
theorem dX7_kindOf_11 : decode cX7_kindOf 11 = .ok (.bipush 32, 2) := by decide +kernel
theorem dX7_kindOf_13 : decode cX7_kindOf 13 = .ok (.idiv, 1) := by decide +kernel
theorem dX7_kindOf_14 : decode cX7_kindOf 14 = .ok (.iadd, 1) := by decide +kernel
theorem dX7_kindOf_15 : decode cX7_kindOf 15 = .ok (.laload, 1) := by decide +kernel
theorem dX7_kindOf_16 : decode cX7_kindOf 16 = .ok (.iconst 2, 1) := by decide +kernel
theorem dX7_kindOf_17 : decode cX7_kindOf 17 = .ok (.iload_n 2, 1) := by decide +kernel
theorem dX7_kindOf_18 : decode cX7_kindOf 18 = .ok (.bipush 32, 2) := by decide +kernel
theorem dX7_kindOf_20 : decode cX7_kindOf 20 = .ok (.irem, 1) := by decide +kernel
theorem dX7_kindOf_21 : decode cX7_kindOf 21 = .ok (.imul, 1) := by decide +kernel
theorem dX7_kindOf_22 : decode cX7_kindOf 22 = .ok (.lshr, 1) := by decide +kernel
theorem dX7_kindOf_23 : decode cX7_kindOf 23 = .ok (.ldc2_w 52, 3) := by decide +kernel
theorem dX7_kindOf_26 : decode cX7_kindOf 26 = .ok (.land, 1) := by decide +kernel
theorem dX7_kindOf_27 : decode cX7_kindOf 27 = .ok (.l2i, 1) := by decide +kernel
theorem dX7_kindOf_28 : decode cX7_kindOf 28 = .ok (.ireturn, 1) := by decide +kernel
theorem dX7_laysFirst_0 : decode cX7_laysFirst 0 = .ok (.iconst 5, 1) := by decide +kernel
theorem dX7_laysFirst_1 : decode cX7_laysFirst 1 = .ok (.istore_n 2, 1) := by decide +kernel
theorem dX7_laysFirst_2 : decode cX7_laysFirst 2 = .ok (.iload_n 2, 1) := by decide +kernel
theorem dX7_laysFirst_3 : decode cX7_laysFirst 3 = .ok (.sipush 205, 3) := by decide +kernel
theorem dX7_laysFirst_6 : decode cX7_laysFirst 6 = .ok (.if_icmp .ge 16, 3) := by decide +kernel
theorem dX7_laysFirst_9 : decode cX7_laysFirst 9 = .ok (.aload_n 0, 1) := by decide +kernel
theorem dX7_laysFirst_10 : decode cX7_laysFirst 10 = .ok (.getfield 7, 3) := by decide +kernel
theorem dX7_laysFirst_13 : decode cX7_laysFirst 13 = .ok (.iload_n 2, 1) := by decide +kernel
theorem dX7_laysFirst_14 : decode cX7_laysFirst 14 = .ok (.lconst 0, 1) := by decide +kernel
theorem dX7_laysFirst_15 : decode cX7_laysFirst 15 = .ok (.lastore, 1) := by decide +kernel
theorem dX7_laysFirst_16 : decode cX7_laysFirst 16 = .ok (.iinc 2 1, 3) := by decide +kernel
theorem dX7_laysFirst_19 : decode cX7_laysFirst 19 = .ok (.goto (-17), 3) := by decide +kernel
theorem dX7_laysFirst_22 : decode cX7_laysFirst 22 = .ok (.aload_n 0, 1) := by decide +kernel
theorem dX7_laysFirst_23 : decode cX7_laysFirst 23 = .ok (.getfield 7, 3) := by decide +kernel
theorem dX7_laysFirst_26 : decode cX7_laysFirst 26 = .ok (.iconst 0, 1) := by decide +kernel
theorem dX7_laysFirst_27 : decode cX7_laysFirst 27 = .ok (.lconst 1, 1) := by decide +kernel
theorem dX7_laysFirst_28 : decode cX7_laysFirst 28 = .ok (.lastore, 1) := by decide +kernel
theorem dX7_laysFirst_29 : decode cX7_laysFirst 29 = .ok (.aload_n 0, 1) := by decide +kernel
theorem dX7_laysFirst_30 : decode cX7_laysFirst 30 = .ok (.getfield 7, 3) := by decide +kernel
theorem dX7_laysFirst_33 : decode cX7_laysFirst 33 = .ok (.iconst 5, 1) := by decide +kernel
theorem dX7_laysFirst_34 : decode cX7_laysFirst 34 = .ok (.iload_n 1, 1) := by decide +kernel
theorem dX7_laysFirst_35 : decode cX7_laysFirst 35 = .ok (.i2l, 1) := by decide +kernel
theorem dX7_laysFirst_36 : decode cX7_laysFirst 36 = .ok (.lastore, 1) := by decide +kernel
theorem dX7_laysFirst_37 : decode cX7_laysFirst 37 = .ok (.return_, 1) := by decide +kernel
set_option maxRecDepth 20000 in
theorem ggX7_totalOf_X7_worksOf : GoodIn wsX7_totalOf wsX7_worksOf := goodIn_r _ [5, 6, 12, 13, 14, 15, 16, 17, 18, 19, 20, 21, 22, 23, 24, 25, 26, 27] (by decide +kernel) (by decide +kernel)
set_option maxRecDepth 20000 in
theorem gX7_totalOf_X7_worksOf : GoodIn wsX7_totalOf (wsV RX7 54 RX7 yX7_worksOf wsX7_worksOf) := goodIn_app (goodIn_of _ (by decide +kernel)) ggX7_totalOf_X7_worksOf
set_option maxRecDepth 20000 in
theorem ggX7_totalOf_X7_kindOf : GoodIn wsX7_totalOf wsX7_kindOf := goodIn_r _ [10, 6, 11, 12, 13, 14, 15, 16, 17, 18, 19, 20, 21, 22, 23, 24, 25, 26, 27] (by decide +kernel) (by decide +kernel)
set_option maxRecDepth 20000 in
theorem gX7_totalOf_X7_kindOf : GoodIn wsX7_totalOf (wsV RX7 58 RX7 yX7_kindOf wsX7_kindOf) := goodIn_app (goodIn_of _ (by decide +kernel)) ggX7_totalOf_X7_kindOf
theorem dX7_totalOf_0 : decode cX7_totalOf 0 = .ok (.iconst 0, 1) := by decide +kernel
theorem dX7_totalOf_1 : decode cX7_totalOf 1 = .ok (.istore_n 2, 1) := by decide +kernel
theorem dX7_totalOf_2 : decode cX7_totalOf 2 = .ok (.iconst 0, 1) := by decide +kernel
theorem dX7_totalOf_3 : decode cX7_totalOf 3 = .ok (.istore_n 3, 1) := by decide +kernel
theorem dX7_totalOf_4 : decode cX7_totalOf 4 = .ok (.iload_n 3, 1) := by decide +kernel
theorem dX7_totalOf_5 : decode cX7_totalOf 5 = .ok (.aload_n 0, 1) := by decide +kernel
theorem dX7_totalOf_6 : decode cX7_totalOf 6 = .ok (.iload_n 1, 1) := by decide +kernel
theorem dX7_totalOf_7 : decode cX7_totalOf 7 = .ok (.invokevirtual 54, 3) := by decide +kernel
theorem dX7_totalOf_10 : decode cX7_totalOf 10 = .ok (.if_icmp .ge 27, 3) := by decide +kernel
theorem dX7_totalOf_13 : decode cX7_totalOf 13 = .ok (.iload_n 2, 1) := by decide +kernel
theorem dX7_totalOf_14 : decode cX7_totalOf 14 = .ok (.aload_n 0, 1) := by decide +kernel
theorem dX7_totalOf_15 : decode cX7_totalOf 15 = .ok (.iload_n 1, 1) := by decide +kernel
theorem dX7_totalOf_16 : decode cX7_totalOf 16 = .ok (.iload_n 3, 1) := by decide +kernel
theorem dX7_totalOf_17 : decode cX7_totalOf 17 = .ok (.invokevirtual 58, 3) := by decide +kernel
theorem dX7_totalOf_20 : decode cX7_totalOf 20 = .ok (.iconst 1, 1) := by decide +kernel
theorem dX7_totalOf_21 : decode cX7_totalOf 21 = .ok (.if_icmp .ne 7, 3) := by decide +kernel
theorem dX7_totalOf_24 : decode cX7_totalOf 24 = .ok (.iconst 2, 1) := by decide +kernel
theorem dX7_totalOf_25 : decode cX7_totalOf 25 = .ok (.goto 4, 3) := by decide +kernel
theorem dX7_totalOf_28 : decode cX7_totalOf 28 = .ok (.iconst 1, 1) := by decide +kernel
theorem dX7_totalOf_29 : decode cX7_totalOf 29 = .ok (.iadd, 1) := by decide +kernel
theorem dX7_totalOf_30 : decode cX7_totalOf 30 = .ok (.istore_n 2, 1) := by decide +kernel
theorem dX7_totalOf_31 : decode cX7_totalOf 31 = .ok (.iinc 3 1, 3) := by decide +kernel
theorem dX7_totalOf_34 : decode cX7_totalOf 34 = .ok (.goto (-30), 3) := by decide +kernel
theorem dX7_totalOf_37 : decode cX7_totalOf 37 = .ok (.iload_n 2, 1) := by decide +kernel
theorem dX7_totalOf_38 : decode cX7_totalOf 38 = .ok (.ireturn, 1) := by decide +kernel
set_option maxRecDepth 20000 in
theorem ggX7_last_X7_rounds : GoodIn wsX7_last wsX7_rounds := goodIn_r _ [5, 6, 20, 21, 22, 23, 24, 25, 26, 27, 28, 29, 30, 31, 32, 33, 34, 35] (by decide +kernel) (by decide +kernel)
set_option maxRecDepth 20000 in
theorem gX7_last_X7_rounds : GoodIn wsX7_last (wsV RX7 62 RX7 yX7_rounds wsX7_rounds) := goodIn_app (goodIn_of _ (by decide +kernel)) ggX7_last_X7_rounds
set_option maxRecDepth 20000 in
theorem ggX7_last_X7_totalOf : GoodIn wsX7_last wsX7_totalOf := goodIn_r _ [10, 11, 12, 13, 4, 14, 6, 15, 16, 17, 18, 19, 20, 21, 22, 23, 24, 25, 26, 27, 28, 29, 30, 31, 32, 33, 34, 35] (by decide +kernel) (by decide +kernel)
set_option maxRecDepth 20000 in
theorem gX7_last_X7_totalOf : GoodIn wsX7_last (wsV RX7 66 RX7 yX7_totalOf wsX7_totalOf) := goodIn_app (goodIn_of _ (by decide +kernel)) ggX7_last_X7_totalOf
theorem dX7_last_0 : decode cX7_last 0 = .ok (.aload_n 0, 1) := by decide +kernel
theorem dX7_last_1 : decode cX7_last 1 = .ok (.aload_n 0, 1) := by decide +kernel
theorem dX7_last_2 : decode cX7_last 2 = .ok (.invokevirtual 62, 3) := by decide +kernel
theorem dX7_last_5 : decode cX7_last 5 = .ok (.iconst 1, 1) := by decide +kernel
theorem dX7_last_6 : decode cX7_last 6 = .ok (.isub, 1) := by decide +kernel
theorem dX7_last_7 : decode cX7_last 7 = .ok (.invokevirtual 66, 3) := by decide +kernel
theorem dX7_last_10 : decode cX7_last 10 = .ok (.ireturn, 1) := by decide +kernel
set_option maxRecDepth 20000 in
theorem ggX7_laysMade_X7_worksOf : GoodIn wsX7_laysMade wsX7_worksOf := goodIn_r _ [6, 7, 13, 14, 15, 16, 17, 18, 19, 20, 21, 22, 23, 24, 25, 26, 27, 28] (by decide +kernel) (by decide +kernel)
set_option maxRecDepth 20000 in
theorem gX7_laysMade_X7_worksOf : GoodIn wsX7_laysMade (wsV RX7 54 RX7 yX7_worksOf wsX7_worksOf) := goodIn_app (goodIn_of _ (by decide +kernel)) ggX7_laysMade_X7_worksOf
set_option maxRecDepth 20000 in
theorem ggX7_laysMade_X7_kindOf : GoodIn wsX7_laysMade wsX7_kindOf := goodIn_r _ [11, 7, 12, 13, 14, 15, 16, 17, 18, 19, 20, 21, 22, 23, 24, 25, 26, 27, 28] (by decide +kernel) (by decide +kernel)
set_option maxRecDepth 20000 in
theorem gX7_laysMade_X7_kindOf : GoodIn wsX7_laysMade (wsV RX7 58 RX7 yX7_kindOf wsX7_kindOf) := goodIn_app (goodIn_of _ (by decide +kernel)) ggX7_laysMade_X7_kindOf
theorem dX7_laysMade_0 : decode cX7_laysMade 0 = .ok (.iconst 0, 1) := by decide +kernel
theorem dX7_laysMade_1 : decode cX7_laysMade 1 = .ok (.istore_n 2, 1) := by decide +kernel
theorem dX7_laysMade_2 : decode cX7_laysMade 2 = .ok (.iconst 0, 1) := by decide +kernel
theorem dX7_laysMade_3 : decode cX7_laysMade 3 = .ok (.istore_n 3, 1) := by decide +kernel
theorem dX7_laysMade_4 : decode cX7_laysMade 4 = .ok (.iload_n 3, 1) := by decide +kernel
theorem dX7_laysMade_5 : decode cX7_laysMade 5 = .ok (.aload_n 0, 1) := by decide +kernel
theorem dX7_laysMade_6 : decode cX7_laysMade 6 = .ok (.iload_n 1, 1) := by decide +kernel
theorem dX7_laysMade_7 : decode cX7_laysMade 7 = .ok (.invokevirtual 54, 3) := by decide +kernel
theorem dX7_laysMade_10 : decode cX7_laysMade 10 = .ok (.if_icmp .ge 52, 3) := by decide +kernel
theorem dX7_laysMade_13 : decode cX7_laysMade 13 = .ok (.aload_n 0, 1) := by decide +kernel
theorem dX7_laysMade_14 : decode cX7_laysMade 14 = .ok (.iload_n 1, 1) := by decide +kernel
theorem dX7_laysMade_15 : decode cX7_laysMade 15 = .ok (.iload_n 3, 1) := by decide +kernel
theorem dX7_laysMade_16 : decode cX7_laysMade 16 = .ok (.invokevirtual 58, 3) := by decide +kernel
theorem dX7_laysMade_19 : decode cX7_laysMade 19 = .ok (.istore 4, 2) := by decide +kernel
theorem dX7_laysMade_21 : decode cX7_laysMade 21 = .ok (.iload 4, 2) := by decide +kernel
theorem dX7_laysMade_23 : decode cX7_laysMade 23 = .ok (.iconst 1, 1) := by decide +kernel
theorem dX7_laysMade_24 : decode cX7_laysMade 24 = .ok (.if_icmp .ne 7, 3) := by decide +kernel
theorem dX7_laysMade_27 : decode cX7_laysMade 27 = .ok (.iconst 2, 1) := by decide +kernel
theorem dX7_laysMade_28 : decode cX7_laysMade 28 = .ok (.goto 4, 3) := by decide +kernel
theorem dX7_laysMade_31 : decode cX7_laysMade 31 = .ok (.iconst 1, 1) := by decide +kernel
theorem dX7_laysMade_32 : decode cX7_laysMade 32 = .ok (.istore 5, 2) := by decide +kernel
theorem dX7_laysMade_34 : decode cX7_laysMade 34 = .ok (.iload 5, 2) := by decide +kernel
theorem dX7_laysMade_36 : decode cX7_laysMade 36 = .ok (.ifCond .le 20, 3) := by decide +kernel
theorem dX7_laysMade_39 : decode cX7_laysMade 39 = .ok (.aload_n 0, 1) := by decide +kernel
theorem dX7_laysMade_40 : decode cX7_laysMade 40 = .ok (.getfield 23, 3) := by decide +kernel
theorem dX7_laysMade_43 : decode cX7_laysMade 43 = .ok (.iload_n 2, 1) := by decide +kernel
theorem dX7_laysMade_44 : decode cX7_laysMade 44 = .ok (.iload 4, 2) := by decide +kernel
theorem dX7_laysMade_46 : decode cX7_laysMade 46 = .ok (.iastore, 1) := by decide +kernel
theorem dX7_laysMade_47 : decode cX7_laysMade 47 = .ok (.iinc 2 1, 3) := by decide +kernel
theorem dX7_laysMade_50 : decode cX7_laysMade 50 = .ok (.iinc 5 (-1), 3) := by decide +kernel
theorem dX7_laysMade_53 : decode cX7_laysMade 53 = .ok (.goto (-19), 3) := by decide +kernel
theorem dX7_laysMade_56 : decode cX7_laysMade 56 = .ok (.iinc 3 1, 3) := by decide +kernel
theorem dX7_laysMade_59 : decode cX7_laysMade 59 = .ok (.goto (-55), 3) := by decide +kernel
theorem dX7_laysMade_62 : decode cX7_laysMade 62 = .ok (.return_, 1) := by decide +kernel
set_option maxRecDepth 20000 in
theorem ggX7_takesRow_X7_worksOf : GoodIn wsX7_takesRow wsX7_worksOf := goodIn_r _ [7, 8, 14, 15, 16, 17, 18, 19, 20, 21, 22, 23, 24, 25, 26, 27, 28, 29] (by decide +kernel) (by decide +kernel)
set_option maxRecDepth 20000 in
theorem gX7_takesRow_X7_worksOf : GoodIn wsX7_takesRow (wsV RX7 54 RX7 yX7_worksOf wsX7_worksOf) := goodIn_app (goodIn_of _ (by decide +kernel)) ggX7_takesRow_X7_worksOf
set_option maxRecDepth 20000 in
theorem ggX7_takesRow_X7_kindOf : GoodIn wsX7_takesRow wsX7_kindOf := goodIn_r _ [12, 8, 13, 14, 15, 16, 17, 18, 19, 20, 21, 22, 23, 24, 25, 26, 27, 28, 29] (by decide +kernel) (by decide +kernel)
set_option maxRecDepth 20000 in
theorem gX7_takesRow_X7_kindOf : GoodIn wsX7_takesRow (wsV RX7 58 RX7 yX7_kindOf wsX7_kindOf) := goodIn_app (goodIn_of _ (by decide +kernel)) ggX7_takesRow_X7_kindOf
theorem dX7_takesRow_0 : decode cX7_takesRow 0 = .ok (.aload_n 0, 1) := by decide +kernel
theorem dX7_takesRow_1 : decode cX7_takesRow 1 = .ok (.aload_n 0, 1) := by decide +kernel
theorem dX7_takesRow_2 : decode cX7_takesRow 2 = .ok (.iload_n 1, 1) := by decide +kernel
theorem dX7_takesRow_3 : decode cX7_takesRow 3 = .ok (.invokevirtual 54, 3) := by decide +kernel
theorem dX7_takesRow_6 : decode cX7_takesRow 6 = .ok (.putfield 69, 3) := by decide +kernel
theorem dX7_takesRow_9 : decode cX7_takesRow 9 = .ok (.iconst 0, 1) := by decide +kernel
theorem dX7_takesRow_10 : decode cX7_takesRow 10 = .ok (.istore_n 2, 1) := by decide +kernel
theorem dX7_takesRow_11 : decode cX7_takesRow 11 = .ok (.iload_n 2, 1) := by decide +kernel
theorem dX7_takesRow_12 : decode cX7_takesRow 12 = .ok (.aload_n 0, 1) := by decide +kernel
theorem dX7_takesRow_13 : decode cX7_takesRow 13 = .ok (.getfield 69, 3) := by decide +kernel
theorem dX7_takesRow_16 : decode cX7_takesRow 16 = .ok (.if_icmp .ge 21, 3) := by decide +kernel
theorem dX7_takesRow_19 : decode cX7_takesRow 19 = .ok (.aload_n 0, 1) := by decide +kernel
theorem dX7_takesRow_20 : decode cX7_takesRow 20 = .ok (.getfield 20, 3) := by decide +kernel
theorem dX7_takesRow_23 : decode cX7_takesRow 23 = .ok (.iload_n 2, 1) := by decide +kernel
theorem dX7_takesRow_24 : decode cX7_takesRow 24 = .ok (.aload_n 0, 1) := by decide +kernel
theorem dX7_takesRow_25 : decode cX7_takesRow 25 = .ok (.iload_n 1, 1) := by decide +kernel
theorem dX7_takesRow_26 : decode cX7_takesRow 26 = .ok (.iload_n 2, 1) := by decide +kernel
theorem dX7_takesRow_27 : decode cX7_takesRow 27 = .ok (.invokevirtual 58, 3) := by decide +kernel
theorem dX7_takesRow_30 : decode cX7_takesRow 30 = .ok (.iastore, 1) := by decide +kernel
theorem dX7_takesRow_31 : decode cX7_takesRow 31 = .ok (.iinc 2 1, 3) := by decide +kernel
theorem dX7_takesRow_34 : decode cX7_takesRow 34 = .ok (.goto (-23), 3) := by decide +kernel
theorem dX7_takesRow_37 : decode cX7_takesRow 37 = .ok (.return_, 1) := by decide +kernel
theorem dX7_stacked_0 : decode cX7_stacked 0 = .ok (.iconst 0, 1) := by decide +kernel
theorem dX7_stacked_1 : decode cX7_stacked 1 = .ok (.istore_n 1, 1) := by decide +kernel
theorem dX7_stacked_2 : decode cX7_stacked 2 = .ok (.iconst 0, 1) := by decide +kernel
theorem dX7_stacked_3 : decode cX7_stacked 3 = .ok (.istore_n 2, 1) := by decide +kernel
theorem dX7_stacked_4 : decode cX7_stacked 4 = .ok (.iconst 0, 1) := by decide +kernel
theorem dX7_stacked_5 : decode cX7_stacked 5 = .ok (.istore_n 3, 1) := by decide +kernel
theorem dX7_stacked_6 : decode cX7_stacked 6 = .ok (.iload_n 3, 1) := by decide +kernel
theorem dX7_stacked_7 : decode cX7_stacked 7 = .ok (.aload_n 0, 1) := by decide +kernel
theorem dX7_stacked_8 : decode cX7_stacked 8 = .ok (.getfield 69, 3) := by decide +kernel
theorem dX7_stacked_11 : decode cX7_stacked 11 = .ok (.if_icmp .ge 105, 3) := by decide +kernel
theorem dX7_stacked_14 : decode cX7_stacked 14 = .ok (.aload_n 0, 1) := by decide +kernel
theorem dX7_stacked_15 : decode cX7_stacked 15 = .ok (.getfield 23, 3) := by decide +kernel
theorem dX7_stacked_18 : decode cX7_stacked 18 = .ok (.iload_n 2, 1) := by decide +kernel
theorem dX7_stacked_19 : decode cX7_stacked 19 = .ok (.iaload, 1) := by decide +kernel
theorem dX7_stacked_20 : decode cX7_stacked 20 = .ok (.aload_n 0, 1) := by decide +kernel
theorem dX7_stacked_21 : decode cX7_stacked 21 = .ok (.getfield 20, 3) := by decide +kernel
theorem dX7_stacked_24 : decode cX7_stacked 24 = .ok (.iload_n 3, 1) := by decide +kernel
theorem dX7_stacked_25 : decode cX7_stacked 25 = .ok (.iaload, 1) := by decide +kernel
theorem dX7_stacked_26 : decode cX7_stacked 26 = .ok (.if_icmp .ne 7, 3) := by decide +kernel
theorem dX7_stacked_29 : decode cX7_stacked 29 = .ok (.iconst 1, 1) := by decide +kernel
theorem dX7_stacked_30 : decode cX7_stacked 30 = .ok (.goto 4, 3) := by decide +kernel
theorem dX7_stacked_33 : decode cX7_stacked 33 = .ok (.iconst 0, 1) := by decide +kernel
theorem dX7_stacked_34 : decode cX7_stacked 34 = .ok (.istore 4, 2) := by decide +kernel
theorem dX7_stacked_36 : decode cX7_stacked 36 = .ok (.aload_n 0, 1) := by decide +kernel
theorem dX7_stacked_37 : decode cX7_stacked 37 = .ok (.getfield 20, 3) := by decide +kernel
theorem dX7_stacked_40 : decode cX7_stacked 40 = .ok (.iload_n 3, 1) := by decide +kernel
theorem dX7_stacked_41 : decode cX7_stacked 41 = .ok (.iaload, 1) := by decide +kernel
theorem dX7_stacked_42 : decode cX7_stacked 42 = .ok (.iconst 2, 1) := by decide +kernel
theorem dX7_stacked_43 : decode cX7_stacked 43 = .ok (.if_icmp .ne 19, 3) := by decide +kernel
theorem dX7_stacked_46 : decode cX7_stacked 46 = .ok (.aload_n 0, 1) := by decide +kernel
theorem dX7_stacked_47 : decode cX7_stacked 47 = .ok (.getfield 23, 3) := by decide +kernel
theorem dX7_stacked_50 : decode cX7_stacked 50 = .ok (.iload_n 2, 1) := by decide +kernel
theorem dX7_stacked_51 : decode cX7_stacked 51 = .ok (.iconst 1, 1) := by decide +kernel
theorem dX7_stacked_52 : decode cX7_stacked 52 = .ok (.iadd, 1) := by decide +kernel
theorem dX7_stacked_53 : decode cX7_stacked 53 = .ok (.iaload, 1) := by decide +kernel
theorem dX7_stacked_54 : decode cX7_stacked 54 = .ok (.iconst 2, 1) := by decide +kernel
theorem dX7_stacked_55 : decode cX7_stacked 55 = .ok (.if_icmp .ne 7, 3) := by decide +kernel
theorem dX7_stacked_58 : decode cX7_stacked 58 = .ok (.iconst 1, 1) := by decide +kernel
theorem dX7_stacked_59 : decode cX7_stacked 59 = .ok (.goto 4, 3) := by decide +kernel
theorem dX7_stacked_62 : decode cX7_stacked 62 = .ok (.iconst 0, 1) := by decide +kernel
theorem dX7_stacked_63 : decode cX7_stacked 63 = .ok (.istore 5, 2) := by decide +kernel
theorem dX7_stacked_65 : decode cX7_stacked 65 = .ok (.iload_n 1, 1) := by decide +kernel
theorem dX7_stacked_66 : decode cX7_stacked 66 = .ok (.aload_n 0, 1) := by decide +kernel
theorem dX7_stacked_67 : decode cX7_stacked 67 = .ok (.getfield 20, 3) := by decide +kernel
theorem dX7_stacked_70 : decode cX7_stacked 70 = .ok (.iload_n 3, 1) := by decide +kernel
theorem dX7_stacked_71 : decode cX7_stacked 71 = .ok (.iaload, 1) := by decide +kernel
theorem dX7_stacked_72 : decode cX7_stacked 72 = .ok (.ifCond .eq 17, 3) := by decide +kernel
theorem dX7_stacked_75 : decode cX7_stacked 75 = .ok (.iload 4, 2) := by decide +kernel
theorem dX7_stacked_77 : decode cX7_stacked 77 = .ok (.ifCond .ne 8, 3) := by decide +kernel
theorem dX7_stacked_80 : decode cX7_stacked 80 = .ok (.iload 5, 2) := by decide +kernel
theorem dX7_stacked_82 : decode cX7_stacked 82 = .ok (.ifCond .eq 7, 3) := by decide +kernel
theorem dX7_stacked_85 : decode cX7_stacked 85 = .ok (.iconst 1, 1) := by decide +kernel
theorem dX7_stacked_86 : decode cX7_stacked 86 = .ok (.goto 4, 3) := by decide +kernel
theorem dX7_stacked_89 : decode cX7_stacked 89 = .ok (.iconst 0, 1) := by decide +kernel
theorem dX7_stacked_90 : decode cX7_stacked 90 = .ok (.iadd, 1) := by decide +kernel
theorem dX7_stacked_91 : decode cX7_stacked 91 = .ok (.istore_n 1, 1) := by decide +kernel
theorem dX7_stacked_92 : decode cX7_stacked 92 = .ok (.iload_n 2, 1) := by decide +kernel
theorem dX7_stacked_93 : decode cX7_stacked 93 = .ok (.aload_n 0, 1) := by decide +kernel
theorem dX7_stacked_94 : decode cX7_stacked 94 = .ok (.getfield 20, 3) := by decide +kernel
theorem dX7_stacked_97 : decode cX7_stacked 97 = .ok (.iload_n 3, 1) := by decide +kernel
theorem dX7_stacked_98 : decode cX7_stacked 98 = .ok (.iaload, 1) := by decide +kernel
theorem dX7_stacked_99 : decode cX7_stacked 99 = .ok (.iconst 2, 1) := by decide +kernel
theorem dX7_stacked_100 : decode cX7_stacked 100 = .ok (.if_icmp .ne 7, 3) := by decide +kernel
theorem dX7_stacked_103 : decode cX7_stacked 103 = .ok (.iconst 2, 1) := by decide +kernel
theorem dX7_stacked_104 : decode cX7_stacked 104 = .ok (.goto 4, 3) := by decide +kernel
theorem dX7_stacked_107 : decode cX7_stacked 107 = .ok (.iconst 1, 1) := by decide +kernel
theorem dX7_stacked_108 : decode cX7_stacked 108 = .ok (.iadd, 1) := by decide +kernel
theorem dX7_stacked_109 : decode cX7_stacked 109 = .ok (.istore_n 2, 1) := by decide +kernel
theorem dX7_stacked_110 : decode cX7_stacked 110 = .ok (.iinc 3 1, 3) := by decide +kernel
theorem dX7_stacked_113 : decode cX7_stacked 113 = .ok (.goto (-107), 3) := by decide +kernel
theorem dX7_stacked_116 : decode cX7_stacked 116 = .ok (.iload_n 1, 1) := by decide +kernel
theorem dX7_stacked_117 : decode cX7_stacked 117 = .ok (.ireturn, 1) := by decide +kernel
set_option maxRecDepth 20000 in
theorem ggX7_stackedOf_X7_laysMade : GoodIn wsX7_stackedOf wsX7_laysMade := goodIn_r _ [5, 6, 7, 8, 9, 4, 10, 11, 12, 13, 14, 15, 16, 27, 28, 29, 30, 31, 32, 33, 34, 35, 36, 37, 38, 39, 40, 41, 42] (by decide +kernel) (by decide +kernel)
set_option maxRecDepth 20000 in
theorem gX7_stackedOf_X7_laysMade : GoodIn wsX7_stackedOf (wsV RX7 72 RX7 yX7_laysMade wsX7_laysMade) := goodIn_app (goodIn_of _ (by decide +kernel)) ggX7_stackedOf_X7_laysMade
set_option maxRecDepth 20000 in
theorem ggX7_stackedOf_X7_takesRow : GoodIn wsX7_stackedOf wsX7_takesRow := goodIn_r _ [20, 21, 22, 7, 8, 9, 4, 10, 11, 12, 13, 14, 15, 16, 27, 28, 29, 30, 31, 32, 33, 34, 35, 36, 37, 38, 39, 40, 41, 42] (by decide +kernel) (by decide +kernel)
set_option maxRecDepth 20000 in
theorem gX7_stackedOf_X7_takesRow : GoodIn wsX7_stackedOf (wsV RX7 75 RX7 yX7_takesRow wsX7_takesRow) := goodIn_app (goodIn_of _ (by decide +kernel)) ggX7_stackedOf_X7_takesRow
set_option maxRecDepth 20000 in
theorem ggX7_stackedOf_X7_stacked : GoodIn wsX7_stackedOf wsX7_stacked := goodIn_r _ [26, 21, 6, 22, 27, 28, 29, 30, 31, 32, 33, 34, 35, 36, 37, 38, 39, 40, 41, 42] (by decide +kernel) (by decide +kernel)
set_option maxRecDepth 20000 in
theorem gX7_stackedOf_X7_stacked : GoodIn wsX7_stackedOf (wsV RX7 78 RX7 yX7_stacked wsX7_stacked) := goodIn_app (goodIn_of _ (by decide +kernel)) ggX7_stackedOf_X7_stacked
theorem dX7_stackedOf_0 : decode cX7_stackedOf 0 = .ok (.iload_n 1, 1) := by decide +kernel
theorem dX7_stackedOf_1 : decode cX7_stackedOf 1 = .ok (.ifCond .ne 5, 3) := by decide +kernel
theorem dX7_stackedOf_4 : decode cX7_stackedOf 4 = .ok (.iconst 0, 1) := by decide +kernel
theorem dX7_stackedOf_5 : decode cX7_stackedOf 5 = .ok (.ireturn, 1) := by decide +kernel
theorem dX7_stackedOf_6 : decode cX7_stackedOf 6 = .ok (.aload_n 0, 1) := by decide +kernel
theorem dX7_stackedOf_7 : decode cX7_stackedOf 7 = .ok (.iload_n 1, 1) := by decide +kernel
theorem dX7_stackedOf_8 : decode cX7_stackedOf 8 = .ok (.iconst 1, 1) := by decide +kernel
theorem dX7_stackedOf_9 : decode cX7_stackedOf 9 = .ok (.isub, 1) := by decide +kernel
theorem dX7_stackedOf_10 : decode cX7_stackedOf 10 = .ok (.invokevirtual 72, 3) := by decide +kernel
theorem dX7_stackedOf_13 : decode cX7_stackedOf 13 = .ok (.aload_n 0, 1) := by decide +kernel
theorem dX7_stackedOf_14 : decode cX7_stackedOf 14 = .ok (.iload_n 1, 1) := by decide +kernel
theorem dX7_stackedOf_15 : decode cX7_stackedOf 15 = .ok (.invokevirtual 75, 3) := by decide +kernel
theorem dX7_stackedOf_18 : decode cX7_stackedOf 18 = .ok (.aload_n 0, 1) := by decide +kernel
theorem dX7_stackedOf_19 : decode cX7_stackedOf 19 = .ok (.invokevirtual 78, 3) := by decide +kernel
theorem dX7_stackedOf_22 : decode cX7_stackedOf 22 = .ok (.ireturn, 1) := by decide +kernel
theorem dX7_isPossible_0 : decode cX7_isPossible 0 = .ok (.iload_n 0, 1) := by decide +kernel
theorem dX7_isPossible_1 : decode cX7_isPossible 1 = .ok (.iload_n 1, 1) := by decide +kernel
theorem dX7_isPossible_2 : decode cX7_isPossible 2 = .ok (.if_icmp .lt 18, 3) := by decide +kernel
theorem dX7_isPossible_5 : decode cX7_isPossible 5 = .ok (.iload_n 0, 1) := by decide +kernel
theorem dX7_isPossible_6 : decode cX7_isPossible 6 = .ok (.iload_n 1, 1) := by decide +kernel
theorem dX7_isPossible_7 : decode cX7_isPossible 7 = .ok (.isub, 1) := by decide +kernel
theorem dX7_isPossible_8 : decode cX7_isPossible 8 = .ok (.iload_n 1, 1) := by decide +kernel
theorem dX7_isPossible_9 : decode cX7_isPossible 9 = .ok (.if_icmp .gt 7, 3) := by decide +kernel
theorem dX7_isPossible_12 : decode cX7_isPossible 12 = .ok (.iconst 1, 1) := by decide +kernel
theorem dX7_isPossible_13 : decode cX7_isPossible 13 = .ok (.goto 21, 3) := by decide +kernel
theorem dX7_isPossible_16 : decode cX7_isPossible 16 = .ok (.iconst 0, 1) := by decide +kernel
theorem dX7_isPossible_17 : decode cX7_isPossible 17 = .ok (.goto 17, 3) := by decide +kernel
theorem dX7_isPossible_20 : decode cX7_isPossible 20 = .ok (.iconst 2, 1) := by decide +kernel
theorem dX7_isPossible_21 : decode cX7_isPossible 21 = .ok (.iload_n 1, 1) := by decide +kernel
theorem dX7_isPossible_22 : decode cX7_isPossible 22 = .ok (.iload_n 0, 1) := by decide +kernel
theorem dX7_isPossible_23 : decode cX7_isPossible 23 = .ok (.isub, 1) := by decide +kernel
theorem dX7_isPossible_24 : decode cX7_isPossible 24 = .ok (.imul, 1) := by decide +kernel
theorem dX7_isPossible_25 : decode cX7_isPossible 25 = .ok (.iload_n 1, 1) := by decide +kernel
theorem dX7_isPossible_26 : decode cX7_isPossible 26 = .ok (.if_icmp .gt 7, 3) := by decide +kernel
theorem dX7_isPossible_29 : decode cX7_isPossible 29 = .ok (.iconst 1, 1) := by decide +kernel
theorem dX7_isPossible_30 : decode cX7_isPossible 30 = .ok (.goto 4, 3) := by decide +kernel
theorem dX7_isPossible_33 : decode cX7_isPossible 33 = .ok (.iconst 0, 1) := by decide +kernel
theorem dX7_isPossible_34 : decode cX7_isPossible 34 = .ok (.ireturn, 1) := by decide +kernel
theorem dX7_isShaped_0 : decode cX7_isShaped 0 = .ok (.iload_n 0, 1) := by decide +kernel
theorem dX7_isShaped_1 : decode cX7_isShaped 1 = .ok (.iconst 1, 1) := by decide +kernel
theorem dX7_isShaped_2 : decode cX7_isShaped 2 = .ok (.iadd, 1) := by decide +kernel
theorem dX7_isShaped_3 : decode cX7_isShaped 3 = .ok (.iload_n 1, 1) := by decide +kernel
theorem dX7_isShaped_4 : decode cX7_isShaped 4 = .ok (.imul, 1) := by decide +kernel
theorem dX7_isShaped_5 : decode cX7_isShaped 5 = .ok (.iload_n 2, 1) := by decide +kernel
theorem dX7_isShaped_6 : decode cX7_isShaped 6 = .ok (.idiv, 1) := by decide +kernel
theorem dX7_isShaped_7 : decode cX7_isShaped 7 = .ok (.iload_n 0, 1) := by decide +kernel
theorem dX7_isShaped_8 : decode cX7_isShaped 8 = .ok (.iload_n 1, 1) := by decide +kernel
theorem dX7_isShaped_9 : decode cX7_isShaped 9 = .ok (.imul, 1) := by decide +kernel
theorem dX7_isShaped_10 : decode cX7_isShaped 10 = .ok (.iload_n 2, 1) := by decide +kernel
theorem dX7_isShaped_11 : decode cX7_isShaped 11 = .ok (.idiv, 1) := by decide +kernel
theorem dX7_isShaped_12 : decode cX7_isShaped 12 = .ok (.if_icmp .le 7, 3) := by decide +kernel
theorem dX7_isShaped_15 : decode cX7_isShaped 15 = .ok (.iconst 1, 1) := by decide +kernel
theorem dX7_isShaped_16 : decode cX7_isShaped 16 = .ok (.goto 4, 3) := by decide +kernel
theorem dX7_isShaped_19 : decode cX7_isShaped 19 = .ok (.iconst 0, 1) := by decide +kernel
theorem dX7_isShaped_20 : decode cX7_isShaped 20 = .ok (.ireturn, 1) := by decide +kernel
set_option maxRecDepth 20000 in
theorem ggX7_spreads_X7_isShaped : GoodIn wsX7_spreads wsX7_isShaped := goodIn_r _ [6] (by decide +kernel) (by decide +kernel)
set_option maxRecDepth 20000 in
theorem gX7_spreads_X7_isShaped : GoodIn wsX7_spreads (va_wsS RX7 81 yX7_isShaped wsX7_isShaped) := goodIn_app (goodIn_of _ (by decide +kernel)) ggX7_spreads_X7_isShaped
theorem dX7_spreads_0 : decode cX7_spreads 0 = .ok (.aload_n 0, 1) := by decide +kernel
theorem dX7_spreads_1 : decode cX7_spreads 1 = .ok (.iload_n 1, 1) := by decide +kernel
theorem dX7_spreads_2 : decode cX7_spreads 2 = .ok (.iload_n 2, 1) := by decide +kernel
theorem dX7_spreads_3 : decode cX7_spreads 3 = .ok (.if_icmp .lt 7, 3) := by decide +kernel
theorem dX7_spreads_6 : decode cX7_spreads 6 = .ok (.iload_n 2, 1) := by decide +kernel
theorem dX7_spreads_7 : decode cX7_spreads 7 = .ok (.goto 4, 3) := by decide +kernel
theorem dX7_spreads_10 : decode cX7_spreads 10 = .ok (.iload_n 1, 1) := by decide +kernel
theorem dX7_spreads_11 : decode cX7_spreads 11 = .ok (.putfield 69, 3) := by decide +kernel
theorem dX7_spreads_14 : decode cX7_spreads 14 = .ok (.iload_n 1, 1) := by decide +kernel
theorem dX7_spreads_15 : decode cX7_spreads 15 = .ok (.iload_n 2, 1) := by decide +kernel
theorem dX7_spreads_16 : decode cX7_spreads 16 = .ok (.if_icmp .lt 9, 3) := by decide +kernel
theorem dX7_spreads_19 : decode cX7_spreads 19 = .ok (.iload_n 1, 1) := by decide +kernel
theorem dX7_spreads_20 : decode cX7_spreads 20 = .ok (.iload_n 2, 1) := by decide +kernel
theorem dX7_spreads_21 : decode cX7_spreads 21 = .ok (.isub, 1) := by decide +kernel
theorem dX7_spreads_22 : decode cX7_spreads 22 = .ok (.goto 6, 3) := by decide +kernel
theorem dX7_spreads_25 : decode cX7_spreads 25 = .ok (.iload_n 2, 1) := by decide +kernel
theorem dX7_spreads_26 : decode cX7_spreads 26 = .ok (.iload_n 1, 1) := by decide +kernel
theorem dX7_spreads_27 : decode cX7_spreads 27 = .ok (.isub, 1) := by decide +kernel
theorem dX7_spreads_28 : decode cX7_spreads 28 = .ok (.istore 4, 2) := by decide +kernel
theorem dX7_spreads_30 : decode cX7_spreads 30 = .ok (.iconst 0, 1) := by decide +kernel
theorem dX7_spreads_31 : decode cX7_spreads 31 = .ok (.istore 5, 2) := by decide +kernel
theorem dX7_spreads_33 : decode cX7_spreads 33 = .ok (.iload 5, 2) := by decide +kernel
theorem dX7_spreads_35 : decode cX7_spreads 35 = .ok (.aload_n 0, 1) := by decide +kernel
theorem dX7_spreads_36 : decode cX7_spreads 36 = .ok (.getfield 69, 3) := by decide +kernel
theorem dX7_spreads_39 : decode cX7_spreads 39 = .ok (.if_icmp .ge 51, 3) := by decide +kernel
theorem dX7_spreads_42 : decode cX7_spreads 42 = .ok (.aload_n 0, 1) := by decide +kernel
theorem dX7_spreads_43 : decode cX7_spreads 43 = .ok (.getfield 20, 3) := by decide +kernel
theorem dX7_spreads_46 : decode cX7_spreads 46 = .ok (.iload 5, 2) := by decide +kernel
theorem dX7_spreads_48 : decode cX7_spreads 48 = .ok (.iload 5, 2) := by decide +kernel
theorem dX7_spreads_50 : decode cX7_spreads 50 = .ok (.iload_n 3, 1) := by decide +kernel
theorem dX7_spreads_51 : decode cX7_spreads 51 = .ok (.iadd, 1) := by decide +kernel
theorem dX7_spreads_52 : decode cX7_spreads 52 = .ok (.aload_n 0, 1) := by decide +kernel
theorem dX7_spreads_53 : decode cX7_spreads 53 = .ok (.getfield 69, 3) := by decide +kernel
theorem dX7_spreads_56 : decode cX7_spreads 56 = .ok (.irem, 1) := by decide +kernel
theorem dX7_spreads_57 : decode cX7_spreads 57 = .ok (.iload 4, 2) := by decide +kernel
theorem dX7_spreads_59 : decode cX7_spreads 59 = .ok (.aload_n 0, 1) := by decide +kernel
theorem dX7_spreads_60 : decode cX7_spreads 60 = .ok (.getfield 69, 3) := by decide +kernel
theorem dX7_spreads_63 : decode cX7_spreads 63 = .ok (.invokestatic 81, 3) := by decide +kernel
theorem dX7_spreads_66 : decode cX7_spreads 66 = .ok (.ifCond .ne 7, 3) := by decide +kernel
theorem dX7_spreads_69 : decode cX7_spreads 69 = .ok (.iconst 0, 1) := by decide +kernel
theorem dX7_spreads_70 : decode cX7_spreads 70 = .ok (.goto 13, 3) := by decide +kernel
theorem dX7_spreads_73 : decode cX7_spreads 73 = .ok (.iload_n 1, 1) := by decide +kernel
theorem dX7_spreads_74 : decode cX7_spreads 74 = .ok (.iload_n 2, 1) := by decide +kernel
theorem dX7_spreads_75 : decode cX7_spreads 75 = .ok (.if_icmp .lt 7, 3) := by decide +kernel
theorem dX7_spreads_78 : decode cX7_spreads 78 = .ok (.iconst 1, 1) := by decide +kernel
theorem dX7_spreads_79 : decode cX7_spreads 79 = .ok (.goto 4, 3) := by decide +kernel
theorem dX7_spreads_82 : decode cX7_spreads 82 = .ok (.iconst 2, 1) := by decide +kernel
theorem dX7_spreads_83 : decode cX7_spreads 83 = .ok (.iastore, 1) := by decide +kernel
theorem dX7_spreads_84 : decode cX7_spreads 84 = .ok (.iinc 5 1, 3) := by decide +kernel
theorem dX7_spreads_87 : decode cX7_spreads 87 = .ok (.goto (-54), 3) := by decide +kernel
theorem dX7_spreads_90 : decode cX7_spreads 90 = .ok (.return_, 1) := by decide +kernel
set_option maxRecDepth 20000 in
theorem ggX7_mirrors_X7_isShaped : GoodIn wsX7_mirrors wsX7_isShaped := goodIn_r _ [6] (by decide +kernel) (by decide +kernel)
set_option maxRecDepth 20000 in
theorem gX7_mirrors_X7_isShaped : GoodIn wsX7_mirrors (va_wsS RX7 81 yX7_isShaped wsX7_isShaped) := goodIn_app (goodIn_of _ (by decide +kernel)) ggX7_mirrors_X7_isShaped
theorem dX7_mirrors_0 : decode cX7_mirrors 0 = .ok (.aload_n 0, 1) := by decide +kernel
theorem dX7_mirrors_1 : decode cX7_mirrors 1 = .ok (.iload_n 1, 1) := by decide +kernel
theorem dX7_mirrors_2 : decode cX7_mirrors 2 = .ok (.iload_n 2, 1) := by decide +kernel
theorem dX7_mirrors_3 : decode cX7_mirrors 3 = .ok (.if_icmp .lt 7, 3) := by decide +kernel
theorem dX7_mirrors_6 : decode cX7_mirrors 6 = .ok (.iload_n 2, 1) := by decide +kernel
theorem dX7_mirrors_7 : decode cX7_mirrors 7 = .ok (.goto 4, 3) := by decide +kernel
theorem dX7_mirrors_10 : decode cX7_mirrors 10 = .ok (.iload_n 1, 1) := by decide +kernel
theorem dX7_mirrors_11 : decode cX7_mirrors 11 = .ok (.putfield 69, 3) := by decide +kernel
theorem dX7_mirrors_14 : decode cX7_mirrors 14 = .ok (.iload_n 1, 1) := by decide +kernel
theorem dX7_mirrors_15 : decode cX7_mirrors 15 = .ok (.iload_n 2, 1) := by decide +kernel
theorem dX7_mirrors_16 : decode cX7_mirrors 16 = .ok (.if_icmp .lt 9, 3) := by decide +kernel
theorem dX7_mirrors_19 : decode cX7_mirrors 19 = .ok (.iload_n 1, 1) := by decide +kernel
theorem dX7_mirrors_20 : decode cX7_mirrors 20 = .ok (.iload_n 2, 1) := by decide +kernel
theorem dX7_mirrors_21 : decode cX7_mirrors 21 = .ok (.isub, 1) := by decide +kernel
theorem dX7_mirrors_22 : decode cX7_mirrors 22 = .ok (.goto 6, 3) := by decide +kernel
theorem dX7_mirrors_25 : decode cX7_mirrors 25 = .ok (.iload_n 2, 1) := by decide +kernel
theorem dX7_mirrors_26 : decode cX7_mirrors 26 = .ok (.iload_n 1, 1) := by decide +kernel
theorem dX7_mirrors_27 : decode cX7_mirrors 27 = .ok (.isub, 1) := by decide +kernel
theorem dX7_mirrors_28 : decode cX7_mirrors 28 = .ok (.istore_n 3, 1) := by decide +kernel
theorem dX7_mirrors_29 : decode cX7_mirrors 29 = .ok (.aload_n 0, 1) := by decide +kernel
theorem dX7_mirrors_30 : decode cX7_mirrors 30 = .ok (.getfield 69, 3) := by decide +kernel
theorem dX7_mirrors_33 : decode cX7_mirrors 33 = .ok (.iconst 2, 1) := by decide +kernel
theorem dX7_mirrors_34 : decode cX7_mirrors 34 = .ok (.idiv, 1) := by decide +kernel
theorem dX7_mirrors_35 : decode cX7_mirrors 35 = .ok (.istore 4, 2) := by decide +kernel
theorem dX7_mirrors_37 : decode cX7_mirrors 37 = .ok (.iconst 0, 1) := by decide +kernel
theorem dX7_mirrors_38 : decode cX7_mirrors 38 = .ok (.istore 5, 2) := by decide +kernel
theorem dX7_mirrors_40 : decode cX7_mirrors 40 = .ok (.iload 5, 2) := by decide +kernel
theorem dX7_mirrors_42 : decode cX7_mirrors 42 = .ok (.aload_n 0, 1) := by decide +kernel
theorem dX7_mirrors_43 : decode cX7_mirrors 43 = .ok (.getfield 69, 3) := by decide +kernel
theorem dX7_mirrors_46 : decode cX7_mirrors 46 = .ok (.if_icmp .ge 92, 3) := by decide +kernel
theorem dX7_mirrors_49 : decode cX7_mirrors 49 = .ok (.iload 5, 2) := by decide +kernel
theorem dX7_mirrors_51 : decode cX7_mirrors 51 = .ok (.iload 4, 2) := by decide +kernel
theorem dX7_mirrors_53 : decode cX7_mirrors 53 = .ok (.if_icmp .ge 8, 3) := by decide +kernel
theorem dX7_mirrors_56 : decode cX7_mirrors 56 = .ok (.iload 5, 2) := by decide +kernel
theorem dX7_mirrors_58 : decode cX7_mirrors 58 = .ok (.goto 12, 3) := by decide +kernel
theorem dX7_mirrors_61 : decode cX7_mirrors 61 = .ok (.aload_n 0, 1) := by decide +kernel
theorem dX7_mirrors_62 : decode cX7_mirrors 62 = .ok (.getfield 69, 3) := by decide +kernel
theorem dX7_mirrors_65 : decode cX7_mirrors 65 = .ok (.iconst 1, 1) := by decide +kernel
theorem dX7_mirrors_66 : decode cX7_mirrors 66 = .ok (.isub, 1) := by decide +kernel
theorem dX7_mirrors_67 : decode cX7_mirrors 67 = .ok (.iload 5, 2) := by decide +kernel
theorem dX7_mirrors_69 : decode cX7_mirrors 69 = .ok (.isub, 1) := by decide +kernel
theorem dX7_mirrors_70 : decode cX7_mirrors 70 = .ok (.istore 6, 2) := by decide +kernel
theorem dX7_mirrors_72 : decode cX7_mirrors 72 = .ok (.iload 6, 2) := by decide +kernel
theorem dX7_mirrors_74 : decode cX7_mirrors 74 = .ok (.iload 4, 2) := by decide +kernel
theorem dX7_mirrors_76 : decode cX7_mirrors 76 = .ok (.if_icmp .ge 16, 3) := by decide +kernel
theorem dX7_mirrors_79 : decode cX7_mirrors 79 = .ok (.iload 6, 2) := by decide +kernel
theorem dX7_mirrors_81 : decode cX7_mirrors 81 = .ok (.iload_n 3, 1) := by decide +kernel
theorem dX7_mirrors_82 : decode cX7_mirrors 82 = .ok (.iconst 2, 1) := by decide +kernel
theorem dX7_mirrors_83 : decode cX7_mirrors 83 = .ok (.idiv, 1) := by decide +kernel
theorem dX7_mirrors_84 : decode cX7_mirrors 84 = .ok (.iload 4, 2) := by decide +kernel
theorem dX7_mirrors_86 : decode cX7_mirrors 86 = .ok (.invokestatic 81, 3) := by decide +kernel
theorem dX7_mirrors_89 : decode cX7_mirrors 89 = .ok (.goto 15, 3) := by decide +kernel
theorem dX7_mirrors_92 : decode cX7_mirrors 92 = .ok (.iload_n 3, 1) := by decide +kernel
theorem dX7_mirrors_93 : decode cX7_mirrors 93 = .ok (.iconst 2, 1) := by decide +kernel
theorem dX7_mirrors_94 : decode cX7_mirrors 94 = .ok (.irem, 1) := by decide +kernel
theorem dX7_mirrors_95 : decode cX7_mirrors 95 = .ok (.iconst 1, 1) := by decide +kernel
theorem dX7_mirrors_96 : decode cX7_mirrors 96 = .ok (.if_icmp .ne 7, 3) := by decide +kernel
theorem dX7_mirrors_99 : decode cX7_mirrors 99 = .ok (.iconst 1, 1) := by decide +kernel
theorem dX7_mirrors_100 : decode cX7_mirrors 100 = .ok (.goto 4, 3) := by decide +kernel
theorem dX7_mirrors_103 : decode cX7_mirrors 103 = .ok (.iconst 0, 1) := by decide +kernel
theorem dX7_mirrors_104 : decode cX7_mirrors 104 = .ok (.istore 7, 2) := by decide +kernel
theorem dX7_mirrors_106 : decode cX7_mirrors 106 = .ok (.aload_n 0, 1) := by decide +kernel
theorem dX7_mirrors_107 : decode cX7_mirrors 107 = .ok (.getfield 20, 3) := by decide +kernel
theorem dX7_mirrors_110 : decode cX7_mirrors 110 = .ok (.iload 5, 2) := by decide +kernel
theorem dX7_mirrors_112 : decode cX7_mirrors 112 = .ok (.iload 7, 2) := by decide +kernel
theorem dX7_mirrors_114 : decode cX7_mirrors 114 = .ok (.ifCond .ne 7, 3) := by decide +kernel
theorem dX7_mirrors_117 : decode cX7_mirrors 117 = .ok (.iconst 0, 1) := by decide +kernel
theorem dX7_mirrors_118 : decode cX7_mirrors 118 = .ok (.goto 13, 3) := by decide +kernel
theorem dX7_mirrors_121 : decode cX7_mirrors 121 = .ok (.iload_n 1, 1) := by decide +kernel
theorem dX7_mirrors_122 : decode cX7_mirrors 122 = .ok (.iload_n 2, 1) := by decide +kernel
theorem dX7_mirrors_123 : decode cX7_mirrors 123 = .ok (.if_icmp .lt 7, 3) := by decide +kernel
theorem dX7_mirrors_126 : decode cX7_mirrors 126 = .ok (.iconst 1, 1) := by decide +kernel
theorem dX7_mirrors_127 : decode cX7_mirrors 127 = .ok (.goto 4, 3) := by decide +kernel
theorem dX7_mirrors_130 : decode cX7_mirrors 130 = .ok (.iconst 2, 1) := by decide +kernel
theorem dX7_mirrors_131 : decode cX7_mirrors 131 = .ok (.iastore, 1) := by decide +kernel
theorem dX7_mirrors_132 : decode cX7_mirrors 132 = .ok (.iinc 5 1, 3) := by decide +kernel
theorem dX7_mirrors_135 : decode cX7_mirrors 135 = .ok (.goto (-95), 3) := by decide +kernel
theorem dX7_mirrors_138 : decode cX7_mirrors 138 = .ok (.return_, 1) := by decide +kernel
set_option maxRecDepth 20000 in
theorem ggX7_bestShift_X7_last : GoodIn wsX7_bestShift wsX7_last := goodIn_r _ [5, 6, 7, 8, 4, 9, 10, 11, 12, 13, 14, 15, 16, 17, 18, 19, 20, 21, 22, 23, 42, 43, 44, 45, 46, 47, 48, 49, 50, 51, 52, 53, 54, 55, 56, 57] (by decide +kernel) (by decide +kernel)
set_option maxRecDepth 20000 in
theorem gX7_bestShift_X7_last : GoodIn wsX7_bestShift (wsV RX7 85 RX7 yX7_last wsX7_last) := goodIn_app (goodIn_of _ (by decide +kernel)) ggX7_bestShift_X7_last
set_option maxRecDepth 20000 in
theorem ggX7_bestShift_X7_rounds : GoodIn wsX7_bestShift wsX7_rounds := goodIn_r _ [9, 10, 42, 43, 44, 45, 46, 47, 48, 49, 50, 51, 52, 53, 54, 55, 56, 57] (by decide +kernel) (by decide +kernel)
set_option maxRecDepth 20000 in
theorem gX7_bestShift_X7_rounds : GoodIn wsX7_bestShift (wsV RX7 62 RX7 yX7_rounds wsX7_rounds) := goodIn_app (goodIn_of _ (by decide +kernel)) ggX7_bestShift_X7_rounds
set_option maxRecDepth 20000 in
theorem ggX7_bestShift_X7_laysMade : GoodIn wsX7_bestShift wsX7_laysMade := goodIn_r _ [27, 28, 15, 16, 17, 4, 18, 10, 19, 20, 21, 22, 23, 42, 43, 44, 45, 46, 47, 48, 49, 50, 51, 52, 53, 54, 55, 56, 57] (by decide +kernel) (by decide +kernel)
set_option maxRecDepth 20000 in
theorem gX7_bestShift_X7_laysMade : GoodIn wsX7_bestShift (wsV RX7 72 RX7 yX7_laysMade wsX7_laysMade) := goodIn_app (goodIn_of _ (by decide +kernel)) ggX7_bestShift_X7_laysMade
set_option maxRecDepth 20000 in
theorem ggX7_bestShift_X7_spreads : GoodIn wsX7_bestShift wsX7_spreads := goodIn_r _ [32, 33, 34, 35, 36, 4, 37, 42, 43, 44, 45, 46, 47, 48, 49, 50, 51, 52, 53, 54, 55, 56, 57] (by decide +kernel) (by decide +kernel)
set_option maxRecDepth 20000 in
theorem gX7_bestShift_X7_spreads : GoodIn wsX7_bestShift (wsV RX7 88 RX7 yX7_spreads wsX7_spreads) := goodIn_app (goodIn_of _ (by decide +kernel)) ggX7_bestShift_X7_spreads
set_option maxRecDepth 20000 in
theorem ggX7_bestShift_X7_stacked : GoodIn wsX7_bestShift wsX7_stacked := goodIn_r _ [41, 33, 28, 34, 42, 43, 44, 45, 46, 47, 48, 49, 50, 51, 52, 53, 54, 55, 56, 57] (by decide +kernel) (by decide +kernel)
set_option maxRecDepth 20000 in
theorem gX7_bestShift_X7_stacked : GoodIn wsX7_bestShift (wsV RX7 78 RX7 yX7_stacked wsX7_stacked) := goodIn_app (goodIn_of _ (by decide +kernel)) ggX7_bestShift_X7_stacked
theorem dX7_bestShift_0 : decode cX7_bestShift 0 = .ok (.aload_n 0, 1) := by decide +kernel
theorem dX7_bestShift_1 : decode cX7_bestShift 1 = .ok (.invokevirtual 85, 3) := by decide +kernel
theorem dX7_bestShift_4 : decode cX7_bestShift 4 = .ok (.istore_n 2, 1) := by decide +kernel
theorem dX7_bestShift_5 : decode cX7_bestShift 5 = .ok (.aload_n 0, 1) := by decide +kernel
theorem dX7_bestShift_6 : decode cX7_bestShift 6 = .ok (.aload_n 0, 1) := by decide +kernel
theorem dX7_bestShift_7 : decode cX7_bestShift 7 = .ok (.invokevirtual 62, 3) := by decide +kernel
theorem dX7_bestShift_10 : decode cX7_bestShift 10 = .ok (.iconst 1, 1) := by decide +kernel
theorem dX7_bestShift_11 : decode cX7_bestShift 11 = .ok (.isub, 1) := by decide +kernel
theorem dX7_bestShift_12 : decode cX7_bestShift 12 = .ok (.invokevirtual 72, 3) := by decide +kernel
theorem dX7_bestShift_15 : decode cX7_bestShift 15 = .ok (.iload_n 1, 1) := by decide +kernel
theorem dX7_bestShift_16 : decode cX7_bestShift 16 = .ok (.iload_n 2, 1) := by decide +kernel
theorem dX7_bestShift_17 : decode cX7_bestShift 17 = .ok (.if_icmp .lt 7, 3) := by decide +kernel
theorem dX7_bestShift_20 : decode cX7_bestShift 20 = .ok (.iload_n 2, 1) := by decide +kernel
theorem dX7_bestShift_21 : decode cX7_bestShift 21 = .ok (.goto 4, 3) := by decide +kernel
theorem dX7_bestShift_24 : decode cX7_bestShift 24 = .ok (.iload_n 1, 1) := by decide +kernel
theorem dX7_bestShift_25 : decode cX7_bestShift 25 = .ok (.istore_n 3, 1) := by decide +kernel
theorem dX7_bestShift_26 : decode cX7_bestShift 26 = .ok (.iconst 0, 1) := by decide +kernel
theorem dX7_bestShift_27 : decode cX7_bestShift 27 = .ok (.istore 4, 2) := by decide +kernel
theorem dX7_bestShift_29 : decode cX7_bestShift 29 = .ok (.bipush 121, 2) := by decide +kernel
theorem dX7_bestShift_31 : decode cX7_bestShift 31 = .ok (.istore 5, 2) := by decide +kernel
theorem dX7_bestShift_33 : decode cX7_bestShift 33 = .ok (.iconst 0, 1) := by decide +kernel
theorem dX7_bestShift_34 : decode cX7_bestShift 34 = .ok (.istore 6, 2) := by decide +kernel
theorem dX7_bestShift_36 : decode cX7_bestShift 36 = .ok (.iload 6, 2) := by decide +kernel
theorem dX7_bestShift_38 : decode cX7_bestShift 38 = .ok (.iload_n 3, 1) := by decide +kernel
theorem dX7_bestShift_39 : decode cX7_bestShift 39 = .ok (.if_icmp .ge 60, 3) := by decide +kernel
theorem dX7_bestShift_42 : decode cX7_bestShift 42 = .ok (.iload 5, 2) := by decide +kernel
theorem dX7_bestShift_44 : decode cX7_bestShift 44 = .ok (.ifCond .le 55, 3) := by decide +kernel
theorem dX7_bestShift_47 : decode cX7_bestShift 47 = .ok (.aload_n 0, 1) := by decide +kernel
theorem dX7_bestShift_48 : decode cX7_bestShift 48 = .ok (.iload_n 1, 1) := by decide +kernel
theorem dX7_bestShift_49 : decode cX7_bestShift 49 = .ok (.iload_n 2, 1) := by decide +kernel
theorem dX7_bestShift_50 : decode cX7_bestShift 50 = .ok (.iload 6, 2) := by decide +kernel
theorem dX7_bestShift_52 : decode cX7_bestShift 52 = .ok (.invokevirtual 88, 3) := by decide +kernel
theorem dX7_bestShift_55 : decode cX7_bestShift 55 = .ok (.aload_n 0, 1) := by decide +kernel
theorem dX7_bestShift_56 : decode cX7_bestShift 56 = .ok (.invokevirtual 78, 3) := by decide +kernel
theorem dX7_bestShift_59 : decode cX7_bestShift 59 = .ok (.istore 7, 2) := by decide +kernel
theorem dX7_bestShift_61 : decode cX7_bestShift 61 = .ok (.iload 7, 2) := by decide +kernel
theorem dX7_bestShift_63 : decode cX7_bestShift 63 = .ok (.iload 5, 2) := by decide +kernel
theorem dX7_bestShift_65 : decode cX7_bestShift 65 = .ok (.if_icmp .ge 8, 3) := by decide +kernel
theorem dX7_bestShift_68 : decode cX7_bestShift 68 = .ok (.iload 6, 2) := by decide +kernel
theorem dX7_bestShift_70 : decode cX7_bestShift 70 = .ok (.goto 5, 3) := by decide +kernel
theorem dX7_bestShift_73 : decode cX7_bestShift 73 = .ok (.iload 4, 2) := by decide +kernel
theorem dX7_bestShift_75 : decode cX7_bestShift 75 = .ok (.istore 4, 2) := by decide +kernel
theorem dX7_bestShift_77 : decode cX7_bestShift 77 = .ok (.iload 7, 2) := by decide +kernel
theorem dX7_bestShift_79 : decode cX7_bestShift 79 = .ok (.iload 5, 2) := by decide +kernel
theorem dX7_bestShift_81 : decode cX7_bestShift 81 = .ok (.if_icmp .ge 8, 3) := by decide +kernel
theorem dX7_bestShift_84 : decode cX7_bestShift 84 = .ok (.iload 7, 2) := by decide +kernel
theorem dX7_bestShift_86 : decode cX7_bestShift 86 = .ok (.goto 5, 3) := by decide +kernel
theorem dX7_bestShift_89 : decode cX7_bestShift 89 = .ok (.iload 5, 2) := by decide +kernel
theorem dX7_bestShift_91 : decode cX7_bestShift 91 = .ok (.istore 5, 2) := by decide +kernel
theorem dX7_bestShift_93 : decode cX7_bestShift 93 = .ok (.iinc 6 1, 3) := by decide +kernel
theorem dX7_bestShift_96 : decode cX7_bestShift 96 = .ok (.goto (-60), 3) := by decide +kernel
theorem dX7_bestShift_99 : decode cX7_bestShift 99 = .ok (.iload 4, 2) := by decide +kernel
theorem dX7_bestShift_101 : decode cX7_bestShift 101 = .ok (.ireturn, 1) := by decide +kernel
set_option maxRecDepth 20000 in
theorem ggX7_adds_X7_rounds : GoodIn wsX7_adds wsX7_rounds := goodIn_r _ [8, 1, 9, 10, 11, 12, 13, 14, 15, 16, 17, 18, 19, 20, 21, 22, 23, 24] (by decide +kernel) (by decide +kernel)
set_option maxRecDepth 20000 in
theorem gX7_adds_X7_rounds : GoodIn wsX7_adds (wsV RX7 62 RX7 yX7_rounds wsX7_rounds) := goodIn_app (goodIn_of _ (by decide +kernel)) ggX7_adds_X7_rounds
theorem dX7_adds_0 : decode cX7_adds 0 = .ok (.aload_n 0, 1) := by decide +kernel
theorem dX7_adds_1 : decode cX7_adds 1 = .ok (.invokevirtual 62, 3) := by decide +kernel
theorem dX7_adds_4 : decode cX7_adds 4 = .ok (.istore_n 1, 1) := by decide +kernel
theorem dX7_adds_5 : decode cX7_adds 5 = .ok (.iconst 0, 1) := by decide +kernel
theorem dX7_adds_6 : decode cX7_adds 6 = .ok (.istore_n 2, 1) := by decide +kernel
theorem dX7_adds_7 : decode cX7_adds 7 = .ok (.iload_n 2, 1) := by decide +kernel
theorem dX7_adds_8 : decode cX7_adds 8 = .ok (.iconst 4, 1) := by decide +kernel
theorem dX7_adds_9 : decode cX7_adds 9 = .ok (.if_icmp .ge 23, 3) := by decide +kernel
theorem dX7_adds_12 : decode cX7_adds 12 = .ok (.aload_n 0, 1) := by decide +kernel
theorem dX7_adds_13 : decode cX7_adds 13 = .ok (.getfield 7, 3) := by decide +kernel
theorem dX7_adds_16 : decode cX7_adds 16 = .ok (.bipush 45, 2) := by decide +kernel
theorem dX7_adds_18 : decode cX7_adds 18 = .ok (.iconst 4, 1) := by decide +kernel
theorem dX7_adds_19 : decode cX7_adds 19 = .ok (.iload_n 1, 1) := by decide +kernel
theorem dX7_adds_20 : decode cX7_adds 20 = .ok (.imul, 1) := by decide +kernel
theorem dX7_adds_21 : decode cX7_adds 21 = .ok (.iadd, 1) := by decide +kernel
theorem dX7_adds_22 : decode cX7_adds 22 = .ok (.iload_n 2, 1) := by decide +kernel
theorem dX7_adds_23 : decode cX7_adds 23 = .ok (.iadd, 1) := by decide +kernel
theorem dX7_adds_24 : decode cX7_adds 24 = .ok (.lconst 0, 1) := by decide +kernel
theorem dX7_adds_25 : decode cX7_adds 25 = .ok (.lastore, 1) := by decide +kernel
theorem dX7_adds_26 : decode cX7_adds 26 = .ok (.iinc 2 1, 3) := by decide +kernel
theorem dX7_adds_29 : decode cX7_adds 29 = .ok (.goto (-22), 3) := by decide +kernel
theorem dX7_adds_32 : decode cX7_adds 32 = .ok (.iconst 0, 1) := by decide +kernel
theorem dX7_adds_33 : decode cX7_adds 33 = .ok (.istore_n 2, 1) := by decide +kernel
theorem dX7_adds_34 : decode cX7_adds 34 = .ok (.iload_n 2, 1) := by decide +kernel
theorem dX7_adds_35 : decode cX7_adds 35 = .ok (.aload_n 0, 1) := by decide +kernel
theorem dX7_adds_36 : decode cX7_adds 36 = .ok (.getfield 69, 3) := by decide +kernel
theorem dX7_adds_39 : decode cX7_adds 39 = .ok (.if_icmp .ge 42, 3) := by decide +kernel
theorem dX7_adds_42 : decode cX7_adds 42 = .ok (.aload_n 0, 1) := by decide +kernel
theorem dX7_adds_43 : decode cX7_adds 43 = .ok (.getfield 7, 3) := by decide +kernel
theorem dX7_adds_46 : decode cX7_adds 46 = .ok (.bipush 45, 2) := by decide +kernel
theorem dX7_adds_48 : decode cX7_adds 48 = .ok (.iconst 4, 1) := by decide +kernel
theorem dX7_adds_49 : decode cX7_adds 49 = .ok (.iload_n 1, 1) := by decide +kernel
theorem dX7_adds_50 : decode cX7_adds 50 = .ok (.imul, 1) := by decide +kernel
theorem dX7_adds_51 : decode cX7_adds 51 = .ok (.iadd, 1) := by decide +kernel
theorem dX7_adds_52 : decode cX7_adds 52 = .ok (.iload_n 2, 1) := by decide +kernel
theorem dX7_adds_53 : decode cX7_adds 53 = .ok (.bipush 32, 2) := by decide +kernel
theorem dX7_adds_55 : decode cX7_adds 55 = .ok (.idiv, 1) := by decide +kernel
theorem dX7_adds_56 : decode cX7_adds 56 = .ok (.iadd, 1) := by decide +kernel
theorem dX7_adds_57 : decode cX7_adds 57 = .ok (.dup2, 1) := by decide +kernel
theorem dX7_adds_58 : decode cX7_adds 58 = .ok (.laload, 1) := by decide +kernel
theorem dX7_adds_59 : decode cX7_adds 59 = .ok (.aload_n 0, 1) := by decide +kernel
theorem dX7_adds_60 : decode cX7_adds 60 = .ok (.getfield 20, 3) := by decide +kernel
theorem dX7_adds_63 : decode cX7_adds 63 = .ok (.iload_n 2, 1) := by decide +kernel
theorem dX7_adds_64 : decode cX7_adds 64 = .ok (.iaload, 1) := by decide +kernel
theorem dX7_adds_65 : decode cX7_adds 65 = .ok (.i2l, 1) := by decide +kernel
theorem dX7_adds_66 : decode cX7_adds 66 = .ok (.iconst 2, 1) := by decide +kernel
theorem dX7_adds_67 : decode cX7_adds 67 = .ok (.iload_n 2, 1) := by decide +kernel
theorem dX7_adds_68 : decode cX7_adds 68 = .ok (.bipush 32, 2) := by decide +kernel
theorem dX7_adds_70 : decode cX7_adds 70 = .ok (.irem, 1) := by decide +kernel
theorem dX7_adds_71 : decode cX7_adds 71 = .ok (.imul, 1) := by decide +kernel
theorem dX7_adds_72 : decode cX7_adds 72 = .ok (.lshl, 1) := by decide +kernel
theorem dX7_adds_73 : decode cX7_adds 73 = .ok (.lor, 1) := by decide +kernel
theorem dX7_adds_74 : decode cX7_adds 74 = .ok (.lastore, 1) := by decide +kernel
theorem dX7_adds_75 : decode cX7_adds 75 = .ok (.iinc 2 1, 3) := by decide +kernel
theorem dX7_adds_78 : decode cX7_adds 78 = .ok (.goto (-44), 3) := by decide +kernel
theorem dX7_adds_81 : decode cX7_adds 81 = .ok (.aload_n 0, 1) := by decide +kernel
theorem dX7_adds_82 : decode cX7_adds 82 = .ok (.getfield 7, 3) := by decide +kernel
theorem dX7_adds_85 : decode cX7_adds 85 = .ok (.iconst 5, 1) := by decide +kernel
theorem dX7_adds_86 : decode cX7_adds 86 = .ok (.iload_n 1, 1) := by decide +kernel
theorem dX7_adds_87 : decode cX7_adds 87 = .ok (.iadd, 1) := by decide +kernel
theorem dX7_adds_88 : decode cX7_adds 88 = .ok (.aload_n 0, 1) := by decide +kernel
theorem dX7_adds_89 : decode cX7_adds 89 = .ok (.getfield 69, 3) := by decide +kernel
theorem dX7_adds_92 : decode cX7_adds 92 = .ok (.i2l, 1) := by decide +kernel
theorem dX7_adds_93 : decode cX7_adds 93 = .ok (.lastore, 1) := by decide +kernel
theorem dX7_adds_94 : decode cX7_adds 94 = .ok (.aload_n 0, 1) := by decide +kernel
theorem dX7_adds_95 : decode cX7_adds 95 = .ok (.getfield 7, 3) := by decide +kernel
theorem dX7_adds_98 : decode cX7_adds 98 = .ok (.iconst 0, 1) := by decide +kernel
theorem dX7_adds_99 : decode cX7_adds 99 = .ok (.dup2, 1) := by decide +kernel
theorem dX7_adds_100 : decode cX7_adds 100 = .ok (.laload, 1) := by decide +kernel
theorem dX7_adds_101 : decode cX7_adds 101 = .ok (.lconst 1, 1) := by decide +kernel
theorem dX7_adds_102 : decode cX7_adds 102 = .ok (.ladd, 1) := by decide +kernel
theorem dX7_adds_103 : decode cX7_adds 103 = .ok (.lastore, 1) := by decide +kernel
theorem dX7_adds_104 : decode cX7_adds 104 = .ok (.return_, 1) := by decide +kernel
set_option maxRecDepth 20000 in
theorem ggX7_addsBest_X7_last : GoodIn wsX7_addsBest wsX7_last := goodIn_r _ [5, 6, 7, 8, 4, 9, 10, 11, 12, 13, 14, 15, 16, 17, 18, 19, 20, 21, 22, 23, 37, 38, 39, 40, 41, 42, 43, 44, 45, 46, 47, 48, 49, 50, 51, 52] (by decide +kernel) (by decide +kernel)
set_option maxRecDepth 20000 in
theorem gX7_addsBest_X7_last : GoodIn wsX7_addsBest (wsV RX7 85 RX7 yX7_last wsX7_last) := goodIn_app (goodIn_of _ (by decide +kernel)) ggX7_addsBest_X7_last
set_option maxRecDepth 20000 in
theorem ggX7_addsBest_X7_spreads : GoodIn wsX7_addsBest wsX7_spreads := goodIn_r _ [27, 28, 29, 30, 31, 4, 32, 37, 38, 39, 40, 41, 42, 43, 44, 45, 46, 47, 48, 49, 50, 51, 52] (by decide +kernel) (by decide +kernel)
set_option maxRecDepth 20000 in
theorem gX7_addsBest_X7_spreads : GoodIn wsX7_addsBest (wsV RX7 88 RX7 yX7_spreads wsX7_spreads) := goodIn_app (goodIn_of _ (by decide +kernel)) ggX7_addsBest_X7_spreads
set_option maxRecDepth 20000 in
theorem ggX7_addsBest_X7_adds : GoodIn wsX7_addsBest wsX7_adds := goodIn_r _ [36, 10, 28, 29, 6, 7, 8, 4, 9, 37, 38, 39, 40, 41, 42, 43, 44, 45, 46, 47, 48, 49, 50, 51, 52] (by decide +kernel) (by decide +kernel)
set_option maxRecDepth 20000 in
theorem gX7_addsBest_X7_adds : GoodIn wsX7_addsBest (wsV RX7 92 RX7 yX7_adds wsX7_adds) := goodIn_app (goodIn_of _ (by decide +kernel)) ggX7_addsBest_X7_adds
theorem dX7_addsBest_0 : decode cX7_addsBest 0 = .ok (.aload_n 0, 1) := by decide +kernel
theorem dX7_addsBest_1 : decode cX7_addsBest 1 = .ok (.iload_n 1, 1) := by decide +kernel
theorem dX7_addsBest_2 : decode cX7_addsBest 2 = .ok (.aload_n 0, 1) := by decide +kernel
theorem dX7_addsBest_3 : decode cX7_addsBest 3 = .ok (.invokevirtual 85, 3) := by decide +kernel
theorem dX7_addsBest_6 : decode cX7_addsBest 6 = .ok (.iload_n 2, 1) := by decide +kernel
theorem dX7_addsBest_7 : decode cX7_addsBest 7 = .ok (.invokevirtual 88, 3) := by decide +kernel
theorem dX7_addsBest_10 : decode cX7_addsBest 10 = .ok (.aload_n 0, 1) := by decide +kernel
theorem dX7_addsBest_11 : decode cX7_addsBest 11 = .ok (.invokevirtual 92, 3) := by decide +kernel
theorem dX7_addsBest_14 : decode cX7_addsBest 14 = .ok (.return_, 1) := by decide +kernel
set_option maxRecDepth 20000 in
theorem ggX7_begin_X7_in : GoodIn wsX7_begin wsX7_in := goodIn_r _ [4] (by decide +kernel) (by decide +kernel)
set_option maxRecDepth 20000 in
theorem gX7_begin_X7_in : GoodIn wsX7_begin (va_wsS RX7 95 yX7_in wsX7_in) := goodIn_app (goodIn_of _ (by decide +kernel)) ggX7_begin_X7_in
set_option maxRecDepth 20000 in
theorem ggX7_begin_X7_throwsAt : GoodIn wsX7_begin wsX7_throwsAt := goodIn_r _ [8, 9, 25, 26, 27, 28, 29, 30, 31, 32, 33, 34, 35, 36, 37, 38, 39, 40] (by decide +kernel) (by decide +kernel)
set_option maxRecDepth 20000 in
theorem gX7_begin_X7_throwsAt : GoodIn wsX7_begin (wsV RX7 98 RX7 yX7_throwsAt wsX7_throwsAt) := goodIn_app (goodIn_of _ (by decide +kernel)) ggX7_begin_X7_throwsAt
set_option maxRecDepth 20000 in
theorem ggX7_begin_X7_saves : GoodIn wsX7_begin wsX7_saves := goodIn_r _ [13, 14, 15, 16, 25, 26, 27, 28, 29, 30, 31, 32, 33, 34, 35, 36, 37, 38, 39, 40] (by decide +kernel) (by decide +kernel)
set_option maxRecDepth 20000 in
theorem gX7_begin_X7_saves : GoodIn wsX7_begin (wsV RX7 102 RX7 yX7_saves wsX7_saves) := goodIn_app (goodIn_of _ (by decide +kernel)) ggX7_begin_X7_saves
set_option maxRecDepth 20000 in
theorem ggX7_begin_X7_rounds : GoodIn wsX7_begin wsX7_rounds := goodIn_r _ [20, 16, 25, 26, 27, 28, 29, 30, 31, 32, 33, 34, 35, 36, 37, 38, 39, 40] (by decide +kernel) (by decide +kernel)
set_option maxRecDepth 20000 in
theorem gX7_begin_X7_rounds : GoodIn wsX7_begin (wsV RX7 62 RX7 yX7_rounds wsX7_rounds) := goodIn_app (goodIn_of _ (by decide +kernel)) ggX7_begin_X7_rounds
set_option maxRecDepth 20000 in
theorem ggX7_begin_X7_laysFirst : GoodIn wsX7_begin wsX7_laysFirst := goodIn_r _ [24, 16, 25, 26, 27, 28, 29, 30, 31, 32, 33, 34, 35, 36, 37, 38, 39, 40] (by decide +kernel) (by decide +kernel)
set_option maxRecDepth 20000 in
theorem gX7_begin_X7_laysFirst : GoodIn wsX7_begin (wsV RX7 41 RX7 yX7_laysFirst wsX7_laysFirst) := goodIn_app (goodIn_of _ (by decide +kernel)) ggX7_begin_X7_laysFirst
theorem dX7_begin_0 : decode cX7_begin 0 = .ok (.aload_n 0, 1) := by decide +kernel
theorem dX7_begin_1 : decode cX7_begin 1 = .ok (.iload_n 1, 1) := by decide +kernel
theorem dX7_begin_2 : decode cX7_begin 2 = .ok (.iconst 3, 1) := by decide +kernel
theorem dX7_begin_3 : decode cX7_begin 3 = .ok (.bipush 12, 2) := by decide +kernel
theorem dX7_begin_5 : decode cX7_begin 5 = .ok (.invokestatic 95, 3) := by decide +kernel
theorem dX7_begin_8 : decode cX7_begin 8 = .ok (.ifCond .eq 7, 3) := by decide +kernel
theorem dX7_begin_11 : decode cX7_begin 11 = .ok (.iconst 0, 1) := by decide +kernel
theorem dX7_begin_12 : decode cX7_begin 12 = .ok (.goto 4, 3) := by decide +kernel
theorem dX7_begin_15 : decode cX7_begin 15 = .ok (.iconst 1, 1) := by decide +kernel
theorem dX7_begin_16 : decode cX7_begin 16 = .ok (.invokevirtual 98, 3) := by decide +kernel
theorem dX7_begin_19 : decode cX7_begin 19 = .ok (.ifCond .eq 5, 3) := by decide +kernel
theorem dX7_begin_22 : decode cX7_begin 22 = .ok (.iconst 0, 1) := by decide +kernel
theorem dX7_begin_23 : decode cX7_begin 23 = .ok (.ireturn, 1) := by decide +kernel
theorem dX7_begin_24 : decode cX7_begin 24 = .ok (.aload_n 0, 1) := by decide +kernel
theorem dX7_begin_25 : decode cX7_begin 25 = .ok (.invokevirtual 102, 3) := by decide +kernel
theorem dX7_begin_28 : decode cX7_begin 28 = .ok (.aload_n 0, 1) := by decide +kernel
theorem dX7_begin_29 : decode cX7_begin 29 = .ok (.invokevirtual 62, 3) := by decide +kernel
theorem dX7_begin_32 : decode cX7_begin 32 = .ok (.istore_n 2, 1) := by decide +kernel
theorem dX7_begin_33 : decode cX7_begin 33 = .ok (.aload_n 0, 1) := by decide +kernel
theorem dX7_begin_34 : decode cX7_begin 34 = .ok (.iload_n 1, 1) := by decide +kernel
theorem dX7_begin_35 : decode cX7_begin 35 = .ok (.invokevirtual 41, 3) := by decide +kernel
theorem dX7_begin_38 : decode cX7_begin 38 = .ok (.iload_n 2, 1) := by decide +kernel
theorem dX7_begin_39 : decode cX7_begin 39 = .ok (.ireturn, 1) := by decide +kernel
set_option maxRecDepth 20000 in
theorem ggX7_whyNot_X7_in : GoodIn wsX7_whyNot wsX7_in := goodIn_r _ [4] (by decide +kernel) (by decide +kernel)
set_option maxRecDepth 20000 in
theorem gX7_whyNot_X7_in : GoodIn wsX7_whyNot (va_wsS RX7 95 yX7_in wsX7_in) := goodIn_app (goodIn_of _ (by decide +kernel)) ggX7_whyNot_X7_in
set_option maxRecDepth 20000 in
theorem ggX7_whyNot_X7_rounds : GoodIn wsX7_whyNot wsX7_rounds := goodIn_r _ [8, 9, 30, 31, 32, 33, 34, 35, 36, 37, 38, 39, 40, 41, 42, 43, 44, 45] (by decide +kernel) (by decide +kernel)
set_option maxRecDepth 20000 in
theorem gX7_whyNot_X7_rounds : GoodIn wsX7_whyNot (wsV RX7 62 RX7 yX7_rounds wsX7_rounds) := goodIn_app (goodIn_of _ (by decide +kernel)) ggX7_whyNot_X7_rounds
set_option maxRecDepth 20000 in
theorem ggX7_whyNot_X7_last : GoodIn wsX7_whyNot wsX7_last := goodIn_r _ [13, 5, 6, 7, 3, 8, 9, 14, 15, 16, 17, 18, 19, 20, 21, 22, 23, 24, 25, 26, 30, 31, 32, 33, 34, 35, 36, 37, 38, 39, 40, 41, 42, 43, 44, 45] (by decide +kernel) (by decide +kernel)
set_option maxRecDepth 20000 in
theorem gX7_whyNot_X7_last : GoodIn wsX7_whyNot (wsV RX7 85 RX7 yX7_last wsX7_last) := goodIn_app (goodIn_of _ (by decide +kernel)) ggX7_whyNot_X7_last
set_option maxRecDepth 20000 in
theorem ggX7_whyNot_X7_isPossible : GoodIn wsX7_whyNot wsX7_isPossible := goodIn_r _ [29] (by decide +kernel) (by decide +kernel)
set_option maxRecDepth 20000 in
theorem gX7_whyNot_X7_isPossible : GoodIn wsX7_whyNot (va_wsS RX7 105 yX7_isPossible wsX7_isPossible) := goodIn_app (goodIn_of _ (by decide +kernel)) ggX7_whyNot_X7_isPossible
theorem dX7_whyNot_0 : decode cX7_whyNot 0 = .ok (.iload_n 1, 1) := by decide +kernel
theorem dX7_whyNot_1 : decode cX7_whyNot 1 = .ok (.ifCond .eq 13, 3) := by decide +kernel
theorem dX7_whyNot_4 : decode cX7_whyNot 4 = .ok (.iload_n 2, 1) := by decide +kernel
theorem dX7_whyNot_5 : decode cX7_whyNot 5 = .ok (.iconst 3, 1) := by decide +kernel
theorem dX7_whyNot_6 : decode cX7_whyNot 6 = .ok (.bipush 120, 2) := by decide +kernel
theorem dX7_whyNot_8 : decode cX7_whyNot 8 = .ok (.invokestatic 95, 3) := by decide +kernel
theorem dX7_whyNot_11 : decode cX7_whyNot 11 = .ok (.ifCond .ne 7, 3) := by decide +kernel
theorem dX7_whyNot_14 : decode cX7_whyNot 14 = .ok (.iconst 1, 1) := by decide +kernel
theorem dX7_whyNot_15 : decode cX7_whyNot 15 = .ok (.goto 32, 3) := by decide +kernel
theorem dX7_whyNot_18 : decode cX7_whyNot 18 = .ok (.aload_n 0, 1) := by decide +kernel
theorem dX7_whyNot_19 : decode cX7_whyNot 19 = .ok (.invokevirtual 62, 3) := by decide +kernel
theorem dX7_whyNot_22 : decode cX7_whyNot 22 = .ok (.bipush 40, 2) := by decide +kernel
theorem dX7_whyNot_24 : decode cX7_whyNot 24 = .ok (.if_icmp .ne 7, 3) := by decide +kernel
theorem dX7_whyNot_27 : decode cX7_whyNot 27 = .ok (.iconst 2, 1) := by decide +kernel
theorem dX7_whyNot_28 : decode cX7_whyNot 28 = .ok (.goto 19, 3) := by decide +kernel
theorem dX7_whyNot_31 : decode cX7_whyNot 31 = .ok (.iload_n 2, 1) := by decide +kernel
theorem dX7_whyNot_32 : decode cX7_whyNot 32 = .ok (.aload_n 0, 1) := by decide +kernel
theorem dX7_whyNot_33 : decode cX7_whyNot 33 = .ok (.invokevirtual 85, 3) := by decide +kernel
theorem dX7_whyNot_36 : decode cX7_whyNot 36 = .ok (.invokestatic 105, 3) := by decide +kernel
theorem dX7_whyNot_39 : decode cX7_whyNot 39 = .ok (.ifCond .eq 7, 3) := by decide +kernel
theorem dX7_whyNot_42 : decode cX7_whyNot 42 = .ok (.iconst 0, 1) := by decide +kernel
theorem dX7_whyNot_43 : decode cX7_whyNot 43 = .ok (.goto 4, 3) := by decide +kernel
theorem dX7_whyNot_46 : decode cX7_whyNot 46 = .ok (.iconst 3, 1) := by decide +kernel
theorem dX7_whyNot_47 : decode cX7_whyNot 47 = .ok (.ireturn, 1) := by decide +kernel
set_option maxRecDepth 20000 in
theorem ggX7_addRound_X7_whyNot : GoodIn wsX7_addRound wsX7_whyNot := goodIn_r _ [5, 6, 7, 4, 8, 9, 10, 11, 12, 13, 14, 15, 16, 17, 18, 19, 20, 21, 22, 23, 24, 25, 26, 27, 28, 29, 30, 31, 32, 33, 75, 76, 77, 78, 79, 80, 81, 82, 83, 84, 85, 86, 87, 88, 89, 90] (by decide +kernel) (by decide +kernel)
set_option maxRecDepth 20000 in
theorem gX7_addRound_X7_whyNot : GoodIn wsX7_addRound (wsV RX7 109 RX7 yX7_whyNot wsX7_whyNot) := goodIn_app (goodIn_of _ (by decide +kernel)) ggX7_addRound_X7_whyNot
set_option maxRecDepth 20000 in
theorem ggX7_addRound_X7_throwsAt : GoodIn wsX7_addRound wsX7_throwsAt := goodIn_r _ [37, 38, 75, 76, 77, 78, 79, 80, 81, 82, 83, 84, 85, 86, 87, 88, 89, 90] (by decide +kernel) (by decide +kernel)
set_option maxRecDepth 20000 in
theorem gX7_addRound_X7_throwsAt : GoodIn wsX7_addRound (wsV RX7 98 RX7 yX7_throwsAt wsX7_throwsAt) := goodIn_app (goodIn_of _ (by decide +kernel)) ggX7_addRound_X7_throwsAt
set_option maxRecDepth 20000 in
theorem ggX7_addRound_X7_saves : GoodIn wsX7_addRound wsX7_saves := goodIn_r _ [42, 43, 44, 13, 75, 76, 77, 78, 79, 80, 81, 82, 83, 84, 85, 86, 87, 88, 89, 90] (by decide +kernel) (by decide +kernel)
set_option maxRecDepth 20000 in
theorem gX7_addRound_X7_saves : GoodIn wsX7_addRound (wsV RX7 102 RX7 yX7_saves wsX7_saves) := goodIn_app (goodIn_of _ (by decide +kernel)) ggX7_addRound_X7_saves
set_option maxRecDepth 20000 in
theorem ggX7_addRound_X7_bestShift : GoodIn wsX7_addRound wsX7_bestShift := goodIn_r _ [48, 14, 15, 16, 4, 17, 9, 10, 11, 12, 13, 18, 19, 20, 21, 22, 23, 24, 25, 26, 27, 28, 29, 30, 49, 50, 51, 52, 53, 54, 55, 56, 57, 58, 59, 60, 61, 62, 63, 64, 65, 66, 75, 76, 77, 78, 79, 80, 81, 82, 83, 84, 85, 86, 87, 88, 89, 90] (by decide +kernel) (by decide +kernel)
set_option maxRecDepth 20000 in
theorem gX7_addRound_X7_bestShift : GoodIn wsX7_addRound (wsV RX7 113 RX7 yX7_bestShift wsX7_bestShift) := goodIn_app (goodIn_of _ (by decide +kernel)) ggX7_addRound_X7_bestShift
set_option maxRecDepth 20000 in
theorem ggX7_addRound_X7_addsBest : GoodIn wsX7_addRound wsX7_addsBest := goodIn_r _ [70, 14, 15, 16, 4, 17, 9, 10, 11, 12, 13, 18, 19, 20, 21, 22, 23, 24, 25, 26, 27, 28, 29, 30, 54, 55, 56, 57, 58, 59, 60, 61, 62, 71, 72, 73, 74, 75, 76, 77, 78, 79, 80, 81, 82, 83, 84, 85, 86, 87, 88, 89, 90] (by decide +kernel) (by decide +kernel)
set_option maxRecDepth 20000 in
theorem gX7_addRound_X7_addsBest : GoodIn wsX7_addRound (wsV RX7 116 RX7 yX7_addsBest wsX7_addsBest) := goodIn_app (goodIn_of _ (by decide +kernel)) ggX7_addRound_X7_addsBest
theorem dX7_addRound_0 : decode cX7_addRound 0 = .ok (.aload_n 0, 1) := by decide +kernel
theorem dX7_addRound_1 : decode cX7_addRound 1 = .ok (.aload_n 0, 1) := by decide +kernel
theorem dX7_addRound_2 : decode cX7_addRound 2 = .ok (.iconst 1, 1) := by decide +kernel
theorem dX7_addRound_3 : decode cX7_addRound 3 = .ok (.iload_n 1, 1) := by decide +kernel
theorem dX7_addRound_4 : decode cX7_addRound 4 = .ok (.invokevirtual 109, 3) := by decide +kernel
theorem dX7_addRound_7 : decode cX7_addRound 7 = .ok (.invokevirtual 98, 3) := by decide +kernel
theorem dX7_addRound_10 : decode cX7_addRound 10 = .ok (.ifCond .eq 5, 3) := by decide +kernel
theorem dX7_addRound_13 : decode cX7_addRound 13 = .ok (.iconst 0, 1) := by decide +kernel
theorem dX7_addRound_14 : decode cX7_addRound 14 = .ok (.ireturn, 1) := by decide +kernel
theorem dX7_addRound_15 : decode cX7_addRound 15 = .ok (.aload_n 0, 1) := by decide +kernel
theorem dX7_addRound_16 : decode cX7_addRound 16 = .ok (.invokevirtual 102, 3) := by decide +kernel
theorem dX7_addRound_19 : decode cX7_addRound 19 = .ok (.aload_n 0, 1) := by decide +kernel
theorem dX7_addRound_20 : decode cX7_addRound 20 = .ok (.iload_n 1, 1) := by decide +kernel
theorem dX7_addRound_21 : decode cX7_addRound 21 = .ok (.invokevirtual 113, 3) := by decide +kernel
theorem dX7_addRound_24 : decode cX7_addRound 24 = .ok (.istore_n 2, 1) := by decide +kernel
theorem dX7_addRound_25 : decode cX7_addRound 25 = .ok (.aload_n 0, 1) := by decide +kernel
theorem dX7_addRound_26 : decode cX7_addRound 26 = .ok (.iload_n 1, 1) := by decide +kernel
theorem dX7_addRound_27 : decode cX7_addRound 27 = .ok (.iload_n 2, 1) := by decide +kernel
theorem dX7_addRound_28 : decode cX7_addRound 28 = .ok (.invokevirtual 116, 3) := by decide +kernel
theorem dX7_addRound_31 : decode cX7_addRound 31 = .ok (.iload_n 2, 1) := by decide +kernel
theorem dX7_addRound_32 : decode cX7_addRound 32 = .ok (.ireturn, 1) := by decide +kernel
set_option maxRecDepth 20000 in
theorem ggX7_addShifted_X7_in : GoodIn wsX7_addShifted wsX7_in := goodIn_r _ [4] (by decide +kernel) (by decide +kernel)
set_option maxRecDepth 20000 in
theorem gX7_addShifted_X7_in : GoodIn wsX7_addShifted (va_wsS RX7 95 yX7_in wsX7_in) := goodIn_app (goodIn_of _ (by decide +kernel)) ggX7_addShifted_X7_in
set_option maxRecDepth 20000 in
theorem ggX7_addShifted_X7_whyNot : GoodIn wsX7_addShifted wsX7_whyNot := goodIn_r _ [8, 1, 2, 3, 4, 9, 10, 11, 12, 13, 14, 15, 16, 17, 18, 19, 20, 21, 22, 23, 24, 25, 26, 27, 28, 29, 30, 31, 32, 33, 79, 80, 81, 82, 83, 84, 85, 86, 87, 88, 89, 90, 91, 92, 93, 94] (by decide +kernel) (by decide +kernel)
set_option maxRecDepth 20000 in
theorem gX7_addShifted_X7_whyNot : GoodIn wsX7_addShifted (wsV RX7 109 RX7 yX7_whyNot wsX7_whyNot) := goodIn_app (goodIn_of _ (by decide +kernel)) ggX7_addShifted_X7_whyNot
set_option maxRecDepth 20000 in
theorem ggX7_addShifted_X7_throwsAt : GoodIn wsX7_addShifted wsX7_throwsAt := goodIn_r _ [37, 38, 79, 80, 81, 82, 83, 84, 85, 86, 87, 88, 89, 90, 91, 92, 93, 94] (by decide +kernel) (by decide +kernel)
set_option maxRecDepth 20000 in
theorem gX7_addShifted_X7_throwsAt : GoodIn wsX7_addShifted (wsV RX7 98 RX7 yX7_throwsAt wsX7_throwsAt) := goodIn_app (goodIn_of _ (by decide +kernel)) ggX7_addShifted_X7_throwsAt
set_option maxRecDepth 20000 in
theorem ggX7_addShifted_X7_saves : GoodIn wsX7_addShifted wsX7_saves := goodIn_r _ [42, 43, 44, 13, 79, 80, 81, 82, 83, 84, 85, 86, 87, 88, 89, 90, 91, 92, 93, 94] (by decide +kernel) (by decide +kernel)
set_option maxRecDepth 20000 in
theorem gX7_addShifted_X7_saves : GoodIn wsX7_addShifted (wsV RX7 102 RX7 yX7_saves wsX7_saves) := goodIn_app (goodIn_of _ (by decide +kernel)) ggX7_addShifted_X7_saves
set_option maxRecDepth 20000 in
theorem ggX7_addShifted_X7_last : GoodIn wsX7_addShifted wsX7_last := goodIn_r _ [17, 9, 10, 11, 3, 12, 13, 18, 19, 20, 21, 22, 23, 24, 25, 26, 27, 28, 29, 30, 79, 80, 81, 82, 83, 84, 85, 86, 87, 88, 89, 90, 91, 92, 93, 94] (by decide +kernel) (by decide +kernel)
set_option maxRecDepth 20000 in
theorem gX7_addShifted_X7_last : GoodIn wsX7_addShifted (wsV RX7 85 RX7 yX7_last wsX7_last) := goodIn_app (goodIn_of _ (by decide +kernel)) ggX7_addShifted_X7_last
set_option maxRecDepth 20000 in
theorem ggX7_addShifted_X7_addsBest : GoodIn wsX7_addShifted wsX7_addsBest := goodIn_r _ [48, 14, 15, 16, 3, 17, 9, 10, 11, 12, 13, 18, 19, 20, 21, 22, 23, 24, 25, 26, 27, 28, 29, 30, 49, 50, 51, 52, 53, 54, 55, 56, 57, 58, 59, 60, 61, 79, 80, 81, 82, 83, 84, 85, 86, 87, 88, 89, 90, 91, 92, 93, 94] (by decide +kernel) (by decide +kernel)
set_option maxRecDepth 20000 in
theorem gX7_addShifted_X7_addsBest : GoodIn wsX7_addShifted (wsV RX7 116 RX7 yX7_addsBest wsX7_addsBest) := goodIn_app (goodIn_of _ (by decide +kernel)) ggX7_addShifted_X7_addsBest
set_option maxRecDepth 20000 in
theorem ggX7_addShifted_X7_rounds : GoodIn wsX7_addShifted wsX7_rounds := goodIn_r _ [12, 13, 79, 80, 81, 82, 83, 84, 85, 86, 87, 88, 89, 90, 91, 92, 93, 94] (by decide +kernel) (by decide +kernel)
set_option maxRecDepth 20000 in
theorem gX7_addShifted_X7_rounds : GoodIn wsX7_addShifted (wsV RX7 62 RX7 yX7_rounds wsX7_rounds) := goodIn_app (goodIn_of _ (by decide +kernel)) ggX7_addShifted_X7_rounds
set_option maxRecDepth 20000 in
theorem ggX7_addShifted_X7_stackedOf : GoodIn wsX7_addShifted wsX7_stackedOf := goodIn_r _ [65, 66, 67, 68, 3, 69, 70, 22, 23, 24, 25, 13, 26, 27, 28, 29, 30, 71, 72, 73, 74, 53, 54, 75, 76, 77, 78, 79, 80, 81, 82, 83, 84, 85, 86, 87, 88, 89, 90, 91, 92, 93, 94] (by decide +kernel) (by decide +kernel)
set_option maxRecDepth 20000 in
theorem gX7_addShifted_X7_stackedOf : GoodIn wsX7_addShifted (wsV RX7 120 RX7 yX7_stackedOf wsX7_stackedOf) := goodIn_app (goodIn_of _ (by decide +kernel)) ggX7_addShifted_X7_stackedOf
theorem dX7_addShifted_0 : decode cX7_addShifted 0 = .ok (.aload_n 0, 1) := by decide +kernel
theorem dX7_addShifted_1 : decode cX7_addShifted 1 = .ok (.aload_n 0, 1) := by decide +kernel
theorem dX7_addShifted_2 : decode cX7_addShifted 2 = .ok (.iload_n 2, 1) := by decide +kernel
theorem dX7_addShifted_3 : decode cX7_addShifted 3 = .ok (.iconst 0, 1) := by decide +kernel
theorem dX7_addShifted_4 : decode cX7_addShifted 4 = .ok (.bipush 119, 2) := by decide +kernel
theorem dX7_addShifted_6 : decode cX7_addShifted 6 = .ok (.invokestatic 95, 3) := by decide +kernel
theorem dX7_addShifted_9 : decode cX7_addShifted 9 = .ok (.iload_n 1, 1) := by decide +kernel
theorem dX7_addShifted_10 : decode cX7_addShifted 10 = .ok (.invokevirtual 109, 3) := by decide +kernel
theorem dX7_addShifted_13 : decode cX7_addShifted 13 = .ok (.invokevirtual 98, 3) := by decide +kernel
theorem dX7_addShifted_16 : decode cX7_addShifted 16 = .ok (.ifCond .eq 5, 3) := by decide +kernel
theorem dX7_addShifted_19 : decode cX7_addShifted 19 = .ok (.iconst 0, 1) := by decide +kernel
theorem dX7_addShifted_20 : decode cX7_addShifted 20 = .ok (.ireturn, 1) := by decide +kernel
theorem dX7_addShifted_21 : decode cX7_addShifted 21 = .ok (.aload_n 0, 1) := by decide +kernel
theorem dX7_addShifted_22 : decode cX7_addShifted 22 = .ok (.invokevirtual 102, 3) := by decide +kernel
theorem dX7_addShifted_25 : decode cX7_addShifted 25 = .ok (.aload_n 0, 1) := by decide +kernel
theorem dX7_addShifted_26 : decode cX7_addShifted 26 = .ok (.invokevirtual 85, 3) := by decide +kernel
theorem dX7_addShifted_29 : decode cX7_addShifted 29 = .ok (.istore_n 3, 1) := by decide +kernel
theorem dX7_addShifted_30 : decode cX7_addShifted 30 = .ok (.aload_n 0, 1) := by decide +kernel
theorem dX7_addShifted_31 : decode cX7_addShifted 31 = .ok (.iload_n 1, 1) := by decide +kernel
theorem dX7_addShifted_32 : decode cX7_addShifted 32 = .ok (.iload_n 2, 1) := by decide +kernel
theorem dX7_addShifted_33 : decode cX7_addShifted 33 = .ok (.iload_n 1, 1) := by decide +kernel
theorem dX7_addShifted_34 : decode cX7_addShifted 34 = .ok (.iload_n 3, 1) := by decide +kernel
theorem dX7_addShifted_35 : decode cX7_addShifted 35 = .ok (.if_icmp .lt 7, 3) := by decide +kernel
theorem dX7_addShifted_38 : decode cX7_addShifted 38 = .ok (.iload_n 3, 1) := by decide +kernel
theorem dX7_addShifted_39 : decode cX7_addShifted 39 = .ok (.goto 4, 3) := by decide +kernel
theorem dX7_addShifted_42 : decode cX7_addShifted 42 = .ok (.iload_n 1, 1) := by decide +kernel
theorem dX7_addShifted_43 : decode cX7_addShifted 43 = .ok (.irem, 1) := by decide +kernel
theorem dX7_addShifted_44 : decode cX7_addShifted 44 = .ok (.invokevirtual 116, 3) := by decide +kernel
theorem dX7_addShifted_47 : decode cX7_addShifted 47 = .ok (.aload_n 0, 1) := by decide +kernel
theorem dX7_addShifted_48 : decode cX7_addShifted 48 = .ok (.aload_n 0, 1) := by decide +kernel
theorem dX7_addShifted_49 : decode cX7_addShifted 49 = .ok (.invokevirtual 62, 3) := by decide +kernel
theorem dX7_addShifted_52 : decode cX7_addShifted 52 = .ok (.iconst 1, 1) := by decide +kernel
theorem dX7_addShifted_53 : decode cX7_addShifted 53 = .ok (.isub, 1) := by decide +kernel
theorem dX7_addShifted_54 : decode cX7_addShifted 54 = .ok (.invokevirtual 120, 3) := by decide +kernel
theorem dX7_addShifted_57 : decode cX7_addShifted 57 = .ok (.ireturn, 1) := by decide +kernel
set_option maxRecDepth 20000 in
theorem ggX7_addMirrored_X7_whyNot : GoodIn wsX7_addMirrored wsX7_whyNot := goodIn_r _ [5, 6, 7, 4, 8, 9, 10, 11, 12, 13, 14, 15, 16, 17, 18, 19, 20, 21, 22, 23, 24, 25, 26, 27, 28, 29, 30, 31, 32, 33, 75, 76, 77, 78, 79, 80, 81, 82, 83, 84, 85, 86, 87, 88, 89, 90] (by decide +kernel) (by decide +kernel)
set_option maxRecDepth 20000 in
theorem gX7_addMirrored_X7_whyNot : GoodIn wsX7_addMirrored (wsV RX7 109 RX7 yX7_whyNot wsX7_whyNot) := goodIn_app (goodIn_of _ (by decide +kernel)) ggX7_addMirrored_X7_whyNot
set_option maxRecDepth 20000 in
theorem ggX7_addMirrored_X7_last : GoodIn wsX7_addMirrored wsX7_last := goodIn_r _ [17, 9, 10, 11, 4, 12, 13, 18, 19, 20, 21, 22, 23, 24, 25, 26, 27, 28, 29, 30, 75, 76, 77, 78, 79, 80, 81, 82, 83, 84, 85, 86, 87, 88, 89, 90] (by decide +kernel) (by decide +kernel)
set_option maxRecDepth 20000 in
theorem gX7_addMirrored_X7_last : GoodIn wsX7_addMirrored (wsV RX7 85 RX7 yX7_last wsX7_last) := goodIn_app (goodIn_of _ (by decide +kernel)) ggX7_addMirrored_X7_last
set_option maxRecDepth 20000 in
theorem ggX7_addMirrored_X7_throwsAt : GoodIn wsX7_addMirrored wsX7_throwsAt := goodIn_r _ [37, 38, 75, 76, 77, 78, 79, 80, 81, 82, 83, 84, 85, 86, 87, 88, 89, 90] (by decide +kernel) (by decide +kernel)
set_option maxRecDepth 20000 in
theorem gX7_addMirrored_X7_throwsAt : GoodIn wsX7_addMirrored (wsV RX7 98 RX7 yX7_throwsAt wsX7_throwsAt) := goodIn_app (goodIn_of _ (by decide +kernel)) ggX7_addMirrored_X7_throwsAt
set_option maxRecDepth 20000 in
theorem ggX7_addMirrored_X7_saves : GoodIn wsX7_addMirrored wsX7_saves := goodIn_r _ [42, 43, 44, 13, 75, 76, 77, 78, 79, 80, 81, 82, 83, 84, 85, 86, 87, 88, 89, 90] (by decide +kernel) (by decide +kernel)
set_option maxRecDepth 20000 in
theorem gX7_addMirrored_X7_saves : GoodIn wsX7_addMirrored (wsV RX7 102 RX7 yX7_saves wsX7_saves) := goodIn_app (goodIn_of _ (by decide +kernel)) ggX7_addMirrored_X7_saves
set_option maxRecDepth 20000 in
theorem ggX7_addMirrored_X7_mirrors : GoodIn wsX7_addMirrored wsX7_mirrors := goodIn_r _ [48, 49, 50, 51, 52, 4, 53, 75, 76, 77, 78, 79, 80, 81, 82, 83, 84, 85, 86, 87, 88, 89, 90] (by decide +kernel) (by decide +kernel)
set_option maxRecDepth 20000 in
theorem gX7_addMirrored_X7_mirrors : GoodIn wsX7_addMirrored (wsV RX7 123 RX7 yX7_mirrors wsX7_mirrors) := goodIn_app (goodIn_of _ (by decide +kernel)) ggX7_addMirrored_X7_mirrors
set_option maxRecDepth 20000 in
theorem ggX7_addMirrored_X7_adds : GoodIn wsX7_addMirrored wsX7_adds := goodIn_r _ [57, 13, 49, 50, 9, 10, 11, 4, 12, 75, 76, 77, 78, 79, 80, 81, 82, 83, 84, 85, 86, 87, 88, 89, 90] (by decide +kernel) (by decide +kernel)
set_option maxRecDepth 20000 in
theorem gX7_addMirrored_X7_adds : GoodIn wsX7_addMirrored (wsV RX7 92 RX7 yX7_adds wsX7_adds) := goodIn_app (goodIn_of _ (by decide +kernel)) ggX7_addMirrored_X7_adds
set_option maxRecDepth 20000 in
theorem ggX7_addMirrored_X7_rounds : GoodIn wsX7_addMirrored wsX7_rounds := goodIn_r _ [12, 13, 75, 76, 77, 78, 79, 80, 81, 82, 83, 84, 85, 86, 87, 88, 89, 90] (by decide +kernel) (by decide +kernel)
set_option maxRecDepth 20000 in
theorem gX7_addMirrored_X7_rounds : GoodIn wsX7_addMirrored (wsV RX7 62 RX7 yX7_rounds wsX7_rounds) := goodIn_app (goodIn_of _ (by decide +kernel)) ggX7_addMirrored_X7_rounds
set_option maxRecDepth 20000 in
theorem ggX7_addMirrored_X7_stackedOf : GoodIn wsX7_addMirrored wsX7_stackedOf := goodIn_r _ [61, 62, 63, 64, 4, 65, 66, 22, 23, 24, 25, 13, 26, 27, 28, 29, 30, 67, 68, 69, 70, 49, 50, 71, 72, 73, 74, 75, 76, 77, 78, 79, 80, 81, 82, 83, 84, 85, 86, 87, 88, 89, 90] (by decide +kernel) (by decide +kernel)
set_option maxRecDepth 20000 in
theorem gX7_addMirrored_X7_stackedOf : GoodIn wsX7_addMirrored (wsV RX7 120 RX7 yX7_stackedOf wsX7_stackedOf) := goodIn_app (goodIn_of _ (by decide +kernel)) ggX7_addMirrored_X7_stackedOf
theorem dX7_addMirrored_0 : decode cX7_addMirrored 0 = .ok (.aload_n 0, 1) := by decide +kernel
theorem dX7_addMirrored_1 : decode cX7_addMirrored 1 = .ok (.iconst 1, 1) := by decide +kernel
theorem dX7_addMirrored_2 : decode cX7_addMirrored 2 = .ok (.iload_n 1, 1) := by decide +kernel
theorem dX7_addMirrored_3 : decode cX7_addMirrored 3 = .ok (.invokevirtual 109, 3) := by decide +kernel
theorem dX7_addMirrored_6 : decode cX7_addMirrored 6 = .ok (.istore_n 2, 1) := by decide +kernel
theorem dX7_addMirrored_7 : decode cX7_addMirrored 7 = .ok (.aload_n 0, 1) := by decide +kernel
theorem dX7_addMirrored_8 : decode cX7_addMirrored 8 = .ok (.invokevirtual 85, 3) := by decide +kernel
theorem dX7_addMirrored_11 : decode cX7_addMirrored 11 = .ok (.istore_n 3, 1) := by decide +kernel
theorem dX7_addMirrored_12 : decode cX7_addMirrored 12 = .ok (.iload_n 1, 1) := by decide +kernel
theorem dX7_addMirrored_13 : decode cX7_addMirrored 13 = .ok (.iload_n 3, 1) := by decide +kernel
theorem dX7_addMirrored_14 : decode cX7_addMirrored 14 = .ok (.if_icmp .lt 9, 3) := by decide +kernel
theorem dX7_addMirrored_17 : decode cX7_addMirrored 17 = .ok (.iload_n 1, 1) := by decide +kernel
theorem dX7_addMirrored_18 : decode cX7_addMirrored 18 = .ok (.iload_n 3, 1) := by decide +kernel
theorem dX7_addMirrored_19 : decode cX7_addMirrored 19 = .ok (.isub, 1) := by decide +kernel
theorem dX7_addMirrored_20 : decode cX7_addMirrored 20 = .ok (.goto 6, 3) := by decide +kernel
theorem dX7_addMirrored_23 : decode cX7_addMirrored 23 = .ok (.iload_n 3, 1) := by decide +kernel
theorem dX7_addMirrored_24 : decode cX7_addMirrored 24 = .ok (.iload_n 1, 1) := by decide +kernel
theorem dX7_addMirrored_25 : decode cX7_addMirrored 25 = .ok (.isub, 1) := by decide +kernel
theorem dX7_addMirrored_26 : decode cX7_addMirrored 26 = .ok (.istore 4, 2) := by decide +kernel
theorem dX7_addMirrored_28 : decode cX7_addMirrored 28 = .ok (.iload_n 1, 1) := by decide +kernel
theorem dX7_addMirrored_29 : decode cX7_addMirrored 29 = .ok (.iload_n 3, 1) := by decide +kernel
theorem dX7_addMirrored_30 : decode cX7_addMirrored 30 = .ok (.if_icmp .lt 7, 3) := by decide +kernel
theorem dX7_addMirrored_33 : decode cX7_addMirrored 33 = .ok (.iload_n 3, 1) := by decide +kernel
theorem dX7_addMirrored_34 : decode cX7_addMirrored 34 = .ok (.goto 4, 3) := by decide +kernel
theorem dX7_addMirrored_37 : decode cX7_addMirrored 37 = .ok (.iload_n 1, 1) := by decide +kernel
theorem dX7_addMirrored_38 : decode cX7_addMirrored 38 = .ok (.istore 5, 2) := by decide +kernel
theorem dX7_addMirrored_40 : decode cX7_addMirrored 40 = .ok (.aload_n 0, 1) := by decide +kernel
theorem dX7_addMirrored_41 : decode cX7_addMirrored 41 = .ok (.iload_n 2, 1) := by decide +kernel
theorem dX7_addMirrored_42 : decode cX7_addMirrored 42 = .ok (.ifCond .ne 22, 3) := by decide +kernel
theorem dX7_addMirrored_45 : decode cX7_addMirrored 45 = .ok (.iload 4, 2) := by decide +kernel
theorem dX7_addMirrored_47 : decode cX7_addMirrored 47 = .ok (.iconst 2, 1) := by decide +kernel
theorem dX7_addMirrored_48 : decode cX7_addMirrored 48 = .ok (.irem, 1) := by decide +kernel
theorem dX7_addMirrored_49 : decode cX7_addMirrored 49 = .ok (.iconst 1, 1) := by decide +kernel
theorem dX7_addMirrored_50 : decode cX7_addMirrored 50 = .ok (.if_icmp .ne 14, 3) := by decide +kernel
theorem dX7_addMirrored_53 : decode cX7_addMirrored 53 = .ok (.iload 5, 2) := by decide +kernel
theorem dX7_addMirrored_55 : decode cX7_addMirrored 55 = .ok (.iconst 2, 1) := by decide +kernel
theorem dX7_addMirrored_56 : decode cX7_addMirrored 56 = .ok (.irem, 1) := by decide +kernel
theorem dX7_addMirrored_57 : decode cX7_addMirrored 57 = .ok (.ifCond .ne 7, 3) := by decide +kernel
theorem dX7_addMirrored_60 : decode cX7_addMirrored 60 = .ok (.iconst 3, 1) := by decide +kernel
theorem dX7_addMirrored_61 : decode cX7_addMirrored 61 = .ok (.goto 4, 3) := by decide +kernel
theorem dX7_addMirrored_64 : decode cX7_addMirrored 64 = .ok (.iload_n 2, 1) := by decide +kernel
theorem dX7_addMirrored_65 : decode cX7_addMirrored 65 = .ok (.invokevirtual 98, 3) := by decide +kernel
theorem dX7_addMirrored_68 : decode cX7_addMirrored 68 = .ok (.ifCond .eq 5, 3) := by decide +kernel
theorem dX7_addMirrored_71 : decode cX7_addMirrored 71 = .ok (.iconst 0, 1) := by decide +kernel
theorem dX7_addMirrored_72 : decode cX7_addMirrored 72 = .ok (.ireturn, 1) := by decide +kernel
theorem dX7_addMirrored_73 : decode cX7_addMirrored 73 = .ok (.aload_n 0, 1) := by decide +kernel
theorem dX7_addMirrored_74 : decode cX7_addMirrored 74 = .ok (.invokevirtual 102, 3) := by decide +kernel
theorem dX7_addMirrored_77 : decode cX7_addMirrored 77 = .ok (.aload_n 0, 1) := by decide +kernel
theorem dX7_addMirrored_78 : decode cX7_addMirrored 78 = .ok (.iload_n 1, 1) := by decide +kernel
theorem dX7_addMirrored_79 : decode cX7_addMirrored 79 = .ok (.iload_n 3, 1) := by decide +kernel
theorem dX7_addMirrored_80 : decode cX7_addMirrored 80 = .ok (.invokevirtual 123, 3) := by decide +kernel
theorem dX7_addMirrored_83 : decode cX7_addMirrored 83 = .ok (.aload_n 0, 1) := by decide +kernel
theorem dX7_addMirrored_84 : decode cX7_addMirrored 84 = .ok (.invokevirtual 92, 3) := by decide +kernel
theorem dX7_addMirrored_87 : decode cX7_addMirrored 87 = .ok (.aload_n 0, 1) := by decide +kernel
theorem dX7_addMirrored_88 : decode cX7_addMirrored 88 = .ok (.aload_n 0, 1) := by decide +kernel
theorem dX7_addMirrored_89 : decode cX7_addMirrored 89 = .ok (.invokevirtual 62, 3) := by decide +kernel
theorem dX7_addMirrored_92 : decode cX7_addMirrored 92 = .ok (.iconst 1, 1) := by decide +kernel
theorem dX7_addMirrored_93 : decode cX7_addMirrored 93 = .ok (.isub, 1) := by decide +kernel
theorem dX7_addMirrored_94 : decode cX7_addMirrored 94 = .ok (.invokevirtual 120, 3) := by decide +kernel
theorem dX7_addMirrored_97 : decode cX7_addMirrored 97 = .ok (.ireturn, 1) := by decide +kernel
theorem dX7_least_0 : decode cX7_least 0 = .ok (.iload_n 0, 1) := by decide +kernel
theorem dX7_least_1 : decode cX7_least 1 = .ok (.iload_n 1, 1) := by decide +kernel
theorem dX7_least_2 : decode cX7_least 2 = .ok (.if_icmp .ge 7, 3) := by decide +kernel
theorem dX7_least_5 : decode cX7_least 5 = .ok (.iload_n 0, 1) := by decide +kernel
theorem dX7_least_6 : decode cX7_least 6 = .ok (.goto 4, 3) := by decide +kernel
theorem dX7_least_9 : decode cX7_least 9 = .ok (.iload_n 1, 1) := by decide +kernel
theorem dX7_least_10 : decode cX7_least 10 = .ok (.ireturn, 1) := by decide +kernel
theorem dX7_within_0 : decode cX7_within 0 = .ok (.iload_n 0, 1) := by decide +kernel
theorem dX7_within_1 : decode cX7_within 1 = .ok (.iconst 3, 1) := by decide +kernel
theorem dX7_within_2 : decode cX7_within 2 = .ok (.if_icmp .ge 7, 3) := by decide +kernel
theorem dX7_within_5 : decode cX7_within 5 = .ok (.iconst 3, 1) := by decide +kernel
theorem dX7_within_6 : decode cX7_within 6 = .ok (.goto 15, 3) := by decide +kernel
theorem dX7_within_9 : decode cX7_within 9 = .ok (.iload_n 0, 1) := by decide +kernel
theorem dX7_within_10 : decode cX7_within 10 = .ok (.bipush 120, 2) := by decide +kernel
theorem dX7_within_12 : decode cX7_within 12 = .ok (.if_icmp .le 8, 3) := by decide +kernel
theorem dX7_within_15 : decode cX7_within 15 = .ok (.bipush 120, 2) := by decide +kernel
theorem dX7_within_17 : decode cX7_within 17 = .ok (.goto 4, 3) := by decide +kernel
theorem dX7_within_20 : decode cX7_within 20 = .ok (.iload_n 0, 1) := by decide +kernel
theorem dX7_within_21 : decode cX7_within 21 = .ok (.ireturn, 1) := by decide +kernel
set_option maxRecDepth 20000 in
theorem ggX7_goalOf_X7_worksOf : GoodIn wsX7_goalOf wsX7_worksOf := goodIn_r _ [5, 6, 13, 14, 15, 16, 17, 18, 19, 20, 21, 22, 23, 24, 25, 26, 27, 28] (by decide +kernel) (by decide +kernel)
set_option maxRecDepth 20000 in
theorem gX7_goalOf_X7_worksOf : GoodIn wsX7_goalOf (wsV RX7 54 RX7 yX7_worksOf wsX7_worksOf) := goodIn_app (goodIn_of _ (by decide +kernel)) ggX7_goalOf_X7_worksOf
set_option maxRecDepth 20000 in
theorem ggX7_goalOf_X7_within : GoodIn wsX7_goalOf wsX7_within := goodIn_r _ [9] (by decide +kernel) (by decide +kernel)
set_option maxRecDepth 20000 in
theorem gX7_goalOf_X7_within : GoodIn wsX7_goalOf (va_wsS RX7 126 yX7_within wsX7_within) := goodIn_app (goodIn_of _ (by decide +kernel)) ggX7_goalOf_X7_within
set_option maxRecDepth 20000 in
theorem ggX7_goalOf_X7_least : GoodIn wsX7_goalOf wsX7_least := goodIn_r _ [12] (by decide +kernel) (by decide +kernel)
set_option maxRecDepth 20000 in
theorem gX7_goalOf_X7_least : GoodIn wsX7_goalOf (va_wsS RX7 129 yX7_least wsX7_least) := goodIn_app (goodIn_of _ (by decide +kernel)) ggX7_goalOf_X7_least
theorem dX7_goalOf_0 : decode cX7_goalOf 0 = .ok (.aload_n 0, 1) := by decide +kernel
theorem dX7_goalOf_1 : decode cX7_goalOf 1 = .ok (.iconst 0, 1) := by decide +kernel
theorem dX7_goalOf_2 : decode cX7_goalOf 2 = .ok (.invokevirtual 54, 3) := by decide +kernel
theorem dX7_goalOf_5 : decode cX7_goalOf 5 = .ok (.istore 4, 2) := by decide +kernel
theorem dX7_goalOf_7 : decode cX7_goalOf 7 = .ok (.iload_n 1, 1) := by decide +kernel
theorem dX7_goalOf_8 : decode cX7_goalOf 8 = .ok (.tableswitch 105 0 3 #[32, 42, 64, 95], 32) := by decide +kernel
theorem dX7_goalOf_40 : decode cX7_goalOf 40 = .ok (.iload 4, 2) := by decide +kernel
theorem dX7_goalOf_42 : decode cX7_goalOf 42 = .ok (.iload_n 3, 1) := by decide +kernel
theorem dX7_goalOf_43 : decode cX7_goalOf 43 = .ok (.iconst 1, 1) := by decide +kernel
theorem dX7_goalOf_44 : decode cX7_goalOf 44 = .ok (.iadd, 1) := by decide +kernel
theorem dX7_goalOf_45 : decode cX7_goalOf 45 = .ok (.imul, 1) := by decide +kernel
theorem dX7_goalOf_46 : decode cX7_goalOf 46 = .ok (.invokestatic 126, 3) := by decide +kernel
theorem dX7_goalOf_49 : decode cX7_goalOf 49 = .ok (.ireturn, 1) := by decide +kernel
theorem dX7_goalOf_50 : decode cX7_goalOf 50 = .ok (.iload 4, 2) := by decide +kernel
theorem dX7_goalOf_52 : decode cX7_goalOf 52 = .ok (.iload_n 3, 1) := by decide +kernel
theorem dX7_goalOf_53 : decode cX7_goalOf 53 = .ok (.iconst 1, 1) := by decide +kernel
theorem dX7_goalOf_54 : decode cX7_goalOf 54 = .ok (.iadd, 1) := by decide +kernel
theorem dX7_goalOf_55 : decode cX7_goalOf 55 = .ok (.iload_n 2, 1) := by decide +kernel
theorem dX7_goalOf_56 : decode cX7_goalOf 56 = .ok (.iconst 3, 1) := by decide +kernel
theorem dX7_goalOf_57 : decode cX7_goalOf 57 = .ok (.iload_n 2, 1) := by decide +kernel
theorem dX7_goalOf_58 : decode cX7_goalOf 58 = .ok (.imul, 1) := by decide +kernel
theorem dX7_goalOf_59 : decode cX7_goalOf 59 = .ok (.iload_n 3, 1) := by decide +kernel
theorem dX7_goalOf_60 : decode cX7_goalOf 60 = .ok (.isub, 1) := by decide +kernel
theorem dX7_goalOf_61 : decode cX7_goalOf 61 = .ok (.invokestatic 129, 3) := by decide +kernel
theorem dX7_goalOf_64 : decode cX7_goalOf 64 = .ok (.invokestatic 129, 3) := by decide +kernel
theorem dX7_goalOf_67 : decode cX7_goalOf 67 = .ok (.imul, 1) := by decide +kernel
theorem dX7_goalOf_68 : decode cX7_goalOf 68 = .ok (.invokestatic 126, 3) := by decide +kernel
theorem dX7_goalOf_71 : decode cX7_goalOf 71 = .ok (.ireturn, 1) := by decide +kernel
theorem dX7_goalOf_72 : decode cX7_goalOf 72 = .ok (.iload 4, 2) := by decide +kernel
theorem dX7_goalOf_74 : decode cX7_goalOf 74 = .ok (.istore 5, 2) := by decide +kernel
theorem dX7_goalOf_76 : decode cX7_goalOf 76 = .ok (.iconst 0, 1) := by decide +kernel
theorem dX7_goalOf_77 : decode cX7_goalOf 77 = .ok (.istore 6, 2) := by decide +kernel
theorem dX7_goalOf_79 : decode cX7_goalOf 79 = .ok (.iload 6, 2) := by decide +kernel
theorem dX7_goalOf_81 : decode cX7_goalOf 81 = .ok (.iload_n 3, 1) := by decide +kernel
theorem dX7_goalOf_82 : decode cX7_goalOf 82 = .ok (.if_icmp .ge 18, 3) := by decide +kernel
theorem dX7_goalOf_85 : decode cX7_goalOf 85 = .ok (.iconst 2, 1) := by decide +kernel
theorem dX7_goalOf_86 : decode cX7_goalOf 86 = .ok (.iload 5, 2) := by decide +kernel
theorem dX7_goalOf_88 : decode cX7_goalOf 88 = .ok (.imul, 1) := by decide +kernel
theorem dX7_goalOf_89 : decode cX7_goalOf 89 = .ok (.invokestatic 126, 3) := by decide +kernel
theorem dX7_goalOf_92 : decode cX7_goalOf 92 = .ok (.istore 5, 2) := by decide +kernel
theorem dX7_goalOf_94 : decode cX7_goalOf 94 = .ok (.iinc 6 1, 3) := by decide +kernel
theorem dX7_goalOf_97 : decode cX7_goalOf 97 = .ok (.goto (-18), 3) := by decide +kernel
theorem dX7_goalOf_100 : decode cX7_goalOf 100 = .ok (.iload 5, 2) := by decide +kernel
theorem dX7_goalOf_102 : decode cX7_goalOf 102 = .ok (.ireturn, 1) := by decide +kernel
theorem dX7_goalOf_103 : decode cX7_goalOf 103 = .ok (.iload 4, 2) := by decide +kernel
theorem dX7_goalOf_105 : decode cX7_goalOf 105 = .ok (.iload_n 3, 1) := by decide +kernel
theorem dX7_goalOf_106 : decode cX7_goalOf 106 = .ok (.iload_n 2, 1) := by decide +kernel
theorem dX7_goalOf_107 : decode cX7_goalOf 107 = .ok (.imul, 1) := by decide +kernel
theorem dX7_goalOf_108 : decode cX7_goalOf 108 = .ok (.iadd, 1) := by decide +kernel
theorem dX7_goalOf_109 : decode cX7_goalOf 109 = .ok (.invokestatic 126, 3) := by decide +kernel
theorem dX7_goalOf_112 : decode cX7_goalOf 112 = .ok (.ireturn, 1) := by decide +kernel
theorem dX7_goalOf_113 : decode cX7_goalOf 113 = .ok (.iload 4, 2) := by decide +kernel
theorem dX7_goalOf_115 : decode cX7_goalOf 115 = .ok (.iload_n 3, 1) := by decide +kernel
theorem dX7_goalOf_116 : decode cX7_goalOf 116 = .ok (.iconst 1, 1) := by decide +kernel
theorem dX7_goalOf_117 : decode cX7_goalOf 117 = .ok (.iadd, 1) := by decide +kernel
theorem dX7_goalOf_118 : decode cX7_goalOf 118 = .ok (.iload_n 2, 1) := by decide +kernel
theorem dX7_goalOf_119 : decode cX7_goalOf 119 = .ok (.invokestatic 129, 3) := by decide +kernel
theorem dX7_goalOf_122 : decode cX7_goalOf 122 = .ok (.imul, 1) := by decide +kernel
theorem dX7_goalOf_123 : decode cX7_goalOf 123 = .ok (.invokestatic 126, 3) := by decide +kernel
theorem dX7_goalOf_126 : decode cX7_goalOf 126 = .ok (.ireturn, 1) := by decide +kernel
set_option maxRecDepth 20000 in
theorem ggX7_isShape_X7_in : GoodIn wsX7_isShape wsX7_in := goodIn_r _ [4] (by decide +kernel) (by decide +kernel)
set_option maxRecDepth 20000 in
theorem gX7_isShape_X7_in : GoodIn wsX7_isShape (va_wsS RX7 95 yX7_in wsX7_in) := goodIn_app (goodIn_of _ (by decide +kernel)) ggX7_isShape_X7_in
theorem dX7_isShape_0 : decode cX7_isShape 0 = .ok (.iload_n 0, 1) := by decide +kernel
theorem dX7_isShape_1 : decode cX7_isShape 1 = .ok (.iconst 0, 1) := by decide +kernel
theorem dX7_isShape_2 : decode cX7_isShape 2 = .ok (.iconst 4, 1) := by decide +kernel
theorem dX7_isShape_3 : decode cX7_isShape 3 = .ok (.invokestatic 95, 3) := by decide +kernel
theorem dX7_isShape_6 : decode cX7_isShape 6 = .ok (.ifCond .eq 17, 3) := by decide +kernel
theorem dX7_isShape_9 : decode cX7_isShape 9 = .ok (.iload_n 1, 1) := by decide +kernel
theorem dX7_isShape_10 : decode cX7_isShape 10 = .ok (.iconst 1, 1) := by decide +kernel
theorem dX7_isShape_11 : decode cX7_isShape 11 = .ok (.bipush 20, 2) := by decide +kernel
theorem dX7_isShape_13 : decode cX7_isShape 13 = .ok (.invokestatic 95, 3) := by decide +kernel
theorem dX7_isShape_16 : decode cX7_isShape 16 = .ok (.ifCond .eq 7, 3) := by decide +kernel
theorem dX7_isShape_19 : decode cX7_isShape 19 = .ok (.iconst 1, 1) := by decide +kernel
theorem dX7_isShape_20 : decode cX7_isShape 20 = .ok (.goto 4, 3) := by decide +kernel
theorem dX7_isShape_23 : decode cX7_isShape 23 = .ok (.iconst 0, 1) := by decide +kernel
theorem dX7_isShape_24 : decode cX7_isShape 24 = .ok (.ireturn, 1) := by decide +kernel
set_option maxRecDepth 20000 in
theorem ggX7_addShape_X7_isShape : GoodIn wsX7_addShape wsX7_isShape := goodIn_r _ [4, 5, 6, 3, 7] (by decide +kernel) (by decide +kernel)
set_option maxRecDepth 20000 in
theorem gX7_addShape_X7_isShape : GoodIn wsX7_addShape (va_wsS RX7 132 yX7_isShape wsX7_isShape) := goodIn_app (goodIn_of _ (by decide +kernel)) ggX7_addShape_X7_isShape
set_option maxRecDepth 20000 in
theorem ggX7_addShape_X7_in : GoodIn wsX7_addShape wsX7_in := goodIn_r _ [7] (by decide +kernel) (by decide +kernel)
set_option maxRecDepth 20000 in
theorem gX7_addShape_X7_in : GoodIn wsX7_addShape (va_wsS RX7 95 yX7_in wsX7_in) := goodIn_app (goodIn_of _ (by decide +kernel)) ggX7_addShape_X7_in
set_option maxRecDepth 20000 in
theorem ggX7_addShape_X7_throwsAt : GoodIn wsX7_addShape wsX7_throwsAt := goodIn_r _ [11, 12, 88, 89, 90, 91, 92, 93, 94, 95, 96, 97, 98, 99, 100, 101, 102, 103] (by decide +kernel) (by decide +kernel)
set_option maxRecDepth 20000 in
theorem gX7_addShape_X7_throwsAt : GoodIn wsX7_addShape (wsV RX7 98 RX7 yX7_throwsAt wsX7_throwsAt) := goodIn_app (goodIn_of _ (by decide +kernel)) ggX7_addShape_X7_throwsAt
set_option maxRecDepth 20000 in
theorem ggX7_addShape_X7_saves : GoodIn wsX7_addShape wsX7_saves := goodIn_r _ [16, 17, 18, 19, 88, 89, 90, 91, 92, 93, 94, 95, 96, 97, 98, 99, 100, 101, 102, 103] (by decide +kernel) (by decide +kernel)
set_option maxRecDepth 20000 in
theorem gX7_addShape_X7_saves : GoodIn wsX7_addShape (wsV RX7 102 RX7 yX7_saves wsX7_saves) := goodIn_app (goodIn_of _ (by decide +kernel)) ggX7_addShape_X7_saves
set_option maxRecDepth 20000 in
theorem ggX7_addShape_X7_rounds : GoodIn wsX7_addShape wsX7_rounds := goodIn_r _ [23, 19, 88, 89, 90, 91, 92, 93, 94, 95, 96, 97, 98, 99, 100, 101, 102, 103] (by decide +kernel) (by decide +kernel)
set_option maxRecDepth 20000 in
theorem gX7_addShape_X7_rounds : GoodIn wsX7_addShape (wsV RX7 62 RX7 yX7_rounds wsX7_rounds) := goodIn_app (goodIn_of _ (by decide +kernel)) ggX7_addShape_X7_rounds
set_option maxRecDepth 20000 in
theorem ggX7_addShape_X7_goalOf : GoodIn wsX7_addShape wsX7_goalOf := goodIn_r _ [27, 28, 29, 30, 3, 31, 19, 32, 33, 34, 35, 36, 37, 88, 89, 90, 91, 92, 93, 94, 95, 96, 97, 98, 99, 100, 101, 102, 103] (by decide +kernel) (by decide +kernel)
set_option maxRecDepth 20000 in
theorem gX7_addShape_X7_goalOf : GoodIn wsX7_addShape (wsV RX7 135 RX7 yX7_goalOf wsX7_goalOf) := goodIn_app (goodIn_of _ (by decide +kernel)) ggX7_addShape_X7_goalOf
set_option maxRecDepth 20000 in
theorem ggX7_addShape_X7_whyNot : GoodIn wsX7_addShape wsX7_whyNot := goodIn_r _ [41, 5, 6, 3, 7, 20, 21, 22, 23, 19, 42, 43, 44, 45, 46, 47, 48, 49, 28, 29, 30, 31, 50, 51, 52, 53, 54, 55, 56, 57, 88, 89, 90, 91, 92, 93, 94, 95, 96, 97, 98, 99, 100, 101, 102, 103] (by decide +kernel) (by decide +kernel)
set_option maxRecDepth 20000 in
theorem gX7_addShape_X7_whyNot : GoodIn wsX7_addShape (wsV RX7 109 RX7 yX7_whyNot wsX7_whyNot) := goodIn_app (goodIn_of _ (by decide +kernel)) ggX7_addShape_X7_whyNot
set_option maxRecDepth 20000 in
theorem ggX7_addShape_X7_bestShift : GoodIn wsX7_addShape wsX7_bestShift := goodIn_r _ [61, 42, 43, 44, 3, 45, 20, 21, 22, 23, 19, 46, 47, 48, 49, 28, 29, 30, 31, 50, 51, 52, 53, 54, 62, 63, 64, 65, 66, 67, 68, 69, 70, 71, 72, 73, 74, 75, 76, 77, 78, 79, 88, 89, 90, 91, 92, 93, 94, 95, 96, 97, 98, 99, 100, 101, 102, 103] (by decide +kernel) (by decide +kernel)
set_option maxRecDepth 20000 in
theorem gX7_addShape_X7_bestShift : GoodIn wsX7_addShape (wsV RX7 113 RX7 yX7_bestShift wsX7_bestShift) := goodIn_app (goodIn_of _ (by decide +kernel)) ggX7_addShape_X7_bestShift
set_option maxRecDepth 20000 in
theorem ggX7_addShape_X7_addsBest : GoodIn wsX7_addShape wsX7_addsBest := goodIn_r _ [83, 42, 43, 44, 3, 45, 20, 21, 22, 23, 19, 46, 47, 48, 49, 28, 29, 30, 31, 50, 51, 52, 53, 54, 67, 68, 69, 70, 71, 72, 73, 74, 75, 84, 85, 86, 87, 88, 89, 90, 91, 92, 93, 94, 95, 96, 97, 98, 99, 100, 101, 102, 103] (by decide +kernel) (by decide +kernel)
set_option maxRecDepth 20000 in
theorem gX7_addShape_X7_addsBest : GoodIn wsX7_addShape (wsV RX7 116 RX7 yX7_addsBest wsX7_addsBest) := goodIn_app (goodIn_of _ (by decide +kernel)) ggX7_addShape_X7_addsBest
theorem dX7_addShape_0 : decode cX7_addShape 0 = .ok (.aload_n 0, 1) := by decide +kernel
theorem dX7_addShape_1 : decode cX7_addShape 1 = .ok (.iload_n 1, 1) := by decide +kernel
theorem dX7_addShape_2 : decode cX7_addShape 2 = .ok (.iload_n 2, 1) := by decide +kernel
theorem dX7_addShape_3 : decode cX7_addShape 3 = .ok (.invokestatic 132, 3) := by decide +kernel
theorem dX7_addShape_6 : decode cX7_addShape 6 = .ok (.ifCond .eq 17, 3) := by decide +kernel
theorem dX7_addShape_9 : decode cX7_addShape 9 = .ok (.iload_n 3, 1) := by decide +kernel
theorem dX7_addShape_10 : decode cX7_addShape 10 = .ok (.iconst 1, 1) := by decide +kernel
theorem dX7_addShape_11 : decode cX7_addShape 11 = .ok (.bipush 39, 2) := by decide +kernel
theorem dX7_addShape_13 : decode cX7_addShape 13 = .ok (.invokestatic 95, 3) := by decide +kernel
theorem dX7_addShape_16 : decode cX7_addShape 16 = .ok (.ifCond .eq 7, 3) := by decide +kernel
theorem dX7_addShape_19 : decode cX7_addShape 19 = .ok (.iconst 0, 1) := by decide +kernel
theorem dX7_addShape_20 : decode cX7_addShape 20 = .ok (.goto 4, 3) := by decide +kernel
theorem dX7_addShape_23 : decode cX7_addShape 23 = .ok (.iconst 1, 1) := by decide +kernel
theorem dX7_addShape_24 : decode cX7_addShape 24 = .ok (.invokevirtual 98, 3) := by decide +kernel
theorem dX7_addShape_27 : decode cX7_addShape 27 = .ok (.ifCond .eq 5, 3) := by decide +kernel
theorem dX7_addShape_30 : decode cX7_addShape 30 = .ok (.iconst 0, 1) := by decide +kernel
theorem dX7_addShape_31 : decode cX7_addShape 31 = .ok (.ireturn, 1) := by decide +kernel
theorem dX7_addShape_32 : decode cX7_addShape 32 = .ok (.aload_n 0, 1) := by decide +kernel
theorem dX7_addShape_33 : decode cX7_addShape 33 = .ok (.invokevirtual 102, 3) := by decide +kernel
theorem dX7_addShape_36 : decode cX7_addShape 36 = .ok (.iconst 0, 1) := by decide +kernel
theorem dX7_addShape_37 : decode cX7_addShape 37 = .ok (.istore 4, 2) := by decide +kernel
theorem dX7_addShape_39 : decode cX7_addShape 39 = .ok (.iconst 1, 1) := by decide +kernel
theorem dX7_addShape_40 : decode cX7_addShape 40 = .ok (.istore 5, 2) := by decide +kernel
theorem dX7_addShape_42 : decode cX7_addShape 42 = .ok (.iload 5, 2) := by decide +kernel
theorem dX7_addShape_44 : decode cX7_addShape 44 = .ok (.ifCond .eq 61, 3) := by decide +kernel
theorem dX7_addShape_47 : decode cX7_addShape 47 = .ok (.iload 4, 2) := by decide +kernel
theorem dX7_addShape_49 : decode cX7_addShape 49 = .ok (.iload_n 3, 1) := by decide +kernel
theorem dX7_addShape_50 : decode cX7_addShape 50 = .ok (.if_icmp .ge 55, 3) := by decide +kernel
theorem dX7_addShape_53 : decode cX7_addShape 53 = .ok (.aload_n 0, 1) := by decide +kernel
theorem dX7_addShape_54 : decode cX7_addShape 54 = .ok (.iload_n 1, 1) := by decide +kernel
theorem dX7_addShape_55 : decode cX7_addShape 55 = .ok (.iload_n 2, 1) := by decide +kernel
theorem dX7_addShape_56 : decode cX7_addShape 56 = .ok (.aload_n 0, 1) := by decide +kernel
theorem dX7_addShape_57 : decode cX7_addShape 57 = .ok (.invokevirtual 62, 3) := by decide +kernel
theorem dX7_addShape_60 : decode cX7_addShape 60 = .ok (.invokevirtual 135, 3) := by decide +kernel
theorem dX7_addShape_63 : decode cX7_addShape 63 = .ok (.istore 6, 2) := by decide +kernel
theorem dX7_addShape_65 : decode cX7_addShape 65 = .ok (.aload_n 0, 1) := by decide +kernel
theorem dX7_addShape_66 : decode cX7_addShape 66 = .ok (.iconst 1, 1) := by decide +kernel
theorem dX7_addShape_67 : decode cX7_addShape 67 = .ok (.iload 6, 2) := by decide +kernel
theorem dX7_addShape_69 : decode cX7_addShape 69 = .ok (.invokevirtual 109, 3) := by decide +kernel
theorem dX7_addShape_72 : decode cX7_addShape 72 = .ok (.ifCond .ne 7, 3) := by decide +kernel
theorem dX7_addShape_75 : decode cX7_addShape 75 = .ok (.iconst 1, 1) := by decide +kernel
theorem dX7_addShape_76 : decode cX7_addShape 76 = .ok (.goto 4, 3) := by decide +kernel
theorem dX7_addShape_79 : decode cX7_addShape 79 = .ok (.iconst 0, 1) := by decide +kernel
theorem dX7_addShape_80 : decode cX7_addShape 80 = .ok (.istore 5, 2) := by decide +kernel
theorem dX7_addShape_82 : decode cX7_addShape 82 = .ok (.iload 5, 2) := by decide +kernel
theorem dX7_addShape_84 : decode cX7_addShape 84 = .ok (.ifCond .eq 18, 3) := by decide +kernel
theorem dX7_addShape_87 : decode cX7_addShape 87 = .ok (.aload_n 0, 1) := by decide +kernel
theorem dX7_addShape_88 : decode cX7_addShape 88 = .ok (.iload 6, 2) := by decide +kernel
theorem dX7_addShape_90 : decode cX7_addShape 90 = .ok (.aload_n 0, 1) := by decide +kernel
theorem dX7_addShape_91 : decode cX7_addShape 91 = .ok (.iload 6, 2) := by decide +kernel
theorem dX7_addShape_93 : decode cX7_addShape 93 = .ok (.invokevirtual 113, 3) := by decide +kernel
theorem dX7_addShape_96 : decode cX7_addShape 96 = .ok (.invokevirtual 116, 3) := by decide +kernel
theorem dX7_addShape_99 : decode cX7_addShape 99 = .ok (.iinc 4 1, 3) := by decide +kernel
theorem dX7_addShape_102 : decode cX7_addShape 102 = .ok (.goto (-60), 3) := by decide +kernel
theorem dX7_addShape_105 : decode cX7_addShape 105 = .ok (.iload 4, 2) := by decide +kernel
theorem dX7_addShape_107 : decode cX7_addShape 107 = .ok (.ireturn, 1) := by decide +kernel
set_option maxRecDepth 20000 in
theorem ggX7_rip_X7_rounds : GoodIn wsX7_rip wsX7_rounds := goodIn_r _ [6, 1, 35, 36, 37, 38, 39, 40, 41, 42, 43, 44, 45, 46, 47, 48, 49, 50] (by decide +kernel) (by decide +kernel)
set_option maxRecDepth 20000 in
theorem gX7_rip_X7_rounds : GoodIn wsX7_rip (wsV RX7 62 RX7 yX7_rounds wsX7_rounds) := goodIn_app (goodIn_of _ (by decide +kernel)) ggX7_rip_X7_rounds
set_option maxRecDepth 20000 in
theorem ggX7_rip_X7_throwsAt : GoodIn wsX7_rip wsX7_throwsAt := goodIn_r _ [10, 11, 35, 36, 37, 38, 39, 40, 41, 42, 43, 44, 45, 46, 47, 48, 49, 50] (by decide +kernel) (by decide +kernel)
set_option maxRecDepth 20000 in
theorem gX7_rip_X7_throwsAt : GoodIn wsX7_rip (wsV RX7 98 RX7 yX7_throwsAt wsX7_throwsAt) := goodIn_app (goodIn_of _ (by decide +kernel)) ggX7_rip_X7_throwsAt
set_option maxRecDepth 20000 in
theorem ggX7_rip_X7_saves : GoodIn wsX7_rip wsX7_saves := goodIn_r _ [15, 16, 17, 1, 35, 36, 37, 38, 39, 40, 41, 42, 43, 44, 45, 46, 47, 48, 49, 50] (by decide +kernel) (by decide +kernel)
set_option maxRecDepth 20000 in
theorem gX7_rip_X7_saves : GoodIn wsX7_rip (wsV RX7 102 RX7 yX7_saves wsX7_saves) := goodIn_app (goodIn_of _ (by decide +kernel)) ggX7_rip_X7_saves
set_option maxRecDepth 20000 in
theorem ggX7_rip_X7_last : GoodIn wsX7_rip wsX7_last := goodIn_r _ [21, 2, 3, 4, 5, 6, 1, 22, 23, 24, 25, 26, 27, 28, 29, 30, 31, 32, 33, 34, 35, 36, 37, 38, 39, 40, 41, 42, 43, 44, 45, 46, 47, 48, 49, 50] (by decide +kernel) (by decide +kernel)
set_option maxRecDepth 20000 in
theorem gX7_rip_X7_last : GoodIn wsX7_rip (wsV RX7 85 RX7 yX7_last wsX7_last) := goodIn_app (goodIn_of _ (by decide +kernel)) ggX7_rip_X7_last
theorem dX7_rip_0 : decode cX7_rip 0 = .ok (.aload_n 0, 1) := by decide +kernel
theorem dX7_rip_1 : decode cX7_rip 1 = .ok (.iload_n 1, 1) := by decide +kernel
theorem dX7_rip_2 : decode cX7_rip 2 = .ok (.iconst 1, 1) := by decide +kernel
theorem dX7_rip_3 : decode cX7_rip 3 = .ok (.if_icmp .ge 7, 3) := by decide +kernel
theorem dX7_rip_6 : decode cX7_rip 6 = .ok (.iconst 1, 1) := by decide +kernel
theorem dX7_rip_7 : decode cX7_rip 7 = .ok (.goto 16, 3) := by decide +kernel
theorem dX7_rip_10 : decode cX7_rip 10 = .ok (.iload_n 1, 1) := by decide +kernel
theorem dX7_rip_11 : decode cX7_rip 11 = .ok (.aload_n 0, 1) := by decide +kernel
theorem dX7_rip_12 : decode cX7_rip 12 = .ok (.invokevirtual 62, 3) := by decide +kernel
theorem dX7_rip_15 : decode cX7_rip 15 = .ok (.if_icmp .lt 7, 3) := by decide +kernel
theorem dX7_rip_18 : decode cX7_rip 18 = .ok (.iconst 2, 1) := by decide +kernel
theorem dX7_rip_19 : decode cX7_rip 19 = .ok (.goto 4, 3) := by decide +kernel
theorem dX7_rip_22 : decode cX7_rip 22 = .ok (.iconst 0, 1) := by decide +kernel
theorem dX7_rip_23 : decode cX7_rip 23 = .ok (.invokevirtual 98, 3) := by decide +kernel
theorem dX7_rip_26 : decode cX7_rip 26 = .ok (.ifCond .eq 5, 3) := by decide +kernel
theorem dX7_rip_29 : decode cX7_rip 29 = .ok (.iconst 0, 1) := by decide +kernel
theorem dX7_rip_30 : decode cX7_rip 30 = .ok (.ireturn, 1) := by decide +kernel
theorem dX7_rip_31 : decode cX7_rip 31 = .ok (.aload_n 0, 1) := by decide +kernel
theorem dX7_rip_32 : decode cX7_rip 32 = .ok (.invokevirtual 102, 3) := by decide +kernel
theorem dX7_rip_35 : decode cX7_rip 35 = .ok (.aload_n 0, 1) := by decide +kernel
theorem dX7_rip_36 : decode cX7_rip 36 = .ok (.getfield 7, 3) := by decide +kernel
theorem dX7_rip_39 : decode cX7_rip 39 = .ok (.iconst 0, 1) := by decide +kernel
theorem dX7_rip_40 : decode cX7_rip 40 = .ok (.dup2, 1) := by decide +kernel
theorem dX7_rip_41 : decode cX7_rip 41 = .ok (.laload, 1) := by decide +kernel
theorem dX7_rip_42 : decode cX7_rip 42 = .ok (.iload_n 1, 1) := by decide +kernel
theorem dX7_rip_43 : decode cX7_rip 43 = .ok (.i2l, 1) := by decide +kernel
theorem dX7_rip_44 : decode cX7_rip 44 = .ok (.lsub, 1) := by decide +kernel
theorem dX7_rip_45 : decode cX7_rip 45 = .ok (.lastore, 1) := by decide +kernel
theorem dX7_rip_46 : decode cX7_rip 46 = .ok (.aload_n 0, 1) := by decide +kernel
theorem dX7_rip_47 : decode cX7_rip 47 = .ok (.invokevirtual 62, 3) := by decide +kernel
theorem dX7_rip_50 : decode cX7_rip 50 = .ok (.istore_n 2, 1) := by decide +kernel
theorem dX7_rip_51 : decode cX7_rip 51 = .ok (.iload_n 2, 1) := by decide +kernel
theorem dX7_rip_52 : decode cX7_rip 52 = .ok (.bipush 40, 2) := by decide +kernel
theorem dX7_rip_54 : decode cX7_rip 54 = .ok (.if_icmp .ge 18, 3) := by decide +kernel
theorem dX7_rip_57 : decode cX7_rip 57 = .ok (.aload_n 0, 1) := by decide +kernel
theorem dX7_rip_58 : decode cX7_rip 58 = .ok (.getfield 7, 3) := by decide +kernel
theorem dX7_rip_61 : decode cX7_rip 61 = .ok (.iconst 5, 1) := by decide +kernel
theorem dX7_rip_62 : decode cX7_rip 62 = .ok (.iload_n 2, 1) := by decide +kernel
theorem dX7_rip_63 : decode cX7_rip 63 = .ok (.iadd, 1) := by decide +kernel
theorem dX7_rip_64 : decode cX7_rip 64 = .ok (.lconst 0, 1) := by decide +kernel
theorem dX7_rip_65 : decode cX7_rip 65 = .ok (.lastore, 1) := by decide +kernel
theorem dX7_rip_66 : decode cX7_rip 66 = .ok (.iinc 2 1, 3) := by decide +kernel
theorem dX7_rip_69 : decode cX7_rip 69 = .ok (.goto (-18), 3) := by decide +kernel
theorem dX7_rip_72 : decode cX7_rip 72 = .ok (.bipush 45, 2) := by decide +kernel
theorem dX7_rip_74 : decode cX7_rip 74 = .ok (.iconst 4, 1) := by decide +kernel
theorem dX7_rip_75 : decode cX7_rip 75 = .ok (.aload_n 0, 1) := by decide +kernel
theorem dX7_rip_76 : decode cX7_rip 76 = .ok (.invokevirtual 62, 3) := by decide +kernel
theorem dX7_rip_79 : decode cX7_rip 79 = .ok (.imul, 1) := by decide +kernel
theorem dX7_rip_80 : decode cX7_rip 80 = .ok (.iadd, 1) := by decide +kernel
theorem dX7_rip_81 : decode cX7_rip 81 = .ok (.istore_n 2, 1) := by decide +kernel
theorem dX7_rip_82 : decode cX7_rip 82 = .ok (.iload_n 2, 1) := by decide +kernel
theorem dX7_rip_83 : decode cX7_rip 83 = .ok (.sipush 205, 3) := by decide +kernel
theorem dX7_rip_86 : decode cX7_rip 86 = .ok (.if_icmp .ge 16, 3) := by decide +kernel
theorem dX7_rip_89 : decode cX7_rip 89 = .ok (.aload_n 0, 1) := by decide +kernel
theorem dX7_rip_90 : decode cX7_rip 90 = .ok (.getfield 7, 3) := by decide +kernel
theorem dX7_rip_93 : decode cX7_rip 93 = .ok (.iload_n 2, 1) := by decide +kernel
theorem dX7_rip_94 : decode cX7_rip 94 = .ok (.lconst 0, 1) := by decide +kernel
theorem dX7_rip_95 : decode cX7_rip 95 = .ok (.lastore, 1) := by decide +kernel
theorem dX7_rip_96 : decode cX7_rip 96 = .ok (.iinc 2 1, 3) := by decide +kernel
theorem dX7_rip_99 : decode cX7_rip 99 = .ok (.goto (-17), 3) := by decide +kernel
theorem dX7_rip_102 : decode cX7_rip 102 = .ok (.aload_n 0, 1) := by decide +kernel
theorem dX7_rip_103 : decode cX7_rip 103 = .ok (.invokevirtual 85, 3) := by decide +kernel
theorem dX7_rip_106 : decode cX7_rip 106 = .ok (.ireturn, 1) := by decide +kernel
set_option maxRecDepth 20000 in
theorem ggX7_setYarn_X7_in : GoodIn wsX7_setYarn wsX7_in := goodIn_r _ [5] (by decide +kernel) (by decide +kernel)
set_option maxRecDepth 20000 in
theorem gX7_setYarn_X7_in : GoodIn wsX7_setYarn (va_wsS RX7 95 yX7_in wsX7_in) := goodIn_app (goodIn_of _ (by decide +kernel)) ggX7_setYarn_X7_in
set_option maxRecDepth 20000 in
theorem ggX7_setYarn_X7_throwsAt : GoodIn wsX7_setYarn wsX7_throwsAt := goodIn_r _ [9, 10, 17, 18, 19, 20, 21, 22, 23, 24, 25, 26, 27, 28, 29, 30, 31, 32] (by decide +kernel) (by decide +kernel)
set_option maxRecDepth 20000 in
theorem gX7_setYarn_X7_throwsAt : GoodIn wsX7_setYarn (wsV RX7 98 RX7 yX7_throwsAt wsX7_throwsAt) := goodIn_app (goodIn_of _ (by decide +kernel)) ggX7_setYarn_X7_throwsAt
set_option maxRecDepth 20000 in
theorem ggX7_setYarn_X7_saves : GoodIn wsX7_setYarn wsX7_saves := goodIn_r _ [14, 15, 16, 1, 17, 18, 19, 20, 21, 22, 23, 24, 25, 26, 27, 28, 29, 30, 31, 32] (by decide +kernel) (by decide +kernel)
set_option maxRecDepth 20000 in
theorem gX7_setYarn_X7_saves : GoodIn wsX7_setYarn (wsV RX7 102 RX7 yX7_saves wsX7_saves) := goodIn_app (goodIn_of _ (by decide +kernel)) ggX7_setYarn_X7_saves
theorem dX7_setYarn_0 : decode cX7_setYarn 0 = .ok (.aload_n 0, 1) := by decide +kernel
theorem dX7_setYarn_1 : decode cX7_setYarn 1 = .ok (.iload_n 1, 1) := by decide +kernel
theorem dX7_setYarn_2 : decode cX7_setYarn 2 = .ok (.iconst 0, 1) := by decide +kernel
theorem dX7_setYarn_3 : decode cX7_setYarn 3 = .ok (.iconst 2, 1) := by decide +kernel
theorem dX7_setYarn_4 : decode cX7_setYarn 4 = .ok (.invokestatic 95, 3) := by decide +kernel
theorem dX7_setYarn_7 : decode cX7_setYarn 7 = .ok (.ifCond .eq 17, 3) := by decide +kernel
theorem dX7_setYarn_10 : decode cX7_setYarn 10 = .ok (.iload_n 2, 1) := by decide +kernel
theorem dX7_setYarn_11 : decode cX7_setYarn 11 = .ok (.iconst 1, 1) := by decide +kernel
theorem dX7_setYarn_12 : decode cX7_setYarn 12 = .ok (.bipush 60, 2) := by decide +kernel
theorem dX7_setYarn_14 : decode cX7_setYarn 14 = .ok (.invokestatic 95, 3) := by decide +kernel
theorem dX7_setYarn_17 : decode cX7_setYarn 17 = .ok (.ifCond .eq 7, 3) := by decide +kernel
theorem dX7_setYarn_20 : decode cX7_setYarn 20 = .ok (.iconst 0, 1) := by decide +kernel
theorem dX7_setYarn_21 : decode cX7_setYarn 21 = .ok (.goto 4, 3) := by decide +kernel
theorem dX7_setYarn_24 : decode cX7_setYarn 24 = .ok (.iconst 1, 1) := by decide +kernel
theorem dX7_setYarn_25 : decode cX7_setYarn 25 = .ok (.invokevirtual 98, 3) := by decide +kernel
theorem dX7_setYarn_28 : decode cX7_setYarn 28 = .ok (.ifCond .eq 5, 3) := by decide +kernel
theorem dX7_setYarn_31 : decode cX7_setYarn 31 = .ok (.iconst 0, 1) := by decide +kernel
theorem dX7_setYarn_32 : decode cX7_setYarn 32 = .ok (.ireturn, 1) := by decide +kernel
theorem dX7_setYarn_33 : decode cX7_setYarn 33 = .ok (.aload_n 0, 1) := by decide +kernel
theorem dX7_setYarn_34 : decode cX7_setYarn 34 = .ok (.invokevirtual 102, 3) := by decide +kernel
theorem dX7_setYarn_37 : decode cX7_setYarn 37 = .ok (.aload_n 0, 1) := by decide +kernel
theorem dX7_setYarn_38 : decode cX7_setYarn 38 = .ok (.getfield 7, 3) := by decide +kernel
theorem dX7_setYarn_41 : decode cX7_setYarn 41 = .ok (.iconst 2, 1) := by decide +kernel
theorem dX7_setYarn_42 : decode cX7_setYarn 42 = .ok (.iload_n 1, 1) := by decide +kernel
theorem dX7_setYarn_43 : decode cX7_setYarn 43 = .ok (.iadd, 1) := by decide +kernel
theorem dX7_setYarn_44 : decode cX7_setYarn 44 = .ok (.laload, 1) := by decide +kernel
theorem dX7_setYarn_45 : decode cX7_setYarn 45 = .ok (.l2i, 1) := by decide +kernel
theorem dX7_setYarn_46 : decode cX7_setYarn 46 = .ok (.istore_n 3, 1) := by decide +kernel
theorem dX7_setYarn_47 : decode cX7_setYarn 47 = .ok (.aload_n 0, 1) := by decide +kernel
theorem dX7_setYarn_48 : decode cX7_setYarn 48 = .ok (.getfield 7, 3) := by decide +kernel
theorem dX7_setYarn_51 : decode cX7_setYarn 51 = .ok (.iconst 2, 1) := by decide +kernel
theorem dX7_setYarn_52 : decode cX7_setYarn 52 = .ok (.iload_n 1, 1) := by decide +kernel
theorem dX7_setYarn_53 : decode cX7_setYarn 53 = .ok (.iadd, 1) := by decide +kernel
theorem dX7_setYarn_54 : decode cX7_setYarn 54 = .ok (.iload_n 2, 1) := by decide +kernel
theorem dX7_setYarn_55 : decode cX7_setYarn 55 = .ok (.i2l, 1) := by decide +kernel
theorem dX7_setYarn_56 : decode cX7_setYarn 56 = .ok (.lastore, 1) := by decide +kernel
theorem dX7_setYarn_57 : decode cX7_setYarn 57 = .ok (.iload_n 3, 1) := by decide +kernel
theorem dX7_setYarn_58 : decode cX7_setYarn 58 = .ok (.ireturn, 1) := by decide +kernel
set_option maxRecDepth 20000 in
theorem ggX7_setSpiral_X7_saves : GoodIn wsX7_setSpiral wsX7_saves := goodIn_r _ [7, 8, 9, 2, 10, 11, 12, 13, 14, 15, 16, 17, 18, 19, 20, 21, 22, 23, 24, 25] (by decide +kernel) (by decide +kernel)
set_option maxRecDepth 20000 in
theorem gX7_setSpiral_X7_saves : GoodIn wsX7_setSpiral (wsV RX7 102 RX7 yX7_saves wsX7_saves) := goodIn_app (goodIn_of _ (by decide +kernel)) ggX7_setSpiral_X7_saves
theorem dX7_setSpiral_0 : decode cX7_setSpiral 0 = .ok (.aload_n 0, 1) := by decide +kernel
theorem dX7_setSpiral_1 : decode cX7_setSpiral 1 = .ok (.iconst 0, 1) := by decide +kernel
theorem dX7_setSpiral_2 : decode cX7_setSpiral 2 = .ok (.putfield 45, 3) := by decide +kernel
theorem dX7_setSpiral_5 : decode cX7_setSpiral 5 = .ok (.aload_n 0, 1) := by decide +kernel
theorem dX7_setSpiral_6 : decode cX7_setSpiral 6 = .ok (.invokevirtual 102, 3) := by decide +kernel
theorem dX7_setSpiral_9 : decode cX7_setSpiral 9 = .ok (.aload_n 0, 1) := by decide +kernel
theorem dX7_setSpiral_10 : decode cX7_setSpiral 10 = .ok (.getfield 7, 3) := by decide +kernel
theorem dX7_setSpiral_13 : decode cX7_setSpiral 13 = .ok (.iconst 1, 1) := by decide +kernel
theorem dX7_setSpiral_14 : decode cX7_setSpiral 14 = .ok (.laload, 1) := by decide +kernel
theorem dX7_setSpiral_15 : decode cX7_setSpiral 15 = .ok (.lconst 1, 1) := by decide +kernel
theorem dX7_setSpiral_16 : decode cX7_setSpiral 16 = .ok (.lcmp, 1) := by decide +kernel
theorem dX7_setSpiral_17 : decode cX7_setSpiral 17 = .ok (.ifCond .ne 7, 3) := by decide +kernel
theorem dX7_setSpiral_20 : decode cX7_setSpiral 20 = .ok (.iconst 1, 1) := by decide +kernel
theorem dX7_setSpiral_21 : decode cX7_setSpiral 21 = .ok (.goto 4, 3) := by decide +kernel
theorem dX7_setSpiral_24 : decode cX7_setSpiral 24 = .ok (.iconst 0, 1) := by decide +kernel
theorem dX7_setSpiral_25 : decode cX7_setSpiral 25 = .ok (.istore_n 2, 1) := by decide +kernel
theorem dX7_setSpiral_26 : decode cX7_setSpiral 26 = .ok (.aload_n 0, 1) := by decide +kernel
theorem dX7_setSpiral_27 : decode cX7_setSpiral 27 = .ok (.getfield 7, 3) := by decide +kernel
theorem dX7_setSpiral_30 : decode cX7_setSpiral 30 = .ok (.iconst 1, 1) := by decide +kernel
theorem dX7_setSpiral_31 : decode cX7_setSpiral 31 = .ok (.iload_n 1, 1) := by decide +kernel
theorem dX7_setSpiral_32 : decode cX7_setSpiral 32 = .ok (.ifCond .eq 7, 3) := by decide +kernel
theorem dX7_setSpiral_35 : decode cX7_setSpiral 35 = .ok (.lconst 1, 1) := by decide +kernel
theorem dX7_setSpiral_36 : decode cX7_setSpiral 36 = .ok (.goto 4, 3) := by decide +kernel
theorem dX7_setSpiral_39 : decode cX7_setSpiral 39 = .ok (.lconst 0, 1) := by decide +kernel
theorem dX7_setSpiral_40 : decode cX7_setSpiral 40 = .ok (.lastore, 1) := by decide +kernel
theorem dX7_setSpiral_41 : decode cX7_setSpiral 41 = .ok (.iload_n 2, 1) := by decide +kernel
theorem dX7_setSpiral_42 : decode cX7_setSpiral 42 = .ok (.ireturn, 1) := by decide +kernel
set_option maxRecDepth 20000 in
theorem ggX7_isRound_X7_rounds : GoodIn wsX7_isRound wsX7_rounds := goodIn_r _ [5, 6, 7, 8, 9, 10, 11, 12, 13, 14, 15, 16, 17, 18, 19, 20, 21, 22] (by decide +kernel) (by decide +kernel)
set_option maxRecDepth 20000 in
theorem gX7_isRound_X7_rounds : GoodIn wsX7_isRound (wsV RX7 62 RX7 yX7_rounds wsX7_rounds) := goodIn_app (goodIn_of _ (by decide +kernel)) ggX7_isRound_X7_rounds
theorem dX7_isRound_0 : decode cX7_isRound 0 = .ok (.iload_n 1, 1) := by decide +kernel
theorem dX7_isRound_1 : decode cX7_isRound 1 = .ok (.ifCond .lt 15, 3) := by decide +kernel
theorem dX7_isRound_4 : decode cX7_isRound 4 = .ok (.iload_n 1, 1) := by decide +kernel
theorem dX7_isRound_5 : decode cX7_isRound 5 = .ok (.aload_n 0, 1) := by decide +kernel
theorem dX7_isRound_6 : decode cX7_isRound 6 = .ok (.invokevirtual 62, 3) := by decide +kernel
theorem dX7_isRound_9 : decode cX7_isRound 9 = .ok (.if_icmp .ge 7, 3) := by decide +kernel
theorem dX7_isRound_12 : decode cX7_isRound 12 = .ok (.iconst 1, 1) := by decide +kernel
theorem dX7_isRound_13 : decode cX7_isRound 13 = .ok (.goto 4, 3) := by decide +kernel
theorem dX7_isRound_16 : decode cX7_isRound 16 = .ok (.iconst 0, 1) := by decide +kernel
theorem dX7_isRound_17 : decode cX7_isRound 17 = .ok (.ireturn, 1) := by decide +kernel
set_option maxRecDepth 20000 in
theorem ggX7_kinds_X7_worksOf : GoodIn wsX7_kinds wsX7_worksOf := goodIn_r _ [5, 6, 12, 13, 14, 15, 16, 17, 18, 19, 20, 21, 22, 23, 24, 25, 26, 27] (by decide +kernel) (by decide +kernel)
set_option maxRecDepth 20000 in
theorem gX7_kinds_X7_worksOf : GoodIn wsX7_kinds (wsV RX7 54 RX7 yX7_worksOf wsX7_worksOf) := goodIn_app (goodIn_of _ (by decide +kernel)) ggX7_kinds_X7_worksOf
set_option maxRecDepth 20000 in
theorem ggX7_kinds_X7_kindOf : GoodIn wsX7_kinds wsX7_kindOf := goodIn_r _ [10, 6, 11, 12, 13, 14, 15, 16, 17, 18, 19, 20, 21, 22, 23, 24, 25, 26, 27] (by decide +kernel) (by decide +kernel)
set_option maxRecDepth 20000 in
theorem gX7_kinds_X7_kindOf : GoodIn wsX7_kinds (wsV RX7 58 RX7 yX7_kindOf wsX7_kindOf) := goodIn_app (goodIn_of _ (by decide +kernel)) ggX7_kinds_X7_kindOf
theorem dX7_kinds_0 : decode cX7_kinds 0 = .ok (.iconst 0, 1) := by decide +kernel
theorem dX7_kinds_1 : decode cX7_kinds 1 = .ok (.istore_n 3, 1) := by decide +kernel
theorem dX7_kinds_2 : decode cX7_kinds 2 = .ok (.iconst 0, 1) := by decide +kernel
theorem dX7_kinds_3 : decode cX7_kinds 3 = .ok (.istore 4, 2) := by decide +kernel
theorem dX7_kinds_5 : decode cX7_kinds 5 = .ok (.iload 4, 2) := by decide +kernel
theorem dX7_kinds_7 : decode cX7_kinds 7 = .ok (.aload_n 0, 1) := by decide +kernel
theorem dX7_kinds_8 : decode cX7_kinds 8 = .ok (.iload_n 1, 1) := by decide +kernel
theorem dX7_kinds_9 : decode cX7_kinds 9 = .ok (.invokevirtual 54, 3) := by decide +kernel
theorem dX7_kinds_12 : decode cX7_kinds 12 = .ok (.if_icmp .ge 28, 3) := by decide +kernel
theorem dX7_kinds_15 : decode cX7_kinds 15 = .ok (.iload_n 3, 1) := by decide +kernel
theorem dX7_kinds_16 : decode cX7_kinds 16 = .ok (.aload_n 0, 1) := by decide +kernel
theorem dX7_kinds_17 : decode cX7_kinds 17 = .ok (.iload_n 1, 1) := by decide +kernel
theorem dX7_kinds_18 : decode cX7_kinds 18 = .ok (.iload 4, 2) := by decide +kernel
theorem dX7_kinds_20 : decode cX7_kinds 20 = .ok (.invokevirtual 58, 3) := by decide +kernel
theorem dX7_kinds_23 : decode cX7_kinds 23 = .ok (.iload_n 2, 1) := by decide +kernel
theorem dX7_kinds_24 : decode cX7_kinds 24 = .ok (.if_icmp .ne 7, 3) := by decide +kernel
theorem dX7_kinds_27 : decode cX7_kinds 27 = .ok (.iconst 1, 1) := by decide +kernel
theorem dX7_kinds_28 : decode cX7_kinds 28 = .ok (.goto 4, 3) := by decide +kernel
theorem dX7_kinds_31 : decode cX7_kinds 31 = .ok (.iconst 0, 1) := by decide +kernel
theorem dX7_kinds_32 : decode cX7_kinds 32 = .ok (.iadd, 1) := by decide +kernel
theorem dX7_kinds_33 : decode cX7_kinds 33 = .ok (.istore_n 3, 1) := by decide +kernel
theorem dX7_kinds_34 : decode cX7_kinds 34 = .ok (.iinc 4 1, 3) := by decide +kernel
theorem dX7_kinds_37 : decode cX7_kinds 37 = .ok (.goto (-32), 3) := by decide +kernel
theorem dX7_kinds_40 : decode cX7_kinds 40 = .ok (.iload_n 3, 1) := by decide +kernel
theorem dX7_kinds_41 : decode cX7_kinds 41 = .ok (.ireturn, 1) := by decide +kernel
set_option maxRecDepth 20000 in
theorem ggX7_isMirrored_X7_worksOf : GoodIn wsX7_isMirrored wsX7_worksOf := goodIn_r _ [5, 6, 12, 13, 14, 15, 16, 17, 18, 19, 20, 21, 22, 23, 24, 25, 26, 27] (by decide +kernel) (by decide +kernel)
set_option maxRecDepth 20000 in
theorem gX7_isMirrored_X7_worksOf : GoodIn wsX7_isMirrored (wsV RX7 54 RX7 yX7_worksOf wsX7_worksOf) := goodIn_app (goodIn_of _ (by decide +kernel)) ggX7_isMirrored_X7_worksOf
set_option maxRecDepth 20000 in
theorem ggX7_isMirrored_X7_kindOf : GoodIn wsX7_isMirrored wsX7_kindOf := goodIn_r _ [10, 6, 11, 12, 13, 14, 15, 16, 17, 18, 19, 20, 21, 22, 23, 24, 25, 26, 27] (by decide +kernel) (by decide +kernel)
set_option maxRecDepth 20000 in
theorem gX7_isMirrored_X7_kindOf : GoodIn wsX7_isMirrored (wsV RX7 58 RX7 yX7_kindOf wsX7_kindOf) := goodIn_app (goodIn_of _ (by decide +kernel)) ggX7_isMirrored_X7_kindOf
theorem dX7_isMirrored_0 : decode cX7_isMirrored 0 = .ok (.iconst 1, 1) := by decide +kernel
theorem dX7_isMirrored_1 : decode cX7_isMirrored 1 = .ok (.istore_n 2, 1) := by decide +kernel
theorem dX7_isMirrored_2 : decode cX7_isMirrored 2 = .ok (.iconst 0, 1) := by decide +kernel
theorem dX7_isMirrored_3 : decode cX7_isMirrored 3 = .ok (.istore_n 3, 1) := by decide +kernel
theorem dX7_isMirrored_4 : decode cX7_isMirrored 4 = .ok (.iload_n 3, 1) := by decide +kernel
theorem dX7_isMirrored_5 : decode cX7_isMirrored 5 = .ok (.aload_n 0, 1) := by decide +kernel
theorem dX7_isMirrored_6 : decode cX7_isMirrored 6 = .ok (.iload_n 1, 1) := by decide +kernel
theorem dX7_isMirrored_7 : decode cX7_isMirrored 7 = .ok (.invokevirtual 54, 3) := by decide +kernel
theorem dX7_isMirrored_10 : decode cX7_isMirrored 10 = .ok (.if_icmp .ge 42, 3) := by decide +kernel
theorem dX7_isMirrored_13 : decode cX7_isMirrored 13 = .ok (.iload_n 2, 1) := by decide +kernel
theorem dX7_isMirrored_14 : decode cX7_isMirrored 14 = .ok (.ifCond .eq 30, 3) := by decide +kernel
theorem dX7_isMirrored_17 : decode cX7_isMirrored 17 = .ok (.aload_n 0, 1) := by decide +kernel
theorem dX7_isMirrored_18 : decode cX7_isMirrored 18 = .ok (.iload_n 1, 1) := by decide +kernel
theorem dX7_isMirrored_19 : decode cX7_isMirrored 19 = .ok (.iload_n 3, 1) := by decide +kernel
theorem dX7_isMirrored_20 : decode cX7_isMirrored 20 = .ok (.invokevirtual 58, 3) := by decide +kernel
theorem dX7_isMirrored_23 : decode cX7_isMirrored 23 = .ok (.aload_n 0, 1) := by decide +kernel
theorem dX7_isMirrored_24 : decode cX7_isMirrored 24 = .ok (.iload_n 1, 1) := by decide +kernel
theorem dX7_isMirrored_25 : decode cX7_isMirrored 25 = .ok (.aload_n 0, 1) := by decide +kernel
theorem dX7_isMirrored_26 : decode cX7_isMirrored 26 = .ok (.iload_n 1, 1) := by decide +kernel
theorem dX7_isMirrored_27 : decode cX7_isMirrored 27 = .ok (.invokevirtual 54, 3) := by decide +kernel
theorem dX7_isMirrored_30 : decode cX7_isMirrored 30 = .ok (.iconst 1, 1) := by decide +kernel
theorem dX7_isMirrored_31 : decode cX7_isMirrored 31 = .ok (.isub, 1) := by decide +kernel
theorem dX7_isMirrored_32 : decode cX7_isMirrored 32 = .ok (.iload_n 3, 1) := by decide +kernel
theorem dX7_isMirrored_33 : decode cX7_isMirrored 33 = .ok (.isub, 1) := by decide +kernel
theorem dX7_isMirrored_34 : decode cX7_isMirrored 34 = .ok (.invokevirtual 58, 3) := by decide +kernel
theorem dX7_isMirrored_37 : decode cX7_isMirrored 37 = .ok (.if_icmp .ne 7, 3) := by decide +kernel
theorem dX7_isMirrored_40 : decode cX7_isMirrored 40 = .ok (.iconst 1, 1) := by decide +kernel
theorem dX7_isMirrored_41 : decode cX7_isMirrored 41 = .ok (.goto 4, 3) := by decide +kernel
theorem dX7_isMirrored_44 : decode cX7_isMirrored 44 = .ok (.iconst 0, 1) := by decide +kernel
theorem dX7_isMirrored_45 : decode cX7_isMirrored 45 = .ok (.istore_n 2, 1) := by decide +kernel
theorem dX7_isMirrored_46 : decode cX7_isMirrored 46 = .ok (.iinc 3 1, 3) := by decide +kernel
theorem dX7_isMirrored_49 : decode cX7_isMirrored 49 = .ok (.goto (-45), 3) := by decide +kernel
theorem dX7_isMirrored_52 : decode cX7_isMirrored 52 = .ok (.iload_n 2, 1) := by decide +kernel
theorem dX7_isMirrored_53 : decode cX7_isMirrored 53 = .ok (.ireturn, 1) := by decide +kernel
set_option maxRecDepth 20000 in
theorem ggX7_yarnOf_X7_worksOf : GoodIn wsX7_yarnOf wsX7_worksOf := goodIn_r _ [6, 1, 12, 13, 14, 15, 16, 17, 18, 19, 20, 21, 22, 23, 24, 25, 26, 27] (by decide +kernel) (by decide +kernel)
set_option maxRecDepth 20000 in
theorem gX7_yarnOf_X7_worksOf : GoodIn wsX7_yarnOf (wsV RX7 54 RX7 yX7_worksOf wsX7_worksOf) := goodIn_app (goodIn_of _ (by decide +kernel)) ggX7_yarnOf_X7_worksOf
set_option maxRecDepth 20000 in
theorem ggX7_yarnOf_X7_kindOf : GoodIn wsX7_yarnOf wsX7_kindOf := goodIn_r _ [10, 1, 11, 12, 13, 14, 15, 16, 17, 18, 19, 20, 21, 22, 23, 24, 25, 26, 27] (by decide +kernel) (by decide +kernel)
set_option maxRecDepth 20000 in
theorem gX7_yarnOf_X7_kindOf : GoodIn wsX7_yarnOf (wsV RX7 58 RX7 yX7_kindOf wsX7_kindOf) := goodIn_app (goodIn_of _ (by decide +kernel)) ggX7_yarnOf_X7_kindOf
theorem dX7_yarnOf_0 : decode cX7_yarnOf 0 = .ok (.iconst 0, 1) := by decide +kernel
theorem dX7_yarnOf_1 : decode cX7_yarnOf 1 = .ok (.istore_n 2, 1) := by decide +kernel
theorem dX7_yarnOf_2 : decode cX7_yarnOf 2 = .ok (.iconst 0, 1) := by decide +kernel
theorem dX7_yarnOf_3 : decode cX7_yarnOf 3 = .ok (.istore_n 3, 1) := by decide +kernel
theorem dX7_yarnOf_4 : decode cX7_yarnOf 4 = .ok (.iload_n 3, 1) := by decide +kernel
theorem dX7_yarnOf_5 : decode cX7_yarnOf 5 = .ok (.aload_n 0, 1) := by decide +kernel
theorem dX7_yarnOf_6 : decode cX7_yarnOf 6 = .ok (.iload_n 1, 1) := by decide +kernel
theorem dX7_yarnOf_7 : decode cX7_yarnOf 7 = .ok (.invokevirtual 54, 3) := by decide +kernel
theorem dX7_yarnOf_10 : decode cX7_yarnOf 10 = .ok (.if_icmp .ge 26, 3) := by decide +kernel
theorem dX7_yarnOf_13 : decode cX7_yarnOf 13 = .ok (.iload_n 2, 1) := by decide +kernel
theorem dX7_yarnOf_14 : decode cX7_yarnOf 14 = .ok (.aload_n 0, 1) := by decide +kernel
theorem dX7_yarnOf_15 : decode cX7_yarnOf 15 = .ok (.getfield 7, 3) := by decide +kernel
theorem dX7_yarnOf_18 : decode cX7_yarnOf 18 = .ok (.iconst 2, 1) := by decide +kernel
theorem dX7_yarnOf_19 : decode cX7_yarnOf 19 = .ok (.aload_n 0, 1) := by decide +kernel
theorem dX7_yarnOf_20 : decode cX7_yarnOf 20 = .ok (.iload_n 1, 1) := by decide +kernel
theorem dX7_yarnOf_21 : decode cX7_yarnOf 21 = .ok (.iload_n 3, 1) := by decide +kernel
theorem dX7_yarnOf_22 : decode cX7_yarnOf 22 = .ok (.invokevirtual 58, 3) := by decide +kernel
theorem dX7_yarnOf_25 : decode cX7_yarnOf 25 = .ok (.iadd, 1) := by decide +kernel
theorem dX7_yarnOf_26 : decode cX7_yarnOf 26 = .ok (.laload, 1) := by decide +kernel
theorem dX7_yarnOf_27 : decode cX7_yarnOf 27 = .ok (.l2i, 1) := by decide +kernel
theorem dX7_yarnOf_28 : decode cX7_yarnOf 28 = .ok (.iadd, 1) := by decide +kernel
theorem dX7_yarnOf_29 : decode cX7_yarnOf 29 = .ok (.istore_n 2, 1) := by decide +kernel
theorem dX7_yarnOf_30 : decode cX7_yarnOf 30 = .ok (.iinc 3 1, 3) := by decide +kernel
theorem dX7_yarnOf_33 : decode cX7_yarnOf 33 = .ok (.goto (-29), 3) := by decide +kernel
theorem dX7_yarnOf_36 : decode cX7_yarnOf 36 = .ok (.iload_n 2, 1) := by decide +kernel
theorem dX7_yarnOf_37 : decode cX7_yarnOf 37 = .ok (.ireturn, 1) := by decide +kernel
set_option maxRecDepth 20000 in
theorem ggX7_distance_X7_worksOf : GoodIn wsX7_distance wsX7_worksOf := goodIn_r _ [5, 6, 16, 17, 18, 19, 20, 21, 22, 23, 24, 25, 26, 27, 28, 29, 30, 31] (by decide +kernel) (by decide +kernel)
set_option maxRecDepth 20000 in
theorem gX7_distance_X7_worksOf : GoodIn wsX7_distance (wsV RX7 54 RX7 yX7_worksOf wsX7_worksOf) := goodIn_app (goodIn_of _ (by decide +kernel)) ggX7_distance_X7_worksOf
set_option maxRecDepth 20000 in
theorem ggX7_distance_X7_kinds : GoodIn wsX7_distance wsX7_kinds := goodIn_r _ [10, 1, 2, 3, 4, 5, 6, 11, 12, 13, 14, 15, 16, 17, 18, 19, 20, 21, 22, 23, 24, 25, 26, 27, 28, 29, 30, 31] (by decide +kernel) (by decide +kernel)
set_option maxRecDepth 20000 in
theorem gX7_distance_X7_kinds : GoodIn wsX7_distance (wsV RX7 139 RX7 yX7_kinds wsX7_kinds) := goodIn_app (goodIn_of _ (by decide +kernel)) ggX7_distance_X7_kinds
set_option maxRecDepth 20000 in
theorem ggX7_distance_X7_kindOf : GoodIn wsX7_distance wsX7_kindOf := goodIn_r _ [14, 6, 15, 16, 17, 18, 19, 20, 21, 22, 23, 24, 25, 26, 27, 28, 29, 30, 31] (by decide +kernel) (by decide +kernel)
set_option maxRecDepth 20000 in
theorem gX7_distance_X7_kindOf : GoodIn wsX7_distance (wsV RX7 58 RX7 yX7_kindOf wsX7_kindOf) := goodIn_app (goodIn_of _ (by decide +kernel)) ggX7_distance_X7_kindOf
theorem dX7_distance_0 : decode cX7_distance 0 = .ok (.aload_n 0, 1) := by decide +kernel
theorem dX7_distance_1 : decode cX7_distance 1 = .ok (.iload_n 1, 1) := by decide +kernel
theorem dX7_distance_2 : decode cX7_distance 2 = .ok (.invokevirtual 54, 3) := by decide +kernel
theorem dX7_distance_5 : decode cX7_distance 5 = .ok (.istore_n 3, 1) := by decide +kernel
theorem dX7_distance_6 : decode cX7_distance 6 = .ok (.iload_n 3, 1) := by decide +kernel
theorem dX7_distance_7 : decode cX7_distance 7 = .ok (.aload_n 0, 1) := by decide +kernel
theorem dX7_distance_8 : decode cX7_distance 8 = .ok (.iload_n 1, 1) := by decide +kernel
theorem dX7_distance_9 : decode cX7_distance 9 = .ok (.iconst 0, 1) := by decide +kernel
theorem dX7_distance_10 : decode cX7_distance 10 = .ok (.invokevirtual 139, 3) := by decide +kernel
theorem dX7_distance_13 : decode cX7_distance 13 = .ok (.isub, 1) := by decide +kernel
theorem dX7_distance_14 : decode cX7_distance 14 = .ok (.iconst 2, 1) := by decide +kernel
theorem dX7_distance_15 : decode cX7_distance 15 = .ok (.if_icmp .ge 5, 3) := by decide +kernel
theorem dX7_distance_18 : decode cX7_distance 18 = .ok (.iconst 0, 1) := by decide +kernel
theorem dX7_distance_19 : decode cX7_distance 19 = .ok (.ireturn, 1) := by decide +kernel
theorem dX7_distance_20 : decode cX7_distance 20 = .ok (.iload_n 2, 1) := by decide +kernel
theorem dX7_distance_21 : decode cX7_distance 21 = .ok (.ifCond .eq 7, 3) := by decide +kernel
theorem dX7_distance_24 : decode cX7_distance 24 = .ok (.iconst 0, 1) := by decide +kernel
theorem dX7_distance_25 : decode cX7_distance 25 = .ok (.goto 5, 3) := by decide +kernel
theorem dX7_distance_28 : decode cX7_distance 28 = .ok (.bipush 120, 2) := by decide +kernel
theorem dX7_distance_30 : decode cX7_distance 30 = .ok (.istore 4, 2) := by decide +kernel
theorem dX7_distance_32 : decode cX7_distance 32 = .ok (.iconst 0, 1) := by decide +kernel
theorem dX7_distance_33 : decode cX7_distance 33 = .ok (.istore 5, 2) := by decide +kernel
theorem dX7_distance_35 : decode cX7_distance 35 = .ok (.iload 5, 2) := by decide +kernel
theorem dX7_distance_37 : decode cX7_distance 37 = .ok (.iload_n 3, 1) := by decide +kernel
theorem dX7_distance_38 : decode cX7_distance 38 = .ok (.if_icmp .ge 85, 3) := by decide +kernel
theorem dX7_distance_41 : decode cX7_distance 41 = .ok (.iconst 1, 1) := by decide +kernel
theorem dX7_distance_42 : decode cX7_distance 42 = .ok (.istore 6, 2) := by decide +kernel
theorem dX7_distance_44 : decode cX7_distance 44 = .ok (.aload_n 0, 1) := by decide +kernel
theorem dX7_distance_45 : decode cX7_distance 45 = .ok (.iload_n 1, 1) := by decide +kernel
theorem dX7_distance_46 : decode cX7_distance 46 = .ok (.iload 5, 2) := by decide +kernel
theorem dX7_distance_48 : decode cX7_distance 48 = .ok (.iload 6, 2) := by decide +kernel
theorem dX7_distance_50 : decode cX7_distance 50 = .ok (.iadd, 1) := by decide +kernel
theorem dX7_distance_51 : decode cX7_distance 51 = .ok (.iload_n 3, 1) := by decide +kernel
theorem dX7_distance_52 : decode cX7_distance 52 = .ok (.irem, 1) := by decide +kernel
theorem dX7_distance_53 : decode cX7_distance 53 = .ok (.invokevirtual 58, 3) := by decide +kernel
theorem dX7_distance_56 : decode cX7_distance 56 = .ok (.ifCond .ne 9, 3) := by decide +kernel
theorem dX7_distance_59 : decode cX7_distance 59 = .ok (.iinc 6 1, 3) := by decide +kernel
theorem dX7_distance_62 : decode cX7_distance 62 = .ok (.goto (-18), 3) := by decide +kernel
theorem dX7_distance_65 : decode cX7_distance 65 = .ok (.aload_n 0, 1) := by decide +kernel
theorem dX7_distance_66 : decode cX7_distance 66 = .ok (.iload_n 1, 1) := by decide +kernel
theorem dX7_distance_67 : decode cX7_distance 67 = .ok (.iload 5, 2) := by decide +kernel
theorem dX7_distance_69 : decode cX7_distance 69 = .ok (.invokevirtual 58, 3) := by decide +kernel
theorem dX7_distance_72 : decode cX7_distance 72 = .ok (.ifCond .eq 28, 3) := by decide +kernel
theorem dX7_distance_75 : decode cX7_distance 75 = .ok (.iload_n 2, 1) := by decide +kernel
theorem dX7_distance_76 : decode cX7_distance 76 = .ok (.ifCond .eq 13, 3) := by decide +kernel
theorem dX7_distance_79 : decode cX7_distance 79 = .ok (.iload 6, 2) := by decide +kernel
theorem dX7_distance_81 : decode cX7_distance 81 = .ok (.iload 4, 2) := by decide +kernel
theorem dX7_distance_83 : decode cX7_distance 83 = .ok (.if_icmp .le 17, 3) := by decide +kernel
theorem dX7_distance_86 : decode cX7_distance 86 = .ok (.goto 10, 3) := by decide +kernel
theorem dX7_distance_89 : decode cX7_distance 89 = .ok (.iload 6, 2) := by decide +kernel
theorem dX7_distance_91 : decode cX7_distance 91 = .ok (.iload 4, 2) := by decide +kernel
theorem dX7_distance_93 : decode cX7_distance 93 = .ok (.if_icmp .ge 7, 3) := by decide +kernel
theorem dX7_distance_96 : decode cX7_distance 96 = .ok (.iconst 1, 1) := by decide +kernel
theorem dX7_distance_97 : decode cX7_distance 97 = .ok (.goto 4, 3) := by decide +kernel
theorem dX7_distance_100 : decode cX7_distance 100 = .ok (.iconst 0, 1) := by decide +kernel
theorem dX7_distance_101 : decode cX7_distance 101 = .ok (.istore 7, 2) := by decide +kernel
theorem dX7_distance_103 : decode cX7_distance 103 = .ok (.iload 7, 2) := by decide +kernel
theorem dX7_distance_105 : decode cX7_distance 105 = .ok (.ifCond .eq 8, 3) := by decide +kernel
theorem dX7_distance_108 : decode cX7_distance 108 = .ok (.iload 6, 2) := by decide +kernel
theorem dX7_distance_110 : decode cX7_distance 110 = .ok (.goto 5, 3) := by decide +kernel
theorem dX7_distance_113 : decode cX7_distance 113 = .ok (.iload 4, 2) := by decide +kernel
theorem dX7_distance_115 : decode cX7_distance 115 = .ok (.istore 4, 2) := by decide +kernel
theorem dX7_distance_117 : decode cX7_distance 117 = .ok (.iinc 5 1, 3) := by decide +kernel
theorem dX7_distance_120 : decode cX7_distance 120 = .ok (.goto (-85), 3) := by decide +kernel
theorem dX7_distance_123 : decode cX7_distance 123 = .ok (.iload 4, 2) := by decide +kernel
theorem dX7_distance_125 : decode cX7_distance 125 = .ok (.ireturn, 1) := by decide +kernel
set_option maxRecDepth 20000 in
theorem ggX7_roundOf_X7_totalOf : GoodIn wsX7_roundOf wsX7_totalOf := goodIn_r _ [5, 6, 7, 8, 4, 9, 10, 11, 12, 13, 14, 15, 51, 52, 53, 54, 55, 56, 57, 58, 59, 60, 61, 62, 63, 64, 65, 66] (by decide +kernel) (by decide +kernel)
set_option maxRecDepth 20000 in
theorem gX7_roundOf_X7_totalOf : GoodIn wsX7_roundOf (wsV RX7 66 RX7 yX7_totalOf wsX7_totalOf) := goodIn_app (goodIn_of _ (by decide +kernel)) ggX7_roundOf_X7_totalOf
set_option maxRecDepth 20000 in
theorem ggX7_roundOf_X7_worksOf : GoodIn wsX7_roundOf wsX7_worksOf := goodIn_r _ [9, 10, 51, 52, 53, 54, 55, 56, 57, 58, 59, 60, 61, 62, 63, 64, 65, 66] (by decide +kernel) (by decide +kernel)
set_option maxRecDepth 20000 in
theorem gX7_roundOf_X7_worksOf : GoodIn wsX7_roundOf (wsV RX7 54 RX7 yX7_worksOf wsX7_worksOf) := goodIn_app (goodIn_of _ (by decide +kernel)) ggX7_roundOf_X7_worksOf
set_option maxRecDepth 20000 in
theorem ggX7_roundOf_X7_kinds : GoodIn wsX7_roundOf wsX7_kinds := goodIn_r _ [19, 6, 7, 8, 4, 9, 10, 11, 12, 13, 14, 15, 51, 52, 53, 54, 55, 56, 57, 58, 59, 60, 61, 62, 63, 64, 65, 66] (by decide +kernel) (by decide +kernel)
set_option maxRecDepth 20000 in
theorem gX7_roundOf_X7_kinds : GoodIn wsX7_roundOf (wsV RX7 139 RX7 yX7_kinds wsX7_kinds) := goodIn_app (goodIn_of _ (by decide +kernel)) ggX7_roundOf_X7_kinds
set_option maxRecDepth 20000 in
theorem ggX7_roundOf_X7_stackedOf : GoodIn wsX7_roundOf wsX7_stackedOf := goodIn_r _ [23, 24, 25, 26, 4, 27, 28, 6, 7, 8, 9, 10, 11, 12, 13, 14, 15, 29, 30, 31, 32, 33, 34, 35, 36, 37, 38, 51, 52, 53, 54, 55, 56, 57, 58, 59, 60, 61, 62, 63, 64, 65, 66] (by decide +kernel) (by decide +kernel)
set_option maxRecDepth 20000 in
theorem gX7_roundOf_X7_stackedOf : GoodIn wsX7_roundOf (wsV RX7 120 RX7 yX7_stackedOf wsX7_stackedOf) := goodIn_app (goodIn_of _ (by decide +kernel)) ggX7_roundOf_X7_stackedOf
set_option maxRecDepth 20000 in
theorem ggX7_roundOf_X7_isMirrored : GoodIn wsX7_roundOf wsX7_isMirrored := goodIn_r _ [42, 6, 7, 8, 4, 9, 10, 11, 12, 13, 14, 15, 51, 52, 53, 54, 55, 56, 57, 58, 59, 60, 61, 62, 63, 64, 65, 66] (by decide +kernel) (by decide +kernel)
set_option maxRecDepth 20000 in
theorem gX7_roundOf_X7_isMirrored : GoodIn wsX7_roundOf (wsV RX7 141 RX7 yX7_isMirrored wsX7_isMirrored) := goodIn_app (goodIn_of _ (by decide +kernel)) ggX7_roundOf_X7_isMirrored
set_option maxRecDepth 20000 in
theorem ggX7_roundOf_X7_yarnOf : GoodIn wsX7_roundOf wsX7_yarnOf := goodIn_r _ [46, 10, 6, 7, 8, 4, 9, 11, 12, 13, 14, 15, 51, 52, 53, 54, 55, 56, 57, 58, 59, 60, 61, 62, 63, 64, 65, 66] (by decide +kernel) (by decide +kernel)
set_option maxRecDepth 20000 in
theorem gX7_roundOf_X7_yarnOf : GoodIn wsX7_roundOf (wsV RX7 144 RX7 yX7_yarnOf wsX7_yarnOf) := goodIn_app (goodIn_of _ (by decide +kernel)) ggX7_roundOf_X7_yarnOf
set_option maxRecDepth 20000 in
theorem ggX7_roundOf_X7_distance : GoodIn wsX7_roundOf wsX7_distance := goodIn_r _ [50, 6, 7, 8, 4, 9, 10, 16, 17, 18, 19, 11, 12, 13, 14, 15, 51, 52, 53, 54, 55, 56, 57, 58, 59, 60, 61, 62, 63, 64, 65, 66] (by decide +kernel) (by decide +kernel)
set_option maxRecDepth 20000 in
theorem gX7_roundOf_X7_distance : GoodIn wsX7_roundOf (wsV RX7 147 RX7 yX7_distance wsX7_distance) := goodIn_app (goodIn_of _ (by decide +kernel)) ggX7_roundOf_X7_distance
theorem dX7_roundOf_0 : decode cX7_roundOf 0 = .ok (.iload_n 2, 1) := by decide +kernel
theorem dX7_roundOf_1 : decode cX7_roundOf 1 = .ok (.tableswitch 116 0 9 #[55, 61, 67, 67, 67, 76, 82, 96, 102, 109], 55) := by decide +kernel
theorem dX7_roundOf_56 : decode cX7_roundOf 56 = .ok (.aload_n 0, 1) := by decide +kernel
theorem dX7_roundOf_57 : decode cX7_roundOf 57 = .ok (.iload_n 1, 1) := by decide +kernel
theorem dX7_roundOf_58 : decode cX7_roundOf 58 = .ok (.invokevirtual 66, 3) := by decide +kernel
theorem dX7_roundOf_61 : decode cX7_roundOf 61 = .ok (.ireturn, 1) := by decide +kernel
theorem dX7_roundOf_62 : decode cX7_roundOf 62 = .ok (.aload_n 0, 1) := by decide +kernel
theorem dX7_roundOf_63 : decode cX7_roundOf 63 = .ok (.iload_n 1, 1) := by decide +kernel
theorem dX7_roundOf_64 : decode cX7_roundOf 64 = .ok (.invokevirtual 54, 3) := by decide +kernel
theorem dX7_roundOf_67 : decode cX7_roundOf 67 = .ok (.ireturn, 1) := by decide +kernel
theorem dX7_roundOf_68 : decode cX7_roundOf 68 = .ok (.aload_n 0, 1) := by decide +kernel
theorem dX7_roundOf_69 : decode cX7_roundOf 69 = .ok (.iload_n 1, 1) := by decide +kernel
theorem dX7_roundOf_70 : decode cX7_roundOf 70 = .ok (.iload_n 2, 1) := by decide +kernel
theorem dX7_roundOf_71 : decode cX7_roundOf 71 = .ok (.iconst 2, 1) := by decide +kernel
theorem dX7_roundOf_72 : decode cX7_roundOf 72 = .ok (.isub, 1) := by decide +kernel
theorem dX7_roundOf_73 : decode cX7_roundOf 73 = .ok (.invokevirtual 139, 3) := by decide +kernel
theorem dX7_roundOf_76 : decode cX7_roundOf 76 = .ok (.ireturn, 1) := by decide +kernel
theorem dX7_roundOf_77 : decode cX7_roundOf 77 = .ok (.aload_n 0, 1) := by decide +kernel
theorem dX7_roundOf_78 : decode cX7_roundOf 78 = .ok (.iload_n 1, 1) := by decide +kernel
theorem dX7_roundOf_79 : decode cX7_roundOf 79 = .ok (.invokevirtual 120, 3) := by decide +kernel
theorem dX7_roundOf_82 : decode cX7_roundOf 82 = .ok (.ireturn, 1) := by decide +kernel
theorem dX7_roundOf_83 : decode cX7_roundOf 83 = .ok (.aload_n 0, 1) := by decide +kernel
theorem dX7_roundOf_84 : decode cX7_roundOf 84 = .ok (.iload_n 1, 1) := by decide +kernel
theorem dX7_roundOf_85 : decode cX7_roundOf 85 = .ok (.invokevirtual 141, 3) := by decide +kernel
theorem dX7_roundOf_88 : decode cX7_roundOf 88 = .ok (.ifCond .eq 7, 3) := by decide +kernel
theorem dX7_roundOf_91 : decode cX7_roundOf 91 = .ok (.iconst 1, 1) := by decide +kernel
theorem dX7_roundOf_92 : decode cX7_roundOf 92 = .ok (.goto 4, 3) := by decide +kernel
theorem dX7_roundOf_95 : decode cX7_roundOf 95 = .ok (.iconst 0, 1) := by decide +kernel
theorem dX7_roundOf_96 : decode cX7_roundOf 96 = .ok (.ireturn, 1) := by decide +kernel
theorem dX7_roundOf_97 : decode cX7_roundOf 97 = .ok (.aload_n 0, 1) := by decide +kernel
theorem dX7_roundOf_98 : decode cX7_roundOf 98 = .ok (.iload_n 1, 1) := by decide +kernel
theorem dX7_roundOf_99 : decode cX7_roundOf 99 = .ok (.invokevirtual 144, 3) := by decide +kernel
theorem dX7_roundOf_102 : decode cX7_roundOf 102 = .ok (.ireturn, 1) := by decide +kernel
theorem dX7_roundOf_103 : decode cX7_roundOf 103 = .ok (.aload_n 0, 1) := by decide +kernel
theorem dX7_roundOf_104 : decode cX7_roundOf 104 = .ok (.iload_n 1, 1) := by decide +kernel
theorem dX7_roundOf_105 : decode cX7_roundOf 105 = .ok (.iconst 1, 1) := by decide +kernel
theorem dX7_roundOf_106 : decode cX7_roundOf 106 = .ok (.invokevirtual 147, 3) := by decide +kernel
theorem dX7_roundOf_109 : decode cX7_roundOf 109 = .ok (.ireturn, 1) := by decide +kernel
theorem dX7_roundOf_110 : decode cX7_roundOf 110 = .ok (.aload_n 0, 1) := by decide +kernel
theorem dX7_roundOf_111 : decode cX7_roundOf 111 = .ok (.iload_n 1, 1) := by decide +kernel
theorem dX7_roundOf_112 : decode cX7_roundOf 112 = .ok (.iconst 0, 1) := by decide +kernel
theorem dX7_roundOf_113 : decode cX7_roundOf 113 = .ok (.invokevirtual 147, 3) := by decide +kernel
theorem dX7_roundOf_116 : decode cX7_roundOf 116 = .ok (.ireturn, 1) := by decide +kernel
theorem dX7_roundOf_117 : decode cX7_roundOf 117 = .ok (.aload_n 0, 1) := by decide +kernel
theorem dX7_roundOf_118 : decode cX7_roundOf 118 = .ok (.iload_n 1, 1) := by decide +kernel
theorem dX7_roundOf_119 : decode cX7_roundOf 119 = .ok (.invokevirtual 66, 3) := by decide +kernel
theorem dX7_roundOf_122 : decode cX7_roundOf 122 = .ok (.aload_n 0, 1) := by decide +kernel
theorem dX7_roundOf_123 : decode cX7_roundOf 123 = .ok (.iconst 0, 1) := by decide +kernel
theorem dX7_roundOf_124 : decode cX7_roundOf 124 = .ok (.invokevirtual 54, 3) := by decide +kernel
theorem dX7_roundOf_127 : decode cX7_roundOf 127 = .ok (.iload_n 1, 1) := by decide +kernel
theorem dX7_roundOf_128 : decode cX7_roundOf 128 = .ok (.iconst 1, 1) := by decide +kernel
theorem dX7_roundOf_129 : decode cX7_roundOf 129 = .ok (.iadd, 1) := by decide +kernel
theorem dX7_roundOf_130 : decode cX7_roundOf 130 = .ok (.imul, 1) := by decide +kernel
theorem dX7_roundOf_131 : decode cX7_roundOf 131 = .ok (.isub, 1) := by decide +kernel
theorem dX7_roundOf_132 : decode cX7_roundOf 132 = .ok (.ireturn, 1) := by decide +kernel
set_option maxRecDepth 20000 in
theorem ggX7_round_X7_isRound : GoodIn wsX7_round wsX7_isRound := goodIn_r _ [5, 6, 7, 8, 4, 9, 10, 71, 72, 73, 74, 75, 76, 77, 78, 79, 80, 81, 82, 83, 84, 85, 86] (by decide +kernel) (by decide +kernel)
set_option maxRecDepth 20000 in
theorem gX7_round_X7_isRound : GoodIn wsX7_round (wsV RX7 151 RX7 yX7_isRound wsX7_isRound) := goodIn_app (goodIn_of _ (by decide +kernel)) ggX7_round_X7_isRound
set_option maxRecDepth 20000 in
theorem ggX7_round_X7_in : GoodIn wsX7_round wsX7_in := goodIn_r _ [13] (by decide +kernel) (by decide +kernel)
set_option maxRecDepth 20000 in
theorem gX7_round_X7_in : GoodIn wsX7_round (va_wsS RX7 95 yX7_in wsX7_in) := goodIn_app (goodIn_of _ (by decide +kernel)) ggX7_round_X7_in
set_option maxRecDepth 20000 in
theorem ggX7_round_X7_throwsAt : GoodIn wsX7_round wsX7_throwsAt := goodIn_r _ [17, 18, 71, 72, 73, 74, 75, 76, 77, 78, 79, 80, 81, 82, 83, 84, 85, 86] (by decide +kernel) (by decide +kernel)
set_option maxRecDepth 20000 in
theorem gX7_round_X7_throwsAt : GoodIn wsX7_round (wsV RX7 98 RX7 yX7_throwsAt wsX7_throwsAt) := goodIn_app (goodIn_of _ (by decide +kernel)) ggX7_round_X7_throwsAt
set_option maxRecDepth 20000 in
theorem ggX7_round_X7_roundOf : GoodIn wsX7_round wsX7_roundOf := goodIn_r _ [22, 23, 24, 25, 4, 26, 27, 28, 29, 30, 10, 31, 32, 33, 34, 35, 36, 37, 38, 39, 40, 41, 42, 43, 44, 45, 46, 47, 48, 49, 50, 51, 52, 53, 54, 55, 56, 57, 58, 59, 60, 61, 62, 63, 64, 65, 66, 67, 68, 69, 70, 71, 72, 73, 74, 75, 76, 77, 78, 79, 80, 81, 82, 83, 84, 85, 86] (by decide +kernel) (by decide +kernel)
set_option maxRecDepth 20000 in
theorem gX7_round_X7_roundOf : GoodIn wsX7_round (wsV RX7 154 RX7 yX7_roundOf wsX7_roundOf) := goodIn_app (goodIn_of _ (by decide +kernel)) ggX7_round_X7_roundOf
theorem dX7_round_0 : decode cX7_round 0 = .ok (.aload_n 0, 1) := by decide +kernel
theorem dX7_round_1 : decode cX7_round 1 = .ok (.aload_n 0, 1) := by decide +kernel
theorem dX7_round_2 : decode cX7_round 2 = .ok (.iload_n 1, 1) := by decide +kernel
theorem dX7_round_3 : decode cX7_round 3 = .ok (.invokevirtual 151, 3) := by decide +kernel
theorem dX7_round_6 : decode cX7_round 6 = .ok (.ifCond .ne 7, 3) := by decide +kernel
theorem dX7_round_9 : decode cX7_round 9 = .ok (.iconst 1, 1) := by decide +kernel
theorem dX7_round_10 : decode cX7_round 10 = .ok (.goto 18, 3) := by decide +kernel
theorem dX7_round_13 : decode cX7_round 13 = .ok (.iload_n 2, 1) := by decide +kernel
theorem dX7_round_14 : decode cX7_round 14 = .ok (.iconst 0, 1) := by decide +kernel
theorem dX7_round_15 : decode cX7_round 15 = .ok (.bipush 10, 2) := by decide +kernel
theorem dX7_round_17 : decode cX7_round 17 = .ok (.invokestatic 95, 3) := by decide +kernel
theorem dX7_round_20 : decode cX7_round 20 = .ok (.ifCond .eq 7, 3) := by decide +kernel
theorem dX7_round_23 : decode cX7_round 23 = .ok (.iconst 0, 1) := by decide +kernel
theorem dX7_round_24 : decode cX7_round 24 = .ok (.goto 4, 3) := by decide +kernel
theorem dX7_round_27 : decode cX7_round 27 = .ok (.iconst 2, 1) := by decide +kernel
theorem dX7_round_28 : decode cX7_round 28 = .ok (.invokevirtual 98, 3) := by decide +kernel
theorem dX7_round_31 : decode cX7_round 31 = .ok (.ifCond .eq 7, 3) := by decide +kernel
theorem dX7_round_34 : decode cX7_round 34 = .ok (.iconst 0, 1) := by decide +kernel
theorem dX7_round_35 : decode cX7_round 35 = .ok (.goto 9, 3) := by decide +kernel
theorem dX7_round_38 : decode cX7_round 38 = .ok (.aload_n 0, 1) := by decide +kernel
theorem dX7_round_39 : decode cX7_round 39 = .ok (.iload_n 1, 1) := by decide +kernel
theorem dX7_round_40 : decode cX7_round 40 = .ok (.iload_n 2, 1) := by decide +kernel
theorem dX7_round_41 : decode cX7_round 41 = .ok (.invokevirtual 154, 3) := by decide +kernel
theorem dX7_round_44 : decode cX7_round 44 = .ok (.ireturn, 1) := by decide +kernel
set_option maxRecDepth 20000 in
theorem ggX7_work_X7_isRound : GoodIn wsX7_work wsX7_isRound := goodIn_r _ [5, 6, 7, 8, 4, 9, 10, 25, 26, 27, 28, 29, 30, 31, 32, 33, 34, 35, 36, 37, 38, 39, 40] (by decide +kernel) (by decide +kernel)
set_option maxRecDepth 20000 in
theorem gX7_work_X7_isRound : GoodIn wsX7_work (wsV RX7 151 RX7 yX7_isRound wsX7_isRound) := goodIn_app (goodIn_of _ (by decide +kernel)) ggX7_work_X7_isRound
set_option maxRecDepth 20000 in
theorem ggX7_work_X7_worksOf : GoodIn wsX7_work wsX7_worksOf := goodIn_r _ [14, 10, 25, 26, 27, 28, 29, 30, 31, 32, 33, 34, 35, 36, 37, 38, 39, 40] (by decide +kernel) (by decide +kernel)
set_option maxRecDepth 20000 in
theorem gX7_work_X7_worksOf : GoodIn wsX7_work (wsV RX7 54 RX7 yX7_worksOf wsX7_worksOf) := goodIn_app (goodIn_of _ (by decide +kernel)) ggX7_work_X7_worksOf
set_option maxRecDepth 20000 in
theorem ggX7_work_X7_throwsAt : GoodIn wsX7_work wsX7_throwsAt := goodIn_r _ [18, 19, 25, 26, 27, 28, 29, 30, 31, 32, 33, 34, 35, 36, 37, 38, 39, 40] (by decide +kernel) (by decide +kernel)
set_option maxRecDepth 20000 in
theorem gX7_work_X7_throwsAt : GoodIn wsX7_work (wsV RX7 98 RX7 yX7_throwsAt wsX7_throwsAt) := goodIn_app (goodIn_of _ (by decide +kernel)) ggX7_work_X7_throwsAt
set_option maxRecDepth 20000 in
theorem ggX7_work_X7_kindOf : GoodIn wsX7_work wsX7_kindOf := goodIn_r _ [23, 10, 24, 25, 26, 27, 28, 29, 30, 31, 32, 33, 34, 35, 36, 37, 38, 39, 40] (by decide +kernel) (by decide +kernel)
set_option maxRecDepth 20000 in
theorem gX7_work_X7_kindOf : GoodIn wsX7_work (wsV RX7 58 RX7 yX7_kindOf wsX7_kindOf) := goodIn_app (goodIn_of _ (by decide +kernel)) ggX7_work_X7_kindOf
theorem dX7_work_0 : decode cX7_work 0 = .ok (.aload_n 0, 1) := by decide +kernel
theorem dX7_work_1 : decode cX7_work 1 = .ok (.aload_n 0, 1) := by decide +kernel
theorem dX7_work_2 : decode cX7_work 2 = .ok (.iload_n 1, 1) := by decide +kernel
theorem dX7_work_3 : decode cX7_work 3 = .ok (.invokevirtual 151, 3) := by decide +kernel
theorem dX7_work_6 : decode cX7_work 6 = .ok (.ifCond .eq 20, 3) := by decide +kernel
theorem dX7_work_9 : decode cX7_work 9 = .ok (.iload_n 2, 1) := by decide +kernel
theorem dX7_work_10 : decode cX7_work 10 = .ok (.ifCond .lt 16, 3) := by decide +kernel
theorem dX7_work_13 : decode cX7_work 13 = .ok (.iload_n 2, 1) := by decide +kernel
theorem dX7_work_14 : decode cX7_work 14 = .ok (.aload_n 0, 1) := by decide +kernel
theorem dX7_work_15 : decode cX7_work 15 = .ok (.iload_n 1, 1) := by decide +kernel
theorem dX7_work_16 : decode cX7_work 16 = .ok (.invokevirtual 54, 3) := by decide +kernel
theorem dX7_work_19 : decode cX7_work 19 = .ok (.if_icmp .ge 7, 3) := by decide +kernel
theorem dX7_work_22 : decode cX7_work 22 = .ok (.iconst 0, 1) := by decide +kernel
theorem dX7_work_23 : decode cX7_work 23 = .ok (.goto 4, 3) := by decide +kernel
theorem dX7_work_26 : decode cX7_work 26 = .ok (.iconst 1, 1) := by decide +kernel
theorem dX7_work_27 : decode cX7_work 27 = .ok (.invokevirtual 98, 3) := by decide +kernel
theorem dX7_work_30 : decode cX7_work 30 = .ok (.ifCond .eq 7, 3) := by decide +kernel
theorem dX7_work_33 : decode cX7_work 33 = .ok (.iconst 0, 1) := by decide +kernel
theorem dX7_work_34 : decode cX7_work 34 = .ok (.goto 9, 3) := by decide +kernel
theorem dX7_work_37 : decode cX7_work 37 = .ok (.aload_n 0, 1) := by decide +kernel
theorem dX7_work_38 : decode cX7_work 38 = .ok (.iload_n 1, 1) := by decide +kernel
theorem dX7_work_39 : decode cX7_work 39 = .ok (.iload_n 2, 1) := by decide +kernel
theorem dX7_work_40 : decode cX7_work 40 = .ok (.invokevirtual 58, 3) := by decide +kernel
theorem dX7_work_43 : decode cX7_work 43 = .ok (.ireturn, 1) := by decide +kernel
set_option maxRecDepth 20000 in
theorem ggX7_isStitch_X7_isRound : GoodIn wsX7_isStitch wsX7_isRound := goodIn_r _ [5, 6, 7, 8, 4, 9, 10, 27, 28, 29, 30, 31, 32, 33, 34, 35, 36, 37, 38, 39, 40, 41, 42] (by decide +kernel) (by decide +kernel)
set_option maxRecDepth 20000 in
theorem gX7_isStitch_X7_isRound : GoodIn wsX7_isStitch (wsV RX7 151 RX7 yX7_isRound wsX7_isRound) := goodIn_app (goodIn_of _ (by decide +kernel)) ggX7_isStitch_X7_isRound
set_option maxRecDepth 20000 in
theorem ggX7_isStitch_X7_totalOf : GoodIn wsX7_isStitch wsX7_totalOf := goodIn_r _ [14, 15, 16, 17, 4, 18, 10, 19, 20, 21, 22, 23, 27, 28, 29, 30, 31, 32, 33, 34, 35, 36, 37, 38, 39, 40, 41, 42] (by decide +kernel) (by decide +kernel)
set_option maxRecDepth 20000 in
theorem gX7_isStitch_X7_totalOf : GoodIn wsX7_isStitch (wsV RX7 66 RX7 yX7_totalOf wsX7_totalOf) := goodIn_app (goodIn_of _ (by decide +kernel)) ggX7_isStitch_X7_totalOf
set_option maxRecDepth 20000 in
theorem ggX7_isStitch_X7_in : GoodIn wsX7_isStitch wsX7_in := goodIn_r _ [26] (by decide +kernel) (by decide +kernel)
set_option maxRecDepth 20000 in
theorem gX7_isStitch_X7_in : GoodIn wsX7_isStitch (va_wsS RX7 95 yX7_in wsX7_in) := goodIn_app (goodIn_of _ (by decide +kernel)) ggX7_isStitch_X7_in
theorem dX7_isStitch_0 : decode cX7_isStitch 0 = .ok (.aload_n 0, 1) := by decide +kernel
theorem dX7_isStitch_1 : decode cX7_isStitch 1 = .ok (.iload_n 1, 1) := by decide +kernel
theorem dX7_isStitch_2 : decode cX7_isStitch 2 = .ok (.invokevirtual 151, 3) := by decide +kernel
theorem dX7_isStitch_5 : decode cX7_isStitch 5 = .ok (.ifCond .eq 22, 3) := by decide +kernel
theorem dX7_isStitch_8 : decode cX7_isStitch 8 = .ok (.iload_n 2, 1) := by decide +kernel
theorem dX7_isStitch_9 : decode cX7_isStitch 9 = .ok (.iconst 0, 1) := by decide +kernel
theorem dX7_isStitch_10 : decode cX7_isStitch 10 = .ok (.aload_n 0, 1) := by decide +kernel
theorem dX7_isStitch_11 : decode cX7_isStitch 11 = .ok (.iload_n 1, 1) := by decide +kernel
theorem dX7_isStitch_12 : decode cX7_isStitch 12 = .ok (.invokevirtual 66, 3) := by decide +kernel
theorem dX7_isStitch_15 : decode cX7_isStitch 15 = .ok (.iconst 1, 1) := by decide +kernel
theorem dX7_isStitch_16 : decode cX7_isStitch 16 = .ok (.isub, 1) := by decide +kernel
theorem dX7_isStitch_17 : decode cX7_isStitch 17 = .ok (.invokestatic 95, 3) := by decide +kernel
theorem dX7_isStitch_20 : decode cX7_isStitch 20 = .ok (.ifCond .eq 7, 3) := by decide +kernel
theorem dX7_isStitch_23 : decode cX7_isStitch 23 = .ok (.iconst 1, 1) := by decide +kernel
theorem dX7_isStitch_24 : decode cX7_isStitch 24 = .ok (.goto 4, 3) := by decide +kernel
theorem dX7_isStitch_27 : decode cX7_isStitch 27 = .ok (.iconst 0, 1) := by decide +kernel
theorem dX7_isStitch_28 : decode cX7_isStitch 28 = .ok (.ireturn, 1) := by decide +kernel
set_option maxRecDepth 20000 in
theorem ggX7_makerOf_X7_kindOf : GoodIn wsX7_makerOf wsX7_kindOf := goodIn_r _ [5, 6, 7, 8, 9, 10, 11, 12, 13, 14, 15, 16, 17, 18, 19, 20, 21, 22, 23] (by decide +kernel) (by decide +kernel)
set_option maxRecDepth 20000 in
theorem gX7_makerOf_X7_kindOf : GoodIn wsX7_makerOf (wsV RX7 58 RX7 yX7_kindOf wsX7_kindOf) := goodIn_app (goodIn_of _ (by decide +kernel)) ggX7_makerOf_X7_kindOf
theorem dX7_makerOf_0 : decode cX7_makerOf 0 = .ok (.iconst 0, 1) := by decide +kernel
theorem dX7_makerOf_1 : decode cX7_makerOf 1 = .ok (.istore_n 3, 1) := by decide +kernel
theorem dX7_makerOf_2 : decode cX7_makerOf 2 = .ok (.aload_n 0, 1) := by decide +kernel
theorem dX7_makerOf_3 : decode cX7_makerOf 3 = .ok (.iload_n 1, 1) := by decide +kernel
theorem dX7_makerOf_4 : decode cX7_makerOf 4 = .ok (.iconst 0, 1) := by decide +kernel
theorem dX7_makerOf_5 : decode cX7_makerOf 5 = .ok (.invokevirtual 58, 3) := by decide +kernel
theorem dX7_makerOf_8 : decode cX7_makerOf 8 = .ok (.iconst 1, 1) := by decide +kernel
theorem dX7_makerOf_9 : decode cX7_makerOf 9 = .ok (.if_icmp .ne 7, 3) := by decide +kernel
theorem dX7_makerOf_12 : decode cX7_makerOf 12 = .ok (.iconst 2, 1) := by decide +kernel
theorem dX7_makerOf_13 : decode cX7_makerOf 13 = .ok (.goto 4, 3) := by decide +kernel
theorem dX7_makerOf_16 : decode cX7_makerOf 16 = .ok (.iconst 1, 1) := by decide +kernel
theorem dX7_makerOf_17 : decode cX7_makerOf 17 = .ok (.istore 4, 2) := by decide +kernel
theorem dX7_makerOf_19 : decode cX7_makerOf 19 = .ok (.iload 4, 2) := by decide +kernel
theorem dX7_makerOf_21 : decode cX7_makerOf 21 = .ok (.iload_n 2, 1) := by decide +kernel
theorem dX7_makerOf_22 : decode cX7_makerOf 22 = .ok (.if_icmp .gt 29, 3) := by decide +kernel
theorem dX7_makerOf_25 : decode cX7_makerOf 25 = .ok (.iinc 3 1, 3) := by decide +kernel
theorem dX7_makerOf_28 : decode cX7_makerOf 28 = .ok (.iload 4, 2) := by decide +kernel
theorem dX7_makerOf_30 : decode cX7_makerOf 30 = .ok (.aload_n 0, 1) := by decide +kernel
theorem dX7_makerOf_31 : decode cX7_makerOf 31 = .ok (.iload_n 1, 1) := by decide +kernel
theorem dX7_makerOf_32 : decode cX7_makerOf 32 = .ok (.iload_n 3, 1) := by decide +kernel
theorem dX7_makerOf_33 : decode cX7_makerOf 33 = .ok (.invokevirtual 58, 3) := by decide +kernel
theorem dX7_makerOf_36 : decode cX7_makerOf 36 = .ok (.iconst 1, 1) := by decide +kernel
theorem dX7_makerOf_37 : decode cX7_makerOf 37 = .ok (.if_icmp .ne 7, 3) := by decide +kernel
theorem dX7_makerOf_40 : decode cX7_makerOf 40 = .ok (.iconst 2, 1) := by decide +kernel
theorem dX7_makerOf_41 : decode cX7_makerOf 41 = .ok (.goto 4, 3) := by decide +kernel
theorem dX7_makerOf_44 : decode cX7_makerOf 44 = .ok (.iconst 1, 1) := by decide +kernel
theorem dX7_makerOf_45 : decode cX7_makerOf 45 = .ok (.iadd, 1) := by decide +kernel
theorem dX7_makerOf_46 : decode cX7_makerOf 46 = .ok (.istore 4, 2) := by decide +kernel
theorem dX7_makerOf_48 : decode cX7_makerOf 48 = .ok (.goto (-29), 3) := by decide +kernel
theorem dX7_makerOf_51 : decode cX7_makerOf 51 = .ok (.iload_n 3, 1) := by decide +kernel
theorem dX7_makerOf_52 : decode cX7_makerOf 52 = .ok (.ireturn, 1) := by decide +kernel
set_option maxRecDepth 20000 in
theorem ggX7_usedBy_X7_kindOf : GoodIn wsX7_usedBy wsX7_kindOf := goodIn_r _ [5, 6, 7, 8, 9, 10, 11, 12, 13, 14, 15, 16, 17, 18, 19, 20, 21, 22, 23] (by decide +kernel) (by decide +kernel)
set_option maxRecDepth 20000 in
theorem gX7_usedBy_X7_kindOf : GoodIn wsX7_usedBy (wsV RX7 58 RX7 yX7_kindOf wsX7_kindOf) := goodIn_app (goodIn_of _ (by decide +kernel)) ggX7_usedBy_X7_kindOf
theorem dX7_usedBy_0 : decode cX7_usedBy 0 = .ok (.iconst 0, 1) := by decide +kernel
theorem dX7_usedBy_1 : decode cX7_usedBy 1 = .ok (.istore_n 3, 1) := by decide +kernel
theorem dX7_usedBy_2 : decode cX7_usedBy 2 = .ok (.iconst 0, 1) := by decide +kernel
theorem dX7_usedBy_3 : decode cX7_usedBy 3 = .ok (.istore 4, 2) := by decide +kernel
theorem dX7_usedBy_5 : decode cX7_usedBy 5 = .ok (.iload 4, 2) := by decide +kernel
theorem dX7_usedBy_7 : decode cX7_usedBy 7 = .ok (.iload_n 2, 1) := by decide +kernel
theorem dX7_usedBy_8 : decode cX7_usedBy 8 = .ok (.if_icmp .ge 28, 3) := by decide +kernel
theorem dX7_usedBy_11 : decode cX7_usedBy 11 = .ok (.iload_n 3, 1) := by decide +kernel
theorem dX7_usedBy_12 : decode cX7_usedBy 12 = .ok (.aload_n 0, 1) := by decide +kernel
theorem dX7_usedBy_13 : decode cX7_usedBy 13 = .ok (.iload_n 1, 1) := by decide +kernel
theorem dX7_usedBy_14 : decode cX7_usedBy 14 = .ok (.iload 4, 2) := by decide +kernel
theorem dX7_usedBy_16 : decode cX7_usedBy 16 = .ok (.invokevirtual 58, 3) := by decide +kernel
theorem dX7_usedBy_19 : decode cX7_usedBy 19 = .ok (.iconst 2, 1) := by decide +kernel
theorem dX7_usedBy_20 : decode cX7_usedBy 20 = .ok (.if_icmp .ne 7, 3) := by decide +kernel
theorem dX7_usedBy_23 : decode cX7_usedBy 23 = .ok (.iconst 2, 1) := by decide +kernel
theorem dX7_usedBy_24 : decode cX7_usedBy 24 = .ok (.goto 4, 3) := by decide +kernel
theorem dX7_usedBy_27 : decode cX7_usedBy 27 = .ok (.iconst 1, 1) := by decide +kernel
theorem dX7_usedBy_28 : decode cX7_usedBy 28 = .ok (.iadd, 1) := by decide +kernel
theorem dX7_usedBy_29 : decode cX7_usedBy 29 = .ok (.istore_n 3, 1) := by decide +kernel
theorem dX7_usedBy_30 : decode cX7_usedBy 30 = .ok (.iinc 4 1, 3) := by decide +kernel
theorem dX7_usedBy_33 : decode cX7_usedBy 33 = .ok (.goto (-28), 3) := by decide +kernel
theorem dX7_usedBy_36 : decode cX7_usedBy 36 = .ok (.iload_n 3, 1) := by decide +kernel
theorem dX7_usedBy_37 : decode cX7_usedBy 37 = .ok (.ireturn, 1) := by decide +kernel
set_option maxRecDepth 20000 in
theorem ggX7_parentOf_X7_makerOf : GoodIn wsX7_parentOf wsX7_makerOf := goodIn_r _ [5, 6, 7, 8, 4, 9, 10, 11, 16, 17, 18, 19, 20, 21, 22, 23, 24, 25, 26, 27, 28, 29, 30, 31] (by decide +kernel) (by decide +kernel)
set_option maxRecDepth 20000 in
theorem gX7_parentOf_X7_makerOf : GoodIn wsX7_parentOf (wsV RX7 157 RX7 yX7_makerOf wsX7_makerOf) := goodIn_app (goodIn_of _ (by decide +kernel)) ggX7_parentOf_X7_makerOf
set_option maxRecDepth 20000 in
theorem ggX7_parentOf_X7_usedBy : GoodIn wsX7_parentOf wsX7_usedBy := goodIn_r _ [15, 6, 7, 8, 4, 9, 10, 11, 16, 17, 18, 19, 20, 21, 22, 23, 24, 25, 26, 27, 28, 29, 30, 31] (by decide +kernel) (by decide +kernel)
set_option maxRecDepth 20000 in
theorem gX7_parentOf_X7_usedBy : GoodIn wsX7_parentOf (wsV RX7 160 RX7 yX7_usedBy wsX7_usedBy) := goodIn_app (goodIn_of _ (by decide +kernel)) ggX7_parentOf_X7_usedBy
theorem dX7_parentOf_0 : decode cX7_parentOf 0 = .ok (.aload_n 0, 1) := by decide +kernel
theorem dX7_parentOf_1 : decode cX7_parentOf 1 = .ok (.iload_n 1, 1) := by decide +kernel
theorem dX7_parentOf_2 : decode cX7_parentOf 2 = .ok (.aload_n 0, 1) := by decide +kernel
theorem dX7_parentOf_3 : decode cX7_parentOf 3 = .ok (.iload_n 1, 1) := by decide +kernel
theorem dX7_parentOf_4 : decode cX7_parentOf 4 = .ok (.iload_n 2, 1) := by decide +kernel
theorem dX7_parentOf_5 : decode cX7_parentOf 5 = .ok (.invokevirtual 157, 3) := by decide +kernel
theorem dX7_parentOf_8 : decode cX7_parentOf 8 = .ok (.invokevirtual 160, 3) := by decide +kernel
theorem dX7_parentOf_11 : decode cX7_parentOf 11 = .ok (.ireturn, 1) := by decide +kernel
set_option maxRecDepth 20000 in
theorem ggX7_maker_X7_isStitch : GoodIn wsX7_maker wsX7_isStitch := goodIn_r _ [5, 6, 7, 8, 4, 9, 10, 11, 12, 13, 14, 15, 16, 17, 18, 19, 20, 21, 22, 23, 24, 25, 26, 27, 28, 29, 30, 40, 41, 42, 43, 44, 45, 46, 47, 48, 49, 50, 51, 52, 53, 54, 55] (by decide +kernel) (by decide +kernel)
set_option maxRecDepth 20000 in
theorem gX7_maker_X7_isStitch : GoodIn wsX7_maker (wsV RX7 163 RX7 yX7_isStitch wsX7_isStitch) := goodIn_app (goodIn_of _ (by decide +kernel)) ggX7_maker_X7_isStitch
set_option maxRecDepth 20000 in
theorem ggX7_maker_X7_throwsAt : GoodIn wsX7_maker wsX7_throwsAt := goodIn_r _ [34, 35, 40, 41, 42, 43, 44, 45, 46, 47, 48, 49, 50, 51, 52, 53, 54, 55] (by decide +kernel) (by decide +kernel)
set_option maxRecDepth 20000 in
theorem gX7_maker_X7_throwsAt : GoodIn wsX7_maker (wsV RX7 98 RX7 yX7_throwsAt wsX7_throwsAt) := goodIn_app (goodIn_of _ (by decide +kernel)) ggX7_maker_X7_throwsAt
set_option maxRecDepth 20000 in
theorem ggX7_maker_X7_makerOf : GoodIn wsX7_maker wsX7_makerOf := goodIn_r _ [39, 23, 24, 25, 4, 26, 14, 27, 40, 41, 42, 43, 44, 45, 46, 47, 48, 49, 50, 51, 52, 53, 54, 55] (by decide +kernel) (by decide +kernel)
set_option maxRecDepth 20000 in
theorem gX7_maker_X7_makerOf : GoodIn wsX7_maker (wsV RX7 157 RX7 yX7_makerOf wsX7_makerOf) := goodIn_app (goodIn_of _ (by decide +kernel)) ggX7_maker_X7_makerOf
theorem dX7_maker_0 : decode cX7_maker 0 = .ok (.aload_n 0, 1) := by decide +kernel
theorem dX7_maker_1 : decode cX7_maker 1 = .ok (.aload_n 0, 1) := by decide +kernel
theorem dX7_maker_2 : decode cX7_maker 2 = .ok (.iload_n 1, 1) := by decide +kernel
theorem dX7_maker_3 : decode cX7_maker 3 = .ok (.iload_n 2, 1) := by decide +kernel
theorem dX7_maker_4 : decode cX7_maker 4 = .ok (.invokevirtual 163, 3) := by decide +kernel
theorem dX7_maker_7 : decode cX7_maker 7 = .ok (.ifCond .eq 7, 3) := by decide +kernel
theorem dX7_maker_10 : decode cX7_maker 10 = .ok (.iconst 0, 1) := by decide +kernel
theorem dX7_maker_11 : decode cX7_maker 11 = .ok (.goto 4, 3) := by decide +kernel
theorem dX7_maker_14 : decode cX7_maker 14 = .ok (.iconst 1, 1) := by decide +kernel
theorem dX7_maker_15 : decode cX7_maker 15 = .ok (.invokevirtual 98, 3) := by decide +kernel
theorem dX7_maker_18 : decode cX7_maker 18 = .ok (.ifCond .eq 7, 3) := by decide +kernel
theorem dX7_maker_21 : decode cX7_maker 21 = .ok (.iconst 0, 1) := by decide +kernel
theorem dX7_maker_22 : decode cX7_maker 22 = .ok (.goto 9, 3) := by decide +kernel
theorem dX7_maker_25 : decode cX7_maker 25 = .ok (.aload_n 0, 1) := by decide +kernel
theorem dX7_maker_26 : decode cX7_maker 26 = .ok (.iload_n 1, 1) := by decide +kernel
theorem dX7_maker_27 : decode cX7_maker 27 = .ok (.iload_n 2, 1) := by decide +kernel
theorem dX7_maker_28 : decode cX7_maker 28 = .ok (.invokevirtual 157, 3) := by decide +kernel
theorem dX7_maker_31 : decode cX7_maker 31 = .ok (.ireturn, 1) := by decide +kernel
set_option maxRecDepth 20000 in
theorem ggX7_parent_X7_isStitch : GoodIn wsX7_parent wsX7_isStitch := goodIn_r _ [5, 6, 7, 8, 4, 9, 10, 11, 12, 13, 14, 15, 16, 17, 18, 19, 20, 21, 22, 23, 24, 25, 26, 27, 28, 29, 30, 48, 49, 50, 51, 52, 53, 54, 55, 56, 57, 58, 59, 60, 61, 62, 63] (by decide +kernel) (by decide +kernel)
set_option maxRecDepth 20000 in
theorem gX7_parent_X7_isStitch : GoodIn wsX7_parent (wsV RX7 163 RX7 yX7_isStitch wsX7_isStitch) := goodIn_app (goodIn_of _ (by decide +kernel)) ggX7_parent_X7_isStitch
set_option maxRecDepth 20000 in
theorem ggX7_parent_X7_throwsAt : GoodIn wsX7_parent wsX7_throwsAt := goodIn_r _ [34, 35, 48, 49, 50, 51, 52, 53, 54, 55, 56, 57, 58, 59, 60, 61, 62, 63] (by decide +kernel) (by decide +kernel)
set_option maxRecDepth 20000 in
theorem gX7_parent_X7_throwsAt : GoodIn wsX7_parent (wsV RX7 98 RX7 yX7_throwsAt wsX7_throwsAt) := goodIn_app (goodIn_of _ (by decide +kernel)) ggX7_parent_X7_throwsAt
set_option maxRecDepth 20000 in
theorem ggX7_parent_X7_parentOf : GoodIn wsX7_parent wsX7_parentOf := goodIn_r _ [39, 40, 41, 42, 4, 43, 23, 24, 25, 26, 14, 27, 44, 45, 46, 47, 48, 49, 50, 51, 52, 53, 54, 55, 56, 57, 58, 59, 60, 61, 62, 63] (by decide +kernel) (by decide +kernel)
set_option maxRecDepth 20000 in
theorem gX7_parent_X7_parentOf : GoodIn wsX7_parent (wsV RX7 166 RX7 yX7_parentOf wsX7_parentOf) := goodIn_app (goodIn_of _ (by decide +kernel)) ggX7_parent_X7_parentOf
theorem dX7_parent_0 : decode cX7_parent 0 = .ok (.aload_n 0, 1) := by decide +kernel
theorem dX7_parent_1 : decode cX7_parent 1 = .ok (.aload_n 0, 1) := by decide +kernel
theorem dX7_parent_2 : decode cX7_parent 2 = .ok (.iload_n 1, 1) := by decide +kernel
theorem dX7_parent_3 : decode cX7_parent 3 = .ok (.iload_n 2, 1) := by decide +kernel
theorem dX7_parent_4 : decode cX7_parent 4 = .ok (.invokevirtual 163, 3) := by decide +kernel
theorem dX7_parent_7 : decode cX7_parent 7 = .ok (.ifCond .eq 7, 3) := by decide +kernel
theorem dX7_parent_10 : decode cX7_parent 10 = .ok (.iconst 0, 1) := by decide +kernel
theorem dX7_parent_11 : decode cX7_parent 11 = .ok (.goto 4, 3) := by decide +kernel
theorem dX7_parent_14 : decode cX7_parent 14 = .ok (.iconst 1, 1) := by decide +kernel
theorem dX7_parent_15 : decode cX7_parent 15 = .ok (.invokevirtual 98, 3) := by decide +kernel
theorem dX7_parent_18 : decode cX7_parent 18 = .ok (.ifCond .eq 5, 3) := by decide +kernel
theorem dX7_parent_21 : decode cX7_parent 21 = .ok (.iconst 0, 1) := by decide +kernel
theorem dX7_parent_22 : decode cX7_parent 22 = .ok (.ireturn, 1) := by decide +kernel
theorem dX7_parent_23 : decode cX7_parent 23 = .ok (.iload_n 1, 1) := by decide +kernel
theorem dX7_parent_24 : decode cX7_parent 24 = .ok (.ifCond .ne 7, 3) := by decide +kernel
theorem dX7_parent_27 : decode cX7_parent 27 = .ok (.iconst (-1), 1) := by decide +kernel
theorem dX7_parent_28 : decode cX7_parent 28 = .ok (.goto 9, 3) := by decide +kernel
theorem dX7_parent_31 : decode cX7_parent 31 = .ok (.aload_n 0, 1) := by decide +kernel
theorem dX7_parent_32 : decode cX7_parent 32 = .ok (.iload_n 1, 1) := by decide +kernel
theorem dX7_parent_33 : decode cX7_parent 33 = .ok (.iload_n 2, 1) := by decide +kernel
theorem dX7_parent_34 : decode cX7_parent 34 = .ok (.invokevirtual 166, 3) := by decide +kernel
theorem dX7_parent_37 : decode cX7_parent 37 = .ok (.ireturn, 1) := by decide +kernel
set_option maxRecDepth 20000 in
theorem ggX7_child_X7_isStitch : GoodIn wsX7_child wsX7_isStitch := goodIn_r _ [5, 6, 7, 8, 4, 9, 10, 11, 12, 13, 14, 15, 16, 17, 18, 19, 20, 21, 22, 23, 24, 25, 26, 27, 28, 29, 30, 36, 37, 38, 39, 40, 41, 42, 43, 44, 45, 46, 47, 48, 49, 50, 51] (by decide +kernel) (by decide +kernel)
set_option maxRecDepth 20000 in
theorem gX7_child_X7_isStitch : GoodIn wsX7_child (wsV RX7 163 RX7 yX7_isStitch wsX7_isStitch) := goodIn_app (goodIn_of _ (by decide +kernel)) ggX7_child_X7_isStitch
set_option maxRecDepth 20000 in
theorem ggX7_child_X7_throwsAt : GoodIn wsX7_child wsX7_throwsAt := goodIn_r _ [34, 35, 36, 37, 38, 39, 40, 41, 42, 43, 44, 45, 46, 47, 48, 49, 50, 51] (by decide +kernel) (by decide +kernel)
set_option maxRecDepth 20000 in
theorem gX7_child_X7_throwsAt : GoodIn wsX7_child (wsV RX7 98 RX7 yX7_throwsAt wsX7_throwsAt) := goodIn_app (goodIn_of _ (by decide +kernel)) ggX7_child_X7_throwsAt
set_option maxRecDepth 20000 in
theorem ggX7_child_X7_rounds : GoodIn wsX7_child wsX7_rounds := goodIn_r _ [13, 14, 36, 37, 38, 39, 40, 41, 42, 43, 44, 45, 46, 47, 48, 49, 50, 51] (by decide +kernel) (by decide +kernel)
set_option maxRecDepth 20000 in
theorem gX7_child_X7_rounds : GoodIn wsX7_child (wsV RX7 62 RX7 yX7_rounds wsX7_rounds) := goodIn_app (goodIn_of _ (by decide +kernel)) ggX7_child_X7_rounds
set_option maxRecDepth 20000 in
theorem ggX7_child_X7_kindOf : GoodIn wsX7_child wsX7_kindOf := goodIn_r _ [26, 14, 27, 36, 37, 38, 39, 40, 41, 42, 43, 44, 45, 46, 47, 48, 49, 50, 51] (by decide +kernel) (by decide +kernel)
set_option maxRecDepth 20000 in
theorem gX7_child_X7_kindOf : GoodIn wsX7_child (wsV RX7 58 RX7 yX7_kindOf wsX7_kindOf) := goodIn_app (goodIn_of _ (by decide +kernel)) ggX7_child_X7_kindOf
theorem dX7_child_0 : decode cX7_child 0 = .ok (.aload_n 0, 1) := by decide +kernel
theorem dX7_child_1 : decode cX7_child 1 = .ok (.aload_n 0, 1) := by decide +kernel
theorem dX7_child_2 : decode cX7_child 2 = .ok (.iload_n 1, 1) := by decide +kernel
theorem dX7_child_3 : decode cX7_child 3 = .ok (.iload_n 2, 1) := by decide +kernel
theorem dX7_child_4 : decode cX7_child 4 = .ok (.invokevirtual 163, 3) := by decide +kernel
theorem dX7_child_7 : decode cX7_child 7 = .ok (.ifCond .eq 7, 3) := by decide +kernel
theorem dX7_child_10 : decode cX7_child 10 = .ok (.iconst 0, 1) := by decide +kernel
theorem dX7_child_11 : decode cX7_child 11 = .ok (.goto 4, 3) := by decide +kernel
theorem dX7_child_14 : decode cX7_child 14 = .ok (.iconst 1, 1) := by decide +kernel
theorem dX7_child_15 : decode cX7_child 15 = .ok (.invokevirtual 98, 3) := by decide +kernel
theorem dX7_child_18 : decode cX7_child 18 = .ok (.ifCond .eq 5, 3) := by decide +kernel
theorem dX7_child_21 : decode cX7_child 21 = .ok (.iconst 0, 1) := by decide +kernel
theorem dX7_child_22 : decode cX7_child 22 = .ok (.ireturn, 1) := by decide +kernel
theorem dX7_child_23 : decode cX7_child 23 = .ok (.iload_n 1, 1) := by decide +kernel
theorem dX7_child_24 : decode cX7_child 24 = .ok (.aload_n 0, 1) := by decide +kernel
theorem dX7_child_25 : decode cX7_child 25 = .ok (.invokevirtual 62, 3) := by decide +kernel
theorem dX7_child_28 : decode cX7_child 28 = .ok (.iconst 1, 1) := by decide +kernel
theorem dX7_child_29 : decode cX7_child 29 = .ok (.isub, 1) := by decide +kernel
theorem dX7_child_30 : decode cX7_child 30 = .ok (.if_icmp .ne 5, 3) := by decide +kernel
theorem dX7_child_33 : decode cX7_child 33 = .ok (.iconst (-1), 1) := by decide +kernel
theorem dX7_child_34 : decode cX7_child 34 = .ok (.ireturn, 1) := by decide +kernel
theorem dX7_child_35 : decode cX7_child 35 = .ok (.iconst 0, 1) := by decide +kernel
theorem dX7_child_36 : decode cX7_child 36 = .ok (.istore_n 3, 1) := by decide +kernel
theorem dX7_child_37 : decode cX7_child 37 = .ok (.iconst 0, 1) := by decide +kernel
theorem dX7_child_38 : decode cX7_child 38 = .ok (.istore 4, 2) := by decide +kernel
theorem dX7_child_40 : decode cX7_child 40 = .ok (.iconst 0, 1) := by decide +kernel
theorem dX7_child_41 : decode cX7_child 41 = .ok (.istore 5, 2) := by decide +kernel
theorem dX7_child_43 : decode cX7_child 43 = .ok (.iload_n 3, 1) := by decide +kernel
theorem dX7_child_44 : decode cX7_child 44 = .ok (.aload_n 0, 1) := by decide +kernel
theorem dX7_child_45 : decode cX7_child 45 = .ok (.iload_n 1, 1) := by decide +kernel
theorem dX7_child_46 : decode cX7_child 46 = .ok (.iconst 1, 1) := by decide +kernel
theorem dX7_child_47 : decode cX7_child 47 = .ok (.iadd, 1) := by decide +kernel
theorem dX7_child_48 : decode cX7_child 48 = .ok (.iload 5, 2) := by decide +kernel
theorem dX7_child_50 : decode cX7_child 50 = .ok (.invokevirtual 58, 3) := by decide +kernel
theorem dX7_child_53 : decode cX7_child 53 = .ok (.iconst 2, 1) := by decide +kernel
theorem dX7_child_54 : decode cX7_child 54 = .ok (.if_icmp .ne 7, 3) := by decide +kernel
theorem dX7_child_57 : decode cX7_child 57 = .ok (.iconst 2, 1) := by decide +kernel
theorem dX7_child_58 : decode cX7_child 58 = .ok (.goto 4, 3) := by decide +kernel
theorem dX7_child_61 : decode cX7_child 61 = .ok (.iconst 1, 1) := by decide +kernel
theorem dX7_child_62 : decode cX7_child 62 = .ok (.iadd, 1) := by decide +kernel
theorem dX7_child_63 : decode cX7_child 63 = .ok (.iload_n 2, 1) := by decide +kernel
theorem dX7_child_64 : decode cX7_child 64 = .ok (.if_icmp .gt 53, 3) := by decide +kernel
theorem dX7_child_67 : decode cX7_child 67 = .ok (.iload_n 3, 1) := by decide +kernel
theorem dX7_child_68 : decode cX7_child 68 = .ok (.aload_n 0, 1) := by decide +kernel
theorem dX7_child_69 : decode cX7_child 69 = .ok (.iload_n 1, 1) := by decide +kernel
theorem dX7_child_70 : decode cX7_child 70 = .ok (.iconst 1, 1) := by decide +kernel
theorem dX7_child_71 : decode cX7_child 71 = .ok (.iadd, 1) := by decide +kernel
theorem dX7_child_72 : decode cX7_child 72 = .ok (.iload 5, 2) := by decide +kernel
theorem dX7_child_74 : decode cX7_child 74 = .ok (.invokevirtual 58, 3) := by decide +kernel
theorem dX7_child_77 : decode cX7_child 77 = .ok (.iconst 2, 1) := by decide +kernel
theorem dX7_child_78 : decode cX7_child 78 = .ok (.if_icmp .ne 7, 3) := by decide +kernel
theorem dX7_child_81 : decode cX7_child 81 = .ok (.iconst 2, 1) := by decide +kernel
theorem dX7_child_82 : decode cX7_child 82 = .ok (.goto 4, 3) := by decide +kernel
theorem dX7_child_85 : decode cX7_child 85 = .ok (.iconst 1, 1) := by decide +kernel
theorem dX7_child_86 : decode cX7_child 86 = .ok (.iadd, 1) := by decide +kernel
theorem dX7_child_87 : decode cX7_child 87 = .ok (.istore_n 3, 1) := by decide +kernel
theorem dX7_child_88 : decode cX7_child 88 = .ok (.iload 4, 2) := by decide +kernel
theorem dX7_child_90 : decode cX7_child 90 = .ok (.aload_n 0, 1) := by decide +kernel
theorem dX7_child_91 : decode cX7_child 91 = .ok (.iload_n 1, 1) := by decide +kernel
theorem dX7_child_92 : decode cX7_child 92 = .ok (.iconst 1, 1) := by decide +kernel
theorem dX7_child_93 : decode cX7_child 93 = .ok (.iadd, 1) := by decide +kernel
theorem dX7_child_94 : decode cX7_child 94 = .ok (.iload 5, 2) := by decide +kernel
theorem dX7_child_96 : decode cX7_child 96 = .ok (.invokevirtual 58, 3) := by decide +kernel
theorem dX7_child_99 : decode cX7_child 99 = .ok (.iconst 1, 1) := by decide +kernel
theorem dX7_child_100 : decode cX7_child 100 = .ok (.if_icmp .ne 7, 3) := by decide +kernel
theorem dX7_child_103 : decode cX7_child 103 = .ok (.iconst 2, 1) := by decide +kernel
theorem dX7_child_104 : decode cX7_child 104 = .ok (.goto 4, 3) := by decide +kernel
theorem dX7_child_107 : decode cX7_child 107 = .ok (.iconst 1, 1) := by decide +kernel
theorem dX7_child_108 : decode cX7_child 108 = .ok (.iadd, 1) := by decide +kernel
theorem dX7_child_109 : decode cX7_child 109 = .ok (.istore 4, 2) := by decide +kernel
theorem dX7_child_111 : decode cX7_child 111 = .ok (.iinc 5 1, 3) := by decide +kernel
theorem dX7_child_114 : decode cX7_child 114 = .ok (.goto (-71), 3) := by decide +kernel
theorem dX7_child_117 : decode cX7_child 117 = .ok (.iload 4, 2) := by decide +kernel
theorem dX7_child_119 : decode cX7_child 119 = .ok (.ireturn, 1) := by decide +kernel
set_option maxRecDepth 20000 in
theorem ggX7_root_X7_isStitch : GoodIn wsX7_root wsX7_isStitch := goodIn_r _ [5, 6, 7, 8, 4, 9, 10, 11, 12, 13, 14, 15, 16, 17, 18, 19, 20, 21, 22, 23, 24, 25, 26, 27, 28, 29, 30, 48, 49, 50, 51, 52, 53, 54, 55, 56, 57, 58, 59, 60, 61, 62, 63] (by decide +kernel) (by decide +kernel)
set_option maxRecDepth 20000 in
theorem gX7_root_X7_isStitch : GoodIn wsX7_root (wsV RX7 163 RX7 yX7_isStitch wsX7_isStitch) := goodIn_app (goodIn_of _ (by decide +kernel)) ggX7_root_X7_isStitch
set_option maxRecDepth 20000 in
theorem ggX7_root_X7_throwsAt : GoodIn wsX7_root wsX7_throwsAt := goodIn_r _ [34, 35, 48, 49, 50, 51, 52, 53, 54, 55, 56, 57, 58, 59, 60, 61, 62, 63] (by decide +kernel) (by decide +kernel)
set_option maxRecDepth 20000 in
theorem gX7_root_X7_throwsAt : GoodIn wsX7_root (wsV RX7 98 RX7 yX7_throwsAt wsX7_throwsAt) := goodIn_app (goodIn_of _ (by decide +kernel)) ggX7_root_X7_throwsAt
set_option maxRecDepth 20000 in
theorem ggX7_root_X7_parentOf : GoodIn wsX7_root wsX7_parentOf := goodIn_r _ [39, 40, 41, 42, 4, 43, 23, 24, 25, 26, 14, 27, 44, 45, 46, 47, 48, 49, 50, 51, 52, 53, 54, 55, 56, 57, 58, 59, 60, 61, 62, 63] (by decide +kernel) (by decide +kernel)
set_option maxRecDepth 20000 in
theorem gX7_root_X7_parentOf : GoodIn wsX7_root (wsV RX7 166 RX7 yX7_parentOf wsX7_parentOf) := goodIn_app (goodIn_of _ (by decide +kernel)) ggX7_root_X7_parentOf
theorem dX7_root_0 : decode cX7_root 0 = .ok (.aload_n 0, 1) := by decide +kernel
theorem dX7_root_1 : decode cX7_root 1 = .ok (.aload_n 0, 1) := by decide +kernel
theorem dX7_root_2 : decode cX7_root 2 = .ok (.iload_n 1, 1) := by decide +kernel
theorem dX7_root_3 : decode cX7_root 3 = .ok (.iload_n 2, 1) := by decide +kernel
theorem dX7_root_4 : decode cX7_root 4 = .ok (.invokevirtual 163, 3) := by decide +kernel
theorem dX7_root_7 : decode cX7_root 7 = .ok (.ifCond .eq 7, 3) := by decide +kernel
theorem dX7_root_10 : decode cX7_root 10 = .ok (.iconst 0, 1) := by decide +kernel
theorem dX7_root_11 : decode cX7_root 11 = .ok (.goto 4, 3) := by decide +kernel
theorem dX7_root_14 : decode cX7_root 14 = .ok (.iconst 1, 1) := by decide +kernel
theorem dX7_root_15 : decode cX7_root 15 = .ok (.invokevirtual 98, 3) := by decide +kernel
theorem dX7_root_18 : decode cX7_root 18 = .ok (.ifCond .eq 5, 3) := by decide +kernel
theorem dX7_root_21 : decode cX7_root 21 = .ok (.iconst 0, 1) := by decide +kernel
theorem dX7_root_22 : decode cX7_root 22 = .ok (.ireturn, 1) := by decide +kernel
theorem dX7_root_23 : decode cX7_root 23 = .ok (.iload_n 2, 1) := by decide +kernel
theorem dX7_root_24 : decode cX7_root 24 = .ok (.istore_n 3, 1) := by decide +kernel
theorem dX7_root_25 : decode cX7_root 25 = .ok (.iload_n 1, 1) := by decide +kernel
theorem dX7_root_26 : decode cX7_root 26 = .ok (.istore 4, 2) := by decide +kernel
theorem dX7_root_28 : decode cX7_root 28 = .ok (.iload 4, 2) := by decide +kernel
theorem dX7_root_30 : decode cX7_root 30 = .ok (.ifCond .le 17, 3) := by decide +kernel
theorem dX7_root_33 : decode cX7_root 33 = .ok (.aload_n 0, 1) := by decide +kernel
theorem dX7_root_34 : decode cX7_root 34 = .ok (.iload 4, 2) := by decide +kernel
theorem dX7_root_36 : decode cX7_root 36 = .ok (.iload_n 3, 1) := by decide +kernel
theorem dX7_root_37 : decode cX7_root 37 = .ok (.invokevirtual 166, 3) := by decide +kernel
theorem dX7_root_40 : decode cX7_root 40 = .ok (.istore_n 3, 1) := by decide +kernel
theorem dX7_root_41 : decode cX7_root 41 = .ok (.iinc 4 (-1), 3) := by decide +kernel
theorem dX7_root_44 : decode cX7_root 44 = .ok (.goto (-16), 3) := by decide +kernel
theorem dX7_root_47 : decode cX7_root 47 = .ok (.iload_n 3, 1) := by decide +kernel
theorem dX7_root_48 : decode cX7_root 48 = .ok (.ireturn, 1) := by decide +kernel
set_option maxRecDepth 20000 in
theorem ggX7_place_X7_isStitch : GoodIn wsX7_place wsX7_isStitch := goodIn_r _ [6, 7, 8, 9, 5, 10, 11, 12, 13, 14, 1, 15, 16, 17, 18, 19, 20, 21, 22, 23, 24, 25, 26, 27, 28, 29, 30, 36, 37, 38, 39, 40, 41, 42, 43, 44, 45, 46, 47, 48, 49, 50, 51] (by decide +kernel) (by decide +kernel)
set_option maxRecDepth 20000 in
theorem gX7_place_X7_isStitch : GoodIn wsX7_place (wsV RX7 163 RX7 yX7_isStitch wsX7_isStitch) := goodIn_app (goodIn_of _ (by decide +kernel)) ggX7_place_X7_isStitch
set_option maxRecDepth 20000 in
theorem ggX7_place_X7_throwsAt : GoodIn wsX7_place wsX7_throwsAt := goodIn_r _ [34, 35, 36, 37, 38, 39, 40, 41, 42, 43, 44, 45, 46, 47, 48, 49, 50, 51] (by decide +kernel) (by decide +kernel)
set_option maxRecDepth 20000 in
theorem gX7_place_X7_throwsAt : GoodIn wsX7_place (wsV RX7 98 RX7 yX7_throwsAt wsX7_throwsAt) := goodIn_app (goodIn_of _ (by decide +kernel)) ggX7_place_X7_throwsAt
set_option maxRecDepth 20000 in
theorem ggX7_place_X7_totalOf : GoodIn wsX7_place wsX7_totalOf := goodIn_r _ [18, 19, 20, 21, 5, 22, 1, 23, 24, 25, 26, 27, 36, 37, 38, 39, 40, 41, 42, 43, 44, 45, 46, 47, 48, 49, 50, 51] (by decide +kernel) (by decide +kernel)
set_option maxRecDepth 20000 in
theorem gX7_place_X7_totalOf : GoodIn wsX7_place (wsV RX7 66 RX7 yX7_totalOf wsX7_totalOf) := goodIn_app (goodIn_of _ (by decide +kernel)) ggX7_place_X7_totalOf
theorem dX7_place_0 : decode cX7_place 0 = .ok (.aload_n 0, 1) := by decide +kernel
theorem dX7_place_1 : decode cX7_place 1 = .ok (.aload_n 0, 1) := by decide +kernel
theorem dX7_place_2 : decode cX7_place 2 = .ok (.iload_n 1, 1) := by decide +kernel
theorem dX7_place_3 : decode cX7_place 3 = .ok (.iload_n 2, 1) := by decide +kernel
theorem dX7_place_4 : decode cX7_place 4 = .ok (.invokevirtual 163, 3) := by decide +kernel
theorem dX7_place_7 : decode cX7_place 7 = .ok (.ifCond .eq 7, 3) := by decide +kernel
theorem dX7_place_10 : decode cX7_place 10 = .ok (.iconst 0, 1) := by decide +kernel
theorem dX7_place_11 : decode cX7_place 11 = .ok (.goto 4, 3) := by decide +kernel
theorem dX7_place_14 : decode cX7_place 14 = .ok (.iconst 1, 1) := by decide +kernel
theorem dX7_place_15 : decode cX7_place 15 = .ok (.invokevirtual 98, 3) := by decide +kernel
theorem dX7_place_18 : decode cX7_place 18 = .ok (.ifCond .eq 5, 3) := by decide +kernel
theorem dX7_place_21 : decode cX7_place 21 = .ok (.iconst 0, 1) := by decide +kernel
theorem dX7_place_22 : decode cX7_place 22 = .ok (.ireturn, 1) := by decide +kernel
theorem dX7_place_23 : decode cX7_place 23 = .ok (.aload_n 0, 1) := by decide +kernel
theorem dX7_place_24 : decode cX7_place 24 = .ok (.iload_n 1, 1) := by decide +kernel
theorem dX7_place_25 : decode cX7_place 25 = .ok (.invokevirtual 66, 3) := by decide +kernel
theorem dX7_place_28 : decode cX7_place 28 = .ok (.istore_n 3, 1) := by decide +kernel
theorem dX7_place_29 : decode cX7_place 29 = .ok (.aload_n 0, 1) := by decide +kernel
theorem dX7_place_30 : decode cX7_place 30 = .ok (.getfield 7, 3) := by decide +kernel
theorem dX7_place_33 : decode cX7_place 33 = .ok (.iconst 1, 1) := by decide +kernel
theorem dX7_place_34 : decode cX7_place 34 = .ok (.laload, 1) := by decide +kernel
theorem dX7_place_35 : decode cX7_place 35 = .ok (.lconst 1, 1) := by decide +kernel
theorem dX7_place_36 : decode cX7_place 36 = .ok (.lcmp, 1) := by decide +kernel
theorem dX7_place_37 : decode cX7_place 37 = .ok (.ifCond .ne 23, 3) := by decide +kernel
theorem dX7_place_40 : decode cX7_place 40 = .ok (.iconst 2, 1) := by decide +kernel
theorem dX7_place_41 : decode cX7_place 41 = .ok (.iload_n 2, 1) := by decide +kernel
theorem dX7_place_42 : decode cX7_place 42 = .ok (.imul, 1) := by decide +kernel
theorem dX7_place_43 : decode cX7_place 43 = .ok (.iload_n 1, 1) := by decide +kernel
theorem dX7_place_44 : decode cX7_place 44 = .ok (.iadd, 1) := by decide +kernel
theorem dX7_place_45 : decode cX7_place 45 = .ok (.sipush 1000, 3) := by decide +kernel
theorem dX7_place_48 : decode cX7_place 48 = .ok (.imul, 1) := by decide +kernel
theorem dX7_place_49 : decode cX7_place 49 = .ok (.iconst 2, 1) := by decide +kernel
theorem dX7_place_50 : decode cX7_place 50 = .ok (.iload_n 3, 1) := by decide +kernel
theorem dX7_place_51 : decode cX7_place 51 = .ok (.imul, 1) := by decide +kernel
theorem dX7_place_52 : decode cX7_place 52 = .ok (.idiv, 1) := by decide +kernel
theorem dX7_place_53 : decode cX7_place 53 = .ok (.sipush 1000, 3) := by decide +kernel
theorem dX7_place_56 : decode cX7_place 56 = .ok (.irem, 1) := by decide +kernel
theorem dX7_place_57 : decode cX7_place 57 = .ok (.goto 10, 3) := by decide +kernel
theorem dX7_place_60 : decode cX7_place 60 = .ok (.iload_n 2, 1) := by decide +kernel
theorem dX7_place_61 : decode cX7_place 61 = .ok (.sipush 1000, 3) := by decide +kernel
theorem dX7_place_64 : decode cX7_place 64 = .ok (.imul, 1) := by decide +kernel
theorem dX7_place_65 : decode cX7_place 65 = .ok (.iload_n 3, 1) := by decide +kernel
theorem dX7_place_66 : decode cX7_place 66 = .ok (.idiv, 1) := by decide +kernel
theorem dX7_place_67 : decode cX7_place 67 = .ok (.ireturn, 1) := by decide +kernel
set_option maxRecDepth 20000 in
theorem ggX7_sumOf_X7_rounds : GoodIn wsX7_sumOf wsX7_rounds := goodIn_r _ [5, 6, 59, 60, 61, 62, 63, 64, 65, 66, 67, 68, 69, 70, 71, 72, 73, 74] (by decide +kernel) (by decide +kernel)
set_option maxRecDepth 20000 in
theorem gX7_sumOf_X7_rounds : GoodIn wsX7_sumOf (wsV RX7 62 RX7 yX7_rounds wsX7_rounds) := goodIn_app (goodIn_of _ (by decide +kernel)) ggX7_sumOf_X7_rounds
set_option maxRecDepth 20000 in
theorem ggX7_sumOf_X7_roundOf : GoodIn wsX7_sumOf wsX7_roundOf := goodIn_r _ [10, 11, 12, 13, 4, 14, 15, 16, 17, 18, 6, 19, 20, 21, 22, 23, 24, 25, 26, 27, 28, 29, 30, 31, 32, 33, 34, 35, 36, 37, 38, 39, 40, 41, 42, 43, 44, 45, 46, 47, 48, 49, 50, 51, 52, 53, 54, 55, 56, 57, 58, 59, 60, 61, 62, 63, 64, 65, 66, 67, 68, 69, 70, 71, 72, 73, 74] (by decide +kernel) (by decide +kernel)
set_option maxRecDepth 20000 in
theorem gX7_sumOf_X7_roundOf : GoodIn wsX7_sumOf (wsV RX7 154 RX7 yX7_roundOf wsX7_roundOf) := goodIn_app (goodIn_of _ (by decide +kernel)) ggX7_sumOf_X7_roundOf
theorem dX7_sumOf_0 : decode cX7_sumOf 0 = .ok (.iconst 0, 1) := by decide +kernel
theorem dX7_sumOf_1 : decode cX7_sumOf 1 = .ok (.istore_n 2, 1) := by decide +kernel
theorem dX7_sumOf_2 : decode cX7_sumOf 2 = .ok (.iconst 0, 1) := by decide +kernel
theorem dX7_sumOf_3 : decode cX7_sumOf 3 = .ok (.istore_n 3, 1) := by decide +kernel
theorem dX7_sumOf_4 : decode cX7_sumOf 4 = .ok (.iload_n 3, 1) := by decide +kernel
theorem dX7_sumOf_5 : decode cX7_sumOf 5 = .ok (.aload_n 0, 1) := by decide +kernel
theorem dX7_sumOf_6 : decode cX7_sumOf 6 = .ok (.invokevirtual 62, 3) := by decide +kernel
theorem dX7_sumOf_9 : decode cX7_sumOf 9 = .ok (.if_icmp .ge 18, 3) := by decide +kernel
theorem dX7_sumOf_12 : decode cX7_sumOf 12 = .ok (.iload_n 2, 1) := by decide +kernel
theorem dX7_sumOf_13 : decode cX7_sumOf 13 = .ok (.aload_n 0, 1) := by decide +kernel
theorem dX7_sumOf_14 : decode cX7_sumOf 14 = .ok (.iload_n 3, 1) := by decide +kernel
theorem dX7_sumOf_15 : decode cX7_sumOf 15 = .ok (.iload_n 1, 1) := by decide +kernel
theorem dX7_sumOf_16 : decode cX7_sumOf 16 = .ok (.invokevirtual 154, 3) := by decide +kernel
theorem dX7_sumOf_19 : decode cX7_sumOf 19 = .ok (.iadd, 1) := by decide +kernel
theorem dX7_sumOf_20 : decode cX7_sumOf 20 = .ok (.istore_n 2, 1) := by decide +kernel
theorem dX7_sumOf_21 : decode cX7_sumOf 21 = .ok (.iinc 3 1, 3) := by decide +kernel
theorem dX7_sumOf_24 : decode cX7_sumOf 24 = .ok (.goto (-20), 3) := by decide +kernel
theorem dX7_sumOf_27 : decode cX7_sumOf 27 = .ok (.iload_n 2, 1) := by decide +kernel
theorem dX7_sumOf_28 : decode cX7_sumOf 28 = .ok (.ireturn, 1) := by decide +kernel
set_option maxRecDepth 20000 in
theorem ggX7_widest_X7_rounds : GoodIn wsX7_widest wsX7_rounds := goodIn_r _ [5, 6, 20, 21, 22, 23, 24, 25, 26, 27, 28, 29, 30, 31, 32, 33, 34, 35] (by decide +kernel) (by decide +kernel)
set_option maxRecDepth 20000 in
theorem gX7_widest_X7_rounds : GoodIn wsX7_widest (wsV RX7 62 RX7 yX7_rounds wsX7_rounds) := goodIn_app (goodIn_of _ (by decide +kernel)) ggX7_widest_X7_rounds
set_option maxRecDepth 20000 in
theorem ggX7_widest_X7_totalOf : GoodIn wsX7_widest wsX7_totalOf := goodIn_r _ [10, 11, 12, 13, 4, 14, 6, 15, 16, 17, 18, 19, 20, 21, 22, 23, 24, 25, 26, 27, 28, 29, 30, 31, 32, 33, 34, 35] (by decide +kernel) (by decide +kernel)
set_option maxRecDepth 20000 in
theorem gX7_widest_X7_totalOf : GoodIn wsX7_widest (wsV RX7 66 RX7 yX7_totalOf wsX7_totalOf) := goodIn_app (goodIn_of _ (by decide +kernel)) ggX7_widest_X7_totalOf
theorem dX7_widest_0 : decode cX7_widest 0 = .ok (.iconst 0, 1) := by decide +kernel
theorem dX7_widest_1 : decode cX7_widest 1 = .ok (.istore_n 1, 1) := by decide +kernel
theorem dX7_widest_2 : decode cX7_widest 2 = .ok (.iconst 1, 1) := by decide +kernel
theorem dX7_widest_3 : decode cX7_widest 3 = .ok (.istore_n 2, 1) := by decide +kernel
theorem dX7_widest_4 : decode cX7_widest 4 = .ok (.iload_n 2, 1) := by decide +kernel
theorem dX7_widest_5 : decode cX7_widest 5 = .ok (.aload_n 0, 1) := by decide +kernel
theorem dX7_widest_6 : decode cX7_widest 6 = .ok (.invokevirtual 62, 3) := by decide +kernel
theorem dX7_widest_9 : decode cX7_widest 9 = .ok (.if_icmp .ge 28, 3) := by decide +kernel
theorem dX7_widest_12 : decode cX7_widest 12 = .ok (.aload_n 0, 1) := by decide +kernel
theorem dX7_widest_13 : decode cX7_widest 13 = .ok (.iload_n 2, 1) := by decide +kernel
theorem dX7_widest_14 : decode cX7_widest 14 = .ok (.invokevirtual 66, 3) := by decide +kernel
theorem dX7_widest_17 : decode cX7_widest 17 = .ok (.aload_n 0, 1) := by decide +kernel
theorem dX7_widest_18 : decode cX7_widest 18 = .ok (.iload_n 1, 1) := by decide +kernel
theorem dX7_widest_19 : decode cX7_widest 19 = .ok (.invokevirtual 66, 3) := by decide +kernel
theorem dX7_widest_22 : decode cX7_widest 22 = .ok (.if_icmp .le 7, 3) := by decide +kernel
theorem dX7_widest_25 : decode cX7_widest 25 = .ok (.iload_n 2, 1) := by decide +kernel
theorem dX7_widest_26 : decode cX7_widest 26 = .ok (.goto 4, 3) := by decide +kernel
theorem dX7_widest_29 : decode cX7_widest 29 = .ok (.iload_n 1, 1) := by decide +kernel
theorem dX7_widest_30 : decode cX7_widest 30 = .ok (.istore_n 1, 1) := by decide +kernel
theorem dX7_widest_31 : decode cX7_widest 31 = .ok (.iinc 2 1, 3) := by decide +kernel
theorem dX7_widest_34 : decode cX7_widest 34 = .ok (.goto (-30), 3) := by decide +kernel
theorem dX7_widest_37 : decode cX7_widest 37 = .ok (.iload_n 1, 1) := by decide +kernel
theorem dX7_widest_38 : decode cX7_widest 38 = .ok (.ireturn, 1) := by decide +kernel
set_option maxRecDepth 20000 in
theorem ggX7_valueOf_X7_rounds : GoodIn wsX7_valueOf wsX7_rounds := goodIn_r _ [6, 1, 71, 72, 73, 74, 75, 76, 77, 78, 79, 80, 81, 82, 83, 84, 85, 86] (by decide +kernel) (by decide +kernel)
set_option maxRecDepth 20000 in
theorem gX7_valueOf_X7_rounds : GoodIn wsX7_valueOf (wsV RX7 62 RX7 yX7_rounds wsX7_rounds) := goodIn_app (goodIn_of _ (by decide +kernel)) ggX7_valueOf_X7_rounds
set_option maxRecDepth 20000 in
theorem ggX7_valueOf_X7_last : GoodIn wsX7_valueOf wsX7_last := goodIn_r _ [10, 2, 3, 4, 5, 6, 1, 11, 12, 13, 14, 15, 16, 17, 18, 19, 20, 21, 22, 23, 71, 72, 73, 74, 75, 76, 77, 78, 79, 80, 81, 82, 83, 84, 85, 86] (by decide +kernel) (by decide +kernel)
set_option maxRecDepth 20000 in
theorem gX7_valueOf_X7_last : GoodIn wsX7_valueOf (wsV RX7 85 RX7 yX7_last wsX7_last) := goodIn_app (goodIn_of _ (by decide +kernel)) ggX7_valueOf_X7_last
set_option maxRecDepth 20000 in
theorem ggX7_valueOf_X7_sumOf : GoodIn wsX7_valueOf wsX7_sumOf := goodIn_r _ [27, 2, 3, 4, 5, 6, 1, 28, 29, 30, 31, 11, 12, 13, 14, 15, 16, 17, 18, 19, 20, 21, 22, 23, 32, 33, 34, 35, 36, 37, 38, 39, 40, 41, 42, 43, 44, 45, 46, 47, 48, 49, 50, 51, 52, 53, 54, 55, 56, 57, 58, 59, 60, 61, 62, 63, 64, 65, 66, 71, 72, 73, 74, 75, 76, 77, 78, 79, 80, 81, 82, 83, 84, 85, 86] (by decide +kernel) (by decide +kernel)
set_option maxRecDepth 20000 in
theorem gX7_valueOf_X7_sumOf : GoodIn wsX7_valueOf (wsV RX7 169 RX7 yX7_sumOf wsX7_sumOf) := goodIn_app (goodIn_of _ (by decide +kernel)) ggX7_valueOf_X7_sumOf
set_option maxRecDepth 20000 in
theorem ggX7_valueOf_X7_widest : GoodIn wsX7_valueOf wsX7_widest := goodIn_r _ [70, 2, 3, 4, 5, 6, 1, 11, 12, 13, 14, 15, 16, 17, 18, 19, 20, 21, 22, 23, 71, 72, 73, 74, 75, 76, 77, 78, 79, 80, 81, 82, 83, 84, 85, 86] (by decide +kernel) (by decide +kernel)
set_option maxRecDepth 20000 in
theorem gX7_valueOf_X7_widest : GoodIn wsX7_valueOf (wsV RX7 172 RX7 yX7_widest wsX7_widest) := goodIn_app (goodIn_of _ (by decide +kernel)) ggX7_valueOf_X7_widest
theorem dX7_valueOf_0 : decode cX7_valueOf 0 = .ok (.iload_n 1, 1) := by decide +kernel
theorem dX7_valueOf_1 : decode cX7_valueOf 1 = .ok (.tableswitch 84 0 6 #[43, 48, 53, 59, 66, 72, 79], 43) := by decide +kernel
theorem dX7_valueOf_44 : decode cX7_valueOf 44 = .ok (.aload_n 0, 1) := by decide +kernel
theorem dX7_valueOf_45 : decode cX7_valueOf 45 = .ok (.invokevirtual 62, 3) := by decide +kernel
theorem dX7_valueOf_48 : decode cX7_valueOf 48 = .ok (.ireturn, 1) := by decide +kernel
theorem dX7_valueOf_49 : decode cX7_valueOf 49 = .ok (.aload_n 0, 1) := by decide +kernel
theorem dX7_valueOf_50 : decode cX7_valueOf 50 = .ok (.invokevirtual 85, 3) := by decide +kernel
theorem dX7_valueOf_53 : decode cX7_valueOf 53 = .ok (.ireturn, 1) := by decide +kernel
theorem dX7_valueOf_54 : decode cX7_valueOf 54 = .ok (.aload_n 0, 1) := by decide +kernel
theorem dX7_valueOf_55 : decode cX7_valueOf 55 = .ok (.iconst 0, 1) := by decide +kernel
theorem dX7_valueOf_56 : decode cX7_valueOf 56 = .ok (.invokevirtual 169, 3) := by decide +kernel
theorem dX7_valueOf_59 : decode cX7_valueOf 59 = .ok (.ireturn, 1) := by decide +kernel
theorem dX7_valueOf_60 : decode cX7_valueOf 60 = .ok (.aload_n 0, 1) := by decide +kernel
theorem dX7_valueOf_61 : decode cX7_valueOf 61 = .ok (.bipush 7, 2) := by decide +kernel
theorem dX7_valueOf_63 : decode cX7_valueOf 63 = .ok (.invokevirtual 169, 3) := by decide +kernel
theorem dX7_valueOf_66 : decode cX7_valueOf 66 = .ok (.ireturn, 1) := by decide +kernel
theorem dX7_valueOf_67 : decode cX7_valueOf 67 = .ok (.aload_n 0, 1) := by decide +kernel
theorem dX7_valueOf_68 : decode cX7_valueOf 68 = .ok (.iconst 5, 1) := by decide +kernel
theorem dX7_valueOf_69 : decode cX7_valueOf 69 = .ok (.invokevirtual 169, 3) := by decide +kernel
theorem dX7_valueOf_72 : decode cX7_valueOf 72 = .ok (.ireturn, 1) := by decide +kernel
theorem dX7_valueOf_73 : decode cX7_valueOf 73 = .ok (.aload_n 0, 1) := by decide +kernel
theorem dX7_valueOf_74 : decode cX7_valueOf 74 = .ok (.bipush 6, 2) := by decide +kernel
theorem dX7_valueOf_76 : decode cX7_valueOf 76 = .ok (.invokevirtual 169, 3) := by decide +kernel
theorem dX7_valueOf_79 : decode cX7_valueOf 79 = .ok (.ireturn, 1) := by decide +kernel
theorem dX7_valueOf_80 : decode cX7_valueOf 80 = .ok (.aload_n 0, 1) := by decide +kernel
theorem dX7_valueOf_81 : decode cX7_valueOf 81 = .ok (.invokevirtual 172, 3) := by decide +kernel
theorem dX7_valueOf_84 : decode cX7_valueOf 84 = .ok (.ireturn, 1) := by decide +kernel
theorem dX7_valueOf_85 : decode cX7_valueOf 85 = .ok (.aload_n 0, 1) := by decide +kernel
theorem dX7_valueOf_86 : decode cX7_valueOf 86 = .ok (.getfield 7, 3) := by decide +kernel
theorem dX7_valueOf_89 : decode cX7_valueOf 89 = .ok (.iconst 1, 1) := by decide +kernel
theorem dX7_valueOf_90 : decode cX7_valueOf 90 = .ok (.laload, 1) := by decide +kernel
theorem dX7_valueOf_91 : decode cX7_valueOf 91 = .ok (.l2i, 1) := by decide +kernel
theorem dX7_valueOf_92 : decode cX7_valueOf 92 = .ok (.ireturn, 1) := by decide +kernel
set_option maxRecDepth 20000 in
theorem ggX7_value_X7_in : GoodIn wsX7_value wsX7_in := goodIn_r _ [4] (by decide +kernel) (by decide +kernel)
set_option maxRecDepth 20000 in
theorem gX7_value_X7_in : GoodIn wsX7_value (va_wsS RX7 95 yX7_in wsX7_in) := goodIn_app (goodIn_of _ (by decide +kernel)) ggX7_value_X7_in
set_option maxRecDepth 20000 in
theorem ggX7_value_X7_throwsAt : GoodIn wsX7_value wsX7_throwsAt := goodIn_r _ [8, 9, 83, 84, 85, 86, 87, 88, 89, 90, 91, 92, 93, 94, 95, 96, 97, 98] (by decide +kernel) (by decide +kernel)
set_option maxRecDepth 20000 in
theorem gX7_value_X7_throwsAt : GoodIn wsX7_value (wsV RX7 98 RX7 yX7_throwsAt wsX7_throwsAt) := goodIn_app (goodIn_of _ (by decide +kernel)) ggX7_value_X7_throwsAt
set_option maxRecDepth 20000 in
theorem ggX7_value_X7_valueOf : GoodIn wsX7_value wsX7_valueOf := goodIn_r _ [13, 14, 15, 16, 17, 3, 18, 19, 20, 21, 22, 23, 24, 25, 26, 27, 28, 29, 30, 31, 32, 33, 34, 35, 36, 37, 38, 39, 40, 41, 42, 43, 44, 45, 46, 47, 48, 49, 50, 51, 52, 53, 54, 55, 56, 57, 58, 59, 60, 61, 62, 63, 64, 65, 66, 67, 68, 69, 70, 71, 72, 73, 74, 75, 76, 77, 78, 79, 80, 81, 82, 83, 84, 85, 86, 87, 88, 89, 90, 91, 92, 93, 94, 95, 96, 97, 98] (by decide +kernel) (by decide +kernel)
set_option maxRecDepth 20000 in
theorem gX7_value_X7_valueOf : GoodIn wsX7_value (wsV RX7 175 RX7 yX7_valueOf wsX7_valueOf) := goodIn_app (goodIn_of _ (by decide +kernel)) ggX7_value_X7_valueOf
theorem dX7_value_0 : decode cX7_value 0 = .ok (.aload_n 0, 1) := by decide +kernel
theorem dX7_value_1 : decode cX7_value 1 = .ok (.iload_n 1, 1) := by decide +kernel
theorem dX7_value_2 : decode cX7_value 2 = .ok (.iconst 0, 1) := by decide +kernel
theorem dX7_value_3 : decode cX7_value 3 = .ok (.bipush 7, 2) := by decide +kernel
theorem dX7_value_5 : decode cX7_value 5 = .ok (.invokestatic 95, 3) := by decide +kernel
theorem dX7_value_8 : decode cX7_value 8 = .ok (.ifCond .eq 7, 3) := by decide +kernel
theorem dX7_value_11 : decode cX7_value 11 = .ok (.iconst 0, 1) := by decide +kernel
theorem dX7_value_12 : decode cX7_value 12 = .ok (.goto 4, 3) := by decide +kernel
theorem dX7_value_15 : decode cX7_value 15 = .ok (.iconst 1, 1) := by decide +kernel
theorem dX7_value_16 : decode cX7_value 16 = .ok (.invokevirtual 98, 3) := by decide +kernel
theorem dX7_value_19 : decode cX7_value 19 = .ok (.ifCond .eq 7, 3) := by decide +kernel
theorem dX7_value_22 : decode cX7_value 22 = .ok (.iconst 0, 1) := by decide +kernel
theorem dX7_value_23 : decode cX7_value 23 = .ok (.goto 8, 3) := by decide +kernel
theorem dX7_value_26 : decode cX7_value 26 = .ok (.aload_n 0, 1) := by decide +kernel
theorem dX7_value_27 : decode cX7_value 27 = .ok (.iload_n 1, 1) := by decide +kernel
theorem dX7_value_28 : decode cX7_value 28 = .ok (.invokevirtual 175, 3) := by decide +kernel
theorem dX7_value_31 : decode cX7_value 31 = .ok (.ireturn, 1) := by decide +kernel
set_option maxRecDepth 20000 in
theorem ggX7_goal_X7_isShape : GoodIn wsX7_goal wsX7_isShape := goodIn_r _ [4, 5, 6, 3, 7] (by decide +kernel) (by decide +kernel)
set_option maxRecDepth 20000 in
theorem gX7_goal_X7_isShape : GoodIn wsX7_goal (va_wsS RX7 132 yX7_isShape wsX7_isShape) := goodIn_app (goodIn_of _ (by decide +kernel)) ggX7_goal_X7_isShape
set_option maxRecDepth 20000 in
theorem ggX7_goal_X7_in : GoodIn wsX7_goal wsX7_in := goodIn_r _ [7] (by decide +kernel) (by decide +kernel)
set_option maxRecDepth 20000 in
theorem gX7_goal_X7_in : GoodIn wsX7_goal (va_wsS RX7 95 yX7_in wsX7_in) := goodIn_app (goodIn_of _ (by decide +kernel)) ggX7_goal_X7_in
set_option maxRecDepth 20000 in
theorem ggX7_goal_X7_throwsAt : GoodIn wsX7_goal wsX7_throwsAt := goodIn_r _ [11, 12, 28, 29, 30, 31, 32, 33, 34, 35, 36, 37, 38, 39, 40, 41, 42, 43] (by decide +kernel) (by decide +kernel)
set_option maxRecDepth 20000 in
theorem gX7_goal_X7_throwsAt : GoodIn wsX7_goal (wsV RX7 98 RX7 yX7_throwsAt wsX7_throwsAt) := goodIn_app (goodIn_of _ (by decide +kernel)) ggX7_goal_X7_throwsAt
set_option maxRecDepth 20000 in
theorem ggX7_goal_X7_goalOf : GoodIn wsX7_goal wsX7_goalOf := goodIn_r _ [16, 17, 18, 19, 3, 20, 21, 22, 23, 24, 25, 26, 27, 28, 29, 30, 31, 32, 33, 34, 35, 36, 37, 38, 39, 40, 41, 42, 43] (by decide +kernel) (by decide +kernel)
set_option maxRecDepth 20000 in
theorem gX7_goal_X7_goalOf : GoodIn wsX7_goal (wsV RX7 135 RX7 yX7_goalOf wsX7_goalOf) := goodIn_app (goodIn_of _ (by decide +kernel)) ggX7_goal_X7_goalOf
theorem dX7_goal_0 : decode cX7_goal 0 = .ok (.aload_n 0, 1) := by decide +kernel
theorem dX7_goal_1 : decode cX7_goal 1 = .ok (.iload_n 1, 1) := by decide +kernel
theorem dX7_goal_2 : decode cX7_goal 2 = .ok (.iload_n 2, 1) := by decide +kernel
theorem dX7_goal_3 : decode cX7_goal 3 = .ok (.invokestatic 132, 3) := by decide +kernel
theorem dX7_goal_6 : decode cX7_goal 6 = .ok (.ifCond .eq 17, 3) := by decide +kernel
theorem dX7_goal_9 : decode cX7_goal 9 = .ok (.iload_n 3, 1) := by decide +kernel
theorem dX7_goal_10 : decode cX7_goal 10 = .ok (.iconst 0, 1) := by decide +kernel
theorem dX7_goal_11 : decode cX7_goal 11 = .ok (.bipush 39, 2) := by decide +kernel
theorem dX7_goal_13 : decode cX7_goal 13 = .ok (.invokestatic 95, 3) := by decide +kernel
theorem dX7_goal_16 : decode cX7_goal 16 = .ok (.ifCond .eq 7, 3) := by decide +kernel
theorem dX7_goal_19 : decode cX7_goal 19 = .ok (.iconst 0, 1) := by decide +kernel
theorem dX7_goal_20 : decode cX7_goal 20 = .ok (.goto 4, 3) := by decide +kernel
theorem dX7_goal_23 : decode cX7_goal 23 = .ok (.iconst 1, 1) := by decide +kernel
theorem dX7_goal_24 : decode cX7_goal 24 = .ok (.invokevirtual 98, 3) := by decide +kernel
theorem dX7_goal_27 : decode cX7_goal 27 = .ok (.ifCond .eq 7, 3) := by decide +kernel
theorem dX7_goal_30 : decode cX7_goal 30 = .ok (.iconst 0, 1) := by decide +kernel
theorem dX7_goal_31 : decode cX7_goal 31 = .ok (.goto 10, 3) := by decide +kernel
theorem dX7_goal_34 : decode cX7_goal 34 = .ok (.aload_n 0, 1) := by decide +kernel
theorem dX7_goal_35 : decode cX7_goal 35 = .ok (.iload_n 1, 1) := by decide +kernel
theorem dX7_goal_36 : decode cX7_goal 36 = .ok (.iload_n 2, 1) := by decide +kernel
theorem dX7_goal_37 : decode cX7_goal 37 = .ok (.iload_n 3, 1) := by decide +kernel
theorem dX7_goal_38 : decode cX7_goal 38 = .ok (.invokevirtual 135, 3) := by decide +kernel
theorem dX7_goal_41 : decode cX7_goal 41 = .ok (.ireturn, 1) := by decide +kernel
set_option maxRecDepth 20000 in
theorem ggX7_stacks_X7_in : GoodIn wsX7_stacks wsX7_in := goodIn_r _ [4] (by decide +kernel) (by decide +kernel)
set_option maxRecDepth 20000 in
theorem gX7_stacks_X7_in : GoodIn wsX7_stacks (va_wsS RX7 95 yX7_in wsX7_in) := goodIn_app (goodIn_of _ (by decide +kernel)) ggX7_stacks_X7_in
set_option maxRecDepth 20000 in
theorem ggX7_stacks_X7_throwsAt : GoodIn wsX7_stacks wsX7_throwsAt := goodIn_r _ [8, 9, 53, 54, 55, 56, 57, 58, 59, 60, 61, 62, 63, 64, 65, 66, 67, 68] (by decide +kernel) (by decide +kernel)
set_option maxRecDepth 20000 in
theorem gX7_stacks_X7_throwsAt : GoodIn wsX7_stacks (wsV RX7 98 RX7 yX7_throwsAt wsX7_throwsAt) := goodIn_app (goodIn_of _ (by decide +kernel)) ggX7_stacks_X7_throwsAt
set_option maxRecDepth 20000 in
theorem ggX7_stacks_X7_last : GoodIn wsX7_stacks wsX7_last := goodIn_r _ [13, 14, 15, 16, 3, 17, 18, 19, 20, 21, 22, 23, 24, 25, 26, 27, 28, 29, 30, 31, 53, 54, 55, 56, 57, 58, 59, 60, 61, 62, 63, 64, 65, 66, 67, 68] (by decide +kernel) (by decide +kernel)
set_option maxRecDepth 20000 in
theorem gX7_stacks_X7_last : GoodIn wsX7_stacks (wsV RX7 85 RX7 yX7_last wsX7_last) := goodIn_app (goodIn_of _ (by decide +kernel)) ggX7_stacks_X7_last
set_option maxRecDepth 20000 in
theorem ggX7_stacks_X7_isPossible : GoodIn wsX7_stacks wsX7_isPossible := goodIn_r _ [34] (by decide +kernel) (by decide +kernel)
set_option maxRecDepth 20000 in
theorem gX7_stacks_X7_isPossible : GoodIn wsX7_stacks (va_wsS RX7 105 yX7_isPossible wsX7_isPossible) := goodIn_app (goodIn_of _ (by decide +kernel)) ggX7_stacks_X7_isPossible
set_option maxRecDepth 20000 in
theorem ggX7_stacks_X7_rounds : GoodIn wsX7_stacks wsX7_rounds := goodIn_r _ [17, 18, 53, 54, 55, 56, 57, 58, 59, 60, 61, 62, 63, 64, 65, 66, 67, 68] (by decide +kernel) (by decide +kernel)
set_option maxRecDepth 20000 in
theorem gX7_stacks_X7_rounds : GoodIn wsX7_stacks (wsV RX7 62 RX7 yX7_rounds wsX7_rounds) := goodIn_app (goodIn_of _ (by decide +kernel)) ggX7_stacks_X7_rounds
set_option maxRecDepth 20000 in
theorem ggX7_stacks_X7_laysMade : GoodIn wsX7_stacks wsX7_laysMade := goodIn_r _ [38, 39, 23, 24, 25, 3, 26, 18, 27, 28, 29, 30, 31, 53, 54, 55, 56, 57, 58, 59, 60, 61, 62, 63, 64, 65, 66, 67, 68] (by decide +kernel) (by decide +kernel)
set_option maxRecDepth 20000 in
theorem gX7_stacks_X7_laysMade : GoodIn wsX7_stacks (wsV RX7 72 RX7 yX7_laysMade wsX7_laysMade) := goodIn_app (goodIn_of _ (by decide +kernel)) ggX7_stacks_X7_laysMade
set_option maxRecDepth 20000 in
theorem ggX7_stacks_X7_spreads : GoodIn wsX7_stacks wsX7_spreads := goodIn_r _ [43, 44, 45, 46, 47, 3, 48, 53, 54, 55, 56, 57, 58, 59, 60, 61, 62, 63, 64, 65, 66, 67, 68] (by decide +kernel) (by decide +kernel)
set_option maxRecDepth 20000 in
theorem gX7_stacks_X7_spreads : GoodIn wsX7_stacks (wsV RX7 88 RX7 yX7_spreads wsX7_spreads) := goodIn_app (goodIn_of _ (by decide +kernel)) ggX7_stacks_X7_spreads
set_option maxRecDepth 20000 in
theorem ggX7_stacks_X7_stacked : GoodIn wsX7_stacks wsX7_stacked := goodIn_r _ [52, 44, 39, 45, 53, 54, 55, 56, 57, 58, 59, 60, 61, 62, 63, 64, 65, 66, 67, 68] (by decide +kernel) (by decide +kernel)
set_option maxRecDepth 20000 in
theorem gX7_stacks_X7_stacked : GoodIn wsX7_stacks (wsV RX7 78 RX7 yX7_stacked wsX7_stacked) := goodIn_app (goodIn_of _ (by decide +kernel)) ggX7_stacks_X7_stacked
theorem dX7_stacks_0 : decode cX7_stacks 0 = .ok (.aload_n 0, 1) := by decide +kernel
theorem dX7_stacks_1 : decode cX7_stacks 1 = .ok (.iload_n 1, 1) := by decide +kernel
theorem dX7_stacks_2 : decode cX7_stacks 2 = .ok (.iconst 3, 1) := by decide +kernel
theorem dX7_stacks_3 : decode cX7_stacks 3 = .ok (.bipush 120, 2) := by decide +kernel
theorem dX7_stacks_5 : decode cX7_stacks 5 = .ok (.invokestatic 95, 3) := by decide +kernel
theorem dX7_stacks_8 : decode cX7_stacks 8 = .ok (.ifCond .eq 17, 3) := by decide +kernel
theorem dX7_stacks_11 : decode cX7_stacks 11 = .ok (.iload_n 2, 1) := by decide +kernel
theorem dX7_stacks_12 : decode cX7_stacks 12 = .ok (.iconst 0, 1) := by decide +kernel
theorem dX7_stacks_13 : decode cX7_stacks 13 = .ok (.bipush 119, 2) := by decide +kernel
theorem dX7_stacks_15 : decode cX7_stacks 15 = .ok (.invokestatic 95, 3) := by decide +kernel
theorem dX7_stacks_18 : decode cX7_stacks 18 = .ok (.ifCond .eq 7, 3) := by decide +kernel
theorem dX7_stacks_21 : decode cX7_stacks 21 = .ok (.iconst 0, 1) := by decide +kernel
theorem dX7_stacks_22 : decode cX7_stacks 22 = .ok (.goto 4, 3) := by decide +kernel
theorem dX7_stacks_25 : decode cX7_stacks 25 = .ok (.iconst 1, 1) := by decide +kernel
theorem dX7_stacks_26 : decode cX7_stacks 26 = .ok (.invokevirtual 98, 3) := by decide +kernel
theorem dX7_stacks_29 : decode cX7_stacks 29 = .ok (.ifCond .eq 5, 3) := by decide +kernel
theorem dX7_stacks_32 : decode cX7_stacks 32 = .ok (.iconst 0, 1) := by decide +kernel
theorem dX7_stacks_33 : decode cX7_stacks 33 = .ok (.ireturn, 1) := by decide +kernel
theorem dX7_stacks_34 : decode cX7_stacks 34 = .ok (.aload_n 0, 1) := by decide +kernel
theorem dX7_stacks_35 : decode cX7_stacks 35 = .ok (.invokevirtual 85, 3) := by decide +kernel
theorem dX7_stacks_38 : decode cX7_stacks 38 = .ok (.istore_n 3, 1) := by decide +kernel
theorem dX7_stacks_39 : decode cX7_stacks 39 = .ok (.iload_n 1, 1) := by decide +kernel
theorem dX7_stacks_40 : decode cX7_stacks 40 = .ok (.iload_n 3, 1) := by decide +kernel
theorem dX7_stacks_41 : decode cX7_stacks 41 = .ok (.invokestatic 105, 3) := by decide +kernel
theorem dX7_stacks_44 : decode cX7_stacks 44 = .ok (.ifCond .ne 5, 3) := by decide +kernel
theorem dX7_stacks_47 : decode cX7_stacks 47 = .ok (.iconst (-1), 1) := by decide +kernel
theorem dX7_stacks_48 : decode cX7_stacks 48 = .ok (.ireturn, 1) := by decide +kernel
theorem dX7_stacks_49 : decode cX7_stacks 49 = .ok (.aload_n 0, 1) := by decide +kernel
theorem dX7_stacks_50 : decode cX7_stacks 50 = .ok (.aload_n 0, 1) := by decide +kernel
theorem dX7_stacks_51 : decode cX7_stacks 51 = .ok (.invokevirtual 62, 3) := by decide +kernel
theorem dX7_stacks_54 : decode cX7_stacks 54 = .ok (.iconst 1, 1) := by decide +kernel
theorem dX7_stacks_55 : decode cX7_stacks 55 = .ok (.isub, 1) := by decide +kernel
theorem dX7_stacks_56 : decode cX7_stacks 56 = .ok (.invokevirtual 72, 3) := by decide +kernel
theorem dX7_stacks_59 : decode cX7_stacks 59 = .ok (.aload_n 0, 1) := by decide +kernel
theorem dX7_stacks_60 : decode cX7_stacks 60 = .ok (.iload_n 1, 1) := by decide +kernel
theorem dX7_stacks_61 : decode cX7_stacks 61 = .ok (.iload_n 3, 1) := by decide +kernel
theorem dX7_stacks_62 : decode cX7_stacks 62 = .ok (.iload_n 2, 1) := by decide +kernel
theorem dX7_stacks_63 : decode cX7_stacks 63 = .ok (.iload_n 1, 1) := by decide +kernel
theorem dX7_stacks_64 : decode cX7_stacks 64 = .ok (.iload_n 3, 1) := by decide +kernel
theorem dX7_stacks_65 : decode cX7_stacks 65 = .ok (.if_icmp .lt 7, 3) := by decide +kernel
theorem dX7_stacks_68 : decode cX7_stacks 68 = .ok (.iload_n 3, 1) := by decide +kernel
theorem dX7_stacks_69 : decode cX7_stacks 69 = .ok (.goto 4, 3) := by decide +kernel
theorem dX7_stacks_72 : decode cX7_stacks 72 = .ok (.iload_n 1, 1) := by decide +kernel
theorem dX7_stacks_73 : decode cX7_stacks 73 = .ok (.irem, 1) := by decide +kernel
theorem dX7_stacks_74 : decode cX7_stacks 74 = .ok (.invokevirtual 88, 3) := by decide +kernel
theorem dX7_stacks_77 : decode cX7_stacks 77 = .ok (.aload_n 0, 1) := by decide +kernel
theorem dX7_stacks_78 : decode cX7_stacks 78 = .ok (.invokevirtual 78, 3) := by decide +kernel
theorem dX7_stacks_81 : decode cX7_stacks 81 = .ok (.ireturn, 1) := by decide +kernel
set_option maxRecDepth 20000 in
theorem ggX7_roundsTo_X7_in : GoodIn wsX7_roundsTo wsX7_in := goodIn_r _ [4] (by decide +kernel) (by decide +kernel)
set_option maxRecDepth 20000 in
theorem gX7_roundsTo_X7_in : GoodIn wsX7_roundsTo (va_wsS RX7 95 yX7_in wsX7_in) := goodIn_app (goodIn_of _ (by decide +kernel)) ggX7_roundsTo_X7_in
set_option maxRecDepth 20000 in
theorem ggX7_roundsTo_X7_throwsAt : GoodIn wsX7_roundsTo wsX7_throwsAt := goodIn_r _ [8, 9, 35, 36, 37, 38, 39, 40, 41, 42, 43, 44, 45, 46, 47, 48, 49, 50] (by decide +kernel) (by decide +kernel)
set_option maxRecDepth 20000 in
theorem gX7_roundsTo_X7_throwsAt : GoodIn wsX7_roundsTo (wsV RX7 98 RX7 yX7_throwsAt wsX7_throwsAt) := goodIn_app (goodIn_of _ (by decide +kernel)) ggX7_roundsTo_X7_throwsAt
set_option maxRecDepth 20000 in
theorem ggX7_roundsTo_X7_last : GoodIn wsX7_roundsTo wsX7_last := goodIn_r _ [13, 14, 15, 16, 3, 17, 18, 19, 20, 21, 22, 23, 24, 25, 26, 27, 28, 29, 30, 31, 35, 36, 37, 38, 39, 40, 41, 42, 43, 44, 45, 46, 47, 48, 49, 50] (by decide +kernel) (by decide +kernel)
set_option maxRecDepth 20000 in
theorem gX7_roundsTo_X7_last : GoodIn wsX7_roundsTo (wsV RX7 85 RX7 yX7_last wsX7_last) := goodIn_app (goodIn_of _ (by decide +kernel)) ggX7_roundsTo_X7_last
set_option maxRecDepth 20000 in
theorem ggX7_roundsTo_X7_least : GoodIn wsX7_roundsTo wsX7_least := goodIn_r _ [34] (by decide +kernel) (by decide +kernel)
set_option maxRecDepth 20000 in
theorem gX7_roundsTo_X7_least : GoodIn wsX7_roundsTo (va_wsS RX7 129 yX7_least wsX7_least) := goodIn_app (goodIn_of _ (by decide +kernel)) ggX7_roundsTo_X7_least
theorem dX7_roundsTo_0 : decode cX7_roundsTo 0 = .ok (.aload_n 0, 1) := by decide +kernel
theorem dX7_roundsTo_1 : decode cX7_roundsTo 1 = .ok (.iload_n 1, 1) := by decide +kernel
theorem dX7_roundsTo_2 : decode cX7_roundsTo 2 = .ok (.iconst 3, 1) := by decide +kernel
theorem dX7_roundsTo_3 : decode cX7_roundsTo 3 = .ok (.bipush 120, 2) := by decide +kernel
theorem dX7_roundsTo_5 : decode cX7_roundsTo 5 = .ok (.invokestatic 95, 3) := by decide +kernel
theorem dX7_roundsTo_8 : decode cX7_roundsTo 8 = .ok (.ifCond .eq 17, 3) := by decide +kernel
theorem dX7_roundsTo_11 : decode cX7_roundsTo 11 = .ok (.iload_n 2, 1) := by decide +kernel
theorem dX7_roundsTo_12 : decode cX7_roundsTo 12 = .ok (.iconst 1, 1) := by decide +kernel
theorem dX7_roundsTo_13 : decode cX7_roundsTo 13 = .ok (.bipush 60, 2) := by decide +kernel
theorem dX7_roundsTo_15 : decode cX7_roundsTo 15 = .ok (.invokestatic 95, 3) := by decide +kernel
theorem dX7_roundsTo_18 : decode cX7_roundsTo 18 = .ok (.ifCond .eq 7, 3) := by decide +kernel
theorem dX7_roundsTo_21 : decode cX7_roundsTo 21 = .ok (.iconst 0, 1) := by decide +kernel
theorem dX7_roundsTo_22 : decode cX7_roundsTo 22 = .ok (.goto 4, 3) := by decide +kernel
theorem dX7_roundsTo_25 : decode cX7_roundsTo 25 = .ok (.iconst 1, 1) := by decide +kernel
theorem dX7_roundsTo_26 : decode cX7_roundsTo 26 = .ok (.invokevirtual 98, 3) := by decide +kernel
theorem dX7_roundsTo_29 : decode cX7_roundsTo 29 = .ok (.ifCond .eq 5, 3) := by decide +kernel
theorem dX7_roundsTo_32 : decode cX7_roundsTo 32 = .ok (.iconst 0, 1) := by decide +kernel
theorem dX7_roundsTo_33 : decode cX7_roundsTo 33 = .ok (.ireturn, 1) := by decide +kernel
theorem dX7_roundsTo_34 : decode cX7_roundsTo 34 = .ok (.aload_n 0, 1) := by decide +kernel
theorem dX7_roundsTo_35 : decode cX7_roundsTo 35 = .ok (.invokevirtual 85, 3) := by decide +kernel
theorem dX7_roundsTo_38 : decode cX7_roundsTo 38 = .ok (.istore_n 3, 1) := by decide +kernel
theorem dX7_roundsTo_39 : decode cX7_roundsTo 39 = .ok (.iconst 0, 1) := by decide +kernel
theorem dX7_roundsTo_40 : decode cX7_roundsTo 40 = .ok (.istore 4, 2) := by decide +kernel
theorem dX7_roundsTo_42 : decode cX7_roundsTo 42 = .ok (.iload_n 3, 1) := by decide +kernel
theorem dX7_roundsTo_43 : decode cX7_roundsTo 43 = .ok (.iload_n 1, 1) := by decide +kernel
theorem dX7_roundsTo_44 : decode cX7_roundsTo 44 = .ok (.if_icmp .eq 45, 3) := by decide +kernel
theorem dX7_roundsTo_47 : decode cX7_roundsTo 47 = .ok (.iload_n 3, 1) := by decide +kernel
theorem dX7_roundsTo_48 : decode cX7_roundsTo 48 = .ok (.iload_n 1, 1) := by decide +kernel
theorem dX7_roundsTo_49 : decode cX7_roundsTo 49 = .ok (.iload_n 3, 1) := by decide +kernel
theorem dX7_roundsTo_50 : decode cX7_roundsTo 50 = .ok (.if_icmp .le 17, 3) := by decide +kernel
theorem dX7_roundsTo_53 : decode cX7_roundsTo 53 = .ok (.iload_n 1, 1) := by decide +kernel
theorem dX7_roundsTo_54 : decode cX7_roundsTo 54 = .ok (.iload_n 3, 1) := by decide +kernel
theorem dX7_roundsTo_55 : decode cX7_roundsTo 55 = .ok (.isub, 1) := by decide +kernel
theorem dX7_roundsTo_56 : decode cX7_roundsTo 56 = .ok (.iload_n 2, 1) := by decide +kernel
theorem dX7_roundsTo_57 : decode cX7_roundsTo 57 = .ok (.iload_n 3, 1) := by decide +kernel
theorem dX7_roundsTo_58 : decode cX7_roundsTo 58 = .ok (.invokestatic 129, 3) := by decide +kernel
theorem dX7_roundsTo_61 : decode cX7_roundsTo 61 = .ok (.invokestatic 129, 3) := by decide +kernel
theorem dX7_roundsTo_64 : decode cX7_roundsTo 64 = .ok (.goto 17, 3) := by decide +kernel
theorem dX7_roundsTo_67 : decode cX7_roundsTo 67 = .ok (.iload_n 3, 1) := by decide +kernel
theorem dX7_roundsTo_68 : decode cX7_roundsTo 68 = .ok (.iload_n 1, 1) := by decide +kernel
theorem dX7_roundsTo_69 : decode cX7_roundsTo 69 = .ok (.isub, 1) := by decide +kernel
theorem dX7_roundsTo_70 : decode cX7_roundsTo 70 = .ok (.iload_n 2, 1) := by decide +kernel
theorem dX7_roundsTo_71 : decode cX7_roundsTo 71 = .ok (.iload_n 3, 1) := by decide +kernel
theorem dX7_roundsTo_72 : decode cX7_roundsTo 72 = .ok (.iconst 2, 1) := by decide +kernel
theorem dX7_roundsTo_73 : decode cX7_roundsTo 73 = .ok (.idiv, 1) := by decide +kernel
theorem dX7_roundsTo_74 : decode cX7_roundsTo 74 = .ok (.invokestatic 129, 3) := by decide +kernel
theorem dX7_roundsTo_77 : decode cX7_roundsTo 77 = .ok (.invokestatic 129, 3) := by decide +kernel
theorem dX7_roundsTo_80 : decode cX7_roundsTo 80 = .ok (.ineg, 1) := by decide +kernel
theorem dX7_roundsTo_81 : decode cX7_roundsTo 81 = .ok (.iadd, 1) := by decide +kernel
theorem dX7_roundsTo_82 : decode cX7_roundsTo 82 = .ok (.istore_n 3, 1) := by decide +kernel
theorem dX7_roundsTo_83 : decode cX7_roundsTo 83 = .ok (.iinc 4 1, 3) := by decide +kernel
theorem dX7_roundsTo_86 : decode cX7_roundsTo 86 = .ok (.goto (-44), 3) := by decide +kernel
theorem dX7_roundsTo_89 : decode cX7_roundsTo 89 = .ok (.iload 4, 2) := by decide +kernel
theorem dX7_roundsTo_91 : decode cX7_roundsTo 91 = .ok (.ireturn, 1) := by decide +kernel
set_option maxRecDepth 20000 in
theorem ggX7_nearestShape_X7_rounds : GoodIn wsX7_nearestShape wsX7_rounds := goodIn_r _ [6, 7, 31, 32, 33, 34, 35, 36, 37, 38, 39, 40, 41, 42, 43, 44, 45, 46] (by decide +kernel) (by decide +kernel)
set_option maxRecDepth 20000 in
theorem gX7_nearestShape_X7_rounds : GoodIn wsX7_nearestShape (wsV RX7 62 RX7 yX7_rounds wsX7_rounds) := goodIn_app (goodIn_of _ (by decide +kernel)) ggX7_nearestShape_X7_rounds
set_option maxRecDepth 20000 in
theorem ggX7_nearestShape_X7_totalOf : GoodIn wsX7_nearestShape wsX7_totalOf := goodIn_r _ [11, 12, 13, 14, 5, 15, 7, 16, 17, 18, 19, 20, 31, 32, 33, 34, 35, 36, 37, 38, 39, 40, 41, 42, 43, 44, 45, 46] (by decide +kernel) (by decide +kernel)
set_option maxRecDepth 20000 in
theorem gX7_nearestShape_X7_totalOf : GoodIn wsX7_nearestShape (wsV RX7 66 RX7 yX7_totalOf wsX7_totalOf) := goodIn_app (goodIn_of _ (by decide +kernel)) ggX7_nearestShape_X7_totalOf
set_option maxRecDepth 20000 in
theorem ggX7_nearestShape_X7_goalOf : GoodIn wsX7_nearestShape wsX7_goalOf := goodIn_r _ [24, 12, 13, 14, 5, 15, 7, 25, 26, 27, 28, 29, 30, 31, 32, 33, 34, 35, 36, 37, 38, 39, 40, 41, 42, 43, 44, 45, 46] (by decide +kernel) (by decide +kernel)
set_option maxRecDepth 20000 in
theorem gX7_nearestShape_X7_goalOf : GoodIn wsX7_nearestShape (wsV RX7 135 RX7 yX7_goalOf wsX7_goalOf) := goodIn_app (goodIn_of _ (by decide +kernel)) ggX7_nearestShape_X7_goalOf
theorem dX7_nearestShape_0 : decode cX7_nearestShape 0 = .ok (.aload_n 0, 1) := by decide +kernel
theorem dX7_nearestShape_1 : decode cX7_nearestShape 1 = .ok (.iconst 0, 1) := by decide +kernel
theorem dX7_nearestShape_2 : decode cX7_nearestShape 2 = .ok (.putfield 45, 3) := by decide +kernel
theorem dX7_nearestShape_5 : decode cX7_nearestShape 5 = .ok (.iconst (-1), 1) := by decide +kernel
theorem dX7_nearestShape_6 : decode cX7_nearestShape 6 = .ok (.istore_n 1, 1) := by decide +kernel
theorem dX7_nearestShape_7 : decode cX7_nearestShape 7 = .ok (.iconst 0, 1) := by decide +kernel
theorem dX7_nearestShape_8 : decode cX7_nearestShape 8 = .ok (.istore_n 2, 1) := by decide +kernel
theorem dX7_nearestShape_9 : decode cX7_nearestShape 9 = .ok (.iconst 0, 1) := by decide +kernel
theorem dX7_nearestShape_10 : decode cX7_nearestShape 10 = .ok (.istore_n 3, 1) := by decide +kernel
theorem dX7_nearestShape_11 : decode cX7_nearestShape 11 = .ok (.iload_n 3, 1) := by decide +kernel
theorem dX7_nearestShape_12 : decode cX7_nearestShape 12 = .ok (.bipush 100, 2) := by decide +kernel
theorem dX7_nearestShape_14 : decode cX7_nearestShape 14 = .ok (.if_icmp .ge 129, 3) := by decide +kernel
theorem dX7_nearestShape_17 : decode cX7_nearestShape 17 = .ok (.iload_n 3, 1) := by decide +kernel
theorem dX7_nearestShape_18 : decode cX7_nearestShape 18 = .ok (.bipush 20, 2) := by decide +kernel
theorem dX7_nearestShape_20 : decode cX7_nearestShape 20 = .ok (.idiv, 1) := by decide +kernel
theorem dX7_nearestShape_21 : decode cX7_nearestShape 21 = .ok (.istore 4, 2) := by decide +kernel
theorem dX7_nearestShape_23 : decode cX7_nearestShape 23 = .ok (.iconst 1, 1) := by decide +kernel
theorem dX7_nearestShape_24 : decode cX7_nearestShape 24 = .ok (.iload_n 3, 1) := by decide +kernel
theorem dX7_nearestShape_25 : decode cX7_nearestShape 25 = .ok (.bipush 20, 2) := by decide +kernel
theorem dX7_nearestShape_27 : decode cX7_nearestShape 27 = .ok (.irem, 1) := by decide +kernel
theorem dX7_nearestShape_28 : decode cX7_nearestShape 28 = .ok (.iadd, 1) := by decide +kernel
theorem dX7_nearestShape_29 : decode cX7_nearestShape 29 = .ok (.istore 5, 2) := by decide +kernel
theorem dX7_nearestShape_31 : decode cX7_nearestShape 31 = .ok (.iconst 0, 1) := by decide +kernel
theorem dX7_nearestShape_32 : decode cX7_nearestShape 32 = .ok (.istore 6, 2) := by decide +kernel
theorem dX7_nearestShape_34 : decode cX7_nearestShape 34 = .ok (.iconst 0, 1) := by decide +kernel
theorem dX7_nearestShape_35 : decode cX7_nearestShape 35 = .ok (.istore 7, 2) := by decide +kernel
theorem dX7_nearestShape_37 : decode cX7_nearestShape 37 = .ok (.iload 7, 2) := by decide +kernel
theorem dX7_nearestShape_39 : decode cX7_nearestShape 39 = .ok (.aload_n 0, 1) := by decide +kernel
theorem dX7_nearestShape_40 : decode cX7_nearestShape 40 = .ok (.invokevirtual 62, 3) := by decide +kernel
theorem dX7_nearestShape_43 : decode cX7_nearestShape 43 = .ok (.if_icmp .ge 46, 3) := by decide +kernel
theorem dX7_nearestShape_46 : decode cX7_nearestShape 46 = .ok (.aload_n 0, 1) := by decide +kernel
theorem dX7_nearestShape_47 : decode cX7_nearestShape 47 = .ok (.iload 7, 2) := by decide +kernel
theorem dX7_nearestShape_49 : decode cX7_nearestShape 49 = .ok (.invokevirtual 66, 3) := by decide +kernel
theorem dX7_nearestShape_52 : decode cX7_nearestShape 52 = .ok (.aload_n 0, 1) := by decide +kernel
theorem dX7_nearestShape_53 : decode cX7_nearestShape 53 = .ok (.iload 4, 2) := by decide +kernel
theorem dX7_nearestShape_55 : decode cX7_nearestShape 55 = .ok (.iload 5, 2) := by decide +kernel
theorem dX7_nearestShape_57 : decode cX7_nearestShape 57 = .ok (.iload 7, 2) := by decide +kernel
theorem dX7_nearestShape_59 : decode cX7_nearestShape 59 = .ok (.invokevirtual 135, 3) := by decide +kernel
theorem dX7_nearestShape_62 : decode cX7_nearestShape 62 = .ok (.isub, 1) := by decide +kernel
theorem dX7_nearestShape_63 : decode cX7_nearestShape 63 = .ok (.istore 8, 2) := by decide +kernel
theorem dX7_nearestShape_65 : decode cX7_nearestShape 65 = .ok (.iload 6, 2) := by decide +kernel
theorem dX7_nearestShape_67 : decode cX7_nearestShape 67 = .ok (.iload 8, 2) := by decide +kernel
theorem dX7_nearestShape_69 : decode cX7_nearestShape 69 = .ok (.ifCond .ge 9, 3) := by decide +kernel
theorem dX7_nearestShape_72 : decode cX7_nearestShape 72 = .ok (.iload 8, 2) := by decide +kernel
theorem dX7_nearestShape_74 : decode cX7_nearestShape 74 = .ok (.ineg, 1) := by decide +kernel
theorem dX7_nearestShape_75 : decode cX7_nearestShape 75 = .ok (.goto 5, 3) := by decide +kernel
theorem dX7_nearestShape_78 : decode cX7_nearestShape 78 = .ok (.iload 8, 2) := by decide +kernel
theorem dX7_nearestShape_80 : decode cX7_nearestShape 80 = .ok (.iadd, 1) := by decide +kernel
theorem dX7_nearestShape_81 : decode cX7_nearestShape 81 = .ok (.istore 6, 2) := by decide +kernel
theorem dX7_nearestShape_83 : decode cX7_nearestShape 83 = .ok (.iinc 7 1, 3) := by decide +kernel
theorem dX7_nearestShape_86 : decode cX7_nearestShape 86 = .ok (.goto (-49), 3) := by decide +kernel
theorem dX7_nearestShape_89 : decode cX7_nearestShape 89 = .ok (.iload_n 1, 1) := by decide +kernel
theorem dX7_nearestShape_90 : decode cX7_nearestShape 90 = .ok (.iconst (-1), 1) := by decide +kernel
theorem dX7_nearestShape_91 : decode cX7_nearestShape 91 = .ok (.if_icmp .eq 9, 3) := by decide +kernel
theorem dX7_nearestShape_94 : decode cX7_nearestShape 94 = .ok (.iload 6, 2) := by decide +kernel
theorem dX7_nearestShape_96 : decode cX7_nearestShape 96 = .ok (.iload_n 2, 1) := by decide +kernel
theorem dX7_nearestShape_97 : decode cX7_nearestShape 97 = .ok (.if_icmp .ge 7, 3) := by decide +kernel
theorem dX7_nearestShape_100 : decode cX7_nearestShape 100 = .ok (.iconst 1, 1) := by decide +kernel
theorem dX7_nearestShape_101 : decode cX7_nearestShape 101 = .ok (.goto 4, 3) := by decide +kernel
theorem dX7_nearestShape_104 : decode cX7_nearestShape 104 = .ok (.iconst 0, 1) := by decide +kernel
theorem dX7_nearestShape_105 : decode cX7_nearestShape 105 = .ok (.istore 7, 2) := by decide +kernel
theorem dX7_nearestShape_107 : decode cX7_nearestShape 107 = .ok (.iload 7, 2) := by decide +kernel
theorem dX7_nearestShape_109 : decode cX7_nearestShape 109 = .ok (.ifCond .eq 14, 3) := by decide +kernel
theorem dX7_nearestShape_112 : decode cX7_nearestShape 112 = .ok (.bipush 100, 2) := by decide +kernel
theorem dX7_nearestShape_114 : decode cX7_nearestShape 114 = .ok (.iload 4, 2) := by decide +kernel
theorem dX7_nearestShape_116 : decode cX7_nearestShape 116 = .ok (.imul, 1) := by decide +kernel
theorem dX7_nearestShape_117 : decode cX7_nearestShape 117 = .ok (.iload 5, 2) := by decide +kernel
theorem dX7_nearestShape_119 : decode cX7_nearestShape 119 = .ok (.iadd, 1) := by decide +kernel
theorem dX7_nearestShape_120 : decode cX7_nearestShape 120 = .ok (.goto 4, 3) := by decide +kernel
theorem dX7_nearestShape_123 : decode cX7_nearestShape 123 = .ok (.iload_n 1, 1) := by decide +kernel
theorem dX7_nearestShape_124 : decode cX7_nearestShape 124 = .ok (.istore_n 1, 1) := by decide +kernel
theorem dX7_nearestShape_125 : decode cX7_nearestShape 125 = .ok (.iload 7, 2) := by decide +kernel
theorem dX7_nearestShape_127 : decode cX7_nearestShape 127 = .ok (.ifCond .eq 8, 3) := by decide +kernel
theorem dX7_nearestShape_130 : decode cX7_nearestShape 130 = .ok (.iload 6, 2) := by decide +kernel
theorem dX7_nearestShape_132 : decode cX7_nearestShape 132 = .ok (.goto 4, 3) := by decide +kernel
theorem dX7_nearestShape_135 : decode cX7_nearestShape 135 = .ok (.iload_n 2, 1) := by decide +kernel
theorem dX7_nearestShape_136 : decode cX7_nearestShape 136 = .ok (.istore_n 2, 1) := by decide +kernel
theorem dX7_nearestShape_137 : decode cX7_nearestShape 137 = .ok (.iinc 3 1, 3) := by decide +kernel
theorem dX7_nearestShape_140 : decode cX7_nearestShape 140 = .ok (.goto (-129), 3) := by decide +kernel
theorem dX7_nearestShape_143 : decode cX7_nearestShape 143 = .ok (.iload_n 1, 1) := by decide +kernel
theorem dX7_nearestShape_144 : decode cX7_nearestShape 144 = .ok (.ireturn, 1) := by decide +kernel
set_option maxRecDepth 20000 in
theorem ggX7_evenness_X7_isRound : GoodIn wsX7_evenness wsX7_isRound := goodIn_r _ [5, 6, 7, 8, 4, 9, 10, 33, 34, 35, 36, 37, 38, 39, 40, 41, 42, 43, 44, 45, 46, 47, 48] (by decide +kernel) (by decide +kernel)
set_option maxRecDepth 20000 in
theorem gX7_evenness_X7_isRound : GoodIn wsX7_evenness (wsV RX7 151 RX7 yX7_isRound wsX7_isRound) := goodIn_app (goodIn_of _ (by decide +kernel)) ggX7_evenness_X7_isRound
set_option maxRecDepth 20000 in
theorem ggX7_evenness_X7_throwsAt : GoodIn wsX7_evenness wsX7_throwsAt := goodIn_r _ [14, 15, 33, 34, 35, 36, 37, 38, 39, 40, 41, 42, 43, 44, 45, 46, 47, 48] (by decide +kernel) (by decide +kernel)
set_option maxRecDepth 20000 in
theorem gX7_evenness_X7_throwsAt : GoodIn wsX7_evenness (wsV RX7 98 RX7 yX7_throwsAt wsX7_throwsAt) := goodIn_app (goodIn_of _ (by decide +kernel)) ggX7_evenness_X7_throwsAt
set_option maxRecDepth 20000 in
theorem ggX7_evenness_X7_distance : GoodIn wsX7_evenness wsX7_distance := goodIn_r _ [19, 20, 21, 22, 4, 23, 10, 24, 25, 26, 27, 28, 29, 30, 31, 32, 33, 34, 35, 36, 37, 38, 39, 40, 41, 42, 43, 44, 45, 46, 47, 48] (by decide +kernel) (by decide +kernel)
set_option maxRecDepth 20000 in
theorem gX7_evenness_X7_distance : GoodIn wsX7_evenness (wsV RX7 147 RX7 yX7_distance wsX7_distance) := goodIn_app (goodIn_of _ (by decide +kernel)) ggX7_evenness_X7_distance
theorem dX7_evenness_0 : decode cX7_evenness 0 = .ok (.aload_n 0, 1) := by decide +kernel
theorem dX7_evenness_1 : decode cX7_evenness 1 = .ok (.aload_n 0, 1) := by decide +kernel
theorem dX7_evenness_2 : decode cX7_evenness 2 = .ok (.iload_n 1, 1) := by decide +kernel
theorem dX7_evenness_3 : decode cX7_evenness 3 = .ok (.invokevirtual 151, 3) := by decide +kernel
theorem dX7_evenness_6 : decode cX7_evenness 6 = .ok (.ifCond .eq 7, 3) := by decide +kernel
theorem dX7_evenness_9 : decode cX7_evenness 9 = .ok (.iconst 0, 1) := by decide +kernel
theorem dX7_evenness_10 : decode cX7_evenness 10 = .ok (.goto 4, 3) := by decide +kernel
theorem dX7_evenness_13 : decode cX7_evenness 13 = .ok (.iconst 1, 1) := by decide +kernel
theorem dX7_evenness_14 : decode cX7_evenness 14 = .ok (.invokevirtual 98, 3) := by decide +kernel
theorem dX7_evenness_17 : decode cX7_evenness 17 = .ok (.ifCond .eq 5, 3) := by decide +kernel
theorem dX7_evenness_20 : decode cX7_evenness 20 = .ok (.dconst 0, 1) := by decide +kernel
theorem dX7_evenness_21 : decode cX7_evenness 21 = .ok (.dreturn, 1) := by decide +kernel
theorem dX7_evenness_22 : decode cX7_evenness 22 = .ok (.aload_n 0, 1) := by decide +kernel
theorem dX7_evenness_23 : decode cX7_evenness 23 = .ok (.iload_n 1, 1) := by decide +kernel
theorem dX7_evenness_24 : decode cX7_evenness 24 = .ok (.iconst 1, 1) := by decide +kernel
theorem dX7_evenness_25 : decode cX7_evenness 25 = .ok (.invokevirtual 147, 3) := by decide +kernel
theorem dX7_evenness_28 : decode cX7_evenness 28 = .ok (.istore_n 2, 1) := by decide +kernel
theorem dX7_evenness_29 : decode cX7_evenness 29 = .ok (.iload_n 2, 1) := by decide +kernel
theorem dX7_evenness_30 : decode cX7_evenness 30 = .ok (.ifCond .ne 7, 3) := by decide +kernel
theorem dX7_evenness_33 : decode cX7_evenness 33 = .ok (.dconst 0, 1) := by decide +kernel
theorem dX7_evenness_34 : decode cX7_evenness 34 = .ok (.goto 13, 3) := by decide +kernel
theorem dX7_evenness_37 : decode cX7_evenness 37 = .ok (.aload_n 0, 1) := by decide +kernel
theorem dX7_evenness_38 : decode cX7_evenness 38 = .ok (.iload_n 1, 1) := by decide +kernel
theorem dX7_evenness_39 : decode cX7_evenness 39 = .ok (.iconst 0, 1) := by decide +kernel
theorem dX7_evenness_40 : decode cX7_evenness 40 = .ok (.invokevirtual 147, 3) := by decide +kernel
theorem dX7_evenness_43 : decode cX7_evenness 43 = .ok (.i2d, 1) := by decide +kernel
theorem dX7_evenness_44 : decode cX7_evenness 44 = .ok (.iload_n 2, 1) := by decide +kernel
theorem dX7_evenness_45 : decode cX7_evenness 45 = .ok (.i2d, 1) := by decide +kernel
theorem dX7_evenness_46 : decode cX7_evenness 46 = .ok (.ddiv, 1) := by decide +kernel
theorem dX7_evenness_47 : decode cX7_evenness 47 = .ok (.dreturn, 1) := by decide +kernel
set_option maxRecDepth 20000 in
theorem ggX7_append_X7_in : GoodIn wsX7_append wsX7_in := goodIn_r _ [6] (by decide +kernel) (by decide +kernel)
set_option maxRecDepth 20000 in
theorem gX7_append_X7_in : GoodIn wsX7_append (va_wsS RX7 95 yX7_in wsX7_in) := goodIn_app (goodIn_of _ (by decide +kernel)) ggX7_append_X7_in
set_option maxRecDepth 20000 in
theorem ggX7_append_X7_throwsAt : GoodIn wsX7_append wsX7_throwsAt := goodIn_r _ [10, 11, 12, 13, 14, 15, 16, 17, 18, 19, 20, 21, 22, 23, 24, 25, 26, 27] (by decide +kernel) (by decide +kernel)
set_option maxRecDepth 20000 in
theorem gX7_append_X7_throwsAt : GoodIn wsX7_append (wsV RX7 98 RX7 yX7_throwsAt wsX7_throwsAt) := goodIn_app (goodIn_of _ (by decide +kernel)) ggX7_append_X7_throwsAt
theorem dX7_append_0 : decode cX7_append 0 = .ok (.aload_n 0, 1) := by decide +kernel
theorem dX7_append_1 : decode cX7_append 1 = .ok (.iload_n 1, 1) := by decide +kernel
theorem dX7_append_2 : decode cX7_append 2 = .ok (.iconst 0, 1) := by decide +kernel
theorem dX7_append_3 : decode cX7_append 3 = .ok (.bipush 127, 2) := by decide +kernel
theorem dX7_append_5 : decode cX7_append 5 = .ok (.invokestatic 95, 3) := by decide +kernel
theorem dX7_append_8 : decode cX7_append 8 = .ok (.ifCond .ne 7, 3) := by decide +kernel
theorem dX7_append_11 : decode cX7_append 11 = .ok (.iconst 1, 1) := by decide +kernel
theorem dX7_append_12 : decode cX7_append 12 = .ok (.goto 17, 3) := by decide +kernel
theorem dX7_append_15 : decode cX7_append 15 = .ok (.aload_n 0, 1) := by decide +kernel
theorem dX7_append_16 : decode cX7_append 16 = .ok (.getfield 178, 3) := by decide +kernel
theorem dX7_append_19 : decode cX7_append 19 = .ok (.bipush 120, 2) := by decide +kernel
theorem dX7_append_21 : decode cX7_append 21 = .ok (.if_icmp .ne 7, 3) := by decide +kernel
theorem dX7_append_24 : decode cX7_append 24 = .ok (.iconst 2, 1) := by decide +kernel
theorem dX7_append_25 : decode cX7_append 25 = .ok (.goto 4, 3) := by decide +kernel
theorem dX7_append_28 : decode cX7_append 28 = .ok (.iconst 0, 1) := by decide +kernel
theorem dX7_append_29 : decode cX7_append 29 = .ok (.invokevirtual 98, 3) := by decide +kernel
theorem dX7_append_32 : decode cX7_append 32 = .ok (.ifCond .eq 5, 3) := by decide +kernel
theorem dX7_append_35 : decode cX7_append 35 = .ok (.iconst 0, 1) := by decide +kernel
theorem dX7_append_36 : decode cX7_append 36 = .ok (.ireturn, 1) := by decide +kernel
theorem dX7_append_37 : decode cX7_append 37 = .ok (.aload_n 0, 1) := by decide +kernel
theorem dX7_append_38 : decode cX7_append 38 = .ok (.getfield 16, 3) := by decide +kernel
theorem dX7_append_41 : decode cX7_append 41 = .ok (.aload_n 0, 1) := by decide +kernel
theorem dX7_append_42 : decode cX7_append 42 = .ok (.getfield 178, 3) := by decide +kernel
theorem dX7_append_45 : decode cX7_append 45 = .ok (.iload_n 1, 1) := by decide +kernel
theorem dX7_append_46 : decode cX7_append 46 = .ok (.iastore, 1) := by decide +kernel
theorem dX7_append_47 : decode cX7_append 47 = .ok (.aload_n 0, 1) := by decide +kernel
theorem dX7_append_48 : decode cX7_append 48 = .ok (.dup, 1) := by decide +kernel
theorem dX7_append_49 : decode cX7_append 49 = .ok (.getfield 178, 3) := by decide +kernel
theorem dX7_append_52 : decode cX7_append 52 = .ok (.iconst 1, 1) := by decide +kernel
theorem dX7_append_53 : decode cX7_append 53 = .ok (.iadd, 1) := by decide +kernel
theorem dX7_append_54 : decode cX7_append 54 = .ok (.putfield 178, 3) := by decide +kernel
theorem dX7_append_57 : decode cX7_append 57 = .ok (.aload_n 0, 1) := by decide +kernel
theorem dX7_append_58 : decode cX7_append 58 = .ok (.getfield 178, 3) := by decide +kernel
theorem dX7_append_61 : decode cX7_append 61 = .ok (.ireturn, 1) := by decide +kernel
theorem dX7_clearText_0 : decode cX7_clearText 0 = .ok (.aload_n 0, 1) := by decide +kernel
theorem dX7_clearText_1 : decode cX7_clearText 1 = .ok (.iconst 0, 1) := by decide +kernel
theorem dX7_clearText_2 : decode cX7_clearText 2 = .ok (.putfield 45, 3) := by decide +kernel
theorem dX7_clearText_5 : decode cX7_clearText 5 = .ok (.aload_n 0, 1) := by decide +kernel
theorem dX7_clearText_6 : decode cX7_clearText 6 = .ok (.getfield 178, 3) := by decide +kernel
theorem dX7_clearText_9 : decode cX7_clearText 9 = .ok (.istore_n 1, 1) := by decide +kernel
theorem dX7_clearText_10 : decode cX7_clearText 10 = .ok (.aload_n 0, 1) := by decide +kernel
theorem dX7_clearText_11 : decode cX7_clearText 11 = .ok (.iconst 0, 1) := by decide +kernel
theorem dX7_clearText_12 : decode cX7_clearText 12 = .ok (.putfield 178, 3) := by decide +kernel
theorem dX7_clearText_15 : decode cX7_clearText 15 = .ok (.iload_n 1, 1) := by decide +kernel
theorem dX7_clearText_16 : decode cX7_clearText 16 = .ok (.ireturn, 1) := by decide +kernel
theorem dX7_byteAt_0 : decode cX7_byteAt 0 = .ok (.iload_n 1, 1) := by decide +kernel
theorem dX7_byteAt_1 : decode cX7_byteAt 1 = .ok (.aload_n 0, 1) := by decide +kernel
theorem dX7_byteAt_2 : decode cX7_byteAt 2 = .ok (.getfield 178, 3) := by decide +kernel
theorem dX7_byteAt_5 : decode cX7_byteAt 5 = .ok (.if_icmp .ge 12, 3) := by decide +kernel
theorem dX7_byteAt_8 : decode cX7_byteAt 8 = .ok (.aload_n 0, 1) := by decide +kernel
theorem dX7_byteAt_9 : decode cX7_byteAt 9 = .ok (.getfield 16, 3) := by decide +kernel
theorem dX7_byteAt_12 : decode cX7_byteAt 12 = .ok (.iload_n 1, 1) := by decide +kernel
theorem dX7_byteAt_13 : decode cX7_byteAt 13 = .ok (.iaload, 1) := by decide +kernel
theorem dX7_byteAt_14 : decode cX7_byteAt 14 = .ok (.goto 4, 3) := by decide +kernel
theorem dX7_byteAt_17 : decode cX7_byteAt 17 = .ok (.iconst (-1), 1) := by decide +kernel
theorem dX7_byteAt_18 : decode cX7_byteAt 18 = .ok (.ireturn, 1) := by decide +kernel
set_option maxRecDepth 20000 in
theorem ggX7_number_X7_byteAt : GoodIn wsX7_number wsX7_byteAt := goodIn_r _ [7, 8, 9, 13, 14, 15, 16, 17, 18, 19, 20, 21, 22, 23, 24, 25, 26, 27, 28] (by decide +kernel) (by decide +kernel)
set_option maxRecDepth 20000 in
theorem gX7_number_X7_byteAt : GoodIn wsX7_number (wsV RX7 187 RX7 yX7_byteAt wsX7_byteAt) := goodIn_app (goodIn_of _ (by decide +kernel)) ggX7_number_X7_byteAt
set_option maxRecDepth 20000 in
theorem ggX7_number_X7_in : GoodIn wsX7_number wsX7_in := goodIn_r _ [12] (by decide +kernel) (by decide +kernel)
set_option maxRecDepth 20000 in
theorem gX7_number_X7_in : GoodIn wsX7_number (va_wsS RX7 95 yX7_in wsX7_in) := goodIn_app (goodIn_of _ (by decide +kernel)) ggX7_number_X7_in
theorem dX7_number_0 : decode cX7_number 0 = .ok (.aload_n 0, 1) := by decide +kernel
theorem dX7_number_1 : decode cX7_number 1 = .ok (.getfield 181, 3) := by decide +kernel
theorem dX7_number_4 : decode cX7_number 4 = .ok (.istore_n 3, 1) := by decide +kernel
theorem dX7_number_5 : decode cX7_number 5 = .ok (.aload_n 0, 1) := by decide +kernel
theorem dX7_number_6 : decode cX7_number 6 = .ok (.iconst 0, 1) := by decide +kernel
theorem dX7_number_7 : decode cX7_number 7 = .ok (.putfield 184, 3) := by decide +kernel
theorem dX7_number_10 : decode cX7_number 10 = .ok (.aload_n 0, 1) := by decide +kernel
theorem dX7_number_11 : decode cX7_number 11 = .ok (.aload_n 0, 1) := by decide +kernel
theorem dX7_number_12 : decode cX7_number 12 = .ok (.getfield 181, 3) := by decide +kernel
theorem dX7_number_15 : decode cX7_number 15 = .ok (.invokevirtual 187, 3) := by decide +kernel
theorem dX7_number_18 : decode cX7_number 18 = .ok (.bipush 48, 2) := by decide +kernel
theorem dX7_number_20 : decode cX7_number 20 = .ok (.bipush 57, 2) := by decide +kernel
theorem dX7_number_22 : decode cX7_number 22 = .ok (.invokestatic 95, 3) := by decide +kernel
theorem dX7_number_25 : decode cX7_number 25 = .ok (.ifCond .eq 49, 3) := by decide +kernel
theorem dX7_number_28 : decode cX7_number 28 = .ok (.aload_n 0, 1) := by decide +kernel
theorem dX7_number_29 : decode cX7_number 29 = .ok (.getfield 181, 3) := by decide +kernel
theorem dX7_number_32 : decode cX7_number 32 = .ok (.iload_n 3, 1) := by decide +kernel
theorem dX7_number_33 : decode cX7_number 33 = .ok (.isub, 1) := by decide +kernel
theorem dX7_number_34 : decode cX7_number 34 = .ok (.iload_n 1, 1) := by decide +kernel
theorem dX7_number_35 : decode cX7_number 35 = .ok (.if_icmp .ge 39, 3) := by decide +kernel
theorem dX7_number_38 : decode cX7_number 38 = .ok (.aload_n 0, 1) := by decide +kernel
theorem dX7_number_39 : decode cX7_number 39 = .ok (.bipush 10, 2) := by decide +kernel
theorem dX7_number_41 : decode cX7_number 41 = .ok (.aload_n 0, 1) := by decide +kernel
theorem dX7_number_42 : decode cX7_number 42 = .ok (.getfield 184, 3) := by decide +kernel
theorem dX7_number_45 : decode cX7_number 45 = .ok (.imul, 1) := by decide +kernel
theorem dX7_number_46 : decode cX7_number 46 = .ok (.aload_n 0, 1) := by decide +kernel
theorem dX7_number_47 : decode cX7_number 47 = .ok (.aload_n 0, 1) := by decide +kernel
theorem dX7_number_48 : decode cX7_number 48 = .ok (.getfield 181, 3) := by decide +kernel
theorem dX7_number_51 : decode cX7_number 51 = .ok (.invokevirtual 187, 3) := by decide +kernel
theorem dX7_number_54 : decode cX7_number 54 = .ok (.iadd, 1) := by decide +kernel
theorem dX7_number_55 : decode cX7_number 55 = .ok (.bipush 48, 2) := by decide +kernel
theorem dX7_number_57 : decode cX7_number 57 = .ok (.isub, 1) := by decide +kernel
theorem dX7_number_58 : decode cX7_number 58 = .ok (.putfield 184, 3) := by decide +kernel
theorem dX7_number_61 : decode cX7_number 61 = .ok (.aload_n 0, 1) := by decide +kernel
theorem dX7_number_62 : decode cX7_number 62 = .ok (.dup, 1) := by decide +kernel
theorem dX7_number_63 : decode cX7_number 63 = .ok (.getfield 181, 3) := by decide +kernel
theorem dX7_number_66 : decode cX7_number 66 = .ok (.iconst 1, 1) := by decide +kernel
theorem dX7_number_67 : decode cX7_number 67 = .ok (.iadd, 1) := by decide +kernel
theorem dX7_number_68 : decode cX7_number 68 = .ok (.putfield 181, 3) := by decide +kernel
theorem dX7_number_71 : decode cX7_number 71 = .ok (.goto (-61), 3) := by decide +kernel
theorem dX7_number_74 : decode cX7_number 74 = .ok (.aload_n 0, 1) := by decide +kernel
theorem dX7_number_75 : decode cX7_number 75 = .ok (.getfield 181, 3) := by decide +kernel
theorem dX7_number_78 : decode cX7_number 78 = .ok (.iload_n 3, 1) := by decide +kernel
theorem dX7_number_79 : decode cX7_number 79 = .ok (.if_icmp .eq 21, 3) := by decide +kernel
theorem dX7_number_82 : decode cX7_number 82 = .ok (.aload_n 0, 1) := by decide +kernel
theorem dX7_number_83 : decode cX7_number 83 = .ok (.aload_n 0, 1) := by decide +kernel
theorem dX7_number_84 : decode cX7_number 84 = .ok (.getfield 181, 3) := by decide +kernel
theorem dX7_number_87 : decode cX7_number 87 = .ok (.invokevirtual 187, 3) := by decide +kernel
theorem dX7_number_90 : decode cX7_number 90 = .ok (.bipush 48, 2) := by decide +kernel
theorem dX7_number_92 : decode cX7_number 92 = .ok (.bipush 57, 2) := by decide +kernel
theorem dX7_number_94 : decode cX7_number 94 = .ok (.invokestatic 95, 3) := by decide +kernel
theorem dX7_number_97 : decode cX7_number 97 = .ok (.ifCond .eq 5, 3) := by decide +kernel
theorem dX7_number_100 : decode cX7_number 100 = .ok (.iconst 0, 1) := by decide +kernel
theorem dX7_number_101 : decode cX7_number 101 = .ok (.ireturn, 1) := by decide +kernel
theorem dX7_number_102 : decode cX7_number 102 = .ok (.aload_n 0, 1) := by decide +kernel
theorem dX7_number_103 : decode cX7_number 103 = .ok (.getfield 184, 3) := by decide +kernel
theorem dX7_number_106 : decode cX7_number 106 = .ok (.iconst 1, 1) := by decide +kernel
theorem dX7_number_107 : decode cX7_number 107 = .ok (.iload_n 2, 1) := by decide +kernel
theorem dX7_number_108 : decode cX7_number 108 = .ok (.invokestatic 95, 3) := by decide +kernel
theorem dX7_number_111 : decode cX7_number 111 = .ok (.istore 4, 2) := by decide +kernel
theorem dX7_number_113 : decode cX7_number 113 = .ok (.aload_n 0, 1) := by decide +kernel
theorem dX7_number_114 : decode cX7_number 114 = .ok (.iload 4, 2) := by decide +kernel
theorem dX7_number_116 : decode cX7_number 116 = .ok (.ifCond .eq 10, 3) := by decide +kernel
theorem dX7_number_119 : decode cX7_number 119 = .ok (.aload_n 0, 1) := by decide +kernel
theorem dX7_number_120 : decode cX7_number 120 = .ok (.getfield 181, 3) := by decide +kernel
theorem dX7_number_123 : decode cX7_number 123 = .ok (.goto 4, 3) := by decide +kernel
theorem dX7_number_126 : decode cX7_number 126 = .ok (.iload_n 3, 1) := by decide +kernel
theorem dX7_number_127 : decode cX7_number 127 = .ok (.putfield 181, 3) := by decide +kernel
theorem dX7_number_130 : decode cX7_number 130 = .ok (.iload 4, 2) := by decide +kernel
theorem dX7_number_132 : decode cX7_number 132 = .ok (.ireturn, 1) := by decide +kernel
theorem dX7_kindBy_0 : decode cX7_kindBy 0 = .ok (.iload_n 0, 1) := by decide +kernel
theorem dX7_kindBy_1 : decode cX7_kindBy 1 = .ok (.bipush 120, 2) := by decide +kernel
theorem dX7_kindBy_3 : decode cX7_kindBy 3 = .ok (.if_icmp .ne 7, 3) := by decide +kernel
theorem dX7_kindBy_6 : decode cX7_kindBy 6 = .ok (.iconst 0, 1) := by decide +kernel
theorem dX7_kindBy_7 : decode cX7_kindBy 7 = .ok (.goto 24, 3) := by decide +kernel
theorem dX7_kindBy_10 : decode cX7_kindBy 10 = .ok (.iload_n 0, 1) := by decide +kernel
theorem dX7_kindBy_11 : decode cX7_kindBy 11 = .ok (.bipush 118, 2) := by decide +kernel
theorem dX7_kindBy_13 : decode cX7_kindBy 13 = .ok (.if_icmp .ne 7, 3) := by decide +kernel
theorem dX7_kindBy_16 : decode cX7_kindBy 16 = .ok (.iconst 1, 1) := by decide +kernel
theorem dX7_kindBy_17 : decode cX7_kindBy 17 = .ok (.goto 14, 3) := by decide +kernel
theorem dX7_kindBy_20 : decode cX7_kindBy 20 = .ok (.iload_n 0, 1) := by decide +kernel
theorem dX7_kindBy_21 : decode cX7_kindBy 21 = .ok (.bipush 97, 2) := by decide +kernel
theorem dX7_kindBy_23 : decode cX7_kindBy 23 = .ok (.if_icmp .ne 7, 3) := by decide +kernel
theorem dX7_kindBy_26 : decode cX7_kindBy 26 = .ok (.iconst 2, 1) := by decide +kernel
theorem dX7_kindBy_27 : decode cX7_kindBy 27 = .ok (.goto 4, 3) := by decide +kernel
theorem dX7_kindBy_30 : decode cX7_kindBy 30 = .ok (.iconst (-1), 1) := by decide +kernel
theorem dX7_kindBy_31 : decode cX7_kindBy 31 = .ok (.ireturn, 1) := by decide +kernel
set_option maxRecDepth 20000 in
theorem ggX7_told_X7_byteAt : GoodIn wsX7_told wsX7_byteAt := goodIn_r _ [11, 12, 13, 24, 25, 26, 27, 28, 29, 30, 31, 32, 33, 34, 35, 36, 37, 38, 39] (by decide +kernel) (by decide +kernel)
set_option maxRecDepth 20000 in
theorem gX7_told_X7_byteAt : GoodIn wsX7_told (wsV RX7 187 RX7 yX7_byteAt wsX7_byteAt) := goodIn_app (goodIn_of _ (by decide +kernel)) ggX7_told_X7_byteAt
set_option maxRecDepth 20000 in
theorem ggX7_told_X7_kindBy : GoodIn wsX7_told wsX7_kindBy := goodIn_r _ [16] (by decide +kernel) (by decide +kernel)
set_option maxRecDepth 20000 in
theorem gX7_told_X7_kindBy : GoodIn wsX7_told (va_wsS RX7 196 yX7_kindBy wsX7_kindBy) := goodIn_app (goodIn_of _ (by decide +kernel)) ggX7_told_X7_kindBy
set_option maxRecDepth 20000 in
theorem ggX7_told_X7_number : GoodIn wsX7_told wsX7_number := goodIn_r _ [20, 3, 6, 7, 8, 9, 10, 11, 12, 13, 21, 22, 23, 24, 25, 26, 27, 28, 29, 30, 31, 32, 33, 34, 35, 36, 37, 38, 39] (by decide +kernel) (by decide +kernel)
set_option maxRecDepth 20000 in
theorem gX7_told_X7_number : GoodIn wsX7_told (wsV RX7 199 RX7 yX7_number wsX7_number) := goodIn_app (goodIn_of _ (by decide +kernel)) ggX7_told_X7_number
theorem dX7_told_0 : decode cX7_told 0 = .ok (.aload_n 0, 1) := by decide +kernel
theorem dX7_told_1 : decode cX7_told 1 = .ok (.iconst 0, 1) := by decide +kernel
theorem dX7_told_2 : decode cX7_told 2 = .ok (.putfield 190, 3) := by decide +kernel
theorem dX7_told_5 : decode cX7_told 5 = .ok (.aload_n 0, 1) := by decide +kernel
theorem dX7_told_6 : decode cX7_told 6 = .ok (.iconst 1, 1) := by decide +kernel
theorem dX7_told_7 : decode cX7_told 7 = .ok (.putfield 193, 3) := by decide +kernel
theorem dX7_told_10 : decode cX7_told 10 = .ok (.iconst 1, 1) := by decide +kernel
theorem dX7_told_11 : decode cX7_told 11 = .ok (.istore_n 1, 1) := by decide +kernel
theorem dX7_told_12 : decode cX7_told 12 = .ok (.iload_n 1, 1) := by decide +kernel
theorem dX7_told_13 : decode cX7_told 13 = .ok (.ifCond .eq 101, 3) := by decide +kernel
theorem dX7_told_16 : decode cX7_told 16 = .ok (.aload_n 0, 1) := by decide +kernel
theorem dX7_told_17 : decode cX7_told 17 = .ok (.aload_n 0, 1) := by decide +kernel
theorem dX7_told_18 : decode cX7_told 18 = .ok (.getfield 181, 3) := by decide +kernel
theorem dX7_told_21 : decode cX7_told 21 = .ok (.invokevirtual 187, 3) := by decide +kernel
theorem dX7_told_24 : decode cX7_told 24 = .ok (.invokestatic 196, 3) := by decide +kernel
theorem dX7_told_27 : decode cX7_told 27 = .ok (.istore_n 2, 1) := by decide +kernel
theorem dX7_told_28 : decode cX7_told 28 = .ok (.iload_n 2, 1) := by decide +kernel
theorem dX7_told_29 : decode cX7_told 29 = .ok (.iconst (-1), 1) := by decide +kernel
theorem dX7_told_30 : decode cX7_told 30 = .ok (.if_icmp .ne 5, 3) := by decide +kernel
theorem dX7_told_33 : decode cX7_told 33 = .ok (.iconst 0, 1) := by decide +kernel
theorem dX7_told_34 : decode cX7_told 34 = .ok (.ireturn, 1) := by decide +kernel
theorem dX7_told_35 : decode cX7_told 35 = .ok (.aload_n 0, 1) := by decide +kernel
theorem dX7_told_36 : decode cX7_told 36 = .ok (.dup, 1) := by decide +kernel
theorem dX7_told_37 : decode cX7_told 37 = .ok (.getfield 181, 3) := by decide +kernel
theorem dX7_told_40 : decode cX7_told 40 = .ok (.iconst 1, 1) := by decide +kernel
theorem dX7_told_41 : decode cX7_told 41 = .ok (.iadd, 1) := by decide +kernel
theorem dX7_told_42 : decode cX7_told 42 = .ok (.putfield 181, 3) := by decide +kernel
theorem dX7_told_45 : decode cX7_told 45 = .ok (.aload_n 0, 1) := by decide +kernel
theorem dX7_told_46 : decode cX7_told 46 = .ok (.iconst 3, 1) := by decide +kernel
theorem dX7_told_47 : decode cX7_told 47 = .ok (.bipush 120, 2) := by decide +kernel
theorem dX7_told_49 : decode cX7_told 49 = .ok (.invokevirtual 199, 3) := by decide +kernel
theorem dX7_told_52 : decode cX7_told 52 = .ok (.ifCond .ne 5, 3) := by decide +kernel
theorem dX7_told_55 : decode cX7_told 55 = .ok (.iconst 0, 1) := by decide +kernel
theorem dX7_told_56 : decode cX7_told 56 = .ok (.ireturn, 1) := by decide +kernel
theorem dX7_told_57 : decode cX7_told 57 = .ok (.aload_n 0, 1) := by decide +kernel
theorem dX7_told_58 : decode cX7_told 58 = .ok (.getfield 26, 3) := by decide +kernel
theorem dX7_told_61 : decode cX7_told 61 = .ok (.aload_n 0, 1) := by decide +kernel
theorem dX7_told_62 : decode cX7_told 62 = .ok (.getfield 190, 3) := by decide +kernel
theorem dX7_told_65 : decode cX7_told 65 = .ok (.iload_n 2, 1) := by decide +kernel
theorem dX7_told_66 : decode cX7_told 66 = .ok (.iastore, 1) := by decide +kernel
theorem dX7_told_67 : decode cX7_told 67 = .ok (.aload_n 0, 1) := by decide +kernel
theorem dX7_told_68 : decode cX7_told 68 = .ok (.getfield 29, 3) := by decide +kernel
theorem dX7_told_71 : decode cX7_told 71 = .ok (.aload_n 0, 1) := by decide +kernel
theorem dX7_told_72 : decode cX7_told 72 = .ok (.getfield 190, 3) := by decide +kernel
theorem dX7_told_75 : decode cX7_told 75 = .ok (.aload_n 0, 1) := by decide +kernel
theorem dX7_told_76 : decode cX7_told 76 = .ok (.getfield 184, 3) := by decide +kernel
theorem dX7_told_79 : decode cX7_told 79 = .ok (.iastore, 1) := by decide +kernel
theorem dX7_told_80 : decode cX7_told 80 = .ok (.aload_n 0, 1) := by decide +kernel
theorem dX7_told_81 : decode cX7_told 81 = .ok (.dup, 1) := by decide +kernel
theorem dX7_told_82 : decode cX7_told 82 = .ok (.getfield 190, 3) := by decide +kernel
theorem dX7_told_85 : decode cX7_told 85 = .ok (.iconst 1, 1) := by decide +kernel
theorem dX7_told_86 : decode cX7_told 86 = .ok (.iadd, 1) := by decide +kernel
theorem dX7_told_87 : decode cX7_told 87 = .ok (.putfield 190, 3) := by decide +kernel
theorem dX7_told_90 : decode cX7_told 90 = .ok (.aload_n 0, 1) := by decide +kernel
theorem dX7_told_91 : decode cX7_told 91 = .ok (.aload_n 0, 1) := by decide +kernel
theorem dX7_told_92 : decode cX7_told 92 = .ok (.getfield 181, 3) := by decide +kernel
theorem dX7_told_95 : decode cX7_told 95 = .ok (.invokevirtual 187, 3) := by decide +kernel
theorem dX7_told_98 : decode cX7_told 98 = .ok (.invokestatic 196, 3) := by decide +kernel
theorem dX7_told_101 : decode cX7_told 101 = .ok (.iconst (-1), 1) := by decide +kernel
theorem dX7_told_102 : decode cX7_told 102 = .ok (.if_icmp .eq 7, 3) := by decide +kernel
theorem dX7_told_105 : decode cX7_told 105 = .ok (.iconst 1, 1) := by decide +kernel
theorem dX7_told_106 : decode cX7_told 106 = .ok (.goto 4, 3) := by decide +kernel
theorem dX7_told_109 : decode cX7_told 109 = .ok (.iconst 0, 1) := by decide +kernel
theorem dX7_told_110 : decode cX7_told 110 = .ok (.istore_n 1, 1) := by decide +kernel
theorem dX7_told_111 : decode cX7_told 111 = .ok (.goto (-99), 3) := by decide +kernel
theorem dX7_told_114 : decode cX7_told 114 = .ok (.aload_n 0, 1) := by decide +kernel
theorem dX7_told_115 : decode cX7_told 115 = .ok (.aload_n 0, 1) := by decide +kernel
theorem dX7_told_116 : decode cX7_told 116 = .ok (.getfield 181, 3) := by decide +kernel
theorem dX7_told_119 : decode cX7_told 119 = .ok (.invokevirtual 187, 3) := by decide +kernel
theorem dX7_told_122 : decode cX7_told 122 = .ok (.bipush 42, 2) := by decide +kernel
theorem dX7_told_124 : decode cX7_told 124 = .ok (.if_icmp .ne 33, 3) := by decide +kernel
theorem dX7_told_127 : decode cX7_told 127 = .ok (.aload_n 0, 1) := by decide +kernel
theorem dX7_told_128 : decode cX7_told 128 = .ok (.dup, 1) := by decide +kernel
theorem dX7_told_129 : decode cX7_told 129 = .ok (.getfield 181, 3) := by decide +kernel
theorem dX7_told_132 : decode cX7_told 132 = .ok (.iconst 1, 1) := by decide +kernel
theorem dX7_told_133 : decode cX7_told 133 = .ok (.iadd, 1) := by decide +kernel
theorem dX7_told_134 : decode cX7_told 134 = .ok (.putfield 181, 3) := by decide +kernel
theorem dX7_told_137 : decode cX7_told 137 = .ok (.aload_n 0, 1) := by decide +kernel
theorem dX7_told_138 : decode cX7_told 138 = .ok (.iconst 2, 1) := by decide +kernel
theorem dX7_told_139 : decode cX7_told 139 = .ok (.bipush 60, 2) := by decide +kernel
theorem dX7_told_141 : decode cX7_told 141 = .ok (.invokevirtual 199, 3) := by decide +kernel
theorem dX7_told_144 : decode cX7_told 144 = .ok (.ifCond .ne 5, 3) := by decide +kernel
theorem dX7_told_147 : decode cX7_told 147 = .ok (.iconst 0, 1) := by decide +kernel
theorem dX7_told_148 : decode cX7_told 148 = .ok (.ireturn, 1) := by decide +kernel
theorem dX7_told_149 : decode cX7_told 149 = .ok (.aload_n 0, 1) := by decide +kernel
theorem dX7_told_150 : decode cX7_told 150 = .ok (.aload_n 0, 1) := by decide +kernel
theorem dX7_told_151 : decode cX7_told 151 = .ok (.getfield 184, 3) := by decide +kernel
theorem dX7_told_154 : decode cX7_told 154 = .ok (.putfield 193, 3) := by decide +kernel
theorem dX7_told_157 : decode cX7_told 157 = .ok (.aload_n 0, 1) := by decide +kernel
theorem dX7_told_158 : decode cX7_told 158 = .ok (.aload_n 0, 1) := by decide +kernel
theorem dX7_told_159 : decode cX7_told 159 = .ok (.getfield 181, 3) := by decide +kernel
theorem dX7_told_162 : decode cX7_told 162 = .ok (.invokevirtual 187, 3) := by decide +kernel
theorem dX7_told_165 : decode cX7_told 165 = .ok (.bipush 59, 2) := by decide +kernel
theorem dX7_told_167 : decode cX7_told 167 = .ok (.if_icmp .eq 5, 3) := by decide +kernel
theorem dX7_told_170 : decode cX7_told 170 = .ok (.iconst 0, 1) := by decide +kernel
theorem dX7_told_171 : decode cX7_told 171 = .ok (.ireturn, 1) := by decide +kernel
theorem dX7_told_172 : decode cX7_told 172 = .ok (.aload_n 0, 1) := by decide +kernel
theorem dX7_told_173 : decode cX7_told 173 = .ok (.dup, 1) := by decide +kernel
theorem dX7_told_174 : decode cX7_told 174 = .ok (.getfield 181, 3) := by decide +kernel
theorem dX7_told_177 : decode cX7_told 177 = .ok (.iconst 1, 1) := by decide +kernel
theorem dX7_told_178 : decode cX7_told 178 = .ok (.iadd, 1) := by decide +kernel
theorem dX7_told_179 : decode cX7_told 179 = .ok (.putfield 181, 3) := by decide +kernel
theorem dX7_told_182 : decode cX7_told 182 = .ok (.iconst 1, 1) := by decide +kernel
theorem dX7_told_183 : decode cX7_told 183 = .ok (.ireturn, 1) := by decide +kernel
set_option maxRecDepth 20000 in
theorem ggX7_errorAt_X7_told : GoodIn wsX7_errorAt wsX7_told := goodIn_r _ [7, 8, 9, 1, 10, 11, 12, 13, 14, 15, 6, 16, 2, 17, 18, 19, 20, 21, 22, 23, 24, 25, 26, 27, 28, 29, 30, 31, 32, 33, 34, 35, 36, 37, 38, 39, 40, 41, 42, 43] (by decide +kernel) (by decide +kernel)
set_option maxRecDepth 20000 in
theorem gX7_errorAt_X7_told : GoodIn wsX7_errorAt (wsV RX7 202 RX7 yX7_told wsX7_told) := goodIn_app (goodIn_of _ (by decide +kernel)) ggX7_errorAt_X7_told
theorem dX7_errorAt_0 : decode cX7_errorAt 0 = .ok (.aload_n 0, 1) := by decide +kernel
theorem dX7_errorAt_1 : decode cX7_errorAt 1 = .ok (.iconst 0, 1) := by decide +kernel
theorem dX7_errorAt_2 : decode cX7_errorAt 2 = .ok (.putfield 181, 3) := by decide +kernel
theorem dX7_errorAt_5 : decode cX7_errorAt 5 = .ok (.iconst 1, 1) := by decide +kernel
theorem dX7_errorAt_6 : decode cX7_errorAt 6 = .ok (.istore_n 1, 1) := by decide +kernel
theorem dX7_errorAt_7 : decode cX7_errorAt 7 = .ok (.iload_n 1, 1) := by decide +kernel
theorem dX7_errorAt_8 : decode cX7_errorAt 8 = .ok (.ifCond .eq 22, 3) := by decide +kernel
theorem dX7_errorAt_11 : decode cX7_errorAt 11 = .ok (.aload_n 0, 1) := by decide +kernel
theorem dX7_errorAt_12 : decode cX7_errorAt 12 = .ok (.getfield 181, 3) := by decide +kernel
theorem dX7_errorAt_15 : decode cX7_errorAt 15 = .ok (.aload_n 0, 1) := by decide +kernel
theorem dX7_errorAt_16 : decode cX7_errorAt 16 = .ok (.getfield 178, 3) := by decide +kernel
theorem dX7_errorAt_19 : decode cX7_errorAt 19 = .ok (.if_icmp .ge 11, 3) := by decide +kernel
theorem dX7_errorAt_22 : decode cX7_errorAt 22 = .ok (.aload_n 0, 1) := by decide +kernel
theorem dX7_errorAt_23 : decode cX7_errorAt 23 = .ok (.invokevirtual 202, 3) := by decide +kernel
theorem dX7_errorAt_26 : decode cX7_errorAt 26 = .ok (.istore_n 1, 1) := by decide +kernel
theorem dX7_errorAt_27 : decode cX7_errorAt 27 = .ok (.goto (-20), 3) := by decide +kernel
theorem dX7_errorAt_30 : decode cX7_errorAt 30 = .ok (.iload_n 1, 1) := by decide +kernel
theorem dX7_errorAt_31 : decode cX7_errorAt 31 = .ok (.ifCond .eq 7, 3) := by decide +kernel
theorem dX7_errorAt_34 : decode cX7_errorAt 34 = .ok (.iconst (-1), 1) := by decide +kernel
theorem dX7_errorAt_35 : decode cX7_errorAt 35 = .ok (.goto 7, 3) := by decide +kernel
theorem dX7_errorAt_38 : decode cX7_errorAt 38 = .ok (.aload_n 0, 1) := by decide +kernel
theorem dX7_errorAt_39 : decode cX7_errorAt 39 = .ok (.getfield 181, 3) := by decide +kernel
theorem dX7_errorAt_42 : decode cX7_errorAt 42 = .ok (.ireturn, 1) := by decide +kernel
set_option maxRecDepth 20000 in
theorem ggX7_fits_X7_last : GoodIn wsX7_fits wsX7_last := goodIn_r _ [11, 12, 13, 14, 10, 15, 16, 17, 18, 19, 20, 21, 22, 23, 24, 25, 26, 27, 28, 29, 33, 34, 35, 36, 37, 38, 39, 40, 41, 42, 43, 44, 45, 46, 47, 48] (by decide +kernel) (by decide +kernel)
set_option maxRecDepth 20000 in
theorem gX7_fits_X7_last : GoodIn wsX7_fits (wsV RX7 85 RX7 yX7_last wsX7_last) := goodIn_app (goodIn_of _ (by decide +kernel)) ggX7_fits_X7_last
set_option maxRecDepth 20000 in
theorem ggX7_fits_X7_in : GoodIn wsX7_fits wsX7_in := goodIn_r _ [32] (by decide +kernel) (by decide +kernel)
set_option maxRecDepth 20000 in
theorem gX7_fits_X7_in : GoodIn wsX7_fits (va_wsS RX7 95 yX7_in wsX7_in) := goodIn_app (goodIn_of _ (by decide +kernel)) ggX7_fits_X7_in
set_option maxRecDepth 20000 in
theorem ggX7_fits_X7_rounds : GoodIn wsX7_fits wsX7_rounds := goodIn_r _ [15, 16, 33, 34, 35, 36, 37, 38, 39, 40, 41, 42, 43, 44, 45, 46, 47, 48] (by decide +kernel) (by decide +kernel)
set_option maxRecDepth 20000 in
theorem gX7_fits_X7_rounds : GoodIn wsX7_fits (wsV RX7 62 RX7 yX7_rounds wsX7_rounds) := goodIn_app (goodIn_of _ (by decide +kernel)) ggX7_fits_X7_rounds
theorem dX7_fits_0 : decode cX7_fits 0 = .ok (.aload_n 0, 1) := by decide +kernel
theorem dX7_fits_1 : decode cX7_fits 1 = .ok (.invokevirtual 85, 3) := by decide +kernel
theorem dX7_fits_4 : decode cX7_fits 4 = .ok (.istore_n 1, 1) := by decide +kernel
theorem dX7_fits_5 : decode cX7_fits 5 = .ok (.aload_n 0, 1) := by decide +kernel
theorem dX7_fits_6 : decode cX7_fits 6 = .ok (.iconst 0, 1) := by decide +kernel
theorem dX7_fits_7 : decode cX7_fits 7 = .ok (.putfield 69, 3) := by decide +kernel
theorem dX7_fits_10 : decode cX7_fits 10 = .ok (.iconst 0, 1) := by decide +kernel
theorem dX7_fits_11 : decode cX7_fits 11 = .ok (.istore_n 2, 1) := by decide +kernel
theorem dX7_fits_12 : decode cX7_fits 12 = .ok (.iconst 0, 1) := by decide +kernel
theorem dX7_fits_13 : decode cX7_fits 13 = .ok (.istore_n 3, 1) := by decide +kernel
theorem dX7_fits_14 : decode cX7_fits 14 = .ok (.iconst 0, 1) := by decide +kernel
theorem dX7_fits_15 : decode cX7_fits 15 = .ok (.istore 4, 2) := by decide +kernel
theorem dX7_fits_17 : decode cX7_fits 17 = .ok (.iload 4, 2) := by decide +kernel
theorem dX7_fits_19 : decode cX7_fits 19 = .ok (.aload_n 0, 1) := by decide +kernel
theorem dX7_fits_20 : decode cX7_fits 20 = .ok (.getfield 193, 3) := by decide +kernel
theorem dX7_fits_23 : decode cX7_fits 23 = .ok (.aload_n 0, 1) := by decide +kernel
theorem dX7_fits_24 : decode cX7_fits 24 = .ok (.getfield 190, 3) := by decide +kernel
theorem dX7_fits_27 : decode cX7_fits 27 = .ok (.imul, 1) := by decide +kernel
theorem dX7_fits_28 : decode cX7_fits 28 = .ok (.if_icmp .ge 116, 3) := by decide +kernel
theorem dX7_fits_31 : decode cX7_fits 31 = .ok (.aload_n 0, 1) := by decide +kernel
theorem dX7_fits_32 : decode cX7_fits 32 = .ok (.getfield 69, 3) := by decide +kernel
theorem dX7_fits_35 : decode cX7_fits 35 = .ok (.bipush 120, 2) := by decide +kernel
theorem dX7_fits_37 : decode cX7_fits 37 = .ok (.if_icmp .gt 107, 3) := by decide +kernel
theorem dX7_fits_40 : decode cX7_fits 40 = .ok (.aload_n 0, 1) := by decide +kernel
theorem dX7_fits_41 : decode cX7_fits 41 = .ok (.getfield 26, 3) := by decide +kernel
theorem dX7_fits_44 : decode cX7_fits 44 = .ok (.iload 4, 2) := by decide +kernel
theorem dX7_fits_46 : decode cX7_fits 46 = .ok (.aload_n 0, 1) := by decide +kernel
theorem dX7_fits_47 : decode cX7_fits 47 = .ok (.getfield 190, 3) := by decide +kernel
theorem dX7_fits_50 : decode cX7_fits 50 = .ok (.irem, 1) := by decide +kernel
theorem dX7_fits_51 : decode cX7_fits 51 = .ok (.iaload, 1) := by decide +kernel
theorem dX7_fits_52 : decode cX7_fits 52 = .ok (.istore 5, 2) := by decide +kernel
theorem dX7_fits_54 : decode cX7_fits 54 = .ok (.iconst 0, 1) := by decide +kernel
theorem dX7_fits_55 : decode cX7_fits 55 = .ok (.istore 6, 2) := by decide +kernel
theorem dX7_fits_57 : decode cX7_fits 57 = .ok (.iload 6, 2) := by decide +kernel
theorem dX7_fits_59 : decode cX7_fits 59 = .ok (.aload_n 0, 1) := by decide +kernel
theorem dX7_fits_60 : decode cX7_fits 60 = .ok (.getfield 29, 3) := by decide +kernel
theorem dX7_fits_63 : decode cX7_fits 63 = .ok (.iload 4, 2) := by decide +kernel
theorem dX7_fits_65 : decode cX7_fits 65 = .ok (.aload_n 0, 1) := by decide +kernel
theorem dX7_fits_66 : decode cX7_fits 66 = .ok (.getfield 190, 3) := by decide +kernel
theorem dX7_fits_69 : decode cX7_fits 69 = .ok (.irem, 1) := by decide +kernel
theorem dX7_fits_70 : decode cX7_fits 70 = .ok (.iaload, 1) := by decide +kernel
theorem dX7_fits_71 : decode cX7_fits 71 = .ok (.if_icmp .ge 67, 3) := by decide +kernel
theorem dX7_fits_74 : decode cX7_fits 74 = .ok (.aload_n 0, 1) := by decide +kernel
theorem dX7_fits_75 : decode cX7_fits 75 = .ok (.getfield 69, 3) := by decide +kernel
theorem dX7_fits_78 : decode cX7_fits 78 = .ok (.bipush 120, 2) := by decide +kernel
theorem dX7_fits_80 : decode cX7_fits 80 = .ok (.if_icmp .gt 58, 3) := by decide +kernel
theorem dX7_fits_83 : decode cX7_fits 83 = .ok (.aload_n 0, 1) := by decide +kernel
theorem dX7_fits_84 : decode cX7_fits 84 = .ok (.getfield 20, 3) := by decide +kernel
theorem dX7_fits_87 : decode cX7_fits 87 = .ok (.aload_n 0, 1) := by decide +kernel
theorem dX7_fits_88 : decode cX7_fits 88 = .ok (.getfield 69, 3) := by decide +kernel
theorem dX7_fits_91 : decode cX7_fits 91 = .ok (.iload 5, 2) := by decide +kernel
theorem dX7_fits_93 : decode cX7_fits 93 = .ok (.iastore, 1) := by decide +kernel
theorem dX7_fits_94 : decode cX7_fits 94 = .ok (.aload_n 0, 1) := by decide +kernel
theorem dX7_fits_95 : decode cX7_fits 95 = .ok (.dup, 1) := by decide +kernel
theorem dX7_fits_96 : decode cX7_fits 96 = .ok (.getfield 69, 3) := by decide +kernel
theorem dX7_fits_99 : decode cX7_fits 99 = .ok (.iconst 1, 1) := by decide +kernel
theorem dX7_fits_100 : decode cX7_fits 100 = .ok (.iadd, 1) := by decide +kernel
theorem dX7_fits_101 : decode cX7_fits 101 = .ok (.putfield 69, 3) := by decide +kernel
theorem dX7_fits_104 : decode cX7_fits 104 = .ok (.iload_n 2, 1) := by decide +kernel
theorem dX7_fits_105 : decode cX7_fits 105 = .ok (.iload 5, 2) := by decide +kernel
theorem dX7_fits_107 : decode cX7_fits 107 = .ok (.iconst 2, 1) := by decide +kernel
theorem dX7_fits_108 : decode cX7_fits 108 = .ok (.if_icmp .ne 7, 3) := by decide +kernel
theorem dX7_fits_111 : decode cX7_fits 111 = .ok (.iconst 2, 1) := by decide +kernel
theorem dX7_fits_112 : decode cX7_fits 112 = .ok (.goto 4, 3) := by decide +kernel
theorem dX7_fits_115 : decode cX7_fits 115 = .ok (.iconst 1, 1) := by decide +kernel
theorem dX7_fits_116 : decode cX7_fits 116 = .ok (.iadd, 1) := by decide +kernel
theorem dX7_fits_117 : decode cX7_fits 117 = .ok (.istore_n 2, 1) := by decide +kernel
theorem dX7_fits_118 : decode cX7_fits 118 = .ok (.iload_n 3, 1) := by decide +kernel
theorem dX7_fits_119 : decode cX7_fits 119 = .ok (.iload 5, 2) := by decide +kernel
theorem dX7_fits_121 : decode cX7_fits 121 = .ok (.iconst 1, 1) := by decide +kernel
theorem dX7_fits_122 : decode cX7_fits 122 = .ok (.if_icmp .ne 7, 3) := by decide +kernel
theorem dX7_fits_125 : decode cX7_fits 125 = .ok (.iconst 2, 1) := by decide +kernel
theorem dX7_fits_126 : decode cX7_fits 126 = .ok (.goto 4, 3) := by decide +kernel
theorem dX7_fits_129 : decode cX7_fits 129 = .ok (.iconst 1, 1) := by decide +kernel
theorem dX7_fits_130 : decode cX7_fits 130 = .ok (.iadd, 1) := by decide +kernel
theorem dX7_fits_131 : decode cX7_fits 131 = .ok (.istore_n 3, 1) := by decide +kernel
theorem dX7_fits_132 : decode cX7_fits 132 = .ok (.iinc 6 1, 3) := by decide +kernel
theorem dX7_fits_135 : decode cX7_fits 135 = .ok (.goto (-78), 3) := by decide +kernel
theorem dX7_fits_138 : decode cX7_fits 138 = .ok (.iinc 4 1, 3) := by decide +kernel
theorem dX7_fits_141 : decode cX7_fits 141 = .ok (.goto (-124), 3) := by decide +kernel
theorem dX7_fits_144 : decode cX7_fits 144 = .ok (.aload_n 0, 1) := by decide +kernel
theorem dX7_fits_145 : decode cX7_fits 145 = .ok (.getfield 69, 3) := by decide +kernel
theorem dX7_fits_148 : decode cX7_fits 148 = .ok (.bipush 120, 2) := by decide +kernel
theorem dX7_fits_150 : decode cX7_fits 150 = .ok (.if_icmp .gt 31, 3) := by decide +kernel
theorem dX7_fits_153 : decode cX7_fits 153 = .ok (.iload_n 2, 1) := by decide +kernel
theorem dX7_fits_154 : decode cX7_fits 154 = .ok (.iload_n 1, 1) := by decide +kernel
theorem dX7_fits_155 : decode cX7_fits 155 = .ok (.if_icmp .ne 26, 3) := by decide +kernel
theorem dX7_fits_158 : decode cX7_fits 158 = .ok (.iload_n 3, 1) := by decide +kernel
theorem dX7_fits_159 : decode cX7_fits 159 = .ok (.iconst 3, 1) := by decide +kernel
theorem dX7_fits_160 : decode cX7_fits 160 = .ok (.bipush 120, 2) := by decide +kernel
theorem dX7_fits_162 : decode cX7_fits 162 = .ok (.invokestatic 95, 3) := by decide +kernel
theorem dX7_fits_165 : decode cX7_fits 165 = .ok (.ifCond .eq 16, 3) := by decide +kernel
theorem dX7_fits_168 : decode cX7_fits 168 = .ok (.aload_n 0, 1) := by decide +kernel
theorem dX7_fits_169 : decode cX7_fits 169 = .ok (.invokevirtual 62, 3) := by decide +kernel
theorem dX7_fits_172 : decode cX7_fits 172 = .ok (.bipush 40, 2) := by decide +kernel
theorem dX7_fits_174 : decode cX7_fits 174 = .ok (.if_icmp .ge 7, 3) := by decide +kernel
theorem dX7_fits_177 : decode cX7_fits 177 = .ok (.iconst 1, 1) := by decide +kernel
theorem dX7_fits_178 : decode cX7_fits 178 = .ok (.goto 4, 3) := by decide +kernel
theorem dX7_fits_181 : decode cX7_fits 181 = .ok (.iconst 0, 1) := by decide +kernel
theorem dX7_fits_182 : decode cX7_fits 182 = .ok (.ireturn, 1) := by decide +kernel
set_option maxRecDepth 20000 in
theorem ggX7_addsTold_X7_told : GoodIn wsX7_addsTold wsX7_told := goodIn_r _ [7, 8, 9, 1, 10, 11, 12, 13, 14, 15, 6, 16, 2, 17, 18, 19, 20, 21, 22, 23, 24, 25, 26, 27, 60, 61, 62, 63, 64, 65, 66, 67, 68, 69, 70, 71, 72, 73, 74, 75] (by decide +kernel) (by decide +kernel)
set_option maxRecDepth 20000 in
theorem gX7_addsTold_X7_told : GoodIn wsX7_addsTold (wsV RX7 202 RX7 yX7_told wsX7_told) := goodIn_app (goodIn_of _ (by decide +kernel)) ggX7_addsTold_X7_told
set_option maxRecDepth 20000 in
theorem ggX7_addsTold_X7_fits : GoodIn wsX7_addsTold wsX7_fits := goodIn_r _ [31, 32, 9, 8, 10, 11, 33, 34, 35, 36, 6, 37, 38, 39, 40, 41, 42, 43, 44, 45, 46, 47, 48, 49, 50, 51, 52, 53, 54, 55, 25, 26, 27, 60, 61, 62, 63, 64, 65, 66, 67, 68, 69, 70, 71, 72, 73, 74, 75] (by decide +kernel) (by decide +kernel)
set_option maxRecDepth 20000 in
theorem gX7_addsTold_X7_fits : GoodIn wsX7_addsTold (wsV RX7 206 RX7 yX7_fits wsX7_fits) := goodIn_app (goodIn_of _ (by decide +kernel)) ggX7_addsTold_X7_fits
set_option maxRecDepth 20000 in
theorem ggX7_addsTold_X7_adds : GoodIn wsX7_addsTold wsX7_adds := goodIn_r _ [59, 42, 32, 33, 38, 39, 40, 6, 41, 60, 61, 62, 63, 64, 65, 66, 67, 68, 69, 70, 71, 72, 73, 74, 75] (by decide +kernel) (by decide +kernel)
set_option maxRecDepth 20000 in
theorem gX7_addsTold_X7_adds : GoodIn wsX7_addsTold (wsV RX7 92 RX7 yX7_adds wsX7_adds) := goodIn_app (goodIn_of _ (by decide +kernel)) ggX7_addsTold_X7_adds
theorem dX7_addsTold_0 : decode cX7_addsTold 0 = .ok (.aload_n 0, 1) := by decide +kernel
theorem dX7_addsTold_1 : decode cX7_addsTold 1 = .ok (.iconst 0, 1) := by decide +kernel
theorem dX7_addsTold_2 : decode cX7_addsTold 2 = .ok (.putfield 181, 3) := by decide +kernel
theorem dX7_addsTold_5 : decode cX7_addsTold 5 = .ok (.iconst 0, 1) := by decide +kernel
theorem dX7_addsTold_6 : decode cX7_addsTold 6 = .ok (.istore_n 1, 1) := by decide +kernel
theorem dX7_addsTold_7 : decode cX7_addsTold 7 = .ok (.iconst 1, 1) := by decide +kernel
theorem dX7_addsTold_8 : decode cX7_addsTold 8 = .ok (.istore_n 2, 1) := by decide +kernel
theorem dX7_addsTold_9 : decode cX7_addsTold 9 = .ok (.iload_n 2, 1) := by decide +kernel
theorem dX7_addsTold_10 : decode cX7_addsTold 10 = .ok (.ifCond .eq 48, 3) := by decide +kernel
theorem dX7_addsTold_13 : decode cX7_addsTold 13 = .ok (.aload_n 0, 1) := by decide +kernel
theorem dX7_addsTold_14 : decode cX7_addsTold 14 = .ok (.getfield 181, 3) := by decide +kernel
theorem dX7_addsTold_17 : decode cX7_addsTold 17 = .ok (.aload_n 0, 1) := by decide +kernel
theorem dX7_addsTold_18 : decode cX7_addsTold 18 = .ok (.getfield 178, 3) := by decide +kernel
theorem dX7_addsTold_21 : decode cX7_addsTold 21 = .ok (.if_icmp .ge 37, 3) := by decide +kernel
theorem dX7_addsTold_24 : decode cX7_addsTold 24 = .ok (.aload_n 0, 1) := by decide +kernel
theorem dX7_addsTold_25 : decode cX7_addsTold 25 = .ok (.invokevirtual 202, 3) := by decide +kernel
theorem dX7_addsTold_28 : decode cX7_addsTold 28 = .ok (.ifCond .eq 14, 3) := by decide +kernel
theorem dX7_addsTold_31 : decode cX7_addsTold 31 = .ok (.aload_n 0, 1) := by decide +kernel
theorem dX7_addsTold_32 : decode cX7_addsTold 32 = .ok (.invokevirtual 206, 3) := by decide +kernel
theorem dX7_addsTold_35 : decode cX7_addsTold 35 = .ok (.ifCond .eq 7, 3) := by decide +kernel
theorem dX7_addsTold_38 : decode cX7_addsTold 38 = .ok (.iconst 1, 1) := by decide +kernel
theorem dX7_addsTold_39 : decode cX7_addsTold 39 = .ok (.goto 4, 3) := by decide +kernel
theorem dX7_addsTold_42 : decode cX7_addsTold 42 = .ok (.iconst 0, 1) := by decide +kernel
theorem dX7_addsTold_43 : decode cX7_addsTold 43 = .ok (.istore_n 2, 1) := by decide +kernel
theorem dX7_addsTold_44 : decode cX7_addsTold 44 = .ok (.iload_n 2, 1) := by decide +kernel
theorem dX7_addsTold_45 : decode cX7_addsTold 45 = .ok (.ifCond .eq (-36), 3) := by decide +kernel
theorem dX7_addsTold_48 : decode cX7_addsTold 48 = .ok (.aload_n 0, 1) := by decide +kernel
theorem dX7_addsTold_49 : decode cX7_addsTold 49 = .ok (.invokevirtual 92, 3) := by decide +kernel
theorem dX7_addsTold_52 : decode cX7_addsTold 52 = .ok (.iinc 1 1, 3) := by decide +kernel
theorem dX7_addsTold_55 : decode cX7_addsTold 55 = .ok (.goto (-46), 3) := by decide +kernel
theorem dX7_addsTold_58 : decode cX7_addsTold 58 = .ok (.iload_n 1, 1) := by decide +kernel
theorem dX7_addsTold_59 : decode cX7_addsTold 59 = .ok (.ireturn, 1) := by decide +kernel
set_option maxRecDepth 20000 in
theorem ggX7_judged_X7_errorAt : GoodIn wsX7_judged wsX7_errorAt := goodIn_r _ [8, 9, 10, 11, 12, 13, 7, 14, 15, 16, 17, 18, 19, 20, 21, 22, 23, 24, 25, 26, 27, 28, 29, 30, 31, 32, 33, 34, 70, 71, 72, 73, 74, 75, 76, 77, 78, 79, 80, 81, 82, 83, 84, 85] (by decide +kernel) (by decide +kernel)
set_option maxRecDepth 20000 in
theorem gX7_judged_X7_errorAt : GoodIn wsX7_judged (wsV RX7 209 RX7 yX7_errorAt wsX7_errorAt) := goodIn_app (goodIn_of _ (by decide +kernel)) ggX7_judged_X7_errorAt
set_option maxRecDepth 20000 in
theorem ggX7_judged_X7_addsTold : GoodIn wsX7_judged wsX7_addsTold := goodIn_r _ [38, 9, 10, 11, 12, 13, 7, 14, 15, 16, 17, 18, 19, 20, 21, 22, 23, 24, 25, 26, 27, 28, 29, 30, 31, 32, 33, 34, 39, 40, 41, 42, 43, 44, 45, 46, 47, 48, 49, 50, 51, 52, 3, 53, 54, 55, 56, 57, 58, 59, 60, 61, 62, 63, 64, 65, 66, 67, 68, 69, 70, 71, 72, 73, 74, 75, 76, 77, 78, 79, 80, 81, 82, 83, 84, 85] (by decide +kernel) (by decide +kernel)
set_option maxRecDepth 20000 in
theorem gX7_judged_X7_addsTold : GoodIn wsX7_judged (wsV RX7 212 RX7 yX7_addsTold wsX7_addsTold) := goodIn_app (goodIn_of _ (by decide +kernel)) ggX7_judged_X7_addsTold
theorem dX7_judged_0 : decode cX7_judged 0 = .ok (.aload_n 0, 1) := by decide +kernel
theorem dX7_judged_1 : decode cX7_judged 1 = .ok (.iconst 0, 1) := by decide +kernel
theorem dX7_judged_2 : decode cX7_judged 2 = .ok (.putfield 45, 3) := by decide +kernel
theorem dX7_judged_5 : decode cX7_judged 5 = .ok (.aload_n 0, 1) := by decide +kernel
theorem dX7_judged_6 : decode cX7_judged 6 = .ok (.invokevirtual 209, 3) := by decide +kernel
theorem dX7_judged_9 : decode cX7_judged 9 = .ok (.istore_n 1, 1) := by decide +kernel
theorem dX7_judged_10 : decode cX7_judged 10 = .ok (.iload_n 1, 1) := by decide +kernel
theorem dX7_judged_11 : decode cX7_judged 11 = .ok (.iconst (-1), 1) := by decide +kernel
theorem dX7_judged_12 : decode cX7_judged 12 = .ok (.if_icmp .eq 8, 3) := by decide +kernel
theorem dX7_judged_15 : decode cX7_judged 15 = .ok (.bipush (-10), 2) := by decide +kernel
theorem dX7_judged_17 : decode cX7_judged 17 = .ok (.iload_n 1, 1) := by decide +kernel
theorem dX7_judged_18 : decode cX7_judged 18 = .ok (.isub, 1) := by decide +kernel
theorem dX7_judged_19 : decode cX7_judged 19 = .ok (.ireturn, 1) := by decide +kernel
theorem dX7_judged_20 : decode cX7_judged 20 = .ok (.iconst 0, 1) := by decide +kernel
theorem dX7_judged_21 : decode cX7_judged 21 = .ok (.istore_n 2, 1) := by decide +kernel
theorem dX7_judged_22 : decode cX7_judged 22 = .ok (.iload_n 2, 1) := by decide +kernel
theorem dX7_judged_23 : decode cX7_judged 23 = .ok (.sipush 205, 3) := by decide +kernel
theorem dX7_judged_26 : decode cX7_judged 26 = .ok (.if_icmp .ge 21, 3) := by decide +kernel
theorem dX7_judged_29 : decode cX7_judged 29 = .ok (.aload_n 0, 1) := by decide +kernel
theorem dX7_judged_30 : decode cX7_judged 30 = .ok (.getfield 32, 3) := by decide +kernel
theorem dX7_judged_33 : decode cX7_judged 33 = .ok (.iload_n 2, 1) := by decide +kernel
theorem dX7_judged_34 : decode cX7_judged 34 = .ok (.aload_n 0, 1) := by decide +kernel
theorem dX7_judged_35 : decode cX7_judged 35 = .ok (.getfield 7, 3) := by decide +kernel
theorem dX7_judged_38 : decode cX7_judged 38 = .ok (.iload_n 2, 1) := by decide +kernel
theorem dX7_judged_39 : decode cX7_judged 39 = .ok (.laload, 1) := by decide +kernel
theorem dX7_judged_40 : decode cX7_judged 40 = .ok (.lastore, 1) := by decide +kernel
theorem dX7_judged_41 : decode cX7_judged 41 = .ok (.iinc 2 1, 3) := by decide +kernel
theorem dX7_judged_44 : decode cX7_judged 44 = .ok (.goto (-22), 3) := by decide +kernel
theorem dX7_judged_47 : decode cX7_judged 47 = .ok (.aload_n 0, 1) := by decide +kernel
theorem dX7_judged_48 : decode cX7_judged 48 = .ok (.invokevirtual 212, 3) := by decide +kernel
theorem dX7_judged_51 : decode cX7_judged 51 = .ok (.istore_n 2, 1) := by decide +kernel
theorem dX7_judged_52 : decode cX7_judged 52 = .ok (.iconst 0, 1) := by decide +kernel
theorem dX7_judged_53 : decode cX7_judged 53 = .ok (.istore_n 3, 1) := by decide +kernel
theorem dX7_judged_54 : decode cX7_judged 54 = .ok (.iload_n 3, 1) := by decide +kernel
theorem dX7_judged_55 : decode cX7_judged 55 = .ok (.sipush 205, 3) := by decide +kernel
theorem dX7_judged_58 : decode cX7_judged 58 = .ok (.if_icmp .ge 21, 3) := by decide +kernel
theorem dX7_judged_61 : decode cX7_judged 61 = .ok (.aload_n 0, 1) := by decide +kernel
theorem dX7_judged_62 : decode cX7_judged 62 = .ok (.getfield 7, 3) := by decide +kernel
theorem dX7_judged_65 : decode cX7_judged 65 = .ok (.iload_n 3, 1) := by decide +kernel
theorem dX7_judged_66 : decode cX7_judged 66 = .ok (.aload_n 0, 1) := by decide +kernel
theorem dX7_judged_67 : decode cX7_judged 67 = .ok (.getfield 32, 3) := by decide +kernel
theorem dX7_judged_70 : decode cX7_judged 70 = .ok (.iload_n 3, 1) := by decide +kernel
theorem dX7_judged_71 : decode cX7_judged 71 = .ok (.laload, 1) := by decide +kernel
theorem dX7_judged_72 : decode cX7_judged 72 = .ok (.lastore, 1) := by decide +kernel
theorem dX7_judged_73 : decode cX7_judged 73 = .ok (.iinc 3 1, 3) := by decide +kernel
theorem dX7_judged_76 : decode cX7_judged 76 = .ok (.goto (-22), 3) := by decide +kernel
theorem dX7_judged_79 : decode cX7_judged 79 = .ok (.iload_n 2, 1) := by decide +kernel
theorem dX7_judged_80 : decode cX7_judged 80 = .ok (.ireturn, 1) := by decide +kernel
set_option maxRecDepth 20000 in
theorem ggX7_carryOut_X7_errorAt : GoodIn wsX7_carryOut wsX7_errorAt := goodIn_r _ [6, 7, 8, 9, 10, 11, 5, 12, 13, 14, 15, 16, 17, 18, 19, 20, 21, 22, 23, 24, 25, 26, 27, 28, 29, 30, 31, 32, 75, 76, 77, 78, 79, 80, 81, 82, 83, 84, 85, 86, 87, 88, 89, 90] (by decide +kernel) (by decide +kernel)
set_option maxRecDepth 20000 in
theorem gX7_carryOut_X7_errorAt : GoodIn wsX7_carryOut (wsV RX7 209 RX7 yX7_errorAt wsX7_errorAt) := goodIn_app (goodIn_of _ (by decide +kernel)) ggX7_carryOut_X7_errorAt
set_option maxRecDepth 20000 in
theorem ggX7_carryOut_X7_saves : GoodIn wsX7_carryOut wsX7_saves := goodIn_r _ [36, 37, 38, 39, 75, 76, 77, 78, 79, 80, 81, 82, 83, 84, 85, 86, 87, 88, 89, 90] (by decide +kernel) (by decide +kernel)
set_option maxRecDepth 20000 in
theorem gX7_carryOut_X7_saves : GoodIn wsX7_carryOut (wsV RX7 102 RX7 yX7_saves wsX7_saves) := goodIn_app (goodIn_of _ (by decide +kernel)) ggX7_carryOut_X7_saves
set_option maxRecDepth 20000 in
theorem ggX7_carryOut_X7_addsTold : GoodIn wsX7_carryOut wsX7_addsTold := goodIn_r _ [43, 7, 8, 9, 10, 11, 5, 12, 13, 14, 15, 16, 17, 18, 19, 20, 21, 22, 23, 24, 25, 26, 27, 28, 29, 30, 31, 32, 44, 45, 46, 47, 48, 49, 50, 51, 52, 53, 54, 55, 56, 57, 39, 58, 59, 60, 61, 62, 63, 64, 65, 66, 67, 68, 69, 70, 71, 72, 73, 74, 75, 76, 77, 78, 79, 80, 81, 82, 83, 84, 85, 86, 87, 88, 89, 90] (by decide +kernel) (by decide +kernel)
set_option maxRecDepth 20000 in
theorem gX7_carryOut_X7_addsTold : GoodIn wsX7_carryOut (wsV RX7 212 RX7 yX7_addsTold wsX7_addsTold) := goodIn_app (goodIn_of _ (by decide +kernel)) ggX7_carryOut_X7_addsTold
theorem dX7_carryOut_0 : decode cX7_carryOut 0 = .ok (.aload_n 0, 1) := by decide +kernel
theorem dX7_carryOut_1 : decode cX7_carryOut 1 = .ok (.iconst 0, 1) := by decide +kernel
theorem dX7_carryOut_2 : decode cX7_carryOut 2 = .ok (.putfield 45, 3) := by decide +kernel
theorem dX7_carryOut_5 : decode cX7_carryOut 5 = .ok (.aload_n 0, 1) := by decide +kernel
theorem dX7_carryOut_6 : decode cX7_carryOut 6 = .ok (.invokevirtual 209, 3) := by decide +kernel
theorem dX7_carryOut_9 : decode cX7_carryOut 9 = .ok (.istore_n 1, 1) := by decide +kernel
theorem dX7_carryOut_10 : decode cX7_carryOut 10 = .ok (.iload_n 1, 1) := by decide +kernel
theorem dX7_carryOut_11 : decode cX7_carryOut 11 = .ok (.iconst (-1), 1) := by decide +kernel
theorem dX7_carryOut_12 : decode cX7_carryOut 12 = .ok (.if_icmp .eq 8, 3) := by decide +kernel
theorem dX7_carryOut_15 : decode cX7_carryOut 15 = .ok (.bipush (-10), 2) := by decide +kernel
theorem dX7_carryOut_17 : decode cX7_carryOut 17 = .ok (.iload_n 1, 1) := by decide +kernel
theorem dX7_carryOut_18 : decode cX7_carryOut 18 = .ok (.isub, 1) := by decide +kernel
theorem dX7_carryOut_19 : decode cX7_carryOut 19 = .ok (.ireturn, 1) := by decide +kernel
theorem dX7_carryOut_20 : decode cX7_carryOut 20 = .ok (.aload_n 0, 1) := by decide +kernel
theorem dX7_carryOut_21 : decode cX7_carryOut 21 = .ok (.invokevirtual 102, 3) := by decide +kernel
theorem dX7_carryOut_24 : decode cX7_carryOut 24 = .ok (.aload_n 0, 1) := by decide +kernel
theorem dX7_carryOut_25 : decode cX7_carryOut 25 = .ok (.invokevirtual 212, 3) := by decide +kernel
theorem dX7_carryOut_28 : decode cX7_carryOut 28 = .ok (.ireturn, 1) := by decide +kernel
set_option maxRecDepth 20000 in
theorem ggX7_undo_X7_throwsAt : GoodIn wsX7_undo wsX7_throwsAt := goodIn_r _ [8, 9, 10, 11, 12, 13, 14, 15, 16, 17, 18, 19, 20, 21, 22, 23, 24, 25] (by decide +kernel) (by decide +kernel)
set_option maxRecDepth 20000 in
theorem gX7_undo_X7_throwsAt : GoodIn wsX7_undo (wsV RX7 98 RX7 yX7_throwsAt wsX7_throwsAt) := goodIn_app (goodIn_of _ (by decide +kernel)) ggX7_undo_X7_throwsAt
theorem dX7_undo_0 : decode cX7_undo 0 = .ok (.aload_n 0, 1) := by decide +kernel
theorem dX7_undo_1 : decode cX7_undo 1 = .ok (.aload_n 0, 1) := by decide +kernel
theorem dX7_undo_2 : decode cX7_undo 2 = .ok (.getfield 49, 3) := by decide +kernel
theorem dX7_undo_5 : decode cX7_undo 5 = .ok (.ifCond .ne 7, 3) := by decide +kernel
theorem dX7_undo_8 : decode cX7_undo 8 = .ok (.iconst 1, 1) := by decide +kernel
theorem dX7_undo_9 : decode cX7_undo 9 = .ok (.goto 4, 3) := by decide +kernel
theorem dX7_undo_12 : decode cX7_undo 12 = .ok (.iconst 0, 1) := by decide +kernel
theorem dX7_undo_13 : decode cX7_undo 13 = .ok (.invokevirtual 98, 3) := by decide +kernel
theorem dX7_undo_16 : decode cX7_undo 16 = .ok (.ifCond .eq 5, 3) := by decide +kernel
theorem dX7_undo_19 : decode cX7_undo 19 = .ok (.iconst 0, 1) := by decide +kernel
theorem dX7_undo_20 : decode cX7_undo 20 = .ok (.ireturn, 1) := by decide +kernel
theorem dX7_undo_21 : decode cX7_undo 21 = .ok (.aload_n 0, 1) := by decide +kernel
theorem dX7_undo_22 : decode cX7_undo 22 = .ok (.dup, 1) := by decide +kernel
theorem dX7_undo_23 : decode cX7_undo 23 = .ok (.getfield 49, 3) := by decide +kernel
theorem dX7_undo_26 : decode cX7_undo 26 = .ok (.iconst 1, 1) := by decide +kernel
theorem dX7_undo_27 : decode cX7_undo 27 = .ok (.isub, 1) := by decide +kernel
theorem dX7_undo_28 : decode cX7_undo 28 = .ok (.putfield 49, 3) := by decide +kernel
theorem dX7_undo_31 : decode cX7_undo 31 = .ok (.iconst 0, 1) := by decide +kernel
theorem dX7_undo_32 : decode cX7_undo 32 = .ok (.istore_n 1, 1) := by decide +kernel
theorem dX7_undo_33 : decode cX7_undo 33 = .ok (.iload_n 1, 1) := by decide +kernel
theorem dX7_undo_34 : decode cX7_undo 34 = .ok (.sipush 205, 3) := by decide +kernel
theorem dX7_undo_37 : decode cX7_undo 37 = .ok (.if_icmp .ge 30, 3) := by decide +kernel
theorem dX7_undo_40 : decode cX7_undo 40 = .ok (.aload_n 0, 1) := by decide +kernel
theorem dX7_undo_41 : decode cX7_undo 41 = .ok (.getfield 7, 3) := by decide +kernel
theorem dX7_undo_44 : decode cX7_undo 44 = .ok (.iload_n 1, 1) := by decide +kernel
theorem dX7_undo_45 : decode cX7_undo 45 = .ok (.aload_n 0, 1) := by decide +kernel
theorem dX7_undo_46 : decode cX7_undo 46 = .ok (.getfield 13, 3) := by decide +kernel
theorem dX7_undo_49 : decode cX7_undo 49 = .ok (.sipush 205, 3) := by decide +kernel
theorem dX7_undo_52 : decode cX7_undo 52 = .ok (.aload_n 0, 1) := by decide +kernel
theorem dX7_undo_53 : decode cX7_undo 53 = .ok (.getfield 49, 3) := by decide +kernel
theorem dX7_undo_56 : decode cX7_undo 56 = .ok (.imul, 1) := by decide +kernel
theorem dX7_undo_57 : decode cX7_undo 57 = .ok (.iload_n 1, 1) := by decide +kernel
theorem dX7_undo_58 : decode cX7_undo 58 = .ok (.iadd, 1) := by decide +kernel
theorem dX7_undo_59 : decode cX7_undo 59 = .ok (.laload, 1) := by decide +kernel
theorem dX7_undo_60 : decode cX7_undo 60 = .ok (.lastore, 1) := by decide +kernel
theorem dX7_undo_61 : decode cX7_undo 61 = .ok (.iinc 1 1, 3) := by decide +kernel
theorem dX7_undo_64 : decode cX7_undo 64 = .ok (.goto (-31), 3) := by decide +kernel
theorem dX7_undo_67 : decode cX7_undo 67 = .ok (.aload_n 0, 1) := by decide +kernel
theorem dX7_undo_68 : decode cX7_undo 68 = .ok (.getfield 49, 3) := by decide +kernel
theorem dX7_undo_71 : decode cX7_undo 71 = .ok (.ireturn, 1) := by decide +kernel
set_option maxRecDepth 20000 in
theorem ggX7_digest_X7_valueOf : GoodIn wsX7_digest wsX7_valueOf := goodIn_r _ [11, 5, 12, 13, 14, 10, 15, 16, 17, 18, 19, 20, 21, 22, 23, 24, 25, 26, 27, 28, 29, 30, 31, 32, 33, 34, 35, 36, 37, 38, 39, 40, 41, 42, 43, 44, 45, 46, 47, 48, 49, 50, 51, 52, 53, 54, 55, 56, 57, 58, 59, 60, 61, 62, 63, 64, 65, 66, 67, 68, 69, 70, 71, 72, 73, 74, 75, 76, 77, 78, 79, 80, 81, 82, 83, 84, 85, 86, 87, 88, 89, 90, 91, 92, 93, 94, 95] (by decide +kernel) (by decide +kernel)
set_option maxRecDepth 20000 in
theorem gX7_digest_X7_valueOf : GoodIn wsX7_digest (wsV RX7 175 RX7 yX7_valueOf wsX7_valueOf) := goodIn_app (goodIn_of _ (by decide +kernel)) ggX7_digest_X7_valueOf
set_option maxRecDepth 20000 in
theorem ggX7_digest_X7_rounds : GoodIn wsX7_digest wsX7_rounds := goodIn_r _ [15, 5, 80, 81, 82, 83, 84, 85, 86, 87, 88, 89, 90, 91, 92, 93, 94, 95] (by decide +kernel) (by decide +kernel)
set_option maxRecDepth 20000 in
theorem gX7_digest_X7_rounds : GoodIn wsX7_digest (wsV RX7 62 RX7 yX7_rounds wsX7_rounds) := goodIn_app (goodIn_of _ (by decide +kernel)) ggX7_digest_X7_rounds
set_option maxRecDepth 20000 in
theorem ggX7_digest_X7_roundOf : GoodIn wsX7_digest wsX7_roundOf := goodIn_r _ [40, 20, 21, 22, 10, 23, 24, 25, 26, 27, 5, 28, 29, 30, 31, 32, 41, 42, 43, 44, 45, 46, 47, 48, 49, 50, 51, 52, 53, 54, 55, 56, 57, 58, 59, 60, 61, 62, 63, 64, 65, 66, 67, 68, 69, 70, 71, 72, 73, 74, 75, 80, 81, 82, 83, 84, 85, 86, 87, 88, 89, 90, 91, 92, 93, 94, 95] (by decide +kernel) (by decide +kernel)
set_option maxRecDepth 20000 in
theorem gX7_digest_X7_roundOf : GoodIn wsX7_digest (wsV RX7 154 RX7 yX7_roundOf wsX7_roundOf) := goodIn_app (goodIn_of _ (by decide +kernel)) ggX7_digest_X7_roundOf
set_option maxRecDepth 20000 in
theorem ggX7_digest_X7_worksOf : GoodIn wsX7_digest wsX7_worksOf := goodIn_r _ [27, 5, 80, 81, 82, 83, 84, 85, 86, 87, 88, 89, 90, 91, 92, 93, 94, 95] (by decide +kernel) (by decide +kernel)
set_option maxRecDepth 20000 in
theorem gX7_digest_X7_worksOf : GoodIn wsX7_digest (wsV RX7 54 RX7 yX7_worksOf wsX7_worksOf) := goodIn_app (goodIn_of _ (by decide +kernel)) ggX7_digest_X7_worksOf
set_option maxRecDepth 20000 in
theorem ggX7_digest_X7_kindOf : GoodIn wsX7_digest wsX7_kindOf := goodIn_r _ [31, 5, 32, 80, 81, 82, 83, 84, 85, 86, 87, 88, 89, 90, 91, 92, 93, 94, 95] (by decide +kernel) (by decide +kernel)
set_option maxRecDepth 20000 in
theorem gX7_digest_X7_kindOf : GoodIn wsX7_digest (wsV RX7 58 RX7 yX7_kindOf wsX7_kindOf) := goodIn_app (goodIn_of _ (by decide +kernel)) ggX7_digest_X7_kindOf
theorem dX7_digest_0 : decode cX7_digest 0 = .ok (.aload_n 0, 1) := by decide +kernel
theorem dX7_digest_1 : decode cX7_digest 1 = .ok (.iconst 0, 1) := by decide +kernel
theorem dX7_digest_2 : decode cX7_digest 2 = .ok (.putfield 45, 3) := by decide +kernel
theorem dX7_digest_5 : decode cX7_digest 5 = .ok (.ldc2_w 215, 3) := by decide +kernel
theorem dX7_digest_8 : decode cX7_digest 8 = .ok (.aload_n 0, 1) := by decide +kernel
theorem dX7_digest_9 : decode cX7_digest 9 = .ok (.getfield 178, 3) := by decide +kernel
theorem dX7_digest_12 : decode cX7_digest 12 = .ok (.i2l, 1) := by decide +kernel
theorem dX7_digest_13 : decode cX7_digest 13 = .ok (.ladd, 1) := by decide +kernel
theorem dX7_digest_14 : decode cX7_digest 14 = .ok (.lstore_n 1, 1) := by decide +kernel
theorem dX7_digest_15 : decode cX7_digest 15 = .ok (.iconst 0, 1) := by decide +kernel
theorem dX7_digest_16 : decode cX7_digest 16 = .ok (.istore_n 3, 1) := by decide +kernel
theorem dX7_digest_17 : decode cX7_digest 17 = .ok (.iload_n 3, 1) := by decide +kernel
theorem dX7_digest_18 : decode cX7_digest 18 = .ok (.bipush 8, 2) := by decide +kernel
theorem dX7_digest_20 : decode cX7_digest 20 = .ok (.if_icmp .ge 22, 3) := by decide +kernel
theorem dX7_digest_23 : decode cX7_digest 23 = .ok (.ldc2_w 217, 3) := by decide +kernel
theorem dX7_digest_26 : decode cX7_digest 26 = .ok (.lload_n 1, 1) := by decide +kernel
theorem dX7_digest_27 : decode cX7_digest 27 = .ok (.lmul, 1) := by decide +kernel
theorem dX7_digest_28 : decode cX7_digest 28 = .ok (.aload_n 0, 1) := by decide +kernel
theorem dX7_digest_29 : decode cX7_digest 29 = .ok (.iload_n 3, 1) := by decide +kernel
theorem dX7_digest_30 : decode cX7_digest 30 = .ok (.invokevirtual 175, 3) := by decide +kernel
theorem dX7_digest_33 : decode cX7_digest 33 = .ok (.i2l, 1) := by decide +kernel
theorem dX7_digest_34 : decode cX7_digest 34 = .ok (.ladd, 1) := by decide +kernel
theorem dX7_digest_35 : decode cX7_digest 35 = .ok (.lstore_n 1, 1) := by decide +kernel
theorem dX7_digest_36 : decode cX7_digest 36 = .ok (.iinc 3 1, 3) := by decide +kernel
theorem dX7_digest_39 : decode cX7_digest 39 = .ok (.goto (-22), 3) := by decide +kernel
theorem dX7_digest_42 : decode cX7_digest 42 = .ok (.iconst 0, 1) := by decide +kernel
theorem dX7_digest_43 : decode cX7_digest 43 = .ok (.istore_n 3, 1) := by decide +kernel
theorem dX7_digest_44 : decode cX7_digest 44 = .ok (.iload_n 3, 1) := by decide +kernel
theorem dX7_digest_45 : decode cX7_digest 45 = .ok (.iconst 3, 1) := by decide +kernel
theorem dX7_digest_46 : decode cX7_digest 46 = .ok (.if_icmp .ge 24, 3) := by decide +kernel
theorem dX7_digest_49 : decode cX7_digest 49 = .ok (.ldc2_w 217, 3) := by decide +kernel
theorem dX7_digest_52 : decode cX7_digest 52 = .ok (.lload_n 1, 1) := by decide +kernel
theorem dX7_digest_53 : decode cX7_digest 53 = .ok (.lmul, 1) := by decide +kernel
theorem dX7_digest_54 : decode cX7_digest 54 = .ok (.aload_n 0, 1) := by decide +kernel
theorem dX7_digest_55 : decode cX7_digest 55 = .ok (.getfield 7, 3) := by decide +kernel
theorem dX7_digest_58 : decode cX7_digest 58 = .ok (.iconst 2, 1) := by decide +kernel
theorem dX7_digest_59 : decode cX7_digest 59 = .ok (.iload_n 3, 1) := by decide +kernel
theorem dX7_digest_60 : decode cX7_digest 60 = .ok (.iadd, 1) := by decide +kernel
theorem dX7_digest_61 : decode cX7_digest 61 = .ok (.laload, 1) := by decide +kernel
theorem dX7_digest_62 : decode cX7_digest 62 = .ok (.ladd, 1) := by decide +kernel
theorem dX7_digest_63 : decode cX7_digest 63 = .ok (.lstore_n 1, 1) := by decide +kernel
theorem dX7_digest_64 : decode cX7_digest 64 = .ok (.iinc 3 1, 3) := by decide +kernel
theorem dX7_digest_67 : decode cX7_digest 67 = .ok (.goto (-23), 3) := by decide +kernel
theorem dX7_digest_70 : decode cX7_digest 70 = .ok (.iconst 0, 1) := by decide +kernel
theorem dX7_digest_71 : decode cX7_digest 71 = .ok (.istore_n 3, 1) := by decide +kernel
theorem dX7_digest_72 : decode cX7_digest 72 = .ok (.iload_n 3, 1) := by decide +kernel
theorem dX7_digest_73 : decode cX7_digest 73 = .ok (.aload_n 0, 1) := by decide +kernel
theorem dX7_digest_74 : decode cX7_digest 74 = .ok (.invokevirtual 62, 3) := by decide +kernel
theorem dX7_digest_77 : decode cX7_digest 77 = .ok (.if_icmp .ge 74, 3) := by decide +kernel
theorem dX7_digest_80 : decode cX7_digest 80 = .ok (.iconst 0, 1) := by decide +kernel
theorem dX7_digest_81 : decode cX7_digest 81 = .ok (.istore 4, 2) := by decide +kernel
theorem dX7_digest_83 : decode cX7_digest 83 = .ok (.iload 4, 2) := by decide +kernel
theorem dX7_digest_85 : decode cX7_digest 85 = .ok (.bipush 11, 2) := by decide +kernel
theorem dX7_digest_87 : decode cX7_digest 87 = .ok (.if_icmp .ge 24, 3) := by decide +kernel
theorem dX7_digest_90 : decode cX7_digest 90 = .ok (.ldc2_w 217, 3) := by decide +kernel
theorem dX7_digest_93 : decode cX7_digest 93 = .ok (.lload_n 1, 1) := by decide +kernel
theorem dX7_digest_94 : decode cX7_digest 94 = .ok (.lmul, 1) := by decide +kernel
theorem dX7_digest_95 : decode cX7_digest 95 = .ok (.aload_n 0, 1) := by decide +kernel
theorem dX7_digest_96 : decode cX7_digest 96 = .ok (.iload_n 3, 1) := by decide +kernel
theorem dX7_digest_97 : decode cX7_digest 97 = .ok (.iload 4, 2) := by decide +kernel
theorem dX7_digest_99 : decode cX7_digest 99 = .ok (.invokevirtual 154, 3) := by decide +kernel
theorem dX7_digest_102 : decode cX7_digest 102 = .ok (.i2l, 1) := by decide +kernel
theorem dX7_digest_103 : decode cX7_digest 103 = .ok (.ladd, 1) := by decide +kernel
theorem dX7_digest_104 : decode cX7_digest 104 = .ok (.lstore_n 1, 1) := by decide +kernel
theorem dX7_digest_105 : decode cX7_digest 105 = .ok (.iinc 4 1, 3) := by decide +kernel
theorem dX7_digest_108 : decode cX7_digest 108 = .ok (.goto (-25), 3) := by decide +kernel
theorem dX7_digest_111 : decode cX7_digest 111 = .ok (.iconst 0, 1) := by decide +kernel
theorem dX7_digest_112 : decode cX7_digest 112 = .ok (.istore 4, 2) := by decide +kernel
theorem dX7_digest_114 : decode cX7_digest 114 = .ok (.iload 4, 2) := by decide +kernel
theorem dX7_digest_116 : decode cX7_digest 116 = .ok (.aload_n 0, 1) := by decide +kernel
theorem dX7_digest_117 : decode cX7_digest 117 = .ok (.iload_n 3, 1) := by decide +kernel
theorem dX7_digest_118 : decode cX7_digest 118 = .ok (.invokevirtual 54, 3) := by decide +kernel
theorem dX7_digest_121 : decode cX7_digest 121 = .ok (.if_icmp .ge 24, 3) := by decide +kernel
theorem dX7_digest_124 : decode cX7_digest 124 = .ok (.ldc2_w 217, 3) := by decide +kernel
theorem dX7_digest_127 : decode cX7_digest 127 = .ok (.lload_n 1, 1) := by decide +kernel
theorem dX7_digest_128 : decode cX7_digest 128 = .ok (.lmul, 1) := by decide +kernel
theorem dX7_digest_129 : decode cX7_digest 129 = .ok (.aload_n 0, 1) := by decide +kernel
theorem dX7_digest_130 : decode cX7_digest 130 = .ok (.iload_n 3, 1) := by decide +kernel
theorem dX7_digest_131 : decode cX7_digest 131 = .ok (.iload 4, 2) := by decide +kernel
theorem dX7_digest_133 : decode cX7_digest 133 = .ok (.invokevirtual 58, 3) := by decide +kernel
theorem dX7_digest_136 : decode cX7_digest 136 = .ok (.i2l, 1) := by decide +kernel
theorem dX7_digest_137 : decode cX7_digest 137 = .ok (.ladd, 1) := by decide +kernel
theorem dX7_digest_138 : decode cX7_digest 138 = .ok (.lstore_n 1, 1) := by decide +kernel
theorem dX7_digest_139 : decode cX7_digest 139 = .ok (.iinc 4 1, 3) := by decide +kernel
theorem dX7_digest_142 : decode cX7_digest 142 = .ok (.goto (-28), 3) := by decide +kernel
theorem dX7_digest_145 : decode cX7_digest 145 = .ok (.iinc 3 1, 3) := by decide +kernel
theorem dX7_digest_148 : decode cX7_digest 148 = .ok (.goto (-76), 3) := by decide +kernel
theorem dX7_digest_151 : decode cX7_digest 151 = .ok (.ldc2_w 217, 3) := by decide +kernel
theorem dX7_digest_154 : decode cX7_digest 154 = .ok (.lload_n 1, 1) := by decide +kernel
theorem dX7_digest_155 : decode cX7_digest 155 = .ok (.lmul, 1) := by decide +kernel
theorem dX7_digest_156 : decode cX7_digest 156 = .ok (.aload_n 0, 1) := by decide +kernel
theorem dX7_digest_157 : decode cX7_digest 157 = .ok (.getfield 49, 3) := by decide +kernel
theorem dX7_digest_160 : decode cX7_digest 160 = .ok (.i2l, 1) := by decide +kernel
theorem dX7_digest_161 : decode cX7_digest 161 = .ok (.ladd, 1) := by decide +kernel
theorem dX7_digest_162 : decode cX7_digest 162 = .ok (.lreturn, 1) := by decide +kernel
theorem dJ9_abs_0f7a4_0 : decode cJ9_abs_0f7a4 0 = .ok (.iload_n 0, 1) := by decide +kernel
theorem dJ9_abs_0f7a4_1 : decode cJ9_abs_0f7a4 1 = .ok (.ifCond .ge 8, 3) := by decide +kernel
theorem dJ9_abs_0f7a4_4 : decode cJ9_abs_0f7a4 4 = .ok (.iload_n 0, 1) := by decide +kernel
theorem dJ9_abs_0f7a4_5 : decode cJ9_abs_0f7a4 5 = .ok (.ineg, 1) := by decide +kernel
theorem dJ9_abs_0f7a4_6 : decode cJ9_abs_0f7a4 6 = .ok (.goto 4, 3) := by decide +kernel
theorem dJ9_abs_0f7a4_9 : decode cJ9_abs_0f7a4 9 = .ok (.iload_n 0, 1) := by decide +kernel
theorem dJ9_abs_0f7a4_10 : decode cJ9_abs_0f7a4 10 = .ok (.ireturn, 1) := by decide +kernel
theorem dJ9_max_7cf53_0 : decode cJ9_max_7cf53 0 = .ok (.iload_n 0, 1) := by decide +kernel
theorem dJ9_max_7cf53_1 : decode cJ9_max_7cf53 1 = .ok (.iload_n 1, 1) := by decide +kernel
theorem dJ9_max_7cf53_2 : decode cJ9_max_7cf53 2 = .ok (.if_icmp .lt 7, 3) := by decide +kernel
theorem dJ9_max_7cf53_5 : decode cJ9_max_7cf53 5 = .ok (.iload_n 0, 1) := by decide +kernel
theorem dJ9_max_7cf53_6 : decode cJ9_max_7cf53 6 = .ok (.goto 4, 3) := by decide +kernel
theorem dJ9_max_7cf53_9 : decode cJ9_max_7cf53 9 = .ok (.iload_n 1, 1) := by decide +kernel
theorem dJ9_max_7cf53_10 : decode cJ9_max_7cf53 10 = .ok (.ireturn, 1) := by decide +kernel
theorem dJ9_min_7cf53_0 : decode cJ9_min_7cf53 0 = .ok (.iload_n 0, 1) := by decide +kernel
theorem dJ9_min_7cf53_1 : decode cJ9_min_7cf53 1 = .ok (.iload_n 1, 1) := by decide +kernel
theorem dJ9_min_7cf53_2 : decode cJ9_min_7cf53 2 = .ok (.if_icmp .gt 7, 3) := by decide +kernel
theorem dJ9_min_7cf53_5 : decode cJ9_min_7cf53 5 = .ok (.iload_n 0, 1) := by decide +kernel
theorem dJ9_min_7cf53_6 : decode cJ9_min_7cf53 6 = .ok (.goto 4, 3) := by decide +kernel
theorem dJ9_min_7cf53_9 : decode cJ9_min_7cf53 9 = .ok (.iload_n 1, 1) := by decide +kernel
theorem dJ9_min_7cf53_10 : decode cJ9_min_7cf53 10 = .ok (.ireturn, 1) := by decide +kernel
