set_option maxRecDepth 20000 in
theorem ggX0_init_X4_init : GoodIn wsX0_init wsX4_init := goodIn_r _ [9, 10, 2, 3, 11, 12, 13, 14, 15, 16, 17, 18, 19, 20, 21, 22, 23, 33, 27, 28, 29, 30, 31, 32] (by decide +kernel) (by decide +kernel)
set_option maxRecDepth 20000 in
theorem gX0_init_X4_init_n17 : GoodIn wsX0_init (wsX4_init) := ggX0_init_X4_init
theorem dX0_init_0 : decode cX0_init 0 = .ok (.aload_n 0, 1) := by decide +kernel
theorem dX0_init_1 : decode cX0_init 1 = .ok (.invokespecial 3, 3) := by decide +kernel
theorem dX0_init_4 : decode cX0_init 4 = .ok (.aload_n 0, 1) := by decide +kernel
theorem dX0_init_5 : decode cX0_init 5 = .ok (.iconst 4, 1) := by decide +kernel
theorem dX0_init_6 : decode cX0_init 6 = .ok (.anewarray 9, 3) := by decide +kernel
theorem dX0_init_9 : decode cX0_init 9 = .ok (.putfield 11, 3) := by decide +kernel
theorem dX0_init_12 : decode cX0_init 12 = .ok (.iconst 0, 1) := by decide +kernel
theorem dX0_init_13 : decode cX0_init 13 = .ok (.istore_n 1, 1) := by decide +kernel
theorem dX0_init_14 : decode cX0_init 14 = .ok (.iload_n 1, 1) := by decide +kernel
theorem dX0_init_15 : decode cX0_init 15 = .ok (.aload_n 0, 1) := by decide +kernel
theorem dX0_init_16 : decode cX0_init 16 = .ok (.getfield 11, 3) := by decide +kernel
theorem dX0_init_19 : decode cX0_init 19 = .ok (.arraylength, 1) := by decide +kernel
theorem dX0_init_20 : decode cX0_init 20 = .ok (.if_icmp .ge 22, 3) := by decide +kernel
theorem dX0_init_23 : decode cX0_init 23 = .ok (.aload_n 0, 1) := by decide +kernel
theorem dX0_init_24 : decode cX0_init 24 = .ok (.getfield 11, 3) := by decide +kernel
theorem dX0_init_27 : decode cX0_init 27 = .ok (.iload_n 1, 1) := by decide +kernel
theorem dX0_init_28 : decode cX0_init 28 = .ok (.new 9, 3) := by decide +kernel
theorem dX0_init_31 : decode cX0_init 31 = .ok (.dup, 1) := by decide +kernel
theorem dX0_init_32 : decode cX0_init 32 = .ok (.invokespecial 17, 3) := by decide +kernel
theorem dX0_init_35 : decode cX0_init 35 = .ok (.aastore, 1) := by decide +kernel
theorem dX0_init_36 : decode cX0_init 36 = .ok (.iinc 1 1, 3) := by decide +kernel
theorem dX0_init_39 : decode cX0_init 39 = .ok (.goto (-25), 3) := by decide +kernel
theorem dX0_init_42 : decode cX0_init 42 = .ok (.return_, 1) := by decide +kernel
set_option maxRecDepth 20000 in
theorem ggX0_keep_X0_slotAt : GoodIn wsX0_keep wsX0_slotAt := goodIn_r _ [11, 12, 39, 40, 41] (by decide +kernel) (by decide +kernel)
set_option maxRecDepth 20000 in
theorem gX0_keep_X0_slotAt : GoodIn wsX0_keep (wsV RX0 22 RX0 yX0_slotAt wsX0_slotAt) := goodIn_app (goodIn_of _ (by decide +kernel)) ggX0_keep_X0_slotAt
set_option maxRecDepth 20000 in
theorem ggX0_keep_X4_takeOver : GoodIn wsX0_keep wsX4_takeOver := goodIn_r _ [17, 18, 19, 20, 21, 22, 23, 24, 25, 26, 27, 28, 29, 30, 31, 32, 33, 34, 35, 36, 37, 38, 42, 43, 44, 45, 46, 47, 48] (by decide +kernel) (by decide +kernel)
set_option maxRecDepth 20000 in
theorem gX0_keep_X4_takeOver : GoodIn wsX0_keep (wsV RX0 26 RX4 yX4_takeOver wsX4_takeOver) := goodIn_app (goodIn_of _ (by decide +kernel)) ggX0_keep_X4_takeOver
theorem dX0_keep_0 : decode cX0_keep 0 = .ok (.aload_n 0, 1) := by decide +kernel
theorem dX0_keep_1 : decode cX0_keep 1 = .ok (.aload_n 0, 1) := by decide +kernel
theorem dX0_keep_2 : decode cX0_keep 2 = .ok (.getfield 18, 3) := by decide +kernel
theorem dX0_keep_5 : decode cX0_keep 5 = .ok (.invokevirtual 22, 3) := by decide +kernel
theorem dX0_keep_8 : decode cX0_keep 8 = .ok (.astore_n 2, 1) := by decide +kernel
theorem dX0_keep_9 : decode cX0_keep 9 = .ok (.aload_n 2, 1) := by decide +kernel
theorem dX0_keep_10 : decode cX0_keep 10 = .ok (.ifnull 8, 3) := by decide +kernel
theorem dX0_keep_13 : decode cX0_keep 13 = .ok (.aload_n 2, 1) := by decide +kernel
theorem dX0_keep_14 : decode cX0_keep 14 = .ok (.aload_n 1, 1) := by decide +kernel
theorem dX0_keep_15 : decode cX0_keep 15 = .ok (.invokevirtual 26, 3) := by decide +kernel
theorem dX0_keep_18 : decode cX0_keep 18 = .ok (.aload_n 0, 1) := by decide +kernel
theorem dX0_keep_19 : decode cX0_keep 19 = .ok (.aload_n 0, 1) := by decide +kernel
theorem dX0_keep_20 : decode cX0_keep 20 = .ok (.getfield 18, 3) := by decide +kernel
theorem dX0_keep_23 : decode cX0_keep 23 = .ok (.iconst 1, 1) := by decide +kernel
theorem dX0_keep_24 : decode cX0_keep 24 = .ok (.iadd, 1) := by decide +kernel
theorem dX0_keep_25 : decode cX0_keep 25 = .ok (.iconst 4, 1) := by decide +kernel
theorem dX0_keep_26 : decode cX0_keep 26 = .ok (.irem, 1) := by decide +kernel
theorem dX0_keep_27 : decode cX0_keep 27 = .ok (.putfield 18, 3) := by decide +kernel
theorem dX0_keep_30 : decode cX0_keep 30 = .ok (.aload_n 0, 1) := by decide +kernel
theorem dX0_keep_31 : decode cX0_keep 31 = .ok (.aload_n 0, 1) := by decide +kernel
theorem dX0_keep_32 : decode cX0_keep 32 = .ok (.getfield 30, 3) := by decide +kernel
theorem dX0_keep_35 : decode cX0_keep 35 = .ok (.iconst 1, 1) := by decide +kernel
theorem dX0_keep_36 : decode cX0_keep 36 = .ok (.iadd, 1) := by decide +kernel
theorem dX0_keep_37 : decode cX0_keep 37 = .ok (.iconst 4, 1) := by decide +kernel
theorem dX0_keep_38 : decode cX0_keep 38 = .ok (.invokestatic 33, 3) := by decide +kernel
theorem dX0_keep_41 : decode cX0_keep 41 = .ok (.putfield 30, 3) := by decide +kernel
theorem dX0_keep_44 : decode cX0_keep 44 = .ok (.return_, 1) := by decide +kernel
theorem dX0_slotAt_0 : decode cX0_slotAt 0 = .ok (.iload_n 1, 1) := by decide +kernel
theorem dX0_slotAt_1 : decode cX0_slotAt 1 = .ok (.ifCond .lt 21, 3) := by decide +kernel
theorem dX0_slotAt_4 : decode cX0_slotAt 4 = .ok (.iload_n 1, 1) := by decide +kernel
theorem dX0_slotAt_5 : decode cX0_slotAt 5 = .ok (.aload_n 0, 1) := by decide +kernel
theorem dX0_slotAt_6 : decode cX0_slotAt 6 = .ok (.getfield 11, 3) := by decide +kernel
theorem dX0_slotAt_9 : decode cX0_slotAt 9 = .ok (.arraylength, 1) := by decide +kernel
theorem dX0_slotAt_10 : decode cX0_slotAt 10 = .ok (.if_icmp .ge 12, 3) := by decide +kernel
theorem dX0_slotAt_13 : decode cX0_slotAt 13 = .ok (.aload_n 0, 1) := by decide +kernel
theorem dX0_slotAt_14 : decode cX0_slotAt 14 = .ok (.getfield 11, 3) := by decide +kernel
theorem dX0_slotAt_17 : decode cX0_slotAt 17 = .ok (.iload_n 1, 1) := by decide +kernel
theorem dX0_slotAt_18 : decode cX0_slotAt 18 = .ok (.aaload, 1) := by decide +kernel
theorem dX0_slotAt_19 : decode cX0_slotAt 19 = .ok (.goto 4, 3) := by decide +kernel
theorem dX0_slotAt_22 : decode cX0_slotAt 22 = .ok (.aconst_null, 1) := by decide +kernel
theorem dX0_slotAt_23 : decode cX0_slotAt 23 = .ok (.areturn, 1) := by decide +kernel
set_option maxRecDepth 20000 in
theorem ggX1_init_X2_init : GoodIn wsX1_init wsX2_init := goodIn_r _ [10, 11, 2, 3, 12, 13, 14] (by decide +kernel) (by decide +kernel)
set_option maxRecDepth 20000 in
theorem gX1_init_X2_init : GoodIn wsX1_init (wsX2_init) := ggX1_init_X2_init
theorem dX1_init_0 : decode cX1_init 0 = .ok (.aload_n 0, 1) := by decide +kernel
theorem dX1_init_1 : decode cX1_init 1 = .ok (.invokespecial 3, 3) := by decide +kernel
theorem dX1_init_4 : decode cX1_init 4 = .ok (.aload_n 0, 1) := by decide +kernel
theorem dX1_init_5 : decode cX1_init 5 = .ok (.new 9, 3) := by decide +kernel
theorem dX1_init_8 : decode cX1_init 8 = .ok (.dup, 1) := by decide +kernel
theorem dX1_init_9 : decode cX1_init 9 = .ok (.bipush 120, 2) := by decide +kernel
theorem dX1_init_11 : decode cX1_init 11 = .ok (.invokespecial 11, 3) := by decide +kernel
theorem dX1_init_14 : decode cX1_init 14 = .ok (.putfield 14, 3) := by decide +kernel
theorem dX1_init_17 : decode cX1_init 17 = .ok (.return_, 1) := by decide +kernel
set_option maxRecDepth 20000 in
theorem ggX1_load_X2_at : GoodIn wsX1_load wsX2_at := goodIn_r _ [8, 9, 24] (by decide +kernel) (by decide +kernel)
set_option maxRecDepth 20000 in
theorem gX1_load_X2_at : GoodIn wsX1_load (wsV RX1 25 RX2 yX2_at wsX2_at) := goodIn_app (goodIn_of _ (by decide +kernel)) ggX1_load_X2_at
set_option maxRecDepth 20000 in
theorem ggX1_load_X2_put : GoodIn wsX1_load wsX2_put := goodIn_r _ [13, 9, 24] (by decide +kernel) (by decide +kernel)
set_option maxRecDepth 20000 in
theorem gX1_load_X2_put : GoodIn wsX1_load (wsV RX1 30 RX2 yX2_put wsX2_put) := goodIn_app (goodIn_of _ (by decide +kernel)) ggX1_load_X2_put
set_option maxRecDepth 20000 in
theorem ggX1_load_X6_madeBy : GoodIn wsX1_load wsX6_madeBy := goodIn_r _ [16] (by decide +kernel) (by decide +kernel)
set_option maxRecDepth 20000 in
theorem gX1_load_X6_madeBy_n34 : GoodIn wsX1_load (wsX6_madeBy) := ggX1_load_X6_madeBy
theorem dX1_load_0 : decode cX1_load 0 = .ok (.aload_n 1, 1) := by decide +kernel
theorem dX1_load_1 : decode cX1_load 1 = .ok (.getfield 20, 3) := by decide +kernel
theorem dX1_load_4 : decode cX1_load 4 = .ok (.iload_n 2, 1) := by decide +kernel
theorem dX1_load_5 : decode cX1_load 5 = .ok (.invokevirtual 25, 3) := by decide +kernel
theorem dX1_load_8 : decode cX1_load 8 = .ok (.istore_n 3, 1) := by decide +kernel
theorem dX1_load_9 : decode cX1_load 9 = .ok (.iconst 0, 1) := by decide +kernel
theorem dX1_load_10 : decode cX1_load 10 = .ok (.istore 4, 2) := by decide +kernel
theorem dX1_load_12 : decode cX1_load 12 = .ok (.iconst 0, 1) := by decide +kernel
theorem dX1_load_13 : decode cX1_load 13 = .ok (.istore 5, 2) := by decide +kernel
theorem dX1_load_15 : decode cX1_load 15 = .ok (.iload 5, 2) := by decide +kernel
theorem dX1_load_17 : decode cX1_load 17 = .ok (.iload_n 3, 1) := by decide +kernel
theorem dX1_load_18 : decode cX1_load 18 = .ok (.if_icmp .ge 65, 3) := by decide +kernel
theorem dX1_load_21 : decode cX1_load 21 = .ok (.aload_n 1, 1) := by decide +kernel
theorem dX1_load_22 : decode cX1_load 22 = .ok (.getfield 29, 3) := by decide +kernel
theorem dX1_load_25 : decode cX1_load 25 = .ok (.iload_n 2, 1) := by decide +kernel
theorem dX1_load_26 : decode cX1_load 26 = .ok (.bipush 120, 2) := by decide +kernel
theorem dX1_load_28 : decode cX1_load 28 = .ok (.imul, 1) := by decide +kernel
theorem dX1_load_29 : decode cX1_load 29 = .ok (.iload 5, 2) := by decide +kernel
theorem dX1_load_31 : decode cX1_load 31 = .ok (.iadd, 1) := by decide +kernel
theorem dX1_load_32 : decode cX1_load 32 = .ok (.invokevirtual 25, 3) := by decide +kernel
theorem dX1_load_35 : decode cX1_load 35 = .ok (.istore 6, 2) := by decide +kernel
theorem dX1_load_37 : decode cX1_load 37 = .ok (.aload_n 0, 1) := by decide +kernel
theorem dX1_load_38 : decode cX1_load 38 = .ok (.getfield 14, 3) := by decide +kernel
theorem dX1_load_41 : decode cX1_load 41 = .ok (.iload 4, 2) := by decide +kernel
theorem dX1_load_43 : decode cX1_load 43 = .ok (.iload 6, 2) := by decide +kernel
theorem dX1_load_45 : decode cX1_load 45 = .ok (.invokevirtual 30, 3) := by decide +kernel
theorem dX1_load_48 : decode cX1_load 48 = .ok (.iload 6, 2) := by decide +kernel
theorem dX1_load_50 : decode cX1_load 50 = .ok (.iconst 1, 1) := by decide +kernel
theorem dX1_load_51 : decode cX1_load 51 = .ok (.if_icmp .ne 16, 3) := by decide +kernel
theorem dX1_load_54 : decode cX1_load 54 = .ok (.aload_n 0, 1) := by decide +kernel
theorem dX1_load_55 : decode cX1_load 55 = .ok (.getfield 14, 3) := by decide +kernel
theorem dX1_load_58 : decode cX1_load 58 = .ok (.iload 4, 2) := by decide +kernel
theorem dX1_load_60 : decode cX1_load 60 = .ok (.iconst 1, 1) := by decide +kernel
theorem dX1_load_61 : decode cX1_load 61 = .ok (.iadd, 1) := by decide +kernel
theorem dX1_load_62 : decode cX1_load 62 = .ok (.iload 6, 2) := by decide +kernel
theorem dX1_load_64 : decode cX1_load 64 = .ok (.invokevirtual 30, 3) := by decide +kernel
theorem dX1_load_67 : decode cX1_load 67 = .ok (.iload 4, 2) := by decide +kernel
theorem dX1_load_69 : decode cX1_load 69 = .ok (.iload 6, 2) := by decide +kernel
theorem dX1_load_71 : decode cX1_load 71 = .ok (.invokestatic 34, 3) := by decide +kernel
theorem dX1_load_74 : decode cX1_load 74 = .ok (.iadd, 1) := by decide +kernel
theorem dX1_load_75 : decode cX1_load 75 = .ok (.istore 4, 2) := by decide +kernel
theorem dX1_load_77 : decode cX1_load 77 = .ok (.iinc 5 1, 3) := by decide +kernel
theorem dX1_load_80 : decode cX1_load 80 = .ok (.goto (-65), 3) := by decide +kernel
theorem dX1_load_83 : decode cX1_load 83 = .ok (.return_, 1) := by decide +kernel
set_option maxRecDepth 20000 in
theorem ggX1_stackedIn_X2_at : GoodIn wsX1_stackedIn wsX2_at := goodIn_r _ [6, 7, 12] (by decide +kernel) (by decide +kernel)
set_option maxRecDepth 20000 in
theorem gX1_stackedIn_X2_at : GoodIn wsX1_stackedIn (wsV RX1 25 RX2 yX2_at wsX2_at) := goodIn_app (goodIn_of _ (by decide +kernel)) ggX1_stackedIn_X2_at
set_option maxRecDepth 20000 in
theorem ggX1_stackedIn_X6_usedBy : GoodIn wsX1_stackedIn wsX6_usedBy := goodIn_r _ [10] (by decide +kernel) (by decide +kernel)
set_option maxRecDepth 20000 in
theorem gX1_stackedIn_X6_usedBy_n37 : GoodIn wsX1_stackedIn (wsX6_usedBy) := ggX1_stackedIn_X6_usedBy
theorem dX1_stackedIn_0 : decode cX1_stackedIn 0 = .ok (.iconst 0, 1) := by decide +kernel
theorem dX1_stackedIn_1 : decode cX1_stackedIn 1 = .ok (.istore 5, 2) := by decide +kernel
theorem dX1_stackedIn_3 : decode cX1_stackedIn 3 = .ok (.iconst 0, 1) := by decide +kernel
theorem dX1_stackedIn_4 : decode cX1_stackedIn 4 = .ok (.istore 6, 2) := by decide +kernel
theorem dX1_stackedIn_6 : decode cX1_stackedIn 6 = .ok (.iconst 0, 1) := by decide +kernel
theorem dX1_stackedIn_7 : decode cX1_stackedIn 7 = .ok (.istore 7, 2) := by decide +kernel
theorem dX1_stackedIn_9 : decode cX1_stackedIn 9 = .ok (.iload 7, 2) := by decide +kernel
theorem dX1_stackedIn_11 : decode cX1_stackedIn 11 = .ok (.iload_n 3, 1) := by decide +kernel
theorem dX1_stackedIn_12 : decode cX1_stackedIn 12 = .ok (.if_icmp .ge 102, 3) := by decide +kernel
theorem dX1_stackedIn_15 : decode cX1_stackedIn 15 = .ok (.aload_n 1, 1) := by decide +kernel
theorem dX1_stackedIn_16 : decode cX1_stackedIn 16 = .ok (.iload_n 2, 1) := by decide +kernel
theorem dX1_stackedIn_17 : decode cX1_stackedIn 17 = .ok (.iload 7, 2) := by decide +kernel
theorem dX1_stackedIn_19 : decode cX1_stackedIn 19 = .ok (.iload 4, 2) := by decide +kernel
theorem dX1_stackedIn_21 : decode cX1_stackedIn 21 = .ok (.iadd, 1) := by decide +kernel
theorem dX1_stackedIn_22 : decode cX1_stackedIn 22 = .ok (.iload_n 3, 1) := by decide +kernel
theorem dX1_stackedIn_23 : decode cX1_stackedIn 23 = .ok (.irem, 1) := by decide +kernel
theorem dX1_stackedIn_24 : decode cX1_stackedIn 24 = .ok (.iadd, 1) := by decide +kernel
theorem dX1_stackedIn_25 : decode cX1_stackedIn 25 = .ok (.invokevirtual 25, 3) := by decide +kernel
theorem dX1_stackedIn_28 : decode cX1_stackedIn 28 = .ok (.istore 8, 2) := by decide +kernel
theorem dX1_stackedIn_30 : decode cX1_stackedIn 30 = .ok (.aload_n 0, 1) := by decide +kernel
theorem dX1_stackedIn_31 : decode cX1_stackedIn 31 = .ok (.getfield 14, 3) := by decide +kernel
theorem dX1_stackedIn_34 : decode cX1_stackedIn 34 = .ok (.iload 6, 2) := by decide +kernel
theorem dX1_stackedIn_36 : decode cX1_stackedIn 36 = .ok (.invokevirtual 25, 3) := by decide +kernel
theorem dX1_stackedIn_39 : decode cX1_stackedIn 39 = .ok (.iload 8, 2) := by decide +kernel
theorem dX1_stackedIn_41 : decode cX1_stackedIn 41 = .ok (.if_icmp .ne 7, 3) := by decide +kernel
theorem dX1_stackedIn_44 : decode cX1_stackedIn 44 = .ok (.iconst 1, 1) := by decide +kernel
theorem dX1_stackedIn_45 : decode cX1_stackedIn 45 = .ok (.goto 4, 3) := by decide +kernel
theorem dX1_stackedIn_48 : decode cX1_stackedIn 48 = .ok (.iconst 0, 1) := by decide +kernel
theorem dX1_stackedIn_49 : decode cX1_stackedIn 49 = .ok (.istore 9, 2) := by decide +kernel
theorem dX1_stackedIn_51 : decode cX1_stackedIn 51 = .ok (.iload 8, 2) := by decide +kernel
theorem dX1_stackedIn_53 : decode cX1_stackedIn 53 = .ok (.iconst 2, 1) := by decide +kernel
theorem dX1_stackedIn_54 : decode cX1_stackedIn 54 = .ok (.if_icmp .ne 23, 3) := by decide +kernel
theorem dX1_stackedIn_57 : decode cX1_stackedIn 57 = .ok (.aload_n 0, 1) := by decide +kernel
theorem dX1_stackedIn_58 : decode cX1_stackedIn 58 = .ok (.getfield 14, 3) := by decide +kernel
theorem dX1_stackedIn_61 : decode cX1_stackedIn 61 = .ok (.iload 6, 2) := by decide +kernel
theorem dX1_stackedIn_63 : decode cX1_stackedIn 63 = .ok (.iconst 1, 1) := by decide +kernel
theorem dX1_stackedIn_64 : decode cX1_stackedIn 64 = .ok (.iadd, 1) := by decide +kernel
theorem dX1_stackedIn_65 : decode cX1_stackedIn 65 = .ok (.invokevirtual 25, 3) := by decide +kernel
theorem dX1_stackedIn_68 : decode cX1_stackedIn 68 = .ok (.iload 8, 2) := by decide +kernel
theorem dX1_stackedIn_70 : decode cX1_stackedIn 70 = .ok (.if_icmp .ne 7, 3) := by decide +kernel
theorem dX1_stackedIn_73 : decode cX1_stackedIn 73 = .ok (.iconst 1, 1) := by decide +kernel
theorem dX1_stackedIn_74 : decode cX1_stackedIn 74 = .ok (.goto 4, 3) := by decide +kernel
theorem dX1_stackedIn_77 : decode cX1_stackedIn 77 = .ok (.iconst 0, 1) := by decide +kernel
theorem dX1_stackedIn_78 : decode cX1_stackedIn 78 = .ok (.istore 10, 2) := by decide +kernel
theorem dX1_stackedIn_80 : decode cX1_stackedIn 80 = .ok (.iload 8, 2) := by decide +kernel
theorem dX1_stackedIn_82 : decode cX1_stackedIn 82 = .ok (.ifCond .eq 16, 3) := by decide +kernel
theorem dX1_stackedIn_85 : decode cX1_stackedIn 85 = .ok (.iload 9, 2) := by decide +kernel
theorem dX1_stackedIn_87 : decode cX1_stackedIn 87 = .ok (.ifCond .ne 8, 3) := by decide +kernel
theorem dX1_stackedIn_90 : decode cX1_stackedIn 90 = .ok (.iload 10, 2) := by decide +kernel
theorem dX1_stackedIn_92 : decode cX1_stackedIn 92 = .ok (.ifCond .eq 6, 3) := by decide +kernel
theorem dX1_stackedIn_95 : decode cX1_stackedIn 95 = .ok (.iinc 5 1, 3) := by decide +kernel
theorem dX1_stackedIn_98 : decode cX1_stackedIn 98 = .ok (.iload 6, 2) := by decide +kernel
theorem dX1_stackedIn_100 : decode cX1_stackedIn 100 = .ok (.iload 8, 2) := by decide +kernel
theorem dX1_stackedIn_102 : decode cX1_stackedIn 102 = .ok (.invokestatic 37, 3) := by decide +kernel
theorem dX1_stackedIn_105 : decode cX1_stackedIn 105 = .ok (.iadd, 1) := by decide +kernel
theorem dX1_stackedIn_106 : decode cX1_stackedIn 106 = .ok (.istore 6, 2) := by decide +kernel
theorem dX1_stackedIn_108 : decode cX1_stackedIn 108 = .ok (.iinc 7 1, 3) := by decide +kernel
theorem dX1_stackedIn_111 : decode cX1_stackedIn 111 = .ok (.goto (-102), 3) := by decide +kernel
theorem dX1_stackedIn_114 : decode cX1_stackedIn 114 = .ok (.iload 5, 2) := by decide +kernel
theorem dX1_stackedIn_116 : decode cX1_stackedIn 116 = .ok (.ireturn, 1) := by decide +kernel
set_option maxRecDepth 20000 in
theorem ggX1_bestShift_X1_stackedIn : GoodIn wsX1_bestShift wsX1_stackedIn := goodIn_r _ [7, 8, 9, 10, 11, 12, 13, 14, 15, 16, 17, 22, 23] (by decide +kernel) (by decide +kernel)
set_option maxRecDepth 20000 in
theorem gX1_bestShift_X1_stackedIn : GoodIn wsX1_bestShift (wsV RX1 48 RX1 yX1_stackedIn wsX1_stackedIn) := goodIn_app (goodIn_of _ (by decide +kernel)) ggX1_bestShift_X1_stackedIn
theorem dX1_bestShift_0 : decode cX1_bestShift 0 = .ok (.iconst 0, 1) := by decide +kernel
theorem dX1_bestShift_1 : decode cX1_bestShift 1 = .ok (.istore_n 2, 1) := by decide +kernel
theorem dX1_bestShift_2 : decode cX1_bestShift 2 = .ok (.aload_n 0, 1) := by decide +kernel
theorem dX1_bestShift_3 : decode cX1_bestShift 3 = .ok (.aload_n 1, 1) := by decide +kernel
theorem dX1_bestShift_4 : decode cX1_bestShift 4 = .ok (.getfield 40, 3) := by decide +kernel
theorem dX1_bestShift_7 : decode cX1_bestShift 7 = .ok (.iconst 0, 1) := by decide +kernel
theorem dX1_bestShift_8 : decode cX1_bestShift 8 = .ok (.aload_n 1, 1) := by decide +kernel
theorem dX1_bestShift_9 : decode cX1_bestShift 9 = .ok (.getfield 45, 3) := by decide +kernel
theorem dX1_bestShift_12 : decode cX1_bestShift 12 = .ok (.iconst 0, 1) := by decide +kernel
theorem dX1_bestShift_13 : decode cX1_bestShift 13 = .ok (.invokevirtual 48, 3) := by decide +kernel
theorem dX1_bestShift_16 : decode cX1_bestShift 16 = .ok (.istore_n 3, 1) := by decide +kernel
theorem dX1_bestShift_17 : decode cX1_bestShift 17 = .ok (.iconst 1, 1) := by decide +kernel
theorem dX1_bestShift_18 : decode cX1_bestShift 18 = .ok (.istore 4, 2) := by decide +kernel
theorem dX1_bestShift_20 : decode cX1_bestShift 20 = .ok (.iload 4, 2) := by decide +kernel
theorem dX1_bestShift_22 : decode cX1_bestShift 22 = .ok (.aload_n 1, 1) := by decide +kernel
theorem dX1_bestShift_23 : decode cX1_bestShift 23 = .ok (.getfield 45, 3) := by decide +kernel
theorem dX1_bestShift_26 : decode cX1_bestShift 26 = .ok (.if_icmp .ge 42, 3) := by decide +kernel
theorem dX1_bestShift_29 : decode cX1_bestShift 29 = .ok (.iload_n 3, 1) := by decide +kernel
theorem dX1_bestShift_30 : decode cX1_bestShift 30 = .ok (.ifCond .le 38, 3) := by decide +kernel
theorem dX1_bestShift_33 : decode cX1_bestShift 33 = .ok (.aload_n 0, 1) := by decide +kernel
theorem dX1_bestShift_34 : decode cX1_bestShift 34 = .ok (.aload_n 1, 1) := by decide +kernel
theorem dX1_bestShift_35 : decode cX1_bestShift 35 = .ok (.getfield 40, 3) := by decide +kernel
theorem dX1_bestShift_38 : decode cX1_bestShift 38 = .ok (.iconst 0, 1) := by decide +kernel
theorem dX1_bestShift_39 : decode cX1_bestShift 39 = .ok (.aload_n 1, 1) := by decide +kernel
theorem dX1_bestShift_40 : decode cX1_bestShift 40 = .ok (.getfield 45, 3) := by decide +kernel
theorem dX1_bestShift_43 : decode cX1_bestShift 43 = .ok (.iload 4, 2) := by decide +kernel
theorem dX1_bestShift_45 : decode cX1_bestShift 45 = .ok (.invokevirtual 48, 3) := by decide +kernel
theorem dX1_bestShift_48 : decode cX1_bestShift 48 = .ok (.istore 5, 2) := by decide +kernel
theorem dX1_bestShift_50 : decode cX1_bestShift 50 = .ok (.iload 5, 2) := by decide +kernel
theorem dX1_bestShift_52 : decode cX1_bestShift 52 = .ok (.iload_n 3, 1) := by decide +kernel
theorem dX1_bestShift_53 : decode cX1_bestShift 53 = .ok (.if_icmp .ge 9, 3) := by decide +kernel
theorem dX1_bestShift_56 : decode cX1_bestShift 56 = .ok (.iload 5, 2) := by decide +kernel
theorem dX1_bestShift_58 : decode cX1_bestShift 58 = .ok (.istore_n 3, 1) := by decide +kernel
theorem dX1_bestShift_59 : decode cX1_bestShift 59 = .ok (.iload 4, 2) := by decide +kernel
theorem dX1_bestShift_61 : decode cX1_bestShift 61 = .ok (.istore_n 2, 1) := by decide +kernel
theorem dX1_bestShift_62 : decode cX1_bestShift 62 = .ok (.iinc 4 1, 3) := by decide +kernel
theorem dX1_bestShift_65 : decode cX1_bestShift 65 = .ok (.goto (-45), 3) := by decide +kernel
theorem dX1_bestShift_68 : decode cX1_bestShift 68 = .ok (.iload_n 2, 1) := by decide +kernel
theorem dX1_bestShift_69 : decode cX1_bestShift 69 = .ok (.ireturn, 1) := by decide +kernel
theorem dX2_init_0 : decode cX2_init 0 = .ok (.aload_n 0, 1) := by decide +kernel
theorem dX2_init_1 : decode cX2_init 1 = .ok (.invokespecial 1, 3) := by decide +kernel
theorem dX2_init_4 : decode cX2_init 4 = .ok (.aload_n 0, 1) := by decide +kernel
theorem dX2_init_5 : decode cX2_init 5 = .ok (.iload_n 1, 1) := by decide +kernel
theorem dX2_init_6 : decode cX2_init 6 = .ok (.ifCond .le 7, 3) := by decide +kernel
theorem dX2_init_9 : decode cX2_init 9 = .ok (.iload_n 1, 1) := by decide +kernel
theorem dX2_init_10 : decode cX2_init 10 = .ok (.goto 4, 3) := by decide +kernel
theorem dX2_init_13 : decode cX2_init 13 = .ok (.iconst 0, 1) := by decide +kernel
theorem dX2_init_14 : decode cX2_init 14 = .ok (.newarray .int, 2) := by decide +kernel
theorem dX2_init_16 : decode cX2_init 16 = .ok (.putfield 7, 3) := by decide +kernel
theorem dX2_init_19 : decode cX2_init 19 = .ok (.return_, 1) := by decide +kernel
theorem dX2_at_0 : decode cX2_at 0 = .ok (.iload_n 1, 1) := by decide +kernel
theorem dX2_at_1 : decode cX2_at 1 = .ok (.ifCond .lt 21, 3) := by decide +kernel
theorem dX2_at_4 : decode cX2_at 4 = .ok (.iload_n 1, 1) := by decide +kernel
theorem dX2_at_5 : decode cX2_at 5 = .ok (.aload_n 0, 1) := by decide +kernel
theorem dX2_at_6 : decode cX2_at 6 = .ok (.getfield 7, 3) := by decide +kernel
theorem dX2_at_9 : decode cX2_at 9 = .ok (.arraylength, 1) := by decide +kernel
theorem dX2_at_10 : decode cX2_at 10 = .ok (.if_icmp .ge 12, 3) := by decide +kernel
theorem dX2_at_13 : decode cX2_at 13 = .ok (.aload_n 0, 1) := by decide +kernel
theorem dX2_at_14 : decode cX2_at 14 = .ok (.getfield 7, 3) := by decide +kernel
theorem dX2_at_17 : decode cX2_at 17 = .ok (.iload_n 1, 1) := by decide +kernel
theorem dX2_at_18 : decode cX2_at 18 = .ok (.iaload, 1) := by decide +kernel
theorem dX2_at_19 : decode cX2_at 19 = .ok (.goto 4, 3) := by decide +kernel
theorem dX2_at_22 : decode cX2_at 22 = .ok (.iconst 0, 1) := by decide +kernel
theorem dX2_at_23 : decode cX2_at 23 = .ok (.ireturn, 1) := by decide +kernel
theorem dX2_put_0 : decode cX2_put 0 = .ok (.iload_n 1, 1) := by decide +kernel
theorem dX2_put_1 : decode cX2_put 1 = .ok (.ifCond .lt 19, 3) := by decide +kernel
theorem dX2_put_4 : decode cX2_put 4 = .ok (.iload_n 1, 1) := by decide +kernel
theorem dX2_put_5 : decode cX2_put 5 = .ok (.aload_n 0, 1) := by decide +kernel
theorem dX2_put_6 : decode cX2_put 6 = .ok (.getfield 7, 3) := by decide +kernel
theorem dX2_put_9 : decode cX2_put 9 = .ok (.arraylength, 1) := by decide +kernel
theorem dX2_put_10 : decode cX2_put 10 = .ok (.if_icmp .ge 10, 3) := by decide +kernel
theorem dX2_put_13 : decode cX2_put 13 = .ok (.aload_n 0, 1) := by decide +kernel
theorem dX2_put_14 : decode cX2_put 14 = .ok (.getfield 7, 3) := by decide +kernel
theorem dX2_put_17 : decode cX2_put 17 = .ok (.iload_n 1, 1) := by decide +kernel
theorem dX2_put_18 : decode cX2_put 18 = .ok (.iload_n 2, 1) := by decide +kernel
theorem dX2_put_19 : decode cX2_put 19 = .ok (.iastore, 1) := by decide +kernel
theorem dX2_put_20 : decode cX2_put 20 = .ok (.return_, 1) := by decide +kernel
set_option maxRecDepth 20000 in
theorem ggX2_take_X2_at : GoodIn wsX2_take wsX2_at := goodIn_r _ [5, 6, 11] (by decide +kernel) (by decide +kernel)
set_option maxRecDepth 20000 in
theorem gX2_take_X2_at : GoodIn wsX2_take (wsV RX2 13 RX2 yX2_at wsX2_at) := goodIn_app (goodIn_of _ (by decide +kernel)) ggX2_take_X2_at
set_option maxRecDepth 20000 in
theorem ggX2_take_X2_put : GoodIn wsX2_take wsX2_put := goodIn_r _ [10, 6, 11] (by decide +kernel) (by decide +kernel)
set_option maxRecDepth 20000 in
theorem gX2_take_X2_put : GoodIn wsX2_take (wsV RX2 17 RX2 yX2_put wsX2_put) := goodIn_app (goodIn_of _ (by decide +kernel)) ggX2_take_X2_put
theorem dX2_take_0 : decode cX2_take 0 = .ok (.iload_n 2, 1) := by decide +kernel
theorem dX2_take_1 : decode cX2_take 1 = .ok (.istore 4, 2) := by decide +kernel
theorem dX2_take_3 : decode cX2_take 3 = .ok (.iload 4, 2) := by decide +kernel
theorem dX2_take_5 : decode cX2_take 5 = .ok (.iload_n 2, 1) := by decide +kernel
theorem dX2_take_6 : decode cX2_take 6 = .ok (.iload_n 3, 1) := by decide +kernel
theorem dX2_take_7 : decode cX2_take 7 = .ok (.iadd, 1) := by decide +kernel
theorem dX2_take_8 : decode cX2_take 8 = .ok (.if_icmp .ge 21, 3) := by decide +kernel
theorem dX2_take_11 : decode cX2_take 11 = .ok (.aload_n 0, 1) := by decide +kernel
theorem dX2_take_12 : decode cX2_take 12 = .ok (.iload 4, 2) := by decide +kernel
theorem dX2_take_14 : decode cX2_take 14 = .ok (.aload_n 1, 1) := by decide +kernel
theorem dX2_take_15 : decode cX2_take 15 = .ok (.iload 4, 2) := by decide +kernel
theorem dX2_take_17 : decode cX2_take 17 = .ok (.invokevirtual 13, 3) := by decide +kernel
theorem dX2_take_20 : decode cX2_take 20 = .ok (.invokevirtual 17, 3) := by decide +kernel
theorem dX2_take_23 : decode cX2_take 23 = .ok (.iinc 4 1, 3) := by decide +kernel
theorem dX2_take_26 : decode cX2_take 26 = .ok (.goto (-23), 3) := by decide +kernel
theorem dX2_take_29 : decode cX2_take 29 = .ok (.return_, 1) := by decide +kernel
set_option maxRecDepth 20000 in
theorem ggX3_init_X2_init : GoodIn wsX3_init wsX2_init := goodIn_r _ [12, 13, 2, 3, 14, 15, 16] (by decide +kernel) (by decide +kernel)
set_option maxRecDepth 20000 in
theorem gX3_init_X2_init : GoodIn wsX3_init (wsX2_init) := ggX3_init_X2_init
theorem dX3_init_0 : decode cX3_init 0 = .ok (.aload_n 0, 1) := by decide +kernel
theorem dX3_init_1 : decode cX3_init 1 = .ok (.invokespecial 3, 3) := by decide +kernel
theorem dX3_init_4 : decode cX3_init 4 = .ok (.aload_n 0, 1) := by decide +kernel
theorem dX3_init_5 : decode cX3_init 5 = .ok (.new 9, 3) := by decide +kernel
theorem dX3_init_8 : decode cX3_init 8 = .ok (.dup, 1) := by decide +kernel
theorem dX3_init_9 : decode cX3_init 9 = .ok (.bipush 120, 2) := by decide +kernel
theorem dX3_init_11 : decode cX3_init 11 = .ok (.invokespecial 11, 3) := by decide +kernel
theorem dX3_init_14 : decode cX3_init 14 = .ok (.putfield 14, 3) := by decide +kernel
theorem dX3_init_17 : decode cX3_init 17 = .ok (.aload_n 0, 1) := by decide +kernel
theorem dX3_init_18 : decode cX3_init 18 = .ok (.new 9, 3) := by decide +kernel
theorem dX3_init_21 : decode cX3_init 21 = .ok (.dup, 1) := by decide +kernel
theorem dX3_init_22 : decode cX3_init 22 = .ok (.bipush 60, 2) := by decide +kernel
theorem dX3_init_24 : decode cX3_init 24 = .ok (.invokespecial 11, 3) := by decide +kernel
theorem dX3_init_27 : decode cX3_init 27 = .ok (.putfield 20, 3) := by decide +kernel
theorem dX3_init_30 : decode cX3_init 30 = .ok (.aload_n 0, 1) := by decide +kernel
theorem dX3_init_31 : decode cX3_init 31 = .ok (.new 9, 3) := by decide +kernel
theorem dX3_init_34 : decode cX3_init 34 = .ok (.dup, 1) := by decide +kernel
theorem dX3_init_35 : decode cX3_init 35 = .ok (.bipush 60, 2) := by decide +kernel
theorem dX3_init_37 : decode cX3_init 37 = .ok (.invokespecial 11, 3) := by decide +kernel
theorem dX3_init_40 : decode cX3_init 40 = .ok (.putfield 23, 3) := by decide +kernel
theorem dX3_init_43 : decode cX3_init 43 = .ok (.return_, 1) := by decide +kernel
set_option maxRecDepth 20000 in
theorem ggX4_init_X2_init : GoodIn wsX4_init wsX2_init := goodIn_r _ [13, 14, 2, 3, 15, 16, 17] (by decide +kernel) (by decide +kernel)
set_option maxRecDepth 20000 in
theorem gX4_init_X2_init : GoodIn wsX4_init (wsX2_init) := ggX4_init_X2_init
theorem dX4_init_0 : decode cX4_init 0 = .ok (.aload_n 0, 1) := by decide +kernel
theorem dX4_init_1 : decode cX4_init 1 = .ok (.invokespecial 3, 3) := by decide +kernel
theorem dX4_init_4 : decode cX4_init 4 = .ok (.aload_n 0, 1) := by decide +kernel
theorem dX4_init_5 : decode cX4_init 5 = .ok (.new 9, 3) := by decide +kernel
theorem dX4_init_8 : decode cX4_init 8 = .ok (.dup, 1) := by decide +kernel
theorem dX4_init_9 : decode cX4_init 9 = .ok (.sipush 4800, 3) := by decide +kernel
theorem dX4_init_12 : decode cX4_init 12 = .ok (.invokespecial 11, 3) := by decide +kernel
theorem dX4_init_15 : decode cX4_init 15 = .ok (.putfield 14, 3) := by decide +kernel
theorem dX4_init_18 : decode cX4_init 18 = .ok (.aload_n 0, 1) := by decide +kernel
theorem dX4_init_19 : decode cX4_init 19 = .ok (.new 9, 3) := by decide +kernel
theorem dX4_init_22 : decode cX4_init 22 = .ok (.dup, 1) := by decide +kernel
theorem dX4_init_23 : decode cX4_init 23 = .ok (.bipush 40, 2) := by decide +kernel
theorem dX4_init_25 : decode cX4_init 25 = .ok (.invokespecial 11, 3) := by decide +kernel
theorem dX4_init_28 : decode cX4_init 28 = .ok (.putfield 20, 3) := by decide +kernel
theorem dX4_init_31 : decode cX4_init 31 = .ok (.aload_n 0, 1) := by decide +kernel
theorem dX4_init_32 : decode cX4_init 32 = .ok (.new 9, 3) := by decide +kernel
theorem dX4_init_35 : decode cX4_init 35 = .ok (.dup, 1) := by decide +kernel
theorem dX4_init_36 : decode cX4_init 36 = .ok (.bipush 40, 2) := by decide +kernel
theorem dX4_init_38 : decode cX4_init 38 = .ok (.invokespecial 11, 3) := by decide +kernel
theorem dX4_init_41 : decode cX4_init 41 = .ok (.putfield 23, 3) := by decide +kernel
theorem dX4_init_44 : decode cX4_init 44 = .ok (.aload_n 0, 1) := by decide +kernel
theorem dX4_init_45 : decode cX4_init 45 = .ok (.new 9, 3) := by decide +kernel
theorem dX4_init_48 : decode cX4_init 48 = .ok (.dup, 1) := by decide +kernel
theorem dX4_init_49 : decode cX4_init 49 = .ok (.iconst 3, 1) := by decide +kernel
theorem dX4_init_50 : decode cX4_init 50 = .ok (.invokespecial 11, 3) := by decide +kernel
theorem dX4_init_53 : decode cX4_init 53 = .ok (.putfield 26, 3) := by decide +kernel
theorem dX4_init_56 : decode cX4_init 56 = .ok (.return_, 1) := by decide +kernel
set_option maxRecDepth 20000 in
theorem ggX4_takeOver_X2_take : GoodIn wsX4_takeOver wsX2_take := goodIn_r _ [11, 12, 13, 14, 10, 15, 16, 17, 18, 19, 20, 28] (by decide +kernel) (by decide +kernel)
set_option maxRecDepth 20000 in
theorem gX4_takeOver_X2_take : GoodIn wsX4_takeOver (wsV RX4 37 RX2 yX2_take wsX2_take) := goodIn_app (goodIn_of _ (by decide +kernel)) ggX4_takeOver_X2_take
set_option maxRecDepth 20000 in
theorem ggX4_takeOver_X2_at : GoodIn wsX4_takeOver wsX2_at := goodIn_r _ [15, 16, 28] (by decide +kernel) (by decide +kernel)
set_option maxRecDepth 20000 in
theorem gX4_takeOver_X2_at : GoodIn wsX4_takeOver (wsV RX4 41 RX2 yX2_at wsX2_at) := goodIn_app (goodIn_of _ (by decide +kernel)) ggX4_takeOver_X2_at
theorem dX4_takeOver_0 : decode cX4_takeOver 0 = .ok (.aload_n 0, 1) := by decide +kernel
theorem dX4_takeOver_1 : decode cX4_takeOver 1 = .ok (.aload_n 1, 1) := by decide +kernel
theorem dX4_takeOver_2 : decode cX4_takeOver 2 = .ok (.getfield 29, 3) := by decide +kernel
theorem dX4_takeOver_5 : decode cX4_takeOver 5 = .ok (.putfield 29, 3) := by decide +kernel
theorem dX4_takeOver_8 : decode cX4_takeOver 8 = .ok (.aload_n 0, 1) := by decide +kernel
theorem dX4_takeOver_9 : decode cX4_takeOver 9 = .ok (.aload_n 1, 1) := by decide +kernel
theorem dX4_takeOver_10 : decode cX4_takeOver 10 = .ok (.getfield 33, 3) := by decide +kernel
theorem dX4_takeOver_13 : decode cX4_takeOver 13 = .ok (.putfield 33, 3) := by decide +kernel
theorem dX4_takeOver_16 : decode cX4_takeOver 16 = .ok (.aload_n 0, 1) := by decide +kernel
theorem dX4_takeOver_17 : decode cX4_takeOver 17 = .ok (.getfield 20, 3) := by decide +kernel
theorem dX4_takeOver_20 : decode cX4_takeOver 20 = .ok (.aload_n 1, 1) := by decide +kernel
theorem dX4_takeOver_21 : decode cX4_takeOver 21 = .ok (.getfield 20, 3) := by decide +kernel
theorem dX4_takeOver_24 : decode cX4_takeOver 24 = .ok (.iconst 0, 1) := by decide +kernel
theorem dX4_takeOver_25 : decode cX4_takeOver 25 = .ok (.aload_n 0, 1) := by decide +kernel
theorem dX4_takeOver_26 : decode cX4_takeOver 26 = .ok (.getfield 29, 3) := by decide +kernel
theorem dX4_takeOver_29 : decode cX4_takeOver 29 = .ok (.invokevirtual 37, 3) := by decide +kernel
theorem dX4_takeOver_32 : decode cX4_takeOver 32 = .ok (.aload_n 0, 1) := by decide +kernel
theorem dX4_takeOver_33 : decode cX4_takeOver 33 = .ok (.getfield 23, 3) := by decide +kernel
theorem dX4_takeOver_36 : decode cX4_takeOver 36 = .ok (.aload_n 1, 1) := by decide +kernel
theorem dX4_takeOver_37 : decode cX4_takeOver 37 = .ok (.getfield 23, 3) := by decide +kernel
theorem dX4_takeOver_40 : decode cX4_takeOver 40 = .ok (.iconst 0, 1) := by decide +kernel
theorem dX4_takeOver_41 : decode cX4_takeOver 41 = .ok (.aload_n 0, 1) := by decide +kernel
theorem dX4_takeOver_42 : decode cX4_takeOver 42 = .ok (.getfield 29, 3) := by decide +kernel
theorem dX4_takeOver_45 : decode cX4_takeOver 45 = .ok (.invokevirtual 37, 3) := by decide +kernel
theorem dX4_takeOver_48 : decode cX4_takeOver 48 = .ok (.aload_n 0, 1) := by decide +kernel
theorem dX4_takeOver_49 : decode cX4_takeOver 49 = .ok (.getfield 26, 3) := by decide +kernel
theorem dX4_takeOver_52 : decode cX4_takeOver 52 = .ok (.aload_n 1, 1) := by decide +kernel
theorem dX4_takeOver_53 : decode cX4_takeOver 53 = .ok (.getfield 26, 3) := by decide +kernel
theorem dX4_takeOver_56 : decode cX4_takeOver 56 = .ok (.iconst 0, 1) := by decide +kernel
theorem dX4_takeOver_57 : decode cX4_takeOver 57 = .ok (.iconst 3, 1) := by decide +kernel
theorem dX4_takeOver_58 : decode cX4_takeOver 58 = .ok (.invokevirtual 37, 3) := by decide +kernel
theorem dX4_takeOver_61 : decode cX4_takeOver 61 = .ok (.iconst 0, 1) := by decide +kernel
theorem dX4_takeOver_62 : decode cX4_takeOver 62 = .ok (.istore_n 2, 1) := by decide +kernel
theorem dX4_takeOver_63 : decode cX4_takeOver 63 = .ok (.iload_n 2, 1) := by decide +kernel
theorem dX4_takeOver_64 : decode cX4_takeOver 64 = .ok (.aload_n 0, 1) := by decide +kernel
theorem dX4_takeOver_65 : decode cX4_takeOver 65 = .ok (.getfield 29, 3) := by decide +kernel
theorem dX4_takeOver_68 : decode cX4_takeOver 68 = .ok (.if_icmp .ge 32, 3) := by decide +kernel
theorem dX4_takeOver_71 : decode cX4_takeOver 71 = .ok (.aload_n 0, 1) := by decide +kernel
theorem dX4_takeOver_72 : decode cX4_takeOver 72 = .ok (.getfield 14, 3) := by decide +kernel
theorem dX4_takeOver_75 : decode cX4_takeOver 75 = .ok (.aload_n 1, 1) := by decide +kernel
theorem dX4_takeOver_76 : decode cX4_takeOver 76 = .ok (.getfield 14, 3) := by decide +kernel
theorem dX4_takeOver_79 : decode cX4_takeOver 79 = .ok (.iload_n 2, 1) := by decide +kernel
theorem dX4_takeOver_80 : decode cX4_takeOver 80 = .ok (.bipush 120, 2) := by decide +kernel
theorem dX4_takeOver_82 : decode cX4_takeOver 82 = .ok (.imul, 1) := by decide +kernel
theorem dX4_takeOver_83 : decode cX4_takeOver 83 = .ok (.aload_n 0, 1) := by decide +kernel
theorem dX4_takeOver_84 : decode cX4_takeOver 84 = .ok (.getfield 20, 3) := by decide +kernel
theorem dX4_takeOver_87 : decode cX4_takeOver 87 = .ok (.iload_n 2, 1) := by decide +kernel
theorem dX4_takeOver_88 : decode cX4_takeOver 88 = .ok (.invokevirtual 41, 3) := by decide +kernel
theorem dX4_takeOver_91 : decode cX4_takeOver 91 = .ok (.invokevirtual 37, 3) := by decide +kernel
theorem dX4_takeOver_94 : decode cX4_takeOver 94 = .ok (.iinc 2 1, 3) := by decide +kernel
theorem dX4_takeOver_97 : decode cX4_takeOver 97 = .ok (.goto (-34), 3) := by decide +kernel
theorem dX4_takeOver_100 : decode cX4_takeOver 100 = .ok (.return_, 1) := by decide +kernel
set_option maxRecDepth 20000 in
theorem ggX4_startRing_X4_openRound : GoodIn wsX4_startRing wsX4_openRound := goodIn_r _ [6, 7, 1, 8, 9, 10, 11, 12, 13, 14, 31, 32, 33, 34, 35, 36, 37] (by decide +kernel) (by decide +kernel)
set_option maxRecDepth 20000 in
theorem gX4_startRing_X4_openRound : GoodIn wsX4_startRing (wsV RX4 45 RX4 yX4_openRound wsX4_openRound) := goodIn_app (goodIn_of _ (by decide +kernel)) ggX4_startRing_X4_openRound
set_option maxRecDepth 20000 in
theorem ggX4_startRing_X4_addWork : GoodIn wsX4_startRing wsX4_addWork := goodIn_r _ [18, 7, 1, 19, 8, 20, 21, 22, 12, 23, 14, 9, 10, 11, 13, 24, 25, 26, 31, 32, 33, 34, 35, 36, 37] (by decide +kernel) (by decide +kernel)
set_option maxRecDepth 20000 in
theorem gX4_startRing_X4_addWork : GoodIn wsX4_startRing (wsV RX4 48 RX4 yX4_addWork wsX4_addWork) := goodIn_app (goodIn_of _ (by decide +kernel)) ggX4_startRing_X4_addWork
set_option maxRecDepth 20000 in
theorem ggX4_startRing_X4_closeRound : GoodIn wsX4_startRing wsX4_closeRound := goodIn_r _ [30, 1, 31, 32, 33, 34, 35, 36] (by decide +kernel) (by decide +kernel)
set_option maxRecDepth 20000 in
theorem gX4_startRing_X4_closeRound : GoodIn wsX4_startRing (wsV RX4 51 RX4 yX4_closeRound wsX4_closeRound) := goodIn_app (goodIn_of _ (by decide +kernel)) ggX4_startRing_X4_closeRound
theorem dX4_startRing_0 : decode cX4_startRing 0 = .ok (.aload_n 0, 1) := by decide +kernel
theorem dX4_startRing_1 : decode cX4_startRing 1 = .ok (.iconst 0, 1) := by decide +kernel
theorem dX4_startRing_2 : decode cX4_startRing 2 = .ok (.putfield 29, 3) := by decide +kernel
theorem dX4_startRing_5 : decode cX4_startRing 5 = .ok (.aload_n 0, 1) := by decide +kernel
theorem dX4_startRing_6 : decode cX4_startRing 6 = .ok (.invokevirtual 45, 3) := by decide +kernel
theorem dX4_startRing_9 : decode cX4_startRing 9 = .ok (.iconst 0, 1) := by decide +kernel
theorem dX4_startRing_10 : decode cX4_startRing 10 = .ok (.istore_n 2, 1) := by decide +kernel
theorem dX4_startRing_11 : decode cX4_startRing 11 = .ok (.iload_n 2, 1) := by decide +kernel
theorem dX4_startRing_12 : decode cX4_startRing 12 = .ok (.iload_n 1, 1) := by decide +kernel
theorem dX4_startRing_13 : decode cX4_startRing 13 = .ok (.if_icmp .ge 14, 3) := by decide +kernel
theorem dX4_startRing_16 : decode cX4_startRing 16 = .ok (.aload_n 0, 1) := by decide +kernel
theorem dX4_startRing_17 : decode cX4_startRing 17 = .ok (.iconst 0, 1) := by decide +kernel
theorem dX4_startRing_18 : decode cX4_startRing 18 = .ok (.invokevirtual 48, 3) := by decide +kernel
theorem dX4_startRing_21 : decode cX4_startRing 21 = .ok (.iinc 2 1, 3) := by decide +kernel
theorem dX4_startRing_24 : decode cX4_startRing 24 = .ok (.goto (-13), 3) := by decide +kernel
theorem dX4_startRing_27 : decode cX4_startRing 27 = .ok (.aload_n 0, 1) := by decide +kernel
theorem dX4_startRing_28 : decode cX4_startRing 28 = .ok (.invokevirtual 51, 3) := by decide +kernel
theorem dX4_startRing_31 : decode cX4_startRing 31 = .ok (.return_, 1) := by decide +kernel
set_option maxRecDepth 20000 in
theorem ggX4_openRound_X2_put : GoodIn wsX4_openRound wsX2_put := goodIn_r _ [8, 9, 16] (by decide +kernel) (by decide +kernel)
set_option maxRecDepth 20000 in
theorem gX4_openRound_X2_put : GoodIn wsX4_openRound (wsV RX4 54 RX2 yX2_put wsX2_put) := goodIn_app (goodIn_of _ (by decide +kernel)) ggX4_openRound_X2_put
theorem dX4_openRound_0 : decode cX4_openRound 0 = .ok (.aload_n 0, 1) := by decide +kernel
theorem dX4_openRound_1 : decode cX4_openRound 1 = .ok (.getfield 20, 3) := by decide +kernel
theorem dX4_openRound_4 : decode cX4_openRound 4 = .ok (.aload_n 0, 1) := by decide +kernel
theorem dX4_openRound_5 : decode cX4_openRound 5 = .ok (.getfield 29, 3) := by decide +kernel
theorem dX4_openRound_8 : decode cX4_openRound 8 = .ok (.iconst 0, 1) := by decide +kernel
theorem dX4_openRound_9 : decode cX4_openRound 9 = .ok (.invokevirtual 54, 3) := by decide +kernel
theorem dX4_openRound_12 : decode cX4_openRound 12 = .ok (.aload_n 0, 1) := by decide +kernel
theorem dX4_openRound_13 : decode cX4_openRound 13 = .ok (.getfield 23, 3) := by decide +kernel
theorem dX4_openRound_16 : decode cX4_openRound 16 = .ok (.aload_n 0, 1) := by decide +kernel
theorem dX4_openRound_17 : decode cX4_openRound 17 = .ok (.getfield 29, 3) := by decide +kernel
theorem dX4_openRound_20 : decode cX4_openRound 20 = .ok (.iconst 0, 1) := by decide +kernel
theorem dX4_openRound_21 : decode cX4_openRound 21 = .ok (.invokevirtual 54, 3) := by decide +kernel
theorem dX4_openRound_24 : decode cX4_openRound 24 = .ok (.return_, 1) := by decide +kernel
set_option maxRecDepth 20000 in
theorem ggX4_addWork_X2_at : GoodIn wsX4_addWork wsX2_at := goodIn_r _ [9, 10, 24] (by decide +kernel) (by decide +kernel)
set_option maxRecDepth 20000 in
theorem gX4_addWork_X2_at : GoodIn wsX4_addWork (wsV RX4 41 RX2 yX2_at wsX2_at) := goodIn_app (goodIn_of _ (by decide +kernel)) ggX4_addWork_X2_at
set_option maxRecDepth 20000 in
theorem ggX4_addWork_X2_put : GoodIn wsX4_addWork wsX2_put := goodIn_r _ [14, 10, 24] (by decide +kernel) (by decide +kernel)
set_option maxRecDepth 20000 in
theorem gX4_addWork_X2_put : GoodIn wsX4_addWork (wsV RX4 54 RX2 yX2_put wsX2_put) := goodIn_app (goodIn_of _ (by decide +kernel)) ggX4_addWork_X2_put
set_option maxRecDepth 20000 in
theorem ggX4_addWork_X6_madeBy : GoodIn wsX4_addWork wsX6_madeBy := goodIn_r _ [17] (by decide +kernel) (by decide +kernel)
set_option maxRecDepth 20000 in
theorem gX4_addWork_X6_madeBy_n58 : GoodIn wsX4_addWork (wsX6_madeBy) := ggX4_addWork_X6_madeBy
theorem dX4_addWork_0 : decode cX4_addWork 0 = .ok (.aload_n 0, 1) := by decide +kernel
theorem dX4_addWork_1 : decode cX4_addWork 1 = .ok (.getfield 20, 3) := by decide +kernel
theorem dX4_addWork_4 : decode cX4_addWork 4 = .ok (.aload_n 0, 1) := by decide +kernel
theorem dX4_addWork_5 : decode cX4_addWork 5 = .ok (.getfield 29, 3) := by decide +kernel
theorem dX4_addWork_8 : decode cX4_addWork 8 = .ok (.invokevirtual 41, 3) := by decide +kernel
theorem dX4_addWork_11 : decode cX4_addWork 11 = .ok (.istore_n 2, 1) := by decide +kernel
theorem dX4_addWork_12 : decode cX4_addWork 12 = .ok (.iload_n 2, 1) := by decide +kernel
theorem dX4_addWork_13 : decode cX4_addWork 13 = .ok (.bipush 120, 2) := by decide +kernel
theorem dX4_addWork_15 : decode cX4_addWork 15 = .ok (.if_icmp .ge 61, 3) := by decide +kernel
theorem dX4_addWork_18 : decode cX4_addWork 18 = .ok (.aload_n 0, 1) := by decide +kernel
theorem dX4_addWork_19 : decode cX4_addWork 19 = .ok (.getfield 14, 3) := by decide +kernel
theorem dX4_addWork_22 : decode cX4_addWork 22 = .ok (.aload_n 0, 1) := by decide +kernel
theorem dX4_addWork_23 : decode cX4_addWork 23 = .ok (.getfield 29, 3) := by decide +kernel
theorem dX4_addWork_26 : decode cX4_addWork 26 = .ok (.bipush 120, 2) := by decide +kernel
theorem dX4_addWork_28 : decode cX4_addWork 28 = .ok (.imul, 1) := by decide +kernel
theorem dX4_addWork_29 : decode cX4_addWork 29 = .ok (.iload_n 2, 1) := by decide +kernel
theorem dX4_addWork_30 : decode cX4_addWork 30 = .ok (.iadd, 1) := by decide +kernel
theorem dX4_addWork_31 : decode cX4_addWork 31 = .ok (.iload_n 1, 1) := by decide +kernel
theorem dX4_addWork_32 : decode cX4_addWork 32 = .ok (.invokevirtual 54, 3) := by decide +kernel
theorem dX4_addWork_35 : decode cX4_addWork 35 = .ok (.aload_n 0, 1) := by decide +kernel
theorem dX4_addWork_36 : decode cX4_addWork 36 = .ok (.getfield 20, 3) := by decide +kernel
theorem dX4_addWork_39 : decode cX4_addWork 39 = .ok (.aload_n 0, 1) := by decide +kernel
theorem dX4_addWork_40 : decode cX4_addWork 40 = .ok (.getfield 29, 3) := by decide +kernel
theorem dX4_addWork_43 : decode cX4_addWork 43 = .ok (.iload_n 2, 1) := by decide +kernel
theorem dX4_addWork_44 : decode cX4_addWork 44 = .ok (.iconst 1, 1) := by decide +kernel
theorem dX4_addWork_45 : decode cX4_addWork 45 = .ok (.iadd, 1) := by decide +kernel
theorem dX4_addWork_46 : decode cX4_addWork 46 = .ok (.invokevirtual 54, 3) := by decide +kernel
theorem dX4_addWork_49 : decode cX4_addWork 49 = .ok (.aload_n 0, 1) := by decide +kernel
theorem dX4_addWork_50 : decode cX4_addWork 50 = .ok (.getfield 23, 3) := by decide +kernel
theorem dX4_addWork_53 : decode cX4_addWork 53 = .ok (.aload_n 0, 1) := by decide +kernel
theorem dX4_addWork_54 : decode cX4_addWork 54 = .ok (.getfield 29, 3) := by decide +kernel
theorem dX4_addWork_57 : decode cX4_addWork 57 = .ok (.aload_n 0, 1) := by decide +kernel
theorem dX4_addWork_58 : decode cX4_addWork 58 = .ok (.getfield 23, 3) := by decide +kernel
theorem dX4_addWork_61 : decode cX4_addWork 61 = .ok (.aload_n 0, 1) := by decide +kernel
theorem dX4_addWork_62 : decode cX4_addWork 62 = .ok (.getfield 29, 3) := by decide +kernel
theorem dX4_addWork_65 : decode cX4_addWork 65 = .ok (.invokevirtual 41, 3) := by decide +kernel
theorem dX4_addWork_68 : decode cX4_addWork 68 = .ok (.iload_n 1, 1) := by decide +kernel
theorem dX4_addWork_69 : decode cX4_addWork 69 = .ok (.invokestatic 58, 3) := by decide +kernel
theorem dX4_addWork_72 : decode cX4_addWork 72 = .ok (.iadd, 1) := by decide +kernel
theorem dX4_addWork_73 : decode cX4_addWork 73 = .ok (.invokevirtual 54, 3) := by decide +kernel
theorem dX4_addWork_76 : decode cX4_addWork 76 = .ok (.return_, 1) := by decide +kernel
theorem dX4_closeRound_0 : decode cX4_closeRound 0 = .ok (.aload_n 0, 1) := by decide +kernel
theorem dX4_closeRound_1 : decode cX4_closeRound 1 = .ok (.dup, 1) := by decide +kernel
theorem dX4_closeRound_2 : decode cX4_closeRound 2 = .ok (.getfield 29, 3) := by decide +kernel
theorem dX4_closeRound_5 : decode cX4_closeRound 5 = .ok (.iconst 1, 1) := by decide +kernel
theorem dX4_closeRound_6 : decode cX4_closeRound 6 = .ok (.iadd, 1) := by decide +kernel
theorem dX4_closeRound_7 : decode cX4_closeRound 7 = .ok (.putfield 29, 3) := by decide +kernel
theorem dX4_closeRound_10 : decode cX4_closeRound 10 = .ok (.return_, 1) := by decide +kernel
set_option maxRecDepth 20000 in
theorem ggX4_lastTotal_X2_at : GoodIn wsX4_lastTotal wsX2_at := goodIn_r _ [7, 8, 15] (by decide +kernel) (by decide +kernel)
set_option maxRecDepth 20000 in
theorem gX4_lastTotal_X2_at : GoodIn wsX4_lastTotal (wsV RX4 41 RX2 yX2_at wsX2_at) := goodIn_app (goodIn_of _ (by decide +kernel)) ggX4_lastTotal_X2_at
theorem dX4_lastTotal_0 : decode cX4_lastTotal 0 = .ok (.aload_n 0, 1) := by decide +kernel
theorem dX4_lastTotal_1 : decode cX4_lastTotal 1 = .ok (.getfield 23, 3) := by decide +kernel
theorem dX4_lastTotal_4 : decode cX4_lastTotal 4 = .ok (.aload_n 0, 1) := by decide +kernel
theorem dX4_lastTotal_5 : decode cX4_lastTotal 5 = .ok (.getfield 29, 3) := by decide +kernel
theorem dX4_lastTotal_8 : decode cX4_lastTotal 8 = .ok (.iconst 1, 1) := by decide +kernel
theorem dX4_lastTotal_9 : decode cX4_lastTotal 9 = .ok (.isub, 1) := by decide +kernel
theorem dX4_lastTotal_10 : decode cX4_lastTotal 10 = .ok (.invokevirtual 41, 3) := by decide +kernel
theorem dX4_lastTotal_13 : decode cX4_lastTotal 13 = .ok (.ireturn, 1) := by decide +kernel
set_option maxRecDepth 20000 in
theorem ggX4_kindOf_X2_at : GoodIn wsX4_kindOf wsX2_at := goodIn_r _ [6, 7, 14] (by decide +kernel) (by decide +kernel)
set_option maxRecDepth 20000 in
theorem gX4_kindOf_X2_at : GoodIn wsX4_kindOf (wsV RX4 41 RX2 yX2_at wsX2_at) := goodIn_app (goodIn_of _ (by decide +kernel)) ggX4_kindOf_X2_at
theorem dX4_kindOf_0 : decode cX4_kindOf 0 = .ok (.aload_n 0, 1) := by decide +kernel
theorem dX4_kindOf_1 : decode cX4_kindOf 1 = .ok (.getfield 14, 3) := by decide +kernel
theorem dX4_kindOf_4 : decode cX4_kindOf 4 = .ok (.iload_n 1, 1) := by decide +kernel
theorem dX4_kindOf_5 : decode cX4_kindOf 5 = .ok (.bipush 120, 2) := by decide +kernel
theorem dX4_kindOf_7 : decode cX4_kindOf 7 = .ok (.imul, 1) := by decide +kernel
theorem dX4_kindOf_8 : decode cX4_kindOf 8 = .ok (.iload_n 2, 1) := by decide +kernel
theorem dX4_kindOf_9 : decode cX4_kindOf 9 = .ok (.iadd, 1) := by decide +kernel
theorem dX4_kindOf_10 : decode cX4_kindOf 10 = .ok (.invokevirtual 41, 3) := by decide +kernel
theorem dX4_kindOf_13 : decode cX4_kindOf 13 = .ok (.ireturn, 1) := by decide +kernel
set_option maxRecDepth 20000 in
theorem ggX4_countOf_X2_at : GoodIn wsX4_countOf wsX2_at := goodIn_r _ [6, 7, 20] (by decide +kernel) (by decide +kernel)
set_option maxRecDepth 20000 in
theorem gX4_countOf_X2_at : GoodIn wsX4_countOf (wsV RX4 41 RX2 yX2_at wsX2_at) := goodIn_app (goodIn_of _ (by decide +kernel)) ggX4_countOf_X2_at
set_option maxRecDepth 20000 in
theorem ggX4_countOf_X4_kindOf : GoodIn wsX4_countOf wsX4_kindOf := goodIn_r _ [12, 13, 2, 3, 4, 5, 6, 7, 14, 15, 16, 17, 18, 19, 20] (by decide +kernel) (by decide +kernel)
set_option maxRecDepth 20000 in
theorem gX4_countOf_X4_kindOf : GoodIn wsX4_countOf (wsV RX4 61 RX4 yX4_kindOf wsX4_kindOf) := goodIn_app (goodIn_of _ (by decide +kernel)) ggX4_countOf_X4_kindOf
theorem dX4_countOf_0 : decode cX4_countOf 0 = .ok (.aload_n 0, 1) := by decide +kernel
theorem dX4_countOf_1 : decode cX4_countOf 1 = .ok (.getfield 20, 3) := by decide +kernel
theorem dX4_countOf_4 : decode cX4_countOf 4 = .ok (.iload_n 1, 1) := by decide +kernel
theorem dX4_countOf_5 : decode cX4_countOf 5 = .ok (.invokevirtual 41, 3) := by decide +kernel
theorem dX4_countOf_8 : decode cX4_countOf 8 = .ok (.istore_n 3, 1) := by decide +kernel
theorem dX4_countOf_9 : decode cX4_countOf 9 = .ok (.iconst 0, 1) := by decide +kernel
theorem dX4_countOf_10 : decode cX4_countOf 10 = .ok (.istore 4, 2) := by decide +kernel
theorem dX4_countOf_12 : decode cX4_countOf 12 = .ok (.iconst 0, 1) := by decide +kernel
theorem dX4_countOf_13 : decode cX4_countOf 13 = .ok (.istore 5, 2) := by decide +kernel
theorem dX4_countOf_15 : decode cX4_countOf 15 = .ok (.iload 5, 2) := by decide +kernel
theorem dX4_countOf_17 : decode cX4_countOf 17 = .ok (.iload_n 3, 1) := by decide +kernel
theorem dX4_countOf_18 : decode cX4_countOf 18 = .ok (.if_icmp .ge 23, 3) := by decide +kernel
theorem dX4_countOf_21 : decode cX4_countOf 21 = .ok (.aload_n 0, 1) := by decide +kernel
theorem dX4_countOf_22 : decode cX4_countOf 22 = .ok (.iload_n 1, 1) := by decide +kernel
theorem dX4_countOf_23 : decode cX4_countOf 23 = .ok (.iload 5, 2) := by decide +kernel
theorem dX4_countOf_25 : decode cX4_countOf 25 = .ok (.invokevirtual 61, 3) := by decide +kernel
theorem dX4_countOf_28 : decode cX4_countOf 28 = .ok (.iload_n 2, 1) := by decide +kernel
theorem dX4_countOf_29 : decode cX4_countOf 29 = .ok (.if_icmp .ne 6, 3) := by decide +kernel
theorem dX4_countOf_32 : decode cX4_countOf 32 = .ok (.iinc 4 1, 3) := by decide +kernel
theorem dX4_countOf_35 : decode cX4_countOf 35 = .ok (.iinc 5 1, 3) := by decide +kernel
theorem dX4_countOf_38 : decode cX4_countOf 38 = .ok (.goto (-23), 3) := by decide +kernel
theorem dX4_countOf_41 : decode cX4_countOf 41 = .ok (.iload 4, 2) := by decide +kernel
theorem dX4_countOf_43 : decode cX4_countOf 43 = .ok (.ireturn, 1) := by decide +kernel
set_option maxRecDepth 20000 in
theorem ggX4_yarnOf_X2_at : GoodIn wsX4_yarnOf wsX2_at := goodIn_r _ [7, 8, 21] (by decide +kernel) (by decide +kernel)
set_option maxRecDepth 20000 in
theorem gX4_yarnOf_X2_at : GoodIn wsX4_yarnOf (wsV RX4 41 RX2 yX2_at wsX2_at) := goodIn_app (goodIn_of _ (by decide +kernel)) ggX4_yarnOf_X2_at
set_option maxRecDepth 20000 in
theorem ggX4_yarnOf_X4_kindOf : GoodIn wsX4_yarnOf wsX4_kindOf := goodIn_r _ [13, 14, 3, 4, 5, 6, 7, 8, 15, 16, 17, 18, 19, 20, 21] (by decide +kernel) (by decide +kernel)
set_option maxRecDepth 20000 in
theorem gX4_yarnOf_X4_kindOf : GoodIn wsX4_yarnOf (wsV RX4 61 RX4 yX4_kindOf wsX4_kindOf) := goodIn_app (goodIn_of _ (by decide +kernel)) ggX4_yarnOf_X4_kindOf
theorem dX4_yarnOf_0 : decode cX4_yarnOf 0 = .ok (.aload_n 0, 1) := by decide +kernel
theorem dX4_yarnOf_1 : decode cX4_yarnOf 1 = .ok (.getfield 20, 3) := by decide +kernel
theorem dX4_yarnOf_4 : decode cX4_yarnOf 4 = .ok (.iload_n 1, 1) := by decide +kernel
theorem dX4_yarnOf_5 : decode cX4_yarnOf 5 = .ok (.invokevirtual 41, 3) := by decide +kernel
theorem dX4_yarnOf_8 : decode cX4_yarnOf 8 = .ok (.istore_n 2, 1) := by decide +kernel
theorem dX4_yarnOf_9 : decode cX4_yarnOf 9 = .ok (.iconst 0, 1) := by decide +kernel
theorem dX4_yarnOf_10 : decode cX4_yarnOf 10 = .ok (.istore_n 3, 1) := by decide +kernel
theorem dX4_yarnOf_11 : decode cX4_yarnOf 11 = .ok (.iconst 0, 1) := by decide +kernel
theorem dX4_yarnOf_12 : decode cX4_yarnOf 12 = .ok (.istore 4, 2) := by decide +kernel
theorem dX4_yarnOf_14 : decode cX4_yarnOf 14 = .ok (.iload 4, 2) := by decide +kernel
theorem dX4_yarnOf_16 : decode cX4_yarnOf 16 = .ok (.iload_n 2, 1) := by decide +kernel
theorem dX4_yarnOf_17 : decode cX4_yarnOf 17 = .ok (.if_icmp .ge 26, 3) := by decide +kernel
theorem dX4_yarnOf_20 : decode cX4_yarnOf 20 = .ok (.iload_n 3, 1) := by decide +kernel
theorem dX4_yarnOf_21 : decode cX4_yarnOf 21 = .ok (.aload_n 0, 1) := by decide +kernel
theorem dX4_yarnOf_22 : decode cX4_yarnOf 22 = .ok (.getfield 26, 3) := by decide +kernel
theorem dX4_yarnOf_25 : decode cX4_yarnOf 25 = .ok (.aload_n 0, 1) := by decide +kernel
theorem dX4_yarnOf_26 : decode cX4_yarnOf 26 = .ok (.iload_n 1, 1) := by decide +kernel
theorem dX4_yarnOf_27 : decode cX4_yarnOf 27 = .ok (.iload 4, 2) := by decide +kernel
theorem dX4_yarnOf_29 : decode cX4_yarnOf 29 = .ok (.invokevirtual 61, 3) := by decide +kernel
theorem dX4_yarnOf_32 : decode cX4_yarnOf 32 = .ok (.invokevirtual 41, 3) := by decide +kernel
theorem dX4_yarnOf_35 : decode cX4_yarnOf 35 = .ok (.iadd, 1) := by decide +kernel
theorem dX4_yarnOf_36 : decode cX4_yarnOf 36 = .ok (.istore_n 3, 1) := by decide +kernel
theorem dX4_yarnOf_37 : decode cX4_yarnOf 37 = .ok (.iinc 4 1, 3) := by decide +kernel
theorem dX4_yarnOf_40 : decode cX4_yarnOf 40 = .ok (.goto (-26), 3) := by decide +kernel
theorem dX4_yarnOf_43 : decode cX4_yarnOf 43 = .ok (.iload_n 3, 1) := by decide +kernel
theorem dX4_yarnOf_44 : decode cX4_yarnOf 44 = .ok (.ireturn, 1) := by decide +kernel
set_option maxRecDepth 20000 in
theorem ggX4_isMirrored_X2_at : GoodIn wsX4_isMirrored wsX2_at := goodIn_r _ [6, 7, 20] (by decide +kernel) (by decide +kernel)
set_option maxRecDepth 20000 in
theorem gX4_isMirrored_X2_at : GoodIn wsX4_isMirrored (wsV RX4 41 RX2 yX2_at wsX2_at) := goodIn_app (goodIn_of _ (by decide +kernel)) ggX4_isMirrored_X2_at
set_option maxRecDepth 20000 in
theorem ggX4_isMirrored_X4_kindOf : GoodIn wsX4_isMirrored wsX4_kindOf := goodIn_r _ [12, 13, 2, 3, 4, 5, 6, 7, 14, 15, 16, 17, 18, 19, 20] (by decide +kernel) (by decide +kernel)
set_option maxRecDepth 20000 in
theorem gX4_isMirrored_X4_kindOf : GoodIn wsX4_isMirrored (wsV RX4 61 RX4 yX4_kindOf wsX4_kindOf) := goodIn_app (goodIn_of _ (by decide +kernel)) ggX4_isMirrored_X4_kindOf
theorem dX4_isMirrored_0 : decode cX4_isMirrored 0 = .ok (.aload_n 0, 1) := by decide +kernel
theorem dX4_isMirrored_1 : decode cX4_isMirrored 1 = .ok (.getfield 20, 3) := by decide +kernel
theorem dX4_isMirrored_4 : decode cX4_isMirrored 4 = .ok (.iload_n 1, 1) := by decide +kernel
theorem dX4_isMirrored_5 : decode cX4_isMirrored 5 = .ok (.invokevirtual 41, 3) := by decide +kernel
theorem dX4_isMirrored_8 : decode cX4_isMirrored 8 = .ok (.istore_n 2, 1) := by decide +kernel
theorem dX4_isMirrored_9 : decode cX4_isMirrored 9 = .ok (.iconst 0, 1) := by decide +kernel
theorem dX4_isMirrored_10 : decode cX4_isMirrored 10 = .ok (.istore_n 3, 1) := by decide +kernel
theorem dX4_isMirrored_11 : decode cX4_isMirrored 11 = .ok (.iload_n 3, 1) := by decide +kernel
theorem dX4_isMirrored_12 : decode cX4_isMirrored 12 = .ok (.iload_n 2, 1) := by decide +kernel
theorem dX4_isMirrored_13 : decode cX4_isMirrored 13 = .ok (.iconst 2, 1) := by decide +kernel
theorem dX4_isMirrored_14 : decode cX4_isMirrored 14 = .ok (.idiv, 1) := by decide +kernel
theorem dX4_isMirrored_15 : decode cX4_isMirrored 15 = .ok (.if_icmp .ge 30, 3) := by decide +kernel
theorem dX4_isMirrored_18 : decode cX4_isMirrored 18 = .ok (.aload_n 0, 1) := by decide +kernel
theorem dX4_isMirrored_19 : decode cX4_isMirrored 19 = .ok (.iload_n 1, 1) := by decide +kernel
theorem dX4_isMirrored_20 : decode cX4_isMirrored 20 = .ok (.iload_n 3, 1) := by decide +kernel
theorem dX4_isMirrored_21 : decode cX4_isMirrored 21 = .ok (.invokevirtual 61, 3) := by decide +kernel
theorem dX4_isMirrored_24 : decode cX4_isMirrored 24 = .ok (.aload_n 0, 1) := by decide +kernel
theorem dX4_isMirrored_25 : decode cX4_isMirrored 25 = .ok (.iload_n 1, 1) := by decide +kernel
theorem dX4_isMirrored_26 : decode cX4_isMirrored 26 = .ok (.iload_n 2, 1) := by decide +kernel
theorem dX4_isMirrored_27 : decode cX4_isMirrored 27 = .ok (.iconst 1, 1) := by decide +kernel
theorem dX4_isMirrored_28 : decode cX4_isMirrored 28 = .ok (.isub, 1) := by decide +kernel
theorem dX4_isMirrored_29 : decode cX4_isMirrored 29 = .ok (.iload_n 3, 1) := by decide +kernel
theorem dX4_isMirrored_30 : decode cX4_isMirrored 30 = .ok (.isub, 1) := by decide +kernel
theorem dX4_isMirrored_31 : decode cX4_isMirrored 31 = .ok (.invokevirtual 61, 3) := by decide +kernel
theorem dX4_isMirrored_34 : decode cX4_isMirrored 34 = .ok (.if_icmp .eq 5, 3) := by decide +kernel
theorem dX4_isMirrored_37 : decode cX4_isMirrored 37 = .ok (.iconst 0, 1) := by decide +kernel
theorem dX4_isMirrored_38 : decode cX4_isMirrored 38 = .ok (.ireturn, 1) := by decide +kernel
theorem dX4_isMirrored_39 : decode cX4_isMirrored 39 = .ok (.iinc 3 1, 3) := by decide +kernel
theorem dX4_isMirrored_42 : decode cX4_isMirrored 42 = .ok (.goto (-31), 3) := by decide +kernel
theorem dX4_isMirrored_45 : decode cX4_isMirrored 45 = .ok (.iconst 1, 1) := by decide +kernel
theorem dX4_isMirrored_46 : decode cX4_isMirrored 46 = .ok (.ireturn, 1) := by decide +kernel
set_option maxRecDepth 20000 in
theorem ggX4_distance_X2_at : GoodIn wsX4_distance wsX2_at := goodIn_r _ [6, 7, 30] (by decide +kernel) (by decide +kernel)
set_option maxRecDepth 20000 in
theorem gX4_distance_X2_at : GoodIn wsX4_distance (wsV RX4 41 RX2 yX2_at wsX2_at) := goodIn_app (goodIn_of _ (by decide +kernel)) ggX4_distance_X2_at
set_option maxRecDepth 20000 in
theorem ggX4_distance_X4_kindOf : GoodIn wsX4_distance wsX4_kindOf := goodIn_r _ [12, 13, 2, 3, 4, 5, 6, 7, 24, 25, 26, 27, 28, 29, 30] (by decide +kernel) (by decide +kernel)
set_option maxRecDepth 20000 in
theorem gX4_distance_X4_kindOf : GoodIn wsX4_distance (wsV RX4 61 RX4 yX4_kindOf wsX4_kindOf) := goodIn_app (goodIn_of _ (by decide +kernel)) ggX4_distance_X4_kindOf
set_option maxRecDepth 20000 in
theorem ggX4_distance_X4_further : GoodIn wsX4_distance wsX4_further := goodIn_r _ [16, 17, 18, 19, 20, 21, 22, 23] (by decide +kernel) (by decide +kernel)
set_option maxRecDepth 20000 in
theorem gX4_distance_X4_further : GoodIn wsX4_distance (va_wsS RX4 71 yX4_further wsX4_further) := goodIn_app (goodIn_of _ (by decide +kernel)) ggX4_distance_X4_further
theorem dX4_distance_0 : decode cX4_distance 0 = .ok (.aload_n 0, 1) := by decide +kernel
theorem dX4_distance_1 : decode cX4_distance 1 = .ok (.getfield 20, 3) := by decide +kernel
theorem dX4_distance_4 : decode cX4_distance 4 = .ok (.iload_n 1, 1) := by decide +kernel
theorem dX4_distance_5 : decode cX4_distance 5 = .ok (.invokevirtual 41, 3) := by decide +kernel
theorem dX4_distance_8 : decode cX4_distance 8 = .ok (.istore_n 3, 1) := by decide +kernel
theorem dX4_distance_9 : decode cX4_distance 9 = .ok (.iconst (-1), 1) := by decide +kernel
theorem dX4_distance_10 : decode cX4_distance 10 = .ok (.istore 4, 2) := by decide +kernel
theorem dX4_distance_12 : decode cX4_distance 12 = .ok (.iconst (-1), 1) := by decide +kernel
theorem dX4_distance_13 : decode cX4_distance 13 = .ok (.istore 5, 2) := by decide +kernel
theorem dX4_distance_15 : decode cX4_distance 15 = .ok (.iconst 0, 1) := by decide +kernel
theorem dX4_distance_16 : decode cX4_distance 16 = .ok (.istore 6, 2) := by decide +kernel
theorem dX4_distance_18 : decode cX4_distance 18 = .ok (.iconst 0, 1) := by decide +kernel
theorem dX4_distance_19 : decode cX4_distance 19 = .ok (.istore 7, 2) := by decide +kernel
theorem dX4_distance_21 : decode cX4_distance 21 = .ok (.iload 7, 2) := by decide +kernel
theorem dX4_distance_23 : decode cX4_distance 23 = .ok (.iload_n 3, 1) := by decide +kernel
theorem dX4_distance_24 : decode cX4_distance 24 = .ok (.if_icmp .ge 49, 3) := by decide +kernel
theorem dX4_distance_27 : decode cX4_distance 27 = .ok (.aload_n 0, 1) := by decide +kernel
theorem dX4_distance_28 : decode cX4_distance 28 = .ok (.iload_n 1, 1) := by decide +kernel
theorem dX4_distance_29 : decode cX4_distance 29 = .ok (.iload 7, 2) := by decide +kernel
theorem dX4_distance_31 : decode cX4_distance 31 = .ok (.invokevirtual 61, 3) := by decide +kernel
theorem dX4_distance_34 : decode cX4_distance 34 = .ok (.ifCond .eq 33, 3) := by decide +kernel
theorem dX4_distance_37 : decode cX4_distance 37 = .ok (.iload 5, 2) := by decide +kernel
theorem dX4_distance_39 : decode cX4_distance 39 = .ok (.iconst (-1), 1) := by decide +kernel
theorem dX4_distance_40 : decode cX4_distance 40 = .ok (.if_icmp .ne 10, 3) := by decide +kernel
theorem dX4_distance_43 : decode cX4_distance 43 = .ok (.iload 7, 2) := by decide +kernel
theorem dX4_distance_45 : decode cX4_distance 45 = .ok (.istore 4, 2) := by decide +kernel
theorem dX4_distance_47 : decode cX4_distance 47 = .ok (.goto 16, 3) := by decide +kernel
theorem dX4_distance_50 : decode cX4_distance 50 = .ok (.iload 6, 2) := by decide +kernel
theorem dX4_distance_52 : decode cX4_distance 52 = .ok (.iload 7, 2) := by decide +kernel
theorem dX4_distance_54 : decode cX4_distance 54 = .ok (.iload 5, 2) := by decide +kernel
theorem dX4_distance_56 : decode cX4_distance 56 = .ok (.isub, 1) := by decide +kernel
theorem dX4_distance_57 : decode cX4_distance 57 = .ok (.iload_n 2, 1) := by decide +kernel
theorem dX4_distance_58 : decode cX4_distance 58 = .ok (.invokestatic 71, 3) := by decide +kernel
theorem dX4_distance_61 : decode cX4_distance 61 = .ok (.istore 6, 2) := by decide +kernel
theorem dX4_distance_63 : decode cX4_distance 63 = .ok (.iload 7, 2) := by decide +kernel
theorem dX4_distance_65 : decode cX4_distance 65 = .ok (.istore 5, 2) := by decide +kernel
theorem dX4_distance_67 : decode cX4_distance 67 = .ok (.iinc 7 1, 3) := by decide +kernel
theorem dX4_distance_70 : decode cX4_distance 70 = .ok (.goto (-49), 3) := by decide +kernel
theorem dX4_distance_73 : decode cX4_distance 73 = .ok (.iload 4, 2) := by decide +kernel
theorem dX4_distance_75 : decode cX4_distance 75 = .ok (.iload 5, 2) := by decide +kernel
theorem dX4_distance_77 : decode cX4_distance 77 = .ok (.if_icmp .ne 7, 3) := by decide +kernel
theorem dX4_distance_80 : decode cX4_distance 80 = .ok (.iconst 0, 1) := by decide +kernel
theorem dX4_distance_81 : decode cX4_distance 81 = .ok (.goto 16, 3) := by decide +kernel
theorem dX4_distance_84 : decode cX4_distance 84 = .ok (.iload 6, 2) := by decide +kernel
theorem dX4_distance_86 : decode cX4_distance 86 = .ok (.iload 4, 2) := by decide +kernel
theorem dX4_distance_88 : decode cX4_distance 88 = .ok (.iload_n 3, 1) := by decide +kernel
theorem dX4_distance_89 : decode cX4_distance 89 = .ok (.iadd, 1) := by decide +kernel
theorem dX4_distance_90 : decode cX4_distance 90 = .ok (.iload 5, 2) := by decide +kernel
theorem dX4_distance_92 : decode cX4_distance 92 = .ok (.isub, 1) := by decide +kernel
theorem dX4_distance_93 : decode cX4_distance 93 = .ok (.iload_n 2, 1) := by decide +kernel
theorem dX4_distance_94 : decode cX4_distance 94 = .ok (.invokestatic 71, 3) := by decide +kernel
theorem dX4_distance_97 : decode cX4_distance 97 = .ok (.ireturn, 1) := by decide +kernel
theorem dX4_further_0 : decode cX4_further 0 = .ok (.iload_n 0, 1) := by decide +kernel
theorem dX4_further_1 : decode cX4_further 1 = .ok (.ifCond .ne 5, 3) := by decide +kernel
theorem dX4_further_4 : decode cX4_further 4 = .ok (.iload_n 1, 1) := by decide +kernel
theorem dX4_further_5 : decode cX4_further 5 = .ok (.ireturn, 1) := by decide +kernel
theorem dX4_further_6 : decode cX4_further 6 = .ok (.iload_n 2, 1) := by decide +kernel
theorem dX4_further_7 : decode cX4_further 7 = .ok (.ifCond .eq 11, 3) := by decide +kernel
theorem dX4_further_10 : decode cX4_further 10 = .ok (.iload_n 0, 1) := by decide +kernel
theorem dX4_further_11 : decode cX4_further 11 = .ok (.iload_n 1, 1) := by decide +kernel
theorem dX4_further_12 : decode cX4_further 12 = .ok (.invokestatic 75, 3) := by decide +kernel
theorem dX4_further_15 : decode cX4_further 15 = .ok (.goto 8, 3) := by decide +kernel
theorem dX4_further_18 : decode cX4_further 18 = .ok (.iload_n 0, 1) := by decide +kernel
theorem dX4_further_19 : decode cX4_further 19 = .ok (.iload_n 1, 1) := by decide +kernel
theorem dX4_further_20 : decode cX4_further 20 = .ok (.invokestatic 80, 3) := by decide +kernel
theorem dX4_further_23 : decode cX4_further 23 = .ok (.ireturn, 1) := by decide +kernel
set_option maxRecDepth 20000 in
theorem ggX4_widest_X2_at : GoodIn wsX4_widest wsX2_at := goodIn_r _ [7, 8, 15] (by decide +kernel) (by decide +kernel)
set_option maxRecDepth 20000 in
theorem gX4_widest_X2_at : GoodIn wsX4_widest (wsV RX4 41 RX2 yX2_at wsX2_at) := goodIn_app (goodIn_of _ (by decide +kernel)) ggX4_widest_X2_at
theorem dX4_widest_0 : decode cX4_widest 0 = .ok (.iconst 0, 1) := by decide +kernel
theorem dX4_widest_1 : decode cX4_widest 1 = .ok (.istore_n 1, 1) := by decide +kernel
theorem dX4_widest_2 : decode cX4_widest 2 = .ok (.iconst 1, 1) := by decide +kernel
theorem dX4_widest_3 : decode cX4_widest 3 = .ok (.istore_n 2, 1) := by decide +kernel
theorem dX4_widest_4 : decode cX4_widest 4 = .ok (.iload_n 2, 1) := by decide +kernel
theorem dX4_widest_5 : decode cX4_widest 5 = .ok (.aload_n 0, 1) := by decide +kernel
theorem dX4_widest_6 : decode cX4_widest 6 = .ok (.getfield 29, 3) := by decide +kernel
theorem dX4_widest_9 : decode cX4_widest 9 = .ok (.if_icmp .ge 30, 3) := by decide +kernel
theorem dX4_widest_12 : decode cX4_widest 12 = .ok (.aload_n 0, 1) := by decide +kernel
theorem dX4_widest_13 : decode cX4_widest 13 = .ok (.getfield 23, 3) := by decide +kernel
theorem dX4_widest_16 : decode cX4_widest 16 = .ok (.iload_n 2, 1) := by decide +kernel
theorem dX4_widest_17 : decode cX4_widest 17 = .ok (.invokevirtual 41, 3) := by decide +kernel
theorem dX4_widest_20 : decode cX4_widest 20 = .ok (.aload_n 0, 1) := by decide +kernel
theorem dX4_widest_21 : decode cX4_widest 21 = .ok (.getfield 23, 3) := by decide +kernel
theorem dX4_widest_24 : decode cX4_widest 24 = .ok (.iload_n 1, 1) := by decide +kernel
theorem dX4_widest_25 : decode cX4_widest 25 = .ok (.invokevirtual 41, 3) := by decide +kernel
theorem dX4_widest_28 : decode cX4_widest 28 = .ok (.if_icmp .le 5, 3) := by decide +kernel
theorem dX4_widest_31 : decode cX4_widest 31 = .ok (.iload_n 2, 1) := by decide +kernel
theorem dX4_widest_32 : decode cX4_widest 32 = .ok (.istore_n 1, 1) := by decide +kernel
theorem dX4_widest_33 : decode cX4_widest 33 = .ok (.iinc 2 1, 3) := by decide +kernel
theorem dX4_widest_36 : decode cX4_widest 36 = .ok (.goto (-32), 3) := by decide +kernel
theorem dX4_widest_39 : decode cX4_widest 39 = .ok (.iload_n 1, 1) := by decide +kernel
theorem dX4_widest_40 : decode cX4_widest 40 = .ok (.ireturn, 1) := by decide +kernel
set_option maxRecDepth 20000 in
theorem ggX5_init_X2_init : GoodIn wsX5_init wsX2_init := goodIn_r _ [10, 11, 2, 3, 12, 13, 14] (by decide +kernel) (by decide +kernel)
set_option maxRecDepth 20000 in
theorem gX5_init_X2_init : GoodIn wsX5_init (wsX2_init) := ggX5_init_X2_init
theorem dX5_init_0 : decode cX5_init 0 = .ok (.aload_n 0, 1) := by decide +kernel
theorem dX5_init_1 : decode cX5_init 1 = .ok (.invokespecial 3, 3) := by decide +kernel
theorem dX5_init_4 : decode cX5_init 4 = .ok (.aload_n 0, 1) := by decide +kernel
theorem dX5_init_5 : decode cX5_init 5 = .ok (.new 9, 3) := by decide +kernel
theorem dX5_init_8 : decode cX5_init 8 = .ok (.dup, 1) := by decide +kernel
theorem dX5_init_9 : decode cX5_init 9 = .ok (.bipush 120, 2) := by decide +kernel
theorem dX5_init_11 : decode cX5_init 11 = .ok (.invokespecial 11, 3) := by decide +kernel
theorem dX5_init_14 : decode cX5_init 14 = .ok (.putfield 14, 3) := by decide +kernel
theorem dX5_init_17 : decode cX5_init 17 = .ok (.return_, 1) := by decide +kernel
set_option maxRecDepth 20000 in
theorem ggX5_spread_X5_measure : GoodIn wsX5_spread wsX5_measure := goodIn_r _ [8, 1, 3, 9, 20, 21, 22, 23] (by decide +kernel) (by decide +kernel)
set_option maxRecDepth 20000 in
theorem gX5_spread_X5_measure : GoodIn wsX5_spread (wsV RX5 20 RX5 yX5_measure wsX5_measure) := goodIn_app (goodIn_of _ (by decide +kernel)) ggX5_spread_X5_measure
set_option maxRecDepth 20000 in
theorem ggX5_spread_X5_spreadKind : GoodIn wsX5_spread wsX5_spreadKind := goodIn_r _ [13, 9, 20, 21, 22, 23] (by decide +kernel) (by decide +kernel)
set_option maxRecDepth 20000 in
theorem gX5_spread_X5_spreadKind : GoodIn wsX5_spread (wsV RX5 31 RX5 yX5_spreadKind wsX5_spreadKind) := goodIn_app (goodIn_of _ (by decide +kernel)) ggX5_spread_X5_spreadKind
set_option maxRecDepth 20000 in
theorem ggX5_spread_X2_put : GoodIn wsX5_spread wsX2_put := goodIn_r _ [18, 19, 24] (by decide +kernel) (by decide +kernel)
set_option maxRecDepth 20000 in
theorem gX5_spread_X2_put : GoodIn wsX5_spread (wsV RX5 35 RX2 yX2_put wsX2_put) := goodIn_app (goodIn_of _ (by decide +kernel)) ggX5_spread_X2_put
theorem dX5_spread_0 : decode cX5_spread 0 = .ok (.aload_n 0, 1) := by decide +kernel
theorem dX5_spread_1 : decode cX5_spread 1 = .ok (.iload_n 1, 1) := by decide +kernel
theorem dX5_spread_2 : decode cX5_spread 2 = .ok (.iload_n 2, 1) := by decide +kernel
theorem dX5_spread_3 : decode cX5_spread 3 = .ok (.invokevirtual 20, 3) := by decide +kernel
theorem dX5_spread_6 : decode cX5_spread 6 = .ok (.ifCond .ne 5, 3) := by decide +kernel
theorem dX5_spread_9 : decode cX5_spread 9 = .ok (.iconst 0, 1) := by decide +kernel
theorem dX5_spread_10 : decode cX5_spread 10 = .ok (.ireturn, 1) := by decide +kernel
theorem dX5_spread_11 : decode cX5_spread 11 = .ok (.iconst 0, 1) := by decide +kernel
theorem dX5_spread_12 : decode cX5_spread 12 = .ok (.istore_n 3, 1) := by decide +kernel
theorem dX5_spread_13 : decode cX5_spread 13 = .ok (.iload_n 3, 1) := by decide +kernel
theorem dX5_spread_14 : decode cX5_spread 14 = .ok (.aload_n 0, 1) := by decide +kernel
theorem dX5_spread_15 : decode cX5_spread 15 = .ok (.getfield 24, 3) := by decide +kernel
theorem dX5_spread_18 : decode cX5_spread 18 = .ok (.if_icmp .ge 30, 3) := by decide +kernel
theorem dX5_spread_21 : decode cX5_spread 21 = .ok (.aload_n 0, 1) := by decide +kernel
theorem dX5_spread_22 : decode cX5_spread 22 = .ok (.getfield 14, 3) := by decide +kernel
theorem dX5_spread_25 : decode cX5_spread 25 = .ok (.iload_n 3, 1) := by decide +kernel
theorem dX5_spread_26 : decode cX5_spread 26 = .ok (.aload_n 0, 1) := by decide +kernel
theorem dX5_spread_27 : decode cX5_spread 27 = .ok (.iload_n 3, 1) := by decide +kernel
theorem dX5_spread_28 : decode cX5_spread 28 = .ok (.aload_n 0, 1) := by decide +kernel
theorem dX5_spread_29 : decode cX5_spread 29 = .ok (.getfield 28, 3) := by decide +kernel
theorem dX5_spread_32 : decode cX5_spread 32 = .ok (.aload_n 0, 1) := by decide +kernel
theorem dX5_spread_33 : decode cX5_spread 33 = .ok (.getfield 24, 3) := by decide +kernel
theorem dX5_spread_36 : decode cX5_spread 36 = .ok (.invokevirtual 31, 3) := by decide +kernel
theorem dX5_spread_39 : decode cX5_spread 39 = .ok (.invokevirtual 35, 3) := by decide +kernel
theorem dX5_spread_42 : decode cX5_spread 42 = .ok (.iinc 3 1, 3) := by decide +kernel
theorem dX5_spread_45 : decode cX5_spread 45 = .ok (.goto (-32), 3) := by decide +kernel
theorem dX5_spread_48 : decode cX5_spread 48 = .ok (.iconst 1, 1) := by decide +kernel
theorem dX5_spread_49 : decode cX5_spread 49 = .ok (.ireturn, 1) := by decide +kernel
set_option maxRecDepth 20000 in
theorem ggX5_mirror_X5_measure : GoodIn wsX5_mirror wsX5_measure := goodIn_r _ [9, 1, 2, 4, 20, 21, 22, 23] (by decide +kernel) (by decide +kernel)
set_option maxRecDepth 20000 in
theorem gX5_mirror_X5_measure : GoodIn wsX5_mirror (wsV RX5 20 RX5 yX5_measure wsX5_measure) := goodIn_app (goodIn_of _ (by decide +kernel)) ggX5_mirror_X5_measure
set_option maxRecDepth 20000 in
theorem ggX5_mirror_X5_spreadKind : GoodIn wsX5_mirror wsX5_spreadKind := goodIn_r _ [13, 4, 20, 21, 22, 23] (by decide +kernel) (by decide +kernel)
set_option maxRecDepth 20000 in
theorem gX5_mirror_X5_spreadKind : GoodIn wsX5_mirror (wsV RX5 31 RX5 yX5_spreadKind wsX5_spreadKind) := goodIn_app (goodIn_of _ (by decide +kernel)) ggX5_mirror_X5_spreadKind
set_option maxRecDepth 20000 in
theorem ggX5_mirror_X2_put : GoodIn wsX5_mirror wsX2_put := goodIn_r _ [18, 19, 24] (by decide +kernel) (by decide +kernel)
set_option maxRecDepth 20000 in
theorem gX5_mirror_X2_put : GoodIn wsX5_mirror (wsV RX5 35 RX2 yX2_put wsX2_put) := goodIn_app (goodIn_of _ (by decide +kernel)) ggX5_mirror_X2_put
theorem dX5_mirror_0 : decode cX5_mirror 0 = .ok (.aload_n 0, 1) := by decide +kernel
theorem dX5_mirror_1 : decode cX5_mirror 1 = .ok (.iload_n 1, 1) := by decide +kernel
theorem dX5_mirror_2 : decode cX5_mirror 2 = .ok (.iload_n 2, 1) := by decide +kernel
theorem dX5_mirror_3 : decode cX5_mirror 3 = .ok (.invokevirtual 20, 3) := by decide +kernel
theorem dX5_mirror_6 : decode cX5_mirror 6 = .ok (.ifCond .ne 5, 3) := by decide +kernel
theorem dX5_mirror_9 : decode cX5_mirror 9 = .ok (.iconst 0, 1) := by decide +kernel
theorem dX5_mirror_10 : decode cX5_mirror 10 = .ok (.ireturn, 1) := by decide +kernel
theorem dX5_mirror_11 : decode cX5_mirror 11 = .ok (.aload_n 0, 1) := by decide +kernel
theorem dX5_mirror_12 : decode cX5_mirror 12 = .ok (.getfield 24, 3) := by decide +kernel
theorem dX5_mirror_15 : decode cX5_mirror 15 = .ok (.iconst 2, 1) := by decide +kernel
theorem dX5_mirror_16 : decode cX5_mirror 16 = .ok (.irem, 1) := by decide +kernel
theorem dX5_mirror_17 : decode cX5_mirror 17 = .ok (.iconst 1, 1) := by decide +kernel
theorem dX5_mirror_18 : decode cX5_mirror 18 = .ok (.if_icmp .ne 7, 3) := by decide +kernel
theorem dX5_mirror_21 : decode cX5_mirror 21 = .ok (.iconst 1, 1) := by decide +kernel
theorem dX5_mirror_22 : decode cX5_mirror 22 = .ok (.goto 4, 3) := by decide +kernel
theorem dX5_mirror_25 : decode cX5_mirror 25 = .ok (.iconst 0, 1) := by decide +kernel
theorem dX5_mirror_26 : decode cX5_mirror 26 = .ok (.istore_n 3, 1) := by decide +kernel
theorem dX5_mirror_27 : decode cX5_mirror 27 = .ok (.aload_n 0, 1) := by decide +kernel
theorem dX5_mirror_28 : decode cX5_mirror 28 = .ok (.getfield 28, 3) := by decide +kernel
theorem dX5_mirror_31 : decode cX5_mirror 31 = .ok (.iconst 2, 1) := by decide +kernel
theorem dX5_mirror_32 : decode cX5_mirror 32 = .ok (.irem, 1) := by decide +kernel
theorem dX5_mirror_33 : decode cX5_mirror 33 = .ok (.iconst 1, 1) := by decide +kernel
theorem dX5_mirror_34 : decode cX5_mirror 34 = .ok (.if_icmp .ne 7, 3) := by decide +kernel
theorem dX5_mirror_37 : decode cX5_mirror 37 = .ok (.iconst 1, 1) := by decide +kernel
theorem dX5_mirror_38 : decode cX5_mirror 38 = .ok (.goto 4, 3) := by decide +kernel
theorem dX5_mirror_41 : decode cX5_mirror 41 = .ok (.iconst 0, 1) := by decide +kernel
theorem dX5_mirror_42 : decode cX5_mirror 42 = .ok (.istore 4, 2) := by decide +kernel
theorem dX5_mirror_44 : decode cX5_mirror 44 = .ok (.iload 4, 2) := by decide +kernel
theorem dX5_mirror_46 : decode cX5_mirror 46 = .ok (.ifCond .eq 9, 3) := by decide +kernel
theorem dX5_mirror_49 : decode cX5_mirror 49 = .ok (.iload_n 3, 1) := by decide +kernel
theorem dX5_mirror_50 : decode cX5_mirror 50 = .ok (.ifCond .ne 5, 3) := by decide +kernel
theorem dX5_mirror_53 : decode cX5_mirror 53 = .ok (.iconst 0, 1) := by decide +kernel
theorem dX5_mirror_54 : decode cX5_mirror 54 = .ok (.ireturn, 1) := by decide +kernel
theorem dX5_mirror_55 : decode cX5_mirror 55 = .ok (.aload_n 0, 1) := by decide +kernel
theorem dX5_mirror_56 : decode cX5_mirror 56 = .ok (.getfield 24, 3) := by decide +kernel
theorem dX5_mirror_59 : decode cX5_mirror 59 = .ok (.iconst 2, 1) := by decide +kernel
theorem dX5_mirror_60 : decode cX5_mirror 60 = .ok (.idiv, 1) := by decide +kernel
theorem dX5_mirror_61 : decode cX5_mirror 61 = .ok (.istore 5, 2) := by decide +kernel
theorem dX5_mirror_63 : decode cX5_mirror 63 = .ok (.iconst 0, 1) := by decide +kernel
theorem dX5_mirror_64 : decode cX5_mirror 64 = .ok (.istore 6, 2) := by decide +kernel
theorem dX5_mirror_66 : decode cX5_mirror 66 = .ok (.iload 6, 2) := by decide +kernel
theorem dX5_mirror_68 : decode cX5_mirror 68 = .ok (.iload 5, 2) := by decide +kernel
theorem dX5_mirror_70 : decode cX5_mirror 70 = .ok (.if_icmp .ge 54, 3) := by decide +kernel
theorem dX5_mirror_73 : decode cX5_mirror 73 = .ok (.aload_n 0, 1) := by decide +kernel
theorem dX5_mirror_74 : decode cX5_mirror 74 = .ok (.iload 6, 2) := by decide +kernel
theorem dX5_mirror_76 : decode cX5_mirror 76 = .ok (.aload_n 0, 1) := by decide +kernel
theorem dX5_mirror_77 : decode cX5_mirror 77 = .ok (.getfield 28, 3) := by decide +kernel
theorem dX5_mirror_80 : decode cX5_mirror 80 = .ok (.iconst 2, 1) := by decide +kernel
theorem dX5_mirror_81 : decode cX5_mirror 81 = .ok (.idiv, 1) := by decide +kernel
theorem dX5_mirror_82 : decode cX5_mirror 82 = .ok (.iload 5, 2) := by decide +kernel
theorem dX5_mirror_84 : decode cX5_mirror 84 = .ok (.invokevirtual 31, 3) := by decide +kernel
theorem dX5_mirror_87 : decode cX5_mirror 87 = .ok (.istore 7, 2) := by decide +kernel
theorem dX5_mirror_89 : decode cX5_mirror 89 = .ok (.aload_n 0, 1) := by decide +kernel
theorem dX5_mirror_90 : decode cX5_mirror 90 = .ok (.getfield 14, 3) := by decide +kernel
theorem dX5_mirror_93 : decode cX5_mirror 93 = .ok (.iload 6, 2) := by decide +kernel
theorem dX5_mirror_95 : decode cX5_mirror 95 = .ok (.iload 7, 2) := by decide +kernel
theorem dX5_mirror_97 : decode cX5_mirror 97 = .ok (.invokevirtual 35, 3) := by decide +kernel
theorem dX5_mirror_100 : decode cX5_mirror 100 = .ok (.aload_n 0, 1) := by decide +kernel
theorem dX5_mirror_101 : decode cX5_mirror 101 = .ok (.getfield 14, 3) := by decide +kernel
theorem dX5_mirror_104 : decode cX5_mirror 104 = .ok (.aload_n 0, 1) := by decide +kernel
theorem dX5_mirror_105 : decode cX5_mirror 105 = .ok (.getfield 24, 3) := by decide +kernel
theorem dX5_mirror_108 : decode cX5_mirror 108 = .ok (.iconst 1, 1) := by decide +kernel
theorem dX5_mirror_109 : decode cX5_mirror 109 = .ok (.isub, 1) := by decide +kernel
theorem dX5_mirror_110 : decode cX5_mirror 110 = .ok (.iload 6, 2) := by decide +kernel
theorem dX5_mirror_112 : decode cX5_mirror 112 = .ok (.isub, 1) := by decide +kernel
theorem dX5_mirror_113 : decode cX5_mirror 113 = .ok (.iload 7, 2) := by decide +kernel
theorem dX5_mirror_115 : decode cX5_mirror 115 = .ok (.invokevirtual 35, 3) := by decide +kernel
theorem dX5_mirror_118 : decode cX5_mirror 118 = .ok (.iinc 6 1, 3) := by decide +kernel
theorem dX5_mirror_121 : decode cX5_mirror 121 = .ok (.goto (-55), 3) := by decide +kernel
theorem dX5_mirror_124 : decode cX5_mirror 124 = .ok (.iload_n 3, 1) := by decide +kernel
theorem dX5_mirror_125 : decode cX5_mirror 125 = .ok (.ifCond .eq 25, 3) := by decide +kernel
theorem dX5_mirror_128 : decode cX5_mirror 128 = .ok (.aload_n 0, 1) := by decide +kernel
theorem dX5_mirror_129 : decode cX5_mirror 129 = .ok (.getfield 14, 3) := by decide +kernel
theorem dX5_mirror_132 : decode cX5_mirror 132 = .ok (.iload 5, 2) := by decide +kernel
theorem dX5_mirror_134 : decode cX5_mirror 134 = .ok (.iload 4, 2) := by decide +kernel
theorem dX5_mirror_136 : decode cX5_mirror 136 = .ok (.ifCond .eq 10, 3) := by decide +kernel
theorem dX5_mirror_139 : decode cX5_mirror 139 = .ok (.aload_n 0, 1) := by decide +kernel
theorem dX5_mirror_140 : decode cX5_mirror 140 = .ok (.getfield 39, 3) := by decide +kernel
theorem dX5_mirror_143 : decode cX5_mirror 143 = .ok (.goto 4, 3) := by decide +kernel
theorem dX5_mirror_146 : decode cX5_mirror 146 = .ok (.iconst 0, 1) := by decide +kernel
theorem dX5_mirror_147 : decode cX5_mirror 147 = .ok (.invokevirtual 35, 3) := by decide +kernel
theorem dX5_mirror_150 : decode cX5_mirror 150 = .ok (.iconst 1, 1) := by decide +kernel
theorem dX5_mirror_151 : decode cX5_mirror 151 = .ok (.ireturn, 1) := by decide +kernel
theorem dX5_measure_0 : decode cX5_measure 0 = .ok (.iload_n 2, 1) := by decide +kernel
theorem dX5_measure_1 : decode cX5_measure 1 = .ok (.iload_n 1, 1) := by decide +kernel
theorem dX5_measure_2 : decode cX5_measure 2 = .ok (.if_icmp .lt 34, 3) := by decide +kernel
theorem dX5_measure_5 : decode cX5_measure 5 = .ok (.aload_n 0, 1) := by decide +kernel
theorem dX5_measure_6 : decode cX5_measure 6 = .ok (.iload_n 1, 1) := by decide +kernel
theorem dX5_measure_7 : decode cX5_measure 7 = .ok (.putfield 24, 3) := by decide +kernel
theorem dX5_measure_10 : decode cX5_measure 10 = .ok (.aload_n 0, 1) := by decide +kernel
theorem dX5_measure_11 : decode cX5_measure 11 = .ok (.iload_n 2, 1) := by decide +kernel
theorem dX5_measure_12 : decode cX5_measure 12 = .ok (.iload_n 1, 1) := by decide +kernel
theorem dX5_measure_13 : decode cX5_measure 13 = .ok (.isub, 1) := by decide +kernel
theorem dX5_measure_14 : decode cX5_measure 14 = .ok (.putfield 28, 3) := by decide +kernel
theorem dX5_measure_17 : decode cX5_measure 17 = .ok (.aload_n 0, 1) := by decide +kernel
theorem dX5_measure_18 : decode cX5_measure 18 = .ok (.iconst 1, 1) := by decide +kernel
theorem dX5_measure_19 : decode cX5_measure 19 = .ok (.putfield 39, 3) := by decide +kernel
theorem dX5_measure_22 : decode cX5_measure 22 = .ok (.aload_n 0, 1) := by decide +kernel
theorem dX5_measure_23 : decode cX5_measure 23 = .ok (.getfield 28, 3) := by decide +kernel
theorem dX5_measure_26 : decode cX5_measure 26 = .ok (.iload_n 1, 1) := by decide +kernel
theorem dX5_measure_27 : decode cX5_measure 27 = .ok (.if_icmp .gt 7, 3) := by decide +kernel
theorem dX5_measure_30 : decode cX5_measure 30 = .ok (.iconst 1, 1) := by decide +kernel
theorem dX5_measure_31 : decode cX5_measure 31 = .ok (.goto 4, 3) := by decide +kernel
theorem dX5_measure_34 : decode cX5_measure 34 = .ok (.iconst 0, 1) := by decide +kernel
theorem dX5_measure_35 : decode cX5_measure 35 = .ok (.ireturn, 1) := by decide +kernel
theorem dX5_measure_36 : decode cX5_measure 36 = .ok (.aload_n 0, 1) := by decide +kernel
theorem dX5_measure_37 : decode cX5_measure 37 = .ok (.iload_n 2, 1) := by decide +kernel
theorem dX5_measure_38 : decode cX5_measure 38 = .ok (.putfield 24, 3) := by decide +kernel
theorem dX5_measure_41 : decode cX5_measure 41 = .ok (.aload_n 0, 1) := by decide +kernel
theorem dX5_measure_42 : decode cX5_measure 42 = .ok (.iload_n 1, 1) := by decide +kernel
theorem dX5_measure_43 : decode cX5_measure 43 = .ok (.iload_n 2, 1) := by decide +kernel
theorem dX5_measure_44 : decode cX5_measure 44 = .ok (.isub, 1) := by decide +kernel
theorem dX5_measure_45 : decode cX5_measure 45 = .ok (.putfield 28, 3) := by decide +kernel
theorem dX5_measure_48 : decode cX5_measure 48 = .ok (.aload_n 0, 1) := by decide +kernel
theorem dX5_measure_49 : decode cX5_measure 49 = .ok (.iconst 2, 1) := by decide +kernel
theorem dX5_measure_50 : decode cX5_measure 50 = .ok (.putfield 39, 3) := by decide +kernel
theorem dX5_measure_53 : decode cX5_measure 53 = .ok (.iconst 2, 1) := by decide +kernel
theorem dX5_measure_54 : decode cX5_measure 54 = .ok (.aload_n 0, 1) := by decide +kernel
theorem dX5_measure_55 : decode cX5_measure 55 = .ok (.getfield 28, 3) := by decide +kernel
theorem dX5_measure_58 : decode cX5_measure 58 = .ok (.imul, 1) := by decide +kernel
theorem dX5_measure_59 : decode cX5_measure 59 = .ok (.iload_n 1, 1) := by decide +kernel
theorem dX5_measure_60 : decode cX5_measure 60 = .ok (.if_icmp .gt 7, 3) := by decide +kernel
theorem dX5_measure_63 : decode cX5_measure 63 = .ok (.iconst 1, 1) := by decide +kernel
theorem dX5_measure_64 : decode cX5_measure 64 = .ok (.goto 4, 3) := by decide +kernel
theorem dX5_measure_67 : decode cX5_measure 67 = .ok (.iconst 0, 1) := by decide +kernel
theorem dX5_measure_68 : decode cX5_measure 68 = .ok (.ireturn, 1) := by decide +kernel
theorem dX5_spreadKind_0 : decode cX5_spreadKind 0 = .ok (.iload_n 3, 1) := by decide +kernel
theorem dX5_spreadKind_1 : decode cX5_spreadKind 1 = .ok (.ifCond .gt 5, 3) := by decide +kernel
theorem dX5_spreadKind_4 : decode cX5_spreadKind 4 = .ok (.iconst 0, 1) := by decide +kernel
theorem dX5_spreadKind_5 : decode cX5_spreadKind 5 = .ok (.ireturn, 1) := by decide +kernel
theorem dX5_spreadKind_6 : decode cX5_spreadKind 6 = .ok (.iload_n 1, 1) := by decide +kernel
theorem dX5_spreadKind_7 : decode cX5_spreadKind 7 = .ok (.iconst 1, 1) := by decide +kernel
theorem dX5_spreadKind_8 : decode cX5_spreadKind 8 = .ok (.iadd, 1) := by decide +kernel
theorem dX5_spreadKind_9 : decode cX5_spreadKind 9 = .ok (.iload_n 2, 1) := by decide +kernel
theorem dX5_spreadKind_10 : decode cX5_spreadKind 10 = .ok (.imul, 1) := by decide +kernel
theorem dX5_spreadKind_11 : decode cX5_spreadKind 11 = .ok (.iload_n 3, 1) := by decide +kernel
theorem dX5_spreadKind_12 : decode cX5_spreadKind 12 = .ok (.idiv, 1) := by decide +kernel
theorem dX5_spreadKind_13 : decode cX5_spreadKind 13 = .ok (.iload_n 1, 1) := by decide +kernel
theorem dX5_spreadKind_14 : decode cX5_spreadKind 14 = .ok (.iload_n 2, 1) := by decide +kernel
theorem dX5_spreadKind_15 : decode cX5_spreadKind 15 = .ok (.imul, 1) := by decide +kernel
theorem dX5_spreadKind_16 : decode cX5_spreadKind 16 = .ok (.iload_n 3, 1) := by decide +kernel
theorem dX5_spreadKind_17 : decode cX5_spreadKind 17 = .ok (.idiv, 1) := by decide +kernel
theorem dX5_spreadKind_18 : decode cX5_spreadKind 18 = .ok (.if_icmp .le 10, 3) := by decide +kernel
theorem dX5_spreadKind_21 : decode cX5_spreadKind 21 = .ok (.aload_n 0, 1) := by decide +kernel
theorem dX5_spreadKind_22 : decode cX5_spreadKind 22 = .ok (.getfield 39, 3) := by decide +kernel
theorem dX5_spreadKind_25 : decode cX5_spreadKind 25 = .ok (.goto 4, 3) := by decide +kernel
theorem dX5_spreadKind_28 : decode cX5_spreadKind 28 = .ok (.iconst 0, 1) := by decide +kernel
theorem dX5_spreadKind_29 : decode cX5_spreadKind 29 = .ok (.ireturn, 1) := by decide +kernel
