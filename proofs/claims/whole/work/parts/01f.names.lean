theorem dX9_lies_29 : decode cX9_lies 29 = .ok (.i2l, 1) := by decide +kernel
theorem dX9_lies_30 : decode cX9_lies 30 = .ok (.lsub, 1) := by decide +kernel
theorem dX9_lies_31 : decode cX9_lies 31 = .ok (.lstore 5, 2) := by decide +kernel
theorem dX9_lies_33 : decode cX9_lies 33 = .ok (.aload_n 0, 1) := by decide +kernel
theorem dX9_lies_34 : decode cX9_lies 34 = .ok (.getfield 26, 3) := by decide +kernel
theorem dX9_lies_37 : decode cX9_lies 37 = .ok (.iload_n 1, 1) := by decide +kernel
theorem dX9_lies_38 : decode cX9_lies 38 = .ok (.iaload, 1) := by decide +kernel
theorem dX9_lies_39 : decode cX9_lies 39 = .ok (.i2l, 1) := by decide +kernel
theorem dX9_lies_40 : decode cX9_lies 40 = .ok (.aload_n 0, 1) := by decide +kernel
theorem dX9_lies_41 : decode cX9_lies 41 = .ok (.getfield 26, 3) := by decide +kernel
theorem dX9_lies_44 : decode cX9_lies 44 = .ok (.iload_n 2, 1) := by decide +kernel
theorem dX9_lies_45 : decode cX9_lies 45 = .ok (.iaload, 1) := by decide +kernel
theorem dX9_lies_46 : decode cX9_lies 46 = .ok (.i2l, 1) := by decide +kernel
theorem dX9_lies_47 : decode cX9_lies 47 = .ok (.ladd, 1) := by decide +kernel
theorem dX9_lies_48 : decode cX9_lies 48 = .ok (.lstore 7, 2) := by decide +kernel
theorem dX9_lies_50 : decode cX9_lies 50 = .ok (.lload_n 3, 1) := by decide +kernel
theorem dX9_lies_51 : decode cX9_lies 51 = .ok (.lload_n 3, 1) := by decide +kernel
theorem dX9_lies_52 : decode cX9_lies 52 = .ok (.lmul, 1) := by decide +kernel
theorem dX9_lies_53 : decode cX9_lies 53 = .ok (.lload 5, 2) := by decide +kernel
theorem dX9_lies_55 : decode cX9_lies 55 = .ok (.lload 5, 2) := by decide +kernel
theorem dX9_lies_57 : decode cX9_lies 57 = .ok (.lmul, 1) := by decide +kernel
theorem dX9_lies_58 : decode cX9_lies 58 = .ok (.ladd, 1) := by decide +kernel
theorem dX9_lies_59 : decode cX9_lies 59 = .ok (.lstore 9, 2) := by decide +kernel
theorem dX9_lies_61 : decode cX9_lies 61 = .ok (.lload 9, 2) := by decide +kernel
theorem dX9_lies_63 : decode cX9_lies 63 = .ok (.lload 7, 2) := by decide +kernel
theorem dX9_lies_65 : decode cX9_lies 65 = .ok (.lload 7, 2) := by decide +kernel
theorem dX9_lies_67 : decode cX9_lies 67 = .ok (.lmul, 1) := by decide +kernel
theorem dX9_lies_68 : decode cX9_lies 68 = .ok (.lcmp, 1) := by decide +kernel
theorem dX9_lies_69 : decode cX9_lies 69 = .ok (.ifCond .le 7, 3) := by decide +kernel
theorem dX9_lies_72 : decode cX9_lies 72 = .ok (.iconst 0, 1) := by decide +kernel
theorem dX9_lies_73 : decode cX9_lies 73 = .ok (.goto 19, 3) := by decide +kernel
theorem dX9_lies_76 : decode cX9_lies 76 = .ok (.lload 9, 2) := by decide +kernel
theorem dX9_lies_78 : decode cX9_lies 78 = .ok (.lload 7, 2) := by decide +kernel
theorem dX9_lies_80 : decode cX9_lies 80 = .ok (.lload 7, 2) := by decide +kernel
theorem dX9_lies_82 : decode cX9_lies 82 = .ok (.lmul, 1) := by decide +kernel
theorem dX9_lies_83 : decode cX9_lies 83 = .ok (.lcmp, 1) := by decide +kernel
theorem dX9_lies_84 : decode cX9_lies 84 = .ok (.ifCond .ne 7, 3) := by decide +kernel
theorem dX9_lies_87 : decode cX9_lies 87 = .ok (.iconst 1, 1) := by decide +kernel
theorem dX9_lies_88 : decode cX9_lies 88 = .ok (.goto 4, 3) := by decide +kernel
theorem dX9_lies_91 : decode cX9_lies 91 = .ok (.iconst 2, 1) := by decide +kernel
theorem dX9_lies_92 : decode cX9_lies 92 = .ok (.ireturn, 1) := by decide +kernel
set_option maxRecDepth 20000 in
theorem ggX9_lie_X9_isIn : GoodIn wsX9_lie wsX9_isIn := goodIn_r _ [6] (by decide +kernel) (by decide +kernel)
set_option maxRecDepth 20000 in
theorem gX9_lie_X9_isIn : GoodIn wsX9_lie (va_wsS RX9 83 yX9_isIn wsX9_isIn) := goodIn_app (goodIn_of _ (by decide +kernel)) ggX9_lie_X9_isIn
set_option maxRecDepth 20000 in
theorem ggX9_lie_X9_lies : GoodIn wsX9_lie wsX9_lies := goodIn_r _ [10, 11, 12, 13, 14, 15, 16, 17, 18, 19, 20, 21, 22, 23, 24, 25, 26, 27, 28, 29, 30, 31, 32, 33, 34, 35, 36, 37, 38, 39, 40, 41] (by decide +kernel) (by decide +kernel)
set_option maxRecDepth 20000 in
theorem gX9_lie_X9_lies : GoodIn wsX9_lie (wsV RX9 128 RX9 yX9_lies wsX9_lies) := goodIn_app (goodIn_of _ (by decide +kernel)) ggX9_lie_X9_lies
theorem dX9_lie_0 : decode cX9_lie 0 = .ok (.aload_n 0, 1) := by decide +kernel
theorem dX9_lie_1 : decode cX9_lie 1 = .ok (.iload_n 1, 1) := by decide +kernel
theorem dX9_lie_2 : decode cX9_lie 2 = .ok (.i2l, 1) := by decide +kernel
theorem dX9_lie_3 : decode cX9_lie 3 = .ok (.lconst 0, 1) := by decide +kernel
theorem dX9_lie_4 : decode cX9_lie 4 = .ok (.aload_n 0, 1) := by decide +kernel
theorem dX9_lie_5 : decode cX9_lie 5 = .ok (.getfield 125, 3) := by decide +kernel
theorem dX9_lie_8 : decode cX9_lie 8 = .ok (.iconst 1, 1) := by decide +kernel
theorem dX9_lie_9 : decode cX9_lie 9 = .ok (.isub, 1) := by decide +kernel
theorem dX9_lie_10 : decode cX9_lie 10 = .ok (.i2l, 1) := by decide +kernel
theorem dX9_lie_11 : decode cX9_lie 11 = .ok (.invokestatic 83, 3) := by decide +kernel
theorem dX9_lie_14 : decode cX9_lie 14 = .ok (.ifCond .eq 19, 3) := by decide +kernel
theorem dX9_lie_17 : decode cX9_lie 17 = .ok (.iload_n 2, 1) := by decide +kernel
theorem dX9_lie_18 : decode cX9_lie 18 = .ok (.i2l, 1) := by decide +kernel
theorem dX9_lie_19 : decode cX9_lie 19 = .ok (.lconst 0, 1) := by decide +kernel
theorem dX9_lie_20 : decode cX9_lie 20 = .ok (.aload_n 0, 1) := by decide +kernel
theorem dX9_lie_21 : decode cX9_lie 21 = .ok (.getfield 125, 3) := by decide +kernel
theorem dX9_lie_24 : decode cX9_lie 24 = .ok (.iconst 1, 1) := by decide +kernel
theorem dX9_lie_25 : decode cX9_lie 25 = .ok (.isub, 1) := by decide +kernel
theorem dX9_lie_26 : decode cX9_lie 26 = .ok (.i2l, 1) := by decide +kernel
theorem dX9_lie_27 : decode cX9_lie 27 = .ok (.invokestatic 83, 3) := by decide +kernel
theorem dX9_lie_30 : decode cX9_lie 30 = .ok (.ifCond .ne 7, 3) := by decide +kernel
theorem dX9_lie_33 : decode cX9_lie 33 = .ok (.iconst 1, 1) := by decide +kernel
theorem dX9_lie_34 : decode cX9_lie 34 = .ok (.goto 13, 3) := by decide +kernel
theorem dX9_lie_37 : decode cX9_lie 37 = .ok (.iload_n 1, 1) := by decide +kernel
theorem dX9_lie_38 : decode cX9_lie 38 = .ok (.iload_n 2, 1) := by decide +kernel
theorem dX9_lie_39 : decode cX9_lie 39 = .ok (.if_icmp .ne 7, 3) := by decide +kernel
theorem dX9_lie_42 : decode cX9_lie 42 = .ok (.iconst 2, 1) := by decide +kernel
theorem dX9_lie_43 : decode cX9_lie 43 = .ok (.goto 4, 3) := by decide +kernel
theorem dX9_lie_46 : decode cX9_lie 46 = .ok (.iconst 0, 1) := by decide +kernel
theorem dX9_lie_47 : decode cX9_lie 47 = .ok (.putfield 80, 3) := by decide +kernel
theorem dX9_lie_50 : decode cX9_lie 50 = .ok (.aload_n 0, 1) := by decide +kernel
theorem dX9_lie_51 : decode cX9_lie 51 = .ok (.getfield 80, 3) := by decide +kernel
theorem dX9_lie_54 : decode cX9_lie 54 = .ok (.ifCond .le 7, 3) := by decide +kernel
theorem dX9_lie_57 : decode cX9_lie 57 = .ok (.iconst 0, 1) := by decide +kernel
theorem dX9_lie_58 : decode cX9_lie 58 = .ok (.goto 9, 3) := by decide +kernel
theorem dX9_lie_61 : decode cX9_lie 61 = .ok (.aload_n 0, 1) := by decide +kernel
theorem dX9_lie_62 : decode cX9_lie 62 = .ok (.iload_n 1, 1) := by decide +kernel
theorem dX9_lie_63 : decode cX9_lie 63 = .ok (.iload_n 2, 1) := by decide +kernel
theorem dX9_lie_64 : decode cX9_lie 64 = .ok (.invokevirtual 128, 3) := by decide +kernel
theorem dX9_lie_67 : decode cX9_lie 67 = .ok (.ireturn, 1) := by decide +kernel
set_option maxRecDepth 20000 in
theorem ggX9_pairs_X9_isIn : GoodIn wsX9_pairs wsX9_isIn := goodIn_r _ [7] (by decide +kernel) (by decide +kernel)
set_option maxRecDepth 20000 in
theorem gX9_pairs_X9_isIn : GoodIn wsX9_pairs (va_wsS RX9 83 yX9_isIn wsX9_isIn) := goodIn_app (goodIn_of _ (by decide +kernel)) ggX9_pairs_X9_isIn
set_option maxRecDepth 20000 in
theorem ggX9_pairs_X9_lies : GoodIn wsX9_pairs wsX9_lies := goodIn_r _ [11, 12, 13, 14, 15, 16, 17, 18, 19, 20, 21, 22, 23, 24, 25, 26, 27, 28, 29, 30, 31, 32, 33, 34, 35, 36, 37, 38, 39, 40, 41, 42] (by decide +kernel) (by decide +kernel)
set_option maxRecDepth 20000 in
theorem gX9_pairs_X9_lies : GoodIn wsX9_pairs (wsV RX9 128 RX9 yX9_lies wsX9_lies) := goodIn_app (goodIn_of _ (by decide +kernel)) ggX9_pairs_X9_lies
theorem dX9_pairs_0 : decode cX9_pairs 0 = .ok (.aload_n 0, 1) := by decide +kernel
theorem dX9_pairs_1 : decode cX9_pairs 1 = .ok (.iload_n 1, 1) := by decide +kernel
theorem dX9_pairs_2 : decode cX9_pairs 2 = .ok (.i2l, 1) := by decide +kernel
theorem dX9_pairs_3 : decode cX9_pairs 3 = .ok (.lconst 0, 1) := by decide +kernel
theorem dX9_pairs_4 : decode cX9_pairs 4 = .ok (.ldc2_w 109, 3) := by decide +kernel
theorem dX9_pairs_7 : decode cX9_pairs 7 = .ok (.invokestatic 83, 3) := by decide +kernel
theorem dX9_pairs_10 : decode cX9_pairs 10 = .ok (.ifCond .eq 7, 3) := by decide +kernel
theorem dX9_pairs_13 : decode cX9_pairs 13 = .ok (.iconst 0, 1) := by decide +kernel
theorem dX9_pairs_14 : decode cX9_pairs 14 = .ok (.goto 4, 3) := by decide +kernel
theorem dX9_pairs_17 : decode cX9_pairs 17 = .ok (.iconst 1, 1) := by decide +kernel
theorem dX9_pairs_18 : decode cX9_pairs 18 = .ok (.putfield 80, 3) := by decide +kernel
theorem dX9_pairs_21 : decode cX9_pairs 21 = .ok (.iconst 0, 1) := by decide +kernel
theorem dX9_pairs_22 : decode cX9_pairs 22 = .ok (.istore_n 2, 1) := by decide +kernel
theorem dX9_pairs_23 : decode cX9_pairs 23 = .ok (.iconst 0, 1) := by decide +kernel
theorem dX9_pairs_24 : decode cX9_pairs 24 = .ok (.istore_n 3, 1) := by decide +kernel
theorem dX9_pairs_25 : decode cX9_pairs 25 = .ok (.iload_n 3, 1) := by decide +kernel
theorem dX9_pairs_26 : decode cX9_pairs 26 = .ok (.aload_n 0, 1) := by decide +kernel
theorem dX9_pairs_27 : decode cX9_pairs 27 = .ok (.getfield 125, 3) := by decide +kernel
theorem dX9_pairs_30 : decode cX9_pairs 30 = .ok (.if_icmp .ge 50, 3) := by decide +kernel
theorem dX9_pairs_33 : decode cX9_pairs 33 = .ok (.aload_n 0, 1) := by decide +kernel
theorem dX9_pairs_34 : decode cX9_pairs 34 = .ok (.getfield 80, 3) := by decide +kernel
theorem dX9_pairs_37 : decode cX9_pairs 37 = .ok (.ifCond .ne 43, 3) := by decide +kernel
theorem dX9_pairs_40 : decode cX9_pairs 40 = .ok (.iconst 0, 1) := by decide +kernel
theorem dX9_pairs_41 : decode cX9_pairs 41 = .ok (.istore 4, 2) := by decide +kernel
theorem dX9_pairs_43 : decode cX9_pairs 43 = .ok (.iload 4, 2) := by decide +kernel
theorem dX9_pairs_45 : decode cX9_pairs 45 = .ok (.iload_n 3, 1) := by decide +kernel
theorem dX9_pairs_46 : decode cX9_pairs 46 = .ok (.if_icmp .ge 28, 3) := by decide +kernel
theorem dX9_pairs_49 : decode cX9_pairs 49 = .ok (.iload_n 2, 1) := by decide +kernel
theorem dX9_pairs_50 : decode cX9_pairs 50 = .ok (.aload_n 0, 1) := by decide +kernel
theorem dX9_pairs_51 : decode cX9_pairs 51 = .ok (.iload_n 3, 1) := by decide +kernel
theorem dX9_pairs_52 : decode cX9_pairs 52 = .ok (.iload 4, 2) := by decide +kernel
theorem dX9_pairs_54 : decode cX9_pairs 54 = .ok (.invokevirtual 128, 3) := by decide +kernel
theorem dX9_pairs_57 : decode cX9_pairs 57 = .ok (.iload_n 1, 1) := by decide +kernel
theorem dX9_pairs_58 : decode cX9_pairs 58 = .ok (.if_icmp .ne 7, 3) := by decide +kernel
theorem dX9_pairs_61 : decode cX9_pairs 61 = .ok (.iconst 1, 1) := by decide +kernel
theorem dX9_pairs_62 : decode cX9_pairs 62 = .ok (.goto 4, 3) := by decide +kernel
theorem dX9_pairs_65 : decode cX9_pairs 65 = .ok (.iconst 0, 1) := by decide +kernel
theorem dX9_pairs_66 : decode cX9_pairs 66 = .ok (.iadd, 1) := by decide +kernel
theorem dX9_pairs_67 : decode cX9_pairs 67 = .ok (.istore_n 2, 1) := by decide +kernel
theorem dX9_pairs_68 : decode cX9_pairs 68 = .ok (.iinc 4 1, 3) := by decide +kernel
theorem dX9_pairs_71 : decode cX9_pairs 71 = .ok (.goto (-28), 3) := by decide +kernel
theorem dX9_pairs_74 : decode cX9_pairs 74 = .ok (.iinc 3 1, 3) := by decide +kernel
theorem dX9_pairs_77 : decode cX9_pairs 77 = .ok (.goto (-52), 3) := by decide +kernel
theorem dX9_pairs_80 : decode cX9_pairs 80 = .ok (.iload_n 2, 1) := by decide +kernel
theorem dX9_pairs_81 : decode cX9_pairs 81 = .ok (.ireturn, 1) := by decide +kernel
set_option maxRecDepth 20000 in
theorem ggX9_draws_X9_lies : GoodIn wsX9_draws wsX9_lies := goodIn_r _ [8, 9, 10, 11, 22, 23, 24, 25, 26, 27, 28, 29, 30, 31, 32, 33, 34, 35, 36, 37, 38, 39, 40, 41, 42, 43, 44, 45, 46, 47, 48, 49] (by decide +kernel) (by decide +kernel)
set_option maxRecDepth 20000 in
theorem gX9_draws_X9_lies : GoodIn wsX9_draws (wsV RX9 128 RX9 yX9_lies wsX9_lies) := goodIn_app (goodIn_of _ (by decide +kernel)) ggX9_draws_X9_lies
set_option maxRecDepth 20000 in
theorem ggX9_draws_X9_areNeighbours : GoodIn wsX9_draws wsX9_areNeighbours := goodIn_r _ [15, 16, 17, 18, 7, 19, 20, 21, 22, 23, 24, 25, 26, 27, 28, 29, 30, 31, 32, 33, 34, 35, 36, 37, 38, 39, 40, 41, 42, 43, 44, 45, 46, 47, 48, 49] (by decide +kernel) (by decide +kernel)
set_option maxRecDepth 20000 in
theorem gX9_draws_X9_areNeighbours : GoodIn wsX9_draws (wsV RX9 95 RX9 yX9_areNeighbours wsX9_areNeighbours) := goodIn_app (goodIn_of _ (by decide +kernel)) ggX9_draws_X9_areNeighbours
theorem dX9_draws_0 : decode cX9_draws 0 = .ok (.aload_n 0, 1) := by decide +kernel
theorem dX9_draws_1 : decode cX9_draws 1 = .ok (.iconst 0, 1) := by decide +kernel
theorem dX9_draws_2 : decode cX9_draws 2 = .ok (.putfield 80, 3) := by decide +kernel
theorem dX9_draws_5 : decode cX9_draws 5 = .ok (.aload_n 0, 1) := by decide +kernel
theorem dX9_draws_6 : decode cX9_draws 6 = .ok (.getfield 125, 3) := by decide +kernel
theorem dX9_draws_9 : decode cX9_draws 9 = .ok (.aload_n 0, 1) := by decide +kernel
theorem dX9_draws_10 : decode cX9_draws 10 = .ok (.getfield 7, 3) := by decide +kernel
theorem dX9_draws_13 : decode cX9_draws 13 = .ok (.if_icmp .ne 7, 3) := by decide +kernel
theorem dX9_draws_16 : decode cX9_draws 16 = .ok (.iconst 1, 1) := by decide +kernel
theorem dX9_draws_17 : decode cX9_draws 17 = .ok (.goto 4, 3) := by decide +kernel
theorem dX9_draws_20 : decode cX9_draws 20 = .ok (.iconst 0, 1) := by decide +kernel
theorem dX9_draws_21 : decode cX9_draws 21 = .ok (.istore_n 1, 1) := by decide +kernel
theorem dX9_draws_22 : decode cX9_draws 22 = .ok (.iconst 0, 1) := by decide +kernel
theorem dX9_draws_23 : decode cX9_draws 23 = .ok (.istore_n 2, 1) := by decide +kernel
theorem dX9_draws_24 : decode cX9_draws 24 = .ok (.iload_n 2, 1) := by decide +kernel
theorem dX9_draws_25 : decode cX9_draws 25 = .ok (.aload_n 0, 1) := by decide +kernel
theorem dX9_draws_26 : decode cX9_draws 26 = .ok (.getfield 125, 3) := by decide +kernel
theorem dX9_draws_29 : decode cX9_draws 29 = .ok (.if_icmp .ge 57, 3) := by decide +kernel
theorem dX9_draws_32 : decode cX9_draws 32 = .ok (.iload_n 1, 1) := by decide +kernel
theorem dX9_draws_33 : decode cX9_draws 33 = .ok (.ifCond .eq 53, 3) := by decide +kernel
theorem dX9_draws_36 : decode cX9_draws 36 = .ok (.iconst 0, 1) := by decide +kernel
theorem dX9_draws_37 : decode cX9_draws 37 = .ok (.istore_n 3, 1) := by decide +kernel
theorem dX9_draws_38 : decode cX9_draws 38 = .ok (.iload_n 3, 1) := by decide +kernel
theorem dX9_draws_39 : decode cX9_draws 39 = .ok (.iload_n 2, 1) := by decide +kernel
theorem dX9_draws_40 : decode cX9_draws 40 = .ok (.if_icmp .ge 40, 3) := by decide +kernel
theorem dX9_draws_43 : decode cX9_draws 43 = .ok (.iload_n 1, 1) := by decide +kernel
theorem dX9_draws_44 : decode cX9_draws 44 = .ok (.aload_n 0, 1) := by decide +kernel
theorem dX9_draws_45 : decode cX9_draws 45 = .ok (.iload_n 2, 1) := by decide +kernel
theorem dX9_draws_46 : decode cX9_draws 46 = .ok (.iload_n 3, 1) := by decide +kernel
theorem dX9_draws_47 : decode cX9_draws 47 = .ok (.invokevirtual 128, 3) := by decide +kernel
theorem dX9_draws_50 : decode cX9_draws 50 = .ok (.aload_n 0, 1) := by decide +kernel
theorem dX9_draws_51 : decode cX9_draws 51 = .ok (.iload_n 2, 1) := by decide +kernel
theorem dX9_draws_52 : decode cX9_draws 52 = .ok (.iload_n 3, 1) := by decide +kernel
theorem dX9_draws_53 : decode cX9_draws 53 = .ok (.invokevirtual 95, 3) := by decide +kernel
theorem dX9_draws_56 : decode cX9_draws 56 = .ok (.ifCond .eq 7, 3) := by decide +kernel
theorem dX9_draws_59 : decode cX9_draws 59 = .ok (.iconst 1, 1) := by decide +kernel
theorem dX9_draws_60 : decode cX9_draws 60 = .ok (.goto 4, 3) := by decide +kernel
theorem dX9_draws_63 : decode cX9_draws 63 = .ok (.iconst 0, 1) := by decide +kernel
theorem dX9_draws_64 : decode cX9_draws 64 = .ok (.if_icmp .ne 7, 3) := by decide +kernel
theorem dX9_draws_67 : decode cX9_draws 67 = .ok (.iconst 1, 1) := by decide +kernel
theorem dX9_draws_68 : decode cX9_draws 68 = .ok (.goto 4, 3) := by decide +kernel
theorem dX9_draws_71 : decode cX9_draws 71 = .ok (.iconst 0, 1) := by decide +kernel
theorem dX9_draws_72 : decode cX9_draws 72 = .ok (.iand, 1) := by decide +kernel
theorem dX9_draws_73 : decode cX9_draws 73 = .ok (.istore_n 1, 1) := by decide +kernel
theorem dX9_draws_74 : decode cX9_draws 74 = .ok (.iinc 3 1, 3) := by decide +kernel
theorem dX9_draws_77 : decode cX9_draws 77 = .ok (.goto (-39), 3) := by decide +kernel
theorem dX9_draws_80 : decode cX9_draws 80 = .ok (.iinc 2 1, 3) := by decide +kernel
theorem dX9_draws_83 : decode cX9_draws 83 = .ok (.goto (-59), 3) := by decide +kernel
theorem dX9_draws_86 : decode cX9_draws 86 = .ok (.iload_n 1, 1) := by decide +kernel
theorem dX9_draws_87 : decode cX9_draws 87 = .ok (.ireturn, 1) := by decide +kernel
set_option maxRecDepth 20000 in
theorem ggX9_isCurve_X9_isIn : GoodIn wsX9_isCurve wsX9_isIn := goodIn_r _ [6] (by decide +kernel) (by decide +kernel)
set_option maxRecDepth 20000 in
theorem gX9_isCurve_X9_isIn : GoodIn wsX9_isCurve (va_wsS RX9 83 yX9_isIn wsX9_isIn) := goodIn_app (goodIn_of _ (by decide +kernel)) ggX9_isCurve_X9_isIn
theorem dX9_isCurve_0 : decode cX9_isCurve 0 = .ok (.iload_n 0, 1) := by decide +kernel
theorem dX9_isCurve_1 : decode cX9_isCurve 1 = .ok (.i2l, 1) := by decide +kernel
theorem dX9_isCurve_2 : decode cX9_isCurve 2 = .ok (.ldc2_w 131, 3) := by decide +kernel
theorem dX9_isCurve_5 : decode cX9_isCurve 5 = .ok (.ldc2_w 133, 3) := by decide +kernel
theorem dX9_isCurve_8 : decode cX9_isCurve 8 = .ok (.invokestatic 83, 3) := by decide +kernel
theorem dX9_isCurve_11 : decode cX9_isCurve 11 = .ok (.ireturn, 1) := by decide +kernel
set_option maxRecDepth 20000 in
theorem ggX9_gasket_X9_isCurve : GoodIn wsX9_gasket wsX9_isCurve := goodIn_r _ [8, 9, 10, 11, 12, 7, 13] (by decide +kernel) (by decide +kernel)
set_option maxRecDepth 20000 in
theorem gX9_gasket_X9_isCurve : GoodIn wsX9_gasket (va_wsS RX9 135 yX9_isCurve wsX9_isCurve) := goodIn_app (goodIn_of _ (by decide +kernel)) ggX9_gasket_X9_isCurve
theorem dX9_gasket_0 : decode cX9_gasket 0 = .ok (.iload_n 1, 1) := by decide +kernel
theorem dX9_gasket_1 : decode cX9_gasket 1 = .ok (.i2l, 1) := by decide +kernel
theorem dX9_gasket_2 : decode cX9_gasket 2 = .ok (.iload_n 2, 1) := by decide +kernel
theorem dX9_gasket_3 : decode cX9_gasket 3 = .ok (.i2l, 1) := by decide +kernel
theorem dX9_gasket_4 : decode cX9_gasket 4 = .ok (.ladd, 1) := by decide +kernel
theorem dX9_gasket_5 : decode cX9_gasket 5 = .ok (.iload_n 3, 1) := by decide +kernel
theorem dX9_gasket_6 : decode cX9_gasket 6 = .ok (.i2l, 1) := by decide +kernel
theorem dX9_gasket_7 : decode cX9_gasket 7 = .ok (.ladd, 1) := by decide +kernel
theorem dX9_gasket_8 : decode cX9_gasket 8 = .ok (.iload 4, 2) := by decide +kernel
theorem dX9_gasket_10 : decode cX9_gasket 10 = .ok (.i2l, 1) := by decide +kernel
theorem dX9_gasket_11 : decode cX9_gasket 11 = .ok (.ladd, 1) := by decide +kernel
theorem dX9_gasket_12 : decode cX9_gasket 12 = .ok (.lstore 5, 2) := by decide +kernel
theorem dX9_gasket_14 : decode cX9_gasket 14 = .ok (.iload_n 1, 1) := by decide +kernel
theorem dX9_gasket_15 : decode cX9_gasket 15 = .ok (.i2l, 1) := by decide +kernel
theorem dX9_gasket_16 : decode cX9_gasket 16 = .ok (.iload_n 1, 1) := by decide +kernel
theorem dX9_gasket_17 : decode cX9_gasket 17 = .ok (.i2l, 1) := by decide +kernel
theorem dX9_gasket_18 : decode cX9_gasket 18 = .ok (.lmul, 1) := by decide +kernel
theorem dX9_gasket_19 : decode cX9_gasket 19 = .ok (.iload_n 2, 1) := by decide +kernel
theorem dX9_gasket_20 : decode cX9_gasket 20 = .ok (.i2l, 1) := by decide +kernel
theorem dX9_gasket_21 : decode cX9_gasket 21 = .ok (.iload_n 2, 1) := by decide +kernel
theorem dX9_gasket_22 : decode cX9_gasket 22 = .ok (.i2l, 1) := by decide +kernel
theorem dX9_gasket_23 : decode cX9_gasket 23 = .ok (.lmul, 1) := by decide +kernel
theorem dX9_gasket_24 : decode cX9_gasket 24 = .ok (.ladd, 1) := by decide +kernel
theorem dX9_gasket_25 : decode cX9_gasket 25 = .ok (.iload_n 3, 1) := by decide +kernel
theorem dX9_gasket_26 : decode cX9_gasket 26 = .ok (.i2l, 1) := by decide +kernel
theorem dX9_gasket_27 : decode cX9_gasket 27 = .ok (.iload_n 3, 1) := by decide +kernel
theorem dX9_gasket_28 : decode cX9_gasket 28 = .ok (.i2l, 1) := by decide +kernel
theorem dX9_gasket_29 : decode cX9_gasket 29 = .ok (.lmul, 1) := by decide +kernel
theorem dX9_gasket_30 : decode cX9_gasket 30 = .ok (.ladd, 1) := by decide +kernel
theorem dX9_gasket_31 : decode cX9_gasket 31 = .ok (.iload 4, 2) := by decide +kernel
theorem dX9_gasket_33 : decode cX9_gasket 33 = .ok (.i2l, 1) := by decide +kernel
theorem dX9_gasket_34 : decode cX9_gasket 34 = .ok (.iload 4, 2) := by decide +kernel
theorem dX9_gasket_36 : decode cX9_gasket 36 = .ok (.i2l, 1) := by decide +kernel
theorem dX9_gasket_37 : decode cX9_gasket 37 = .ok (.lmul, 1) := by decide +kernel
theorem dX9_gasket_38 : decode cX9_gasket 38 = .ok (.ladd, 1) := by decide +kernel
theorem dX9_gasket_39 : decode cX9_gasket 39 = .ok (.lstore 7, 2) := by decide +kernel
theorem dX9_gasket_41 : decode cX9_gasket 41 = .ok (.iload_n 1, 1) := by decide +kernel
theorem dX9_gasket_42 : decode cX9_gasket 42 = .ok (.invokestatic 135, 3) := by decide +kernel
theorem dX9_gasket_45 : decode cX9_gasket 45 = .ok (.ifCond .eq 51, 3) := by decide +kernel
theorem dX9_gasket_48 : decode cX9_gasket 48 = .ok (.iload_n 2, 1) := by decide +kernel
theorem dX9_gasket_49 : decode cX9_gasket 49 = .ok (.invokestatic 135, 3) := by decide +kernel
theorem dX9_gasket_52 : decode cX9_gasket 52 = .ok (.ifCond .eq 44, 3) := by decide +kernel
theorem dX9_gasket_55 : decode cX9_gasket 55 = .ok (.iload_n 3, 1) := by decide +kernel
theorem dX9_gasket_56 : decode cX9_gasket 56 = .ok (.invokestatic 135, 3) := by decide +kernel
theorem dX9_gasket_59 : decode cX9_gasket 59 = .ok (.ifCond .eq 37, 3) := by decide +kernel
theorem dX9_gasket_62 : decode cX9_gasket 62 = .ok (.iload 4, 2) := by decide +kernel
theorem dX9_gasket_64 : decode cX9_gasket 64 = .ok (.invokestatic 135, 3) := by decide +kernel
theorem dX9_gasket_67 : decode cX9_gasket 67 = .ok (.ifCond .eq 29, 3) := by decide +kernel
theorem dX9_gasket_70 : decode cX9_gasket 70 = .ok (.lload 5, 2) := by decide +kernel
theorem dX9_gasket_72 : decode cX9_gasket 72 = .ok (.lload 5, 2) := by decide +kernel
theorem dX9_gasket_74 : decode cX9_gasket 74 = .ok (.lmul, 1) := by decide +kernel
theorem dX9_gasket_75 : decode cX9_gasket 75 = .ok (.ldc2_w 109, 3) := by decide +kernel
theorem dX9_gasket_78 : decode cX9_gasket 78 = .ok (.lload 7, 2) := by decide +kernel
theorem dX9_gasket_80 : decode cX9_gasket 80 = .ok (.lmul, 1) := by decide +kernel
theorem dX9_gasket_81 : decode cX9_gasket 81 = .ok (.lcmp, 1) := by decide +kernel
theorem dX9_gasket_82 : decode cX9_gasket 82 = .ok (.ifCond .ne 14, 3) := by decide +kernel
theorem dX9_gasket_85 : decode cX9_gasket 85 = .ok (.lload 5, 2) := by decide +kernel
theorem dX9_gasket_87 : decode cX9_gasket 87 = .ok (.lconst 0, 1) := by decide +kernel
theorem dX9_gasket_88 : decode cX9_gasket 88 = .ok (.lcmp, 1) := by decide +kernel
theorem dX9_gasket_89 : decode cX9_gasket 89 = .ok (.ifCond .le 7, 3) := by decide +kernel
theorem dX9_gasket_92 : decode cX9_gasket 92 = .ok (.iconst 1, 1) := by decide +kernel
theorem dX9_gasket_93 : decode cX9_gasket 93 = .ok (.goto 4, 3) := by decide +kernel
theorem dX9_gasket_96 : decode cX9_gasket 96 = .ok (.iconst 0, 1) := by decide +kernel
theorem dX9_gasket_97 : decode cX9_gasket 97 = .ok (.istore 9, 2) := by decide +kernel
theorem dX9_gasket_99 : decode cX9_gasket 99 = .ok (.aload_n 0, 1) := by decide +kernel
theorem dX9_gasket_100 : decode cX9_gasket 100 = .ok (.iload 9, 2) := by decide +kernel
theorem dX9_gasket_102 : decode cX9_gasket 102 = .ok (.ifCond .ne 7, 3) := by decide +kernel
theorem dX9_gasket_105 : decode cX9_gasket 105 = .ok (.iconst 1, 1) := by decide +kernel
theorem dX9_gasket_106 : decode cX9_gasket 106 = .ok (.goto 17, 3) := by decide +kernel
theorem dX9_gasket_109 : decode cX9_gasket 109 = .ok (.aload_n 0, 1) := by decide +kernel
theorem dX9_gasket_110 : decode cX9_gasket 110 = .ok (.getfield 138, 3) := by decide +kernel
theorem dX9_gasket_113 : decode cX9_gasket 113 = .ok (.bipush 8, 2) := by decide +kernel
theorem dX9_gasket_115 : decode cX9_gasket 115 = .ok (.if_icmp .ne 7, 3) := by decide +kernel
theorem dX9_gasket_118 : decode cX9_gasket 118 = .ok (.iconst 2, 1) := by decide +kernel
theorem dX9_gasket_119 : decode cX9_gasket 119 = .ok (.goto 4, 3) := by decide +kernel
theorem dX9_gasket_122 : decode cX9_gasket 122 = .ok (.iconst 0, 1) := by decide +kernel
theorem dX9_gasket_123 : decode cX9_gasket 123 = .ok (.putfield 80, 3) := by decide +kernel
theorem dX9_gasket_126 : decode cX9_gasket 126 = .ok (.aload_n 0, 1) := by decide +kernel
theorem dX9_gasket_127 : decode cX9_gasket 127 = .ok (.getfield 80, 3) := by decide +kernel
theorem dX9_gasket_130 : decode cX9_gasket 130 = .ok (.ifCond .le 5, 3) := by decide +kernel
theorem dX9_gasket_133 : decode cX9_gasket 133 = .ok (.iconst 0, 1) := by decide +kernel
theorem dX9_gasket_134 : decode cX9_gasket 134 = .ok (.ireturn, 1) := by decide +kernel
theorem dX9_gasket_135 : decode cX9_gasket 135 = .ok (.aload_n 0, 1) := by decide +kernel
theorem dX9_gasket_136 : decode cX9_gasket 136 = .ok (.getfield 29, 3) := by decide +kernel
theorem dX9_gasket_139 : decode cX9_gasket 139 = .ok (.iconst 4, 1) := by decide +kernel
theorem dX9_gasket_140 : decode cX9_gasket 140 = .ok (.aload_n 0, 1) := by decide +kernel
theorem dX9_gasket_141 : decode cX9_gasket 141 = .ok (.getfield 138, 3) := by decide +kernel
theorem dX9_gasket_144 : decode cX9_gasket 144 = .ok (.imul, 1) := by decide +kernel
theorem dX9_gasket_145 : decode cX9_gasket 145 = .ok (.iload_n 1, 1) := by decide +kernel
theorem dX9_gasket_146 : decode cX9_gasket 146 = .ok (.i2l, 1) := by decide +kernel
theorem dX9_gasket_147 : decode cX9_gasket 147 = .ok (.lastore, 1) := by decide +kernel
theorem dX9_gasket_148 : decode cX9_gasket 148 = .ok (.aload_n 0, 1) := by decide +kernel
theorem dX9_gasket_149 : decode cX9_gasket 149 = .ok (.getfield 29, 3) := by decide +kernel
theorem dX9_gasket_152 : decode cX9_gasket 152 = .ok (.iconst 4, 1) := by decide +kernel
theorem dX9_gasket_153 : decode cX9_gasket 153 = .ok (.aload_n 0, 1) := by decide +kernel
theorem dX9_gasket_154 : decode cX9_gasket 154 = .ok (.getfield 138, 3) := by decide +kernel
theorem dX9_gasket_157 : decode cX9_gasket 157 = .ok (.imul, 1) := by decide +kernel
theorem dX9_gasket_158 : decode cX9_gasket 158 = .ok (.iconst 1, 1) := by decide +kernel
theorem dX9_gasket_159 : decode cX9_gasket 159 = .ok (.iadd, 1) := by decide +kernel
theorem dX9_gasket_160 : decode cX9_gasket 160 = .ok (.iload_n 2, 1) := by decide +kernel
theorem dX9_gasket_161 : decode cX9_gasket 161 = .ok (.i2l, 1) := by decide +kernel
theorem dX9_gasket_162 : decode cX9_gasket 162 = .ok (.lastore, 1) := by decide +kernel
theorem dX9_gasket_163 : decode cX9_gasket 163 = .ok (.aload_n 0, 1) := by decide +kernel
theorem dX9_gasket_164 : decode cX9_gasket 164 = .ok (.getfield 29, 3) := by decide +kernel
theorem dX9_gasket_167 : decode cX9_gasket 167 = .ok (.iconst 4, 1) := by decide +kernel
theorem dX9_gasket_168 : decode cX9_gasket 168 = .ok (.aload_n 0, 1) := by decide +kernel
theorem dX9_gasket_169 : decode cX9_gasket 169 = .ok (.getfield 138, 3) := by decide +kernel
theorem dX9_gasket_172 : decode cX9_gasket 172 = .ok (.imul, 1) := by decide +kernel
theorem dX9_gasket_173 : decode cX9_gasket 173 = .ok (.iconst 2, 1) := by decide +kernel
theorem dX9_gasket_174 : decode cX9_gasket 174 = .ok (.iadd, 1) := by decide +kernel
theorem dX9_gasket_175 : decode cX9_gasket 175 = .ok (.iload_n 3, 1) := by decide +kernel
theorem dX9_gasket_176 : decode cX9_gasket 176 = .ok (.i2l, 1) := by decide +kernel
theorem dX9_gasket_177 : decode cX9_gasket 177 = .ok (.lastore, 1) := by decide +kernel
theorem dX9_gasket_178 : decode cX9_gasket 178 = .ok (.aload_n 0, 1) := by decide +kernel
theorem dX9_gasket_179 : decode cX9_gasket 179 = .ok (.getfield 29, 3) := by decide +kernel
theorem dX9_gasket_182 : decode cX9_gasket 182 = .ok (.iconst 4, 1) := by decide +kernel
theorem dX9_gasket_183 : decode cX9_gasket 183 = .ok (.aload_n 0, 1) := by decide +kernel
theorem dX9_gasket_184 : decode cX9_gasket 184 = .ok (.getfield 138, 3) := by decide +kernel
theorem dX9_gasket_187 : decode cX9_gasket 187 = .ok (.imul, 1) := by decide +kernel
theorem dX9_gasket_188 : decode cX9_gasket 188 = .ok (.iconst 3, 1) := by decide +kernel
theorem dX9_gasket_189 : decode cX9_gasket 189 = .ok (.iadd, 1) := by decide +kernel
theorem dX9_gasket_190 : decode cX9_gasket 190 = .ok (.iload 4, 2) := by decide +kernel
theorem dX9_gasket_192 : decode cX9_gasket 192 = .ok (.i2l, 1) := by decide +kernel
theorem dX9_gasket_193 : decode cX9_gasket 193 = .ok (.lastore, 1) := by decide +kernel
theorem dX9_gasket_194 : decode cX9_gasket 194 = .ok (.aload_n 0, 1) := by decide +kernel
theorem dX9_gasket_195 : decode cX9_gasket 195 = .ok (.dup, 1) := by decide +kernel
theorem dX9_gasket_196 : decode cX9_gasket 196 = .ok (.getfield 138, 3) := by decide +kernel
theorem dX9_gasket_199 : decode cX9_gasket 199 = .ok (.iconst 1, 1) := by decide +kernel
theorem dX9_gasket_200 : decode cX9_gasket 200 = .ok (.iadd, 1) := by decide +kernel
theorem dX9_gasket_201 : decode cX9_gasket 201 = .ok (.putfield 138, 3) := by decide +kernel
theorem dX9_gasket_204 : decode cX9_gasket 204 = .ok (.aload_n 0, 1) := by decide +kernel
theorem dX9_gasket_205 : decode cX9_gasket 205 = .ok (.getfield 138, 3) := by decide +kernel
theorem dX9_gasket_208 : decode cX9_gasket 208 = .ok (.iconst 1, 1) := by decide +kernel
theorem dX9_gasket_209 : decode cX9_gasket 209 = .ok (.isub, 1) := by decide +kernel
theorem dX9_gasket_210 : decode cX9_gasket 210 = .ok (.ireturn, 1) := by decide +kernel
theorem dX9_turned_0 : decode cX9_turned 0 = .ok (.aload_n 0, 1) := by decide +kernel
theorem dX9_turned_1 : decode cX9_turned 1 = .ok (.iload_n 1, 1) := by decide +kernel
theorem dX9_turned_2 : decode cX9_turned 2 = .ok (.laload, 1) := by decide +kernel
theorem dX9_turned_3 : decode cX9_turned 3 = .ok (.aload_n 0, 1) := by decide +kernel
theorem dX9_turned_4 : decode cX9_turned 4 = .ok (.iload_n 1, 1) := by decide +kernel
theorem dX9_turned_5 : decode cX9_turned 5 = .ok (.iconst 1, 1) := by decide +kernel
theorem dX9_turned_6 : decode cX9_turned 6 = .ok (.iadd, 1) := by decide +kernel
theorem dX9_turned_7 : decode cX9_turned 7 = .ok (.laload, 1) := by decide +kernel
theorem dX9_turned_8 : decode cX9_turned 8 = .ok (.ladd, 1) := by decide +kernel
theorem dX9_turned_9 : decode cX9_turned 9 = .ok (.aload_n 0, 1) := by decide +kernel
theorem dX9_turned_10 : decode cX9_turned 10 = .ok (.iload_n 1, 1) := by decide +kernel
theorem dX9_turned_11 : decode cX9_turned 11 = .ok (.iconst 2, 1) := by decide +kernel
theorem dX9_turned_12 : decode cX9_turned 12 = .ok (.iadd, 1) := by decide +kernel
theorem dX9_turned_13 : decode cX9_turned 13 = .ok (.laload, 1) := by decide +kernel
theorem dX9_turned_14 : decode cX9_turned 14 = .ok (.ladd, 1) := by decide +kernel
theorem dX9_turned_15 : decode cX9_turned 15 = .ok (.aload_n 0, 1) := by decide +kernel
theorem dX9_turned_16 : decode cX9_turned 16 = .ok (.iload_n 1, 1) := by decide +kernel
theorem dX9_turned_17 : decode cX9_turned 17 = .ok (.iconst 3, 1) := by decide +kernel
theorem dX9_turned_18 : decode cX9_turned 18 = .ok (.iadd, 1) := by decide +kernel
theorem dX9_turned_19 : decode cX9_turned 19 = .ok (.laload, 1) := by decide +kernel
theorem dX9_turned_20 : decode cX9_turned 20 = .ok (.ladd, 1) := by decide +kernel
theorem dX9_turned_21 : decode cX9_turned 21 = .ok (.lstore_n 3, 1) := by decide +kernel
theorem dX9_turned_22 : decode cX9_turned 22 = .ok (.ldc2_w 109, 3) := by decide +kernel
theorem dX9_turned_25 : decode cX9_turned 25 = .ok (.lload_n 3, 1) := by decide +kernel
theorem dX9_turned_26 : decode cX9_turned 26 = .ok (.aload_n 0, 1) := by decide +kernel
theorem dX9_turned_27 : decode cX9_turned 27 = .ok (.iload_n 1, 1) := by decide +kernel
theorem dX9_turned_28 : decode cX9_turned 28 = .ok (.iload_n 2, 1) := by decide +kernel
theorem dX9_turned_29 : decode cX9_turned 29 = .ok (.iadd, 1) := by decide +kernel
theorem dX9_turned_30 : decode cX9_turned 30 = .ok (.laload, 1) := by decide +kernel
theorem dX9_turned_31 : decode cX9_turned 31 = .ok (.lsub, 1) := by decide +kernel
theorem dX9_turned_32 : decode cX9_turned 32 = .ok (.lmul, 1) := by decide +kernel
theorem dX9_turned_33 : decode cX9_turned 33 = .ok (.aload_n 0, 1) := by decide +kernel
theorem dX9_turned_34 : decode cX9_turned 34 = .ok (.iload_n 1, 1) := by decide +kernel
theorem dX9_turned_35 : decode cX9_turned 35 = .ok (.iload_n 2, 1) := by decide +kernel
theorem dX9_turned_36 : decode cX9_turned 36 = .ok (.iadd, 1) := by decide +kernel
theorem dX9_turned_37 : decode cX9_turned 37 = .ok (.laload, 1) := by decide +kernel
theorem dX9_turned_38 : decode cX9_turned 38 = .ok (.lsub, 1) := by decide +kernel
theorem dX9_turned_39 : decode cX9_turned 39 = .ok (.lreturn, 1) := by decide +kernel
set_option maxRecDepth 20000 in
theorem ggX9_isGasket_X9_isIn : GoodIn wsX9_isGasket wsX9_isIn := goodIn_r _ [5] (by decide +kernel) (by decide +kernel)
set_option maxRecDepth 20000 in
theorem gX9_isGasket_X9_isIn : GoodIn wsX9_isGasket (va_wsS RX9 83 yX9_isIn wsX9_isIn) := goodIn_app (goodIn_of _ (by decide +kernel)) ggX9_isGasket_X9_isIn
theorem dX9_isGasket_0 : decode cX9_isGasket 0 = .ok (.iload_n 1, 1) := by decide +kernel
theorem dX9_isGasket_1 : decode cX9_isGasket 1 = .ok (.i2l, 1) := by decide +kernel
theorem dX9_isGasket_2 : decode cX9_isGasket 2 = .ok (.lconst 0, 1) := by decide +kernel
theorem dX9_isGasket_3 : decode cX9_isGasket 3 = .ok (.aload_n 0, 1) := by decide +kernel
theorem dX9_isGasket_4 : decode cX9_isGasket 4 = .ok (.getfield 138, 3) := by decide +kernel
theorem dX9_isGasket_7 : decode cX9_isGasket 7 = .ok (.iconst 1, 1) := by decide +kernel
theorem dX9_isGasket_8 : decode cX9_isGasket 8 = .ok (.isub, 1) := by decide +kernel
theorem dX9_isGasket_9 : decode cX9_isGasket 9 = .ok (.i2l, 1) := by decide +kernel
theorem dX9_isGasket_10 : decode cX9_isGasket 10 = .ok (.invokestatic 83, 3) := by decide +kernel
theorem dX9_isGasket_13 : decode cX9_isGasket 13 = .ok (.ireturn, 1) := by decide +kernel
set_option maxRecDepth 20000 in
theorem ggX9_isPlace_X9_isGasket : GoodIn wsX9_isPlace wsX9_isGasket := goodIn_r _ [6, 7, 8, 9, 5, 10, 11, 12, 13, 14, 15, 16, 17, 18, 19, 20, 21, 22, 23, 24, 25, 26, 27, 28, 29, 30, 31, 32, 33, 34, 35, 36, 37, 38] (by decide +kernel) (by decide +kernel)
set_option maxRecDepth 20000 in
theorem gX9_isPlace_X9_isGasket : GoodIn wsX9_isPlace (wsV RX9 141 RX9 yX9_isGasket wsX9_isGasket) := goodIn_app (goodIn_of _ (by decide +kernel)) ggX9_isPlace_X9_isGasket
set_option maxRecDepth 20000 in
theorem ggX9_isPlace_X9_isIn : GoodIn wsX9_isPlace wsX9_isIn := goodIn_r _ [10] (by decide +kernel) (by decide +kernel)
set_option maxRecDepth 20000 in
theorem gX9_isPlace_X9_isIn : GoodIn wsX9_isPlace (va_wsS RX9 83 yX9_isIn wsX9_isIn) := goodIn_app (goodIn_of _ (by decide +kernel)) ggX9_isPlace_X9_isIn
theorem dX9_isPlace_0 : decode cX9_isPlace 0 = .ok (.aload_n 0, 1) := by decide +kernel
theorem dX9_isPlace_1 : decode cX9_isPlace 1 = .ok (.iload_n 1, 1) := by decide +kernel
theorem dX9_isPlace_2 : decode cX9_isPlace 2 = .ok (.invokevirtual 141, 3) := by decide +kernel
theorem dX9_isPlace_5 : decode cX9_isPlace 5 = .ok (.ifCond .eq 19, 3) := by decide +kernel
theorem dX9_isPlace_8 : decode cX9_isPlace 8 = .ok (.iload_n 2, 1) := by decide +kernel
theorem dX9_isPlace_9 : decode cX9_isPlace 9 = .ok (.i2l, 1) := by decide +kernel
theorem dX9_isPlace_10 : decode cX9_isPlace 10 = .ok (.lconst 0, 1) := by decide +kernel
theorem dX9_isPlace_11 : decode cX9_isPlace 11 = .ok (.ldc2_w 144, 3) := by decide +kernel
theorem dX9_isPlace_14 : decode cX9_isPlace 14 = .ok (.invokestatic 83, 3) := by decide +kernel
theorem dX9_isPlace_17 : decode cX9_isPlace 17 = .ok (.ifCond .eq 7, 3) := by decide +kernel
theorem dX9_isPlace_20 : decode cX9_isPlace 20 = .ok (.iconst 1, 1) := by decide +kernel
theorem dX9_isPlace_21 : decode cX9_isPlace 21 = .ok (.goto 4, 3) := by decide +kernel
theorem dX9_isPlace_24 : decode cX9_isPlace 24 = .ok (.iconst 0, 1) := by decide +kernel
theorem dX9_isPlace_25 : decode cX9_isPlace 25 = .ok (.ireturn, 1) := by decide +kernel
set_option maxRecDepth 20000 in
theorem ggX9_turn_X9_isPlace : GoodIn wsX9_turn wsX9_isPlace := goodIn_r _ [8, 9, 10, 11, 12, 7, 13, 14, 15, 16, 17, 22, 23, 24, 25, 26, 27, 28, 29, 30, 31, 32, 33, 34, 35, 36, 37, 38, 39, 40, 41, 42, 43, 44, 45, 46, 47, 48, 49] (by decide +kernel) (by decide +kernel)
set_option maxRecDepth 20000 in
theorem gX9_turn_X9_isPlace : GoodIn wsX9_turn (wsV RX9 146 RX9 yX9_isPlace wsX9_isPlace) := goodIn_app (goodIn_of _ (by decide +kernel)) ggX9_turn_X9_isPlace
set_option maxRecDepth 20000 in
theorem ggX9_turn_X9_turned : GoodIn wsX9_turn wsX9_turned := goodIn_r _ [20, 21] (by decide +kernel) (by decide +kernel)
set_option maxRecDepth 20000 in
theorem gX9_turn_X9_turned : GoodIn wsX9_turn (va_wsS RX9 149 yX9_turned wsX9_turned) := goodIn_app (goodIn_of _ (by decide +kernel)) ggX9_turn_X9_turned
theorem dX9_turn_0 : decode cX9_turn 0 = .ok (.aload_n 0, 1) := by decide +kernel
theorem dX9_turn_1 : decode cX9_turn 1 = .ok (.aload_n 0, 1) := by decide +kernel
theorem dX9_turn_2 : decode cX9_turn 2 = .ok (.iload_n 1, 1) := by decide +kernel
theorem dX9_turn_3 : decode cX9_turn 3 = .ok (.iload_n 2, 1) := by decide +kernel
theorem dX9_turn_4 : decode cX9_turn 4 = .ok (.invokevirtual 146, 3) := by decide +kernel
theorem dX9_turn_7 : decode cX9_turn 7 = .ok (.ifCond .ne 7, 3) := by decide +kernel
theorem dX9_turn_10 : decode cX9_turn 10 = .ok (.iconst 1, 1) := by decide +kernel
theorem dX9_turn_11 : decode cX9_turn 11 = .ok (.goto 26, 3) := by decide +kernel
theorem dX9_turn_14 : decode cX9_turn 14 = .ok (.aload_n 0, 1) := by decide +kernel
theorem dX9_turn_15 : decode cX9_turn 15 = .ok (.getfield 29, 3) := by decide +kernel
theorem dX9_turn_18 : decode cX9_turn 18 = .ok (.iconst 4, 1) := by decide +kernel
theorem dX9_turn_19 : decode cX9_turn 19 = .ok (.iload_n 1, 1) := by decide +kernel
theorem dX9_turn_20 : decode cX9_turn 20 = .ok (.imul, 1) := by decide +kernel
theorem dX9_turn_21 : decode cX9_turn 21 = .ok (.iload_n 2, 1) := by decide +kernel
theorem dX9_turn_22 : decode cX9_turn 22 = .ok (.invokestatic 149, 3) := by decide +kernel
theorem dX9_turn_25 : decode cX9_turn 25 = .ok (.ldc2_w 153, 3) := by decide +kernel
theorem dX9_turn_28 : decode cX9_turn 28 = .ok (.lcmp, 1) := by decide +kernel
theorem dX9_turn_29 : decode cX9_turn 29 = .ok (.ifCond .le 7, 3) := by decide +kernel
theorem dX9_turn_32 : decode cX9_turn 32 = .ok (.iconst 2, 1) := by decide +kernel
theorem dX9_turn_33 : decode cX9_turn 33 = .ok (.goto 4, 3) := by decide +kernel
theorem dX9_turn_36 : decode cX9_turn 36 = .ok (.iconst 0, 1) := by decide +kernel
theorem dX9_turn_37 : decode cX9_turn 37 = .ok (.putfield 80, 3) := by decide +kernel
theorem dX9_turn_40 : decode cX9_turn 40 = .ok (.aload_n 0, 1) := by decide +kernel
theorem dX9_turn_41 : decode cX9_turn 41 = .ok (.getfield 80, 3) := by decide +kernel
theorem dX9_turn_44 : decode cX9_turn 44 = .ok (.ifCond .le 5, 3) := by decide +kernel
theorem dX9_turn_47 : decode cX9_turn 47 = .ok (.lconst 0, 1) := by decide +kernel
theorem dX9_turn_48 : decode cX9_turn 48 = .ok (.lreturn, 1) := by decide +kernel
theorem dX9_turn_49 : decode cX9_turn 49 = .ok (.aload_n 0, 1) := by decide +kernel
theorem dX9_turn_50 : decode cX9_turn 50 = .ok (.getfield 29, 3) := by decide +kernel
theorem dX9_turn_53 : decode cX9_turn 53 = .ok (.iconst 4, 1) := by decide +kernel
theorem dX9_turn_54 : decode cX9_turn 54 = .ok (.iload_n 1, 1) := by decide +kernel
theorem dX9_turn_55 : decode cX9_turn 55 = .ok (.imul, 1) := by decide +kernel
theorem dX9_turn_56 : decode cX9_turn 56 = .ok (.iload_n 2, 1) := by decide +kernel
theorem dX9_turn_57 : decode cX9_turn 57 = .ok (.iadd, 1) := by decide +kernel
theorem dX9_turn_58 : decode cX9_turn 58 = .ok (.aload_n 0, 1) := by decide +kernel
theorem dX9_turn_59 : decode cX9_turn 59 = .ok (.getfield 29, 3) := by decide +kernel
theorem dX9_turn_62 : decode cX9_turn 62 = .ok (.iconst 4, 1) := by decide +kernel
theorem dX9_turn_63 : decode cX9_turn 63 = .ok (.iload_n 1, 1) := by decide +kernel
theorem dX9_turn_64 : decode cX9_turn 64 = .ok (.imul, 1) := by decide +kernel
theorem dX9_turn_65 : decode cX9_turn 65 = .ok (.iload_n 2, 1) := by decide +kernel
theorem dX9_turn_66 : decode cX9_turn 66 = .ok (.invokestatic 149, 3) := by decide +kernel
theorem dX9_turn_69 : decode cX9_turn 69 = .ok (.lastore, 1) := by decide +kernel
theorem dX9_turn_70 : decode cX9_turn 70 = .ok (.aload_n 0, 1) := by decide +kernel
theorem dX9_turn_71 : decode cX9_turn 71 = .ok (.getfield 29, 3) := by decide +kernel
theorem dX9_turn_74 : decode cX9_turn 74 = .ok (.iconst 4, 1) := by decide +kernel
theorem dX9_turn_75 : decode cX9_turn 75 = .ok (.iload_n 1, 1) := by decide +kernel
theorem dX9_turn_76 : decode cX9_turn 76 = .ok (.imul, 1) := by decide +kernel
theorem dX9_turn_77 : decode cX9_turn 77 = .ok (.iload_n 2, 1) := by decide +kernel
theorem dX9_turn_78 : decode cX9_turn 78 = .ok (.iadd, 1) := by decide +kernel
theorem dX9_turn_79 : decode cX9_turn 79 = .ok (.laload, 1) := by decide +kernel
theorem dX9_turn_80 : decode cX9_turn 80 = .ok (.lreturn, 1) := by decide +kernel
set_option maxRecDepth 20000 in
theorem ggX9_curvature_X9_isPlace : GoodIn wsX9_curvature wsX9_isPlace := goodIn_r _ [7, 8, 9, 10, 11, 6, 12, 13, 14, 15, 16, 17, 18, 19, 20, 21, 22, 23, 24, 25, 26, 27, 28, 29, 30, 31, 32, 33, 34, 35, 36, 37, 38, 39, 40, 41, 42, 43, 44] (by decide +kernel) (by decide +kernel)
set_option maxRecDepth 20000 in
theorem gX9_curvature_X9_isPlace : GoodIn wsX9_curvature (wsV RX9 146 RX9 yX9_isPlace wsX9_isPlace) := goodIn_app (goodIn_of _ (by decide +kernel)) ggX9_curvature_X9_isPlace
theorem dX9_curvature_0 : decode cX9_curvature 0 = .ok (.aload_n 0, 1) := by decide +kernel
theorem dX9_curvature_1 : decode cX9_curvature 1 = .ok (.aload_n 0, 1) := by decide +kernel
theorem dX9_curvature_2 : decode cX9_curvature 2 = .ok (.iload_n 1, 1) := by decide +kernel
theorem dX9_curvature_3 : decode cX9_curvature 3 = .ok (.iload_n 2, 1) := by decide +kernel
theorem dX9_curvature_4 : decode cX9_curvature 4 = .ok (.invokevirtual 146, 3) := by decide +kernel
theorem dX9_curvature_7 : decode cX9_curvature 7 = .ok (.ifCond .eq 7, 3) := by decide +kernel
theorem dX9_curvature_10 : decode cX9_curvature 10 = .ok (.iconst 0, 1) := by decide +kernel
theorem dX9_curvature_11 : decode cX9_curvature 11 = .ok (.goto 4, 3) := by decide +kernel
theorem dX9_curvature_14 : decode cX9_curvature 14 = .ok (.iconst 1, 1) := by decide +kernel
theorem dX9_curvature_15 : decode cX9_curvature 15 = .ok (.putfield 80, 3) := by decide +kernel
theorem dX9_curvature_18 : decode cX9_curvature 18 = .ok (.aload_n 0, 1) := by decide +kernel
theorem dX9_curvature_19 : decode cX9_curvature 19 = .ok (.getfield 80, 3) := by decide +kernel
theorem dX9_curvature_22 : decode cX9_curvature 22 = .ok (.ifCond .le 7, 3) := by decide +kernel
theorem dX9_curvature_25 : decode cX9_curvature 25 = .ok (.lconst 0, 1) := by decide +kernel
theorem dX9_curvature_26 : decode cX9_curvature 26 = .ok (.goto 13, 3) := by decide +kernel
theorem dX9_curvature_29 : decode cX9_curvature 29 = .ok (.aload_n 0, 1) := by decide +kernel
theorem dX9_curvature_30 : decode cX9_curvature 30 = .ok (.getfield 29, 3) := by decide +kernel
theorem dX9_curvature_33 : decode cX9_curvature 33 = .ok (.iconst 4, 1) := by decide +kernel
theorem dX9_curvature_34 : decode cX9_curvature 34 = .ok (.iload_n 1, 1) := by decide +kernel
theorem dX9_curvature_35 : decode cX9_curvature 35 = .ok (.imul, 1) := by decide +kernel
theorem dX9_curvature_36 : decode cX9_curvature 36 = .ok (.iload_n 2, 1) := by decide +kernel
theorem dX9_curvature_37 : decode cX9_curvature 37 = .ok (.iadd, 1) := by decide +kernel
theorem dX9_curvature_38 : decode cX9_curvature 38 = .ok (.laload, 1) := by decide +kernel
theorem dX9_curvature_39 : decode cX9_curvature 39 = .ok (.lreturn, 1) := by decide +kernel
set_option maxRecDepth 20000 in
theorem ggX9_radius_X9_isPlace : GoodIn wsX9_radius wsX9_isPlace := goodIn_r _ [7, 8, 9, 10, 11, 6, 12, 13, 14, 15, 16, 17, 18, 19, 20, 21, 22, 23, 24, 25, 26, 27, 28, 29, 30, 31, 32, 33, 34, 35, 36, 37, 38, 39, 40, 41, 42, 43, 44] (by decide +kernel) (by decide +kernel)
set_option maxRecDepth 20000 in
theorem gX9_radius_X9_isPlace : GoodIn wsX9_radius (wsV RX9 146 RX9 yX9_isPlace wsX9_isPlace) := goodIn_app (goodIn_of _ (by decide +kernel)) ggX9_radius_X9_isPlace
theorem dX9_radius_0 : decode cX9_radius 0 = .ok (.aload_n 0, 1) := by decide +kernel
theorem dX9_radius_1 : decode cX9_radius 1 = .ok (.aload_n 0, 1) := by decide +kernel
theorem dX9_radius_2 : decode cX9_radius 2 = .ok (.iload_n 1, 1) := by decide +kernel
theorem dX9_radius_3 : decode cX9_radius 3 = .ok (.iload_n 2, 1) := by decide +kernel
theorem dX9_radius_4 : decode cX9_radius 4 = .ok (.invokevirtual 146, 3) := by decide +kernel
theorem dX9_radius_7 : decode cX9_radius 7 = .ok (.ifCond .eq 7, 3) := by decide +kernel
theorem dX9_radius_10 : decode cX9_radius 10 = .ok (.iconst 0, 1) := by decide +kernel
theorem dX9_radius_11 : decode cX9_radius 11 = .ok (.goto 4, 3) := by decide +kernel
theorem dX9_radius_14 : decode cX9_radius 14 = .ok (.iconst 1, 1) := by decide +kernel
theorem dX9_radius_15 : decode cX9_radius 15 = .ok (.putfield 80, 3) := by decide +kernel
theorem dX9_radius_18 : decode cX9_radius 18 = .ok (.aload_n 0, 1) := by decide +kernel
theorem dX9_radius_19 : decode cX9_radius 19 = .ok (.getfield 80, 3) := by decide +kernel
theorem dX9_radius_22 : decode cX9_radius 22 = .ok (.ifCond .le 7, 3) := by decide +kernel
theorem dX9_radius_25 : decode cX9_radius 25 = .ok (.fconst 0, 1) := by decide +kernel
theorem dX9_radius_26 : decode cX9_radius 26 = .ok (.goto 16, 3) := by decide +kernel
theorem dX9_radius_29 : decode cX9_radius 29 = .ok (.fconst 1, 1) := by decide +kernel
theorem dX9_radius_30 : decode cX9_radius 30 = .ok (.aload_n 0, 1) := by decide +kernel
theorem dX9_radius_31 : decode cX9_radius 31 = .ok (.getfield 29, 3) := by decide +kernel
theorem dX9_radius_34 : decode cX9_radius 34 = .ok (.iconst 4, 1) := by decide +kernel
theorem dX9_radius_35 : decode cX9_radius 35 = .ok (.iload_n 1, 1) := by decide +kernel
theorem dX9_radius_36 : decode cX9_radius 36 = .ok (.imul, 1) := by decide +kernel
theorem dX9_radius_37 : decode cX9_radius 37 = .ok (.iload_n 2, 1) := by decide +kernel
theorem dX9_radius_38 : decode cX9_radius 38 = .ok (.iadd, 1) := by decide +kernel
theorem dX9_radius_39 : decode cX9_radius 39 = .ok (.laload, 1) := by decide +kernel
theorem dX9_radius_40 : decode cX9_radius 40 = .ok (.l2f, 1) := by decide +kernel
theorem dX9_radius_41 : decode cX9_radius 41 = .ok (.fdiv, 1) := by decide +kernel
theorem dX9_radius_42 : decode cX9_radius 42 = .ok (.freturn, 1) := by decide +kernel
set_option maxRecDepth 20000 in
theorem ggX9_findsRoot_X9_turned : GoodIn wsX9_findsRoot wsX9_turned := goodIn_r _ [6, 7] (by decide +kernel) (by decide +kernel)
set_option maxRecDepth 20000 in
theorem gX9_findsRoot_X9_turned : GoodIn wsX9_findsRoot (va_wsS RX9 149 yX9_turned wsX9_turned) := goodIn_app (goodIn_of _ (by decide +kernel)) ggX9_findsRoot_X9_turned
theorem dX9_findsRoot_0 : decode cX9_findsRoot 0 = .ok (.iconst 0, 1) := by decide +kernel
theorem dX9_findsRoot_1 : decode cX9_findsRoot 1 = .ok (.istore_n 2, 1) := by decide +kernel
theorem dX9_findsRoot_2 : decode cX9_findsRoot 2 = .ok (.iload_n 2, 1) := by decide +kernel
theorem dX9_findsRoot_3 : decode cX9_findsRoot 3 = .ok (.iconst 4, 1) := by decide +kernel
theorem dX9_findsRoot_4 : decode cX9_findsRoot 4 = .ok (.if_icmp .ge 25, 3) := by decide +kernel
theorem dX9_findsRoot_7 : decode cX9_findsRoot 7 = .ok (.aload_n 0, 1) := by decide +kernel
theorem dX9_findsRoot_8 : decode cX9_findsRoot 8 = .ok (.getfield 33, 3) := by decide +kernel
theorem dX9_findsRoot_11 : decode cX9_findsRoot 11 = .ok (.iload_n 2, 1) := by decide +kernel
theorem dX9_findsRoot_12 : decode cX9_findsRoot 12 = .ok (.aload_n 0, 1) := by decide +kernel
theorem dX9_findsRoot_13 : decode cX9_findsRoot 13 = .ok (.getfield 29, 3) := by decide +kernel
theorem dX9_findsRoot_16 : decode cX9_findsRoot 16 = .ok (.iconst 4, 1) := by decide +kernel
theorem dX9_findsRoot_17 : decode cX9_findsRoot 17 = .ok (.iload_n 1, 1) := by decide +kernel
theorem dX9_findsRoot_18 : decode cX9_findsRoot 18 = .ok (.imul, 1) := by decide +kernel
theorem dX9_findsRoot_19 : decode cX9_findsRoot 19 = .ok (.iload_n 2, 1) := by decide +kernel
theorem dX9_findsRoot_20 : decode cX9_findsRoot 20 = .ok (.iadd, 1) := by decide +kernel
theorem dX9_findsRoot_21 : decode cX9_findsRoot 21 = .ok (.laload, 1) := by decide +kernel
theorem dX9_findsRoot_22 : decode cX9_findsRoot 22 = .ok (.lastore, 1) := by decide +kernel
theorem dX9_findsRoot_23 : decode cX9_findsRoot 23 = .ok (.iinc 2 1, 3) := by decide +kernel
theorem dX9_findsRoot_26 : decode cX9_findsRoot 26 = .ok (.goto (-24), 3) := by decide +kernel
theorem dX9_findsRoot_29 : decode cX9_findsRoot 29 = .ok (.iconst 1, 1) := by decide +kernel
theorem dX9_findsRoot_30 : decode cX9_findsRoot 30 = .ok (.istore_n 2, 1) := by decide +kernel
theorem dX9_findsRoot_31 : decode cX9_findsRoot 31 = .ok (.iload_n 2, 1) := by decide +kernel
theorem dX9_findsRoot_32 : decode cX9_findsRoot 32 = .ok (.ifCond .eq 97, 3) := by decide +kernel
theorem dX9_findsRoot_35 : decode cX9_findsRoot 35 = .ok (.iconst 0, 1) := by decide +kernel
theorem dX9_findsRoot_36 : decode cX9_findsRoot 36 = .ok (.istore_n 3, 1) := by decide +kernel
theorem dX9_findsRoot_37 : decode cX9_findsRoot 37 = .ok (.iconst 1, 1) := by decide +kernel
theorem dX9_findsRoot_38 : decode cX9_findsRoot 38 = .ok (.istore 4, 2) := by decide +kernel
theorem dX9_findsRoot_40 : decode cX9_findsRoot 40 = .ok (.iload 4, 2) := by decide +kernel
theorem dX9_findsRoot_42 : decode cX9_findsRoot 42 = .ok (.iconst 4, 1) := by decide +kernel
theorem dX9_findsRoot_43 : decode cX9_findsRoot 43 = .ok (.if_icmp .ge 33, 3) := by decide +kernel
theorem dX9_findsRoot_46 : decode cX9_findsRoot 46 = .ok (.aload_n 0, 1) := by decide +kernel
theorem dX9_findsRoot_47 : decode cX9_findsRoot 47 = .ok (.getfield 33, 3) := by decide +kernel
theorem dX9_findsRoot_50 : decode cX9_findsRoot 50 = .ok (.iload 4, 2) := by decide +kernel
theorem dX9_findsRoot_52 : decode cX9_findsRoot 52 = .ok (.laload, 1) := by decide +kernel
theorem dX9_findsRoot_53 : decode cX9_findsRoot 53 = .ok (.aload_n 0, 1) := by decide +kernel
theorem dX9_findsRoot_54 : decode cX9_findsRoot 54 = .ok (.getfield 33, 3) := by decide +kernel
theorem dX9_findsRoot_57 : decode cX9_findsRoot 57 = .ok (.iload_n 3, 1) := by decide +kernel
theorem dX9_findsRoot_58 : decode cX9_findsRoot 58 = .ok (.laload, 1) := by decide +kernel
theorem dX9_findsRoot_59 : decode cX9_findsRoot 59 = .ok (.lcmp, 1) := by decide +kernel
theorem dX9_findsRoot_60 : decode cX9_findsRoot 60 = .ok (.ifCond .le 8, 3) := by decide +kernel
theorem dX9_findsRoot_63 : decode cX9_findsRoot 63 = .ok (.iload 4, 2) := by decide +kernel
theorem dX9_findsRoot_65 : decode cX9_findsRoot 65 = .ok (.goto 4, 3) := by decide +kernel
theorem dX9_findsRoot_68 : decode cX9_findsRoot 68 = .ok (.iload_n 3, 1) := by decide +kernel
theorem dX9_findsRoot_69 : decode cX9_findsRoot 69 = .ok (.istore_n 3, 1) := by decide +kernel
theorem dX9_findsRoot_70 : decode cX9_findsRoot 70 = .ok (.iinc 4 1, 3) := by decide +kernel
theorem dX9_findsRoot_73 : decode cX9_findsRoot 73 = .ok (.goto (-33), 3) := by decide +kernel
theorem dX9_findsRoot_76 : decode cX9_findsRoot 76 = .ok (.aload_n 0, 1) := by decide +kernel
theorem dX9_findsRoot_77 : decode cX9_findsRoot 77 = .ok (.getfield 33, 3) := by decide +kernel
theorem dX9_findsRoot_80 : decode cX9_findsRoot 80 = .ok (.iconst 0, 1) := by decide +kernel
theorem dX9_findsRoot_81 : decode cX9_findsRoot 81 = .ok (.iload_n 3, 1) := by decide +kernel
theorem dX9_findsRoot_82 : decode cX9_findsRoot 82 = .ok (.invokestatic 149, 3) := by decide +kernel
theorem dX9_findsRoot_85 : decode cX9_findsRoot 85 = .ok (.lstore 4, 2) := by decide +kernel
theorem dX9_findsRoot_87 : decode cX9_findsRoot 87 = .ok (.lload 4, 2) := by decide +kernel
theorem dX9_findsRoot_89 : decode cX9_findsRoot 89 = .ok (.aload_n 0, 1) := by decide +kernel
theorem dX9_findsRoot_90 : decode cX9_findsRoot 90 = .ok (.getfield 33, 3) := by decide +kernel
theorem dX9_findsRoot_93 : decode cX9_findsRoot 93 = .ok (.iload_n 3, 1) := by decide +kernel
theorem dX9_findsRoot_94 : decode cX9_findsRoot 94 = .ok (.laload, 1) := by decide +kernel
theorem dX9_findsRoot_95 : decode cX9_findsRoot 95 = .ok (.lcmp, 1) := by decide +kernel
theorem dX9_findsRoot_96 : decode cX9_findsRoot 96 = .ok (.ifCond .ge 7, 3) := by decide +kernel
theorem dX9_findsRoot_99 : decode cX9_findsRoot 99 = .ok (.iconst 1, 1) := by decide +kernel
theorem dX9_findsRoot_100 : decode cX9_findsRoot 100 = .ok (.goto 4, 3) := by decide +kernel
theorem dX9_findsRoot_103 : decode cX9_findsRoot 103 = .ok (.iconst 0, 1) := by decide +kernel
theorem dX9_findsRoot_104 : decode cX9_findsRoot 104 = .ok (.istore_n 2, 1) := by decide +kernel
theorem dX9_findsRoot_105 : decode cX9_findsRoot 105 = .ok (.aload_n 0, 1) := by decide +kernel
theorem dX9_findsRoot_106 : decode cX9_findsRoot 106 = .ok (.getfield 33, 3) := by decide +kernel
theorem dX9_findsRoot_109 : decode cX9_findsRoot 109 = .ok (.iload_n 3, 1) := by decide +kernel
theorem dX9_findsRoot_110 : decode cX9_findsRoot 110 = .ok (.iload_n 2, 1) := by decide +kernel
theorem dX9_findsRoot_111 : decode cX9_findsRoot 111 = .ok (.ifCond .eq 8, 3) := by decide +kernel
theorem dX9_findsRoot_114 : decode cX9_findsRoot 114 = .ok (.lload 4, 2) := by decide +kernel
theorem dX9_findsRoot_116 : decode cX9_findsRoot 116 = .ok (.goto 9, 3) := by decide +kernel
theorem dX9_findsRoot_119 : decode cX9_findsRoot 119 = .ok (.aload_n 0, 1) := by decide +kernel
theorem dX9_findsRoot_120 : decode cX9_findsRoot 120 = .ok (.getfield 33, 3) := by decide +kernel
theorem dX9_findsRoot_123 : decode cX9_findsRoot 123 = .ok (.iload_n 3, 1) := by decide +kernel
theorem dX9_findsRoot_124 : decode cX9_findsRoot 124 = .ok (.laload, 1) := by decide +kernel
theorem dX9_findsRoot_125 : decode cX9_findsRoot 125 = .ok (.lastore, 1) := by decide +kernel
theorem dX9_findsRoot_126 : decode cX9_findsRoot 126 = .ok (.goto (-95), 3) := by decide +kernel
theorem dX9_findsRoot_129 : decode cX9_findsRoot 129 = .ok (.iconst 0, 1) := by decide +kernel
theorem dX9_findsRoot_130 : decode cX9_findsRoot 130 = .ok (.istore_n 3, 1) := by decide +kernel
theorem dX9_findsRoot_131 : decode cX9_findsRoot 131 = .ok (.iload_n 3, 1) := by decide +kernel
theorem dX9_findsRoot_132 : decode cX9_findsRoot 132 = .ok (.iconst 3, 1) := by decide +kernel
theorem dX9_findsRoot_133 : decode cX9_findsRoot 133 = .ok (.if_icmp .ge 103, 3) := by decide +kernel
theorem dX9_findsRoot_136 : decode cX9_findsRoot 136 = .ok (.iconst 0, 1) := by decide +kernel
theorem dX9_findsRoot_137 : decode cX9_findsRoot 137 = .ok (.istore 4, 2) := by decide +kernel
theorem dX9_findsRoot_139 : decode cX9_findsRoot 139 = .ok (.iload 4, 2) := by decide +kernel
theorem dX9_findsRoot_141 : decode cX9_findsRoot 141 = .ok (.iconst 3, 1) := by decide +kernel
theorem dX9_findsRoot_142 : decode cX9_findsRoot 142 = .ok (.if_icmp .ge 88, 3) := by decide +kernel
theorem dX9_findsRoot_145 : decode cX9_findsRoot 145 = .ok (.aload_n 0, 1) := by decide +kernel
theorem dX9_findsRoot_146 : decode cX9_findsRoot 146 = .ok (.getfield 33, 3) := by decide +kernel
theorem dX9_findsRoot_149 : decode cX9_findsRoot 149 = .ok (.iload 4, 2) := by decide +kernel
theorem dX9_findsRoot_151 : decode cX9_findsRoot 151 = .ok (.laload, 1) := by decide +kernel
theorem dX9_findsRoot_152 : decode cX9_findsRoot 152 = .ok (.aload_n 0, 1) := by decide +kernel
theorem dX9_findsRoot_153 : decode cX9_findsRoot 153 = .ok (.getfield 33, 3) := by decide +kernel
theorem dX9_findsRoot_156 : decode cX9_findsRoot 156 = .ok (.iload 4, 2) := by decide +kernel
theorem dX9_findsRoot_158 : decode cX9_findsRoot 158 = .ok (.iconst 1, 1) := by decide +kernel
theorem dX9_findsRoot_159 : decode cX9_findsRoot 159 = .ok (.iadd, 1) := by decide +kernel
theorem dX9_findsRoot_160 : decode cX9_findsRoot 160 = .ok (.laload, 1) := by decide +kernel
theorem dX9_findsRoot_161 : decode cX9_findsRoot 161 = .ok (.lcmp, 1) := by decide +kernel
theorem dX9_findsRoot_162 : decode cX9_findsRoot 162 = .ok (.ifCond .ge 13, 3) := by decide +kernel
theorem dX9_findsRoot_165 : decode cX9_findsRoot 165 = .ok (.aload_n 0, 1) := by decide +kernel
theorem dX9_findsRoot_166 : decode cX9_findsRoot 166 = .ok (.getfield 33, 3) := by decide +kernel
theorem dX9_findsRoot_169 : decode cX9_findsRoot 169 = .ok (.iload 4, 2) := by decide +kernel
theorem dX9_findsRoot_171 : decode cX9_findsRoot 171 = .ok (.laload, 1) := by decide +kernel
theorem dX9_findsRoot_172 : decode cX9_findsRoot 172 = .ok (.goto 12, 3) := by decide +kernel
theorem dX9_findsRoot_175 : decode cX9_findsRoot 175 = .ok (.aload_n 0, 1) := by decide +kernel
theorem dX9_findsRoot_176 : decode cX9_findsRoot 176 = .ok (.getfield 33, 3) := by decide +kernel
theorem dX9_findsRoot_179 : decode cX9_findsRoot 179 = .ok (.iload 4, 2) := by decide +kernel
theorem dX9_findsRoot_181 : decode cX9_findsRoot 181 = .ok (.iconst 1, 1) := by decide +kernel
theorem dX9_findsRoot_182 : decode cX9_findsRoot 182 = .ok (.iadd, 1) := by decide +kernel
theorem dX9_findsRoot_183 : decode cX9_findsRoot 183 = .ok (.laload, 1) := by decide +kernel
theorem dX9_findsRoot_184 : decode cX9_findsRoot 184 = .ok (.lstore 5, 2) := by decide +kernel
theorem dX9_findsRoot_186 : decode cX9_findsRoot 186 = .ok (.aload_n 0, 1) := by decide +kernel
theorem dX9_findsRoot_187 : decode cX9_findsRoot 187 = .ok (.getfield 33, 3) := by decide +kernel
theorem dX9_findsRoot_190 : decode cX9_findsRoot 190 = .ok (.iload 4, 2) := by decide +kernel
theorem dX9_findsRoot_192 : decode cX9_findsRoot 192 = .ok (.iconst 1, 1) := by decide +kernel
theorem dX9_findsRoot_193 : decode cX9_findsRoot 193 = .ok (.iadd, 1) := by decide +kernel
theorem dX9_findsRoot_194 : decode cX9_findsRoot 194 = .ok (.aload_n 0, 1) := by decide +kernel
theorem dX9_findsRoot_195 : decode cX9_findsRoot 195 = .ok (.getfield 33, 3) := by decide +kernel
theorem dX9_findsRoot_198 : decode cX9_findsRoot 198 = .ok (.iload 4, 2) := by decide +kernel
theorem dX9_findsRoot_200 : decode cX9_findsRoot 200 = .ok (.laload, 1) := by decide +kernel
theorem dX9_findsRoot_201 : decode cX9_findsRoot 201 = .ok (.aload_n 0, 1) := by decide +kernel
theorem dX9_findsRoot_202 : decode cX9_findsRoot 202 = .ok (.getfield 33, 3) := by decide +kernel
theorem dX9_findsRoot_205 : decode cX9_findsRoot 205 = .ok (.iload 4, 2) := by decide +kernel
theorem dX9_findsRoot_207 : decode cX9_findsRoot 207 = .ok (.iconst 1, 1) := by decide +kernel
theorem dX9_findsRoot_208 : decode cX9_findsRoot 208 = .ok (.iadd, 1) := by decide +kernel
theorem dX9_findsRoot_209 : decode cX9_findsRoot 209 = .ok (.laload, 1) := by decide +kernel
theorem dX9_findsRoot_210 : decode cX9_findsRoot 210 = .ok (.ladd, 1) := by decide +kernel
theorem dX9_findsRoot_211 : decode cX9_findsRoot 211 = .ok (.lload 5, 2) := by decide +kernel
theorem dX9_findsRoot_213 : decode cX9_findsRoot 213 = .ok (.lsub, 1) := by decide +kernel
theorem dX9_findsRoot_214 : decode cX9_findsRoot 214 = .ok (.lastore, 1) := by decide +kernel
theorem dX9_findsRoot_215 : decode cX9_findsRoot 215 = .ok (.aload_n 0, 1) := by decide +kernel
theorem dX9_findsRoot_216 : decode cX9_findsRoot 216 = .ok (.getfield 33, 3) := by decide +kernel
theorem dX9_findsRoot_219 : decode cX9_findsRoot 219 = .ok (.iload 4, 2) := by decide +kernel
theorem dX9_findsRoot_221 : decode cX9_findsRoot 221 = .ok (.lload 5, 2) := by decide +kernel
theorem dX9_findsRoot_223 : decode cX9_findsRoot 223 = .ok (.lastore, 1) := by decide +kernel
theorem dX9_findsRoot_224 : decode cX9_findsRoot 224 = .ok (.iinc 4 1, 3) := by decide +kernel
theorem dX9_findsRoot_227 : decode cX9_findsRoot 227 = .ok (.goto (-88), 3) := by decide +kernel
theorem dX9_findsRoot_230 : decode cX9_findsRoot 230 = .ok (.iinc 3 1, 3) := by decide +kernel
theorem dX9_findsRoot_233 : decode cX9_findsRoot 233 = .ok (.goto (-102), 3) := by decide +kernel
theorem dX9_findsRoot_236 : decode cX9_findsRoot 236 = .ok (.return_, 1) := by decide +kernel
set_option maxRecDepth 20000 in
theorem ggX9_root_X9_isPlace : GoodIn wsX9_root wsX9_isPlace := goodIn_r _ [7, 8, 9, 10, 11, 6, 12, 13, 14, 15, 16, 26, 27, 28, 29, 30, 31, 32, 33, 34, 35, 36, 37, 38, 39, 40, 41, 42, 43, 44, 45, 46, 47, 48, 49, 50, 51, 52, 53] (by decide +kernel) (by decide +kernel)
set_option maxRecDepth 20000 in
theorem gX9_root_X9_isPlace : GoodIn wsX9_root (wsV RX9 146 RX9 yX9_isPlace wsX9_isPlace) := goodIn_app (goodIn_of _ (by decide +kernel)) ggX9_root_X9_isPlace
set_option maxRecDepth 20000 in
theorem ggX9_root_X9_findsRoot : GoodIn wsX9_root wsX9_findsRoot := goodIn_r _ [20, 2, 21, 22, 23, 6, 24, 25, 26, 27, 28, 29, 30, 31, 32, 33, 34, 35, 36, 37, 38, 39, 40, 41, 42, 43, 44, 45, 46, 47, 48, 49, 50, 51, 52, 53] (by decide +kernel) (by decide +kernel)
set_option maxRecDepth 20000 in
theorem gX9_root_X9_findsRoot : GoodIn wsX9_root (wsV RX9 155 RX9 yX9_findsRoot wsX9_findsRoot) := goodIn_app (goodIn_of _ (by decide +kernel)) ggX9_root_X9_findsRoot
theorem dX9_root_0 : decode cX9_root 0 = .ok (.aload_n 0, 1) := by decide +kernel
theorem dX9_root_1 : decode cX9_root 1 = .ok (.aload_n 0, 1) := by decide +kernel
theorem dX9_root_2 : decode cX9_root 2 = .ok (.iload_n 1, 1) := by decide +kernel
theorem dX9_root_3 : decode cX9_root 3 = .ok (.iload_n 2, 1) := by decide +kernel
theorem dX9_root_4 : decode cX9_root 4 = .ok (.invokevirtual 146, 3) := by decide +kernel
theorem dX9_root_7 : decode cX9_root 7 = .ok (.ifCond .eq 7, 3) := by decide +kernel
theorem dX9_root_10 : decode cX9_root 10 = .ok (.iconst 0, 1) := by decide +kernel
theorem dX9_root_11 : decode cX9_root 11 = .ok (.goto 4, 3) := by decide +kernel
theorem dX9_root_14 : decode cX9_root 14 = .ok (.iconst 1, 1) := by decide +kernel
theorem dX9_root_15 : decode cX9_root 15 = .ok (.putfield 80, 3) := by decide +kernel
theorem dX9_root_18 : decode cX9_root 18 = .ok (.aload_n 0, 1) := by decide +kernel
theorem dX9_root_19 : decode cX9_root 19 = .ok (.getfield 80, 3) := by decide +kernel
theorem dX9_root_22 : decode cX9_root 22 = .ok (.ifCond .le 5, 3) := by decide +kernel
theorem dX9_root_25 : decode cX9_root 25 = .ok (.lconst 0, 1) := by decide +kernel
theorem dX9_root_26 : decode cX9_root 26 = .ok (.lreturn, 1) := by decide +kernel
theorem dX9_root_27 : decode cX9_root 27 = .ok (.aload_n 0, 1) := by decide +kernel
theorem dX9_root_28 : decode cX9_root 28 = .ok (.iload_n 1, 1) := by decide +kernel
theorem dX9_root_29 : decode cX9_root 29 = .ok (.invokevirtual 155, 3) := by decide +kernel
theorem dX9_root_32 : decode cX9_root 32 = .ok (.aload_n 0, 1) := by decide +kernel
theorem dX9_root_33 : decode cX9_root 33 = .ok (.getfield 33, 3) := by decide +kernel
theorem dX9_root_36 : decode cX9_root 36 = .ok (.iload_n 2, 1) := by decide +kernel
theorem dX9_root_37 : decode cX9_root 37 = .ok (.laload, 1) := by decide +kernel
theorem dX9_root_38 : decode cX9_root 38 = .ok (.lreturn, 1) := by decide +kernel
set_option maxRecDepth 20000 in
theorem ggX9_counts_X9_isGasket : GoodIn wsX9_counts wsX9_isGasket := goodIn_r _ [11, 12, 13, 14, 10, 15, 25, 26, 27, 28, 29, 30, 31, 32, 33, 34, 35, 36, 37, 38, 39, 40, 41, 42, 43, 44, 45, 46, 47, 48, 49, 50, 51, 52] (by decide +kernel) (by decide +kernel)
set_option maxRecDepth 20000 in
theorem gX9_counts_X9_isGasket : GoodIn wsX9_counts (wsV RX9 141 RX9 yX9_isGasket wsX9_isGasket) := goodIn_app (goodIn_of _ (by decide +kernel)) ggX9_counts_X9_isGasket
set_option maxRecDepth 20000 in
theorem ggX9_counts_X9_isIn : GoodIn wsX9_counts wsX9_isIn := goodIn_r _ [15] (by decide +kernel) (by decide +kernel)
set_option maxRecDepth 20000 in
theorem gX9_counts_X9_isIn : GoodIn wsX9_counts (va_wsS RX9 83 yX9_isIn wsX9_isIn) := goodIn_app (goodIn_of _ (by decide +kernel)) ggX9_counts_X9_isIn
set_option maxRecDepth 20000 in
theorem ggX9_counts_X9_findsRoot : GoodIn wsX9_counts wsX9_findsRoot := goodIn_r _ [19, 3, 20, 21, 22, 10, 23, 24, 25, 26, 27, 28, 29, 30, 31, 32, 33, 34, 35, 36, 37, 38, 39, 40, 41, 42, 43, 44, 45, 46, 47, 48, 49, 50, 51, 52] (by decide +kernel) (by decide +kernel)
set_option maxRecDepth 20000 in
theorem gX9_counts_X9_findsRoot : GoodIn wsX9_counts (wsV RX9 155 RX9 yX9_findsRoot wsX9_findsRoot) := goodIn_app (goodIn_of _ (by decide +kernel)) ggX9_counts_X9_findsRoot
set_option maxRecDepth 20000 in
theorem ggX9_counts_X9_turned : GoodIn wsX9_counts wsX9_turned := goodIn_r _ [23, 24] (by decide +kernel) (by decide +kernel)
set_option maxRecDepth 20000 in
theorem gX9_counts_X9_turned : GoodIn wsX9_counts (va_wsS RX9 149 yX9_turned wsX9_turned) := goodIn_app (goodIn_of _ (by decide +kernel)) ggX9_counts_X9_turned
theorem dX9_counts_0 : decode cX9_counts 0 = .ok (.aload_n 0, 1) := by decide +kernel
theorem dX9_counts_1 : decode cX9_counts 1 = .ok (.aload_n 0, 1) := by decide +kernel
theorem dX9_counts_2 : decode cX9_counts 2 = .ok (.iload_n 1, 1) := by decide +kernel
theorem dX9_counts_3 : decode cX9_counts 3 = .ok (.invokevirtual 141, 3) := by decide +kernel
theorem dX9_counts_6 : decode cX9_counts 6 = .ok (.ifCond .ne 7, 3) := by decide +kernel
theorem dX9_counts_9 : decode cX9_counts 9 = .ok (.iconst 1, 1) := by decide +kernel
theorem dX9_counts_10 : decode cX9_counts 10 = .ok (.goto 20, 3) := by decide +kernel
theorem dX9_counts_13 : decode cX9_counts 13 = .ok (.iload_n 2, 1) := by decide +kernel
theorem dX9_counts_14 : decode cX9_counts 14 = .ok (.i2l, 1) := by decide +kernel
theorem dX9_counts_15 : decode cX9_counts 15 = .ok (.lconst 1, 1) := by decide +kernel
theorem dX9_counts_16 : decode cX9_counts 16 = .ok (.ldc2_w 159, 3) := by decide +kernel
theorem dX9_counts_19 : decode cX9_counts 19 = .ok (.invokestatic 83, 3) := by decide +kernel
theorem dX9_counts_22 : decode cX9_counts 22 = .ok (.ifCond .ne 7, 3) := by decide +kernel
theorem dX9_counts_25 : decode cX9_counts 25 = .ok (.iconst 2, 1) := by decide +kernel
theorem dX9_counts_26 : decode cX9_counts 26 = .ok (.goto 4, 3) := by decide +kernel
theorem dX9_counts_29 : decode cX9_counts 29 = .ok (.iconst 0, 1) := by decide +kernel
theorem dX9_counts_30 : decode cX9_counts 30 = .ok (.putfield 80, 3) := by decide +kernel
theorem dX9_counts_33 : decode cX9_counts 33 = .ok (.aload_n 0, 1) := by decide +kernel
theorem dX9_counts_34 : decode cX9_counts 34 = .ok (.getfield 80, 3) := by decide +kernel
theorem dX9_counts_37 : decode cX9_counts 37 = .ok (.ifCond .le 5, 3) := by decide +kernel
theorem dX9_counts_40 : decode cX9_counts 40 = .ok (.iconst 0, 1) := by decide +kernel
theorem dX9_counts_41 : decode cX9_counts 41 = .ok (.ireturn, 1) := by decide +kernel
theorem dX9_counts_42 : decode cX9_counts 42 = .ok (.aload_n 0, 1) := by decide +kernel
theorem dX9_counts_43 : decode cX9_counts 43 = .ok (.iload_n 1, 1) := by decide +kernel
theorem dX9_counts_44 : decode cX9_counts 44 = .ok (.invokevirtual 155, 3) := by decide +kernel
theorem dX9_counts_47 : decode cX9_counts 47 = .ok (.aload_n 0, 1) := by decide +kernel
theorem dX9_counts_48 : decode cX9_counts 48 = .ok (.aload_n 0, 1) := by decide +kernel
theorem dX9_counts_49 : decode cX9_counts 49 = .ok (.getfield 33, 3) := by decide +kernel
theorem dX9_counts_52 : decode cX9_counts 52 = .ok (.iconst 0, 1) := by decide +kernel
theorem dX9_counts_53 : decode cX9_counts 53 = .ok (.laload, 1) := by decide +kernel
theorem dX9_counts_54 : decode cX9_counts 54 = .ok (.lconst 0, 1) := by decide +kernel
theorem dX9_counts_55 : decode cX9_counts 55 = .ok (.lcmp, 1) := by decide +kernel
theorem dX9_counts_56 : decode cX9_counts 56 = .ok (.ifCond .lt 7, 3) := by decide +kernel
theorem dX9_counts_59 : decode cX9_counts 59 = .ok (.iconst 3, 1) := by decide +kernel
theorem dX9_counts_60 : decode cX9_counts 60 = .ok (.goto 4, 3) := by decide +kernel
theorem dX9_counts_63 : decode cX9_counts 63 = .ok (.iconst 0, 1) := by decide +kernel
theorem dX9_counts_64 : decode cX9_counts 64 = .ok (.putfield 80, 3) := by decide +kernel
theorem dX9_counts_67 : decode cX9_counts 67 = .ok (.aload_n 0, 1) := by decide +kernel
theorem dX9_counts_68 : decode cX9_counts 68 = .ok (.getfield 80, 3) := by decide +kernel
theorem dX9_counts_71 : decode cX9_counts 71 = .ok (.ifCond .le 5, 3) := by decide +kernel
theorem dX9_counts_74 : decode cX9_counts 74 = .ok (.iconst 0, 1) := by decide +kernel
theorem dX9_counts_75 : decode cX9_counts 75 = .ok (.ireturn, 1) := by decide +kernel
theorem dX9_counts_76 : decode cX9_counts 76 = .ok (.iconst 0, 1) := by decide +kernel
theorem dX9_counts_77 : decode cX9_counts 77 = .ok (.istore_n 3, 1) := by decide +kernel
theorem dX9_counts_78 : decode cX9_counts 78 = .ok (.iconst 0, 1) := by decide +kernel
theorem dX9_counts_79 : decode cX9_counts 79 = .ok (.istore 4, 2) := by decide +kernel
theorem dX9_counts_81 : decode cX9_counts 81 = .ok (.iload 4, 2) := by decide +kernel
theorem dX9_counts_83 : decode cX9_counts 83 = .ok (.iconst 4, 1) := by decide +kernel
theorem dX9_counts_84 : decode cX9_counts 84 = .ok (.if_icmp .ge 44, 3) := by decide +kernel
theorem dX9_counts_87 : decode cX9_counts 87 = .ok (.aload_n 0, 1) := by decide +kernel
theorem dX9_counts_88 : decode cX9_counts 88 = .ok (.getfield 36, 3) := by decide +kernel
theorem dX9_counts_91 : decode cX9_counts 91 = .ok (.iload 4, 2) := by decide +kernel
theorem dX9_counts_93 : decode cX9_counts 93 = .ok (.aload_n 0, 1) := by decide +kernel
theorem dX9_counts_94 : decode cX9_counts 94 = .ok (.getfield 33, 3) := by decide +kernel
theorem dX9_counts_97 : decode cX9_counts 97 = .ok (.iload 4, 2) := by decide +kernel
theorem dX9_counts_99 : decode cX9_counts 99 = .ok (.laload, 1) := by decide +kernel
theorem dX9_counts_100 : decode cX9_counts 100 = .ok (.lastore, 1) := by decide +kernel
theorem dX9_counts_101 : decode cX9_counts 101 = .ok (.iload_n 3, 1) := by decide +kernel
theorem dX9_counts_102 : decode cX9_counts 102 = .ok (.aload_n 0, 1) := by decide +kernel
theorem dX9_counts_103 : decode cX9_counts 103 = .ok (.getfield 33, 3) := by decide +kernel
theorem dX9_counts_106 : decode cX9_counts 106 = .ok (.iload 4, 2) := by decide +kernel
theorem dX9_counts_108 : decode cX9_counts 108 = .ok (.laload, 1) := by decide +kernel
theorem dX9_counts_109 : decode cX9_counts 109 = .ok (.iload_n 2, 1) := by decide +kernel
theorem dX9_counts_110 : decode cX9_counts 110 = .ok (.i2l, 1) := by decide +kernel
theorem dX9_counts_111 : decode cX9_counts 111 = .ok (.lcmp, 1) := by decide +kernel
theorem dX9_counts_112 : decode cX9_counts 112 = .ok (.ifCond .gt 7, 3) := by decide +kernel
theorem dX9_counts_115 : decode cX9_counts 115 = .ok (.iconst 1, 1) := by decide +kernel
theorem dX9_counts_116 : decode cX9_counts 116 = .ok (.goto 4, 3) := by decide +kernel
theorem dX9_counts_119 : decode cX9_counts 119 = .ok (.iconst 0, 1) := by decide +kernel
theorem dX9_counts_120 : decode cX9_counts 120 = .ok (.iadd, 1) := by decide +kernel
theorem dX9_counts_121 : decode cX9_counts 121 = .ok (.istore_n 3, 1) := by decide +kernel
theorem dX9_counts_122 : decode cX9_counts 122 = .ok (.iinc 4 1, 3) := by decide +kernel
theorem dX9_counts_125 : decode cX9_counts 125 = .ok (.goto (-44), 3) := by decide +kernel
theorem dX9_counts_128 : decode cX9_counts 128 = .ok (.iconst 0, 1) := by decide +kernel
theorem dX9_counts_129 : decode cX9_counts 129 = .ok (.istore 4, 2) := by decide +kernel
theorem dX9_counts_131 : decode cX9_counts 131 = .ok (.aload_n 0, 1) := by decide +kernel
theorem dX9_counts_132 : decode cX9_counts 132 = .ok (.getfield 39, 3) := by decide +kernel
theorem dX9_counts_135 : decode cX9_counts 135 = .ok (.iconst 0, 1) := by decide +kernel
theorem dX9_counts_136 : decode cX9_counts 136 = .ok (.iconst 0, 1) := by decide +kernel
theorem dX9_counts_137 : decode cX9_counts 137 = .ok (.iastore, 1) := by decide +kernel
theorem dX9_counts_138 : decode cX9_counts 138 = .ok (.aload_n 0, 1) := by decide +kernel
theorem dX9_counts_139 : decode cX9_counts 139 = .ok (.getfield 42, 3) := by decide +kernel
theorem dX9_counts_142 : decode cX9_counts 142 = .ok (.iconst 0, 1) := by decide +kernel
theorem dX9_counts_143 : decode cX9_counts 143 = .ok (.iconst (-1), 1) := by decide +kernel
theorem dX9_counts_144 : decode cX9_counts 144 = .ok (.iastore, 1) := by decide +kernel
theorem dX9_counts_145 : decode cX9_counts 145 = .ok (.iload 4, 2) := by decide +kernel
theorem dX9_counts_147 : decode cX9_counts 147 = .ok (.ifCond .lt 156, 3) := by decide +kernel
theorem dX9_counts_150 : decode cX9_counts 150 = .ok (.aload_n 0, 1) := by decide +kernel
theorem dX9_counts_151 : decode cX9_counts 151 = .ok (.getfield 39, 3) := by decide +kernel
theorem dX9_counts_154 : decode cX9_counts 154 = .ok (.iload 4, 2) := by decide +kernel
theorem dX9_counts_156 : decode cX9_counts 156 = .ok (.iaload, 1) := by decide +kernel
theorem dX9_counts_157 : decode cX9_counts 157 = .ok (.istore 5, 2) := by decide +kernel
theorem dX9_counts_159 : decode cX9_counts 159 = .ok (.aload_n 0, 1) := by decide +kernel
theorem dX9_counts_160 : decode cX9_counts 160 = .ok (.getfield 39, 3) := by decide +kernel
theorem dX9_counts_163 : decode cX9_counts 163 = .ok (.iload 4, 2) := by decide +kernel
theorem dX9_counts_165 : decode cX9_counts 165 = .ok (.dup2, 1) := by decide +kernel
theorem dX9_counts_166 : decode cX9_counts 166 = .ok (.iaload, 1) := by decide +kernel
theorem dX9_counts_167 : decode cX9_counts 167 = .ok (.iconst 1, 1) := by decide +kernel
theorem dX9_counts_168 : decode cX9_counts 168 = .ok (.iadd, 1) := by decide +kernel
theorem dX9_counts_169 : decode cX9_counts 169 = .ok (.iastore, 1) := by decide +kernel
theorem dX9_counts_170 : decode cX9_counts 170 = .ok (.iload 5, 2) := by decide +kernel
theorem dX9_counts_172 : decode cX9_counts 172 = .ok (.iconst 4, 1) := by decide +kernel
theorem dX9_counts_173 : decode cX9_counts 173 = .ok (.if_icmp .ne 9, 3) := by decide +kernel
theorem dX9_counts_176 : decode cX9_counts 176 = .ok (.iinc 4 (-1), 3) := by decide +kernel
theorem dX9_counts_179 : decode cX9_counts 179 = .ok (.goto 121, 3) := by decide +kernel
theorem dX9_counts_182 : decode cX9_counts 182 = .ok (.iload 5, 2) := by decide +kernel
theorem dX9_counts_184 : decode cX9_counts 184 = .ok (.aload_n 0, 1) := by decide +kernel
theorem dX9_counts_185 : decode cX9_counts 185 = .ok (.getfield 42, 3) := by decide +kernel
theorem dX9_counts_188 : decode cX9_counts 188 = .ok (.iload 4, 2) := by decide +kernel
theorem dX9_counts_190 : decode cX9_counts 190 = .ok (.iaload, 1) := by decide +kernel
theorem dX9_counts_191 : decode cX9_counts 191 = .ok (.if_icmp .eq 109, 3) := by decide +kernel
theorem dX9_counts_194 : decode cX9_counts 194 = .ok (.aload_n 0, 1) := by decide +kernel
theorem dX9_counts_195 : decode cX9_counts 195 = .ok (.getfield 36, 3) := by decide +kernel
theorem dX9_counts_198 : decode cX9_counts 198 = .ok (.iconst 4, 1) := by decide +kernel
theorem dX9_counts_199 : decode cX9_counts 199 = .ok (.iload 4, 2) := by decide +kernel
theorem dX9_counts_201 : decode cX9_counts 201 = .ok (.imul, 1) := by decide +kernel
theorem dX9_counts_202 : decode cX9_counts 202 = .ok (.iload 5, 2) := by decide +kernel
theorem dX9_counts_204 : decode cX9_counts 204 = .ok (.invokestatic 149, 3) := by decide +kernel
theorem dX9_counts_207 : decode cX9_counts 207 = .ok (.iload_n 2, 1) := by decide +kernel
theorem dX9_counts_208 : decode cX9_counts 208 = .ok (.i2l, 1) := by decide +kernel
theorem dX9_counts_209 : decode cX9_counts 209 = .ok (.lcmp, 1) := by decide +kernel
theorem dX9_counts_210 : decode cX9_counts 210 = .ok (.ifCond .gt 90, 3) := by decide +kernel
theorem dX9_counts_213 : decode cX9_counts 213 = .ok (.iinc 3 1, 3) := by decide +kernel
theorem dX9_counts_216 : decode cX9_counts 216 = .ok (.iconst 0, 1) := by decide +kernel
theorem dX9_counts_217 : decode cX9_counts 217 = .ok (.istore 6, 2) := by decide +kernel
theorem dX9_counts_219 : decode cX9_counts 219 = .ok (.iload 6, 2) := by decide +kernel
theorem dX9_counts_221 : decode cX9_counts 221 = .ok (.iconst 4, 1) := by decide +kernel
theorem dX9_counts_222 : decode cX9_counts 222 = .ok (.if_icmp .ge 58, 3) := by decide +kernel
theorem dX9_counts_225 : decode cX9_counts 225 = .ok (.aload_n 0, 1) := by decide +kernel
theorem dX9_counts_226 : decode cX9_counts 226 = .ok (.getfield 36, 3) := by decide +kernel
theorem dX9_counts_229 : decode cX9_counts 229 = .ok (.iconst 4, 1) := by decide +kernel
theorem dX9_counts_230 : decode cX9_counts 230 = .ok (.iload 4, 2) := by decide +kernel
theorem dX9_counts_232 : decode cX9_counts 232 = .ok (.imul, 1) := by decide +kernel
theorem dX9_counts_233 : decode cX9_counts 233 = .ok (.iconst 4, 1) := by decide +kernel
theorem dX9_counts_234 : decode cX9_counts 234 = .ok (.iadd, 1) := by decide +kernel
theorem dX9_counts_235 : decode cX9_counts 235 = .ok (.iload 6, 2) := by decide +kernel
theorem dX9_counts_237 : decode cX9_counts 237 = .ok (.iadd, 1) := by decide +kernel
theorem dX9_counts_238 : decode cX9_counts 238 = .ok (.iload 6, 2) := by decide +kernel
theorem dX9_counts_240 : decode cX9_counts 240 = .ok (.iload 5, 2) := by decide +kernel
theorem dX9_counts_242 : decode cX9_counts 242 = .ok (.if_icmp .ne 19, 3) := by decide +kernel
theorem dX9_counts_245 : decode cX9_counts 245 = .ok (.aload_n 0, 1) := by decide +kernel
theorem dX9_counts_246 : decode cX9_counts 246 = .ok (.getfield 36, 3) := by decide +kernel
theorem dX9_counts_249 : decode cX9_counts 249 = .ok (.iconst 4, 1) := by decide +kernel
theorem dX9_counts_250 : decode cX9_counts 250 = .ok (.iload 4, 2) := by decide +kernel
theorem dX9_counts_252 : decode cX9_counts 252 = .ok (.imul, 1) := by decide +kernel
theorem dX9_counts_253 : decode cX9_counts 253 = .ok (.iload 5, 2) := by decide +kernel
theorem dX9_counts_255 : decode cX9_counts 255 = .ok (.invokestatic 149, 3) := by decide +kernel
theorem dX9_counts_258 : decode cX9_counts 258 = .ok (.goto 15, 3) := by decide +kernel
theorem dX9_counts_261 : decode cX9_counts 261 = .ok (.aload_n 0, 1) := by decide +kernel
theorem dX9_counts_262 : decode cX9_counts 262 = .ok (.getfield 36, 3) := by decide +kernel
theorem dX9_counts_265 : decode cX9_counts 265 = .ok (.iconst 4, 1) := by decide +kernel
theorem dX9_counts_266 : decode cX9_counts 266 = .ok (.iload 4, 2) := by decide +kernel
theorem dX9_counts_268 : decode cX9_counts 268 = .ok (.imul, 1) := by decide +kernel
theorem dX9_counts_269 : decode cX9_counts 269 = .ok (.iload 6, 2) := by decide +kernel
theorem dX9_counts_271 : decode cX9_counts 271 = .ok (.iadd, 1) := by decide +kernel
theorem dX9_counts_272 : decode cX9_counts 272 = .ok (.laload, 1) := by decide +kernel
theorem dX9_counts_273 : decode cX9_counts 273 = .ok (.lastore, 1) := by decide +kernel
theorem dX9_counts_274 : decode cX9_counts 274 = .ok (.iinc 6 1, 3) := by decide +kernel
theorem dX9_counts_277 : decode cX9_counts 277 = .ok (.goto (-58), 3) := by decide +kernel
theorem dX9_counts_280 : decode cX9_counts 280 = .ok (.iinc 4 1, 3) := by decide +kernel
theorem dX9_counts_283 : decode cX9_counts 283 = .ok (.aload_n 0, 1) := by decide +kernel
theorem dX9_counts_284 : decode cX9_counts 284 = .ok (.getfield 39, 3) := by decide +kernel
theorem dX9_counts_287 : decode cX9_counts 287 = .ok (.iload 4, 2) := by decide +kernel
theorem dX9_counts_289 : decode cX9_counts 289 = .ok (.iconst 0, 1) := by decide +kernel
theorem dX9_counts_290 : decode cX9_counts 290 = .ok (.iastore, 1) := by decide +kernel
theorem dX9_counts_291 : decode cX9_counts 291 = .ok (.aload_n 0, 1) := by decide +kernel
theorem dX9_counts_292 : decode cX9_counts 292 = .ok (.getfield 42, 3) := by decide +kernel
theorem dX9_counts_295 : decode cX9_counts 295 = .ok (.iload 4, 2) := by decide +kernel
theorem dX9_counts_297 : decode cX9_counts 297 = .ok (.iload 5, 2) := by decide +kernel
theorem dX9_counts_299 : decode cX9_counts 299 = .ok (.iastore, 1) := by decide +kernel
theorem dX9_counts_300 : decode cX9_counts 300 = .ok (.goto (-155), 3) := by decide +kernel
theorem dX9_counts_303 : decode cX9_counts 303 = .ok (.iload_n 3, 1) := by decide +kernel
theorem dX9_counts_304 : decode cX9_counts 304 = .ok (.ireturn, 1) := by decide +kernel
set_option maxRecDepth 20000 in
theorem ggX9_count_X9_counts : GoodIn wsX9_count wsX9_counts := goodIn_r _ [5, 6, 7, 8, 9, 10, 11, 12, 13, 14, 4, 15, 16, 17, 18, 19, 20, 21, 22, 23, 24, 25, 26, 27, 28, 29, 30, 31, 32, 33, 34, 35, 36, 37, 38, 39, 40, 41, 42, 43, 44, 45, 46, 47, 48, 49, 50, 51, 52, 53, 54, 55, 56] (by decide +kernel) (by decide +kernel)
set_option maxRecDepth 20000 in
theorem gX9_count_X9_counts : GoodIn wsX9_count (wsV RX9 161 RX9 yX9_counts wsX9_counts) := goodIn_app (goodIn_of _ (by decide +kernel)) ggX9_count_X9_counts
theorem dX9_count_0 : decode cX9_count 0 = .ok (.aload_n 0, 1) := by decide +kernel
theorem dX9_count_1 : decode cX9_count 1 = .ok (.iload_n 1, 1) := by decide +kernel
theorem dX9_count_2 : decode cX9_count 2 = .ok (.iload_n 2, 1) := by decide +kernel
theorem dX9_count_3 : decode cX9_count 3 = .ok (.invokevirtual 161, 3) := by decide +kernel
theorem dX9_count_6 : decode cX9_count 6 = .ok (.ireturn, 1) := by decide +kernel
set_option maxRecDepth 20000 in
theorem ggX9_countAnew_X9_counts : GoodIn wsX9_countAnew wsX9_counts := goodIn_r _ [5, 6, 7, 8, 9, 10, 11, 12, 13, 14, 4, 15, 16, 17, 18, 19, 20, 21, 22, 23, 24, 25, 26, 27, 28, 29, 30, 31, 32, 33, 34, 35, 36, 37, 38, 39, 40, 41, 42, 43, 44, 45, 46, 47, 48, 49, 50, 51, 52, 53, 54, 55, 56] (by decide +kernel) (by decide +kernel)
set_option maxRecDepth 20000 in
theorem gX9_countAnew_X9_counts : GoodIn wsX9_countAnew (wsV RX9 161 RX9 yX9_counts wsX9_counts) := goodIn_app (goodIn_of _ (by decide +kernel)) ggX9_countAnew_X9_counts
theorem dX9_countAnew_0 : decode cX9_countAnew 0 = .ok (.aload_n 0, 1) := by decide +kernel
theorem dX9_countAnew_1 : decode cX9_countAnew 1 = .ok (.iload_n 1, 1) := by decide +kernel
theorem dX9_countAnew_2 : decode cX9_countAnew 2 = .ok (.iload_n 2, 1) := by decide +kernel
theorem dX9_countAnew_3 : decode cX9_countAnew 3 = .ok (.invokevirtual 161, 3) := by decide +kernel
theorem dX9_countAnew_6 : decode cX9_countAnew 6 = .ok (.ireturn, 1) := by decide +kernel
theorem dX9_rest_0 : decode cX9_rest 0 = .ok (.lload_n 0, 1) := by decide +kernel
theorem dX9_rest_1 : decode cX9_rest 1 = .ok (.iload_n 2, 1) := by decide +kernel
theorem dX9_rest_2 : decode cX9_rest 2 = .ok (.i2l, 1) := by decide +kernel
theorem dX9_rest_3 : decode cX9_rest 3 = .ok (.lrem, 1) := by decide +kernel
theorem dX9_rest_4 : decode cX9_rest 4 = .ok (.iload_n 2, 1) := by decide +kernel
theorem dX9_rest_5 : decode cX9_rest 5 = .ok (.i2l, 1) := by decide +kernel
theorem dX9_rest_6 : decode cX9_rest 6 = .ok (.ladd, 1) := by decide +kernel
theorem dX9_rest_7 : decode cX9_rest 7 = .ok (.iload_n 2, 1) := by decide +kernel
theorem dX9_rest_8 : decode cX9_rest 8 = .ok (.i2l, 1) := by decide +kernel
theorem dX9_rest_9 : decode cX9_rest 9 = .ok (.lrem, 1) := by decide +kernel
theorem dX9_rest_10 : decode cX9_rest 10 = .ok (.l2i, 1) := by decide +kernel
theorem dX9_rest_11 : decode cX9_rest 11 = .ok (.ireturn, 1) := by decide +kernel
set_option maxRecDepth 20000 in
theorem ggX9_remainders_X9_isGasket : GoodIn wsX9_remainders wsX9_isGasket := goodIn_r _ [11, 12, 13, 14, 10, 15, 19, 20, 21, 22, 23, 24, 25, 26, 27, 28, 29, 30, 31, 32, 33, 34, 35, 36, 37, 38, 39, 40, 41, 42, 43, 44, 45, 46] (by decide +kernel) (by decide +kernel)
set_option maxRecDepth 20000 in
theorem gX9_remainders_X9_isGasket : GoodIn wsX9_remainders (wsV RX9 141 RX9 yX9_isGasket wsX9_isGasket) := goodIn_app (goodIn_of _ (by decide +kernel)) ggX9_remainders_X9_isGasket
set_option maxRecDepth 20000 in
theorem ggX9_remainders_X9_isIn : GoodIn wsX9_remainders wsX9_isIn := goodIn_r _ [15] (by decide +kernel) (by decide +kernel)
set_option maxRecDepth 20000 in
theorem gX9_remainders_X9_isIn : GoodIn wsX9_remainders (va_wsS RX9 83 yX9_isIn wsX9_isIn) := goodIn_app (goodIn_of _ (by decide +kernel)) ggX9_remainders_X9_isIn
set_option maxRecDepth 20000 in
theorem ggX9_remainders_X9_rest : GoodIn wsX9_remainders wsX9_rest := goodIn_r _ [18] (by decide +kernel) (by decide +kernel)
set_option maxRecDepth 20000 in
theorem gX9_remainders_X9_rest : GoodIn wsX9_remainders (va_wsS RX9 166 yX9_rest wsX9_rest) := goodIn_app (goodIn_of _ (by decide +kernel)) ggX9_remainders_X9_rest
theorem dX9_remainders_0 : decode cX9_remainders 0 = .ok (.aload_n 0, 1) := by decide +kernel
theorem dX9_remainders_1 : decode cX9_remainders 1 = .ok (.aload_n 0, 1) := by decide +kernel
theorem dX9_remainders_2 : decode cX9_remainders 2 = .ok (.iload_n 1, 1) := by decide +kernel
theorem dX9_remainders_3 : decode cX9_remainders 3 = .ok (.invokevirtual 141, 3) := by decide +kernel
theorem dX9_remainders_6 : decode cX9_remainders 6 = .ok (.ifCond .ne 7, 3) := by decide +kernel
theorem dX9_remainders_9 : decode cX9_remainders 9 = .ok (.iconst 1, 1) := by decide +kernel
theorem dX9_remainders_10 : decode cX9_remainders 10 = .ok (.goto 22, 3) := by decide +kernel
theorem dX9_remainders_13 : decode cX9_remainders 13 = .ok (.iload_n 2, 1) := by decide +kernel
theorem dX9_remainders_14 : decode cX9_remainders 14 = .ok (.i2l, 1) := by decide +kernel
theorem dX9_remainders_15 : decode cX9_remainders 15 = .ok (.ldc2_w 109, 3) := by decide +kernel
theorem dX9_remainders_18 : decode cX9_remainders 18 = .ok (.ldc2_w 164, 3) := by decide +kernel
theorem dX9_remainders_21 : decode cX9_remainders 21 = .ok (.invokestatic 83, 3) := by decide +kernel
theorem dX9_remainders_24 : decode cX9_remainders 24 = .ok (.ifCond .ne 7, 3) := by decide +kernel
theorem dX9_remainders_27 : decode cX9_remainders 27 = .ok (.iconst 2, 1) := by decide +kernel
theorem dX9_remainders_28 : decode cX9_remainders 28 = .ok (.goto 4, 3) := by decide +kernel
theorem dX9_remainders_31 : decode cX9_remainders 31 = .ok (.iconst 0, 1) := by decide +kernel
theorem dX9_remainders_32 : decode cX9_remainders 32 = .ok (.putfield 80, 3) := by decide +kernel
theorem dX9_remainders_35 : decode cX9_remainders 35 = .ok (.aload_n 0, 1) := by decide +kernel
theorem dX9_remainders_36 : decode cX9_remainders 36 = .ok (.getfield 80, 3) := by decide +kernel
theorem dX9_remainders_39 : decode cX9_remainders 39 = .ok (.ifCond .le 5, 3) := by decide +kernel
theorem dX9_remainders_42 : decode cX9_remainders 42 = .ok (.iconst 0, 1) := by decide +kernel
theorem dX9_remainders_43 : decode cX9_remainders 43 = .ok (.ireturn, 1) := by decide +kernel
theorem dX9_remainders_44 : decode cX9_remainders 44 = .ok (.iconst 0, 1) := by decide +kernel
theorem dX9_remainders_45 : decode cX9_remainders 45 = .ok (.istore_n 3, 1) := by decide +kernel
theorem dX9_remainders_46 : decode cX9_remainders 46 = .ok (.iload_n 3, 1) := by decide +kernel
theorem dX9_remainders_47 : decode cX9_remainders 47 = .ok (.sipush 4096, 3) := by decide +kernel
theorem dX9_remainders_50 : decode cX9_remainders 50 = .ok (.if_icmp .ge 16, 3) := by decide +kernel
theorem dX9_remainders_53 : decode cX9_remainders 53 = .ok (.aload_n 0, 1) := by decide +kernel
theorem dX9_remainders_54 : decode cX9_remainders 54 = .ok (.getfield 45, 3) := by decide +kernel
theorem dX9_remainders_57 : decode cX9_remainders 57 = .ok (.iload_n 3, 1) := by decide +kernel
theorem dX9_remainders_58 : decode cX9_remainders 58 = .ok (.iconst 0, 1) := by decide +kernel
theorem dX9_remainders_59 : decode cX9_remainders 59 = .ok (.bastore, 1) := by decide +kernel
theorem dX9_remainders_60 : decode cX9_remainders 60 = .ok (.iinc 3 1, 3) := by decide +kernel
theorem dX9_remainders_63 : decode cX9_remainders 63 = .ok (.goto (-17), 3) := by decide +kernel
theorem dX9_remainders_66 : decode cX9_remainders 66 = .ok (.iconst 0, 1) := by decide +kernel
theorem dX9_remainders_67 : decode cX9_remainders 67 = .ok (.istore_n 3, 1) := by decide +kernel
theorem dX9_remainders_68 : decode cX9_remainders 68 = .ok (.iconst 0, 1) := by decide +kernel
theorem dX9_remainders_69 : decode cX9_remainders 69 = .ok (.istore 4, 2) := by decide +kernel
theorem dX9_remainders_71 : decode cX9_remainders 71 = .ok (.iload 4, 2) := by decide +kernel
theorem dX9_remainders_73 : decode cX9_remainders 73 = .ok (.iconst 4, 1) := by decide +kernel
theorem dX9_remainders_74 : decode cX9_remainders 74 = .ok (.if_icmp .ge 30, 3) := by decide +kernel
theorem dX9_remainders_77 : decode cX9_remainders 77 = .ok (.bipush 8, 2) := by decide +kernel
theorem dX9_remainders_79 : decode cX9_remainders 79 = .ok (.iload_n 3, 1) := by decide +kernel
theorem dX9_remainders_80 : decode cX9_remainders 80 = .ok (.imul, 1) := by decide +kernel
theorem dX9_remainders_81 : decode cX9_remainders 81 = .ok (.aload_n 0, 1) := by decide +kernel
theorem dX9_remainders_82 : decode cX9_remainders 82 = .ok (.getfield 29, 3) := by decide +kernel
theorem dX9_remainders_85 : decode cX9_remainders 85 = .ok (.iconst 4, 1) := by decide +kernel
theorem dX9_remainders_86 : decode cX9_remainders 86 = .ok (.iload_n 1, 1) := by decide +kernel
theorem dX9_remainders_87 : decode cX9_remainders 87 = .ok (.imul, 1) := by decide +kernel
theorem dX9_remainders_88 : decode cX9_remainders 88 = .ok (.iload 4, 2) := by decide +kernel
theorem dX9_remainders_90 : decode cX9_remainders 90 = .ok (.iadd, 1) := by decide +kernel
theorem dX9_remainders_91 : decode cX9_remainders 91 = .ok (.laload, 1) := by decide +kernel
theorem dX9_remainders_92 : decode cX9_remainders 92 = .ok (.iload_n 2, 1) := by decide +kernel
theorem dX9_remainders_93 : decode cX9_remainders 93 = .ok (.invokestatic 166, 3) := by decide +kernel
theorem dX9_remainders_96 : decode cX9_remainders 96 = .ok (.iadd, 1) := by decide +kernel
theorem dX9_remainders_97 : decode cX9_remainders 97 = .ok (.istore_n 3, 1) := by decide +kernel
theorem dX9_remainders_98 : decode cX9_remainders 98 = .ok (.iinc 4 1, 3) := by decide +kernel
theorem dX9_remainders_101 : decode cX9_remainders 101 = .ok (.goto (-30), 3) := by decide +kernel
theorem dX9_remainders_104 : decode cX9_remainders 104 = .ok (.iconst 1, 1) := by decide +kernel
theorem dX9_remainders_105 : decode cX9_remainders 105 = .ok (.istore 4, 2) := by decide +kernel
theorem dX9_remainders_107 : decode cX9_remainders 107 = .ok (.aload_n 0, 1) := by decide +kernel
theorem dX9_remainders_108 : decode cX9_remainders 108 = .ok (.getfield 49, 3) := by decide +kernel
theorem dX9_remainders_111 : decode cX9_remainders 111 = .ok (.iconst 0, 1) := by decide +kernel
theorem dX9_remainders_112 : decode cX9_remainders 112 = .ok (.iload_n 3, 1) := by decide +kernel
theorem dX9_remainders_113 : decode cX9_remainders 113 = .ok (.iastore, 1) := by decide +kernel
theorem dX9_remainders_114 : decode cX9_remainders 114 = .ok (.aload_n 0, 1) := by decide +kernel
theorem dX9_remainders_115 : decode cX9_remainders 115 = .ok (.getfield 45, 3) := by decide +kernel
theorem dX9_remainders_118 : decode cX9_remainders 118 = .ok (.iload_n 3, 1) := by decide +kernel
theorem dX9_remainders_119 : decode cX9_remainders 119 = .ok (.iconst 1, 1) := by decide +kernel
theorem dX9_remainders_120 : decode cX9_remainders 120 = .ok (.bastore, 1) := by decide +kernel
theorem dX9_remainders_121 : decode cX9_remainders 121 = .ok (.iconst 0, 1) := by decide +kernel
theorem dX9_remainders_122 : decode cX9_remainders 122 = .ok (.istore 5, 2) := by decide +kernel
theorem dX9_remainders_124 : decode cX9_remainders 124 = .ok (.iconst 0, 1) := by decide +kernel
theorem dX9_remainders_125 : decode cX9_remainders 125 = .ok (.istore 6, 2) := by decide +kernel
theorem dX9_remainders_127 : decode cX9_remainders 127 = .ok (.iload 6, 2) := by decide +kernel
theorem dX9_remainders_129 : decode cX9_remainders 129 = .ok (.iload 4, 2) := by decide +kernel
theorem dX9_remainders_131 : decode cX9_remainders 131 = .ok (.if_icmp .ge 167, 3) := by decide +kernel
theorem dX9_remainders_134 : decode cX9_remainders 134 = .ok (.iconst 0, 1) := by decide +kernel
theorem dX9_remainders_135 : decode cX9_remainders 135 = .ok (.istore 7, 2) := by decide +kernel
theorem dX9_remainders_137 : decode cX9_remainders 137 = .ok (.iconst 0, 1) := by decide +kernel
theorem dX9_remainders_138 : decode cX9_remainders 138 = .ok (.istore 8, 2) := by decide +kernel
theorem dX9_remainders_140 : decode cX9_remainders 140 = .ok (.iload 8, 2) := by decide +kernel
theorem dX9_remainders_142 : decode cX9_remainders 142 = .ok (.iconst 4, 1) := by decide +kernel
theorem dX9_remainders_143 : decode cX9_remainders 143 = .ok (.if_icmp .ge 51, 3) := by decide +kernel
theorem dX9_remainders_146 : decode cX9_remainders 146 = .ok (.iload 7, 2) := by decide +kernel
theorem dX9_remainders_148 : decode cX9_remainders 148 = .ok (.aload_n 0, 1) := by decide +kernel
theorem dX9_remainders_149 : decode cX9_remainders 149 = .ok (.getfield 49, 3) := by decide +kernel
theorem dX9_remainders_152 : decode cX9_remainders 152 = .ok (.iload 6, 2) := by decide +kernel
theorem dX9_remainders_154 : decode cX9_remainders 154 = .ok (.iaload, 1) := by decide +kernel
theorem dX9_remainders_155 : decode cX9_remainders 155 = .ok (.iconst 3, 1) := by decide +kernel
theorem dX9_remainders_156 : decode cX9_remainders 156 = .ok (.iload 8, 2) := by decide +kernel
theorem dX9_remainders_158 : decode cX9_remainders 158 = .ok (.imul, 1) := by decide +kernel
theorem dX9_remainders_159 : decode cX9_remainders 159 = .ok (.ishr, 1) := by decide +kernel
theorem dX9_remainders_160 : decode cX9_remainders 160 = .ok (.bipush 7, 2) := by decide +kernel
theorem dX9_remainders_162 : decode cX9_remainders 162 = .ok (.iand, 1) := by decide +kernel
theorem dX9_remainders_163 : decode cX9_remainders 163 = .ok (.iadd, 1) := by decide +kernel
theorem dX9_remainders_164 : decode cX9_remainders 164 = .ok (.istore 7, 2) := by decide +kernel
theorem dX9_remainders_166 : decode cX9_remainders 166 = .ok (.iload 5, 2) := by decide +kernel
theorem dX9_remainders_168 : decode cX9_remainders 168 = .ok (.iconst 1, 1) := by decide +kernel
theorem dX9_remainders_169 : decode cX9_remainders 169 = .ok (.aload_n 0, 1) := by decide +kernel
theorem dX9_remainders_170 : decode cX9_remainders 170 = .ok (.getfield 49, 3) := by decide +kernel
theorem dX9_remainders_173 : decode cX9_remainders 173 = .ok (.iload 6, 2) := by decide +kernel
theorem dX9_remainders_175 : decode cX9_remainders 175 = .ok (.iaload, 1) := by decide +kernel
theorem dX9_remainders_176 : decode cX9_remainders 176 = .ok (.iconst 3, 1) := by decide +kernel
theorem dX9_remainders_177 : decode cX9_remainders 177 = .ok (.iload 8, 2) := by decide +kernel
theorem dX9_remainders_179 : decode cX9_remainders 179 = .ok (.imul, 1) := by decide +kernel
theorem dX9_remainders_180 : decode cX9_remainders 180 = .ok (.ishr, 1) := by decide +kernel
theorem dX9_remainders_181 : decode cX9_remainders 181 = .ok (.bipush 7, 2) := by decide +kernel
theorem dX9_remainders_183 : decode cX9_remainders 183 = .ok (.iand, 1) := by decide +kernel
theorem dX9_remainders_184 : decode cX9_remainders 184 = .ok (.ishl, 1) := by decide +kernel
theorem dX9_remainders_185 : decode cX9_remainders 185 = .ok (.ior, 1) := by decide +kernel
theorem dX9_remainders_186 : decode cX9_remainders 186 = .ok (.istore 5, 2) := by decide +kernel
theorem dX9_remainders_188 : decode cX9_remainders 188 = .ok (.iinc 8 1, 3) := by decide +kernel
theorem dX9_remainders_191 : decode cX9_remainders 191 = .ok (.goto (-51), 3) := by decide +kernel
theorem dX9_remainders_194 : decode cX9_remainders 194 = .ok (.iconst 0, 1) := by decide +kernel
theorem dX9_remainders_195 : decode cX9_remainders 195 = .ok (.istore 8, 2) := by decide +kernel
theorem dX9_remainders_197 : decode cX9_remainders 197 = .ok (.iload 8, 2) := by decide +kernel
theorem dX9_remainders_199 : decode cX9_remainders 199 = .ok (.iconst 4, 1) := by decide +kernel
theorem dX9_remainders_200 : decode cX9_remainders 200 = .ok (.if_icmp .ge 92, 3) := by decide +kernel
theorem dX9_remainders_203 : decode cX9_remainders 203 = .ok (.aload_n 0, 1) := by decide +kernel
theorem dX9_remainders_204 : decode cX9_remainders 204 = .ok (.getfield 49, 3) := by decide +kernel
theorem dX9_remainders_207 : decode cX9_remainders 207 = .ok (.iload 6, 2) := by decide +kernel
theorem dX9_remainders_209 : decode cX9_remainders 209 = .ok (.iaload, 1) := by decide +kernel
theorem dX9_remainders_210 : decode cX9_remainders 210 = .ok (.iconst 3, 1) := by decide +kernel
theorem dX9_remainders_211 : decode cX9_remainders 211 = .ok (.iload 8, 2) := by decide +kernel
theorem dX9_remainders_213 : decode cX9_remainders 213 = .ok (.imul, 1) := by decide +kernel
theorem dX9_remainders_214 : decode cX9_remainders 214 = .ok (.ishr, 1) := by decide +kernel
theorem dX9_remainders_215 : decode cX9_remainders 215 = .ok (.bipush 7, 2) := by decide +kernel
theorem dX9_remainders_217 : decode cX9_remainders 217 = .ok (.iand, 1) := by decide +kernel
theorem dX9_remainders_218 : decode cX9_remainders 218 = .ok (.istore 9, 2) := by decide +kernel
theorem dX9_remainders_220 : decode cX9_remainders 220 = .ok (.aload_n 0, 1) := by decide +kernel
theorem dX9_remainders_221 : decode cX9_remainders 221 = .ok (.getfield 49, 3) := by decide +kernel
theorem dX9_remainders_224 : decode cX9_remainders 224 = .ok (.iload 6, 2) := by decide +kernel
theorem dX9_remainders_226 : decode cX9_remainders 226 = .ok (.iaload, 1) := by decide +kernel
theorem dX9_remainders_227 : decode cX9_remainders 227 = .ok (.ldc2_w 109, 3) := by decide +kernel
theorem dX9_remainders_230 : decode cX9_remainders 230 = .ok (.iload 7, 2) := by decide +kernel
theorem dX9_remainders_232 : decode cX9_remainders 232 = .ok (.iload 9, 2) := by decide +kernel
theorem dX9_remainders_234 : decode cX9_remainders 234 = .ok (.isub, 1) := by decide +kernel
theorem dX9_remainders_235 : decode cX9_remainders 235 = .ok (.i2l, 1) := by decide +kernel
theorem dX9_remainders_236 : decode cX9_remainders 236 = .ok (.lmul, 1) := by decide +kernel
theorem dX9_remainders_237 : decode cX9_remainders 237 = .ok (.iload 9, 2) := by decide +kernel
theorem dX9_remainders_239 : decode cX9_remainders 239 = .ok (.i2l, 1) := by decide +kernel
theorem dX9_remainders_240 : decode cX9_remainders 240 = .ok (.lsub, 1) := by decide +kernel
theorem dX9_remainders_241 : decode cX9_remainders 241 = .ok (.iload_n 2, 1) := by decide +kernel
theorem dX9_remainders_242 : decode cX9_remainders 242 = .ok (.invokestatic 166, 3) := by decide +kernel
theorem dX9_remainders_245 : decode cX9_remainders 245 = .ok (.iload 9, 2) := by decide +kernel
theorem dX9_remainders_247 : decode cX9_remainders 247 = .ok (.isub, 1) := by decide +kernel
theorem dX9_remainders_248 : decode cX9_remainders 248 = .ok (.iconst 3, 1) := by decide +kernel
theorem dX9_remainders_249 : decode cX9_remainders 249 = .ok (.iload 8, 2) := by decide +kernel
theorem dX9_remainders_251 : decode cX9_remainders 251 = .ok (.imul, 1) := by decide +kernel
theorem dX9_remainders_252 : decode cX9_remainders 252 = .ok (.ishl, 1) := by decide +kernel
theorem dX9_remainders_253 : decode cX9_remainders 253 = .ok (.iadd, 1) := by decide +kernel
theorem dX9_remainders_254 : decode cX9_remainders 254 = .ok (.istore 10, 2) := by decide +kernel
theorem dX9_remainders_256 : decode cX9_remainders 256 = .ok (.aload_n 0, 1) := by decide +kernel
theorem dX9_remainders_257 : decode cX9_remainders 257 = .ok (.getfield 45, 3) := by decide +kernel
theorem dX9_remainders_260 : decode cX9_remainders 260 = .ok (.iload 10, 2) := by decide +kernel
theorem dX9_remainders_262 : decode cX9_remainders 262 = .ok (.baload, 1) := by decide +kernel
theorem dX9_remainders_263 : decode cX9_remainders 263 = .ok (.ifCond .ne 23, 3) := by decide +kernel
theorem dX9_remainders_266 : decode cX9_remainders 266 = .ok (.aload_n 0, 1) := by decide +kernel
theorem dX9_remainders_267 : decode cX9_remainders 267 = .ok (.getfield 45, 3) := by decide +kernel
theorem dX9_remainders_270 : decode cX9_remainders 270 = .ok (.iload 10, 2) := by decide +kernel
theorem dX9_remainders_272 : decode cX9_remainders 272 = .ok (.iconst 1, 1) := by decide +kernel
theorem dX9_remainders_273 : decode cX9_remainders 273 = .ok (.bastore, 1) := by decide +kernel
theorem dX9_remainders_274 : decode cX9_remainders 274 = .ok (.aload_n 0, 1) := by decide +kernel
theorem dX9_remainders_275 : decode cX9_remainders 275 = .ok (.getfield 49, 3) := by decide +kernel
theorem dX9_remainders_278 : decode cX9_remainders 278 = .ok (.iload 4, 2) := by decide +kernel
theorem dX9_remainders_280 : decode cX9_remainders 280 = .ok (.iload 10, 2) := by decide +kernel
theorem dX9_remainders_282 : decode cX9_remainders 282 = .ok (.iastore, 1) := by decide +kernel
theorem dX9_remainders_283 : decode cX9_remainders 283 = .ok (.iinc 4 1, 3) := by decide +kernel
theorem dX9_remainders_286 : decode cX9_remainders 286 = .ok (.iinc 8 1, 3) := by decide +kernel
theorem dX9_remainders_289 : decode cX9_remainders 289 = .ok (.goto (-92), 3) := by decide +kernel
theorem dX9_remainders_292 : decode cX9_remainders 292 = .ok (.iinc 6 1, 3) := by decide +kernel
theorem dX9_remainders_295 : decode cX9_remainders 295 = .ok (.goto (-168), 3) := by decide +kernel
theorem dX9_remainders_298 : decode cX9_remainders 298 = .ok (.iload 5, 2) := by decide +kernel
theorem dX9_remainders_300 : decode cX9_remainders 300 = .ok (.ireturn, 1) := by decide +kernel
theorem dX9_divisor_0 : decode cX9_divisor 0 = .ok (.lload_n 0, 1) := by decide +kernel
theorem dX9_divisor_1 : decode cX9_divisor 1 = .ok (.lconst 0, 1) := by decide +kernel
theorem dX9_divisor_2 : decode cX9_divisor 2 = .ok (.lcmp, 1) := by decide +kernel
theorem dX9_divisor_3 : decode cX9_divisor 3 = .ok (.ifCond .ge 8, 3) := by decide +kernel
theorem dX9_divisor_6 : decode cX9_divisor 6 = .ok (.lload_n 0, 1) := by decide +kernel
theorem dX9_divisor_7 : decode cX9_divisor 7 = .ok (.lneg, 1) := by decide +kernel
theorem dX9_divisor_8 : decode cX9_divisor 8 = .ok (.goto 4, 3) := by decide +kernel
theorem dX9_divisor_11 : decode cX9_divisor 11 = .ok (.lload_n 0, 1) := by decide +kernel
theorem dX9_divisor_12 : decode cX9_divisor 12 = .ok (.lstore 4, 2) := by decide +kernel
theorem dX9_divisor_14 : decode cX9_divisor 14 = .ok (.lload_n 2, 1) := by decide +kernel
theorem dX9_divisor_15 : decode cX9_divisor 15 = .ok (.lconst 0, 1) := by decide +kernel
theorem dX9_divisor_16 : decode cX9_divisor 16 = .ok (.lcmp, 1) := by decide +kernel
theorem dX9_divisor_17 : decode cX9_divisor 17 = .ok (.ifCond .ge 8, 3) := by decide +kernel
theorem dX9_divisor_20 : decode cX9_divisor 20 = .ok (.lload_n 2, 1) := by decide +kernel
theorem dX9_divisor_21 : decode cX9_divisor 21 = .ok (.lneg, 1) := by decide +kernel
theorem dX9_divisor_22 : decode cX9_divisor 22 = .ok (.goto 4, 3) := by decide +kernel
theorem dX9_divisor_25 : decode cX9_divisor 25 = .ok (.lload_n 2, 1) := by decide +kernel
theorem dX9_divisor_26 : decode cX9_divisor 26 = .ok (.lstore 6, 2) := by decide +kernel
theorem dX9_divisor_28 : decode cX9_divisor 28 = .ok (.lload 6, 2) := by decide +kernel
theorem dX9_divisor_30 : decode cX9_divisor 30 = .ok (.lconst 0, 1) := by decide +kernel
theorem dX9_divisor_31 : decode cX9_divisor 31 = .ok (.lcmp, 1) := by decide +kernel
theorem dX9_divisor_32 : decode cX9_divisor 32 = .ok (.ifCond .eq 21, 3) := by decide +kernel
theorem dX9_divisor_35 : decode cX9_divisor 35 = .ok (.lload 4, 2) := by decide +kernel
theorem dX9_divisor_37 : decode cX9_divisor 37 = .ok (.lload 6, 2) := by decide +kernel
theorem dX9_divisor_39 : decode cX9_divisor 39 = .ok (.lrem, 1) := by decide +kernel
theorem dX9_divisor_40 : decode cX9_divisor 40 = .ok (.lstore 8, 2) := by decide +kernel
theorem dX9_divisor_42 : decode cX9_divisor 42 = .ok (.lload 6, 2) := by decide +kernel
theorem dX9_divisor_44 : decode cX9_divisor 44 = .ok (.lstore 4, 2) := by decide +kernel
theorem dX9_divisor_46 : decode cX9_divisor 46 = .ok (.lload 8, 2) := by decide +kernel
theorem dX9_divisor_48 : decode cX9_divisor 48 = .ok (.lstore 6, 2) := by decide +kernel
theorem dX9_divisor_50 : decode cX9_divisor 50 = .ok (.goto (-22), 3) := by decide +kernel
theorem dX9_divisor_53 : decode cX9_divisor 53 = .ok (.lload 4, 2) := by decide +kernel
theorem dX9_divisor_55 : decode cX9_divisor 55 = .ok (.lreturn, 1) := by decide +kernel
set_option maxRecDepth 20000 in
theorem ggX9_isFraction_X9_isIn : GoodIn wsX9_isFraction wsX9_isIn := goodIn_r _ [6] (by decide +kernel) (by decide +kernel)
set_option maxRecDepth 20000 in
theorem gX9_isFraction_X9_isIn : GoodIn wsX9_isFraction (va_wsS RX9 83 yX9_isIn wsX9_isIn) := goodIn_app (goodIn_of _ (by decide +kernel)) ggX9_isFraction_X9_isIn
set_option maxRecDepth 20000 in
theorem ggX9_isFraction_X9_divisor : GoodIn wsX9_isFraction wsX9_divisor := goodIn_r _ [9] (by decide +kernel) (by decide +kernel)
set_option maxRecDepth 20000 in
theorem gX9_isFraction_X9_divisor : GoodIn wsX9_isFraction (va_wsS RX9 170 yX9_divisor wsX9_divisor) := goodIn_app (goodIn_of _ (by decide +kernel)) ggX9_isFraction_X9_divisor
theorem dX9_isFraction_0 : decode cX9_isFraction 0 = .ok (.iload_n 0, 1) := by decide +kernel
theorem dX9_isFraction_1 : decode cX9_isFraction 1 = .ok (.i2l, 1) := by decide +kernel
theorem dX9_isFraction_2 : decode cX9_isFraction 2 = .ok (.ldc2_w 117, 3) := by decide +kernel
theorem dX9_isFraction_5 : decode cX9_isFraction 5 = .ok (.ldc2_w 119, 3) := by decide +kernel
theorem dX9_isFraction_8 : decode cX9_isFraction 8 = .ok (.invokestatic 83, 3) := by decide +kernel
theorem dX9_isFraction_11 : decode cX9_isFraction 11 = .ok (.ifCond .eq 32, 3) := by decide +kernel
theorem dX9_isFraction_14 : decode cX9_isFraction 14 = .ok (.iload_n 1, 1) := by decide +kernel
theorem dX9_isFraction_15 : decode cX9_isFraction 15 = .ok (.i2l, 1) := by decide +kernel
theorem dX9_isFraction_16 : decode cX9_isFraction 16 = .ok (.iload_n 2, 1) := by decide +kernel
theorem dX9_isFraction_17 : decode cX9_isFraction 17 = .ok (.i2l, 1) := by decide +kernel
theorem dX9_isFraction_18 : decode cX9_isFraction 18 = .ok (.ldc2_w 119, 3) := by decide +kernel
theorem dX9_isFraction_21 : decode cX9_isFraction 21 = .ok (.invokestatic 83, 3) := by decide +kernel
theorem dX9_isFraction_24 : decode cX9_isFraction 24 = .ok (.ifCond .eq 19, 3) := by decide +kernel
theorem dX9_isFraction_27 : decode cX9_isFraction 27 = .ok (.iload_n 0, 1) := by decide +kernel
theorem dX9_isFraction_28 : decode cX9_isFraction 28 = .ok (.i2l, 1) := by decide +kernel
theorem dX9_isFraction_29 : decode cX9_isFraction 29 = .ok (.iload_n 1, 1) := by decide +kernel
theorem dX9_isFraction_30 : decode cX9_isFraction 30 = .ok (.i2l, 1) := by decide +kernel
theorem dX9_isFraction_31 : decode cX9_isFraction 31 = .ok (.invokestatic 170, 3) := by decide +kernel
theorem dX9_isFraction_34 : decode cX9_isFraction 34 = .ok (.lconst 1, 1) := by decide +kernel
theorem dX9_isFraction_35 : decode cX9_isFraction 35 = .ok (.lcmp, 1) := by decide +kernel
theorem dX9_isFraction_36 : decode cX9_isFraction 36 = .ok (.ifCond .ne 7, 3) := by decide +kernel
theorem dX9_isFraction_39 : decode cX9_isFraction 39 = .ok (.iconst 1, 1) := by decide +kernel
theorem dX9_isFraction_40 : decode cX9_isFraction 40 = .ok (.goto 4, 3) := by decide +kernel
theorem dX9_isFraction_43 : decode cX9_isFraction 43 = .ok (.iconst 0, 1) := by decide +kernel
theorem dX9_isFraction_44 : decode cX9_isFraction 44 = .ok (.ireturn, 1) := by decide +kernel
theorem dX9_cross_0 : decode cX9_cross 0 = .ok (.iload_n 0, 1) := by decide +kernel
theorem dX9_cross_1 : decode cX9_cross 1 = .ok (.i2l, 1) := by decide +kernel
theorem dX9_cross_2 : decode cX9_cross 2 = .ok (.iload_n 3, 1) := by decide +kernel
theorem dX9_cross_3 : decode cX9_cross 3 = .ok (.i2l, 1) := by decide +kernel
theorem dX9_cross_4 : decode cX9_cross 4 = .ok (.lmul, 1) := by decide +kernel
theorem dX9_cross_5 : decode cX9_cross 5 = .ok (.iload_n 1, 1) := by decide +kernel
theorem dX9_cross_6 : decode cX9_cross 6 = .ok (.i2l, 1) := by decide +kernel
theorem dX9_cross_7 : decode cX9_cross 7 = .ok (.iload_n 2, 1) := by decide +kernel
theorem dX9_cross_8 : decode cX9_cross 8 = .ok (.i2l, 1) := by decide +kernel
theorem dX9_cross_9 : decode cX9_cross 9 = .ok (.lmul, 1) := by decide +kernel
theorem dX9_cross_10 : decode cX9_cross 10 = .ok (.lsub, 1) := by decide +kernel
theorem dX9_cross_11 : decode cX9_cross 11 = .ok (.lreturn, 1) := by decide +kernel
set_option maxRecDepth 20000 in
theorem ggX9_ford_X9_isFraction : GoodIn wsX9_ford wsX9_isFraction := goodIn_r _ [6, 7, 8, 9, 10, 5, 11, 12, 13, 14] (by decide +kernel) (by decide +kernel)
set_option maxRecDepth 20000 in
theorem gX9_ford_X9_isFraction : GoodIn wsX9_ford (va_wsS RX9 174 yX9_isFraction wsX9_isFraction) := goodIn_app (goodIn_of _ (by decide +kernel)) ggX9_ford_X9_isFraction
set_option maxRecDepth 20000 in
theorem ggX9_ford_X9_cross : GoodIn wsX9_ford wsX9_cross := goodIn_r _ [17] (by decide +kernel) (by decide +kernel)
set_option maxRecDepth 20000 in
theorem gX9_ford_X9_cross : GoodIn wsX9_ford (va_wsS RX9 177 yX9_cross wsX9_cross) := goodIn_app (goodIn_of _ (by decide +kernel)) ggX9_ford_X9_cross
theorem dX9_ford_0 : decode cX9_ford 0 = .ok (.aload_n 0, 1) := by decide +kernel
theorem dX9_ford_1 : decode cX9_ford 1 = .ok (.iload_n 1, 1) := by decide +kernel
theorem dX9_ford_2 : decode cX9_ford 2 = .ok (.iload_n 2, 1) := by decide +kernel
theorem dX9_ford_3 : decode cX9_ford 3 = .ok (.iconst 1, 1) := by decide +kernel
theorem dX9_ford_4 : decode cX9_ford 4 = .ok (.invokestatic 174, 3) := by decide +kernel
theorem dX9_ford_7 : decode cX9_ford 7 = .ok (.ifCond .eq 17, 3) := by decide +kernel
theorem dX9_ford_10 : decode cX9_ford 10 = .ok (.iload_n 3, 1) := by decide +kernel
theorem dX9_ford_11 : decode cX9_ford 11 = .ok (.iload 4, 2) := by decide +kernel
theorem dX9_ford_13 : decode cX9_ford 13 = .ok (.iconst 1, 1) := by decide +kernel
theorem dX9_ford_14 : decode cX9_ford 14 = .ok (.invokestatic 174, 3) := by decide +kernel
theorem dX9_ford_17 : decode cX9_ford 17 = .ok (.ifCond .eq 7, 3) := by decide +kernel
theorem dX9_ford_20 : decode cX9_ford 20 = .ok (.iconst 0, 1) := by decide +kernel
theorem dX9_ford_21 : decode cX9_ford 21 = .ok (.goto 4, 3) := by decide +kernel
theorem dX9_ford_24 : decode cX9_ford 24 = .ok (.iconst 1, 1) := by decide +kernel
theorem dX9_ford_25 : decode cX9_ford 25 = .ok (.putfield 80, 3) := by decide +kernel
theorem dX9_ford_28 : decode cX9_ford 28 = .ok (.aload_n 0, 1) := by decide +kernel
theorem dX9_ford_29 : decode cX9_ford 29 = .ok (.getfield 80, 3) := by decide +kernel
theorem dX9_ford_32 : decode cX9_ford 32 = .ok (.ifCond .le 7, 3) := by decide +kernel
theorem dX9_ford_35 : decode cX9_ford 35 = .ok (.lconst 0, 1) := by decide +kernel
theorem dX9_ford_36 : decode cX9_ford 36 = .ok (.goto 11, 3) := by decide +kernel
theorem dX9_ford_39 : decode cX9_ford 39 = .ok (.iload_n 1, 1) := by decide +kernel
theorem dX9_ford_40 : decode cX9_ford 40 = .ok (.iload_n 2, 1) := by decide +kernel
theorem dX9_ford_41 : decode cX9_ford 41 = .ok (.iload_n 3, 1) := by decide +kernel
theorem dX9_ford_42 : decode cX9_ford 42 = .ok (.iload 4, 2) := by decide +kernel
theorem dX9_ford_44 : decode cX9_ford 44 = .ok (.invokestatic 177, 3) := by decide +kernel
theorem dX9_ford_47 : decode cX9_ford 47 = .ok (.lstore 5, 2) := by decide +kernel
theorem dX9_ford_49 : decode cX9_ford 49 = .ok (.aload_n 0, 1) := by decide +kernel
theorem dX9_ford_50 : decode cX9_ford 50 = .ok (.getfield 80, 3) := by decide +kernel
theorem dX9_ford_53 : decode cX9_ford 53 = .ok (.ifCond .le 7, 3) := by decide +kernel
theorem dX9_ford_56 : decode cX9_ford 56 = .ok (.iconst 0, 1) := by decide +kernel
theorem dX9_ford_57 : decode cX9_ford 57 = .ok (.goto 35, 3) := by decide +kernel
theorem dX9_ford_60 : decode cX9_ford 60 = .ok (.lload 5, 2) := by decide +kernel
theorem dX9_ford_62 : decode cX9_ford 62 = .ok (.lconst 0, 1) := by decide +kernel
theorem dX9_ford_63 : decode cX9_ford 63 = .ok (.lcmp, 1) := by decide +kernel
theorem dX9_ford_64 : decode cX9_ford 64 = .ok (.ifCond .ne 7, 3) := by decide +kernel
theorem dX9_ford_67 : decode cX9_ford 67 = .ok (.iconst 2, 1) := by decide +kernel
theorem dX9_ford_68 : decode cX9_ford 68 = .ok (.goto 24, 3) := by decide +kernel
theorem dX9_ford_71 : decode cX9_ford 71 = .ok (.lload 5, 2) := by decide +kernel
theorem dX9_ford_73 : decode cX9_ford 73 = .ok (.lconst 1, 1) := by decide +kernel
theorem dX9_ford_74 : decode cX9_ford 74 = .ok (.lcmp, 1) := by decide +kernel
theorem dX9_ford_75 : decode cX9_ford 75 = .ok (.ifCond .eq 12, 3) := by decide +kernel
theorem dX9_ford_78 : decode cX9_ford 78 = .ok (.lload 5, 2) := by decide +kernel
theorem dX9_ford_80 : decode cX9_ford 80 = .ok (.ldc2_w 181, 3) := by decide +kernel
theorem dX9_ford_83 : decode cX9_ford 83 = .ok (.lcmp, 1) := by decide +kernel
theorem dX9_ford_84 : decode cX9_ford 84 = .ok (.ifCond .ne 7, 3) := by decide +kernel
theorem dX9_ford_87 : decode cX9_ford 87 = .ok (.iconst 1, 1) := by decide +kernel
theorem dX9_ford_88 : decode cX9_ford 88 = .ok (.goto 4, 3) := by decide +kernel
theorem dX9_ford_91 : decode cX9_ford 91 = .ok (.iconst 0, 1) := by decide +kernel
theorem dX9_ford_92 : decode cX9_ford 92 = .ok (.ireturn, 1) := by decide +kernel
theorem dX9_floor_0 : decode cX9_floor 0 = .ok (.lload_n 0, 1) := by decide +kernel
theorem dX9_floor_1 : decode cX9_floor 1 = .ok (.lconst 0, 1) := by decide +kernel
theorem dX9_floor_2 : decode cX9_floor 2 = .ok (.lcmp, 1) := by decide +kernel
theorem dX9_floor_3 : decode cX9_floor 3 = .ok (.ifCond .ge 11, 3) := by decide +kernel
theorem dX9_floor_6 : decode cX9_floor 6 = .ok (.lload_n 0, 1) := by decide +kernel
theorem dX9_floor_7 : decode cX9_floor 7 = .ok (.lload_n 2, 1) := by decide +kernel
theorem dX9_floor_8 : decode cX9_floor 8 = .ok (.lrem, 1) := by decide +kernel
theorem dX9_floor_9 : decode cX9_floor 9 = .ok (.lconst 0, 1) := by decide +kernel
theorem dX9_floor_10 : decode cX9_floor 10 = .ok (.lcmp, 1) := by decide +kernel
theorem dX9_floor_11 : decode cX9_floor 11 = .ok (.ifCond .ne 9, 3) := by decide +kernel
theorem dX9_floor_14 : decode cX9_floor 14 = .ok (.lload_n 0, 1) := by decide +kernel
theorem dX9_floor_15 : decode cX9_floor 15 = .ok (.lload_n 2, 1) := by decide +kernel
theorem dX9_floor_16 : decode cX9_floor 16 = .ok (.ldiv, 1) := by decide +kernel
theorem dX9_floor_17 : decode cX9_floor 17 = .ok (.goto 8, 3) := by decide +kernel
theorem dX9_floor_20 : decode cX9_floor 20 = .ok (.lload_n 0, 1) := by decide +kernel
theorem dX9_floor_21 : decode cX9_floor 21 = .ok (.lload_n 2, 1) := by decide +kernel
theorem dX9_floor_22 : decode cX9_floor 22 = .ok (.ldiv, 1) := by decide +kernel
theorem dX9_floor_23 : decode cX9_floor 23 = .ok (.lconst 1, 1) := by decide +kernel
theorem dX9_floor_24 : decode cX9_floor 24 = .ok (.lsub, 1) := by decide +kernel
theorem dX9_floor_25 : decode cX9_floor 25 = .ok (.lreturn, 1) := by decide +kernel
set_option maxRecDepth 20000 in
theorem ggX9_findsBetween_X9_floor : GoodIn wsX9_findsBetween wsX9_floor := goodIn_r _ [7] (by decide +kernel) (by decide +kernel)
set_option maxRecDepth 20000 in
theorem gX9_findsBetween_X9_floor : GoodIn wsX9_findsBetween (va_wsS RX9 183 yX9_floor wsX9_floor) := goodIn_app (goodIn_of _ (by decide +kernel)) ggX9_findsBetween_X9_floor
theorem dX9_findsBetween_0 : decode cX9_findsBetween 0 = .ok (.lload_n 1, 1) := by decide +kernel
theorem dX9_findsBetween_1 : decode cX9_findsBetween 1 = .ok (.lstore 9, 2) := by decide +kernel
theorem dX9_findsBetween_3 : decode cX9_findsBetween 3 = .ok (.lload_n 3, 1) := by decide +kernel
theorem dX9_findsBetween_4 : decode cX9_findsBetween 4 = .ok (.lstore 11, 2) := by decide +kernel
theorem dX9_findsBetween_6 : decode cX9_findsBetween 6 = .ok (.lload 5, 2) := by decide +kernel
theorem dX9_findsBetween_8 : decode cX9_findsBetween 8 = .ok (.lstore 13, 2) := by decide +kernel
theorem dX9_findsBetween_10 : decode cX9_findsBetween 10 = .ok (.lload 7, 2) := by decide +kernel
theorem dX9_findsBetween_12 : decode cX9_findsBetween 12 = .ok (.lstore 15, 2) := by decide +kernel
theorem dX9_findsBetween_14 : decode cX9_findsBetween 14 = .ok (.iconst 0, 1) := by decide +kernel
theorem dX9_findsBetween_15 : decode cX9_findsBetween 15 = .ok (.istore 17, 2) := by decide +kernel
theorem dX9_findsBetween_17 : decode cX9_findsBetween 17 = .ok (.iconst 1, 1) := by decide +kernel
theorem dX9_findsBetween_18 : decode cX9_findsBetween 18 = .ok (.istore 18, 2) := by decide +kernel
theorem dX9_findsBetween_20 : decode cX9_findsBetween 20 = .ok (.iload 18, 2) := by decide +kernel
theorem dX9_findsBetween_22 : decode cX9_findsBetween 22 = .ok (.ifCond .eq 140, 3) := by decide +kernel
theorem dX9_findsBetween_25 : decode cX9_findsBetween 25 = .ok (.lload 9, 2) := by decide +kernel
theorem dX9_findsBetween_27 : decode cX9_findsBetween 27 = .ok (.lload 11, 2) := by decide +kernel
theorem dX9_findsBetween_29 : decode cX9_findsBetween 29 = .ok (.invokestatic 183, 3) := by decide +kernel
theorem dX9_findsBetween_32 : decode cX9_findsBetween 32 = .ok (.lstore 19, 2) := by decide +kernel
theorem dX9_findsBetween_34 : decode cX9_findsBetween 34 = .ok (.lload 19, 2) := by decide +kernel
theorem dX9_findsBetween_36 : decode cX9_findsBetween 36 = .ok (.lconst 1, 1) := by decide +kernel
theorem dX9_findsBetween_37 : decode cX9_findsBetween 37 = .ok (.ladd, 1) := by decide +kernel
theorem dX9_findsBetween_38 : decode cX9_findsBetween 38 = .ok (.lload 15, 2) := by decide +kernel
theorem dX9_findsBetween_40 : decode cX9_findsBetween 40 = .ok (.lmul, 1) := by decide +kernel
theorem dX9_findsBetween_41 : decode cX9_findsBetween 41 = .ok (.lload 13, 2) := by decide +kernel
theorem dX9_findsBetween_43 : decode cX9_findsBetween 43 = .ok (.lcmp, 1) := by decide +kernel
theorem dX9_findsBetween_44 : decode cX9_findsBetween 44 = .ok (.ifCond .ge 7, 3) := by decide +kernel
theorem dX9_findsBetween_47 : decode cX9_findsBetween 47 = .ok (.iconst 1, 1) := by decide +kernel
theorem dX9_findsBetween_48 : decode cX9_findsBetween 48 = .ok (.goto 4, 3) := by decide +kernel
theorem dX9_findsBetween_51 : decode cX9_findsBetween 51 = .ok (.iconst 0, 1) := by decide +kernel
theorem dX9_findsBetween_52 : decode cX9_findsBetween 52 = .ok (.istore 21, 2) := by decide +kernel
theorem dX9_findsBetween_54 : decode cX9_findsBetween 54 = .ok (.aload_n 0, 1) := by decide +kernel
theorem dX9_findsBetween_55 : decode cX9_findsBetween 55 = .ok (.getfield 52, 3) := by decide +kernel
theorem dX9_findsBetween_58 : decode cX9_findsBetween 58 = .ok (.iload 17, 2) := by decide +kernel
theorem dX9_findsBetween_60 : decode cX9_findsBetween 60 = .ok (.iload 21, 2) := by decide +kernel
theorem dX9_findsBetween_62 : decode cX9_findsBetween 62 = .ok (.ifCond .eq 10, 3) := by decide +kernel
theorem dX9_findsBetween_65 : decode cX9_findsBetween 65 = .ok (.lload 19, 2) := by decide +kernel
theorem dX9_findsBetween_67 : decode cX9_findsBetween 67 = .ok (.lconst 1, 1) := by decide +kernel
theorem dX9_findsBetween_68 : decode cX9_findsBetween 68 = .ok (.ladd, 1) := by decide +kernel
theorem dX9_findsBetween_69 : decode cX9_findsBetween 69 = .ok (.goto 5, 3) := by decide +kernel
theorem dX9_findsBetween_72 : decode cX9_findsBetween 72 = .ok (.lload 19, 2) := by decide +kernel
theorem dX9_findsBetween_74 : decode cX9_findsBetween 74 = .ok (.lastore, 1) := by decide +kernel
theorem dX9_findsBetween_75 : decode cX9_findsBetween 75 = .ok (.iinc 17 1, 3) := by decide +kernel
theorem dX9_findsBetween_78 : decode cX9_findsBetween 78 = .ok (.lload 9, 2) := by decide +kernel
theorem dX9_findsBetween_80 : decode cX9_findsBetween 80 = .ok (.lload 19, 2) := by decide +kernel
theorem dX9_findsBetween_82 : decode cX9_findsBetween 82 = .ok (.lload 11, 2) := by decide +kernel
theorem dX9_findsBetween_84 : decode cX9_findsBetween 84 = .ok (.lmul, 1) := by decide +kernel
theorem dX9_findsBetween_85 : decode cX9_findsBetween 85 = .ok (.lsub, 1) := by decide +kernel
theorem dX9_findsBetween_86 : decode cX9_findsBetween 86 = .ok (.lstore 22, 2) := by decide +kernel
theorem dX9_findsBetween_88 : decode cX9_findsBetween 88 = .ok (.lload 13, 2) := by decide +kernel
theorem dX9_findsBetween_90 : decode cX9_findsBetween 90 = .ok (.lload 19, 2) := by decide +kernel
theorem dX9_findsBetween_92 : decode cX9_findsBetween 92 = .ok (.lload 15, 2) := by decide +kernel
theorem dX9_findsBetween_94 : decode cX9_findsBetween 94 = .ok (.lmul, 1) := by decide +kernel
theorem dX9_findsBetween_95 : decode cX9_findsBetween 95 = .ok (.lsub, 1) := by decide +kernel
theorem dX9_findsBetween_96 : decode cX9_findsBetween 96 = .ok (.lstore 24, 2) := by decide +kernel
theorem dX9_findsBetween_98 : decode cX9_findsBetween 98 = .ok (.iload 21, 2) := by decide +kernel
theorem dX9_findsBetween_100 : decode cX9_findsBetween 100 = .ok (.ifCond .eq 9, 3) := by decide +kernel
theorem dX9_findsBetween_103 : decode cX9_findsBetween 103 = .ok (.iconst 0, 1) := by decide +kernel
theorem dX9_findsBetween_104 : decode cX9_findsBetween 104 = .ok (.istore 18, 2) := by decide +kernel
theorem dX9_findsBetween_106 : decode cX9_findsBetween 106 = .ok (.goto 53, 3) := by decide +kernel
theorem dX9_findsBetween_109 : decode cX9_findsBetween 109 = .ok (.lload 22, 2) := by decide +kernel
theorem dX9_findsBetween_111 : decode cX9_findsBetween 111 = .ok (.lconst 0, 1) := by decide +kernel
theorem dX9_findsBetween_112 : decode cX9_findsBetween 112 = .ok (.lcmp, 1) := by decide +kernel
theorem dX9_findsBetween_113 : decode cX9_findsBetween 113 = .ok (.ifCond .ne 26, 3) := by decide +kernel
theorem dX9_findsBetween_116 : decode cX9_findsBetween 116 = .ok (.aload_n 0, 1) := by decide +kernel
theorem dX9_findsBetween_117 : decode cX9_findsBetween 117 = .ok (.getfield 52, 3) := by decide +kernel
theorem dX9_findsBetween_120 : decode cX9_findsBetween 120 = .ok (.iload 17, 2) := by decide +kernel
theorem dX9_findsBetween_122 : decode cX9_findsBetween 122 = .ok (.lload 15, 2) := by decide +kernel
theorem dX9_findsBetween_124 : decode cX9_findsBetween 124 = .ok (.lload 24, 2) := by decide +kernel
theorem dX9_findsBetween_126 : decode cX9_findsBetween 126 = .ok (.ldiv, 1) := by decide +kernel
theorem dX9_findsBetween_127 : decode cX9_findsBetween 127 = .ok (.lconst 1, 1) := by decide +kernel
theorem dX9_findsBetween_128 : decode cX9_findsBetween 128 = .ok (.ladd, 1) := by decide +kernel
theorem dX9_findsBetween_129 : decode cX9_findsBetween 129 = .ok (.lastore, 1) := by decide +kernel
theorem dX9_findsBetween_130 : decode cX9_findsBetween 130 = .ok (.iinc 17 1, 3) := by decide +kernel
theorem dX9_findsBetween_133 : decode cX9_findsBetween 133 = .ok (.iconst 0, 1) := by decide +kernel
theorem dX9_findsBetween_134 : decode cX9_findsBetween 134 = .ok (.istore 18, 2) := by decide +kernel
theorem dX9_findsBetween_136 : decode cX9_findsBetween 136 = .ok (.goto 23, 3) := by decide +kernel
theorem dX9_findsBetween_139 : decode cX9_findsBetween 139 = .ok (.lload 11, 2) := by decide +kernel
theorem dX9_findsBetween_141 : decode cX9_findsBetween 141 = .ok (.lstore 26, 2) := by decide +kernel
theorem dX9_findsBetween_143 : decode cX9_findsBetween 143 = .ok (.lload 15, 2) := by decide +kernel
theorem dX9_findsBetween_145 : decode cX9_findsBetween 145 = .ok (.lstore 9, 2) := by decide +kernel
theorem dX9_findsBetween_147 : decode cX9_findsBetween 147 = .ok (.lload 24, 2) := by decide +kernel
theorem dX9_findsBetween_149 : decode cX9_findsBetween 149 = .ok (.lstore 11, 2) := by decide +kernel
theorem dX9_findsBetween_151 : decode cX9_findsBetween 151 = .ok (.lload 26, 2) := by decide +kernel
theorem dX9_findsBetween_153 : decode cX9_findsBetween 153 = .ok (.lstore 13, 2) := by decide +kernel
theorem dX9_findsBetween_155 : decode cX9_findsBetween 155 = .ok (.lload 22, 2) := by decide +kernel
theorem dX9_findsBetween_157 : decode cX9_findsBetween 157 = .ok (.lstore 15, 2) := by decide +kernel
theorem dX9_findsBetween_159 : decode cX9_findsBetween 159 = .ok (.goto (-139), 3) := by decide +kernel
theorem dX9_findsBetween_162 : decode cX9_findsBetween 162 = .ok (.aload_n 0, 1) := by decide +kernel
theorem dX9_findsBetween_163 : decode cX9_findsBetween 163 = .ok (.aload_n 0, 1) := by decide +kernel
theorem dX9_findsBetween_164 : decode cX9_findsBetween 164 = .ok (.getfield 52, 3) := by decide +kernel
theorem dX9_findsBetween_167 : decode cX9_findsBetween 167 = .ok (.iload 17, 2) := by decide +kernel
theorem dX9_findsBetween_169 : decode cX9_findsBetween 169 = .ok (.iconst 1, 1) := by decide +kernel
theorem dX9_findsBetween_170 : decode cX9_findsBetween 170 = .ok (.isub, 1) := by decide +kernel
theorem dX9_findsBetween_171 : decode cX9_findsBetween 171 = .ok (.laload, 1) := by decide +kernel
theorem dX9_findsBetween_172 : decode cX9_findsBetween 172 = .ok (.putfield 186, 3) := by decide +kernel
theorem dX9_findsBetween_175 : decode cX9_findsBetween 175 = .ok (.aload_n 0, 1) := by decide +kernel
theorem dX9_findsBetween_176 : decode cX9_findsBetween 176 = .ok (.lconst 1, 1) := by decide +kernel
theorem dX9_findsBetween_177 : decode cX9_findsBetween 177 = .ok (.putfield 190, 3) := by decide +kernel
theorem dX9_findsBetween_180 : decode cX9_findsBetween 180 = .ok (.iload 17, 2) := by decide +kernel
theorem dX9_findsBetween_182 : decode cX9_findsBetween 182 = .ok (.iconst 2, 1) := by decide +kernel
theorem dX9_findsBetween_183 : decode cX9_findsBetween 183 = .ok (.isub, 1) := by decide +kernel
theorem dX9_findsBetween_184 : decode cX9_findsBetween 184 = .ok (.istore 19, 2) := by decide +kernel
theorem dX9_findsBetween_186 : decode cX9_findsBetween 186 = .ok (.iload 19, 2) := by decide +kernel
theorem dX9_findsBetween_188 : decode cX9_findsBetween 188 = .ok (.ifCond .lt 42, 3) := by decide +kernel
theorem dX9_findsBetween_191 : decode cX9_findsBetween 191 = .ok (.aload_n 0, 1) := by decide +kernel
theorem dX9_findsBetween_192 : decode cX9_findsBetween 192 = .ok (.getfield 52, 3) := by decide +kernel
theorem dX9_findsBetween_195 : decode cX9_findsBetween 195 = .ok (.iload 19, 2) := by decide +kernel
theorem dX9_findsBetween_197 : decode cX9_findsBetween 197 = .ok (.laload, 1) := by decide +kernel
theorem dX9_findsBetween_198 : decode cX9_findsBetween 198 = .ok (.aload_n 0, 1) := by decide +kernel
theorem dX9_findsBetween_199 : decode cX9_findsBetween 199 = .ok (.getfield 186, 3) := by decide +kernel
theorem dX9_findsBetween_202 : decode cX9_findsBetween 202 = .ok (.lmul, 1) := by decide +kernel
theorem dX9_findsBetween_203 : decode cX9_findsBetween 203 = .ok (.aload_n 0, 1) := by decide +kernel
theorem dX9_findsBetween_204 : decode cX9_findsBetween 204 = .ok (.getfield 190, 3) := by decide +kernel
theorem dX9_findsBetween_207 : decode cX9_findsBetween 207 = .ok (.ladd, 1) := by decide +kernel
theorem dX9_findsBetween_208 : decode cX9_findsBetween 208 = .ok (.lstore 20, 2) := by decide +kernel
theorem dX9_findsBetween_210 : decode cX9_findsBetween 210 = .ok (.aload_n 0, 1) := by decide +kernel
theorem dX9_findsBetween_211 : decode cX9_findsBetween 211 = .ok (.aload_n 0, 1) := by decide +kernel
theorem dX9_findsBetween_212 : decode cX9_findsBetween 212 = .ok (.getfield 186, 3) := by decide +kernel
theorem dX9_findsBetween_215 : decode cX9_findsBetween 215 = .ok (.putfield 190, 3) := by decide +kernel
theorem dX9_findsBetween_218 : decode cX9_findsBetween 218 = .ok (.aload_n 0, 1) := by decide +kernel
theorem dX9_findsBetween_219 : decode cX9_findsBetween 219 = .ok (.lload 20, 2) := by decide +kernel
theorem dX9_findsBetween_221 : decode cX9_findsBetween 221 = .ok (.putfield 186, 3) := by decide +kernel
theorem dX9_findsBetween_224 : decode cX9_findsBetween 224 = .ok (.iinc 19 (-1), 3) := by decide +kernel
theorem dX9_findsBetween_227 : decode cX9_findsBetween 227 = .ok (.goto (-41), 3) := by decide +kernel
theorem dX9_findsBetween_230 : decode cX9_findsBetween 230 = .ok (.return_, 1) := by decide +kernel
set_option maxRecDepth 20000 in
theorem ggX9_between_X9_isFraction : GoodIn wsX9_between wsX9_isFraction := goodIn_r _ [7, 8, 9, 10, 11, 6, 12, 13, 14, 15] (by decide +kernel) (by decide +kernel)
set_option maxRecDepth 20000 in
theorem gX9_between_X9_isFraction : GoodIn wsX9_between (va_wsS RX9 174 yX9_isFraction wsX9_isFraction) := goodIn_app (goodIn_of _ (by decide +kernel)) ggX9_between_X9_isFraction
set_option maxRecDepth 20000 in
theorem ggX9_between_X9_cross : GoodIn wsX9_between wsX9_cross := goodIn_r _ [18] (by decide +kernel) (by decide +kernel)
set_option maxRecDepth 20000 in
theorem gX9_between_X9_cross : GoodIn wsX9_between (va_wsS RX9 177 yX9_cross wsX9_cross) := goodIn_app (goodIn_of _ (by decide +kernel)) ggX9_between_X9_cross
set_option maxRecDepth 20000 in
theorem ggX9_between_X9_findsBetween : GoodIn wsX9_between wsX9_findsBetween := goodIn_r _ [22, 23, 2, 3, 24, 25, 6, 26, 27, 28, 29, 30, 31, 32, 33, 34, 35, 36, 37, 38, 39, 40, 41, 42, 43, 44, 45, 46, 47, 48, 49, 50, 51, 52, 53, 54] (by decide +kernel) (by decide +kernel)
set_option maxRecDepth 20000 in
theorem gX9_between_X9_findsBetween : GoodIn wsX9_between (wsV RX9 193 RX9 yX9_findsBetween wsX9_findsBetween) := goodIn_app (goodIn_of _ (by decide +kernel)) ggX9_between_X9_findsBetween
theorem dX9_between_0 : decode cX9_between 0 = .ok (.aload_n 0, 1) := by decide +kernel
theorem dX9_between_1 : decode cX9_between 1 = .ok (.iload_n 1, 1) := by decide +kernel
theorem dX9_between_2 : decode cX9_between 2 = .ok (.iload_n 2, 1) := by decide +kernel
theorem dX9_between_3 : decode cX9_between 3 = .ok (.iconst 1, 1) := by decide +kernel
theorem dX9_between_4 : decode cX9_between 4 = .ok (.invokestatic 174, 3) := by decide +kernel
theorem dX9_between_7 : decode cX9_between 7 = .ok (.ifCond .eq 30, 3) := by decide +kernel
theorem dX9_between_10 : decode cX9_between 10 = .ok (.iload_n 3, 1) := by decide +kernel
theorem dX9_between_11 : decode cX9_between 11 = .ok (.iload 4, 2) := by decide +kernel
theorem dX9_between_13 : decode cX9_between 13 = .ok (.iconst 1, 1) := by decide +kernel
theorem dX9_between_14 : decode cX9_between 14 = .ok (.invokestatic 174, 3) := by decide +kernel
theorem dX9_between_17 : decode cX9_between 17 = .ok (.ifCond .eq 20, 3) := by decide +kernel
theorem dX9_between_20 : decode cX9_between 20 = .ok (.iload_n 1, 1) := by decide +kernel
theorem dX9_between_21 : decode cX9_between 21 = .ok (.iload_n 2, 1) := by decide +kernel
theorem dX9_between_22 : decode cX9_between 22 = .ok (.iload_n 3, 1) := by decide +kernel
theorem dX9_between_23 : decode cX9_between 23 = .ok (.iload 4, 2) := by decide +kernel
theorem dX9_between_25 : decode cX9_between 25 = .ok (.invokestatic 177, 3) := by decide +kernel
theorem dX9_between_28 : decode cX9_between 28 = .ok (.lconst 0, 1) := by decide +kernel
theorem dX9_between_29 : decode cX9_between 29 = .ok (.lcmp, 1) := by decide +kernel
theorem dX9_between_30 : decode cX9_between 30 = .ok (.ifCond .eq 7, 3) := by decide +kernel
theorem dX9_between_33 : decode cX9_between 33 = .ok (.iconst 0, 1) := by decide +kernel
theorem dX9_between_34 : decode cX9_between 34 = .ok (.goto 4, 3) := by decide +kernel
theorem dX9_between_37 : decode cX9_between 37 = .ok (.iconst 1, 1) := by decide +kernel
theorem dX9_between_38 : decode cX9_between 38 = .ok (.putfield 80, 3) := by decide +kernel
theorem dX9_between_41 : decode cX9_between 41 = .ok (.aload_n 0, 1) := by decide +kernel
theorem dX9_between_42 : decode cX9_between 42 = .ok (.getfield 80, 3) := by decide +kernel
theorem dX9_between_45 : decode cX9_between 45 = .ok (.ifCond .le 5, 3) := by decide +kernel
theorem dX9_between_48 : decode cX9_between 48 = .ok (.lconst 0, 1) := by decide +kernel
theorem dX9_between_49 : decode cX9_between 49 = .ok (.lreturn, 1) := by decide +kernel
theorem dX9_between_50 : decode cX9_between 50 = .ok (.iload_n 1, 1) := by decide +kernel
theorem dX9_between_51 : decode cX9_between 51 = .ok (.iload_n 2, 1) := by decide +kernel
theorem dX9_between_52 : decode cX9_between 52 = .ok (.iload_n 3, 1) := by decide +kernel
theorem dX9_between_53 : decode cX9_between 53 = .ok (.iload 4, 2) := by decide +kernel
theorem dX9_between_55 : decode cX9_between 55 = .ok (.invokestatic 177, 3) := by decide +kernel
theorem dX9_between_58 : decode cX9_between 58 = .ok (.lconst 0, 1) := by decide +kernel
theorem dX9_between_59 : decode cX9_between 59 = .ok (.lcmp, 1) := by decide +kernel
theorem dX9_between_60 : decode cX9_between 60 = .ok (.ifCond .ge 19, 3) := by decide +kernel
theorem dX9_between_63 : decode cX9_between 63 = .ok (.aload_n 0, 1) := by decide +kernel
theorem dX9_between_64 : decode cX9_between 64 = .ok (.iload_n 1, 1) := by decide +kernel
theorem dX9_between_65 : decode cX9_between 65 = .ok (.i2l, 1) := by decide +kernel
theorem dX9_between_66 : decode cX9_between 66 = .ok (.iload_n 2, 1) := by decide +kernel
theorem dX9_between_67 : decode cX9_between 67 = .ok (.i2l, 1) := by decide +kernel
theorem dX9_between_68 : decode cX9_between 68 = .ok (.iload_n 3, 1) := by decide +kernel
theorem dX9_between_69 : decode cX9_between 69 = .ok (.i2l, 1) := by decide +kernel
theorem dX9_between_70 : decode cX9_between 70 = .ok (.iload 4, 2) := by decide +kernel
theorem dX9_between_72 : decode cX9_between 72 = .ok (.i2l, 1) := by decide +kernel
theorem dX9_between_73 : decode cX9_between 73 = .ok (.invokevirtual 193, 3) := by decide +kernel
theorem dX9_between_76 : decode cX9_between 76 = .ok (.goto 16, 3) := by decide +kernel
theorem dX9_between_79 : decode cX9_between 79 = .ok (.aload_n 0, 1) := by decide +kernel
theorem dX9_between_80 : decode cX9_between 80 = .ok (.iload_n 3, 1) := by decide +kernel
theorem dX9_between_81 : decode cX9_between 81 = .ok (.i2l, 1) := by decide +kernel
theorem dX9_between_82 : decode cX9_between 82 = .ok (.iload 4, 2) := by decide +kernel
theorem dX9_between_84 : decode cX9_between 84 = .ok (.i2l, 1) := by decide +kernel
theorem dX9_between_85 : decode cX9_between 85 = .ok (.iload_n 1, 1) := by decide +kernel
theorem dX9_between_86 : decode cX9_between 86 = .ok (.i2l, 1) := by decide +kernel
theorem dX9_between_87 : decode cX9_between 87 = .ok (.iload_n 2, 1) := by decide +kernel
theorem dX9_between_88 : decode cX9_between 88 = .ok (.i2l, 1) := by decide +kernel
theorem dX9_between_89 : decode cX9_between 89 = .ok (.invokevirtual 193, 3) := by decide +kernel
theorem dX9_between_92 : decode cX9_between 92 = .ok (.iload 5, 2) := by decide +kernel
theorem dX9_between_94 : decode cX9_between 94 = .ok (.ifCond .eq 10, 3) := by decide +kernel
theorem dX9_between_97 : decode cX9_between 97 = .ok (.aload_n 0, 1) := by decide +kernel
theorem dX9_between_98 : decode cX9_between 98 = .ok (.getfield 186, 3) := by decide +kernel
theorem dX9_between_101 : decode cX9_between 101 = .ok (.goto 7, 3) := by decide +kernel
theorem dX9_between_104 : decode cX9_between 104 = .ok (.aload_n 0, 1) := by decide +kernel
theorem dX9_between_105 : decode cX9_between 105 = .ok (.getfield 190, 3) := by decide +kernel
theorem dX9_between_108 : decode cX9_between 108 = .ok (.lreturn, 1) := by decide +kernel
set_option maxRecDepth 20000 in
theorem ggX9_isTold_X9_isIn : GoodIn wsX9_isTold wsX9_isIn := goodIn_r _ [6] (by decide +kernel) (by decide +kernel)
set_option maxRecDepth 20000 in
theorem gX9_isTold_X9_isIn : GoodIn wsX9_isTold (va_wsS RX9 83 yX9_isIn wsX9_isIn) := goodIn_app (goodIn_of _ (by decide +kernel)) ggX9_isTold_X9_isIn
theorem dX9_isTold_0 : decode cX9_isTold 0 = .ok (.iload_n 0, 1) := by decide +kernel
theorem dX9_isTold_1 : decode cX9_isTold 1 = .ok (.i2l, 1) := by decide +kernel
theorem dX9_isTold_2 : decode cX9_isTold 2 = .ok (.ldc2_w 197, 3) := by decide +kernel
theorem dX9_isTold_5 : decode cX9_isTold 5 = .ok (.ldc2_w 159, 3) := by decide +kernel
theorem dX9_isTold_8 : decode cX9_isTold 8 = .ok (.invokestatic 83, 3) := by decide +kernel
theorem dX9_isTold_11 : decode cX9_isTold 11 = .ok (.ireturn, 1) := by decide +kernel
set_option maxRecDepth 20000 in
theorem ggX9_tell_X9_isTold : GoodIn wsX9_tell wsX9_isTold := goodIn_r _ [7, 8, 9, 10, 11, 6, 12] (by decide +kernel) (by decide +kernel)
set_option maxRecDepth 20000 in
theorem gX9_tell_X9_isTold : GoodIn wsX9_tell (va_wsS RX9 199 yX9_isTold wsX9_isTold) := goodIn_app (goodIn_of _ (by decide +kernel)) ggX9_tell_X9_isTold
theorem dX9_tell_0 : decode cX9_tell 0 = .ok (.iload_n 1, 1) := by decide +kernel
theorem dX9_tell_1 : decode cX9_tell 1 = .ok (.invokestatic 199, 3) := by decide +kernel
theorem dX9_tell_4 : decode cX9_tell 4 = .ok (.ifCond .eq 41, 3) := by decide +kernel
theorem dX9_tell_7 : decode cX9_tell 7 = .ok (.iload_n 2, 1) := by decide +kernel
