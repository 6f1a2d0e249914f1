theorem dX2_circlesAmong_42 : decode cX2_circlesAmong 42 = .ok (.if_icmp .lt 5, 3) := by decide +kernel
theorem dX2_circlesAmong_45 : decode cX2_circlesAmong 45 = .ok (.iconst 0, 1) := by decide +kernel
theorem dX2_circlesAmong_46 : decode cX2_circlesAmong 46 = .ok (.ireturn, 1) := by decide +kernel
theorem dX2_circlesAmong_47 : decode cX2_circlesAmong 47 = .ok (.iconst 1, 1) := by decide +kernel
theorem dX2_circlesAmong_48 : decode cX2_circlesAmong 48 = .ok (.lload_n 0, 1) := by decide +kernel
theorem dX2_circlesAmong_49 : decode cX2_circlesAmong 49 = .ok (.lload_n 2, 1) := by decide +kernel
theorem dX2_circlesAmong_50 : decode cX2_circlesAmong 50 = .ok (.lload 8, 2) := by decide +kernel
theorem dX2_circlesAmong_52 : decode cX2_circlesAmong 52 = .ok (.iload 6, 2) := by decide +kernel
theorem dX2_circlesAmong_54 : decode cX2_circlesAmong 54 = .ok (.iload 7, 2) := by decide +kernel
theorem dX2_circlesAmong_56 : decode cX2_circlesAmong 56 = .ok (.iconst 1, 1) := by decide +kernel
theorem dX2_circlesAmong_57 : decode cX2_circlesAmong 57 = .ok (.iadd, 1) := by decide +kernel
theorem dX2_circlesAmong_58 : decode cX2_circlesAmong 58 = .ok (.invokestatic 60, 3) := by decide +kernel
theorem dX2_circlesAmong_61 : decode cX2_circlesAmong 61 = .ok (.iadd, 1) := by decide +kernel
theorem dX2_circlesAmong_62 : decode cX2_circlesAmong 62 = .ok (.lload_n 2, 1) := by decide +kernel
theorem dX2_circlesAmong_63 : decode cX2_circlesAmong 63 = .ok (.lload 4, 2) := by decide +kernel
theorem dX2_circlesAmong_65 : decode cX2_circlesAmong 65 = .ok (.lload 8, 2) := by decide +kernel
theorem dX2_circlesAmong_67 : decode cX2_circlesAmong 67 = .ok (.iload 6, 2) := by decide +kernel
theorem dX2_circlesAmong_69 : decode cX2_circlesAmong 69 = .ok (.iload 7, 2) := by decide +kernel
theorem dX2_circlesAmong_71 : decode cX2_circlesAmong 71 = .ok (.iconst 1, 1) := by decide +kernel
theorem dX2_circlesAmong_72 : decode cX2_circlesAmong 72 = .ok (.iadd, 1) := by decide +kernel
theorem dX2_circlesAmong_73 : decode cX2_circlesAmong 73 = .ok (.invokestatic 60, 3) := by decide +kernel
theorem dX2_circlesAmong_76 : decode cX2_circlesAmong 76 = .ok (.iadd, 1) := by decide +kernel
theorem dX2_circlesAmong_77 : decode cX2_circlesAmong 77 = .ok (.lload 4, 2) := by decide +kernel
theorem dX2_circlesAmong_79 : decode cX2_circlesAmong 79 = .ok (.lload_n 0, 1) := by decide +kernel
theorem dX2_circlesAmong_80 : decode cX2_circlesAmong 80 = .ok (.lload 8, 2) := by decide +kernel
theorem dX2_circlesAmong_82 : decode cX2_circlesAmong 82 = .ok (.iload 6, 2) := by decide +kernel
theorem dX2_circlesAmong_84 : decode cX2_circlesAmong 84 = .ok (.iload 7, 2) := by decide +kernel
theorem dX2_circlesAmong_86 : decode cX2_circlesAmong 86 = .ok (.iconst 1, 1) := by decide +kernel
theorem dX2_circlesAmong_87 : decode cX2_circlesAmong 87 = .ok (.iadd, 1) := by decide +kernel
theorem dX2_circlesAmong_88 : decode cX2_circlesAmong 88 = .ok (.invokestatic 60, 3) := by decide +kernel
theorem dX2_circlesAmong_91 : decode cX2_circlesAmong 91 = .ok (.iadd, 1) := by decide +kernel
theorem dX2_circlesAmong_92 : decode cX2_circlesAmong 92 = .ok (.ireturn, 1) := by decide +kernel
set_option maxRecDepth 20000 in
theorem ggX2_wholeRoot_J13_numberOfLeadingZeros_95d88 : GoodIn wsX2_wholeRoot wsJ13_numberOfLeadingZeros_95d88 := goodIn_r _ [4, 5, 6, 7, 8, 9] (by decide +kernel) (by decide +kernel)
set_option maxRecDepth 20000 in
theorem gX2_wholeRoot_J13_numberOfLeadingZeros_95d88 : GoodIn wsX2_wholeRoot (va_wsS RX2 68 yJ13_numberOfLeadingZeros_95d88 wsJ13_numberOfLeadingZeros_95d88) := goodIn_app (goodIn_of _ (by decide +kernel)) ggX2_wholeRoot_J13_numberOfLeadingZeros_95d88
theorem dX2_wholeRoot_0 : decode cX2_wholeRoot 0 = .ok (.lconst 0, 1) := by decide +kernel
theorem dX2_wholeRoot_1 : decode cX2_wholeRoot 1 = .ok (.lstore_n 2, 1) := by decide +kernel
theorem dX2_wholeRoot_2 : decode cX2_wholeRoot 2 = .ok (.bipush 64, 2) := by decide +kernel
theorem dX2_wholeRoot_4 : decode cX2_wholeRoot 4 = .ok (.lload_n 0, 1) := by decide +kernel
theorem dX2_wholeRoot_5 : decode cX2_wholeRoot 5 = .ok (.invokestatic 68, 3) := by decide +kernel
theorem dX2_wholeRoot_8 : decode cX2_wholeRoot 8 = .ok (.isub, 1) := by decide +kernel
theorem dX2_wholeRoot_9 : decode cX2_wholeRoot 9 = .ok (.iconst 2, 1) := by decide +kernel
theorem dX2_wholeRoot_10 : decode cX2_wholeRoot 10 = .ok (.idiv, 1) := by decide +kernel
theorem dX2_wholeRoot_11 : decode cX2_wholeRoot 11 = .ok (.istore 4, 2) := by decide +kernel
theorem dX2_wholeRoot_13 : decode cX2_wholeRoot 13 = .ok (.iload 4, 2) := by decide +kernel
theorem dX2_wholeRoot_15 : decode cX2_wholeRoot 15 = .ok (.ifCond .lt 30, 3) := by decide +kernel
theorem dX2_wholeRoot_18 : decode cX2_wholeRoot 18 = .ok (.lload_n 2, 1) := by decide +kernel
theorem dX2_wholeRoot_19 : decode cX2_wholeRoot 19 = .ok (.lconst 1, 1) := by decide +kernel
theorem dX2_wholeRoot_20 : decode cX2_wholeRoot 20 = .ok (.iload 4, 2) := by decide +kernel
theorem dX2_wholeRoot_22 : decode cX2_wholeRoot 22 = .ok (.lshl, 1) := by decide +kernel
theorem dX2_wholeRoot_23 : decode cX2_wholeRoot 23 = .ok (.ladd, 1) := by decide +kernel
theorem dX2_wholeRoot_24 : decode cX2_wholeRoot 24 = .ok (.lstore 5, 2) := by decide +kernel
theorem dX2_wholeRoot_26 : decode cX2_wholeRoot 26 = .ok (.lload 5, 2) := by decide +kernel
theorem dX2_wholeRoot_28 : decode cX2_wholeRoot 28 = .ok (.lload 5, 2) := by decide +kernel
theorem dX2_wholeRoot_30 : decode cX2_wholeRoot 30 = .ok (.lmul, 1) := by decide +kernel
theorem dX2_wholeRoot_31 : decode cX2_wholeRoot 31 = .ok (.lload_n 0, 1) := by decide +kernel
theorem dX2_wholeRoot_32 : decode cX2_wholeRoot 32 = .ok (.lcmp, 1) := by decide +kernel
theorem dX2_wholeRoot_33 : decode cX2_wholeRoot 33 = .ok (.ifCond .gt 6, 3) := by decide +kernel
theorem dX2_wholeRoot_36 : decode cX2_wholeRoot 36 = .ok (.lload 5, 2) := by decide +kernel
theorem dX2_wholeRoot_38 : decode cX2_wholeRoot 38 = .ok (.lstore_n 2, 1) := by decide +kernel
theorem dX2_wholeRoot_39 : decode cX2_wholeRoot 39 = .ok (.iinc 4 (-1), 3) := by decide +kernel
theorem dX2_wholeRoot_42 : decode cX2_wholeRoot 42 = .ok (.goto (-29), 3) := by decide +kernel
theorem dX2_wholeRoot_45 : decode cX2_wholeRoot 45 = .ok (.lload_n 2, 1) := by decide +kernel
theorem dX2_wholeRoot_46 : decode cX2_wholeRoot 46 = .ok (.lreturn, 1) := by decide +kernel
set_option maxRecDepth 20000 in
theorem ggX3_init_J7_fill_53178 : GoodIn wsX3_init wsJ7_fill_53178 := goodIn_r _ [13] (by decide +kernel) (by decide +kernel)
set_option maxRecDepth 20000 in
theorem gX3_init_J7_fill_53178 : GoodIn wsX3_init (va_wsS RX3 18 yJ7_fill_53178 wsJ7_fill_53178) := goodIn_app (goodIn_of _ (by decide +kernel)) ggX3_init_J7_fill_53178
set_option maxRecDepth 20000 in
theorem ggX3_init_X3_putFace : GoodIn wsX3_init wsX3_putFace := goodIn_r _ [18, 19, 20, 21, 17, 22, 5, 23, 24, 25, 26, 6, 27, 28, 29, 30] (by decide +kernel) (by decide +kernel)
set_option maxRecDepth 20000 in
theorem gX3_init_X3_putFace : GoodIn wsX3_init (wsV RX3 34 RX3 yX3_putFace wsX3_putFace) := goodIn_app (goodIn_of _ (by decide +kernel)) ggX3_init_X3_putFace
theorem dX3_init_0 : decode cX3_init 0 = .ok (.aload_n 0, 1) := by decide +kernel
theorem dX3_init_1 : decode cX3_init 1 = .ok (.invokespecial 5, 3) := by decide +kernel
theorem dX3_init_4 : decode cX3_init 4 = .ok (.aload_n 0, 1) := by decide +kernel
theorem dX3_init_5 : decode cX3_init 5 = .ok (.bipush 84, 2) := by decide +kernel
theorem dX3_init_7 : decode cX3_init 7 = .ok (.newarray .int, 2) := by decide +kernel
theorem dX3_init_9 : decode cX3_init 9 = .ok (.putfield 11, 3) := by decide +kernel
theorem dX3_init_12 : decode cX3_init 12 = .ok (.aload_n 0, 1) := by decide +kernel
theorem dX3_init_13 : decode cX3_init 13 = .ok (.sipush 256, 3) := by decide +kernel
theorem dX3_init_16 : decode cX3_init 16 = .ok (.newarray .int, 2) := by decide +kernel
theorem dX3_init_18 : decode cX3_init 18 = .ok (.putfield 15, 3) := by decide +kernel
theorem dX3_init_21 : decode cX3_init 21 = .ok (.aload_n 0, 1) := by decide +kernel
theorem dX3_init_22 : decode cX3_init 22 = .ok (.getfield 15, 3) := by decide +kernel
theorem dX3_init_25 : decode cX3_init 25 = .ok (.iconst (-1), 1) := by decide +kernel
theorem dX3_init_26 : decode cX3_init 26 = .ok (.invokestatic 18, 3) := by decide +kernel
theorem dX3_init_29 : decode cX3_init 29 = .ok (.aload_n 0, 1) := by decide +kernel
theorem dX3_init_30 : decode cX3_init 30 = .ok (.iconst 4, 1) := by decide +kernel
theorem dX3_init_31 : decode cX3_init 31 = .ok (.putfield 24, 3) := by decide +kernel
theorem dX3_init_34 : decode cX3_init 34 = .ok (.aload_n 0, 1) := by decide +kernel
theorem dX3_init_35 : decode cX3_init 35 = .ok (.iconst 4, 1) := by decide +kernel
theorem dX3_init_36 : decode cX3_init 36 = .ok (.putfield 28, 3) := by decide +kernel
theorem dX3_init_39 : decode cX3_init 39 = .ok (.iconst 0, 1) := by decide +kernel
theorem dX3_init_40 : decode cX3_init 40 = .ok (.istore_n 1, 1) := by decide +kernel
theorem dX3_init_41 : decode cX3_init 41 = .ok (.iload_n 1, 1) := by decide +kernel
theorem dX3_init_42 : decode cX3_init 42 = .ok (.aload_n 0, 1) := by decide +kernel
theorem dX3_init_43 : decode cX3_init 43 = .ok (.getfield 28, 3) := by decide +kernel
theorem dX3_init_46 : decode cX3_init 46 = .ok (.if_icmp .ge 39, 3) := by decide +kernel
theorem dX3_init_49 : decode cX3_init 49 = .ok (.aload_n 0, 1) := by decide +kernel
theorem dX3_init_50 : decode cX3_init 50 = .ok (.iload_n 1, 1) := by decide +kernel
theorem dX3_init_51 : decode cX3_init 51 = .ok (.getstatic 31, 3) := by decide +kernel
theorem dX3_init_54 : decode cX3_init 54 = .ok (.iconst 3, 1) := by decide +kernel
theorem dX3_init_55 : decode cX3_init 55 = .ok (.iload_n 1, 1) := by decide +kernel
theorem dX3_init_56 : decode cX3_init 56 = .ok (.imul, 1) := by decide +kernel
theorem dX3_init_57 : decode cX3_init 57 = .ok (.iaload, 1) := by decide +kernel
theorem dX3_init_58 : decode cX3_init 58 = .ok (.getstatic 31, 3) := by decide +kernel
theorem dX3_init_61 : decode cX3_init 61 = .ok (.iconst 3, 1) := by decide +kernel
theorem dX3_init_62 : decode cX3_init 62 = .ok (.iload_n 1, 1) := by decide +kernel
theorem dX3_init_63 : decode cX3_init 63 = .ok (.imul, 1) := by decide +kernel
theorem dX3_init_64 : decode cX3_init 64 = .ok (.iconst 1, 1) := by decide +kernel
theorem dX3_init_65 : decode cX3_init 65 = .ok (.iadd, 1) := by decide +kernel
theorem dX3_init_66 : decode cX3_init 66 = .ok (.iaload, 1) := by decide +kernel
theorem dX3_init_67 : decode cX3_init 67 = .ok (.getstatic 31, 3) := by decide +kernel
theorem dX3_init_70 : decode cX3_init 70 = .ok (.iconst 3, 1) := by decide +kernel
theorem dX3_init_71 : decode cX3_init 71 = .ok (.iload_n 1, 1) := by decide +kernel
theorem dX3_init_72 : decode cX3_init 72 = .ok (.imul, 1) := by decide +kernel
theorem dX3_init_73 : decode cX3_init 73 = .ok (.iconst 2, 1) := by decide +kernel
theorem dX3_init_74 : decode cX3_init 74 = .ok (.iadd, 1) := by decide +kernel
theorem dX3_init_75 : decode cX3_init 75 = .ok (.iaload, 1) := by decide +kernel
theorem dX3_init_76 : decode cX3_init 76 = .ok (.invokevirtual 34, 3) := by decide +kernel
theorem dX3_init_79 : decode cX3_init 79 = .ok (.iinc 1 1, 3) := by decide +kernel
theorem dX3_init_82 : decode cX3_init 82 = .ok (.goto (-41), 3) := by decide +kernel
theorem dX3_init_85 : decode cX3_init 85 = .ok (.return_, 1) := by decide +kernel
theorem dX3_hasFace_0 : decode cX3_hasFace 0 = .ok (.iload_n 1, 1) := by decide +kernel
theorem dX3_hasFace_1 : decode cX3_hasFace 1 = .ok (.ifCond .lt 15, 3) := by decide +kernel
theorem dX3_hasFace_4 : decode cX3_hasFace 4 = .ok (.iload_n 1, 1) := by decide +kernel
theorem dX3_hasFace_5 : decode cX3_hasFace 5 = .ok (.aload_n 0, 1) := by decide +kernel
theorem dX3_hasFace_6 : decode cX3_hasFace 6 = .ok (.getfield 28, 3) := by decide +kernel
theorem dX3_hasFace_9 : decode cX3_hasFace 9 = .ok (.if_icmp .ge 7, 3) := by decide +kernel
theorem dX3_hasFace_12 : decode cX3_hasFace 12 = .ok (.iconst 1, 1) := by decide +kernel
theorem dX3_hasFace_13 : decode cX3_hasFace 13 = .ok (.goto 4, 3) := by decide +kernel
theorem dX3_hasFace_16 : decode cX3_hasFace 16 = .ok (.iconst 0, 1) := by decide +kernel
theorem dX3_hasFace_17 : decode cX3_hasFace 17 = .ok (.ireturn, 1) := by decide +kernel
theorem dX3_hasCorner_0 : decode cX3_hasCorner 0 = .ok (.iload_n 1, 1) := by decide +kernel
theorem dX3_hasCorner_1 : decode cX3_hasCorner 1 = .ok (.ifCond .lt 15, 3) := by decide +kernel
theorem dX3_hasCorner_4 : decode cX3_hasCorner 4 = .ok (.iload_n 1, 1) := by decide +kernel
theorem dX3_hasCorner_5 : decode cX3_hasCorner 5 = .ok (.aload_n 0, 1) := by decide +kernel
theorem dX3_hasCorner_6 : decode cX3_hasCorner 6 = .ok (.getfield 24, 3) := by decide +kernel
theorem dX3_hasCorner_9 : decode cX3_hasCorner 9 = .ok (.if_icmp .ge 7, 3) := by decide +kernel
theorem dX3_hasCorner_12 : decode cX3_hasCorner 12 = .ok (.iconst 1, 1) := by decide +kernel
theorem dX3_hasCorner_13 : decode cX3_hasCorner 13 = .ok (.goto 4, 3) := by decide +kernel
theorem dX3_hasCorner_16 : decode cX3_hasCorner 16 = .ok (.iconst 0, 1) := by decide +kernel
theorem dX3_hasCorner_17 : decode cX3_hasCorner 17 = .ok (.ireturn, 1) := by decide +kernel
theorem dX3_isFull_0 : decode cX3_isFull 0 = .ok (.aload_n 0, 1) := by decide +kernel
theorem dX3_isFull_1 : decode cX3_isFull 1 = .ok (.getfield 24, 3) := by decide +kernel
theorem dX3_isFull_4 : decode cX3_isFull 4 = .ok (.bipush 16, 2) := by decide +kernel
theorem dX3_isFull_6 : decode cX3_isFull 6 = .ok (.if_icmp .lt 7, 3) := by decide +kernel
theorem dX3_isFull_9 : decode cX3_isFull 9 = .ok (.iconst 1, 1) := by decide +kernel
theorem dX3_isFull_10 : decode cX3_isFull 10 = .ok (.goto 4, 3) := by decide +kernel
theorem dX3_isFull_13 : decode cX3_isFull 13 = .ok (.iconst 0, 1) := by decide +kernel
theorem dX3_isFull_14 : decode cX3_isFull 14 = .ok (.ireturn, 1) := by decide +kernel
theorem dX3_cornerOf_0 : decode cX3_cornerOf 0 = .ok (.aload_n 0, 1) := by decide +kernel
theorem dX3_cornerOf_1 : decode cX3_cornerOf 1 = .ok (.getfield 11, 3) := by decide +kernel
theorem dX3_cornerOf_4 : decode cX3_cornerOf 4 = .ok (.iconst 3, 1) := by decide +kernel
theorem dX3_cornerOf_5 : decode cX3_cornerOf 5 = .ok (.iload_n 1, 1) := by decide +kernel
theorem dX3_cornerOf_6 : decode cX3_cornerOf 6 = .ok (.imul, 1) := by decide +kernel
theorem dX3_cornerOf_7 : decode cX3_cornerOf 7 = .ok (.iload_n 2, 1) := by decide +kernel
theorem dX3_cornerOf_8 : decode cX3_cornerOf 8 = .ok (.iadd, 1) := by decide +kernel
theorem dX3_cornerOf_9 : decode cX3_cornerOf 9 = .ok (.iaload, 1) := by decide +kernel
theorem dX3_cornerOf_10 : decode cX3_cornerOf 10 = .ok (.ireturn, 1) := by decide +kernel
set_option maxRecDepth 20000 in
theorem ggX3_splitFace_X3_cornerOf : GoodIn wsX3_splitFace wsX3_cornerOf := goodIn_r _ [7, 8, 22, 23, 24, 25] (by decide +kernel) (by decide +kernel)
set_option maxRecDepth 20000 in
theorem gX3_splitFace_X3_cornerOf : GoodIn wsX3_splitFace (wsV RX3 38 RX3 yX3_cornerOf wsX3_cornerOf) := goodIn_app (goodIn_of _ (by decide +kernel)) ggX3_splitFace_X3_cornerOf
set_option maxRecDepth 20000 in
theorem ggX3_splitFace_X3_putFace : GoodIn wsX3_splitFace wsX3_putFace := goodIn_r _ [12, 13, 14, 15, 6, 16, 8, 17, 18, 19, 20, 21, 22, 23, 24, 25] (by decide +kernel) (by decide +kernel)
set_option maxRecDepth 20000 in
theorem gX3_splitFace_X3_putFace : GoodIn wsX3_splitFace (wsV RX3 34 RX3 yX3_putFace wsX3_putFace) := goodIn_app (goodIn_of _ (by decide +kernel)) ggX3_splitFace_X3_putFace
theorem dX3_splitFace_0 : decode cX3_splitFace 0 = .ok (.aload_n 0, 1) := by decide +kernel
theorem dX3_splitFace_1 : decode cX3_splitFace 1 = .ok (.iload_n 1, 1) := by decide +kernel
theorem dX3_splitFace_2 : decode cX3_splitFace 2 = .ok (.iconst 0, 1) := by decide +kernel
theorem dX3_splitFace_3 : decode cX3_splitFace 3 = .ok (.invokevirtual 38, 3) := by decide +kernel
theorem dX3_splitFace_6 : decode cX3_splitFace 6 = .ok (.istore_n 2, 1) := by decide +kernel
theorem dX3_splitFace_7 : decode cX3_splitFace 7 = .ok (.aload_n 0, 1) := by decide +kernel
theorem dX3_splitFace_8 : decode cX3_splitFace 8 = .ok (.iload_n 1, 1) := by decide +kernel
theorem dX3_splitFace_9 : decode cX3_splitFace 9 = .ok (.iconst 1, 1) := by decide +kernel
theorem dX3_splitFace_10 : decode cX3_splitFace 10 = .ok (.invokevirtual 38, 3) := by decide +kernel
theorem dX3_splitFace_13 : decode cX3_splitFace 13 = .ok (.istore_n 3, 1) := by decide +kernel
theorem dX3_splitFace_14 : decode cX3_splitFace 14 = .ok (.aload_n 0, 1) := by decide +kernel
theorem dX3_splitFace_15 : decode cX3_splitFace 15 = .ok (.iload_n 1, 1) := by decide +kernel
theorem dX3_splitFace_16 : decode cX3_splitFace 16 = .ok (.iconst 2, 1) := by decide +kernel
theorem dX3_splitFace_17 : decode cX3_splitFace 17 = .ok (.invokevirtual 38, 3) := by decide +kernel
theorem dX3_splitFace_20 : decode cX3_splitFace 20 = .ok (.istore 4, 2) := by decide +kernel
theorem dX3_splitFace_22 : decode cX3_splitFace 22 = .ok (.aload_n 0, 1) := by decide +kernel
theorem dX3_splitFace_23 : decode cX3_splitFace 23 = .ok (.getfield 24, 3) := by decide +kernel
theorem dX3_splitFace_26 : decode cX3_splitFace 26 = .ok (.istore 5, 2) := by decide +kernel
theorem dX3_splitFace_28 : decode cX3_splitFace 28 = .ok (.aload_n 0, 1) := by decide +kernel
theorem dX3_splitFace_29 : decode cX3_splitFace 29 = .ok (.iload_n 1, 1) := by decide +kernel
theorem dX3_splitFace_30 : decode cX3_splitFace 30 = .ok (.iload_n 2, 1) := by decide +kernel
theorem dX3_splitFace_31 : decode cX3_splitFace 31 = .ok (.iload_n 3, 1) := by decide +kernel
theorem dX3_splitFace_32 : decode cX3_splitFace 32 = .ok (.iload 5, 2) := by decide +kernel
theorem dX3_splitFace_34 : decode cX3_splitFace 34 = .ok (.invokevirtual 34, 3) := by decide +kernel
theorem dX3_splitFace_37 : decode cX3_splitFace 37 = .ok (.aload_n 0, 1) := by decide +kernel
theorem dX3_splitFace_38 : decode cX3_splitFace 38 = .ok (.aload_n 0, 1) := by decide +kernel
theorem dX3_splitFace_39 : decode cX3_splitFace 39 = .ok (.getfield 28, 3) := by decide +kernel
theorem dX3_splitFace_42 : decode cX3_splitFace 42 = .ok (.iload_n 3, 1) := by decide +kernel
theorem dX3_splitFace_43 : decode cX3_splitFace 43 = .ok (.iload 4, 2) := by decide +kernel
theorem dX3_splitFace_45 : decode cX3_splitFace 45 = .ok (.iload 5, 2) := by decide +kernel
theorem dX3_splitFace_47 : decode cX3_splitFace 47 = .ok (.invokevirtual 34, 3) := by decide +kernel
theorem dX3_splitFace_50 : decode cX3_splitFace 50 = .ok (.aload_n 0, 1) := by decide +kernel
theorem dX3_splitFace_51 : decode cX3_splitFace 51 = .ok (.aload_n 0, 1) := by decide +kernel
theorem dX3_splitFace_52 : decode cX3_splitFace 52 = .ok (.getfield 28, 3) := by decide +kernel
theorem dX3_splitFace_55 : decode cX3_splitFace 55 = .ok (.iconst 1, 1) := by decide +kernel
theorem dX3_splitFace_56 : decode cX3_splitFace 56 = .ok (.iadd, 1) := by decide +kernel
theorem dX3_splitFace_57 : decode cX3_splitFace 57 = .ok (.iload 4, 2) := by decide +kernel
theorem dX3_splitFace_59 : decode cX3_splitFace 59 = .ok (.iload_n 2, 1) := by decide +kernel
theorem dX3_splitFace_60 : decode cX3_splitFace 60 = .ok (.iload 5, 2) := by decide +kernel
theorem dX3_splitFace_62 : decode cX3_splitFace 62 = .ok (.invokevirtual 34, 3) := by decide +kernel
theorem dX3_splitFace_65 : decode cX3_splitFace 65 = .ok (.aload_n 0, 1) := by decide +kernel
theorem dX3_splitFace_66 : decode cX3_splitFace 66 = .ok (.dup, 1) := by decide +kernel
theorem dX3_splitFace_67 : decode cX3_splitFace 67 = .ok (.getfield 24, 3) := by decide +kernel
theorem dX3_splitFace_70 : decode cX3_splitFace 70 = .ok (.iconst 1, 1) := by decide +kernel
theorem dX3_splitFace_71 : decode cX3_splitFace 71 = .ok (.iadd, 1) := by decide +kernel
theorem dX3_splitFace_72 : decode cX3_splitFace 72 = .ok (.putfield 24, 3) := by decide +kernel
theorem dX3_splitFace_75 : decode cX3_splitFace 75 = .ok (.aload_n 0, 1) := by decide +kernel
theorem dX3_splitFace_76 : decode cX3_splitFace 76 = .ok (.dup, 1) := by decide +kernel
theorem dX3_splitFace_77 : decode cX3_splitFace 77 = .ok (.getfield 28, 3) := by decide +kernel
theorem dX3_splitFace_80 : decode cX3_splitFace 80 = .ok (.iconst 2, 1) := by decide +kernel
theorem dX3_splitFace_81 : decode cX3_splitFace 81 = .ok (.iadd, 1) := by decide +kernel
theorem dX3_splitFace_82 : decode cX3_splitFace 82 = .ok (.putfield 28, 3) := by decide +kernel
theorem dX3_splitFace_85 : decode cX3_splitFace 85 = .ok (.iload 5, 2) := by decide +kernel
theorem dX3_splitFace_87 : decode cX3_splitFace 87 = .ok (.ireturn, 1) := by decide +kernel
set_option maxRecDepth 20000 in
theorem ggX3_putFace_X3_putCorners : GoodIn wsX3_putFace wsX3_putCorners := goodIn_r _ [5, 6, 7, 8, 9, 4, 10, 11, 12, 13, 14, 15] (by decide +kernel) (by decide +kernel)
set_option maxRecDepth 20000 in
theorem gX3_putFace_X3_putCorners : GoodIn wsX3_putFace (wsV RX3 42 RX3 yX3_putCorners wsX3_putCorners) := goodIn_app (goodIn_of _ (by decide +kernel)) ggX3_putFace_X3_putCorners
theorem dX3_putFace_0 : decode cX3_putFace 0 = .ok (.iload_n 2, 1) := by decide +kernel
theorem dX3_putFace_1 : decode cX3_putFace 1 = .ok (.iload_n 3, 1) := by decide +kernel
theorem dX3_putFace_2 : decode cX3_putFace 2 = .ok (.if_icmp .ge 21, 3) := by decide +kernel
theorem dX3_putFace_5 : decode cX3_putFace 5 = .ok (.iload_n 2, 1) := by decide +kernel
theorem dX3_putFace_6 : decode cX3_putFace 6 = .ok (.iload 4, 2) := by decide +kernel
theorem dX3_putFace_8 : decode cX3_putFace 8 = .ok (.if_icmp .ge 15, 3) := by decide +kernel
theorem dX3_putFace_11 : decode cX3_putFace 11 = .ok (.aload_n 0, 1) := by decide +kernel
theorem dX3_putFace_12 : decode cX3_putFace 12 = .ok (.iload_n 1, 1) := by decide +kernel
theorem dX3_putFace_13 : decode cX3_putFace 13 = .ok (.iload_n 2, 1) := by decide +kernel
theorem dX3_putFace_14 : decode cX3_putFace 14 = .ok (.iload_n 3, 1) := by decide +kernel
theorem dX3_putFace_15 : decode cX3_putFace 15 = .ok (.iload 4, 2) := by decide +kernel
theorem dX3_putFace_17 : decode cX3_putFace 17 = .ok (.invokevirtual 42, 3) := by decide +kernel
theorem dX3_putFace_20 : decode cX3_putFace 20 = .ok (.goto 30, 3) := by decide +kernel
theorem dX3_putFace_23 : decode cX3_putFace 23 = .ok (.iload_n 3, 1) := by decide +kernel
theorem dX3_putFace_24 : decode cX3_putFace 24 = .ok (.iload 4, 2) := by decide +kernel
theorem dX3_putFace_26 : decode cX3_putFace 26 = .ok (.if_icmp .ge 15, 3) := by decide +kernel
theorem dX3_putFace_29 : decode cX3_putFace 29 = .ok (.aload_n 0, 1) := by decide +kernel
theorem dX3_putFace_30 : decode cX3_putFace 30 = .ok (.iload_n 1, 1) := by decide +kernel
theorem dX3_putFace_31 : decode cX3_putFace 31 = .ok (.iload_n 3, 1) := by decide +kernel
theorem dX3_putFace_32 : decode cX3_putFace 32 = .ok (.iload 4, 2) := by decide +kernel
theorem dX3_putFace_34 : decode cX3_putFace 34 = .ok (.iload_n 2, 1) := by decide +kernel
theorem dX3_putFace_35 : decode cX3_putFace 35 = .ok (.invokevirtual 42, 3) := by decide +kernel
theorem dX3_putFace_38 : decode cX3_putFace 38 = .ok (.goto 12, 3) := by decide +kernel
theorem dX3_putFace_41 : decode cX3_putFace 41 = .ok (.aload_n 0, 1) := by decide +kernel
theorem dX3_putFace_42 : decode cX3_putFace 42 = .ok (.iload_n 1, 1) := by decide +kernel
theorem dX3_putFace_43 : decode cX3_putFace 43 = .ok (.iload 4, 2) := by decide +kernel
theorem dX3_putFace_45 : decode cX3_putFace 45 = .ok (.iload_n 2, 1) := by decide +kernel
theorem dX3_putFace_46 : decode cX3_putFace 46 = .ok (.iload_n 3, 1) := by decide +kernel
theorem dX3_putFace_47 : decode cX3_putFace 47 = .ok (.invokevirtual 42, 3) := by decide +kernel
theorem dX3_putFace_50 : decode cX3_putFace 50 = .ok (.return_, 1) := by decide +kernel
set_option maxRecDepth 20000 in
theorem ggX3_putCorners_X3_putThird : GoodIn wsX3_putCorners wsX3_putThird := goodIn_r _ [6, 7, 8, 9, 10, 11] (by decide +kernel) (by decide +kernel)
set_option maxRecDepth 20000 in
theorem gX3_putCorners_X3_putThird : GoodIn wsX3_putCorners (wsV RX3 45 RX3 yX3_putThird wsX3_putThird) := goodIn_app (goodIn_of _ (by decide +kernel)) ggX3_putCorners_X3_putThird
theorem dX3_putCorners_0 : decode cX3_putCorners 0 = .ok (.aload_n 0, 1) := by decide +kernel
theorem dX3_putCorners_1 : decode cX3_putCorners 1 = .ok (.getfield 11, 3) := by decide +kernel
theorem dX3_putCorners_4 : decode cX3_putCorners 4 = .ok (.iconst 3, 1) := by decide +kernel
theorem dX3_putCorners_5 : decode cX3_putCorners 5 = .ok (.iload_n 1, 1) := by decide +kernel
theorem dX3_putCorners_6 : decode cX3_putCorners 6 = .ok (.imul, 1) := by decide +kernel
theorem dX3_putCorners_7 : decode cX3_putCorners 7 = .ok (.iload_n 2, 1) := by decide +kernel
theorem dX3_putCorners_8 : decode cX3_putCorners 8 = .ok (.iastore, 1) := by decide +kernel
theorem dX3_putCorners_9 : decode cX3_putCorners 9 = .ok (.aload_n 0, 1) := by decide +kernel
theorem dX3_putCorners_10 : decode cX3_putCorners 10 = .ok (.getfield 11, 3) := by decide +kernel
theorem dX3_putCorners_13 : decode cX3_putCorners 13 = .ok (.iconst 3, 1) := by decide +kernel
theorem dX3_putCorners_14 : decode cX3_putCorners 14 = .ok (.iload_n 1, 1) := by decide +kernel
theorem dX3_putCorners_15 : decode cX3_putCorners 15 = .ok (.imul, 1) := by decide +kernel
theorem dX3_putCorners_16 : decode cX3_putCorners 16 = .ok (.iconst 1, 1) := by decide +kernel
theorem dX3_putCorners_17 : decode cX3_putCorners 17 = .ok (.iadd, 1) := by decide +kernel
theorem dX3_putCorners_18 : decode cX3_putCorners 18 = .ok (.iload_n 3, 1) := by decide +kernel
theorem dX3_putCorners_19 : decode cX3_putCorners 19 = .ok (.iastore, 1) := by decide +kernel
theorem dX3_putCorners_20 : decode cX3_putCorners 20 = .ok (.aload_n 0, 1) := by decide +kernel
theorem dX3_putCorners_21 : decode cX3_putCorners 21 = .ok (.getfield 11, 3) := by decide +kernel
theorem dX3_putCorners_24 : decode cX3_putCorners 24 = .ok (.iconst 3, 1) := by decide +kernel
theorem dX3_putCorners_25 : decode cX3_putCorners 25 = .ok (.iload_n 1, 1) := by decide +kernel
theorem dX3_putCorners_26 : decode cX3_putCorners 26 = .ok (.imul, 1) := by decide +kernel
theorem dX3_putCorners_27 : decode cX3_putCorners 27 = .ok (.iconst 2, 1) := by decide +kernel
theorem dX3_putCorners_28 : decode cX3_putCorners 28 = .ok (.iadd, 1) := by decide +kernel
theorem dX3_putCorners_29 : decode cX3_putCorners 29 = .ok (.iload 4, 2) := by decide +kernel
theorem dX3_putCorners_31 : decode cX3_putCorners 31 = .ok (.iastore, 1) := by decide +kernel
theorem dX3_putCorners_32 : decode cX3_putCorners 32 = .ok (.aload_n 0, 1) := by decide +kernel
theorem dX3_putCorners_33 : decode cX3_putCorners 33 = .ok (.iload_n 2, 1) := by decide +kernel
theorem dX3_putCorners_34 : decode cX3_putCorners 34 = .ok (.iload_n 3, 1) := by decide +kernel
theorem dX3_putCorners_35 : decode cX3_putCorners 35 = .ok (.iload 4, 2) := by decide +kernel
theorem dX3_putCorners_37 : decode cX3_putCorners 37 = .ok (.invokevirtual 45, 3) := by decide +kernel
theorem dX3_putCorners_40 : decode cX3_putCorners 40 = .ok (.aload_n 0, 1) := by decide +kernel
theorem dX3_putCorners_41 : decode cX3_putCorners 41 = .ok (.iload_n 3, 1) := by decide +kernel
theorem dX3_putCorners_42 : decode cX3_putCorners 42 = .ok (.iload 4, 2) := by decide +kernel
theorem dX3_putCorners_44 : decode cX3_putCorners 44 = .ok (.iload_n 2, 1) := by decide +kernel
theorem dX3_putCorners_45 : decode cX3_putCorners 45 = .ok (.invokevirtual 45, 3) := by decide +kernel
theorem dX3_putCorners_48 : decode cX3_putCorners 48 = .ok (.aload_n 0, 1) := by decide +kernel
theorem dX3_putCorners_49 : decode cX3_putCorners 49 = .ok (.iload 4, 2) := by decide +kernel
theorem dX3_putCorners_51 : decode cX3_putCorners 51 = .ok (.iload_n 2, 1) := by decide +kernel
theorem dX3_putCorners_52 : decode cX3_putCorners 52 = .ok (.iload_n 3, 1) := by decide +kernel
theorem dX3_putCorners_53 : decode cX3_putCorners 53 = .ok (.invokevirtual 45, 3) := by decide +kernel
theorem dX3_putCorners_56 : decode cX3_putCorners 56 = .ok (.return_, 1) := by decide +kernel
theorem dX3_putThird_0 : decode cX3_putThird 0 = .ok (.aload_n 0, 1) := by decide +kernel
theorem dX3_putThird_1 : decode cX3_putThird 1 = .ok (.getfield 15, 3) := by decide +kernel
theorem dX3_putThird_4 : decode cX3_putThird 4 = .ok (.bipush 16, 2) := by decide +kernel
theorem dX3_putThird_6 : decode cX3_putThird 6 = .ok (.iload_n 1, 1) := by decide +kernel
theorem dX3_putThird_7 : decode cX3_putThird 7 = .ok (.imul, 1) := by decide +kernel
theorem dX3_putThird_8 : decode cX3_putThird 8 = .ok (.iload_n 2, 1) := by decide +kernel
theorem dX3_putThird_9 : decode cX3_putThird 9 = .ok (.iadd, 1) := by decide +kernel
theorem dX3_putThird_10 : decode cX3_putThird 10 = .ok (.iload_n 3, 1) := by decide +kernel
theorem dX3_putThird_11 : decode cX3_putThird 11 = .ok (.iastore, 1) := by decide +kernel
theorem dX3_putThird_12 : decode cX3_putThird 12 = .ok (.return_, 1) := by decide +kernel
set_option maxRecDepth 20000 in
theorem ggX3_thirdOf_X3_hasCorner : GoodIn wsX3_thirdOf wsX3_hasCorner := goodIn_r _ [6, 7, 8, 9, 10, 11] (by decide +kernel) (by decide +kernel)
set_option maxRecDepth 20000 in
theorem gX3_thirdOf_X3_hasCorner : GoodIn wsX3_thirdOf (wsV RX3 49 RX3 yX3_hasCorner wsX3_hasCorner) := goodIn_app (goodIn_of _ (by decide +kernel)) ggX3_thirdOf_X3_hasCorner
theorem dX3_thirdOf_0 : decode cX3_thirdOf 0 = .ok (.aload_n 0, 1) := by decide +kernel
theorem dX3_thirdOf_1 : decode cX3_thirdOf 1 = .ok (.iload_n 1, 1) := by decide +kernel
theorem dX3_thirdOf_2 : decode cX3_thirdOf 2 = .ok (.invokevirtual 49, 3) := by decide +kernel
theorem dX3_thirdOf_5 : decode cX3_thirdOf 5 = .ok (.ifCond .eq 25, 3) := by decide +kernel
theorem dX3_thirdOf_8 : decode cX3_thirdOf 8 = .ok (.aload_n 0, 1) := by decide +kernel
theorem dX3_thirdOf_9 : decode cX3_thirdOf 9 = .ok (.iload_n 2, 1) := by decide +kernel
theorem dX3_thirdOf_10 : decode cX3_thirdOf 10 = .ok (.invokevirtual 49, 3) := by decide +kernel
theorem dX3_thirdOf_13 : decode cX3_thirdOf 13 = .ok (.ifCond .eq 17, 3) := by decide +kernel
theorem dX3_thirdOf_16 : decode cX3_thirdOf 16 = .ok (.aload_n 0, 1) := by decide +kernel
theorem dX3_thirdOf_17 : decode cX3_thirdOf 17 = .ok (.getfield 15, 3) := by decide +kernel
theorem dX3_thirdOf_20 : decode cX3_thirdOf 20 = .ok (.bipush 16, 2) := by decide +kernel
theorem dX3_thirdOf_22 : decode cX3_thirdOf 22 = .ok (.iload_n 1, 1) := by decide +kernel
theorem dX3_thirdOf_23 : decode cX3_thirdOf 23 = .ok (.imul, 1) := by decide +kernel
theorem dX3_thirdOf_24 : decode cX3_thirdOf 24 = .ok (.iload_n 2, 1) := by decide +kernel
theorem dX3_thirdOf_25 : decode cX3_thirdOf 25 = .ok (.iadd, 1) := by decide +kernel
theorem dX3_thirdOf_26 : decode cX3_thirdOf 26 = .ok (.iaload, 1) := by decide +kernel
theorem dX3_thirdOf_27 : decode cX3_thirdOf 27 = .ok (.goto 4, 3) := by decide +kernel
theorem dX3_thirdOf_30 : decode cX3_thirdOf 30 = .ok (.iconst (-1), 1) := by decide +kernel
theorem dX3_thirdOf_31 : decode cX3_thirdOf 31 = .ok (.ireturn, 1) := by decide +kernel
set_option maxRecDepth 20000 in
theorem ggX3_areNeighbours_X3_thirdOf : GoodIn wsX3_areNeighbours wsX3_thirdOf := goodIn_r _ [5, 6, 7, 8, 9, 4, 10, 11, 12, 13, 14, 15] (by decide +kernel) (by decide +kernel)
set_option maxRecDepth 20000 in
theorem gX3_areNeighbours_X3_thirdOf : GoodIn wsX3_areNeighbours (wsV RX3 53 RX3 yX3_thirdOf wsX3_thirdOf) := goodIn_app (goodIn_of _ (by decide +kernel)) ggX3_areNeighbours_X3_thirdOf
theorem dX3_areNeighbours_0 : decode cX3_areNeighbours 0 = .ok (.aload_n 0, 1) := by decide +kernel
theorem dX3_areNeighbours_1 : decode cX3_areNeighbours 1 = .ok (.iload_n 1, 1) := by decide +kernel
theorem dX3_areNeighbours_2 : decode cX3_areNeighbours 2 = .ok (.iload_n 2, 1) := by decide +kernel
theorem dX3_areNeighbours_3 : decode cX3_areNeighbours 3 = .ok (.invokevirtual 53, 3) := by decide +kernel
theorem dX3_areNeighbours_6 : decode cX3_areNeighbours 6 = .ok (.iconst (-1), 1) := by decide +kernel
theorem dX3_areNeighbours_7 : decode cX3_areNeighbours 7 = .ok (.if_icmp .eq 7, 3) := by decide +kernel
theorem dX3_areNeighbours_10 : decode cX3_areNeighbours 10 = .ok (.iconst 1, 1) := by decide +kernel
theorem dX3_areNeighbours_11 : decode cX3_areNeighbours 11 = .ok (.goto 4, 3) := by decide +kernel
theorem dX3_areNeighbours_14 : decode cX3_areNeighbours 14 = .ok (.iconst 0, 1) := by decide +kernel
theorem dX3_areNeighbours_15 : decode cX3_areNeighbours 15 = .ok (.ireturn, 1) := by decide +kernel
set_option maxRecDepth 20000 in
theorem ggX3_canFlip_X3_areNeighbours : GoodIn wsX3_canFlip wsX3_areNeighbours := goodIn_r _ [5, 6, 7, 8, 4, 9, 10, 11, 12, 13, 14, 15, 16, 17, 18, 19] (by decide +kernel) (by decide +kernel)
set_option maxRecDepth 20000 in
theorem gX3_canFlip_X3_areNeighbours : GoodIn wsX3_canFlip (wsV RX3 56 RX3 yX3_areNeighbours wsX3_areNeighbours) := goodIn_app (goodIn_of _ (by decide +kernel)) ggX3_canFlip_X3_areNeighbours
set_option maxRecDepth 20000 in
theorem ggX3_canFlip_X3_thirdOf : GoodIn wsX3_canFlip wsX3_thirdOf := goodIn_r _ [9, 10, 11, 12, 13, 4, 14, 15, 16, 17, 18, 19] (by decide +kernel) (by decide +kernel)
set_option maxRecDepth 20000 in
theorem gX3_canFlip_X3_thirdOf : GoodIn wsX3_canFlip (wsV RX3 53 RX3 yX3_thirdOf wsX3_thirdOf) := goodIn_app (goodIn_of _ (by decide +kernel)) ggX3_canFlip_X3_thirdOf
theorem dX3_canFlip_0 : decode cX3_canFlip 0 = .ok (.aload_n 0, 1) := by decide +kernel
theorem dX3_canFlip_1 : decode cX3_canFlip 1 = .ok (.iload_n 1, 1) := by decide +kernel
theorem dX3_canFlip_2 : decode cX3_canFlip 2 = .ok (.iload_n 2, 1) := by decide +kernel
theorem dX3_canFlip_3 : decode cX3_canFlip 3 = .ok (.invokevirtual 56, 3) := by decide +kernel
theorem dX3_canFlip_6 : decode cX3_canFlip 6 = .ok (.ifCond .eq 26, 3) := by decide +kernel
theorem dX3_canFlip_9 : decode cX3_canFlip 9 = .ok (.aload_n 0, 1) := by decide +kernel
theorem dX3_canFlip_10 : decode cX3_canFlip 10 = .ok (.aload_n 0, 1) := by decide +kernel
theorem dX3_canFlip_11 : decode cX3_canFlip 11 = .ok (.iload_n 1, 1) := by decide +kernel
theorem dX3_canFlip_12 : decode cX3_canFlip 12 = .ok (.iload_n 2, 1) := by decide +kernel
theorem dX3_canFlip_13 : decode cX3_canFlip 13 = .ok (.invokevirtual 53, 3) := by decide +kernel
theorem dX3_canFlip_16 : decode cX3_canFlip 16 = .ok (.aload_n 0, 1) := by decide +kernel
theorem dX3_canFlip_17 : decode cX3_canFlip 17 = .ok (.iload_n 2, 1) := by decide +kernel
theorem dX3_canFlip_18 : decode cX3_canFlip 18 = .ok (.iload_n 1, 1) := by decide +kernel
theorem dX3_canFlip_19 : decode cX3_canFlip 19 = .ok (.invokevirtual 53, 3) := by decide +kernel
theorem dX3_canFlip_22 : decode cX3_canFlip 22 = .ok (.invokevirtual 56, 3) := by decide +kernel
theorem dX3_canFlip_25 : decode cX3_canFlip 25 = .ok (.ifCond .ne 7, 3) := by decide +kernel
theorem dX3_canFlip_28 : decode cX3_canFlip 28 = .ok (.iconst 1, 1) := by decide +kernel
theorem dX3_canFlip_29 : decode cX3_canFlip 29 = .ok (.goto 4, 3) := by decide +kernel
theorem dX3_canFlip_32 : decode cX3_canFlip 32 = .ok (.iconst 0, 1) := by decide +kernel
theorem dX3_canFlip_33 : decode cX3_canFlip 33 = .ok (.ireturn, 1) := by decide +kernel
set_option maxRecDepth 20000 in
theorem ggX3_flipEdge_X3_thirdOf : GoodIn wsX3_flipEdge wsX3_thirdOf := goodIn_r _ [12, 13, 14, 15, 16, 11, 17, 18, 37, 38, 39, 40] (by decide +kernel) (by decide +kernel)
set_option maxRecDepth 20000 in
theorem gX3_flipEdge_X3_thirdOf : GoodIn wsX3_flipEdge (wsV RX3 53 RX3 yX3_thirdOf wsX3_thirdOf) := goodIn_app (goodIn_of _ (by decide +kernel)) ggX3_flipEdge_X3_thirdOf
set_option maxRecDepth 20000 in
theorem ggX3_flipEdge_X3_faceWith : GoodIn wsX3_flipEdge wsX3_faceWith := goodIn_r _ [22, 23, 24, 37, 38, 39, 40] (by decide +kernel) (by decide +kernel)
set_option maxRecDepth 20000 in
theorem gX3_flipEdge_X3_faceWith : GoodIn wsX3_flipEdge (wsV RX3 60 RX3 yX3_faceWith wsX3_faceWith) := goodIn_app (goodIn_of _ (by decide +kernel)) ggX3_flipEdge_X3_faceWith
set_option maxRecDepth 20000 in
theorem ggX3_flipEdge_X3_putThird : GoodIn wsX3_flipEdge wsX3_putThird := goodIn_r _ [28, 13, 37, 38, 39, 40] (by decide +kernel) (by decide +kernel)
set_option maxRecDepth 20000 in
theorem gX3_flipEdge_X3_putThird : GoodIn wsX3_flipEdge (wsV RX3 45 RX3 yX3_putThird wsX3_putThird) := goodIn_app (goodIn_of _ (by decide +kernel)) ggX3_flipEdge_X3_putThird
set_option maxRecDepth 20000 in
theorem ggX3_flipEdge_X3_putFace : GoodIn wsX3_flipEdge wsX3_putFace := goodIn_r _ [32, 33, 34, 35, 11, 36, 24, 25, 26, 27, 28, 13, 37, 38, 39, 40] (by decide +kernel) (by decide +kernel)
set_option maxRecDepth 20000 in
theorem gX3_flipEdge_X3_putFace : GoodIn wsX3_flipEdge (wsV RX3 34 RX3 yX3_putFace wsX3_putFace) := goodIn_app (goodIn_of _ (by decide +kernel)) ggX3_flipEdge_X3_putFace
theorem dX3_flipEdge_0 : decode cX3_flipEdge 0 = .ok (.aload_n 0, 1) := by decide +kernel
theorem dX3_flipEdge_1 : decode cX3_flipEdge 1 = .ok (.iload_n 1, 1) := by decide +kernel
theorem dX3_flipEdge_2 : decode cX3_flipEdge 2 = .ok (.iload_n 2, 1) := by decide +kernel
theorem dX3_flipEdge_3 : decode cX3_flipEdge 3 = .ok (.invokevirtual 53, 3) := by decide +kernel
theorem dX3_flipEdge_6 : decode cX3_flipEdge 6 = .ok (.istore_n 3, 1) := by decide +kernel
theorem dX3_flipEdge_7 : decode cX3_flipEdge 7 = .ok (.aload_n 0, 1) := by decide +kernel
theorem dX3_flipEdge_8 : decode cX3_flipEdge 8 = .ok (.iload_n 2, 1) := by decide +kernel
theorem dX3_flipEdge_9 : decode cX3_flipEdge 9 = .ok (.iload_n 1, 1) := by decide +kernel
theorem dX3_flipEdge_10 : decode cX3_flipEdge 10 = .ok (.invokevirtual 53, 3) := by decide +kernel
theorem dX3_flipEdge_13 : decode cX3_flipEdge 13 = .ok (.istore 4, 2) := by decide +kernel
theorem dX3_flipEdge_15 : decode cX3_flipEdge 15 = .ok (.aload_n 0, 1) := by decide +kernel
theorem dX3_flipEdge_16 : decode cX3_flipEdge 16 = .ok (.iload_n 1, 1) := by decide +kernel
theorem dX3_flipEdge_17 : decode cX3_flipEdge 17 = .ok (.iload_n 2, 1) := by decide +kernel
theorem dX3_flipEdge_18 : decode cX3_flipEdge 18 = .ok (.invokevirtual 60, 3) := by decide +kernel
theorem dX3_flipEdge_21 : decode cX3_flipEdge 21 = .ok (.istore 5, 2) := by decide +kernel
theorem dX3_flipEdge_23 : decode cX3_flipEdge 23 = .ok (.aload_n 0, 1) := by decide +kernel
theorem dX3_flipEdge_24 : decode cX3_flipEdge 24 = .ok (.iload_n 2, 1) := by decide +kernel
theorem dX3_flipEdge_25 : decode cX3_flipEdge 25 = .ok (.iload_n 1, 1) := by decide +kernel
theorem dX3_flipEdge_26 : decode cX3_flipEdge 26 = .ok (.invokevirtual 60, 3) := by decide +kernel
theorem dX3_flipEdge_29 : decode cX3_flipEdge 29 = .ok (.istore 6, 2) := by decide +kernel
theorem dX3_flipEdge_31 : decode cX3_flipEdge 31 = .ok (.iload 5, 2) := by decide +kernel
theorem dX3_flipEdge_33 : decode cX3_flipEdge 33 = .ok (.iconst (-1), 1) := by decide +kernel
theorem dX3_flipEdge_34 : decode cX3_flipEdge 34 = .ok (.if_icmp .eq 9, 3) := by decide +kernel
theorem dX3_flipEdge_37 : decode cX3_flipEdge 37 = .ok (.iload 6, 2) := by decide +kernel
theorem dX3_flipEdge_39 : decode cX3_flipEdge 39 = .ok (.iconst (-1), 1) := by decide +kernel
theorem dX3_flipEdge_40 : decode cX3_flipEdge 40 = .ok (.if_icmp .ne 5, 3) := by decide +kernel
theorem dX3_flipEdge_43 : decode cX3_flipEdge 43 = .ok (.iconst (-1), 1) := by decide +kernel
theorem dX3_flipEdge_44 : decode cX3_flipEdge 44 = .ok (.ireturn, 1) := by decide +kernel
theorem dX3_flipEdge_45 : decode cX3_flipEdge 45 = .ok (.aload_n 0, 1) := by decide +kernel
theorem dX3_flipEdge_46 : decode cX3_flipEdge 46 = .ok (.iload_n 1, 1) := by decide +kernel
theorem dX3_flipEdge_47 : decode cX3_flipEdge 47 = .ok (.iload_n 2, 1) := by decide +kernel
theorem dX3_flipEdge_48 : decode cX3_flipEdge 48 = .ok (.iconst (-1), 1) := by decide +kernel
theorem dX3_flipEdge_49 : decode cX3_flipEdge 49 = .ok (.invokevirtual 45, 3) := by decide +kernel
theorem dX3_flipEdge_52 : decode cX3_flipEdge 52 = .ok (.aload_n 0, 1) := by decide +kernel
theorem dX3_flipEdge_53 : decode cX3_flipEdge 53 = .ok (.iload_n 2, 1) := by decide +kernel
theorem dX3_flipEdge_54 : decode cX3_flipEdge 54 = .ok (.iload_n 1, 1) := by decide +kernel
theorem dX3_flipEdge_55 : decode cX3_flipEdge 55 = .ok (.iconst (-1), 1) := by decide +kernel
theorem dX3_flipEdge_56 : decode cX3_flipEdge 56 = .ok (.invokevirtual 45, 3) := by decide +kernel
theorem dX3_flipEdge_59 : decode cX3_flipEdge 59 = .ok (.aload_n 0, 1) := by decide +kernel
theorem dX3_flipEdge_60 : decode cX3_flipEdge 60 = .ok (.iload 5, 2) := by decide +kernel
theorem dX3_flipEdge_62 : decode cX3_flipEdge 62 = .ok (.iload_n 1, 1) := by decide +kernel
theorem dX3_flipEdge_63 : decode cX3_flipEdge 63 = .ok (.iload 4, 2) := by decide +kernel
theorem dX3_flipEdge_65 : decode cX3_flipEdge 65 = .ok (.iload_n 3, 1) := by decide +kernel
theorem dX3_flipEdge_66 : decode cX3_flipEdge 66 = .ok (.invokevirtual 34, 3) := by decide +kernel
theorem dX3_flipEdge_69 : decode cX3_flipEdge 69 = .ok (.aload_n 0, 1) := by decide +kernel
theorem dX3_flipEdge_70 : decode cX3_flipEdge 70 = .ok (.iload 6, 2) := by decide +kernel
theorem dX3_flipEdge_72 : decode cX3_flipEdge 72 = .ok (.iload 4, 2) := by decide +kernel
theorem dX3_flipEdge_74 : decode cX3_flipEdge 74 = .ok (.iload_n 2, 1) := by decide +kernel
theorem dX3_flipEdge_75 : decode cX3_flipEdge 75 = .ok (.iload_n 3, 1) := by decide +kernel
theorem dX3_flipEdge_76 : decode cX3_flipEdge 76 = .ok (.invokevirtual 34, 3) := by decide +kernel
theorem dX3_flipEdge_79 : decode cX3_flipEdge 79 = .ok (.bipush 100, 2) := by decide +kernel
theorem dX3_flipEdge_81 : decode cX3_flipEdge 81 = .ok (.iload_n 3, 1) := by decide +kernel
theorem dX3_flipEdge_82 : decode cX3_flipEdge 82 = .ok (.iload 4, 2) := by decide +kernel
theorem dX3_flipEdge_84 : decode cX3_flipEdge 84 = .ok (.invokestatic 63, 3) := by decide +kernel
theorem dX3_flipEdge_87 : decode cX3_flipEdge 87 = .ok (.imul, 1) := by decide +kernel
theorem dX3_flipEdge_88 : decode cX3_flipEdge 88 = .ok (.iload_n 3, 1) := by decide +kernel
theorem dX3_flipEdge_89 : decode cX3_flipEdge 89 = .ok (.iload 4, 2) := by decide +kernel
theorem dX3_flipEdge_91 : decode cX3_flipEdge 91 = .ok (.invokestatic 68, 3) := by decide +kernel
theorem dX3_flipEdge_94 : decode cX3_flipEdge 94 = .ok (.iadd, 1) := by decide +kernel
theorem dX3_flipEdge_95 : decode cX3_flipEdge 95 = .ok (.ireturn, 1) := by decide +kernel
theorem dX3_faceWith_0 : decode cX3_faceWith 0 = .ok (.iconst 0, 1) := by decide +kernel
theorem dX3_faceWith_1 : decode cX3_faceWith 1 = .ok (.istore_n 3, 1) := by decide +kernel
theorem dX3_faceWith_2 : decode cX3_faceWith 2 = .ok (.iload_n 3, 1) := by decide +kernel
theorem dX3_faceWith_3 : decode cX3_faceWith 3 = .ok (.iconst 3, 1) := by decide +kernel
theorem dX3_faceWith_4 : decode cX3_faceWith 4 = .ok (.aload_n 0, 1) := by decide +kernel
theorem dX3_faceWith_5 : decode cX3_faceWith 5 = .ok (.getfield 28, 3) := by decide +kernel
theorem dX3_faceWith_8 : decode cX3_faceWith 8 = .ok (.imul, 1) := by decide +kernel
theorem dX3_faceWith_9 : decode cX3_faceWith 9 = .ok (.if_icmp .ge 52, 3) := by decide +kernel
theorem dX3_faceWith_12 : decode cX3_faceWith 12 = .ok (.iload_n 3, 1) := by decide +kernel
theorem dX3_faceWith_13 : decode cX3_faceWith 13 = .ok (.iconst 3, 1) := by decide +kernel
theorem dX3_faceWith_14 : decode cX3_faceWith 14 = .ok (.irem, 1) := by decide +kernel
theorem dX3_faceWith_15 : decode cX3_faceWith 15 = .ok (.iconst 2, 1) := by decide +kernel
theorem dX3_faceWith_16 : decode cX3_faceWith 16 = .ok (.if_icmp .ne 9, 3) := by decide +kernel
theorem dX3_faceWith_19 : decode cX3_faceWith 19 = .ok (.iload_n 3, 1) := by decide +kernel
theorem dX3_faceWith_20 : decode cX3_faceWith 20 = .ok (.iconst 2, 1) := by decide +kernel
theorem dX3_faceWith_21 : decode cX3_faceWith 21 = .ok (.isub, 1) := by decide +kernel
theorem dX3_faceWith_22 : decode cX3_faceWith 22 = .ok (.goto 6, 3) := by decide +kernel
theorem dX3_faceWith_25 : decode cX3_faceWith 25 = .ok (.iload_n 3, 1) := by decide +kernel
theorem dX3_faceWith_26 : decode cX3_faceWith 26 = .ok (.iconst 1, 1) := by decide +kernel
theorem dX3_faceWith_27 : decode cX3_faceWith 27 = .ok (.iadd, 1) := by decide +kernel
theorem dX3_faceWith_28 : decode cX3_faceWith 28 = .ok (.istore 4, 2) := by decide +kernel
theorem dX3_faceWith_30 : decode cX3_faceWith 30 = .ok (.aload_n 0, 1) := by decide +kernel
theorem dX3_faceWith_31 : decode cX3_faceWith 31 = .ok (.getfield 11, 3) := by decide +kernel
theorem dX3_faceWith_34 : decode cX3_faceWith 34 = .ok (.iload_n 3, 1) := by decide +kernel
theorem dX3_faceWith_35 : decode cX3_faceWith 35 = .ok (.iaload, 1) := by decide +kernel
theorem dX3_faceWith_36 : decode cX3_faceWith 36 = .ok (.iload_n 1, 1) := by decide +kernel
theorem dX3_faceWith_37 : decode cX3_faceWith 37 = .ok (.if_icmp .ne 18, 3) := by decide +kernel
theorem dX3_faceWith_40 : decode cX3_faceWith 40 = .ok (.aload_n 0, 1) := by decide +kernel
theorem dX3_faceWith_41 : decode cX3_faceWith 41 = .ok (.getfield 11, 3) := by decide +kernel
theorem dX3_faceWith_44 : decode cX3_faceWith 44 = .ok (.iload 4, 2) := by decide +kernel
theorem dX3_faceWith_46 : decode cX3_faceWith 46 = .ok (.iaload, 1) := by decide +kernel
theorem dX3_faceWith_47 : decode cX3_faceWith 47 = .ok (.iload_n 2, 1) := by decide +kernel
theorem dX3_faceWith_48 : decode cX3_faceWith 48 = .ok (.if_icmp .ne 7, 3) := by decide +kernel
theorem dX3_faceWith_51 : decode cX3_faceWith 51 = .ok (.iload_n 3, 1) := by decide +kernel
theorem dX3_faceWith_52 : decode cX3_faceWith 52 = .ok (.iconst 3, 1) := by decide +kernel
theorem dX3_faceWith_53 : decode cX3_faceWith 53 = .ok (.idiv, 1) := by decide +kernel
theorem dX3_faceWith_54 : decode cX3_faceWith 54 = .ok (.ireturn, 1) := by decide +kernel
theorem dX3_faceWith_55 : decode cX3_faceWith 55 = .ok (.iinc 3 1, 3) := by decide +kernel
theorem dX3_faceWith_58 : decode cX3_faceWith 58 = .ok (.goto (-56), 3) := by decide +kernel
theorem dX3_faceWith_61 : decode cX3_faceWith 61 = .ok (.iconst (-1), 1) := by decide +kernel
theorem dX3_faceWith_62 : decode cX3_faceWith 62 = .ok (.ireturn, 1) := by decide +kernel
set_option maxRecDepth 20000 in
theorem ggX3_neighbourAt_X3_lowestNeighbour : GoodIn wsX3_neighbourAt wsX3_lowestNeighbour := goodIn_r _ [5, 6, 7, 8, 9, 4, 10, 11, 12, 13, 14, 15, 16, 17, 18, 19, 20, 21, 22, 23] (by decide +kernel) (by decide +kernel)
set_option maxRecDepth 20000 in
theorem gX3_neighbourAt_X3_lowestNeighbour : GoodIn wsX3_neighbourAt (wsV RX3 71 RX3 yX3_lowestNeighbour wsX3_lowestNeighbour) := goodIn_app (goodIn_of _ (by decide +kernel)) ggX3_neighbourAt_X3_lowestNeighbour
set_option maxRecDepth 20000 in
theorem ggX3_neighbourAt_X3_thirdOf : GoodIn wsX3_neighbourAt wsX3_thirdOf := goodIn_r _ [14, 15, 16, 17, 18, 4, 19, 6, 20, 21, 22, 23] (by decide +kernel) (by decide +kernel)
set_option maxRecDepth 20000 in
theorem gX3_neighbourAt_X3_thirdOf : GoodIn wsX3_neighbourAt (wsV RX3 53 RX3 yX3_thirdOf wsX3_thirdOf) := goodIn_app (goodIn_of _ (by decide +kernel)) ggX3_neighbourAt_X3_thirdOf
theorem dX3_neighbourAt_0 : decode cX3_neighbourAt 0 = .ok (.iload_n 2, 1) := by decide +kernel
theorem dX3_neighbourAt_1 : decode cX3_neighbourAt 1 = .ok (.bipush 16, 2) := by decide +kernel
theorem dX3_neighbourAt_3 : decode cX3_neighbourAt 3 = .ok (.if_icmp .lt 5, 3) := by decide +kernel
theorem dX3_neighbourAt_6 : decode cX3_neighbourAt 6 = .ok (.iconst (-1), 1) := by decide +kernel
theorem dX3_neighbourAt_7 : decode cX3_neighbourAt 7 = .ok (.ireturn, 1) := by decide +kernel
theorem dX3_neighbourAt_8 : decode cX3_neighbourAt 8 = .ok (.aload_n 0, 1) := by decide +kernel
theorem dX3_neighbourAt_9 : decode cX3_neighbourAt 9 = .ok (.iload_n 1, 1) := by decide +kernel
theorem dX3_neighbourAt_10 : decode cX3_neighbourAt 10 = .ok (.invokevirtual 71, 3) := by decide +kernel
theorem dX3_neighbourAt_13 : decode cX3_neighbourAt 13 = .ok (.istore_n 3, 1) := by decide +kernel
theorem dX3_neighbourAt_14 : decode cX3_neighbourAt 14 = .ok (.iload_n 3, 1) := by decide +kernel
theorem dX3_neighbourAt_15 : decode cX3_neighbourAt 15 = .ok (.istore 4, 2) := by decide +kernel
theorem dX3_neighbourAt_17 : decode cX3_neighbourAt 17 = .ok (.iconst 0, 1) := by decide +kernel
theorem dX3_neighbourAt_18 : decode cX3_neighbourAt 18 = .ok (.istore 5, 2) := by decide +kernel
theorem dX3_neighbourAt_20 : decode cX3_neighbourAt 20 = .ok (.iload 5, 2) := by decide +kernel
theorem dX3_neighbourAt_22 : decode cX3_neighbourAt 22 = .ok (.iload_n 2, 1) := by decide +kernel
theorem dX3_neighbourAt_23 : decode cX3_neighbourAt 23 = .ok (.if_icmp .ge 32, 3) := by decide +kernel
theorem dX3_neighbourAt_26 : decode cX3_neighbourAt 26 = .ok (.aload_n 0, 1) := by decide +kernel
theorem dX3_neighbourAt_27 : decode cX3_neighbourAt 27 = .ok (.iload_n 1, 1) := by decide +kernel
theorem dX3_neighbourAt_28 : decode cX3_neighbourAt 28 = .ok (.iload 4, 2) := by decide +kernel
theorem dX3_neighbourAt_30 : decode cX3_neighbourAt 30 = .ok (.invokevirtual 53, 3) := by decide +kernel
theorem dX3_neighbourAt_33 : decode cX3_neighbourAt 33 = .ok (.istore 4, 2) := by decide +kernel
theorem dX3_neighbourAt_35 : decode cX3_neighbourAt 35 = .ok (.iload 4, 2) := by decide +kernel
theorem dX3_neighbourAt_37 : decode cX3_neighbourAt 37 = .ok (.iload_n 3, 1) := by decide +kernel
theorem dX3_neighbourAt_38 : decode cX3_neighbourAt 38 = .ok (.if_icmp .eq 9, 3) := by decide +kernel
theorem dX3_neighbourAt_41 : decode cX3_neighbourAt 41 = .ok (.iload 4, 2) := by decide +kernel
theorem dX3_neighbourAt_43 : decode cX3_neighbourAt 43 = .ok (.iconst (-1), 1) := by decide +kernel
theorem dX3_neighbourAt_44 : decode cX3_neighbourAt 44 = .ok (.if_icmp .ne 5, 3) := by decide +kernel
theorem dX3_neighbourAt_47 : decode cX3_neighbourAt 47 = .ok (.iconst (-1), 1) := by decide +kernel
theorem dX3_neighbourAt_48 : decode cX3_neighbourAt 48 = .ok (.ireturn, 1) := by decide +kernel
theorem dX3_neighbourAt_49 : decode cX3_neighbourAt 49 = .ok (.iinc 5 1, 3) := by decide +kernel
theorem dX3_neighbourAt_52 : decode cX3_neighbourAt 52 = .ok (.goto (-32), 3) := by decide +kernel
theorem dX3_neighbourAt_55 : decode cX3_neighbourAt 55 = .ok (.iload 4, 2) := by decide +kernel
theorem dX3_neighbourAt_57 : decode cX3_neighbourAt 57 = .ok (.ireturn, 1) := by decide +kernel
set_option maxRecDepth 20000 in
theorem ggX3_lowestNeighbour_X3_areNeighbours : GoodIn wsX3_lowestNeighbour wsX3_areNeighbours := goodIn_r _ [6, 7, 8, 9, 5, 10, 11, 12, 13, 14, 15, 1, 16, 17, 18, 19] (by decide +kernel) (by decide +kernel)
set_option maxRecDepth 20000 in
theorem gX3_lowestNeighbour_X3_areNeighbours : GoodIn wsX3_lowestNeighbour (wsV RX3 56 RX3 yX3_areNeighbours wsX3_areNeighbours) := goodIn_app (goodIn_of _ (by decide +kernel)) ggX3_lowestNeighbour_X3_areNeighbours
theorem dX3_lowestNeighbour_0 : decode cX3_lowestNeighbour 0 = .ok (.iconst 0, 1) := by decide +kernel
theorem dX3_lowestNeighbour_1 : decode cX3_lowestNeighbour 1 = .ok (.istore_n 2, 1) := by decide +kernel
theorem dX3_lowestNeighbour_2 : decode cX3_lowestNeighbour 2 = .ok (.iload_n 2, 1) := by decide +kernel
theorem dX3_lowestNeighbour_3 : decode cX3_lowestNeighbour 3 = .ok (.aload_n 0, 1) := by decide +kernel
theorem dX3_lowestNeighbour_4 : decode cX3_lowestNeighbour 4 = .ok (.getfield 24, 3) := by decide +kernel
theorem dX3_lowestNeighbour_7 : decode cX3_lowestNeighbour 7 = .ok (.if_icmp .ge 20, 3) := by decide +kernel
theorem dX3_lowestNeighbour_10 : decode cX3_lowestNeighbour 10 = .ok (.aload_n 0, 1) := by decide +kernel
theorem dX3_lowestNeighbour_11 : decode cX3_lowestNeighbour 11 = .ok (.iload_n 1, 1) := by decide +kernel
theorem dX3_lowestNeighbour_12 : decode cX3_lowestNeighbour 12 = .ok (.iload_n 2, 1) := by decide +kernel
theorem dX3_lowestNeighbour_13 : decode cX3_lowestNeighbour 13 = .ok (.invokevirtual 56, 3) := by decide +kernel
theorem dX3_lowestNeighbour_16 : decode cX3_lowestNeighbour 16 = .ok (.ifCond .eq 5, 3) := by decide +kernel
theorem dX3_lowestNeighbour_19 : decode cX3_lowestNeighbour 19 = .ok (.iload_n 2, 1) := by decide +kernel
theorem dX3_lowestNeighbour_20 : decode cX3_lowestNeighbour 20 = .ok (.ireturn, 1) := by decide +kernel
theorem dX3_lowestNeighbour_21 : decode cX3_lowestNeighbour 21 = .ok (.iinc 2 1, 3) := by decide +kernel
theorem dX3_lowestNeighbour_24 : decode cX3_lowestNeighbour 24 = .ok (.goto (-22), 3) := by decide +kernel
theorem dX3_lowestNeighbour_27 : decode cX3_lowestNeighbour 27 = .ok (.iconst (-1), 1) := by decide +kernel
theorem dX3_lowestNeighbour_28 : decode cX3_lowestNeighbour 28 = .ok (.ireturn, 1) := by decide +kernel
theorem dX3_edgeCount_0 : decode cX3_edgeCount 0 = .ok (.iconst 3, 1) := by decide +kernel
theorem dX3_edgeCount_1 : decode cX3_edgeCount 1 = .ok (.aload_n 0, 1) := by decide +kernel
theorem dX3_edgeCount_2 : decode cX3_edgeCount 2 = .ok (.getfield 28, 3) := by decide +kernel
theorem dX3_edgeCount_5 : decode cX3_edgeCount 5 = .ok (.imul, 1) := by decide +kernel
theorem dX3_edgeCount_6 : decode cX3_edgeCount 6 = .ok (.iconst 2, 1) := by decide +kernel
theorem dX3_edgeCount_7 : decode cX3_edgeCount 7 = .ok (.idiv, 1) := by decide +kernel
theorem dX3_edgeCount_8 : decode cX3_edgeCount 8 = .ok (.ireturn, 1) := by decide +kernel
set_option maxRecDepth 20000 in
theorem ggX3_flippableCount_X3_canFlip : GoodIn wsX3_flippableCount wsX3_canFlip := goodIn_r _ [6, 7, 8, 9, 5, 10, 11, 12, 13, 14, 15, 16, 17, 18, 19, 1, 20, 21, 22, 23] (by decide +kernel) (by decide +kernel)
set_option maxRecDepth 20000 in
theorem gX3_flippableCount_X3_canFlip : GoodIn wsX3_flippableCount (wsV RX3 75 RX3 yX3_canFlip wsX3_canFlip) := goodIn_app (goodIn_of _ (by decide +kernel)) ggX3_flippableCount_X3_canFlip
theorem dX3_flippableCount_0 : decode cX3_flippableCount 0 = .ok (.iconst 0, 1) := by decide +kernel
theorem dX3_flippableCount_1 : decode cX3_flippableCount 1 = .ok (.istore_n 1, 1) := by decide +kernel
theorem dX3_flippableCount_2 : decode cX3_flippableCount 2 = .ok (.iconst 1, 1) := by decide +kernel
theorem dX3_flippableCount_3 : decode cX3_flippableCount 3 = .ok (.istore_n 2, 1) := by decide +kernel
theorem dX3_flippableCount_4 : decode cX3_flippableCount 4 = .ok (.iload_n 2, 1) := by decide +kernel
theorem dX3_flippableCount_5 : decode cX3_flippableCount 5 = .ok (.aload_n 0, 1) := by decide +kernel
theorem dX3_flippableCount_6 : decode cX3_flippableCount 6 = .ok (.getfield 24, 3) := by decide +kernel
theorem dX3_flippableCount_9 : decode cX3_flippableCount 9 = .ok (.if_icmp .ge 34, 3) := by decide +kernel
theorem dX3_flippableCount_12 : decode cX3_flippableCount 12 = .ok (.iconst 0, 1) := by decide +kernel
theorem dX3_flippableCount_13 : decode cX3_flippableCount 13 = .ok (.istore_n 3, 1) := by decide +kernel
theorem dX3_flippableCount_14 : decode cX3_flippableCount 14 = .ok (.iload_n 3, 1) := by decide +kernel
theorem dX3_flippableCount_15 : decode cX3_flippableCount 15 = .ok (.iload_n 2, 1) := by decide +kernel
theorem dX3_flippableCount_16 : decode cX3_flippableCount 16 = .ok (.if_icmp .ge 21, 3) := by decide +kernel
theorem dX3_flippableCount_19 : decode cX3_flippableCount 19 = .ok (.aload_n 0, 1) := by decide +kernel
theorem dX3_flippableCount_20 : decode cX3_flippableCount 20 = .ok (.iload_n 3, 1) := by decide +kernel
theorem dX3_flippableCount_21 : decode cX3_flippableCount 21 = .ok (.iload_n 2, 1) := by decide +kernel
theorem dX3_flippableCount_22 : decode cX3_flippableCount 22 = .ok (.invokevirtual 75, 3) := by decide +kernel
theorem dX3_flippableCount_25 : decode cX3_flippableCount 25 = .ok (.ifCond .eq 6, 3) := by decide +kernel
theorem dX3_flippableCount_28 : decode cX3_flippableCount 28 = .ok (.iinc 1 1, 3) := by decide +kernel
theorem dX3_flippableCount_31 : decode cX3_flippableCount 31 = .ok (.iinc 3 1, 3) := by decide +kernel
theorem dX3_flippableCount_34 : decode cX3_flippableCount 34 = .ok (.goto (-20), 3) := by decide +kernel
theorem dX3_flippableCount_37 : decode cX3_flippableCount 37 = .ok (.iinc 2 1, 3) := by decide +kernel
theorem dX3_flippableCount_40 : decode cX3_flippableCount 40 = .ok (.goto (-36), 3) := by decide +kernel
theorem dX3_flippableCount_43 : decode cX3_flippableCount 43 = .ok (.iload_n 1, 1) := by decide +kernel
theorem dX3_flippableCount_44 : decode cX3_flippableCount 44 = .ok (.ireturn, 1) := by decide +kernel
set_option maxRecDepth 20000 in
theorem ggX3_mostNeighbours_X3_facesAt : GoodIn wsX3_mostNeighbours wsX3_facesAt := goodIn_r _ [10, 11, 12, 13, 14, 15, 16] (by decide +kernel) (by decide +kernel)
set_option maxRecDepth 20000 in
theorem gX3_mostNeighbours_X3_facesAt : GoodIn wsX3_mostNeighbours (wsV RX3 78 RX3 yX3_facesAt wsX3_facesAt) := goodIn_app (goodIn_of _ (by decide +kernel)) ggX3_mostNeighbours_X3_facesAt
theorem dX3_mostNeighbours_0 : decode cX3_mostNeighbours 0 = .ok (.iconst 0, 1) := by decide +kernel
theorem dX3_mostNeighbours_1 : decode cX3_mostNeighbours 1 = .ok (.istore_n 1, 1) := by decide +kernel
theorem dX3_mostNeighbours_2 : decode cX3_mostNeighbours 2 = .ok (.iconst 0, 1) := by decide +kernel
theorem dX3_mostNeighbours_3 : decode cX3_mostNeighbours 3 = .ok (.istore_n 2, 1) := by decide +kernel
theorem dX3_mostNeighbours_4 : decode cX3_mostNeighbours 4 = .ok (.iload_n 2, 1) := by decide +kernel
theorem dX3_mostNeighbours_5 : decode cX3_mostNeighbours 5 = .ok (.aload_n 0, 1) := by decide +kernel
theorem dX3_mostNeighbours_6 : decode cX3_mostNeighbours 6 = .ok (.getfield 24, 3) := by decide +kernel
theorem dX3_mostNeighbours_9 : decode cX3_mostNeighbours 9 = .ok (.if_icmp .ge 19, 3) := by decide +kernel
theorem dX3_mostNeighbours_12 : decode cX3_mostNeighbours 12 = .ok (.iload_n 1, 1) := by decide +kernel
theorem dX3_mostNeighbours_13 : decode cX3_mostNeighbours 13 = .ok (.aload_n 0, 1) := by decide +kernel
theorem dX3_mostNeighbours_14 : decode cX3_mostNeighbours 14 = .ok (.iload_n 2, 1) := by decide +kernel
theorem dX3_mostNeighbours_15 : decode cX3_mostNeighbours 15 = .ok (.invokevirtual 78, 3) := by decide +kernel
theorem dX3_mostNeighbours_18 : decode cX3_mostNeighbours 18 = .ok (.invokestatic 68, 3) := by decide +kernel
theorem dX3_mostNeighbours_21 : decode cX3_mostNeighbours 21 = .ok (.istore_n 1, 1) := by decide +kernel
theorem dX3_mostNeighbours_22 : decode cX3_mostNeighbours 22 = .ok (.iinc 2 1, 3) := by decide +kernel
theorem dX3_mostNeighbours_25 : decode cX3_mostNeighbours 25 = .ok (.goto (-21), 3) := by decide +kernel
theorem dX3_mostNeighbours_28 : decode cX3_mostNeighbours 28 = .ok (.iload_n 1, 1) := by decide +kernel
theorem dX3_mostNeighbours_29 : decode cX3_mostNeighbours 29 = .ok (.ireturn, 1) := by decide +kernel
theorem dX3_facesAt_0 : decode cX3_facesAt 0 = .ok (.iconst 0, 1) := by decide +kernel
theorem dX3_facesAt_1 : decode cX3_facesAt 1 = .ok (.istore_n 2, 1) := by decide +kernel
theorem dX3_facesAt_2 : decode cX3_facesAt 2 = .ok (.iconst 0, 1) := by decide +kernel
theorem dX3_facesAt_3 : decode cX3_facesAt 3 = .ok (.istore_n 3, 1) := by decide +kernel
theorem dX3_facesAt_4 : decode cX3_facesAt 4 = .ok (.iload_n 3, 1) := by decide +kernel
theorem dX3_facesAt_5 : decode cX3_facesAt 5 = .ok (.iconst 3, 1) := by decide +kernel
theorem dX3_facesAt_6 : decode cX3_facesAt 6 = .ok (.aload_n 0, 1) := by decide +kernel
theorem dX3_facesAt_7 : decode cX3_facesAt 7 = .ok (.getfield 28, 3) := by decide +kernel
theorem dX3_facesAt_10 : decode cX3_facesAt 10 = .ok (.imul, 1) := by decide +kernel
theorem dX3_facesAt_11 : decode cX3_facesAt 11 = .ok (.if_icmp .ge 22, 3) := by decide +kernel
theorem dX3_facesAt_14 : decode cX3_facesAt 14 = .ok (.aload_n 0, 1) := by decide +kernel
theorem dX3_facesAt_15 : decode cX3_facesAt 15 = .ok (.getfield 11, 3) := by decide +kernel
theorem dX3_facesAt_18 : decode cX3_facesAt 18 = .ok (.iload_n 3, 1) := by decide +kernel
theorem dX3_facesAt_19 : decode cX3_facesAt 19 = .ok (.iaload, 1) := by decide +kernel
theorem dX3_facesAt_20 : decode cX3_facesAt 20 = .ok (.iload_n 1, 1) := by decide +kernel
theorem dX3_facesAt_21 : decode cX3_facesAt 21 = .ok (.if_icmp .ne 6, 3) := by decide +kernel
theorem dX3_facesAt_24 : decode cX3_facesAt 24 = .ok (.iinc 2 1, 3) := by decide +kernel
theorem dX3_facesAt_27 : decode cX3_facesAt 27 = .ok (.iinc 3 1, 3) := by decide +kernel
theorem dX3_facesAt_30 : decode cX3_facesAt 30 = .ok (.goto (-26), 3) := by decide +kernel
theorem dX3_facesAt_33 : decode cX3_facesAt 33 = .ok (.iload_n 2, 1) := by decide +kernel
theorem dX3_facesAt_34 : decode cX3_facesAt 34 = .ok (.ireturn, 1) := by decide +kernel
set_option maxRecDepth 20000 in
theorem ggX4_init_Jx4a65c_init_da8c8 : GoodIn wsX4_init wsJx4a65c_init_da8c8 := goodIn_r _ [14, 15, 16, 17, 18, 19, 20, 21, 22, 23, 24, 25, 26, 2, 3, 27, 28, 29] (by decide +kernel) (by decide +kernel)
set_option maxRecDepth 20000 in
theorem gX4_init_Jx4a65c_init_da8c8 : GoodIn wsX4_init (wsJx4a65c_init_da8c8) := ggX4_init_Jx4a65c_init_da8c8
theorem dX4_init_0 : decode cX4_init 0 = .ok (.aload_n 0, 1) := by decide +kernel
theorem dX4_init_1 : decode cX4_init 1 = .ok (.invokespecial 3, 3) := by decide +kernel
theorem dX4_init_4 : decode cX4_init 4 = .ok (.aload_n 0, 1) := by decide +kernel
theorem dX4_init_5 : decode cX4_init 5 = .ok (.new 9, 3) := by decide +kernel
theorem dX4_init_8 : decode cX4_init 8 = .ok (.dup, 1) := by decide +kernel
theorem dX4_init_9 : decode cX4_init 9 = .ok (.invokespecial 11, 3) := by decide +kernel
theorem dX4_init_12 : decode cX4_init 12 = .ok (.putfield 12, 3) := by decide +kernel
theorem dX4_init_15 : decode cX4_init 15 = .ok (.aload_n 0, 1) := by decide +kernel
theorem dX4_init_16 : decode cX4_init 16 = .ok (.iconst 5, 1) := by decide +kernel
theorem dX4_init_17 : decode cX4_init 17 = .ok (.iconst 5, 1) := by decide +kernel
theorem dX4_init_18 : decode cX4_init 18 = .ok (.multianewarray 18 2, 4) := by decide +kernel
theorem dX4_init_22 : decode cX4_init 22 = .ok (.putfield 20, 3) := by decide +kernel
theorem dX4_init_25 : decode cX4_init 25 = .ok (.aload_n 0, 1) := by decide +kernel
theorem dX4_init_26 : decode cX4_init 26 = .ok (.iconst 2, 1) := by decide +kernel
theorem dX4_init_27 : decode cX4_init 27 = .ok (.putfield 23, 3) := by decide +kernel
theorem dX4_init_30 : decode cX4_init 30 = .ok (.return_, 1) := by decide +kernel
set_option maxRecDepth 20000 in
theorem ggX4_beginAnew_Jx4a65c_clear_da8c8 : GoodIn wsX4_beginAnew wsJx4a65c_clear_da8c8 := goodIn_r _ [7, 8, 9, 10, 11, 15, 16, 17] (by decide +kernel) (by decide +kernel)
set_option maxRecDepth 20000 in
theorem gX4_beginAnew_Jx4a65c_clear_da8c8 : GoodIn wsX4_beginAnew (wsV RX4 27 RJx4a65c yJx4a65c_clear_da8c8 wsJx4a65c_clear_da8c8) := goodIn_app (goodIn_of _ (by decide +kernel)) ggX4_beginAnew_Jx4a65c_clear_da8c8
theorem dX4_beginAnew_0 : decode cX4_beginAnew 0 = .ok (.aload_n 0, 1) := by decide +kernel
theorem dX4_beginAnew_1 : decode cX4_beginAnew 1 = .ok (.getfield 23, 3) := by decide +kernel
theorem dX4_beginAnew_4 : decode cX4_beginAnew 4 = .ok (.istore_n 2, 1) := by decide +kernel
theorem dX4_beginAnew_5 : decode cX4_beginAnew 5 = .ok (.aload_n 0, 1) := by decide +kernel
theorem dX4_beginAnew_6 : decode cX4_beginAnew 6 = .ok (.iload_n 1, 1) := by decide +kernel
theorem dX4_beginAnew_7 : decode cX4_beginAnew 7 = .ok (.putfield 23, 3) := by decide +kernel
theorem dX4_beginAnew_10 : decode cX4_beginAnew 10 = .ok (.aload_n 0, 1) := by decide +kernel
theorem dX4_beginAnew_11 : decode cX4_beginAnew 11 = .ok (.getfield 12, 3) := by decide +kernel
theorem dX4_beginAnew_14 : decode cX4_beginAnew 14 = .ok (.invokevirtual 27, 3) := by decide +kernel
theorem dX4_beginAnew_17 : decode cX4_beginAnew 17 = .ok (.iload_n 2, 1) := by decide +kernel
theorem dX4_beginAnew_18 : decode cX4_beginAnew 18 = .ok (.ireturn, 1) := by decide +kernel
theorem dX4_hasNode_0 : decode cX4_hasNode 0 = .ok (.iload_n 1, 1) := by decide +kernel
theorem dX4_hasNode_1 : decode cX4_hasNode 1 = .ok (.ifCond .lt 15, 3) := by decide +kernel
theorem dX4_hasNode_4 : decode cX4_hasNode 4 = .ok (.iload_n 1, 1) := by decide +kernel
theorem dX4_hasNode_5 : decode cX4_hasNode 5 = .ok (.aload_n 0, 1) := by decide +kernel
theorem dX4_hasNode_6 : decode cX4_hasNode 6 = .ok (.getfield 23, 3) := by decide +kernel
theorem dX4_hasNode_9 : decode cX4_hasNode 9 = .ok (.if_icmp .ge 7, 3) := by decide +kernel
theorem dX4_hasNode_12 : decode cX4_hasNode 12 = .ok (.iconst 1, 1) := by decide +kernel
theorem dX4_hasNode_13 : decode cX4_hasNode 13 = .ok (.goto 4, 3) := by decide +kernel
theorem dX4_hasNode_16 : decode cX4_hasNode 16 = .ok (.iconst 0, 1) := by decide +kernel
theorem dX4_hasNode_17 : decode cX4_hasNode 17 = .ok (.ireturn, 1) := by decide +kernel
set_option maxRecDepth 20000 in
theorem ggX4_hasWire_Jx4a65c_size_8abf5 : GoodIn wsX4_hasWire wsJx4a65c_size_8abf5 := goodIn_r _ [6, 7, 11, 12, 13] (by decide +kernel) (by decide +kernel)
set_option maxRecDepth 20000 in
theorem gX4_hasWire_Jx4a65c_size_8abf5 : GoodIn wsX4_hasWire (wsV RX4 30 RJx4a65c yJx4a65c_size_8abf5 wsJx4a65c_size_8abf5) := goodIn_app (goodIn_of _ (by decide +kernel)) ggX4_hasWire_Jx4a65c_size_8abf5
theorem dX4_hasWire_0 : decode cX4_hasWire 0 = .ok (.iload_n 1, 1) := by decide +kernel
theorem dX4_hasWire_1 : decode cX4_hasWire 1 = .ok (.ifCond .lt 18, 3) := by decide +kernel
theorem dX4_hasWire_4 : decode cX4_hasWire 4 = .ok (.iload_n 1, 1) := by decide +kernel
theorem dX4_hasWire_5 : decode cX4_hasWire 5 = .ok (.aload_n 0, 1) := by decide +kernel
theorem dX4_hasWire_6 : decode cX4_hasWire 6 = .ok (.getfield 12, 3) := by decide +kernel
theorem dX4_hasWire_9 : decode cX4_hasWire 9 = .ok (.invokevirtual 30, 3) := by decide +kernel
theorem dX4_hasWire_12 : decode cX4_hasWire 12 = .ok (.if_icmp .ge 7, 3) := by decide +kernel
theorem dX4_hasWire_15 : decode cX4_hasWire 15 = .ok (.iconst 1, 1) := by decide +kernel
theorem dX4_hasWire_16 : decode cX4_hasWire 16 = .ok (.goto 4, 3) := by decide +kernel
theorem dX4_hasWire_19 : decode cX4_hasWire 19 = .ok (.iconst 0, 1) := by decide +kernel
theorem dX4_hasWire_20 : decode cX4_hasWire 20 = .ok (.ireturn, 1) := by decide +kernel
set_option maxRecDepth 20000 in
theorem ggX4_treesByTable_X4_fillTable : GoodIn wsX4_treesByTable wsX4_fillTable := goodIn_r _ [6, 1, 7, 8, 9, 10, 11, 12, 13, 14, 15, 16, 17, 18, 19, 20, 21, 22, 23, 24, 25, 26, 27, 28, 29, 30, 31, 32, 33, 34, 35, 36, 37, 38, 39, 5, 40, 41, 42, 43, 44, 61, 62, 63, 64, 65, 66, 67, 68] (by decide +kernel) (by decide +kernel)
set_option maxRecDepth 20000 in
theorem gX4_treesByTable_X4_fillTable : GoodIn wsX4_treesByTable (wsV RX4 34 RX4 yX4_fillTable wsX4_fillTable) := goodIn_app (goodIn_of _ (by decide +kernel)) ggX4_treesByTable_X4_fillTable
set_option maxRecDepth 20000 in
theorem ggX4_treesByTable_X4_determinant : GoodIn wsX4_treesByTable wsX4_determinant := goodIn_r _ [48, 7, 49, 50, 51, 5, 52, 53, 54, 55, 56, 57, 58, 59, 60, 61, 62, 63] (by decide +kernel) (by decide +kernel)
set_option maxRecDepth 20000 in
theorem gX4_treesByTable_X4_determinant : GoodIn wsX4_treesByTable (wsV RX4 38 RX4 yX4_determinant wsX4_determinant) := goodIn_app (goodIn_of _ (by decide +kernel)) ggX4_treesByTable_X4_determinant
theorem dX4_treesByTable_0 : decode cX4_treesByTable 0 = .ok (.aload_n 0, 1) := by decide +kernel
theorem dX4_treesByTable_1 : decode cX4_treesByTable 1 = .ok (.iconst 0, 1) := by decide +kernel
theorem dX4_treesByTable_2 : decode cX4_treesByTable 2 = .ok (.invokevirtual 34, 3) := by decide +kernel
theorem dX4_treesByTable_5 : decode cX4_treesByTable 5 = .ok (.aload_n 0, 1) := by decide +kernel
theorem dX4_treesByTable_6 : decode cX4_treesByTable 6 = .ok (.aload_n 0, 1) := by decide +kernel
theorem dX4_treesByTable_7 : decode cX4_treesByTable 7 = .ok (.getfield 23, 3) := by decide +kernel
theorem dX4_treesByTable_10 : decode cX4_treesByTable 10 = .ok (.iconst 1, 1) := by decide +kernel
theorem dX4_treesByTable_11 : decode cX4_treesByTable 11 = .ok (.isub, 1) := by decide +kernel
theorem dX4_treesByTable_12 : decode cX4_treesByTable 12 = .ok (.invokevirtual 38, 3) := by decide +kernel
theorem dX4_treesByTable_15 : decode cX4_treesByTable 15 = .ok (.lreturn, 1) := by decide +kernel
set_option maxRecDepth 20000 in
theorem ggX4_fillTable_J7_fill_d0a16 : GoodIn wsX4_fillTable wsJ7_fill_d0a16 := goodIn_r _ [9] (by decide +kernel) (by decide +kernel)
set_option maxRecDepth 20000 in
theorem gX4_fillTable_J7_fill_d0a16 : GoodIn wsX4_fillTable (va_wsS RX4 42 yJ7_fill_d0a16 wsJ7_fill_d0a16) := goodIn_app (goodIn_of _ (by decide +kernel)) ggX4_fillTable_J7_fill_d0a16
set_option maxRecDepth 20000 in
theorem ggX4_fillTable_Jx4a65c_size_8abf5 : GoodIn wsX4_fillTable wsJx4a65c_size_8abf5 := goodIn_r _ [14, 15, 46, 47, 48] (by decide +kernel) (by decide +kernel)
set_option maxRecDepth 20000 in
theorem gX4_fillTable_Jx4a65c_size_8abf5 : GoodIn wsX4_fillTable (wsV RX4 30 RJx4a65c yJx4a65c_size_8abf5 wsJx4a65c_size_8abf5) := goodIn_app (goodIn_of _ (by decide +kernel)) ggX4_fillTable_Jx4a65c_size_8abf5
set_option maxRecDepth 20000 in
theorem ggX4_fillTable_Jx4a65c_get_915e3 : GoodIn wsX4_fillTable wsJx4a65c_get_915e3 := goodIn_r _ [19, 15, 20, 21, 22, 23, 24, 25, 26, 27, 28, 29, 30, 13, 31, 32, 46, 47, 48] (by decide +kernel) (by decide +kernel)
set_option maxRecDepth 20000 in
theorem gX4_fillTable_Jx4a65c_get_915e3 : GoodIn wsX4_fillTable (wsV RX4 48 RJx4a65c yJx4a65c_get_915e3 wsJx4a65c_get_915e3) := goodIn_app (goodIn_of _ (by decide +kernel)) ggX4_fillTable_Jx4a65c_get_915e3
set_option maxRecDepth 20000 in
theorem ggX4_fillTable_X4_lineOf : GoodIn wsX4_fillTable wsX4_lineOf := goodIn_r _ [36] (by decide +kernel) (by decide +kernel)
set_option maxRecDepth 20000 in
theorem gX4_fillTable_X4_lineOf : GoodIn wsX4_fillTable (va_wsS RX4 57 yX4_lineOf wsX4_lineOf) := goodIn_app (goodIn_of _ (by decide +kernel)) ggX4_fillTable_X4_lineOf
set_option maxRecDepth 20000 in
theorem ggX4_fillTable_X4_addToTable : GoodIn wsX4_fillTable wsX4_addToTable := goodIn_r _ [40, 2, 41, 42, 43] (by decide +kernel) (by decide +kernel)
set_option maxRecDepth 20000 in
theorem gX4_fillTable_X4_addToTable : GoodIn wsX4_fillTable (wsV RX4 64 RX4 yX4_addToTable wsX4_addToTable) := goodIn_app (goodIn_of _ (by decide +kernel)) ggX4_fillTable_X4_addToTable
theorem dX4_fillTable_0 : decode cX4_fillTable 0 = .ok (.iconst 0, 1) := by decide +kernel
theorem dX4_fillTable_1 : decode cX4_fillTable 1 = .ok (.istore_n 2, 1) := by decide +kernel
theorem dX4_fillTable_2 : decode cX4_fillTable 2 = .ok (.iload_n 2, 1) := by decide +kernel
theorem dX4_fillTable_3 : decode cX4_fillTable 3 = .ok (.aload_n 0, 1) := by decide +kernel
theorem dX4_fillTable_4 : decode cX4_fillTable 4 = .ok (.getfield 23, 3) := by decide +kernel
theorem dX4_fillTable_7 : decode cX4_fillTable 7 = .ok (.iconst 1, 1) := by decide +kernel
theorem dX4_fillTable_8 : decode cX4_fillTable 8 = .ok (.isub, 1) := by decide +kernel
theorem dX4_fillTable_9 : decode cX4_fillTable 9 = .ok (.if_icmp .ge 19, 3) := by decide +kernel
theorem dX4_fillTable_12 : decode cX4_fillTable 12 = .ok (.aload_n 0, 1) := by decide +kernel
theorem dX4_fillTable_13 : decode cX4_fillTable 13 = .ok (.getfield 20, 3) := by decide +kernel
theorem dX4_fillTable_16 : decode cX4_fillTable 16 = .ok (.iload_n 2, 1) := by decide +kernel
theorem dX4_fillTable_17 : decode cX4_fillTable 17 = .ok (.aaload, 1) := by decide +kernel
theorem dX4_fillTable_18 : decode cX4_fillTable 18 = .ok (.lconst 0, 1) := by decide +kernel
theorem dX4_fillTable_19 : decode cX4_fillTable 19 = .ok (.invokestatic 42, 3) := by decide +kernel
theorem dX4_fillTable_22 : decode cX4_fillTable 22 = .ok (.iinc 2 1, 3) := by decide +kernel
theorem dX4_fillTable_25 : decode cX4_fillTable 25 = .ok (.goto (-23), 3) := by decide +kernel
theorem dX4_fillTable_28 : decode cX4_fillTable 28 = .ok (.iconst 0, 1) := by decide +kernel
theorem dX4_fillTable_29 : decode cX4_fillTable 29 = .ok (.istore_n 2, 1) := by decide +kernel
theorem dX4_fillTable_30 : decode cX4_fillTable 30 = .ok (.iload_n 2, 1) := by decide +kernel
theorem dX4_fillTable_31 : decode cX4_fillTable 31 = .ok (.aload_n 0, 1) := by decide +kernel
theorem dX4_fillTable_32 : decode cX4_fillTable 32 = .ok (.getfield 12, 3) := by decide +kernel
theorem dX4_fillTable_35 : decode cX4_fillTable 35 = .ok (.invokevirtual 30, 3) := by decide +kernel
theorem dX4_fillTable_38 : decode cX4_fillTable 38 = .ok (.if_icmp .ge 84, 3) := by decide +kernel
theorem dX4_fillTable_41 : decode cX4_fillTable 41 = .ok (.aload_n 0, 1) := by decide +kernel
theorem dX4_fillTable_42 : decode cX4_fillTable 42 = .ok (.getfield 12, 3) := by decide +kernel
theorem dX4_fillTable_45 : decode cX4_fillTable 45 = .ok (.iload_n 2, 1) := by decide +kernel
theorem dX4_fillTable_46 : decode cX4_fillTable 46 = .ok (.invokevirtual 48, 3) := by decide +kernel
theorem dX4_fillTable_49 : decode cX4_fillTable 49 = .ok (.checkcast 52, 3) := by decide +kernel
theorem dX4_fillTable_52 : decode cX4_fillTable 52 = .ok (.getfield 54, 3) := by decide +kernel
theorem dX4_fillTable_55 : decode cX4_fillTable 55 = .ok (.iload_n 1, 1) := by decide +kernel
theorem dX4_fillTable_56 : decode cX4_fillTable 56 = .ok (.invokestatic 57, 3) := by decide +kernel
theorem dX4_fillTable_59 : decode cX4_fillTable 59 = .ok (.istore_n 3, 1) := by decide +kernel
theorem dX4_fillTable_60 : decode cX4_fillTable 60 = .ok (.aload_n 0, 1) := by decide +kernel
theorem dX4_fillTable_61 : decode cX4_fillTable 61 = .ok (.getfield 12, 3) := by decide +kernel
theorem dX4_fillTable_64 : decode cX4_fillTable 64 = .ok (.iload_n 2, 1) := by decide +kernel
theorem dX4_fillTable_65 : decode cX4_fillTable 65 = .ok (.invokevirtual 48, 3) := by decide +kernel
theorem dX4_fillTable_68 : decode cX4_fillTable 68 = .ok (.checkcast 52, 3) := by decide +kernel
theorem dX4_fillTable_71 : decode cX4_fillTable 71 = .ok (.getfield 61, 3) := by decide +kernel
theorem dX4_fillTable_74 : decode cX4_fillTable 74 = .ok (.iload_n 1, 1) := by decide +kernel
theorem dX4_fillTable_75 : decode cX4_fillTable 75 = .ok (.invokestatic 57, 3) := by decide +kernel
theorem dX4_fillTable_78 : decode cX4_fillTable 78 = .ok (.istore 4, 2) := by decide +kernel
theorem dX4_fillTable_80 : decode cX4_fillTable 80 = .ok (.aload_n 0, 1) := by decide +kernel
theorem dX4_fillTable_81 : decode cX4_fillTable 81 = .ok (.iload_n 3, 1) := by decide +kernel
theorem dX4_fillTable_82 : decode cX4_fillTable 82 = .ok (.iload_n 3, 1) := by decide +kernel
theorem dX4_fillTable_83 : decode cX4_fillTable 83 = .ok (.lconst 1, 1) := by decide +kernel
theorem dX4_fillTable_84 : decode cX4_fillTable 84 = .ok (.invokevirtual 64, 3) := by decide +kernel
theorem dX4_fillTable_87 : decode cX4_fillTable 87 = .ok (.aload_n 0, 1) := by decide +kernel
theorem dX4_fillTable_88 : decode cX4_fillTable 88 = .ok (.iload 4, 2) := by decide +kernel
theorem dX4_fillTable_90 : decode cX4_fillTable 90 = .ok (.iload 4, 2) := by decide +kernel
theorem dX4_fillTable_92 : decode cX4_fillTable 92 = .ok (.lconst 1, 1) := by decide +kernel
theorem dX4_fillTable_93 : decode cX4_fillTable 93 = .ok (.invokevirtual 64, 3) := by decide +kernel
theorem dX4_fillTable_96 : decode cX4_fillTable 96 = .ok (.aload_n 0, 1) := by decide +kernel
theorem dX4_fillTable_97 : decode cX4_fillTable 97 = .ok (.iload_n 3, 1) := by decide +kernel
theorem dX4_fillTable_98 : decode cX4_fillTable 98 = .ok (.iload 4, 2) := by decide +kernel
theorem dX4_fillTable_100 : decode cX4_fillTable 100 = .ok (.ldc2_w 68, 3) := by decide +kernel
theorem dX4_fillTable_103 : decode cX4_fillTable 103 = .ok (.invokevirtual 64, 3) := by decide +kernel
theorem dX4_fillTable_106 : decode cX4_fillTable 106 = .ok (.aload_n 0, 1) := by decide +kernel
theorem dX4_fillTable_107 : decode cX4_fillTable 107 = .ok (.iload 4, 2) := by decide +kernel
theorem dX4_fillTable_109 : decode cX4_fillTable 109 = .ok (.iload_n 3, 1) := by decide +kernel
theorem dX4_fillTable_110 : decode cX4_fillTable 110 = .ok (.ldc2_w 68, 3) := by decide +kernel
theorem dX4_fillTable_113 : decode cX4_fillTable 113 = .ok (.invokevirtual 64, 3) := by decide +kernel
theorem dX4_fillTable_116 : decode cX4_fillTable 116 = .ok (.iinc 2 1, 3) := by decide +kernel
theorem dX4_fillTable_119 : decode cX4_fillTable 119 = .ok (.goto (-89), 3) := by decide +kernel
theorem dX4_fillTable_122 : decode cX4_fillTable 122 = .ok (.return_, 1) := by decide +kernel
theorem dX4_lineOf_0 : decode cX4_lineOf 0 = .ok (.iload_n 0, 1) := by decide +kernel
theorem dX4_lineOf_1 : decode cX4_lineOf 1 = .ok (.iload_n 1, 1) := by decide +kernel
theorem dX4_lineOf_2 : decode cX4_lineOf 2 = .ok (.if_icmp .ne 5, 3) := by decide +kernel
theorem dX4_lineOf_5 : decode cX4_lineOf 5 = .ok (.iconst (-1), 1) := by decide +kernel
theorem dX4_lineOf_6 : decode cX4_lineOf 6 = .ok (.ireturn, 1) := by decide +kernel
theorem dX4_lineOf_7 : decode cX4_lineOf 7 = .ok (.iload_n 0, 1) := by decide +kernel
theorem dX4_lineOf_8 : decode cX4_lineOf 8 = .ok (.iload_n 1, 1) := by decide +kernel
theorem dX4_lineOf_9 : decode cX4_lineOf 9 = .ok (.if_icmp .ge 7, 3) := by decide +kernel
theorem dX4_lineOf_12 : decode cX4_lineOf 12 = .ok (.iload_n 0, 1) := by decide +kernel
theorem dX4_lineOf_13 : decode cX4_lineOf 13 = .ok (.goto 6, 3) := by decide +kernel
theorem dX4_lineOf_16 : decode cX4_lineOf 16 = .ok (.iload_n 0, 1) := by decide +kernel
theorem dX4_lineOf_17 : decode cX4_lineOf 17 = .ok (.iconst 1, 1) := by decide +kernel
theorem dX4_lineOf_18 : decode cX4_lineOf 18 = .ok (.isub, 1) := by decide +kernel
theorem dX4_lineOf_19 : decode cX4_lineOf 19 = .ok (.ireturn, 1) := by decide +kernel
theorem dX4_addToTable_0 : decode cX4_addToTable 0 = .ok (.iload_n 1, 1) := by decide +kernel
theorem dX4_addToTable_1 : decode cX4_addToTable 1 = .ok (.iconst (-1), 1) := by decide +kernel
theorem dX4_addToTable_2 : decode cX4_addToTable 2 = .ok (.if_icmp .eq 20, 3) := by decide +kernel
theorem dX4_addToTable_5 : decode cX4_addToTable 5 = .ok (.iload_n 2, 1) := by decide +kernel
theorem dX4_addToTable_6 : decode cX4_addToTable 6 = .ok (.iconst (-1), 1) := by decide +kernel
theorem dX4_addToTable_7 : decode cX4_addToTable 7 = .ok (.if_icmp .eq 15, 3) := by decide +kernel
theorem dX4_addToTable_10 : decode cX4_addToTable 10 = .ok (.aload_n 0, 1) := by decide +kernel
theorem dX4_addToTable_11 : decode cX4_addToTable 11 = .ok (.getfield 20, 3) := by decide +kernel
theorem dX4_addToTable_14 : decode cX4_addToTable 14 = .ok (.iload_n 1, 1) := by decide +kernel
theorem dX4_addToTable_15 : decode cX4_addToTable 15 = .ok (.aaload, 1) := by decide +kernel
theorem dX4_addToTable_16 : decode cX4_addToTable 16 = .ok (.iload_n 2, 1) := by decide +kernel
theorem dX4_addToTable_17 : decode cX4_addToTable 17 = .ok (.dup2, 1) := by decide +kernel
theorem dX4_addToTable_18 : decode cX4_addToTable 18 = .ok (.laload, 1) := by decide +kernel
theorem dX4_addToTable_19 : decode cX4_addToTable 19 = .ok (.lload_n 3, 1) := by decide +kernel
theorem dX4_addToTable_20 : decode cX4_addToTable 20 = .ok (.ladd, 1) := by decide +kernel
theorem dX4_addToTable_21 : decode cX4_addToTable 21 = .ok (.lastore, 1) := by decide +kernel
theorem dX4_addToTable_22 : decode cX4_addToTable 22 = .ok (.return_, 1) := by decide +kernel
set_option maxRecDepth 20000 in
theorem ggX4_determinant_X4_pivotRow : GoodIn wsX4_determinant wsX4_pivotRow := goodIn_r _ [6, 1, 15, 16, 17] (by decide +kernel) (by decide +kernel)
set_option maxRecDepth 20000 in
theorem gX4_determinant_X4_pivotRow : GoodIn wsX4_determinant (wsV RX4 70 RX4 yX4_pivotRow wsX4_pivotRow) := goodIn_app (goodIn_of _ (by decide +kernel)) ggX4_determinant_X4_pivotRow
set_option maxRecDepth 20000 in
theorem ggX4_determinant_X4_swapRows : GoodIn wsX4_determinant wsX4_swapRows := goodIn_r _ [10, 1, 15, 16, 17] (by decide +kernel) (by decide +kernel)
set_option maxRecDepth 20000 in
theorem gX4_determinant_X4_swapRows : GoodIn wsX4_determinant (wsV RX4 73 RX4 yX4_swapRows wsX4_swapRows) := goodIn_app (goodIn_of _ (by decide +kernel)) ggX4_determinant_X4_swapRows
set_option maxRecDepth 20000 in
theorem ggX4_determinant_X4_reduceBelow : GoodIn wsX4_determinant wsX4_reduceBelow := goodIn_r _ [14, 1, 15, 16, 17] (by decide +kernel) (by decide +kernel)
set_option maxRecDepth 20000 in
theorem gX4_determinant_X4_reduceBelow : GoodIn wsX4_determinant (wsV RX4 77 RX4 yX4_reduceBelow wsX4_reduceBelow) := goodIn_app (goodIn_of _ (by decide +kernel)) ggX4_determinant_X4_reduceBelow
theorem dX4_determinant_0 : decode cX4_determinant 0 = .ok (.lconst 1, 1) := by decide +kernel
theorem dX4_determinant_1 : decode cX4_determinant 1 = .ok (.lstore_n 2, 1) := by decide +kernel
theorem dX4_determinant_2 : decode cX4_determinant 2 = .ok (.lconst 1, 1) := by decide +kernel
theorem dX4_determinant_3 : decode cX4_determinant 3 = .ok (.lstore 4, 2) := by decide +kernel
theorem dX4_determinant_5 : decode cX4_determinant 5 = .ok (.iconst 0, 1) := by decide +kernel
theorem dX4_determinant_6 : decode cX4_determinant 6 = .ok (.istore 6, 2) := by decide +kernel
theorem dX4_determinant_8 : decode cX4_determinant 8 = .ok (.iload 6, 2) := by decide +kernel
theorem dX4_determinant_10 : decode cX4_determinant 10 = .ok (.iload_n 1, 1) := by decide +kernel
theorem dX4_determinant_11 : decode cX4_determinant 11 = .ok (.if_icmp .ge 65, 3) := by decide +kernel
theorem dX4_determinant_14 : decode cX4_determinant 14 = .ok (.aload_n 0, 1) := by decide +kernel
theorem dX4_determinant_15 : decode cX4_determinant 15 = .ok (.iload 6, 2) := by decide +kernel
theorem dX4_determinant_17 : decode cX4_determinant 17 = .ok (.iload_n 1, 1) := by decide +kernel
theorem dX4_determinant_18 : decode cX4_determinant 18 = .ok (.invokevirtual 70, 3) := by decide +kernel
theorem dX4_determinant_21 : decode cX4_determinant 21 = .ok (.istore 7, 2) := by decide +kernel
theorem dX4_determinant_23 : decode cX4_determinant 23 = .ok (.iload 7, 2) := by decide +kernel
theorem dX4_determinant_25 : decode cX4_determinant 25 = .ok (.iconst (-1), 1) := by decide +kernel
theorem dX4_determinant_26 : decode cX4_determinant 26 = .ok (.if_icmp .ne 5, 3) := by decide +kernel
theorem dX4_determinant_29 : decode cX4_determinant 29 = .ok (.lconst 0, 1) := by decide +kernel
theorem dX4_determinant_30 : decode cX4_determinant 30 = .ok (.lreturn, 1) := by decide +kernel
theorem dX4_determinant_31 : decode cX4_determinant 31 = .ok (.iload 7, 2) := by decide +kernel
theorem dX4_determinant_33 : decode cX4_determinant 33 = .ok (.iload 6, 2) := by decide +kernel
theorem dX4_determinant_35 : decode cX4_determinant 35 = .ok (.if_icmp .eq 16, 3) := by decide +kernel
theorem dX4_determinant_38 : decode cX4_determinant 38 = .ok (.aload_n 0, 1) := by decide +kernel
theorem dX4_determinant_39 : decode cX4_determinant 39 = .ok (.iload 7, 2) := by decide +kernel
theorem dX4_determinant_41 : decode cX4_determinant 41 = .ok (.iload 6, 2) := by decide +kernel
theorem dX4_determinant_43 : decode cX4_determinant 43 = .ok (.invokevirtual 73, 3) := by decide +kernel
theorem dX4_determinant_46 : decode cX4_determinant 46 = .ok (.lload 4, 2) := by decide +kernel
theorem dX4_determinant_48 : decode cX4_determinant 48 = .ok (.lneg, 1) := by decide +kernel
theorem dX4_determinant_49 : decode cX4_determinant 49 = .ok (.lstore 4, 2) := by decide +kernel
theorem dX4_determinant_51 : decode cX4_determinant 51 = .ok (.aload_n 0, 1) := by decide +kernel
theorem dX4_determinant_52 : decode cX4_determinant 52 = .ok (.iload 6, 2) := by decide +kernel
theorem dX4_determinant_54 : decode cX4_determinant 54 = .ok (.iload_n 1, 1) := by decide +kernel
theorem dX4_determinant_55 : decode cX4_determinant 55 = .ok (.lload_n 2, 1) := by decide +kernel
theorem dX4_determinant_56 : decode cX4_determinant 56 = .ok (.invokevirtual 77, 3) := by decide +kernel
theorem dX4_determinant_59 : decode cX4_determinant 59 = .ok (.aload_n 0, 1) := by decide +kernel
theorem dX4_determinant_60 : decode cX4_determinant 60 = .ok (.getfield 20, 3) := by decide +kernel
theorem dX4_determinant_63 : decode cX4_determinant 63 = .ok (.iload 6, 2) := by decide +kernel
theorem dX4_determinant_65 : decode cX4_determinant 65 = .ok (.aaload, 1) := by decide +kernel
theorem dX4_determinant_66 : decode cX4_determinant 66 = .ok (.iload 6, 2) := by decide +kernel
theorem dX4_determinant_68 : decode cX4_determinant 68 = .ok (.laload, 1) := by decide +kernel
theorem dX4_determinant_69 : decode cX4_determinant 69 = .ok (.lstore_n 2, 1) := by decide +kernel
theorem dX4_determinant_70 : decode cX4_determinant 70 = .ok (.iinc 6 1, 3) := by decide +kernel
theorem dX4_determinant_73 : decode cX4_determinant 73 = .ok (.goto (-65), 3) := by decide +kernel
theorem dX4_determinant_76 : decode cX4_determinant 76 = .ok (.lload 4, 2) := by decide +kernel
theorem dX4_determinant_78 : decode cX4_determinant 78 = .ok (.lload_n 2, 1) := by decide +kernel
theorem dX4_determinant_79 : decode cX4_determinant 79 = .ok (.lmul, 1) := by decide +kernel
theorem dX4_determinant_80 : decode cX4_determinant 80 = .ok (.lreturn, 1) := by decide +kernel
theorem dX4_pivotRow_0 : decode cX4_pivotRow 0 = .ok (.iload_n 1, 1) := by decide +kernel
theorem dX4_pivotRow_1 : decode cX4_pivotRow 1 = .ok (.istore_n 3, 1) := by decide +kernel
theorem dX4_pivotRow_2 : decode cX4_pivotRow 2 = .ok (.iload_n 3, 1) := by decide +kernel
theorem dX4_pivotRow_3 : decode cX4_pivotRow 3 = .ok (.iload_n 2, 1) := by decide +kernel
theorem dX4_pivotRow_4 : decode cX4_pivotRow 4 = .ok (.if_icmp .ge 24, 3) := by decide +kernel
theorem dX4_pivotRow_7 : decode cX4_pivotRow 7 = .ok (.aload_n 0, 1) := by decide +kernel
theorem dX4_pivotRow_8 : decode cX4_pivotRow 8 = .ok (.getfield 20, 3) := by decide +kernel
theorem dX4_pivotRow_11 : decode cX4_pivotRow 11 = .ok (.iload_n 3, 1) := by decide +kernel
theorem dX4_pivotRow_12 : decode cX4_pivotRow 12 = .ok (.aaload, 1) := by decide +kernel
theorem dX4_pivotRow_13 : decode cX4_pivotRow 13 = .ok (.iload_n 1, 1) := by decide +kernel
theorem dX4_pivotRow_14 : decode cX4_pivotRow 14 = .ok (.laload, 1) := by decide +kernel
theorem dX4_pivotRow_15 : decode cX4_pivotRow 15 = .ok (.lconst 0, 1) := by decide +kernel
theorem dX4_pivotRow_16 : decode cX4_pivotRow 16 = .ok (.lcmp, 1) := by decide +kernel
theorem dX4_pivotRow_17 : decode cX4_pivotRow 17 = .ok (.ifCond .eq 5, 3) := by decide +kernel
theorem dX4_pivotRow_20 : decode cX4_pivotRow 20 = .ok (.iload_n 3, 1) := by decide +kernel
theorem dX4_pivotRow_21 : decode cX4_pivotRow 21 = .ok (.ireturn, 1) := by decide +kernel
theorem dX4_pivotRow_22 : decode cX4_pivotRow 22 = .ok (.iinc 3 1, 3) := by decide +kernel
theorem dX4_pivotRow_25 : decode cX4_pivotRow 25 = .ok (.goto (-23), 3) := by decide +kernel
theorem dX4_pivotRow_28 : decode cX4_pivotRow 28 = .ok (.iconst (-1), 1) := by decide +kernel
theorem dX4_pivotRow_29 : decode cX4_pivotRow 29 = .ok (.ireturn, 1) := by decide +kernel
theorem dX4_swapRows_0 : decode cX4_swapRows 0 = .ok (.aload_n 0, 1) := by decide +kernel
theorem dX4_swapRows_1 : decode cX4_swapRows 1 = .ok (.getfield 20, 3) := by decide +kernel
theorem dX4_swapRows_4 : decode cX4_swapRows 4 = .ok (.iload_n 1, 1) := by decide +kernel
theorem dX4_swapRows_5 : decode cX4_swapRows 5 = .ok (.aaload, 1) := by decide +kernel
theorem dX4_swapRows_6 : decode cX4_swapRows 6 = .ok (.astore_n 3, 1) := by decide +kernel
theorem dX4_swapRows_7 : decode cX4_swapRows 7 = .ok (.aload_n 0, 1) := by decide +kernel
theorem dX4_swapRows_8 : decode cX4_swapRows 8 = .ok (.getfield 20, 3) := by decide +kernel
theorem dX4_swapRows_11 : decode cX4_swapRows 11 = .ok (.iload_n 1, 1) := by decide +kernel
theorem dX4_swapRows_12 : decode cX4_swapRows 12 = .ok (.aload_n 0, 1) := by decide +kernel
theorem dX4_swapRows_13 : decode cX4_swapRows 13 = .ok (.getfield 20, 3) := by decide +kernel
theorem dX4_swapRows_16 : decode cX4_swapRows 16 = .ok (.iload_n 2, 1) := by decide +kernel
theorem dX4_swapRows_17 : decode cX4_swapRows 17 = .ok (.aaload, 1) := by decide +kernel
theorem dX4_swapRows_18 : decode cX4_swapRows 18 = .ok (.aastore, 1) := by decide +kernel
theorem dX4_swapRows_19 : decode cX4_swapRows 19 = .ok (.aload_n 0, 1) := by decide +kernel
theorem dX4_swapRows_20 : decode cX4_swapRows 20 = .ok (.getfield 20, 3) := by decide +kernel
theorem dX4_swapRows_23 : decode cX4_swapRows 23 = .ok (.iload_n 2, 1) := by decide +kernel
theorem dX4_swapRows_24 : decode cX4_swapRows 24 = .ok (.aload_n 3, 1) := by decide +kernel
theorem dX4_swapRows_25 : decode cX4_swapRows 25 = .ok (.aastore, 1) := by decide +kernel
theorem dX4_swapRows_26 : decode cX4_swapRows 26 = .ok (.return_, 1) := by decide +kernel
theorem dX4_reduceBelow_0 : decode cX4_reduceBelow 0 = .ok (.lload_n 3, 1) := by decide +kernel
theorem dX4_reduceBelow_1 : decode cX4_reduceBelow 1 = .ok (.lconst 0, 1) := by decide +kernel
theorem dX4_reduceBelow_2 : decode cX4_reduceBelow 2 = .ok (.lcmp, 1) := by decide +kernel
theorem dX4_reduceBelow_3 : decode cX4_reduceBelow 3 = .ok (.ifCond .ne 4, 3) := by decide +kernel
theorem dX4_reduceBelow_6 : decode cX4_reduceBelow 6 = .ok (.return_, 1) := by decide +kernel
theorem dX4_reduceBelow_7 : decode cX4_reduceBelow 7 = .ok (.iload_n 1, 1) := by decide +kernel
theorem dX4_reduceBelow_8 : decode cX4_reduceBelow 8 = .ok (.iconst 1, 1) := by decide +kernel
theorem dX4_reduceBelow_9 : decode cX4_reduceBelow 9 = .ok (.iadd, 1) := by decide +kernel
theorem dX4_reduceBelow_10 : decode cX4_reduceBelow 10 = .ok (.istore 5, 2) := by decide +kernel
theorem dX4_reduceBelow_12 : decode cX4_reduceBelow 12 = .ok (.iload 5, 2) := by decide +kernel
theorem dX4_reduceBelow_14 : decode cX4_reduceBelow 14 = .ok (.iload_n 2, 1) := by decide +kernel
theorem dX4_reduceBelow_15 : decode cX4_reduceBelow 15 = .ok (.if_icmp .ge 81, 3) := by decide +kernel
theorem dX4_reduceBelow_18 : decode cX4_reduceBelow 18 = .ok (.iload_n 1, 1) := by decide +kernel
theorem dX4_reduceBelow_19 : decode cX4_reduceBelow 19 = .ok (.iconst 1, 1) := by decide +kernel
theorem dX4_reduceBelow_20 : decode cX4_reduceBelow 20 = .ok (.iadd, 1) := by decide +kernel
theorem dX4_reduceBelow_21 : decode cX4_reduceBelow 21 = .ok (.istore 6, 2) := by decide +kernel
theorem dX4_reduceBelow_23 : decode cX4_reduceBelow 23 = .ok (.iload 6, 2) := by decide +kernel
theorem dX4_reduceBelow_25 : decode cX4_reduceBelow 25 = .ok (.iload_n 2, 1) := by decide +kernel
theorem dX4_reduceBelow_26 : decode cX4_reduceBelow 26 = .ok (.if_icmp .ge 64, 3) := by decide +kernel
theorem dX4_reduceBelow_29 : decode cX4_reduceBelow 29 = .ok (.aload_n 0, 1) := by decide +kernel
theorem dX4_reduceBelow_30 : decode cX4_reduceBelow 30 = .ok (.getfield 20, 3) := by decide +kernel
theorem dX4_reduceBelow_33 : decode cX4_reduceBelow 33 = .ok (.iload 5, 2) := by decide +kernel
theorem dX4_reduceBelow_35 : decode cX4_reduceBelow 35 = .ok (.aaload, 1) := by decide +kernel
theorem dX4_reduceBelow_36 : decode cX4_reduceBelow 36 = .ok (.iload 6, 2) := by decide +kernel
theorem dX4_reduceBelow_38 : decode cX4_reduceBelow 38 = .ok (.laload, 1) := by decide +kernel
theorem dX4_reduceBelow_39 : decode cX4_reduceBelow 39 = .ok (.aload_n 0, 1) := by decide +kernel
theorem dX4_reduceBelow_40 : decode cX4_reduceBelow 40 = .ok (.getfield 20, 3) := by decide +kernel
theorem dX4_reduceBelow_43 : decode cX4_reduceBelow 43 = .ok (.iload_n 1, 1) := by decide +kernel
theorem dX4_reduceBelow_44 : decode cX4_reduceBelow 44 = .ok (.aaload, 1) := by decide +kernel
theorem dX4_reduceBelow_45 : decode cX4_reduceBelow 45 = .ok (.iload_n 1, 1) := by decide +kernel
theorem dX4_reduceBelow_46 : decode cX4_reduceBelow 46 = .ok (.laload, 1) := by decide +kernel
theorem dX4_reduceBelow_47 : decode cX4_reduceBelow 47 = .ok (.lmul, 1) := by decide +kernel
theorem dX4_reduceBelow_48 : decode cX4_reduceBelow 48 = .ok (.aload_n 0, 1) := by decide +kernel
theorem dX4_reduceBelow_49 : decode cX4_reduceBelow 49 = .ok (.getfield 20, 3) := by decide +kernel
theorem dX4_reduceBelow_52 : decode cX4_reduceBelow 52 = .ok (.iload 5, 2) := by decide +kernel
theorem dX4_reduceBelow_54 : decode cX4_reduceBelow 54 = .ok (.aaload, 1) := by decide +kernel
theorem dX4_reduceBelow_55 : decode cX4_reduceBelow 55 = .ok (.iload_n 1, 1) := by decide +kernel
theorem dX4_reduceBelow_56 : decode cX4_reduceBelow 56 = .ok (.laload, 1) := by decide +kernel
theorem dX4_reduceBelow_57 : decode cX4_reduceBelow 57 = .ok (.aload_n 0, 1) := by decide +kernel
theorem dX4_reduceBelow_58 : decode cX4_reduceBelow 58 = .ok (.getfield 20, 3) := by decide +kernel
theorem dX4_reduceBelow_61 : decode cX4_reduceBelow 61 = .ok (.iload_n 1, 1) := by decide +kernel
theorem dX4_reduceBelow_62 : decode cX4_reduceBelow 62 = .ok (.aaload, 1) := by decide +kernel
theorem dX4_reduceBelow_63 : decode cX4_reduceBelow 63 = .ok (.iload 6, 2) := by decide +kernel
theorem dX4_reduceBelow_65 : decode cX4_reduceBelow 65 = .ok (.laload, 1) := by decide +kernel
theorem dX4_reduceBelow_66 : decode cX4_reduceBelow 66 = .ok (.lmul, 1) := by decide +kernel
theorem dX4_reduceBelow_67 : decode cX4_reduceBelow 67 = .ok (.lsub, 1) := by decide +kernel
theorem dX4_reduceBelow_68 : decode cX4_reduceBelow 68 = .ok (.lstore 7, 2) := by decide +kernel
theorem dX4_reduceBelow_70 : decode cX4_reduceBelow 70 = .ok (.aload_n 0, 1) := by decide +kernel
theorem dX4_reduceBelow_71 : decode cX4_reduceBelow 71 = .ok (.getfield 20, 3) := by decide +kernel
theorem dX4_reduceBelow_74 : decode cX4_reduceBelow 74 = .ok (.iload 5, 2) := by decide +kernel
theorem dX4_reduceBelow_76 : decode cX4_reduceBelow 76 = .ok (.aaload, 1) := by decide +kernel
theorem dX4_reduceBelow_77 : decode cX4_reduceBelow 77 = .ok (.iload 6, 2) := by decide +kernel
theorem dX4_reduceBelow_79 : decode cX4_reduceBelow 79 = .ok (.lload 7, 2) := by decide +kernel
theorem dX4_reduceBelow_81 : decode cX4_reduceBelow 81 = .ok (.lload_n 3, 1) := by decide +kernel
theorem dX4_reduceBelow_82 : decode cX4_reduceBelow 82 = .ok (.ldiv, 1) := by decide +kernel
theorem dX4_reduceBelow_83 : decode cX4_reduceBelow 83 = .ok (.lastore, 1) := by decide +kernel
theorem dX4_reduceBelow_84 : decode cX4_reduceBelow 84 = .ok (.iinc 6 1, 3) := by decide +kernel
theorem dX4_reduceBelow_87 : decode cX4_reduceBelow 87 = .ok (.goto (-64), 3) := by decide +kernel
theorem dX4_reduceBelow_90 : decode cX4_reduceBelow 90 = .ok (.iinc 5 1, 3) := by decide +kernel
theorem dX4_reduceBelow_93 : decode cX4_reduceBelow 93 = .ok (.goto (-81), 3) := by decide +kernel
theorem dX4_reduceBelow_96 : decode cX4_reduceBelow 96 = .ok (.return_, 1) := by decide +kernel
set_option maxRecDepth 20000 in
theorem ggX4_treesBySets_Jx4a65c_size_8abf5 : GoodIn wsX4_treesBySets wsJx4a65c_size_8abf5 := goodIn_r _ [7, 8, 42, 43, 44] (by decide +kernel) (by decide +kernel)
set_option maxRecDepth 20000 in
theorem gX4_treesBySets_Jx4a65c_size_8abf5 : GoodIn wsX4_treesBySets (wsV RX4 30 RJx4a65c yJx4a65c_size_8abf5 wsJx4a65c_size_8abf5) := goodIn_app (goodIn_of _ (by decide +kernel)) ggX4_treesBySets_Jx4a65c_size_8abf5
set_option maxRecDepth 20000 in
theorem ggX4_treesBySets_J6_bitCount_0f7a4 : GoodIn wsX4_treesBySets wsJ6_bitCount_0f7a4 := goodIn_r _ [12, 13, 14, 15] (by decide +kernel) (by decide +kernel)
set_option maxRecDepth 20000 in
theorem gX4_treesBySets_J6_bitCount_0f7a4 : GoodIn wsX4_treesBySets (va_wsS RX4 80 yJ6_bitCount_0f7a4 wsJ6_bitCount_0f7a4) := goodIn_app (goodIn_of _ (by decide +kernel)) ggX4_treesBySets_J6_bitCount_0f7a4
set_option maxRecDepth 20000 in
theorem ggX4_treesBySets_X4_hangsTogether : GoodIn wsX4_treesBySets wsX4_hangsTogether := goodIn_r _ [20, 2, 1, 21, 3, 4, 5, 6, 7, 8, 22, 23, 24, 25, 26, 27, 28, 29, 30, 31, 32, 33, 34, 35, 36, 37, 38, 39, 40, 41, 45, 46, 42, 43, 44] (by decide +kernel) (by decide +kernel)
set_option maxRecDepth 20000 in
theorem gX4_treesBySets_X4_hangsTogether : GoodIn wsX4_treesBySets (wsV RX4 86 RX4 yX4_hangsTogether wsX4_hangsTogether) := goodIn_app (goodIn_of _ (by decide +kernel)) ggX4_treesBySets_X4_hangsTogether
theorem dX4_treesBySets_0 : decode cX4_treesBySets 0 = .ok (.iconst 0, 1) := by decide +kernel
theorem dX4_treesBySets_1 : decode cX4_treesBySets 1 = .ok (.istore_n 1, 1) := by decide +kernel
theorem dX4_treesBySets_2 : decode cX4_treesBySets 2 = .ok (.iconst 0, 1) := by decide +kernel
theorem dX4_treesBySets_3 : decode cX4_treesBySets 3 = .ok (.istore_n 2, 1) := by decide +kernel
theorem dX4_treesBySets_4 : decode cX4_treesBySets 4 = .ok (.iload_n 2, 1) := by decide +kernel
theorem dX4_treesBySets_5 : decode cX4_treesBySets 5 = .ok (.iconst 1, 1) := by decide +kernel
theorem dX4_treesBySets_6 : decode cX4_treesBySets 6 = .ok (.aload_n 0, 1) := by decide +kernel
theorem dX4_treesBySets_7 : decode cX4_treesBySets 7 = .ok (.getfield 12, 3) := by decide +kernel
theorem dX4_treesBySets_10 : decode cX4_treesBySets 10 = .ok (.invokevirtual 30, 3) := by decide +kernel
theorem dX4_treesBySets_13 : decode cX4_treesBySets 13 = .ok (.ishl, 1) := by decide +kernel
theorem dX4_treesBySets_14 : decode cX4_treesBySets 14 = .ok (.if_icmp .ge 33, 3) := by decide +kernel
theorem dX4_treesBySets_17 : decode cX4_treesBySets 17 = .ok (.iload_n 2, 1) := by decide +kernel
theorem dX4_treesBySets_18 : decode cX4_treesBySets 18 = .ok (.invokestatic 80, 3) := by decide +kernel
theorem dX4_treesBySets_21 : decode cX4_treesBySets 21 = .ok (.aload_n 0, 1) := by decide +kernel
theorem dX4_treesBySets_22 : decode cX4_treesBySets 22 = .ok (.getfield 23, 3) := by decide +kernel
theorem dX4_treesBySets_25 : decode cX4_treesBySets 25 = .ok (.iconst 1, 1) := by decide +kernel
theorem dX4_treesBySets_26 : decode cX4_treesBySets 26 = .ok (.isub, 1) := by decide +kernel
theorem dX4_treesBySets_27 : decode cX4_treesBySets 27 = .ok (.if_icmp .ne 14, 3) := by decide +kernel
theorem dX4_treesBySets_30 : decode cX4_treesBySets 30 = .ok (.aload_n 0, 1) := by decide +kernel
theorem dX4_treesBySets_31 : decode cX4_treesBySets 31 = .ok (.iload_n 2, 1) := by decide +kernel
theorem dX4_treesBySets_32 : decode cX4_treesBySets 32 = .ok (.invokevirtual 86, 3) := by decide +kernel
theorem dX4_treesBySets_35 : decode cX4_treesBySets 35 = .ok (.ifCond .eq 6, 3) := by decide +kernel
theorem dX4_treesBySets_38 : decode cX4_treesBySets 38 = .ok (.iinc 1 1, 3) := by decide +kernel
theorem dX4_treesBySets_41 : decode cX4_treesBySets 41 = .ok (.iinc 2 1, 3) := by decide +kernel
theorem dX4_treesBySets_44 : decode cX4_treesBySets 44 = .ok (.goto (-40), 3) := by decide +kernel
theorem dX4_treesBySets_47 : decode cX4_treesBySets 47 = .ok (.iload_n 1, 1) := by decide +kernel
theorem dX4_treesBySets_48 : decode cX4_treesBySets 48 = .ok (.ireturn, 1) := by decide +kernel
set_option maxRecDepth 20000 in
theorem ggX4_hangsTogether_Jx4a65c_size_8abf5 : GoodIn wsX4_hangsTogether wsJx4a65c_size_8abf5 := goodIn_r _ [8, 9, 32, 33, 34] (by decide +kernel) (by decide +kernel)
set_option maxRecDepth 20000 in
theorem gX4_hangsTogether_Jx4a65c_size_8abf5 : GoodIn wsX4_hangsTogether (wsV RX4 30 RJx4a65c yJx4a65c_size_8abf5 wsJx4a65c_size_8abf5) := goodIn_app (goodIn_of _ (by decide +kernel)) ggX4_hangsTogether_Jx4a65c_size_8abf5
set_option maxRecDepth 20000 in
theorem ggX4_hangsTogether_Jx4a65c_get_915e3 : GoodIn wsX4_hangsTogether wsJx4a65c_get_915e3 := goodIn_r _ [13, 9, 14, 15, 16, 17, 18, 19, 20, 21, 22, 23, 24, 7, 25, 26, 32, 33, 34] (by decide +kernel) (by decide +kernel)
set_option maxRecDepth 20000 in
theorem gX4_hangsTogether_Jx4a65c_get_915e3 : GoodIn wsX4_hangsTogether (wsV RX4 48 RJx4a65c yJx4a65c_get_915e3 wsJx4a65c_get_915e3) := goodIn_app (goodIn_of _ (by decide +kernel)) ggX4_hangsTogether_Jx4a65c_get_915e3
theorem dX4_hangsTogether_0 : decode cX4_hangsTogether 0 = .ok (.iconst 1, 1) := by decide +kernel
theorem dX4_hangsTogether_1 : decode cX4_hangsTogether 1 = .ok (.istore_n 2, 1) := by decide +kernel
theorem dX4_hangsTogether_2 : decode cX4_hangsTogether 2 = .ok (.iconst 1, 1) := by decide +kernel
theorem dX4_hangsTogether_3 : decode cX4_hangsTogether 3 = .ok (.istore_n 3, 1) := by decide +kernel
theorem dX4_hangsTogether_4 : decode cX4_hangsTogether 4 = .ok (.iload_n 3, 1) := by decide +kernel
theorem dX4_hangsTogether_5 : decode cX4_hangsTogether 5 = .ok (.aload_n 0, 1) := by decide +kernel
theorem dX4_hangsTogether_6 : decode cX4_hangsTogether 6 = .ok (.getfield 23, 3) := by decide +kernel
theorem dX4_hangsTogether_9 : decode cX4_hangsTogether 9 = .ok (.if_icmp .ge 89, 3) := by decide +kernel
theorem dX4_hangsTogether_12 : decode cX4_hangsTogether 12 = .ok (.iconst 0, 1) := by decide +kernel
theorem dX4_hangsTogether_13 : decode cX4_hangsTogether 13 = .ok (.istore 4, 2) := by decide +kernel
theorem dX4_hangsTogether_15 : decode cX4_hangsTogether 15 = .ok (.iload 4, 2) := by decide +kernel
theorem dX4_hangsTogether_17 : decode cX4_hangsTogether 17 = .ok (.aload_n 0, 1) := by decide +kernel
theorem dX4_hangsTogether_18 : decode cX4_hangsTogether 18 = .ok (.getfield 12, 3) := by decide +kernel
theorem dX4_hangsTogether_21 : decode cX4_hangsTogether 21 = .ok (.invokevirtual 30, 3) := by decide +kernel
theorem dX4_hangsTogether_24 : decode cX4_hangsTogether 24 = .ok (.if_icmp .ge 68, 3) := by decide +kernel
theorem dX4_hangsTogether_27 : decode cX4_hangsTogether 27 = .ok (.iconst 1, 1) := by decide +kernel
theorem dX4_hangsTogether_28 : decode cX4_hangsTogether 28 = .ok (.aload_n 0, 1) := by decide +kernel
theorem dX4_hangsTogether_29 : decode cX4_hangsTogether 29 = .ok (.getfield 12, 3) := by decide +kernel
theorem dX4_hangsTogether_32 : decode cX4_hangsTogether 32 = .ok (.iload 4, 2) := by decide +kernel
theorem dX4_hangsTogether_34 : decode cX4_hangsTogether 34 = .ok (.invokevirtual 48, 3) := by decide +kernel
theorem dX4_hangsTogether_37 : decode cX4_hangsTogether 37 = .ok (.checkcast 52, 3) := by decide +kernel
theorem dX4_hangsTogether_40 : decode cX4_hangsTogether 40 = .ok (.getfield 54, 3) := by decide +kernel
theorem dX4_hangsTogether_43 : decode cX4_hangsTogether 43 = .ok (.ishl, 1) := by decide +kernel
theorem dX4_hangsTogether_44 : decode cX4_hangsTogether 44 = .ok (.iconst 1, 1) := by decide +kernel
theorem dX4_hangsTogether_45 : decode cX4_hangsTogether 45 = .ok (.aload_n 0, 1) := by decide +kernel
theorem dX4_hangsTogether_46 : decode cX4_hangsTogether 46 = .ok (.getfield 12, 3) := by decide +kernel
theorem dX4_hangsTogether_49 : decode cX4_hangsTogether 49 = .ok (.iload 4, 2) := by decide +kernel
theorem dX4_hangsTogether_51 : decode cX4_hangsTogether 51 = .ok (.invokevirtual 48, 3) := by decide +kernel
theorem dX4_hangsTogether_54 : decode cX4_hangsTogether 54 = .ok (.checkcast 52, 3) := by decide +kernel
theorem dX4_hangsTogether_57 : decode cX4_hangsTogether 57 = .ok (.getfield 61, 3) := by decide +kernel
theorem dX4_hangsTogether_60 : decode cX4_hangsTogether 60 = .ok (.ishl, 1) := by decide +kernel
theorem dX4_hangsTogether_61 : decode cX4_hangsTogether 61 = .ok (.ior, 1) := by decide +kernel
theorem dX4_hangsTogether_62 : decode cX4_hangsTogether 62 = .ok (.istore 5, 2) := by decide +kernel
theorem dX4_hangsTogether_64 : decode cX4_hangsTogether 64 = .ok (.iload_n 1, 1) := by decide +kernel
theorem dX4_hangsTogether_65 : decode cX4_hangsTogether 65 = .ok (.iload 4, 2) := by decide +kernel
theorem dX4_hangsTogether_67 : decode cX4_hangsTogether 67 = .ok (.ishr, 1) := by decide +kernel
theorem dX4_hangsTogether_68 : decode cX4_hangsTogether 68 = .ok (.iconst 1, 1) := by decide +kernel
theorem dX4_hangsTogether_69 : decode cX4_hangsTogether 69 = .ok (.iand, 1) := by decide +kernel
theorem dX4_hangsTogether_70 : decode cX4_hangsTogether 70 = .ok (.iconst 1, 1) := by decide +kernel
theorem dX4_hangsTogether_71 : decode cX4_hangsTogether 71 = .ok (.if_icmp .ne 15, 3) := by decide +kernel
theorem dX4_hangsTogether_74 : decode cX4_hangsTogether 74 = .ok (.iload_n 2, 1) := by decide +kernel
theorem dX4_hangsTogether_75 : decode cX4_hangsTogether 75 = .ok (.iload 5, 2) := by decide +kernel
theorem dX4_hangsTogether_77 : decode cX4_hangsTogether 77 = .ok (.iand, 1) := by decide +kernel
theorem dX4_hangsTogether_78 : decode cX4_hangsTogether 78 = .ok (.ifCond .eq 8, 3) := by decide +kernel
theorem dX4_hangsTogether_81 : decode cX4_hangsTogether 81 = .ok (.iload_n 2, 1) := by decide +kernel
theorem dX4_hangsTogether_82 : decode cX4_hangsTogether 82 = .ok (.iload 5, 2) := by decide +kernel
theorem dX4_hangsTogether_84 : decode cX4_hangsTogether 84 = .ok (.ior, 1) := by decide +kernel
theorem dX4_hangsTogether_85 : decode cX4_hangsTogether 85 = .ok (.istore_n 2, 1) := by decide +kernel
theorem dX4_hangsTogether_86 : decode cX4_hangsTogether 86 = .ok (.iinc 4 1, 3) := by decide +kernel
theorem dX4_hangsTogether_89 : decode cX4_hangsTogether 89 = .ok (.goto (-74), 3) := by decide +kernel
theorem dX4_hangsTogether_92 : decode cX4_hangsTogether 92 = .ok (.iinc 3 1, 3) := by decide +kernel
theorem dX4_hangsTogether_95 : decode cX4_hangsTogether 95 = .ok (.goto (-91), 3) := by decide +kernel
theorem dX4_hangsTogether_98 : decode cX4_hangsTogether 98 = .ok (.iload_n 2, 1) := by decide +kernel
theorem dX4_hangsTogether_99 : decode cX4_hangsTogether 99 = .ok (.iconst 1, 1) := by decide +kernel
theorem dX4_hangsTogether_100 : decode cX4_hangsTogether 100 = .ok (.aload_n 0, 1) := by decide +kernel
theorem dX4_hangsTogether_101 : decode cX4_hangsTogether 101 = .ok (.getfield 23, 3) := by decide +kernel
theorem dX4_hangsTogether_104 : decode cX4_hangsTogether 104 = .ok (.ishl, 1) := by decide +kernel
theorem dX4_hangsTogether_105 : decode cX4_hangsTogether 105 = .ok (.iconst 1, 1) := by decide +kernel
theorem dX4_hangsTogether_106 : decode cX4_hangsTogether 106 = .ok (.isub, 1) := by decide +kernel
theorem dX4_hangsTogether_107 : decode cX4_hangsTogether 107 = .ok (.if_icmp .ne 7, 3) := by decide +kernel
theorem dX4_hangsTogether_110 : decode cX4_hangsTogether 110 = .ok (.iconst 1, 1) := by decide +kernel
theorem dX4_hangsTogether_111 : decode cX4_hangsTogether 111 = .ok (.goto 4, 3) := by decide +kernel
theorem dX4_hangsTogether_114 : decode cX4_hangsTogether 114 = .ok (.iconst 0, 1) := by decide +kernel
theorem dX4_hangsTogether_115 : decode cX4_hangsTogether 115 = .ok (.ireturn, 1) := by decide +kernel
set_option maxRecDepth 20000 in
theorem ggX4_heightOf_X4_lineOf : GoodIn wsX4_heightOf wsX4_lineOf := goodIn_r _ [6] (by decide +kernel) (by decide +kernel)
set_option maxRecDepth 20000 in
theorem gX4_heightOf_X4_lineOf : GoodIn wsX4_heightOf (va_wsS RX4 57 yX4_lineOf wsX4_lineOf) := goodIn_app (goodIn_of _ (by decide +kernel)) ggX4_heightOf_X4_lineOf
set_option maxRecDepth 20000 in
theorem ggX4_heightOf_X4_fillTable : GoodIn wsX4_heightOf wsX4_fillTable := goodIn_r _ [10, 1, 2, 11, 12, 13, 14, 15, 16, 17, 18, 19, 20, 21, 22, 23, 24, 25, 26, 27, 28, 29, 30, 31, 32, 33, 34, 35, 36, 37, 38, 39, 40, 3, 4, 5, 6, 41, 42, 43, 44, 61, 62, 63, 64, 65, 66, 67, 68] (by decide +kernel) (by decide +kernel)
set_option maxRecDepth 20000 in
theorem gX4_heightOf_X4_fillTable : GoodIn wsX4_heightOf (wsV RX4 34 RX4 yX4_fillTable wsX4_fillTable) := goodIn_app (goodIn_of _ (by decide +kernel)) ggX4_heightOf_X4_fillTable
set_option maxRecDepth 20000 in
theorem ggX4_heightOf_X4_determinant : GoodIn wsX4_heightOf wsX4_determinant := goodIn_r _ [48, 2, 49, 50, 51, 5, 52, 53, 54, 55, 56, 57, 58, 59, 60, 61, 62, 63] (by decide +kernel) (by decide +kernel)
set_option maxRecDepth 20000 in
theorem gX4_heightOf_X4_determinant : GoodIn wsX4_heightOf (wsV RX4 38 RX4 yX4_determinant wsX4_determinant) := goodIn_app (goodIn_of _ (by decide +kernel)) ggX4_heightOf_X4_determinant
theorem dX4_heightOf_0 : decode cX4_heightOf 0 = .ok (.iload_n 1, 1) := by decide +kernel
theorem dX4_heightOf_1 : decode cX4_heightOf 1 = .ok (.iload_n 3, 1) := by decide +kernel
theorem dX4_heightOf_2 : decode cX4_heightOf 2 = .ok (.invokestatic 57, 3) := by decide +kernel
theorem dX4_heightOf_5 : decode cX4_heightOf 5 = .ok (.istore 4, 2) := by decide +kernel
theorem dX4_heightOf_7 : decode cX4_heightOf 7 = .ok (.iload 4, 2) := by decide +kernel
theorem dX4_heightOf_9 : decode cX4_heightOf 9 = .ok (.iconst (-1), 1) := by decide +kernel
theorem dX4_heightOf_10 : decode cX4_heightOf 10 = .ok (.if_icmp .ne 5, 3) := by decide +kernel
theorem dX4_heightOf_13 : decode cX4_heightOf 13 = .ok (.lconst 0, 1) := by decide +kernel
theorem dX4_heightOf_14 : decode cX4_heightOf 14 = .ok (.lreturn, 1) := by decide +kernel
theorem dX4_heightOf_15 : decode cX4_heightOf 15 = .ok (.aload_n 0, 1) := by decide +kernel
theorem dX4_heightOf_16 : decode cX4_heightOf 16 = .ok (.iload_n 3, 1) := by decide +kernel
theorem dX4_heightOf_17 : decode cX4_heightOf 17 = .ok (.invokevirtual 34, 3) := by decide +kernel
theorem dX4_heightOf_20 : decode cX4_heightOf 20 = .ok (.iconst 0, 1) := by decide +kernel
theorem dX4_heightOf_21 : decode cX4_heightOf 21 = .ok (.istore 5, 2) := by decide +kernel
theorem dX4_heightOf_23 : decode cX4_heightOf 23 = .ok (.iload 5, 2) := by decide +kernel
theorem dX4_heightOf_25 : decode cX4_heightOf 25 = .ok (.aload_n 0, 1) := by decide +kernel
theorem dX4_heightOf_26 : decode cX4_heightOf 26 = .ok (.getfield 23, 3) := by decide +kernel
theorem dX4_heightOf_29 : decode cX4_heightOf 29 = .ok (.iconst 1, 1) := by decide +kernel
theorem dX4_heightOf_30 : decode cX4_heightOf 30 = .ok (.isub, 1) := by decide +kernel
theorem dX4_heightOf_31 : decode cX4_heightOf 31 = .ok (.if_icmp .ge 34, 3) := by decide +kernel
theorem dX4_heightOf_34 : decode cX4_heightOf 34 = .ok (.aload_n 0, 1) := by decide +kernel
theorem dX4_heightOf_35 : decode cX4_heightOf 35 = .ok (.getfield 20, 3) := by decide +kernel
theorem dX4_heightOf_38 : decode cX4_heightOf 38 = .ok (.iload 5, 2) := by decide +kernel
theorem dX4_heightOf_40 : decode cX4_heightOf 40 = .ok (.aaload, 1) := by decide +kernel
theorem dX4_heightOf_41 : decode cX4_heightOf 41 = .ok (.iload 4, 2) := by decide +kernel
theorem dX4_heightOf_43 : decode cX4_heightOf 43 = .ok (.iload 5, 2) := by decide +kernel
theorem dX4_heightOf_45 : decode cX4_heightOf 45 = .ok (.iload_n 2, 1) := by decide +kernel
theorem dX4_heightOf_46 : decode cX4_heightOf 46 = .ok (.iload_n 3, 1) := by decide +kernel
theorem dX4_heightOf_47 : decode cX4_heightOf 47 = .ok (.invokestatic 57, 3) := by decide +kernel
theorem dX4_heightOf_50 : decode cX4_heightOf 50 = .ok (.if_icmp .ne 7, 3) := by decide +kernel
theorem dX4_heightOf_53 : decode cX4_heightOf 53 = .ok (.lconst 1, 1) := by decide +kernel
theorem dX4_heightOf_54 : decode cX4_heightOf 54 = .ok (.goto 4, 3) := by decide +kernel
theorem dX4_heightOf_57 : decode cX4_heightOf 57 = .ok (.lconst 0, 1) := by decide +kernel
theorem dX4_heightOf_58 : decode cX4_heightOf 58 = .ok (.lastore, 1) := by decide +kernel
theorem dX4_heightOf_59 : decode cX4_heightOf 59 = .ok (.iinc 5 1, 3) := by decide +kernel
theorem dX4_heightOf_62 : decode cX4_heightOf 62 = .ok (.goto (-39), 3) := by decide +kernel
theorem dX4_heightOf_65 : decode cX4_heightOf 65 = .ok (.aload_n 0, 1) := by decide +kernel
theorem dX4_heightOf_66 : decode cX4_heightOf 66 = .ok (.aload_n 0, 1) := by decide +kernel
theorem dX4_heightOf_67 : decode cX4_heightOf 67 = .ok (.getfield 23, 3) := by decide +kernel
theorem dX4_heightOf_70 : decode cX4_heightOf 70 = .ok (.iconst 1, 1) := by decide +kernel
theorem dX4_heightOf_71 : decode cX4_heightOf 71 = .ok (.isub, 1) := by decide +kernel
theorem dX4_heightOf_72 : decode cX4_heightOf 72 = .ok (.invokevirtual 38, 3) := by decide +kernel
theorem dX4_heightOf_75 : decode cX4_heightOf 75 = .ok (.lreturn, 1) := by decide +kernel
set_option maxRecDepth 20000 in
theorem ggX4_fallAlong_X4_hasWire : GoodIn wsX4_fallAlong wsX4_hasWire := goodIn_r _ [7, 1, 8, 9, 10, 11, 12, 13, 69, 70, 71, 74, 75, 76] (by decide +kernel) (by decide +kernel)
set_option maxRecDepth 20000 in
theorem gX4_fallAlong_X4_hasWire : GoodIn wsX4_fallAlong (wsV RX4 90 RX4 yX4_hasWire wsX4_hasWire) := goodIn_app (goodIn_of _ (by decide +kernel)) ggX4_fallAlong_X4_hasWire
set_option maxRecDepth 20000 in
theorem ggX4_fallAlong_Jx4a65c_get_915e3 : GoodIn wsX4_fallAlong wsJx4a65c_get_915e3 := goodIn_r _ [17, 13, 18, 19, 20, 21, 22, 23, 24, 25, 26, 27, 28, 11, 29, 30, 74, 75, 76] (by decide +kernel) (by decide +kernel)
set_option maxRecDepth 20000 in
theorem gX4_fallAlong_Jx4a65c_get_915e3 : GoodIn wsX4_fallAlong (wsV RX4 48 RJx4a65c yJx4a65c_get_915e3 wsJx4a65c_get_915e3) := goodIn_app (goodIn_of _ (by decide +kernel)) ggX4_fallAlong_Jx4a65c_get_915e3
set_option maxRecDepth 20000 in
theorem ggX4_fallAlong_X4_heightOf : GoodIn wsX4_fallAlong wsX4_heightOf := goodIn_r _ [34, 35, 36, 37, 38, 6, 39, 40, 41, 42, 43, 1, 2, 44, 45, 46, 47, 48, 8, 9, 10, 11, 12, 13, 14, 15, 16, 17, 18, 19, 20, 21, 22, 23, 24, 25, 26, 27, 28, 29, 30, 49, 50, 51, 52, 53, 54, 55, 56, 57, 58, 59, 60, 61, 62, 63, 64, 65, 66, 67, 68, 69, 70, 71, 72, 73, 74, 75, 76] (by decide +kernel) (by decide +kernel)
set_option maxRecDepth 20000 in
theorem gX4_fallAlong_X4_heightOf : GoodIn wsX4_fallAlong (wsV RX4 93 RX4 yX4_heightOf wsX4_heightOf) := goodIn_app (goodIn_of _ (by decide +kernel)) ggX4_fallAlong_X4_heightOf
theorem dX4_fallAlong_0 : decode cX4_fallAlong 0 = .ok (.aload_n 0, 1) := by decide +kernel
theorem dX4_fallAlong_1 : decode cX4_fallAlong 1 = .ok (.iload_n 1, 1) := by decide +kernel
theorem dX4_fallAlong_2 : decode cX4_fallAlong 2 = .ok (.invokevirtual 90, 3) := by decide +kernel
theorem dX4_fallAlong_5 : decode cX4_fallAlong 5 = .ok (.ifCond .ne 5, 3) := by decide +kernel
theorem dX4_fallAlong_8 : decode cX4_fallAlong 8 = .ok (.lconst 0, 1) := by decide +kernel
theorem dX4_fallAlong_9 : decode cX4_fallAlong 9 = .ok (.lreturn, 1) := by decide +kernel
theorem dX4_fallAlong_10 : decode cX4_fallAlong 10 = .ok (.aload_n 0, 1) := by decide +kernel
theorem dX4_fallAlong_11 : decode cX4_fallAlong 11 = .ok (.getfield 12, 3) := by decide +kernel
theorem dX4_fallAlong_14 : decode cX4_fallAlong 14 = .ok (.iload_n 1, 1) := by decide +kernel
theorem dX4_fallAlong_15 : decode cX4_fallAlong 15 = .ok (.invokevirtual 48, 3) := by decide +kernel
theorem dX4_fallAlong_18 : decode cX4_fallAlong 18 = .ok (.checkcast 52, 3) := by decide +kernel
theorem dX4_fallAlong_21 : decode cX4_fallAlong 21 = .ok (.astore 4, 2) := by decide +kernel
theorem dX4_fallAlong_23 : decode cX4_fallAlong 23 = .ok (.aload_n 0, 1) := by decide +kernel
theorem dX4_fallAlong_24 : decode cX4_fallAlong 24 = .ok (.aload 4, 2) := by decide +kernel
theorem dX4_fallAlong_26 : decode cX4_fallAlong 26 = .ok (.getfield 54, 3) := by decide +kernel
theorem dX4_fallAlong_29 : decode cX4_fallAlong 29 = .ok (.iload_n 2, 1) := by decide +kernel
theorem dX4_fallAlong_30 : decode cX4_fallAlong 30 = .ok (.iload_n 3, 1) := by decide +kernel
theorem dX4_fallAlong_31 : decode cX4_fallAlong 31 = .ok (.invokevirtual 93, 3) := by decide +kernel
theorem dX4_fallAlong_34 : decode cX4_fallAlong 34 = .ok (.aload_n 0, 1) := by decide +kernel
theorem dX4_fallAlong_35 : decode cX4_fallAlong 35 = .ok (.aload 4, 2) := by decide +kernel
theorem dX4_fallAlong_37 : decode cX4_fallAlong 37 = .ok (.getfield 61, 3) := by decide +kernel
theorem dX4_fallAlong_40 : decode cX4_fallAlong 40 = .ok (.iload_n 2, 1) := by decide +kernel
theorem dX4_fallAlong_41 : decode cX4_fallAlong 41 = .ok (.iload_n 3, 1) := by decide +kernel
theorem dX4_fallAlong_42 : decode cX4_fallAlong 42 = .ok (.invokevirtual 93, 3) := by decide +kernel
theorem dX4_fallAlong_45 : decode cX4_fallAlong 45 = .ok (.lsub, 1) := by decide +kernel
theorem dX4_fallAlong_46 : decode cX4_fallAlong 46 = .ok (.lreturn, 1) := by decide +kernel
theorem dX5_init_0 : decode cX5_init 0 = .ok (.aload_n 0, 1) := by decide +kernel
theorem dX5_init_1 : decode cX5_init 1 = .ok (.invokespecial 3, 3) := by decide +kernel
theorem dX5_init_4 : decode cX5_init 4 = .ok (.aload_n 0, 1) := by decide +kernel
theorem dX5_init_5 : decode cX5_init 5 = .ok (.bipush 64, 2) := by decide +kernel
theorem dX5_init_7 : decode cX5_init 7 = .ok (.newarray .long, 2) := by decide +kernel
theorem dX5_init_9 : decode cX5_init 9 = .ok (.putfield 11, 3) := by decide +kernel
theorem dX5_init_12 : decode cX5_init 12 = .ok (.aload_n 0, 1) := by decide +kernel
theorem dX5_init_13 : decode cX5_init 13 = .ok (.bipush 64, 2) := by decide +kernel
theorem dX5_init_15 : decode cX5_init 15 = .ok (.newarray .long, 2) := by decide +kernel
theorem dX5_init_17 : decode cX5_init 17 = .ok (.putfield 15, 3) := by decide +kernel
theorem dX5_init_20 : decode cX5_init 20 = .ok (.return_, 1) := by decide +kernel
set_option maxRecDepth 20000 in
theorem ggX5_allReached_J7_fill_d0a16 : GoodIn wsX5_allReached wsJ7_fill_d0a16 := goodIn_r _ [6] (by decide +kernel) (by decide +kernel)
set_option maxRecDepth 20000 in
theorem gX5_allReached_J7_fill_d0a16 : GoodIn wsX5_allReached (va_wsS RX5 18 yJ7_fill_d0a16 wsJ7_fill_d0a16) := goodIn_app (goodIn_of _ (by decide +kernel)) ggX5_allReached_J7_fill_d0a16
set_option maxRecDepth 20000 in
theorem ggX5_allReached_X5_codeOf : GoodIn wsX5_allReached wsX5_codeOf := goodIn_r _ [10, 11, 12, 13, 14] (by decide +kernel) (by decide +kernel)
set_option maxRecDepth 20000 in
theorem gX5_allReached_X5_codeOf : GoodIn wsX5_allReached (va_wsS RX5 24 yX5_codeOf wsX5_codeOf) := goodIn_app (goodIn_of _ (by decide +kernel)) ggX5_allReached_X5_codeOf
set_option maxRecDepth 20000 in
theorem ggX5_allReached_X5_noteCode : GoodIn wsX5_allReached wsX5_noteCode := goodIn_r _ [18, 1, 2, 41, 42] (by decide +kernel) (by decide +kernel)
set_option maxRecDepth 20000 in
theorem gX5_allReached_X5_noteCode : GoodIn wsX5_allReached (wsV RX5 28 RX5 yX5_noteCode wsX5_noteCode) := goodIn_app (goodIn_of _ (by decide +kernel)) ggX5_allReached_X5_noteCode
set_option maxRecDepth 20000 in
theorem ggX5_allReached_X5_takeWaiting : GoodIn wsX5_allReached wsX5_takeWaiting := goodIn_r _ [22, 2, 23, 24, 25, 26, 27, 28, 29, 30, 31, 41, 42] (by decide +kernel) (by decide +kernel)
set_option maxRecDepth 20000 in
theorem gX5_allReached_X5_takeWaiting : GoodIn wsX5_allReached (wsV RX5 32 RX5 yX5_takeWaiting wsX5_takeWaiting) := goodIn_app (goodIn_of _ (by decide +kernel)) ggX5_allReached_X5_takeWaiting
set_option maxRecDepth 20000 in
theorem ggX5_allReached_X5_remainderAt : GoodIn wsX5_allReached wsX5_remainderAt := goodIn_r _ [34] (by decide +kernel) (by decide +kernel)
set_option maxRecDepth 20000 in
theorem gX5_allReached_X5_remainderAt : GoodIn wsX5_allReached (va_wsS RX5 36 yX5_remainderAt wsX5_remainderAt) := goodIn_app (goodIn_of _ (by decide +kernel)) ggX5_allReached_X5_remainderAt
set_option maxRecDepth 20000 in
theorem ggX5_allReached_X5_turnedCode : GoodIn wsX5_allReached wsX5_turnedCode := goodIn_r _ [37, 32, 33, 9, 34, 38, 39, 13, 40] (by decide +kernel) (by decide +kernel)
set_option maxRecDepth 20000 in
theorem gX5_allReached_X5_turnedCode : GoodIn wsX5_allReached (va_wsS RX5 40 yX5_turnedCode wsX5_turnedCode) := goodIn_app (goodIn_of _ (by decide +kernel)) ggX5_allReached_X5_turnedCode
theorem dX5_allReached_0 : decode cX5_allReached 0 = .ok (.aload_n 0, 1) := by decide +kernel
theorem dX5_allReached_1 : decode cX5_allReached 1 = .ok (.getfield 11, 3) := by decide +kernel
theorem dX5_allReached_4 : decode cX5_allReached 4 = .ok (.lconst 0, 1) := by decide +kernel
theorem dX5_allReached_5 : decode cX5_allReached 5 = .ok (.invokestatic 18, 3) := by decide +kernel
theorem dX5_allReached_8 : decode cX5_allReached 8 = .ok (.aload_n 0, 1) := by decide +kernel
theorem dX5_allReached_9 : decode cX5_allReached 9 = .ok (.getfield 15, 3) := by decide +kernel
theorem dX5_allReached_12 : decode cX5_allReached 12 = .ok (.lconst 0, 1) := by decide +kernel
theorem dX5_allReached_13 : decode cX5_allReached 13 = .ok (.invokestatic 18, 3) := by decide +kernel
theorem dX5_allReached_16 : decode cX5_allReached 16 = .ok (.aload_n 0, 1) := by decide +kernel
theorem dX5_allReached_17 : decode cX5_allReached 17 = .ok (.aload_n 1, 1) := by decide +kernel
theorem dX5_allReached_18 : decode cX5_allReached 18 = .ok (.iload_n 2, 1) := by decide +kernel
theorem dX5_allReached_19 : decode cX5_allReached 19 = .ok (.invokestatic 24, 3) := by decide +kernel
theorem dX5_allReached_22 : decode cX5_allReached 22 = .ok (.invokevirtual 28, 3) := by decide +kernel
theorem dX5_allReached_25 : decode cX5_allReached 25 = .ok (.iconst 0, 1) := by decide +kernel
theorem dX5_allReached_26 : decode cX5_allReached 26 = .ok (.istore_n 3, 1) := by decide +kernel
theorem dX5_allReached_27 : decode cX5_allReached 27 = .ok (.iconst 0, 1) := by decide +kernel
theorem dX5_allReached_28 : decode cX5_allReached 28 = .ok (.istore 4, 2) := by decide +kernel
theorem dX5_allReached_30 : decode cX5_allReached 30 = .ok (.iload 4, 2) := by decide +kernel
theorem dX5_allReached_32 : decode cX5_allReached 32 = .ok (.sipush 4096, 3) := by decide +kernel
theorem dX5_allReached_35 : decode cX5_allReached 35 = .ok (.if_icmp .ge 62, 3) := by decide +kernel
theorem dX5_allReached_38 : decode cX5_allReached 38 = .ok (.aload_n 0, 1) := by decide +kernel
theorem dX5_allReached_39 : decode cX5_allReached 39 = .ok (.invokevirtual 32, 3) := by decide +kernel
theorem dX5_allReached_42 : decode cX5_allReached 42 = .ok (.istore 5, 2) := by decide +kernel
theorem dX5_allReached_44 : decode cX5_allReached 44 = .ok (.iload 5, 2) := by decide +kernel
theorem dX5_allReached_46 : decode cX5_allReached 46 = .ok (.iconst (-1), 1) := by decide +kernel
theorem dX5_allReached_47 : decode cX5_allReached 47 = .ok (.if_icmp .ne 5, 3) := by decide +kernel
theorem dX5_allReached_50 : decode cX5_allReached 50 = .ok (.iload_n 3, 1) := by decide +kernel
theorem dX5_allReached_51 : decode cX5_allReached 51 = .ok (.ireturn, 1) := by decide +kernel
theorem dX5_allReached_52 : decode cX5_allReached 52 = .ok (.iconst 0, 1) := by decide +kernel
theorem dX5_allReached_53 : decode cX5_allReached 53 = .ok (.istore 6, 2) := by decide +kernel
theorem dX5_allReached_55 : decode cX5_allReached 55 = .ok (.iload 6, 2) := by decide +kernel
theorem dX5_allReached_57 : decode cX5_allReached 57 = .ok (.iconst 4, 1) := by decide +kernel
theorem dX5_allReached_58 : decode cX5_allReached 58 = .ok (.if_icmp .ge 33, 3) := by decide +kernel
theorem dX5_allReached_61 : decode cX5_allReached 61 = .ok (.iload_n 3, 1) := by decide +kernel
theorem dX5_allReached_62 : decode cX5_allReached 62 = .ok (.iconst 1, 1) := by decide +kernel
theorem dX5_allReached_63 : decode cX5_allReached 63 = .ok (.iload 5, 2) := by decide +kernel
theorem dX5_allReached_65 : decode cX5_allReached 65 = .ok (.iload 6, 2) := by decide +kernel
theorem dX5_allReached_67 : decode cX5_allReached 67 = .ok (.invokestatic 36, 3) := by decide +kernel
theorem dX5_allReached_70 : decode cX5_allReached 70 = .ok (.ishl, 1) := by decide +kernel
theorem dX5_allReached_71 : decode cX5_allReached 71 = .ok (.ior, 1) := by decide +kernel
theorem dX5_allReached_72 : decode cX5_allReached 72 = .ok (.istore_n 3, 1) := by decide +kernel
theorem dX5_allReached_73 : decode cX5_allReached 73 = .ok (.aload_n 0, 1) := by decide +kernel
theorem dX5_allReached_74 : decode cX5_allReached 74 = .ok (.iload 5, 2) := by decide +kernel
theorem dX5_allReached_76 : decode cX5_allReached 76 = .ok (.iload 6, 2) := by decide +kernel
theorem dX5_allReached_78 : decode cX5_allReached 78 = .ok (.iload_n 2, 1) := by decide +kernel
theorem dX5_allReached_79 : decode cX5_allReached 79 = .ok (.invokestatic 40, 3) := by decide +kernel
theorem dX5_allReached_82 : decode cX5_allReached 82 = .ok (.invokevirtual 28, 3) := by decide +kernel
theorem dX5_allReached_85 : decode cX5_allReached 85 = .ok (.iinc 6 1, 3) := by decide +kernel
theorem dX5_allReached_88 : decode cX5_allReached 88 = .ok (.goto (-33), 3) := by decide +kernel
theorem dX5_allReached_91 : decode cX5_allReached 91 = .ok (.iinc 4 1, 3) := by decide +kernel
theorem dX5_allReached_94 : decode cX5_allReached 94 = .ok (.goto (-64), 3) := by decide +kernel
theorem dX5_allReached_97 : decode cX5_allReached 97 = .ok (.iload_n 3, 1) := by decide +kernel
theorem dX5_allReached_98 : decode cX5_allReached 98 = .ok (.ireturn, 1) := by decide +kernel
set_option maxRecDepth 20000 in
theorem ggX5_codeOf_J9_floorMod_f86c9 : GoodIn wsX5_codeOf wsJ9_floorMod_f86c9 := goodIn_r _ [4] (by decide +kernel) (by decide +kernel)
set_option maxRecDepth 20000 in
theorem gX5_codeOf_J9_floorMod_f86c9 : GoodIn wsX5_codeOf (va_wsS RX5 44 yJ9_floorMod_f86c9 wsJ9_floorMod_f86c9) := goodIn_app (goodIn_of _ (by decide +kernel)) ggX5_codeOf_J9_floorMod_f86c9
theorem dX5_codeOf_0 : decode cX5_codeOf 0 = .ok (.iconst 0, 1) := by decide +kernel
theorem dX5_codeOf_1 : decode cX5_codeOf 1 = .ok (.istore_n 2, 1) := by decide +kernel
theorem dX5_codeOf_2 : decode cX5_codeOf 2 = .ok (.iconst 0, 1) := by decide +kernel
theorem dX5_codeOf_3 : decode cX5_codeOf 3 = .ok (.istore_n 3, 1) := by decide +kernel
theorem dX5_codeOf_4 : decode cX5_codeOf 4 = .ok (.iload_n 3, 1) := by decide +kernel
theorem dX5_codeOf_5 : decode cX5_codeOf 5 = .ok (.iconst 4, 1) := by decide +kernel
theorem dX5_codeOf_6 : decode cX5_codeOf 6 = .ok (.if_icmp .ge 25, 3) := by decide +kernel
theorem dX5_codeOf_9 : decode cX5_codeOf 9 = .ok (.iload_n 2, 1) := by decide +kernel
theorem dX5_codeOf_10 : decode cX5_codeOf 10 = .ok (.aload_n 0, 1) := by decide +kernel
theorem dX5_codeOf_11 : decode cX5_codeOf 11 = .ok (.iload_n 3, 1) := by decide +kernel
theorem dX5_codeOf_12 : decode cX5_codeOf 12 = .ok (.laload, 1) := by decide +kernel
theorem dX5_codeOf_13 : decode cX5_codeOf 13 = .ok (.iload_n 1, 1) := by decide +kernel
theorem dX5_codeOf_14 : decode cX5_codeOf 14 = .ok (.i2l, 1) := by decide +kernel
theorem dX5_codeOf_15 : decode cX5_codeOf 15 = .ok (.invokestatic 44, 3) := by decide +kernel
theorem dX5_codeOf_18 : decode cX5_codeOf 18 = .ok (.l2i, 1) := by decide +kernel
theorem dX5_codeOf_19 : decode cX5_codeOf 19 = .ok (.iconst 3, 1) := by decide +kernel
theorem dX5_codeOf_20 : decode cX5_codeOf 20 = .ok (.iload_n 3, 1) := by decide +kernel
theorem dX5_codeOf_21 : decode cX5_codeOf 21 = .ok (.imul, 1) := by decide +kernel
theorem dX5_codeOf_22 : decode cX5_codeOf 22 = .ok (.ishl, 1) := by decide +kernel
theorem dX5_codeOf_23 : decode cX5_codeOf 23 = .ok (.ior, 1) := by decide +kernel
theorem dX5_codeOf_24 : decode cX5_codeOf 24 = .ok (.istore_n 2, 1) := by decide +kernel
theorem dX5_codeOf_25 : decode cX5_codeOf 25 = .ok (.iinc 3 1, 3) := by decide +kernel
theorem dX5_codeOf_28 : decode cX5_codeOf 28 = .ok (.goto (-24), 3) := by decide +kernel
theorem dX5_codeOf_31 : decode cX5_codeOf 31 = .ok (.iload_n 2, 1) := by decide +kernel
theorem dX5_codeOf_32 : decode cX5_codeOf 32 = .ok (.ireturn, 1) := by decide +kernel
theorem dX5_remainderAt_0 : decode cX5_remainderAt 0 = .ok (.iload_n 0, 1) := by decide +kernel
theorem dX5_remainderAt_1 : decode cX5_remainderAt 1 = .ok (.iconst 3, 1) := by decide +kernel
theorem dX5_remainderAt_2 : decode cX5_remainderAt 2 = .ok (.iload_n 1, 1) := by decide +kernel
theorem dX5_remainderAt_3 : decode cX5_remainderAt 3 = .ok (.imul, 1) := by decide +kernel
theorem dX5_remainderAt_4 : decode cX5_remainderAt 4 = .ok (.ishr, 1) := by decide +kernel
theorem dX5_remainderAt_5 : decode cX5_remainderAt 5 = .ok (.bipush 7, 2) := by decide +kernel
theorem dX5_remainderAt_7 : decode cX5_remainderAt 7 = .ok (.iand, 1) := by decide +kernel
theorem dX5_remainderAt_8 : decode cX5_remainderAt 8 = .ok (.ireturn, 1) := by decide +kernel
set_option maxRecDepth 20000 in
theorem ggX5_turnedCode_X5_remainderAt : GoodIn wsX5_turnedCode wsX5_remainderAt := goodIn_r _ [4] (by decide +kernel) (by decide +kernel)
set_option maxRecDepth 20000 in
theorem gX5_turnedCode_X5_remainderAt : GoodIn wsX5_turnedCode (va_wsS RX5 36 yX5_remainderAt wsX5_remainderAt) := goodIn_app (goodIn_of _ (by decide +kernel)) ggX5_turnedCode_X5_remainderAt
set_option maxRecDepth 20000 in
theorem ggX5_turnedCode_J9_floorMod_7cf53 : GoodIn wsX5_turnedCode wsJ9_floorMod_7cf53 := goodIn_r _ [8] (by decide +kernel) (by decide +kernel)
set_option maxRecDepth 20000 in
theorem gX5_turnedCode_J9_floorMod_7cf53 : GoodIn wsX5_turnedCode (va_wsS RX5 50 yJ9_floorMod_7cf53 wsJ9_floorMod_7cf53) := goodIn_app (goodIn_of _ (by decide +kernel)) ggX5_turnedCode_J9_floorMod_7cf53
theorem dX5_turnedCode_0 : decode cX5_turnedCode 0 = .ok (.iconst 0, 1) := by decide +kernel
theorem dX5_turnedCode_1 : decode cX5_turnedCode 1 = .ok (.istore_n 3, 1) := by decide +kernel
theorem dX5_turnedCode_2 : decode cX5_turnedCode 2 = .ok (.iconst 0, 1) := by decide +kernel
theorem dX5_turnedCode_3 : decode cX5_turnedCode 3 = .ok (.istore 4, 2) := by decide +kernel
theorem dX5_turnedCode_5 : decode cX5_turnedCode 5 = .ok (.iload 4, 2) := by decide +kernel
theorem dX5_turnedCode_7 : decode cX5_turnedCode 7 = .ok (.iconst 4, 1) := by decide +kernel
theorem dX5_turnedCode_8 : decode cX5_turnedCode 8 = .ok (.if_icmp .ge 28, 3) := by decide +kernel
theorem dX5_turnedCode_11 : decode cX5_turnedCode 11 = .ok (.iload_n 3, 1) := by decide +kernel
theorem dX5_turnedCode_12 : decode cX5_turnedCode 12 = .ok (.iload 4, 2) := by decide +kernel
theorem dX5_turnedCode_14 : decode cX5_turnedCode 14 = .ok (.iload_n 1, 1) := by decide +kernel
theorem dX5_turnedCode_15 : decode cX5_turnedCode 15 = .ok (.if_icmp .ne 7, 3) := by decide +kernel
theorem dX5_turnedCode_18 : decode cX5_turnedCode 18 = .ok (.iconst 0, 1) := by decide +kernel
theorem dX5_turnedCode_19 : decode cX5_turnedCode 19 = .ok (.goto 9, 3) := by decide +kernel
theorem dX5_turnedCode_22 : decode cX5_turnedCode 22 = .ok (.iload_n 0, 1) := by decide +kernel
theorem dX5_turnedCode_23 : decode cX5_turnedCode 23 = .ok (.iload 4, 2) := by decide +kernel
theorem dX5_turnedCode_25 : decode cX5_turnedCode 25 = .ok (.invokestatic 36, 3) := by decide +kernel
theorem dX5_turnedCode_28 : decode cX5_turnedCode 28 = .ok (.iadd, 1) := by decide +kernel
theorem dX5_turnedCode_29 : decode cX5_turnedCode 29 = .ok (.istore_n 3, 1) := by decide +kernel
theorem dX5_turnedCode_30 : decode cX5_turnedCode 30 = .ok (.iinc 4 1, 3) := by decide +kernel
theorem dX5_turnedCode_33 : decode cX5_turnedCode 33 = .ok (.goto (-28), 3) := by decide +kernel
theorem dX5_turnedCode_36 : decode cX5_turnedCode 36 = .ok (.iconst 2, 1) := by decide +kernel
theorem dX5_turnedCode_37 : decode cX5_turnedCode 37 = .ok (.iload_n 3, 1) := by decide +kernel
theorem dX5_turnedCode_38 : decode cX5_turnedCode 38 = .ok (.imul, 1) := by decide +kernel
theorem dX5_turnedCode_39 : decode cX5_turnedCode 39 = .ok (.iload_n 0, 1) := by decide +kernel
theorem dX5_turnedCode_40 : decode cX5_turnedCode 40 = .ok (.iload_n 1, 1) := by decide +kernel
theorem dX5_turnedCode_41 : decode cX5_turnedCode 41 = .ok (.invokestatic 36, 3) := by decide +kernel
theorem dX5_turnedCode_44 : decode cX5_turnedCode 44 = .ok (.isub, 1) := by decide +kernel
theorem dX5_turnedCode_45 : decode cX5_turnedCode 45 = .ok (.iload_n 2, 1) := by decide +kernel
theorem dX5_turnedCode_46 : decode cX5_turnedCode 46 = .ok (.invokestatic 50, 3) := by decide +kernel
theorem dX5_turnedCode_49 : decode cX5_turnedCode 49 = .ok (.istore 4, 2) := by decide +kernel
theorem dX5_turnedCode_51 : decode cX5_turnedCode 51 = .ok (.iload_n 0, 1) := by decide +kernel
theorem dX5_turnedCode_52 : decode cX5_turnedCode 52 = .ok (.bipush 7, 2) := by decide +kernel
theorem dX5_turnedCode_54 : decode cX5_turnedCode 54 = .ok (.iconst 3, 1) := by decide +kernel
theorem dX5_turnedCode_55 : decode cX5_turnedCode 55 = .ok (.iload_n 1, 1) := by decide +kernel
theorem dX5_turnedCode_56 : decode cX5_turnedCode 56 = .ok (.imul, 1) := by decide +kernel
theorem dX5_turnedCode_57 : decode cX5_turnedCode 57 = .ok (.ishl, 1) := by decide +kernel
theorem dX5_turnedCode_58 : decode cX5_turnedCode 58 = .ok (.iconst (-1), 1) := by decide +kernel
theorem dX5_turnedCode_59 : decode cX5_turnedCode 59 = .ok (.ixor, 1) := by decide +kernel
theorem dX5_turnedCode_60 : decode cX5_turnedCode 60 = .ok (.iand, 1) := by decide +kernel
theorem dX5_turnedCode_61 : decode cX5_turnedCode 61 = .ok (.iload 4, 2) := by decide +kernel
theorem dX5_turnedCode_63 : decode cX5_turnedCode 63 = .ok (.iconst 3, 1) := by decide +kernel
theorem dX5_turnedCode_64 : decode cX5_turnedCode 64 = .ok (.iload_n 1, 1) := by decide +kernel
theorem dX5_turnedCode_65 : decode cX5_turnedCode 65 = .ok (.imul, 1) := by decide +kernel
theorem dX5_turnedCode_66 : decode cX5_turnedCode 66 = .ok (.ishl, 1) := by decide +kernel
theorem dX5_turnedCode_67 : decode cX5_turnedCode 67 = .ok (.ior, 1) := by decide +kernel
theorem dX5_turnedCode_68 : decode cX5_turnedCode 68 = .ok (.ireturn, 1) := by decide +kernel
theorem dX5_noteCode_0 : decode cX5_noteCode 0 = .ok (.lconst 1, 1) := by decide +kernel
theorem dX5_noteCode_1 : decode cX5_noteCode 1 = .ok (.iload_n 1, 1) := by decide +kernel
theorem dX5_noteCode_2 : decode cX5_noteCode 2 = .ok (.bipush 63, 2) := by decide +kernel
theorem dX5_noteCode_4 : decode cX5_noteCode 4 = .ok (.iand, 1) := by decide +kernel
theorem dX5_noteCode_5 : decode cX5_noteCode 5 = .ok (.lshl, 1) := by decide +kernel
theorem dX5_noteCode_6 : decode cX5_noteCode 6 = .ok (.lstore_n 2, 1) := by decide +kernel
theorem dX5_noteCode_7 : decode cX5_noteCode 7 = .ok (.aload_n 0, 1) := by decide +kernel
theorem dX5_noteCode_8 : decode cX5_noteCode 8 = .ok (.getfield 11, 3) := by decide +kernel
theorem dX5_noteCode_11 : decode cX5_noteCode 11 = .ok (.iload_n 1, 1) := by decide +kernel
theorem dX5_noteCode_12 : decode cX5_noteCode 12 = .ok (.bipush 6, 2) := by decide +kernel
theorem dX5_noteCode_14 : decode cX5_noteCode 14 = .ok (.ishr, 1) := by decide +kernel
theorem dX5_noteCode_15 : decode cX5_noteCode 15 = .ok (.laload, 1) := by decide +kernel
theorem dX5_noteCode_16 : decode cX5_noteCode 16 = .ok (.lload_n 2, 1) := by decide +kernel
theorem dX5_noteCode_17 : decode cX5_noteCode 17 = .ok (.land, 1) := by decide +kernel
theorem dX5_noteCode_18 : decode cX5_noteCode 18 = .ok (.lconst 0, 1) := by decide +kernel
theorem dX5_noteCode_19 : decode cX5_noteCode 19 = .ok (.lcmp, 1) := by decide +kernel
theorem dX5_noteCode_20 : decode cX5_noteCode 20 = .ok (.ifCond .ne 29, 3) := by decide +kernel
theorem dX5_noteCode_23 : decode cX5_noteCode 23 = .ok (.aload_n 0, 1) := by decide +kernel
theorem dX5_noteCode_24 : decode cX5_noteCode 24 = .ok (.getfield 11, 3) := by decide +kernel
theorem dX5_noteCode_27 : decode cX5_noteCode 27 = .ok (.iload_n 1, 1) := by decide +kernel
theorem dX5_noteCode_28 : decode cX5_noteCode 28 = .ok (.bipush 6, 2) := by decide +kernel
theorem dX5_noteCode_30 : decode cX5_noteCode 30 = .ok (.ishr, 1) := by decide +kernel
theorem dX5_noteCode_31 : decode cX5_noteCode 31 = .ok (.dup2, 1) := by decide +kernel
theorem dX5_noteCode_32 : decode cX5_noteCode 32 = .ok (.laload, 1) := by decide +kernel
theorem dX5_noteCode_33 : decode cX5_noteCode 33 = .ok (.lload_n 2, 1) := by decide +kernel
theorem dX5_noteCode_34 : decode cX5_noteCode 34 = .ok (.lor, 1) := by decide +kernel
theorem dX5_noteCode_35 : decode cX5_noteCode 35 = .ok (.lastore, 1) := by decide +kernel
theorem dX5_noteCode_36 : decode cX5_noteCode 36 = .ok (.aload_n 0, 1) := by decide +kernel
theorem dX5_noteCode_37 : decode cX5_noteCode 37 = .ok (.getfield 15, 3) := by decide +kernel
theorem dX5_noteCode_40 : decode cX5_noteCode 40 = .ok (.iload_n 1, 1) := by decide +kernel
theorem dX5_noteCode_41 : decode cX5_noteCode 41 = .ok (.bipush 6, 2) := by decide +kernel
theorem dX5_noteCode_43 : decode cX5_noteCode 43 = .ok (.ishr, 1) := by decide +kernel
theorem dX5_noteCode_44 : decode cX5_noteCode 44 = .ok (.dup2, 1) := by decide +kernel
theorem dX5_noteCode_45 : decode cX5_noteCode 45 = .ok (.laload, 1) := by decide +kernel
theorem dX5_noteCode_46 : decode cX5_noteCode 46 = .ok (.lload_n 2, 1) := by decide +kernel
theorem dX5_noteCode_47 : decode cX5_noteCode 47 = .ok (.lor, 1) := by decide +kernel
theorem dX5_noteCode_48 : decode cX5_noteCode 48 = .ok (.lastore, 1) := by decide +kernel
theorem dX5_noteCode_49 : decode cX5_noteCode 49 = .ok (.return_, 1) := by decide +kernel
set_option maxRecDepth 20000 in
theorem ggX5_takeWaiting_J13_numberOfTrailingZeros_95d88 : GoodIn wsX5_takeWaiting wsJ13_numberOfTrailingZeros_95d88 := goodIn_r _ [5, 6, 7, 8, 9, 10] (by decide +kernel) (by decide +kernel)
set_option maxRecDepth 20000 in
theorem gX5_takeWaiting_J13_numberOfTrailingZeros_95d88 : GoodIn wsX5_takeWaiting (va_wsS RX5 52 yJ13_numberOfTrailingZeros_95d88 wsJ13_numberOfTrailingZeros_95d88) := goodIn_app (goodIn_of _ (by decide +kernel)) ggX5_takeWaiting_J13_numberOfTrailingZeros_95d88
theorem dX5_takeWaiting_0 : decode cX5_takeWaiting 0 = .ok (.iconst 0, 1) := by decide +kernel
theorem dX5_takeWaiting_1 : decode cX5_takeWaiting 1 = .ok (.istore_n 1, 1) := by decide +kernel
theorem dX5_takeWaiting_2 : decode cX5_takeWaiting 2 = .ok (.iload_n 1, 1) := by decide +kernel
theorem dX5_takeWaiting_3 : decode cX5_takeWaiting 3 = .ok (.aload_n 0, 1) := by decide +kernel
theorem dX5_takeWaiting_4 : decode cX5_takeWaiting 4 = .ok (.getfield 15, 3) := by decide +kernel
theorem dX5_takeWaiting_7 : decode cX5_takeWaiting 7 = .ok (.arraylength, 1) := by decide +kernel
theorem dX5_takeWaiting_8 : decode cX5_takeWaiting 8 = .ok (.if_icmp .ge 54, 3) := by decide +kernel
theorem dX5_takeWaiting_11 : decode cX5_takeWaiting 11 = .ok (.aload_n 0, 1) := by decide +kernel
theorem dX5_takeWaiting_12 : decode cX5_takeWaiting 12 = .ok (.getfield 15, 3) := by decide +kernel
theorem dX5_takeWaiting_15 : decode cX5_takeWaiting 15 = .ok (.iload_n 1, 1) := by decide +kernel
theorem dX5_takeWaiting_16 : decode cX5_takeWaiting 16 = .ok (.laload, 1) := by decide +kernel
theorem dX5_takeWaiting_17 : decode cX5_takeWaiting 17 = .ok (.lconst 0, 1) := by decide +kernel
theorem dX5_takeWaiting_18 : decode cX5_takeWaiting 18 = .ok (.lcmp, 1) := by decide +kernel
theorem dX5_takeWaiting_19 : decode cX5_takeWaiting 19 = .ok (.ifCond .eq 37, 3) := by decide +kernel
theorem dX5_takeWaiting_22 : decode cX5_takeWaiting 22 = .ok (.bipush 64, 2) := by decide +kernel
theorem dX5_takeWaiting_24 : decode cX5_takeWaiting 24 = .ok (.iload_n 1, 1) := by decide +kernel
theorem dX5_takeWaiting_25 : decode cX5_takeWaiting 25 = .ok (.imul, 1) := by decide +kernel
theorem dX5_takeWaiting_26 : decode cX5_takeWaiting 26 = .ok (.aload_n 0, 1) := by decide +kernel
theorem dX5_takeWaiting_27 : decode cX5_takeWaiting 27 = .ok (.getfield 15, 3) := by decide +kernel
theorem dX5_takeWaiting_30 : decode cX5_takeWaiting 30 = .ok (.iload_n 1, 1) := by decide +kernel
theorem dX5_takeWaiting_31 : decode cX5_takeWaiting 31 = .ok (.laload, 1) := by decide +kernel
theorem dX5_takeWaiting_32 : decode cX5_takeWaiting 32 = .ok (.invokestatic 52, 3) := by decide +kernel
theorem dX5_takeWaiting_35 : decode cX5_takeWaiting 35 = .ok (.iadd, 1) := by decide +kernel
theorem dX5_takeWaiting_36 : decode cX5_takeWaiting 36 = .ok (.istore_n 2, 1) := by decide +kernel
theorem dX5_takeWaiting_37 : decode cX5_takeWaiting 37 = .ok (.aload_n 0, 1) := by decide +kernel
theorem dX5_takeWaiting_38 : decode cX5_takeWaiting 38 = .ok (.getfield 15, 3) := by decide +kernel
theorem dX5_takeWaiting_41 : decode cX5_takeWaiting 41 = .ok (.iload_n 1, 1) := by decide +kernel
theorem dX5_takeWaiting_42 : decode cX5_takeWaiting 42 = .ok (.dup2, 1) := by decide +kernel
theorem dX5_takeWaiting_43 : decode cX5_takeWaiting 43 = .ok (.laload, 1) := by decide +kernel
theorem dX5_takeWaiting_44 : decode cX5_takeWaiting 44 = .ok (.aload_n 0, 1) := by decide +kernel
theorem dX5_takeWaiting_45 : decode cX5_takeWaiting 45 = .ok (.getfield 15, 3) := by decide +kernel
theorem dX5_takeWaiting_48 : decode cX5_takeWaiting 48 = .ok (.iload_n 1, 1) := by decide +kernel
theorem dX5_takeWaiting_49 : decode cX5_takeWaiting 49 = .ok (.laload, 1) := by decide +kernel
theorem dX5_takeWaiting_50 : decode cX5_takeWaiting 50 = .ok (.lconst 1, 1) := by decide +kernel
theorem dX5_takeWaiting_51 : decode cX5_takeWaiting 51 = .ok (.lsub, 1) := by decide +kernel
theorem dX5_takeWaiting_52 : decode cX5_takeWaiting 52 = .ok (.land, 1) := by decide +kernel
theorem dX5_takeWaiting_53 : decode cX5_takeWaiting 53 = .ok (.lastore, 1) := by decide +kernel
theorem dX5_takeWaiting_54 : decode cX5_takeWaiting 54 = .ok (.iload_n 2, 1) := by decide +kernel
theorem dX5_takeWaiting_55 : decode cX5_takeWaiting 55 = .ok (.ireturn, 1) := by decide +kernel
theorem dX5_takeWaiting_56 : decode cX5_takeWaiting 56 = .ok (.iinc 1 1, 3) := by decide +kernel
theorem dX5_takeWaiting_59 : decode cX5_takeWaiting 59 = .ok (.goto (-57), 3) := by decide +kernel
theorem dX5_takeWaiting_62 : decode cX5_takeWaiting 62 = .ok (.iconst (-1), 1) := by decide +kernel
theorem dX5_takeWaiting_63 : decode cX5_takeWaiting 63 = .ok (.ireturn, 1) := by decide +kernel
theorem dX6_init_0 : decode cX6_init 0 = .ok (.aload_n 0, 1) := by decide +kernel
theorem dX6_init_1 : decode cX6_init 1 = .ok (.invokespecial 1, 3) := by decide +kernel
theorem dX6_init_4 : decode cX6_init 4 = .ok (.aload_n 0, 1) := by decide +kernel
theorem dX6_init_5 : decode cX6_init 5 = .ok (.lload_n 1, 1) := by decide +kernel
theorem dX6_init_6 : decode cX6_init 6 = .ok (.putfield 7, 3) := by decide +kernel
theorem dX6_init_9 : decode cX6_init 9 = .ok (.aload_n 0, 1) := by decide +kernel
theorem dX6_init_10 : decode cX6_init 10 = .ok (.lload_n 3, 1) := by decide +kernel
theorem dX6_init_11 : decode cX6_init 11 = .ok (.putfield 13, 3) := by decide +kernel
theorem dX6_init_14 : decode cX6_init 14 = .ok (.aload_n 0, 1) := by decide +kernel
theorem dX6_init_15 : decode cX6_init 15 = .ok (.lload 5, 2) := by decide +kernel
theorem dX6_init_17 : decode cX6_init 17 = .ok (.putfield 16, 3) := by decide +kernel
theorem dX6_init_20 : decode cX6_init 20 = .ok (.aload_n 0, 1) := by decide +kernel
theorem dX6_init_21 : decode cX6_init 21 = .ok (.lload 7, 2) := by decide +kernel
theorem dX6_init_23 : decode cX6_init 23 = .ok (.putfield 19, 3) := by decide +kernel
theorem dX6_init_26 : decode cX6_init 26 = .ok (.return_, 1) := by decide +kernel
set_option maxRecDepth 20000 in
theorem ggX6_undone_X6_init : GoodIn wsX6_undone wsX6_init := goodIn_r _ [10, 11, 12, 13, 7, 5, 6, 4, 14, 15, 16, 17] (by decide +kernel) (by decide +kernel)
set_option maxRecDepth 20000 in
theorem gX6_undone_X6_init : GoodIn wsX6_undone (wsX6_init) := ggX6_undone_X6_init
theorem dX6_undone_0 : decode cX6_undone 0 = .ok (.new 8, 3) := by decide +kernel
theorem dX6_undone_3 : decode cX6_undone 3 = .ok (.dup, 1) := by decide +kernel
theorem dX6_undone_4 : decode cX6_undone 4 = .ok (.aload_n 0, 1) := by decide +kernel
theorem dX6_undone_5 : decode cX6_undone 5 = .ok (.getfield 19, 3) := by decide +kernel
theorem dX6_undone_8 : decode cX6_undone 8 = .ok (.aload_n 0, 1) := by decide +kernel
theorem dX6_undone_9 : decode cX6_undone 9 = .ok (.getfield 13, 3) := by decide +kernel
theorem dX6_undone_12 : decode cX6_undone 12 = .ok (.lneg, 1) := by decide +kernel
theorem dX6_undone_13 : decode cX6_undone 13 = .ok (.aload_n 0, 1) := by decide +kernel
theorem dX6_undone_14 : decode cX6_undone 14 = .ok (.getfield 16, 3) := by decide +kernel
theorem dX6_undone_17 : decode cX6_undone 17 = .ok (.lneg, 1) := by decide +kernel
theorem dX6_undone_18 : decode cX6_undone 18 = .ok (.aload_n 0, 1) := by decide +kernel
theorem dX6_undone_19 : decode cX6_undone 19 = .ok (.getfield 7, 3) := by decide +kernel
theorem dX6_undone_22 : decode cX6_undone 22 = .ok (.invokespecial 22, 3) := by decide +kernel
theorem dX6_undone_25 : decode cX6_undone 25 = .ok (.areturn, 1) := by decide +kernel
set_option maxRecDepth 20000 in
theorem ggX6_times_X6_init : GoodIn wsX6_times wsX6_init := goodIn_r _ [10, 11, 12, 13, 4, 5, 6, 7, 14, 15, 16, 17] (by decide +kernel) (by decide +kernel)
set_option maxRecDepth 20000 in
theorem gX6_times_X6_init : GoodIn wsX6_times (wsX6_init) := ggX6_times_X6_init
theorem dX6_times_0 : decode cX6_times 0 = .ok (.new 8, 3) := by decide +kernel
theorem dX6_times_3 : decode cX6_times 3 = .ok (.dup, 1) := by decide +kernel
theorem dX6_times_4 : decode cX6_times 4 = .ok (.aload_n 0, 1) := by decide +kernel
theorem dX6_times_5 : decode cX6_times 5 = .ok (.getfield 7, 3) := by decide +kernel
theorem dX6_times_8 : decode cX6_times 8 = .ok (.aload_n 1, 1) := by decide +kernel
theorem dX6_times_9 : decode cX6_times 9 = .ok (.getfield 7, 3) := by decide +kernel
theorem dX6_times_12 : decode cX6_times 12 = .ok (.lmul, 1) := by decide +kernel
theorem dX6_times_13 : decode cX6_times 13 = .ok (.aload_n 0, 1) := by decide +kernel
