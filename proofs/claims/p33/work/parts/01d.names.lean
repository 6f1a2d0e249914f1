theorem dX6_times_14 : decode cX6_times 14 = .ok (.getfield 13, 3) := by decide +kernel
theorem dX6_times_17 : decode cX6_times 17 = .ok (.aload_n 1, 1) := by decide +kernel
theorem dX6_times_18 : decode cX6_times 18 = .ok (.getfield 16, 3) := by decide +kernel
theorem dX6_times_21 : decode cX6_times 21 = .ok (.lmul, 1) := by decide +kernel
theorem dX6_times_22 : decode cX6_times 22 = .ok (.ladd, 1) := by decide +kernel
theorem dX6_times_23 : decode cX6_times 23 = .ok (.aload_n 0, 1) := by decide +kernel
theorem dX6_times_24 : decode cX6_times 24 = .ok (.getfield 7, 3) := by decide +kernel
theorem dX6_times_27 : decode cX6_times 27 = .ok (.aload_n 1, 1) := by decide +kernel
theorem dX6_times_28 : decode cX6_times 28 = .ok (.getfield 13, 3) := by decide +kernel
theorem dX6_times_31 : decode cX6_times 31 = .ok (.lmul, 1) := by decide +kernel
theorem dX6_times_32 : decode cX6_times 32 = .ok (.aload_n 0, 1) := by decide +kernel
theorem dX6_times_33 : decode cX6_times 33 = .ok (.getfield 13, 3) := by decide +kernel
theorem dX6_times_36 : decode cX6_times 36 = .ok (.aload_n 1, 1) := by decide +kernel
theorem dX6_times_37 : decode cX6_times 37 = .ok (.getfield 19, 3) := by decide +kernel
theorem dX6_times_40 : decode cX6_times 40 = .ok (.lmul, 1) := by decide +kernel
theorem dX6_times_41 : decode cX6_times 41 = .ok (.ladd, 1) := by decide +kernel
theorem dX6_times_42 : decode cX6_times 42 = .ok (.aload_n 0, 1) := by decide +kernel
theorem dX6_times_43 : decode cX6_times 43 = .ok (.getfield 16, 3) := by decide +kernel
theorem dX6_times_46 : decode cX6_times 46 = .ok (.aload_n 1, 1) := by decide +kernel
theorem dX6_times_47 : decode cX6_times 47 = .ok (.getfield 7, 3) := by decide +kernel
theorem dX6_times_50 : decode cX6_times 50 = .ok (.lmul, 1) := by decide +kernel
theorem dX6_times_51 : decode cX6_times 51 = .ok (.aload_n 0, 1) := by decide +kernel
theorem dX6_times_52 : decode cX6_times 52 = .ok (.getfield 19, 3) := by decide +kernel
theorem dX6_times_55 : decode cX6_times 55 = .ok (.aload_n 1, 1) := by decide +kernel
theorem dX6_times_56 : decode cX6_times 56 = .ok (.getfield 16, 3) := by decide +kernel
theorem dX6_times_59 : decode cX6_times 59 = .ok (.lmul, 1) := by decide +kernel
theorem dX6_times_60 : decode cX6_times 60 = .ok (.ladd, 1) := by decide +kernel
theorem dX6_times_61 : decode cX6_times 61 = .ok (.aload_n 0, 1) := by decide +kernel
theorem dX6_times_62 : decode cX6_times 62 = .ok (.getfield 16, 3) := by decide +kernel
theorem dX6_times_65 : decode cX6_times 65 = .ok (.aload_n 1, 1) := by decide +kernel
theorem dX6_times_66 : decode cX6_times 66 = .ok (.getfield 13, 3) := by decide +kernel
theorem dX6_times_69 : decode cX6_times 69 = .ok (.lmul, 1) := by decide +kernel
theorem dX6_times_70 : decode cX6_times 70 = .ok (.aload_n 0, 1) := by decide +kernel
theorem dX6_times_71 : decode cX6_times 71 = .ok (.getfield 19, 3) := by decide +kernel
theorem dX6_times_74 : decode cX6_times 74 = .ok (.aload_n 1, 1) := by decide +kernel
theorem dX6_times_75 : decode cX6_times 75 = .ok (.getfield 19, 3) := by decide +kernel
theorem dX6_times_78 : decode cX6_times 78 = .ok (.lmul, 1) := by decide +kernel
theorem dX6_times_79 : decode cX6_times 79 = .ok (.ladd, 1) := by decide +kernel
theorem dX6_times_80 : decode cX6_times 80 = .ok (.invokespecial 22, 3) := by decide +kernel
theorem dX6_times_83 : decode cX6_times 83 = .ok (.areturn, 1) := by decide +kernel
set_option maxRecDepth 20000 in
theorem ggX6_isWhollyWithin_X8_isWithin : GoodIn wsX6_isWhollyWithin wsX8_isWithin := goodIn_r _ [7] (by decide +kernel) (by decide +kernel)
set_option maxRecDepth 20000 in
theorem gX6_isWhollyWithin_X8_isWithin_n25 : GoodIn wsX6_isWhollyWithin (wsX8_isWithin) := ggX6_isWhollyWithin_X8_isWithin
theorem dX6_isWhollyWithin_0 : decode cX6_isWhollyWithin 0 = .ok (.aload_n 0, 1) := by decide +kernel
theorem dX6_isWhollyWithin_1 : decode cX6_isWhollyWithin 1 = .ok (.getfield 7, 3) := by decide +kernel
theorem dX6_isWhollyWithin_4 : decode cX6_isWhollyWithin 4 = .ok (.lload_n 1, 1) := by decide +kernel
theorem dX6_isWhollyWithin_5 : decode cX6_isWhollyWithin 5 = .ok (.invokestatic 25, 3) := by decide +kernel
theorem dX6_isWhollyWithin_8 : decode cX6_isWhollyWithin 8 = .ok (.ifCond .eq 40, 3) := by decide +kernel
theorem dX6_isWhollyWithin_11 : decode cX6_isWhollyWithin 11 = .ok (.aload_n 0, 1) := by decide +kernel
theorem dX6_isWhollyWithin_12 : decode cX6_isWhollyWithin 12 = .ok (.getfield 13, 3) := by decide +kernel
theorem dX6_isWhollyWithin_15 : decode cX6_isWhollyWithin 15 = .ok (.lload_n 1, 1) := by decide +kernel
theorem dX6_isWhollyWithin_16 : decode cX6_isWhollyWithin 16 = .ok (.invokestatic 25, 3) := by decide +kernel
theorem dX6_isWhollyWithin_19 : decode cX6_isWhollyWithin 19 = .ok (.ifCond .eq 29, 3) := by decide +kernel
theorem dX6_isWhollyWithin_22 : decode cX6_isWhollyWithin 22 = .ok (.aload_n 0, 1) := by decide +kernel
theorem dX6_isWhollyWithin_23 : decode cX6_isWhollyWithin 23 = .ok (.getfield 16, 3) := by decide +kernel
theorem dX6_isWhollyWithin_26 : decode cX6_isWhollyWithin 26 = .ok (.lload_n 1, 1) := by decide +kernel
theorem dX6_isWhollyWithin_27 : decode cX6_isWhollyWithin 27 = .ok (.invokestatic 25, 3) := by decide +kernel
theorem dX6_isWhollyWithin_30 : decode cX6_isWhollyWithin 30 = .ok (.ifCond .eq 18, 3) := by decide +kernel
theorem dX6_isWhollyWithin_33 : decode cX6_isWhollyWithin 33 = .ok (.aload_n 0, 1) := by decide +kernel
theorem dX6_isWhollyWithin_34 : decode cX6_isWhollyWithin 34 = .ok (.getfield 19, 3) := by decide +kernel
theorem dX6_isWhollyWithin_37 : decode cX6_isWhollyWithin 37 = .ok (.lload_n 1, 1) := by decide +kernel
theorem dX6_isWhollyWithin_38 : decode cX6_isWhollyWithin 38 = .ok (.invokestatic 25, 3) := by decide +kernel
theorem dX6_isWhollyWithin_41 : decode cX6_isWhollyWithin 41 = .ok (.ifCond .eq 7, 3) := by decide +kernel
theorem dX6_isWhollyWithin_44 : decode cX6_isWhollyWithin 44 = .ok (.iconst 1, 1) := by decide +kernel
theorem dX6_isWhollyWithin_45 : decode cX6_isWhollyWithin 45 = .ok (.goto 4, 3) := by decide +kernel
theorem dX6_isWhollyWithin_48 : decode cX6_isWhollyWithin 48 = .ok (.iconst 0, 1) := by decide +kernel
theorem dX6_isWhollyWithin_49 : decode cX6_isWhollyWithin 49 = .ok (.ireturn, 1) := by decide +kernel
theorem dX6_trace_0 : decode cX6_trace 0 = .ok (.aload_n 0, 1) := by decide +kernel
theorem dX6_trace_1 : decode cX6_trace 1 = .ok (.getfield 7, 3) := by decide +kernel
theorem dX6_trace_4 : decode cX6_trace 4 = .ok (.aload_n 0, 1) := by decide +kernel
theorem dX6_trace_5 : decode cX6_trace 5 = .ok (.getfield 19, 3) := by decide +kernel
theorem dX6_trace_8 : decode cX6_trace 8 = .ok (.ladd, 1) := by decide +kernel
theorem dX6_trace_9 : decode cX6_trace 9 = .ok (.lreturn, 1) := by decide +kernel
set_option maxRecDepth 20000 in
theorem ggX6_kind_X6_trace : GoodIn wsX6_kind wsX6_trace := goodIn_r _ [14, 3, 4, 15, 16, 17, 18] (by decide +kernel) (by decide +kernel)
set_option maxRecDepth 20000 in
theorem gX6_kind_X6_trace : GoodIn wsX6_kind (wsV RX6 31 RX6 yX6_trace wsX6_trace) := goodIn_app (goodIn_of _ (by decide +kernel)) ggX6_kind_X6_trace
theorem dX6_kind_0 : decode cX6_kind 0 = .ok (.aload_n 0, 1) := by decide +kernel
theorem dX6_kind_1 : decode cX6_kind 1 = .ok (.getfield 13, 3) := by decide +kernel
theorem dX6_kind_4 : decode cX6_kind 4 = .ok (.lconst 0, 1) := by decide +kernel
theorem dX6_kind_5 : decode cX6_kind 5 = .ok (.lcmp, 1) := by decide +kernel
theorem dX6_kind_6 : decode cX6_kind 6 = .ok (.ifCond .ne 26, 3) := by decide +kernel
theorem dX6_kind_9 : decode cX6_kind 9 = .ok (.aload_n 0, 1) := by decide +kernel
theorem dX6_kind_10 : decode cX6_kind 10 = .ok (.getfield 16, 3) := by decide +kernel
theorem dX6_kind_13 : decode cX6_kind 13 = .ok (.lconst 0, 1) := by decide +kernel
theorem dX6_kind_14 : decode cX6_kind 14 = .ok (.lcmp, 1) := by decide +kernel
theorem dX6_kind_15 : decode cX6_kind 15 = .ok (.ifCond .ne 17, 3) := by decide +kernel
theorem dX6_kind_18 : decode cX6_kind 18 = .ok (.aload_n 0, 1) := by decide +kernel
theorem dX6_kind_19 : decode cX6_kind 19 = .ok (.getfield 7, 3) := by decide +kernel
theorem dX6_kind_22 : decode cX6_kind 22 = .ok (.aload_n 0, 1) := by decide +kernel
theorem dX6_kind_23 : decode cX6_kind 23 = .ok (.getfield 19, 3) := by decide +kernel
theorem dX6_kind_26 : decode cX6_kind 26 = .ok (.lcmp, 1) := by decide +kernel
theorem dX6_kind_27 : decode cX6_kind 27 = .ok (.ifCond .ne 5, 3) := by decide +kernel
theorem dX6_kind_30 : decode cX6_kind 30 = .ok (.iconst 0, 1) := by decide +kernel
theorem dX6_kind_31 : decode cX6_kind 31 = .ok (.ireturn, 1) := by decide +kernel
theorem dX6_kind_32 : decode cX6_kind 32 = .ok (.aload_n 0, 1) := by decide +kernel
theorem dX6_kind_33 : decode cX6_kind 33 = .ok (.invokevirtual 31, 3) := by decide +kernel
theorem dX6_kind_36 : decode cX6_kind 36 = .ok (.invokestatic 35, 3) := by decide +kernel
theorem dX6_kind_39 : decode cX6_kind 39 = .ok (.lstore_n 1, 1) := by decide +kernel
theorem dX6_kind_40 : decode cX6_kind 40 = .ok (.lload_n 1, 1) := by decide +kernel
theorem dX6_kind_41 : decode cX6_kind 41 = .ok (.lconst 1, 1) := by decide +kernel
theorem dX6_kind_42 : decode cX6_kind 42 = .ok (.lcmp, 1) := by decide +kernel
theorem dX6_kind_43 : decode cX6_kind 43 = .ok (.ifCond .gt 5, 3) := by decide +kernel
theorem dX6_kind_46 : decode cX6_kind 46 = .ok (.iconst 1, 1) := by decide +kernel
theorem dX6_kind_47 : decode cX6_kind 47 = .ok (.ireturn, 1) := by decide +kernel
theorem dX6_kind_48 : decode cX6_kind 48 = .ok (.lload_n 1, 1) := by decide +kernel
theorem dX6_kind_49 : decode cX6_kind 49 = .ok (.ldc2_w 41, 3) := by decide +kernel
theorem dX6_kind_52 : decode cX6_kind 52 = .ok (.lcmp, 1) := by decide +kernel
theorem dX6_kind_53 : decode cX6_kind 53 = .ok (.ifCond .ne 7, 3) := by decide +kernel
theorem dX6_kind_56 : decode cX6_kind 56 = .ok (.iconst 2, 1) := by decide +kernel
theorem dX6_kind_57 : decode cX6_kind 57 = .ok (.goto 4, 3) := by decide +kernel
theorem dX6_kind_60 : decode cX6_kind 60 = .ok (.iconst 3, 1) := by decide +kernel
theorem dX6_kind_61 : decode cX6_kind 61 = .ok (.ireturn, 1) := by decide +kernel
theorem dX7_init_0 : decode cX7_init 0 = .ok (.aload_n 0, 1) := by decide +kernel
theorem dX7_init_1 : decode cX7_init 1 = .ok (.invokespecial 1, 3) := by decide +kernel
theorem dX7_init_4 : decode cX7_init 4 = .ok (.aload_n 0, 1) := by decide +kernel
theorem dX7_init_5 : decode cX7_init 5 = .ok (.iload_n 1, 1) := by decide +kernel
theorem dX7_init_6 : decode cX7_init 6 = .ok (.putfield 7, 3) := by decide +kernel
theorem dX7_init_9 : decode cX7_init 9 = .ok (.aload_n 0, 1) := by decide +kernel
theorem dX7_init_10 : decode cX7_init 10 = .ok (.iload_n 2, 1) := by decide +kernel
theorem dX7_init_11 : decode cX7_init 11 = .ok (.putfield 13, 3) := by decide +kernel
theorem dX7_init_14 : decode cX7_init 14 = .ok (.return_, 1) := by decide +kernel
set_option maxRecDepth 20000 in
theorem ggX8_init_X3_init : GoodIn wsX8_init wsX3_init := goodIn_r _ [27, 28, 2, 3, 29, 30, 31, 32, 33, 34, 35, 36, 37, 38, 39, 40, 41, 6, 42, 43, 44, 45, 46, 47, 48, 49, 50, 88, 89, 90, 91] (by decide +kernel) (by decide +kernel)
set_option maxRecDepth 20000 in
theorem gX8_init_X3_init_n9 : GoodIn wsX8_init (wsX3_init) := ggX8_init_X3_init
set_option maxRecDepth 20000 in
theorem ggX8_init_Jx4a65c_init_da8c8 : GoodIn wsX8_init wsJx4a65c_init_da8c8 := goodIn_r _ [53, 54, 55, 56, 57, 58, 59, 60, 61, 62, 63, 64, 65, 2, 3, 99, 100, 101] (by decide +kernel) (by decide +kernel)
set_option maxRecDepth 20000 in
theorem gX8_init_Jx4a65c_init_da8c8 : GoodIn wsX8_init (wsJx4a65c_init_da8c8) := ggX8_init_Jx4a65c_init_da8c8
set_option maxRecDepth 20000 in
theorem ggX8_init_X5_init : GoodIn wsX8_init wsX5_init := goodIn_r _ [67, 68, 2, 3, 69, 70, 71, 102, 103] (by decide +kernel) (by decide +kernel)
set_option maxRecDepth 20000 in
theorem gX8_init_X5_init_n28 : GoodIn wsX8_init (wsX5_init) := ggX8_init_X5_init
set_option maxRecDepth 20000 in
theorem ggX8_init_X6_init : GoodIn wsX8_init wsX6_init := goodIn_r _ [73, 74, 2, 3, 75, 76, 77, 78, 104, 105, 106, 107] (by decide +kernel) (by decide +kernel)
set_option maxRecDepth 20000 in
theorem gX8_init_X6_init_n38 : GoodIn wsX8_init (wsX6_init) := ggX8_init_X6_init
set_option maxRecDepth 20000 in
theorem ggX8_init_X4_init : GoodIn wsX8_init wsX4_init := goodIn_r _ [80, 81, 2, 3, 82, 9, 10, 83, 84, 69, 85, 86, 87, 52, 53, 54, 55, 56, 57, 58, 59, 60, 61, 62, 63, 64, 65, 99, 100, 101, 108, 109, 110] (by decide +kernel) (by decide +kernel)
set_option maxRecDepth 20000 in
theorem gX8_init_X4_init_n47 : GoodIn wsX8_init (wsX4_init) := ggX8_init_X4_init
theorem dX8_init_0 : decode cX8_init 0 = .ok (.aload_n 0, 1) := by decide +kernel
theorem dX8_init_1 : decode cX8_init 1 = .ok (.invokespecial 1, 3) := by decide +kernel
theorem dX8_init_4 : decode cX8_init 4 = .ok (.aload_n 0, 1) := by decide +kernel
theorem dX8_init_5 : decode cX8_init 5 = .ok (.new 7, 3) := by decide +kernel
theorem dX8_init_8 : decode cX8_init 8 = .ok (.dup, 1) := by decide +kernel
theorem dX8_init_9 : decode cX8_init 9 = .ok (.invokespecial 9, 3) := by decide +kernel
theorem dX8_init_12 : decode cX8_init 12 = .ok (.putfield 10, 3) := by decide +kernel
theorem dX8_init_15 : decode cX8_init 15 = .ok (.aload_n 0, 1) := by decide +kernel
theorem dX8_init_16 : decode cX8_init 16 = .ok (.new 16, 3) := by decide +kernel
theorem dX8_init_19 : decode cX8_init 19 = .ok (.dup, 1) := by decide +kernel
theorem dX8_init_20 : decode cX8_init 20 = .ok (.invokespecial 18, 3) := by decide +kernel
theorem dX8_init_23 : decode cX8_init 23 = .ok (.putfield 19, 3) := by decide +kernel
theorem dX8_init_26 : decode cX8_init 26 = .ok (.aload_n 0, 1) := by decide +kernel
theorem dX8_init_27 : decode cX8_init 27 = .ok (.new 16, 3) := by decide +kernel
theorem dX8_init_30 : decode cX8_init 30 = .ok (.dup, 1) := by decide +kernel
theorem dX8_init_31 : decode cX8_init 31 = .ok (.invokespecial 18, 3) := by decide +kernel
theorem dX8_init_34 : decode cX8_init 34 = .ok (.putfield 23, 3) := by decide +kernel
theorem dX8_init_37 : decode cX8_init 37 = .ok (.aload_n 0, 1) := by decide +kernel
theorem dX8_init_38 : decode cX8_init 38 = .ok (.new 26, 3) := by decide +kernel
theorem dX8_init_41 : decode cX8_init 41 = .ok (.dup, 1) := by decide +kernel
theorem dX8_init_42 : decode cX8_init 42 = .ok (.invokespecial 28, 3) := by decide +kernel
theorem dX8_init_45 : decode cX8_init 45 = .ok (.putfield 29, 3) := by decide +kernel
theorem dX8_init_48 : decode cX8_init 48 = .ok (.aload_n 0, 1) := by decide +kernel
theorem dX8_init_49 : decode cX8_init 49 = .ok (.new 16, 3) := by decide +kernel
theorem dX8_init_52 : decode cX8_init 52 = .ok (.dup, 1) := by decide +kernel
theorem dX8_init_53 : decode cX8_init 53 = .ok (.invokespecial 18, 3) := by decide +kernel
theorem dX8_init_56 : decode cX8_init 56 = .ok (.putfield 33, 3) := by decide +kernel
theorem dX8_init_59 : decode cX8_init 59 = .ok (.aload_n 0, 1) := by decide +kernel
theorem dX8_init_60 : decode cX8_init 60 = .ok (.new 36, 3) := by decide +kernel
theorem dX8_init_63 : decode cX8_init 63 = .ok (.dup, 1) := by decide +kernel
theorem dX8_init_64 : decode cX8_init 64 = .ok (.lconst 1, 1) := by decide +kernel
theorem dX8_init_65 : decode cX8_init 65 = .ok (.lconst 0, 1) := by decide +kernel
theorem dX8_init_66 : decode cX8_init 66 = .ok (.lconst 0, 1) := by decide +kernel
theorem dX8_init_67 : decode cX8_init 67 = .ok (.lconst 1, 1) := by decide +kernel
theorem dX8_init_68 : decode cX8_init 68 = .ok (.invokespecial 38, 3) := by decide +kernel
theorem dX8_init_71 : decode cX8_init 71 = .ok (.putfield 41, 3) := by decide +kernel
theorem dX8_init_74 : decode cX8_init 74 = .ok (.aload_n 0, 1) := by decide +kernel
theorem dX8_init_75 : decode cX8_init 75 = .ok (.new 45, 3) := by decide +kernel
theorem dX8_init_78 : decode cX8_init 78 = .ok (.dup, 1) := by decide +kernel
theorem dX8_init_79 : decode cX8_init 79 = .ok (.invokespecial 47, 3) := by decide +kernel
theorem dX8_init_82 : decode cX8_init 82 = .ok (.putfield 48, 3) := by decide +kernel
theorem dX8_init_85 : decode cX8_init 85 = .ok (.return_, 1) := by decide +kernel
set_option maxRecDepth 20000 in
theorem ggX8_split_X3_hasFace : GoodIn wsX8_split wsX3_hasFace := goodIn_r _ [9, 10, 43, 44, 45, 46] (by decide +kernel) (by decide +kernel)
set_option maxRecDepth 20000 in
theorem gX8_split_X3_hasFace_n52 : GoodIn wsX8_split (wsX3_hasFace) := ggX8_split_X3_hasFace
set_option maxRecDepth 20000 in
theorem ggX8_split_X3_isFull : GoodIn wsX8_split wsX3_isFull := goodIn_r _ [13, 14, 43, 44, 45, 46] (by decide +kernel) (by decide +kernel)
set_option maxRecDepth 20000 in
theorem gX8_split_X3_isFull_n63 : GoodIn wsX8_split (wsX3_isFull) := ggX8_split_X3_isFull
set_option maxRecDepth 20000 in
theorem ggX8_split_X3_splitFace : GoodIn wsX8_split wsX3_splitFace := goodIn_r _ [17, 14, 10, 18, 19, 20, 7, 21, 22, 23, 24, 25, 26, 27, 28, 29, 30, 31, 32, 33, 34, 35, 43, 44, 45, 46] (by decide +kernel) (by decide +kernel)
set_option maxRecDepth 20000 in
theorem gX8_split_X3_splitFace_n72 : GoodIn wsX8_split (wsX3_splitFace) := ggX8_split_X3_splitFace
theorem dX8_split_0 : decode cX8_split 0 = .ok (.aload_n 0, 1) := by decide +kernel
theorem dX8_split_1 : decode cX8_split 1 = .ok (.getfield 10, 3) := by decide +kernel
theorem dX8_split_4 : decode cX8_split 4 = .ok (.iload_n 1, 1) := by decide +kernel
theorem dX8_split_5 : decode cX8_split 5 = .ok (.invokevirtual 52, 3) := by decide +kernel
theorem dX8_split_8 : decode cX8_split 8 = .ok (.ifCond .ne 13, 3) := by decide +kernel
theorem dX8_split_11 : decode cX8_split 11 = .ok (.new 56, 3) := by decide +kernel
theorem dX8_split_14 : decode cX8_split 14 = .ok (.dup, 1) := by decide +kernel
theorem dX8_split_15 : decode cX8_split 15 = .ok (.ldc 58, 2) := by decide +kernel
theorem dX8_split_17 : decode cX8_split 17 = .ok (.invokespecial 60, 3) := by decide +kernel
theorem dX8_split_20 : decode cX8_split 20 = .ok (.athrow, 1) := by decide +kernel
theorem dX8_split_21 : decode cX8_split 21 = .ok (.aload_n 0, 1) := by decide +kernel
theorem dX8_split_22 : decode cX8_split 22 = .ok (.getfield 10, 3) := by decide +kernel
theorem dX8_split_25 : decode cX8_split 25 = .ok (.invokevirtual 63, 3) := by decide +kernel
theorem dX8_split_28 : decode cX8_split 28 = .ok (.ifCond .eq 13, 3) := by decide +kernel
theorem dX8_split_31 : decode cX8_split 31 = .ok (.new 67, 3) := by decide +kernel
theorem dX8_split_34 : decode cX8_split 34 = .ok (.dup, 1) := by decide +kernel
theorem dX8_split_35 : decode cX8_split 35 = .ok (.ldc 69, 2) := by decide +kernel
theorem dX8_split_37 : decode cX8_split 37 = .ok (.invokespecial 71, 3) := by decide +kernel
theorem dX8_split_40 : decode cX8_split 40 = .ok (.athrow, 1) := by decide +kernel
theorem dX8_split_41 : decode cX8_split 41 = .ok (.aload_n 0, 1) := by decide +kernel
theorem dX8_split_42 : decode cX8_split 42 = .ok (.getfield 10, 3) := by decide +kernel
theorem dX8_split_45 : decode cX8_split 45 = .ok (.iload_n 1, 1) := by decide +kernel
theorem dX8_split_46 : decode cX8_split 46 = .ok (.invokevirtual 72, 3) := by decide +kernel
theorem dX8_split_49 : decode cX8_split 49 = .ok (.ireturn, 1) := by decide +kernel
set_option maxRecDepth 20000 in
theorem ggX8_flip_X3_hasCorner : GoodIn wsX8_flip wsX3_hasCorner := goodIn_r _ [9, 10, 59, 60, 61, 62] (by decide +kernel) (by decide +kernel)
set_option maxRecDepth 20000 in
theorem gX8_flip_X3_hasCorner_n76 : GoodIn wsX8_flip (wsX3_hasCorner) := ggX8_flip_X3_hasCorner
set_option maxRecDepth 20000 in
theorem ggX8_flip_X3_canFlip : GoodIn wsX8_flip wsX3_canFlip := goodIn_r _ [13, 14, 15, 16, 7, 17, 18, 19, 20, 21, 22, 23, 6, 8, 9, 10, 59, 60, 61, 62] (by decide +kernel) (by decide +kernel)
set_option maxRecDepth 20000 in
theorem gX8_flip_X3_canFlip_n81 : GoodIn wsX8_flip (wsX3_canFlip) := ggX8_flip_X3_canFlip
set_option maxRecDepth 20000 in
theorem ggX8_flip_X3_flipEdge : GoodIn wsX8_flip wsX3_flipEdge := goodIn_r _ [26, 27, 28, 29, 30, 31, 32, 33, 18, 19, 20, 7, 21, 22, 23, 6, 8, 9, 10, 34, 35, 36, 37, 38, 39, 40, 41, 42, 43, 44, 45, 46, 47, 48, 49, 50, 51, 59, 60, 61, 62] (by decide +kernel) (by decide +kernel)
set_option maxRecDepth 20000 in
theorem gX8_flip_X3_flipEdge_n87 : GoodIn wsX8_flip (wsX3_flipEdge) := ggX8_flip_X3_flipEdge
theorem dX8_flip_0 : decode cX8_flip 0 = .ok (.aload_n 0, 1) := by decide +kernel
theorem dX8_flip_1 : decode cX8_flip 1 = .ok (.getfield 10, 3) := by decide +kernel
theorem dX8_flip_4 : decode cX8_flip 4 = .ok (.iload_n 1, 1) := by decide +kernel
theorem dX8_flip_5 : decode cX8_flip 5 = .ok (.invokevirtual 76, 3) := by decide +kernel
theorem dX8_flip_8 : decode cX8_flip 8 = .ok (.ifCond .eq 14, 3) := by decide +kernel
theorem dX8_flip_11 : decode cX8_flip 11 = .ok (.aload_n 0, 1) := by decide +kernel
theorem dX8_flip_12 : decode cX8_flip 12 = .ok (.getfield 10, 3) := by decide +kernel
theorem dX8_flip_15 : decode cX8_flip 15 = .ok (.iload_n 2, 1) := by decide +kernel
theorem dX8_flip_16 : decode cX8_flip 16 = .ok (.invokevirtual 76, 3) := by decide +kernel
theorem dX8_flip_19 : decode cX8_flip 19 = .ok (.ifCond .ne 13, 3) := by decide +kernel
theorem dX8_flip_22 : decode cX8_flip 22 = .ok (.new 56, 3) := by decide +kernel
theorem dX8_flip_25 : decode cX8_flip 25 = .ok (.dup, 1) := by decide +kernel
theorem dX8_flip_26 : decode cX8_flip 26 = .ok (.ldc 79, 2) := by decide +kernel
theorem dX8_flip_28 : decode cX8_flip 28 = .ok (.invokespecial 60, 3) := by decide +kernel
theorem dX8_flip_31 : decode cX8_flip 31 = .ok (.athrow, 1) := by decide +kernel
theorem dX8_flip_32 : decode cX8_flip 32 = .ok (.aload_n 0, 1) := by decide +kernel
theorem dX8_flip_33 : decode cX8_flip 33 = .ok (.getfield 10, 3) := by decide +kernel
theorem dX8_flip_36 : decode cX8_flip 36 = .ok (.iload_n 1, 1) := by decide +kernel
theorem dX8_flip_37 : decode cX8_flip 37 = .ok (.iload_n 2, 1) := by decide +kernel
theorem dX8_flip_38 : decode cX8_flip 38 = .ok (.invokevirtual 81, 3) := by decide +kernel
theorem dX8_flip_41 : decode cX8_flip 41 = .ok (.ifCond .ne 13, 3) := by decide +kernel
theorem dX8_flip_44 : decode cX8_flip 44 = .ok (.new 67, 3) := by decide +kernel
theorem dX8_flip_47 : decode cX8_flip 47 = .ok (.dup, 1) := by decide +kernel
theorem dX8_flip_48 : decode cX8_flip 48 = .ok (.ldc 85, 2) := by decide +kernel
theorem dX8_flip_50 : decode cX8_flip 50 = .ok (.invokespecial 71, 3) := by decide +kernel
theorem dX8_flip_53 : decode cX8_flip 53 = .ok (.athrow, 1) := by decide +kernel
theorem dX8_flip_54 : decode cX8_flip 54 = .ok (.aload_n 0, 1) := by decide +kernel
theorem dX8_flip_55 : decode cX8_flip 55 = .ok (.getfield 10, 3) := by decide +kernel
theorem dX8_flip_58 : decode cX8_flip 58 = .ok (.iload_n 1, 1) := by decide +kernel
theorem dX8_flip_59 : decode cX8_flip 59 = .ok (.iload_n 2, 1) := by decide +kernel
theorem dX8_flip_60 : decode cX8_flip 60 = .ok (.invokevirtual 87, 3) := by decide +kernel
theorem dX8_flip_63 : decode cX8_flip 63 = .ok (.ireturn, 1) := by decide +kernel
set_option maxRecDepth 20000 in
theorem ggX8_corner_X3_hasFace : GoodIn wsX8_corner wsX3_hasFace := goodIn_r _ [7, 8, 20, 21, 22, 23] (by decide +kernel) (by decide +kernel)
set_option maxRecDepth 20000 in
theorem gX8_corner_X3_hasFace_n52 : GoodIn wsX8_corner (wsX3_hasFace) := ggX8_corner_X3_hasFace
set_option maxRecDepth 20000 in
theorem ggX8_corner_X3_cornerOf : GoodIn wsX8_corner wsX3_cornerOf := goodIn_r _ [11, 12, 20, 21, 22, 23] (by decide +kernel) (by decide +kernel)
set_option maxRecDepth 20000 in
theorem gX8_corner_X3_cornerOf_n93 : GoodIn wsX8_corner (wsX3_cornerOf) := ggX8_corner_X3_cornerOf
theorem dX8_corner_0 : decode cX8_corner 0 = .ok (.aload_n 0, 1) := by decide +kernel
theorem dX8_corner_1 : decode cX8_corner 1 = .ok (.getfield 10, 3) := by decide +kernel
theorem dX8_corner_4 : decode cX8_corner 4 = .ok (.iload_n 1, 1) := by decide +kernel
theorem dX8_corner_5 : decode cX8_corner 5 = .ok (.invokevirtual 52, 3) := by decide +kernel
theorem dX8_corner_8 : decode cX8_corner 8 = .ok (.ifCond .eq 12, 3) := by decide +kernel
theorem dX8_corner_11 : decode cX8_corner 11 = .ok (.iload_n 2, 1) := by decide +kernel
theorem dX8_corner_12 : decode cX8_corner 12 = .ok (.ifCond .lt 8, 3) := by decide +kernel
theorem dX8_corner_15 : decode cX8_corner 15 = .ok (.iload_n 2, 1) := by decide +kernel
theorem dX8_corner_16 : decode cX8_corner 16 = .ok (.iconst 2, 1) := by decide +kernel
theorem dX8_corner_17 : decode cX8_corner 17 = .ok (.if_icmp .le 13, 3) := by decide +kernel
theorem dX8_corner_20 : decode cX8_corner 20 = .ok (.new 56, 3) := by decide +kernel
theorem dX8_corner_23 : decode cX8_corner 23 = .ok (.dup, 1) := by decide +kernel
theorem dX8_corner_24 : decode cX8_corner 24 = .ok (.ldc 91, 2) := by decide +kernel
theorem dX8_corner_26 : decode cX8_corner 26 = .ok (.invokespecial 60, 3) := by decide +kernel
theorem dX8_corner_29 : decode cX8_corner 29 = .ok (.athrow, 1) := by decide +kernel
theorem dX8_corner_30 : decode cX8_corner 30 = .ok (.aload_n 0, 1) := by decide +kernel
theorem dX8_corner_31 : decode cX8_corner 31 = .ok (.getfield 10, 3) := by decide +kernel
theorem dX8_corner_34 : decode cX8_corner 34 = .ok (.iload_n 1, 1) := by decide +kernel
theorem dX8_corner_35 : decode cX8_corner 35 = .ok (.iload_n 2, 1) := by decide +kernel
theorem dX8_corner_36 : decode cX8_corner 36 = .ok (.invokevirtual 93, 3) := by decide +kernel
theorem dX8_corner_39 : decode cX8_corner 39 = .ok (.ireturn, 1) := by decide +kernel
set_option maxRecDepth 20000 in
theorem ggX8_around_X3_hasCorner : GoodIn wsX8_around wsX3_hasCorner := goodIn_r _ [7, 8, 33, 34, 35, 36] (by decide +kernel) (by decide +kernel)
set_option maxRecDepth 20000 in
theorem gX8_around_X3_hasCorner_n76 : GoodIn wsX8_around (wsX3_hasCorner) := ggX8_around_X3_hasCorner
set_option maxRecDepth 20000 in
theorem ggX8_around_X3_neighbourAt : GoodIn wsX8_around wsX3_neighbourAt := goodIn_r _ [11, 12, 13, 14, 5, 15, 8, 16, 17, 18, 19, 20, 21, 22, 23, 24, 25, 4, 6, 7, 33, 34, 35, 36] (by decide +kernel) (by decide +kernel)
set_option maxRecDepth 20000 in
theorem gX8_around_X3_neighbourAt_n98 : GoodIn wsX8_around (wsX3_neighbourAt) := ggX8_around_X3_neighbourAt
theorem dX8_around_0 : decode cX8_around 0 = .ok (.aload_n 0, 1) := by decide +kernel
theorem dX8_around_1 : decode cX8_around 1 = .ok (.getfield 10, 3) := by decide +kernel
theorem dX8_around_4 : decode cX8_around 4 = .ok (.iload_n 1, 1) := by decide +kernel
theorem dX8_around_5 : decode cX8_around 5 = .ok (.invokevirtual 76, 3) := by decide +kernel
theorem dX8_around_8 : decode cX8_around 8 = .ok (.ifCond .eq 7, 3) := by decide +kernel
theorem dX8_around_11 : decode cX8_around 11 = .ok (.iload_n 2, 1) := by decide +kernel
theorem dX8_around_12 : decode cX8_around 12 = .ok (.ifCond .ge 13, 3) := by decide +kernel
theorem dX8_around_15 : decode cX8_around 15 = .ok (.new 56, 3) := by decide +kernel
theorem dX8_around_18 : decode cX8_around 18 = .ok (.dup, 1) := by decide +kernel
theorem dX8_around_19 : decode cX8_around 19 = .ok (.ldc 96, 2) := by decide +kernel
theorem dX8_around_21 : decode cX8_around 21 = .ok (.invokespecial 60, 3) := by decide +kernel
theorem dX8_around_24 : decode cX8_around 24 = .ok (.athrow, 1) := by decide +kernel
theorem dX8_around_25 : decode cX8_around 25 = .ok (.aload_n 0, 1) := by decide +kernel
theorem dX8_around_26 : decode cX8_around 26 = .ok (.getfield 10, 3) := by decide +kernel
theorem dX8_around_29 : decode cX8_around 29 = .ok (.iload_n 1, 1) := by decide +kernel
theorem dX8_around_30 : decode cX8_around 30 = .ok (.iload_n 2, 1) := by decide +kernel
theorem dX8_around_31 : decode cX8_around 31 = .ok (.invokevirtual 98, 3) := by decide +kernel
theorem dX8_around_34 : decode cX8_around 34 = .ok (.ireturn, 1) := by decide +kernel
set_option maxRecDepth 20000 in
theorem ggX8_net_X3_edgeCount : GoodIn wsX8_net wsX3_edgeCount := goodIn_r _ [7, 8, 49, 50, 51, 52] (by decide +kernel) (by decide +kernel)
set_option maxRecDepth 20000 in
theorem gX8_net_X3_edgeCount_n105 : GoodIn wsX8_net (wsX3_edgeCount) := ggX8_net_X3_edgeCount
set_option maxRecDepth 20000 in
theorem ggX8_net_X3_flippableCount : GoodIn wsX8_net wsX3_flippableCount := goodIn_r _ [11, 12, 13, 14, 15, 5, 16, 17, 18, 19, 20, 21, 22, 23, 24, 25, 26, 27, 28, 29, 49, 50, 51, 52] (by decide +kernel) (by decide +kernel)
set_option maxRecDepth 20000 in
theorem gX8_net_X3_flippableCount_n112 : GoodIn wsX8_net (wsX3_flippableCount) := ggX8_net_X3_flippableCount
set_option maxRecDepth 20000 in
theorem ggX8_net_X3_mostNeighbours : GoodIn wsX8_net wsX3_mostNeighbours := goodIn_r _ [32, 12, 33, 34, 35, 36, 37, 38, 39, 5, 40, 8, 41, 49, 50, 51, 52] (by decide +kernel) (by decide +kernel)
set_option maxRecDepth 20000 in
theorem gX8_net_X3_mostNeighbours_n115 : GoodIn wsX8_net (wsX3_mostNeighbours) := ggX8_net_X3_mostNeighbours
theorem dX8_net_0 : decode cX8_net 0 = .ok (.iload_n 1, 1) := by decide +kernel
theorem dX8_net_1 : decode cX8_net 1 = .ok (.tableswitch 75 0 4 #[35, 43, 51, 59, 67], 35) := by decide +kernel
theorem dX8_net_36 : decode cX8_net 36 = .ok (.aload_n 0, 1) := by decide +kernel
theorem dX8_net_37 : decode cX8_net 37 = .ok (.getfield 10, 3) := by decide +kernel
theorem dX8_net_40 : decode cX8_net 40 = .ok (.getfield 101, 3) := by decide +kernel
theorem dX8_net_43 : decode cX8_net 43 = .ok (.ireturn, 1) := by decide +kernel
theorem dX8_net_44 : decode cX8_net 44 = .ok (.aload_n 0, 1) := by decide +kernel
theorem dX8_net_45 : decode cX8_net 45 = .ok (.getfield 10, 3) := by decide +kernel
theorem dX8_net_48 : decode cX8_net 48 = .ok (.invokevirtual 105, 3) := by decide +kernel
theorem dX8_net_51 : decode cX8_net 51 = .ok (.ireturn, 1) := by decide +kernel
theorem dX8_net_52 : decode cX8_net 52 = .ok (.aload_n 0, 1) := by decide +kernel
theorem dX8_net_53 : decode cX8_net 53 = .ok (.getfield 10, 3) := by decide +kernel
theorem dX8_net_56 : decode cX8_net 56 = .ok (.getfield 109, 3) := by decide +kernel
theorem dX8_net_59 : decode cX8_net 59 = .ok (.ireturn, 1) := by decide +kernel
theorem dX8_net_60 : decode cX8_net 60 = .ok (.aload_n 0, 1) := by decide +kernel
theorem dX8_net_61 : decode cX8_net 61 = .ok (.getfield 10, 3) := by decide +kernel
theorem dX8_net_64 : decode cX8_net 64 = .ok (.invokevirtual 112, 3) := by decide +kernel
theorem dX8_net_67 : decode cX8_net 67 = .ok (.ireturn, 1) := by decide +kernel
theorem dX8_net_68 : decode cX8_net 68 = .ok (.aload_n 0, 1) := by decide +kernel
theorem dX8_net_69 : decode cX8_net 69 = .ok (.getfield 10, 3) := by decide +kernel
theorem dX8_net_72 : decode cX8_net 72 = .ok (.invokevirtual 115, 3) := by decide +kernel
theorem dX8_net_75 : decode cX8_net 75 = .ok (.ireturn, 1) := by decide +kernel
theorem dX8_net_76 : decode cX8_net 76 = .ok (.new 56, 3) := by decide +kernel
theorem dX8_net_79 : decode cX8_net 79 = .ok (.dup, 1) := by decide +kernel
theorem dX8_net_80 : decode cX8_net 80 = .ok (.ldc 118, 2) := by decide +kernel
theorem dX8_net_82 : decode cX8_net 82 = .ok (.invokespecial 60, 3) := by decide +kernel
theorem dX8_net_85 : decode cX8_net 85 = .ok (.athrow, 1) := by decide +kernel
set_option maxRecDepth 20000 in
theorem ggX8_disk_X8_isDisk : GoodIn wsX8_disk wsX8_isDisk := goodIn_r _ [12, 13, 14, 15, 16, 11, 17] (by decide +kernel) (by decide +kernel)
set_option maxRecDepth 20000 in
theorem gX8_disk_X8_isDisk : GoodIn wsX8_disk (va_wsS RX8 120 yX8_isDisk wsX8_isDisk) := goodIn_app (goodIn_of _ (by decide +kernel)) ggX8_disk_X8_isDisk
set_option maxRecDepth 20000 in
theorem ggX8_disk_Jx4a65c_size_8abf5 : GoodIn wsX8_disk wsJx4a65c_size_8abf5 := goodIn_r _ [22, 23, 96, 97, 98] (by decide +kernel) (by decide +kernel)
set_option maxRecDepth 20000 in
theorem gX8_disk_Jx4a65c_size_8abf5 : GoodIn wsX8_disk (wsV RX8 129 RJx4a65c yJx4a65c_size_8abf5 wsJx4a65c_size_8abf5) := goodIn_app (goodIn_of _ (by decide +kernel)) ggX8_disk_Jx4a65c_size_8abf5
set_option maxRecDepth 20000 in
theorem ggX8_disk_X0_init : GoodIn wsX8_disk wsX0_init := goodIn_r _ [25, 26, 27, 28, 29, 30, 31, 93, 94, 95] (by decide +kernel) (by decide +kernel)
set_option maxRecDepth 20000 in
theorem gX8_disk_X0_init_n136 : GoodIn wsX8_disk (wsX0_init) := ggX8_disk_X0_init
set_option maxRecDepth 20000 in
theorem ggX8_disk_Jx4a65c_add_9ea2d : GoodIn wsX8_disk wsJx4a65c_add_9ea2d := goodIn_r _ [35, 36, 37, 38, 23, 39, 40, 41, 21, 42, 43, 44, 45, 46, 47, 48, 49, 50, 51, 52, 53, 54, 55, 56, 57, 58, 59, 60, 61, 62, 63, 64, 65, 66, 67, 68, 69, 70, 71, 72, 73, 74, 75, 76, 77, 78, 79, 80, 81, 82, 83, 84, 85, 96, 97, 98] (by decide +kernel) (by decide +kernel)
set_option maxRecDepth 20000 in
theorem gX8_disk_Jx4a65c_add_9ea2d : GoodIn wsX8_disk (wsV RX8 139 RJx4a65c yJx4a65c_add_9ea2d wsJx4a65c_add_9ea2d) := goodIn_app (goodIn_of _ (by decide +kernel)) ggX8_disk_Jx4a65c_add_9ea2d
theorem dX8_disk_0 : decode cX8_disk 0 = .ok (.iload_n 1, 1) := by decide +kernel
theorem dX8_disk_1 : decode cX8_disk 1 = .ok (.iload_n 2, 1) := by decide +kernel
theorem dX8_disk_2 : decode cX8_disk 2 = .ok (.iload_n 3, 1) := by decide +kernel
theorem dX8_disk_3 : decode cX8_disk 3 = .ok (.invokestatic 120, 3) := by decide +kernel
theorem dX8_disk_6 : decode cX8_disk 6 = .ok (.ifCond .ne 13, 3) := by decide +kernel
theorem dX8_disk_9 : decode cX8_disk 9 = .ok (.new 124, 3) := by decide +kernel
theorem dX8_disk_12 : decode cX8_disk 12 = .ok (.dup, 1) := by decide +kernel
theorem dX8_disk_13 : decode cX8_disk 13 = .ok (.ldc 126, 2) := by decide +kernel
theorem dX8_disk_15 : decode cX8_disk 15 = .ok (.invokespecial 128, 3) := by decide +kernel
theorem dX8_disk_18 : decode cX8_disk 18 = .ok (.athrow, 1) := by decide +kernel
theorem dX8_disk_19 : decode cX8_disk 19 = .ok (.aload_n 0, 1) := by decide +kernel
theorem dX8_disk_20 : decode cX8_disk 20 = .ok (.getfield 19, 3) := by decide +kernel
theorem dX8_disk_23 : decode cX8_disk 23 = .ok (.invokevirtual 129, 3) := by decide +kernel
theorem dX8_disk_26 : decode cX8_disk 26 = .ok (.bipush 16, 2) := by decide +kernel
theorem dX8_disk_28 : decode cX8_disk 28 = .ok (.if_icmp .lt 13, 3) := by decide +kernel
theorem dX8_disk_31 : decode cX8_disk 31 = .ok (.new 67, 3) := by decide +kernel
theorem dX8_disk_34 : decode cX8_disk 34 = .ok (.dup, 1) := by decide +kernel
theorem dX8_disk_35 : decode cX8_disk 35 = .ok (.ldc 132, 2) := by decide +kernel
theorem dX8_disk_37 : decode cX8_disk 37 = .ok (.invokespecial 71, 3) := by decide +kernel
theorem dX8_disk_40 : decode cX8_disk 40 = .ok (.athrow, 1) := by decide +kernel
theorem dX8_disk_41 : decode cX8_disk 41 = .ok (.aload_n 0, 1) := by decide +kernel
theorem dX8_disk_42 : decode cX8_disk 42 = .ok (.getfield 19, 3) := by decide +kernel
theorem dX8_disk_45 : decode cX8_disk 45 = .ok (.new 134, 3) := by decide +kernel
theorem dX8_disk_48 : decode cX8_disk 48 = .ok (.dup, 1) := by decide +kernel
theorem dX8_disk_49 : decode cX8_disk 49 = .ok (.iload_n 1, 1) := by decide +kernel
theorem dX8_disk_50 : decode cX8_disk 50 = .ok (.i2l, 1) := by decide +kernel
theorem dX8_disk_51 : decode cX8_disk 51 = .ok (.iload_n 2, 1) := by decide +kernel
theorem dX8_disk_52 : decode cX8_disk 52 = .ok (.i2l, 1) := by decide +kernel
theorem dX8_disk_53 : decode cX8_disk 53 = .ok (.iload_n 3, 1) := by decide +kernel
theorem dX8_disk_54 : decode cX8_disk 54 = .ok (.i2l, 1) := by decide +kernel
theorem dX8_disk_55 : decode cX8_disk 55 = .ok (.invokespecial 136, 3) := by decide +kernel
theorem dX8_disk_58 : decode cX8_disk 58 = .ok (.invokevirtual 139, 3) := by decide +kernel
theorem dX8_disk_61 : decode cX8_disk 61 = .ok (.pop, 1) := by decide +kernel
theorem dX8_disk_62 : decode cX8_disk 62 = .ok (.aload_n 0, 1) := by decide +kernel
theorem dX8_disk_63 : decode cX8_disk 63 = .ok (.getfield 19, 3) := by decide +kernel
theorem dX8_disk_66 : decode cX8_disk 66 = .ok (.invokevirtual 129, 3) := by decide +kernel
theorem dX8_disk_69 : decode cX8_disk 69 = .ok (.iconst 1, 1) := by decide +kernel
theorem dX8_disk_70 : decode cX8_disk 70 = .ok (.isub, 1) := by decide +kernel
theorem dX8_disk_71 : decode cX8_disk 71 = .ok (.ireturn, 1) := by decide +kernel
set_option maxRecDepth 20000 in
theorem ggX8_move_X8_hasDisk : GoodIn wsX8_move wsX8_hasDisk := goodIn_r _ [14, 5, 15, 16, 17, 18, 19, 20, 58, 59, 60, 61, 62, 63, 64, 68, 69, 70] (by decide +kernel) (by decide +kernel)
set_option maxRecDepth 20000 in
theorem gX8_move_X8_hasDisk : GoodIn wsX8_move (wsV RX8 143 RX8 yX8_hasDisk wsX8_hasDisk) := goodIn_app (goodIn_of _ (by decide +kernel)) ggX8_move_X8_hasDisk
set_option maxRecDepth 20000 in
theorem ggX8_move_X8_isDisk : GoodIn wsX8_move wsX8_isDisk := goodIn_r _ [23, 24, 25, 26, 27, 13, 28] (by decide +kernel) (by decide +kernel)
set_option maxRecDepth 20000 in
theorem gX8_move_X8_isDisk : GoodIn wsX8_move (va_wsS RX8 120 yX8_isDisk wsX8_isDisk) := goodIn_app (goodIn_of _ (by decide +kernel)) ggX8_move_X8_isDisk
set_option maxRecDepth 20000 in
theorem ggX8_move_Jx4a65c_get_915e3 : GoodIn wsX8_move wsJx4a65c_get_915e3 := goodIn_r _ [32, 20, 33, 34, 35, 36, 37, 38, 39, 40, 41, 42, 43, 18, 44, 45, 68, 69, 70] (by decide +kernel) (by decide +kernel)
set_option maxRecDepth 20000 in
theorem gX8_move_Jx4a65c_get_915e3 : GoodIn wsX8_move (wsV RX8 148 RJx4a65c yJx4a65c_get_915e3 wsJx4a65c_get_915e3) := goodIn_app (goodIn_of _ (by decide +kernel)) ggX8_move_Jx4a65c_get_915e3
set_option maxRecDepth 20000 in
theorem ggX8_move_X0_init : GoodIn wsX8_move wsX0_init := goodIn_r _ [47, 48, 49, 50, 51, 52, 53, 65, 66, 67] (by decide +kernel) (by decide +kernel)
set_option maxRecDepth 20000 in
theorem gX8_move_X0_init_n136 : GoodIn wsX8_move (wsX0_init) := ggX8_move_X0_init
set_option maxRecDepth 20000 in
theorem ggX8_move_Jx4a65c_set_bcc79 : GoodIn wsX8_move wsJx4a65c_set_bcc79 := goodIn_r _ [57, 20, 45, 33, 34, 35, 36, 37, 38, 39, 40, 41, 42, 43, 18, 44, 68, 69, 70] (by decide +kernel) (by decide +kernel)
set_option maxRecDepth 20000 in
theorem gX8_move_Jx4a65c_set_bcc79 : GoodIn wsX8_move (wsV RX8 152 RJx4a65c yJx4a65c_set_bcc79 wsJx4a65c_set_bcc79) := goodIn_app (goodIn_of _ (by decide +kernel)) ggX8_move_Jx4a65c_set_bcc79
theorem dX8_move_0 : decode cX8_move 0 = .ok (.aload_n 0, 1) := by decide +kernel
theorem dX8_move_1 : decode cX8_move 1 = .ok (.iload_n 1, 1) := by decide +kernel
theorem dX8_move_2 : decode cX8_move 2 = .ok (.invokevirtual 143, 3) := by decide +kernel
theorem dX8_move_5 : decode cX8_move 5 = .ok (.ifCond .ne 13, 3) := by decide +kernel
theorem dX8_move_8 : decode cX8_move 8 = .ok (.new 56, 3) := by decide +kernel
theorem dX8_move_11 : decode cX8_move 11 = .ok (.dup, 1) := by decide +kernel
theorem dX8_move_12 : decode cX8_move 12 = .ok (.ldc 146, 2) := by decide +kernel
theorem dX8_move_14 : decode cX8_move 14 = .ok (.invokespecial 60, 3) := by decide +kernel
theorem dX8_move_17 : decode cX8_move 17 = .ok (.athrow, 1) := by decide +kernel
theorem dX8_move_18 : decode cX8_move 18 = .ok (.iload_n 2, 1) := by decide +kernel
theorem dX8_move_19 : decode cX8_move 19 = .ok (.iload_n 3, 1) := by decide +kernel
theorem dX8_move_20 : decode cX8_move 20 = .ok (.iload 4, 2) := by decide +kernel
theorem dX8_move_22 : decode cX8_move 22 = .ok (.invokestatic 120, 3) := by decide +kernel
theorem dX8_move_25 : decode cX8_move 25 = .ok (.ifCond .ne 13, 3) := by decide +kernel
theorem dX8_move_28 : decode cX8_move 28 = .ok (.new 124, 3) := by decide +kernel
theorem dX8_move_31 : decode cX8_move 31 = .ok (.dup, 1) := by decide +kernel
theorem dX8_move_32 : decode cX8_move 32 = .ok (.ldc 126, 2) := by decide +kernel
theorem dX8_move_34 : decode cX8_move 34 = .ok (.invokespecial 128, 3) := by decide +kernel
theorem dX8_move_37 : decode cX8_move 37 = .ok (.athrow, 1) := by decide +kernel
theorem dX8_move_38 : decode cX8_move 38 = .ok (.aload_n 0, 1) := by decide +kernel
theorem dX8_move_39 : decode cX8_move 39 = .ok (.getfield 19, 3) := by decide +kernel
theorem dX8_move_42 : decode cX8_move 42 = .ok (.iload_n 1, 1) := by decide +kernel
theorem dX8_move_43 : decode cX8_move 43 = .ok (.invokevirtual 148, 3) := by decide +kernel
theorem dX8_move_46 : decode cX8_move 46 = .ok (.checkcast 134, 3) := by decide +kernel
theorem dX8_move_49 : decode cX8_move 49 = .ok (.astore 5, 2) := by decide +kernel
theorem dX8_move_51 : decode cX8_move 51 = .ok (.aload_n 0, 1) := by decide +kernel
theorem dX8_move_52 : decode cX8_move 52 = .ok (.getfield 19, 3) := by decide +kernel
theorem dX8_move_55 : decode cX8_move 55 = .ok (.iload_n 1, 1) := by decide +kernel
theorem dX8_move_56 : decode cX8_move 56 = .ok (.new 134, 3) := by decide +kernel
theorem dX8_move_59 : decode cX8_move 59 = .ok (.dup, 1) := by decide +kernel
theorem dX8_move_60 : decode cX8_move 60 = .ok (.iload_n 2, 1) := by decide +kernel
theorem dX8_move_61 : decode cX8_move 61 = .ok (.i2l, 1) := by decide +kernel
theorem dX8_move_62 : decode cX8_move 62 = .ok (.iload_n 3, 1) := by decide +kernel
theorem dX8_move_63 : decode cX8_move 63 = .ok (.i2l, 1) := by decide +kernel
theorem dX8_move_64 : decode cX8_move 64 = .ok (.iload 4, 2) := by decide +kernel
theorem dX8_move_66 : decode cX8_move 66 = .ok (.i2l, 1) := by decide +kernel
theorem dX8_move_67 : decode cX8_move 67 = .ok (.invokespecial 136, 3) := by decide +kernel
theorem dX8_move_70 : decode cX8_move 70 = .ok (.invokevirtual 152, 3) := by decide +kernel
theorem dX8_move_73 : decode cX8_move 73 = .ok (.pop, 1) := by decide +kernel
theorem dX8_move_74 : decode cX8_move 74 = .ok (.aload 5, 2) := by decide +kernel
theorem dX8_move_76 : decode cX8_move 76 = .ok (.getfield 156, 3) := by decide +kernel
theorem dX8_move_79 : decode cX8_move 79 = .ok (.l2i, 1) := by decide +kernel
theorem dX8_move_80 : decode cX8_move 80 = .ok (.ireturn, 1) := by decide +kernel
set_option maxRecDepth 20000 in
theorem ggX8_lie_X8_hasDisk : GoodIn wsX8_lie wsX8_hasDisk := goodIn_r _ [9, 10, 11, 12, 13, 14, 15, 16, 46, 47, 48, 49, 50, 51, 52, 53, 54, 55] (by decide +kernel) (by decide +kernel)
set_option maxRecDepth 20000 in
theorem gX8_lie_X8_hasDisk : GoodIn wsX8_lie (wsV RX8 143 RX8 yX8_hasDisk wsX8_hasDisk) := goodIn_app (goodIn_of _ (by decide +kernel)) ggX8_lie_X8_hasDisk
set_option maxRecDepth 20000 in
theorem ggX8_lie_X8_howDisksLie : GoodIn wsX8_lie wsX8_howDisksLie := goodIn_r _ [20, 10, 21, 5, 6, 7, 8, 9, 11, 12, 13, 14, 15, 16, 22, 23, 24, 25, 26, 27, 28, 29, 30, 31, 32, 33, 34, 35, 36, 37, 38, 39, 40, 41, 42, 43, 44, 45, 46, 47, 48, 49, 50, 51, 52, 53, 54, 55, 56, 57, 58] (by decide +kernel) (by decide +kernel)
set_option maxRecDepth 20000 in
theorem gX8_lie_X8_howDisksLie : GoodIn wsX8_lie (wsV RX8 162 RX8 yX8_howDisksLie wsX8_howDisksLie) := goodIn_app (goodIn_of _ (by decide +kernel)) ggX8_lie_X8_howDisksLie
theorem dX8_lie_0 : decode cX8_lie 0 = .ok (.aload_n 0, 1) := by decide +kernel
theorem dX8_lie_1 : decode cX8_lie 1 = .ok (.iload_n 1, 1) := by decide +kernel
theorem dX8_lie_2 : decode cX8_lie 2 = .ok (.invokevirtual 143, 3) := by decide +kernel
theorem dX8_lie_5 : decode cX8_lie 5 = .ok (.ifCond .eq 11, 3) := by decide +kernel
theorem dX8_lie_8 : decode cX8_lie 8 = .ok (.aload_n 0, 1) := by decide +kernel
theorem dX8_lie_9 : decode cX8_lie 9 = .ok (.iload_n 2, 1) := by decide +kernel
theorem dX8_lie_10 : decode cX8_lie 10 = .ok (.invokevirtual 143, 3) := by decide +kernel
theorem dX8_lie_13 : decode cX8_lie 13 = .ok (.ifCond .ne 13, 3) := by decide +kernel
theorem dX8_lie_16 : decode cX8_lie 16 = .ok (.new 56, 3) := by decide +kernel
theorem dX8_lie_19 : decode cX8_lie 19 = .ok (.dup, 1) := by decide +kernel
theorem dX8_lie_20 : decode cX8_lie 20 = .ok (.ldc 146, 2) := by decide +kernel
theorem dX8_lie_22 : decode cX8_lie 22 = .ok (.invokespecial 60, 3) := by decide +kernel
theorem dX8_lie_25 : decode cX8_lie 25 = .ok (.athrow, 1) := by decide +kernel
theorem dX8_lie_26 : decode cX8_lie 26 = .ok (.iload_n 1, 1) := by decide +kernel
theorem dX8_lie_27 : decode cX8_lie 27 = .ok (.iload_n 2, 1) := by decide +kernel
theorem dX8_lie_28 : decode cX8_lie 28 = .ok (.if_icmp .ne 13, 3) := by decide +kernel
theorem dX8_lie_31 : decode cX8_lie 31 = .ok (.new 124, 3) := by decide +kernel
theorem dX8_lie_34 : decode cX8_lie 34 = .ok (.dup, 1) := by decide +kernel
theorem dX8_lie_35 : decode cX8_lie 35 = .ok (.ldc 160, 2) := by decide +kernel
theorem dX8_lie_37 : decode cX8_lie 37 = .ok (.invokespecial 128, 3) := by decide +kernel
theorem dX8_lie_40 : decode cX8_lie 40 = .ok (.athrow, 1) := by decide +kernel
theorem dX8_lie_41 : decode cX8_lie 41 = .ok (.aload_n 0, 1) := by decide +kernel
theorem dX8_lie_42 : decode cX8_lie 42 = .ok (.iload_n 1, 1) := by decide +kernel
theorem dX8_lie_43 : decode cX8_lie 43 = .ok (.iload_n 2, 1) := by decide +kernel
theorem dX8_lie_44 : decode cX8_lie 44 = .ok (.invokevirtual 162, 3) := by decide +kernel
theorem dX8_lie_47 : decode cX8_lie 47 = .ok (.ireturn, 1) := by decide +kernel
set_option maxRecDepth 20000 in
theorem ggX8_pairs_Jx4a65c_size_8abf5 : GoodIn wsX8_pairs wsJx4a65c_size_8abf5 := goodIn_r _ [8, 9, 51, 52, 53] (by decide +kernel) (by decide +kernel)
set_option maxRecDepth 20000 in
theorem gX8_pairs_Jx4a65c_size_8abf5 : GoodIn wsX8_pairs (wsV RX8 129 RJx4a65c yJx4a65c_size_8abf5 wsJx4a65c_size_8abf5) := goodIn_app (goodIn_of _ (by decide +kernel)) ggX8_pairs_Jx4a65c_size_8abf5
set_option maxRecDepth 20000 in
theorem ggX8_pairs_X8_howDisksLie : GoodIn wsX8_pairs wsX8_howDisksLie := goodIn_r _ [14, 3, 15, 16, 17, 18, 13, 19, 4, 5, 6, 7, 8, 9, 20, 21, 22, 23, 24, 25, 26, 27, 28, 29, 30, 31, 32, 33, 34, 35, 36, 37, 38, 39, 40, 41, 42, 43, 44, 45, 46, 47, 48, 49, 50, 51, 52, 53, 54, 55, 56] (by decide +kernel) (by decide +kernel)
set_option maxRecDepth 20000 in
theorem gX8_pairs_X8_howDisksLie : GoodIn wsX8_pairs (wsV RX8 162 RX8 yX8_howDisksLie wsX8_howDisksLie) := goodIn_app (goodIn_of _ (by decide +kernel)) ggX8_pairs_X8_howDisksLie
theorem dX8_pairs_0 : decode cX8_pairs 0 = .ok (.iload_n 1, 1) := by decide +kernel
theorem dX8_pairs_1 : decode cX8_pairs 1 = .ok (.ifCond .lt 8, 3) := by decide +kernel
theorem dX8_pairs_4 : decode cX8_pairs 4 = .ok (.iload_n 1, 1) := by decide +kernel
theorem dX8_pairs_5 : decode cX8_pairs 5 = .ok (.iconst 2, 1) := by decide +kernel
theorem dX8_pairs_6 : decode cX8_pairs 6 = .ok (.if_icmp .le 13, 3) := by decide +kernel
theorem dX8_pairs_9 : decode cX8_pairs 9 = .ok (.new 124, 3) := by decide +kernel
theorem dX8_pairs_12 : decode cX8_pairs 12 = .ok (.dup, 1) := by decide +kernel
theorem dX8_pairs_13 : decode cX8_pairs 13 = .ok (.ldc 165, 2) := by decide +kernel
theorem dX8_pairs_15 : decode cX8_pairs 15 = .ok (.invokespecial 128, 3) := by decide +kernel
theorem dX8_pairs_18 : decode cX8_pairs 18 = .ok (.athrow, 1) := by decide +kernel
theorem dX8_pairs_19 : decode cX8_pairs 19 = .ok (.iconst 0, 1) := by decide +kernel
theorem dX8_pairs_20 : decode cX8_pairs 20 = .ok (.istore_n 2, 1) := by decide +kernel
theorem dX8_pairs_21 : decode cX8_pairs 21 = .ok (.iconst 1, 1) := by decide +kernel
theorem dX8_pairs_22 : decode cX8_pairs 22 = .ok (.istore_n 3, 1) := by decide +kernel
theorem dX8_pairs_23 : decode cX8_pairs 23 = .ok (.iload_n 3, 1) := by decide +kernel
theorem dX8_pairs_24 : decode cX8_pairs 24 = .ok (.aload_n 0, 1) := by decide +kernel
theorem dX8_pairs_25 : decode cX8_pairs 25 = .ok (.getfield 19, 3) := by decide +kernel
theorem dX8_pairs_28 : decode cX8_pairs 28 = .ok (.invokevirtual 129, 3) := by decide +kernel
theorem dX8_pairs_31 : decode cX8_pairs 31 = .ok (.if_icmp .ge 38, 3) := by decide +kernel
theorem dX8_pairs_34 : decode cX8_pairs 34 = .ok (.iconst 0, 1) := by decide +kernel
theorem dX8_pairs_35 : decode cX8_pairs 35 = .ok (.istore 4, 2) := by decide +kernel
theorem dX8_pairs_37 : decode cX8_pairs 37 = .ok (.iload 4, 2) := by decide +kernel
theorem dX8_pairs_39 : decode cX8_pairs 39 = .ok (.iload_n 3, 1) := by decide +kernel
theorem dX8_pairs_40 : decode cX8_pairs 40 = .ok (.if_icmp .ge 23, 3) := by decide +kernel
theorem dX8_pairs_43 : decode cX8_pairs 43 = .ok (.aload_n 0, 1) := by decide +kernel
theorem dX8_pairs_44 : decode cX8_pairs 44 = .ok (.iload 4, 2) := by decide +kernel
theorem dX8_pairs_46 : decode cX8_pairs 46 = .ok (.iload_n 3, 1) := by decide +kernel
theorem dX8_pairs_47 : decode cX8_pairs 47 = .ok (.invokevirtual 162, 3) := by decide +kernel
theorem dX8_pairs_50 : decode cX8_pairs 50 = .ok (.iload_n 1, 1) := by decide +kernel
theorem dX8_pairs_51 : decode cX8_pairs 51 = .ok (.if_icmp .ne 6, 3) := by decide +kernel
theorem dX8_pairs_54 : decode cX8_pairs 54 = .ok (.iinc 2 1, 3) := by decide +kernel
theorem dX8_pairs_57 : decode cX8_pairs 57 = .ok (.iinc 4 1, 3) := by decide +kernel
theorem dX8_pairs_60 : decode cX8_pairs 60 = .ok (.goto (-23), 3) := by decide +kernel
theorem dX8_pairs_63 : decode cX8_pairs 63 = .ok (.iinc 3 1, 3) := by decide +kernel
theorem dX8_pairs_66 : decode cX8_pairs 66 = .ok (.goto (-43), 3) := by decide +kernel
theorem dX8_pairs_69 : decode cX8_pairs 69 = .ok (.iload_n 2, 1) := by decide +kernel
theorem dX8_pairs_70 : decode cX8_pairs 70 = .ok (.ireturn, 1) := by decide +kernel
set_option maxRecDepth 20000 in
theorem ggX8_draws_Jx4a65c_size_8abf5 : GoodIn wsX8_draws wsJx4a65c_size_8abf5 := goodIn_r _ [7, 8, 68, 69, 70] (by decide +kernel) (by decide +kernel)
set_option maxRecDepth 20000 in
theorem gX8_draws_Jx4a65c_size_8abf5 : GoodIn wsX8_draws (wsV RX8 129 RJx4a65c yJx4a65c_size_8abf5 wsJx4a65c_size_8abf5) := goodIn_app (goodIn_of _ (by decide +kernel)) ggX8_draws_Jx4a65c_size_8abf5
set_option maxRecDepth 20000 in
theorem ggX8_draws_X3_areNeighbours : GoodIn wsX8_draws wsX3_areNeighbours := goodIn_r _ [12, 13, 14, 15, 10, 16, 17, 18, 19, 20, 21, 22, 64, 65, 66, 67] (by decide +kernel) (by decide +kernel)
set_option maxRecDepth 20000 in
theorem gX8_draws_X3_areNeighbours_n167 : GoodIn wsX8_draws (wsX3_areNeighbours) := ggX8_draws_X3_areNeighbours
set_option maxRecDepth 20000 in
theorem ggX8_draws_X8_howDisksLie : GoodIn wsX8_draws wsX8_howDisksLie := goodIn_r _ [27, 1, 28, 29, 30, 31, 26, 32, 3, 4, 5, 6, 7, 8, 33, 34, 35, 36, 37, 38, 39, 40, 41, 42, 43, 44, 45, 46, 47, 48, 49, 50, 51, 52, 53, 54, 55, 56, 57, 58, 59, 60, 61, 62, 63, 68, 69, 70, 71, 72, 73] (by decide +kernel) (by decide +kernel)
set_option maxRecDepth 20000 in
theorem gX8_draws_X8_howDisksLie : GoodIn wsX8_draws (wsV RX8 162 RX8 yX8_howDisksLie wsX8_howDisksLie) := goodIn_app (goodIn_of _ (by decide +kernel)) ggX8_draws_X8_howDisksLie
theorem dX8_draws_0 : decode cX8_draws 0 = .ok (.aload_n 0, 1) := by decide +kernel
theorem dX8_draws_1 : decode cX8_draws 1 = .ok (.getfield 19, 3) := by decide +kernel
theorem dX8_draws_4 : decode cX8_draws 4 = .ok (.invokevirtual 129, 3) := by decide +kernel
theorem dX8_draws_7 : decode cX8_draws 7 = .ok (.aload_n 0, 1) := by decide +kernel
theorem dX8_draws_8 : decode cX8_draws 8 = .ok (.getfield 10, 3) := by decide +kernel
theorem dX8_draws_11 : decode cX8_draws 11 = .ok (.getfield 101, 3) := by decide +kernel
theorem dX8_draws_14 : decode cX8_draws 14 = .ok (.if_icmp .eq 5, 3) := by decide +kernel
theorem dX8_draws_17 : decode cX8_draws 17 = .ok (.iconst 0, 1) := by decide +kernel
theorem dX8_draws_18 : decode cX8_draws 18 = .ok (.ireturn, 1) := by decide +kernel
theorem dX8_draws_19 : decode cX8_draws 19 = .ok (.iconst 1, 1) := by decide +kernel
theorem dX8_draws_20 : decode cX8_draws 20 = .ok (.istore_n 1, 1) := by decide +kernel
theorem dX8_draws_21 : decode cX8_draws 21 = .ok (.iload_n 1, 1) := by decide +kernel
theorem dX8_draws_22 : decode cX8_draws 22 = .ok (.aload_n 0, 1) := by decide +kernel
theorem dX8_draws_23 : decode cX8_draws 23 = .ok (.getfield 19, 3) := by decide +kernel
theorem dX8_draws_26 : decode cX8_draws 26 = .ok (.invokevirtual 129, 3) := by decide +kernel
theorem dX8_draws_29 : decode cX8_draws 29 = .ok (.if_icmp .ge 52, 3) := by decide +kernel
theorem dX8_draws_32 : decode cX8_draws 32 = .ok (.iconst 0, 1) := by decide +kernel
theorem dX8_draws_33 : decode cX8_draws 33 = .ok (.istore_n 2, 1) := by decide +kernel
theorem dX8_draws_34 : decode cX8_draws 34 = .ok (.iload_n 2, 1) := by decide +kernel
theorem dX8_draws_35 : decode cX8_draws 35 = .ok (.iload_n 1, 1) := by decide +kernel
theorem dX8_draws_36 : decode cX8_draws 36 = .ok (.if_icmp .ge 39, 3) := by decide +kernel
theorem dX8_draws_39 : decode cX8_draws 39 = .ok (.aload_n 0, 1) := by decide +kernel
theorem dX8_draws_40 : decode cX8_draws 40 = .ok (.getfield 10, 3) := by decide +kernel
theorem dX8_draws_43 : decode cX8_draws 43 = .ok (.iload_n 2, 1) := by decide +kernel
theorem dX8_draws_44 : decode cX8_draws 44 = .ok (.iload_n 1, 1) := by decide +kernel
theorem dX8_draws_45 : decode cX8_draws 45 = .ok (.invokevirtual 167, 3) := by decide +kernel
theorem dX8_draws_48 : decode cX8_draws 48 = .ok (.ifCond .eq 7, 3) := by decide +kernel
theorem dX8_draws_51 : decode cX8_draws 51 = .ok (.iconst 1, 1) := by decide +kernel
theorem dX8_draws_52 : decode cX8_draws 52 = .ok (.goto 4, 3) := by decide +kernel
theorem dX8_draws_55 : decode cX8_draws 55 = .ok (.iconst 0, 1) := by decide +kernel
theorem dX8_draws_56 : decode cX8_draws 56 = .ok (.istore_n 3, 1) := by decide +kernel
theorem dX8_draws_57 : decode cX8_draws 57 = .ok (.aload_n 0, 1) := by decide +kernel
theorem dX8_draws_58 : decode cX8_draws 58 = .ok (.iload_n 2, 1) := by decide +kernel
theorem dX8_draws_59 : decode cX8_draws 59 = .ok (.iload_n 1, 1) := by decide +kernel
theorem dX8_draws_60 : decode cX8_draws 60 = .ok (.invokevirtual 162, 3) := by decide +kernel
theorem dX8_draws_63 : decode cX8_draws 63 = .ok (.iload_n 3, 1) := by decide +kernel
theorem dX8_draws_64 : decode cX8_draws 64 = .ok (.if_icmp .eq 5, 3) := by decide +kernel
theorem dX8_draws_67 : decode cX8_draws 67 = .ok (.iconst 0, 1) := by decide +kernel
theorem dX8_draws_68 : decode cX8_draws 68 = .ok (.ireturn, 1) := by decide +kernel
theorem dX8_draws_69 : decode cX8_draws 69 = .ok (.iinc 2 1, 3) := by decide +kernel
theorem dX8_draws_72 : decode cX8_draws 72 = .ok (.goto (-38), 3) := by decide +kernel
theorem dX8_draws_75 : decode cX8_draws 75 = .ok (.iinc 1 1, 3) := by decide +kernel
theorem dX8_draws_78 : decode cX8_draws 78 = .ok (.goto (-57), 3) := by decide +kernel
theorem dX8_draws_81 : decode cX8_draws 81 = .ok (.iconst 1, 1) := by decide +kernel
theorem dX8_draws_82 : decode cX8_draws 82 = .ok (.ireturn, 1) := by decide +kernel
set_option maxRecDepth 20000 in
theorem ggX8_isDisk_X8_isWithin : GoodIn wsX8_isDisk wsX8_isWithin := goodIn_r _ [6] (by decide +kernel) (by decide +kernel)
set_option maxRecDepth 20000 in
theorem gX8_isDisk_X8_isWithin : GoodIn wsX8_isDisk (va_wsS RX8 172 yX8_isWithin wsX8_isWithin) := goodIn_app (goodIn_of _ (by decide +kernel)) ggX8_isDisk_X8_isWithin
theorem dX8_isDisk_0 : decode cX8_isDisk 0 = .ok (.iload_n 0, 1) := by decide +kernel
theorem dX8_isDisk_1 : decode cX8_isDisk 1 = .ok (.i2l, 1) := by decide +kernel
theorem dX8_isDisk_2 : decode cX8_isDisk 2 = .ok (.ldc2_w 170, 3) := by decide +kernel
theorem dX8_isDisk_5 : decode cX8_isDisk 5 = .ok (.invokestatic 172, 3) := by decide +kernel
theorem dX8_isDisk_8 : decode cX8_isDisk 8 = .ok (.ifCond .eq 29, 3) := by decide +kernel
theorem dX8_isDisk_11 : decode cX8_isDisk 11 = .ok (.iload_n 1, 1) := by decide +kernel
theorem dX8_isDisk_12 : decode cX8_isDisk 12 = .ok (.i2l, 1) := by decide +kernel
theorem dX8_isDisk_13 : decode cX8_isDisk 13 = .ok (.ldc2_w 170, 3) := by decide +kernel
theorem dX8_isDisk_16 : decode cX8_isDisk 16 = .ok (.invokestatic 172, 3) := by decide +kernel
theorem dX8_isDisk_19 : decode cX8_isDisk 19 = .ok (.ifCond .eq 18, 3) := by decide +kernel
theorem dX8_isDisk_22 : decode cX8_isDisk 22 = .ok (.iload_n 2, 1) := by decide +kernel
theorem dX8_isDisk_23 : decode cX8_isDisk 23 = .ok (.iconst 1, 1) := by decide +kernel
theorem dX8_isDisk_24 : decode cX8_isDisk 24 = .ok (.if_icmp .lt 13, 3) := by decide +kernel
theorem dX8_isDisk_27 : decode cX8_isDisk 27 = .ok (.iload_n 2, 1) := by decide +kernel
theorem dX8_isDisk_28 : decode cX8_isDisk 28 = .ok (.ldc 176, 2) := by decide +kernel
theorem dX8_isDisk_30 : decode cX8_isDisk 30 = .ok (.if_icmp .gt 7, 3) := by decide +kernel
theorem dX8_isDisk_33 : decode cX8_isDisk 33 = .ok (.iconst 1, 1) := by decide +kernel
theorem dX8_isDisk_34 : decode cX8_isDisk 34 = .ok (.goto 4, 3) := by decide +kernel
theorem dX8_isDisk_37 : decode cX8_isDisk 37 = .ok (.iconst 0, 1) := by decide +kernel
theorem dX8_isDisk_38 : decode cX8_isDisk 38 = .ok (.ireturn, 1) := by decide +kernel
set_option maxRecDepth 20000 in
theorem ggX8_hasDisk_Jx4a65c_size_8abf5 : GoodIn wsX8_hasDisk wsJx4a65c_size_8abf5 := goodIn_r _ [6, 7, 15, 16, 17] (by decide +kernel) (by decide +kernel)
set_option maxRecDepth 20000 in
theorem gX8_hasDisk_Jx4a65c_size_8abf5 : GoodIn wsX8_hasDisk (wsV RX8 129 RJx4a65c yJx4a65c_size_8abf5 wsJx4a65c_size_8abf5) := goodIn_app (goodIn_of _ (by decide +kernel)) ggX8_hasDisk_Jx4a65c_size_8abf5
theorem dX8_hasDisk_0 : decode cX8_hasDisk 0 = .ok (.iload_n 1, 1) := by decide +kernel
theorem dX8_hasDisk_1 : decode cX8_hasDisk 1 = .ok (.ifCond .lt 18, 3) := by decide +kernel
theorem dX8_hasDisk_4 : decode cX8_hasDisk 4 = .ok (.iload_n 1, 1) := by decide +kernel
theorem dX8_hasDisk_5 : decode cX8_hasDisk 5 = .ok (.aload_n 0, 1) := by decide +kernel
theorem dX8_hasDisk_6 : decode cX8_hasDisk 6 = .ok (.getfield 19, 3) := by decide +kernel
theorem dX8_hasDisk_9 : decode cX8_hasDisk 9 = .ok (.invokevirtual 129, 3) := by decide +kernel
theorem dX8_hasDisk_12 : decode cX8_hasDisk 12 = .ok (.if_icmp .ge 7, 3) := by decide +kernel
theorem dX8_hasDisk_15 : decode cX8_hasDisk 15 = .ok (.iconst 1, 1) := by decide +kernel
theorem dX8_hasDisk_16 : decode cX8_hasDisk 16 = .ok (.goto 4, 3) := by decide +kernel
theorem dX8_hasDisk_19 : decode cX8_hasDisk 19 = .ok (.iconst 0, 1) := by decide +kernel
theorem dX8_hasDisk_20 : decode cX8_hasDisk 20 = .ok (.ireturn, 1) := by decide +kernel
set_option maxRecDepth 20000 in
theorem ggX8_howDisksLie_X8_hasDisk : GoodIn wsX8_howDisksLie wsX8_hasDisk := goodIn_r _ [7, 1, 8, 9, 10, 11, 12, 13, 38, 39, 40, 41, 42, 43, 44, 45, 46, 47] (by decide +kernel) (by decide +kernel)
set_option maxRecDepth 20000 in
theorem gX8_howDisksLie_X8_hasDisk : GoodIn wsX8_howDisksLie (wsV RX8 143 RX8 yX8_hasDisk wsX8_hasDisk) := goodIn_app (goodIn_of _ (by decide +kernel)) ggX8_howDisksLie_X8_hasDisk
set_option maxRecDepth 20000 in
theorem ggX8_howDisksLie_Jx4a65c_get_915e3 : GoodIn wsX8_howDisksLie wsJx4a65c_get_915e3 := goodIn_r _ [17, 13, 18, 19, 20, 21, 22, 23, 24, 25, 26, 27, 28, 11, 29, 30, 45, 46, 47] (by decide +kernel) (by decide +kernel)
set_option maxRecDepth 20000 in
theorem gX8_howDisksLie_Jx4a65c_get_915e3 : GoodIn wsX8_howDisksLie (wsV RX8 148 RJx4a65c yJx4a65c_get_915e3 wsJx4a65c_get_915e3) := goodIn_app (goodIn_of _ (by decide +kernel)) ggX8_howDisksLie_Jx4a65c_get_915e3
set_option maxRecDepth 20000 in
theorem ggX8_howDisksLie_X0_howItLies : GoodIn wsX8_howDisksLie wsX0_howItLies := goodIn_r _ [34, 35, 36, 37, 48, 49, 50] (by decide +kernel) (by decide +kernel)
set_option maxRecDepth 20000 in
theorem gX8_howDisksLie_X0_howItLies_n177 : GoodIn wsX8_howDisksLie (wsX0_howItLies) := ggX8_howDisksLie_X0_howItLies
theorem dX8_howDisksLie_0 : decode cX8_howDisksLie 0 = .ok (.aload_n 0, 1) := by decide +kernel
theorem dX8_howDisksLie_1 : decode cX8_howDisksLie 1 = .ok (.iload_n 1, 1) := by decide +kernel
theorem dX8_howDisksLie_2 : decode cX8_howDisksLie 2 = .ok (.invokevirtual 143, 3) := by decide +kernel
theorem dX8_howDisksLie_5 : decode cX8_howDisksLie 5 = .ok (.ifCond .eq 39, 3) := by decide +kernel
theorem dX8_howDisksLie_8 : decode cX8_howDisksLie 8 = .ok (.aload_n 0, 1) := by decide +kernel
theorem dX8_howDisksLie_9 : decode cX8_howDisksLie 9 = .ok (.iload_n 2, 1) := by decide +kernel
theorem dX8_howDisksLie_10 : decode cX8_howDisksLie 10 = .ok (.invokevirtual 143, 3) := by decide +kernel
theorem dX8_howDisksLie_13 : decode cX8_howDisksLie 13 = .ok (.ifCond .eq 31, 3) := by decide +kernel
theorem dX8_howDisksLie_16 : decode cX8_howDisksLie 16 = .ok (.aload_n 0, 1) := by decide +kernel
theorem dX8_howDisksLie_17 : decode cX8_howDisksLie 17 = .ok (.getfield 19, 3) := by decide +kernel
theorem dX8_howDisksLie_20 : decode cX8_howDisksLie 20 = .ok (.iload_n 1, 1) := by decide +kernel
theorem dX8_howDisksLie_21 : decode cX8_howDisksLie 21 = .ok (.invokevirtual 148, 3) := by decide +kernel
theorem dX8_howDisksLie_24 : decode cX8_howDisksLie 24 = .ok (.checkcast 134, 3) := by decide +kernel
theorem dX8_howDisksLie_27 : decode cX8_howDisksLie 27 = .ok (.aload_n 0, 1) := by decide +kernel
theorem dX8_howDisksLie_28 : decode cX8_howDisksLie 28 = .ok (.getfield 19, 3) := by decide +kernel
theorem dX8_howDisksLie_31 : decode cX8_howDisksLie 31 = .ok (.iload_n 2, 1) := by decide +kernel
theorem dX8_howDisksLie_32 : decode cX8_howDisksLie 32 = .ok (.invokevirtual 148, 3) := by decide +kernel
theorem dX8_howDisksLie_35 : decode cX8_howDisksLie 35 = .ok (.checkcast 134, 3) := by decide +kernel
theorem dX8_howDisksLie_38 : decode cX8_howDisksLie 38 = .ok (.invokevirtual 177, 3) := by decide +kernel
theorem dX8_howDisksLie_41 : decode cX8_howDisksLie 41 = .ok (.goto 4, 3) := by decide +kernel
theorem dX8_howDisksLie_44 : decode cX8_howDisksLie 44 = .ok (.iconst (-1), 1) := by decide +kernel
theorem dX8_howDisksLie_45 : decode cX8_howDisksLie 45 = .ok (.ireturn, 1) := by decide +kernel
theorem dX8_isWithin_0 : decode cX8_isWithin 0 = .ok (.lload_n 0, 1) := by decide +kernel
theorem dX8_isWithin_1 : decode cX8_isWithin 1 = .ok (.lload_n 2, 1) := by decide +kernel
theorem dX8_isWithin_2 : decode cX8_isWithin 2 = .ok (.lneg, 1) := by decide +kernel
theorem dX8_isWithin_3 : decode cX8_isWithin 3 = .ok (.lcmp, 1) := by decide +kernel
theorem dX8_isWithin_4 : decode cX8_isWithin 4 = .ok (.ifCond .lt 13, 3) := by decide +kernel
theorem dX8_isWithin_7 : decode cX8_isWithin 7 = .ok (.lload_n 0, 1) := by decide +kernel
theorem dX8_isWithin_8 : decode cX8_isWithin 8 = .ok (.lload_n 2, 1) := by decide +kernel
theorem dX8_isWithin_9 : decode cX8_isWithin 9 = .ok (.lcmp, 1) := by decide +kernel
theorem dX8_isWithin_10 : decode cX8_isWithin 10 = .ok (.ifCond .gt 7, 3) := by decide +kernel
theorem dX8_isWithin_13 : decode cX8_isWithin 13 = .ok (.iconst 1, 1) := by decide +kernel
theorem dX8_isWithin_14 : decode cX8_isWithin 14 = .ok (.goto 4, 3) := by decide +kernel
theorem dX8_isWithin_17 : decode cX8_isWithin 17 = .ok (.iconst 0, 1) := by decide +kernel
theorem dX8_isWithin_18 : decode cX8_isWithin 18 = .ok (.ireturn, 1) := by decide +kernel
set_option maxRecDepth 20000 in
theorem ggX8_gasket_X8_areFourWithin : GoodIn wsX8_gasket wsX8_areFourWithin := goodIn_r _ [13, 14, 15, 12, 16] (by decide +kernel) (by decide +kernel)
set_option maxRecDepth 20000 in
theorem gX8_gasket_X8_areFourWithin : GoodIn wsX8_gasket (va_wsS RX8 182 yX8_areFourWithin wsX8_areFourWithin) := goodIn_app (goodIn_of _ (by decide +kernel)) ggX8_gasket_X8_areFourWithin
set_option maxRecDepth 20000 in
theorem ggX8_gasket_X2_areOfGasket : GoodIn wsX8_gasket wsX2_areOfGasket := goodIn_r _ [18, 19] (by decide +kernel) (by decide +kernel)
set_option maxRecDepth 20000 in
theorem gX8_gasket_X2_areOfGasket_n186 : GoodIn wsX8_gasket (wsX2_areOfGasket) := ggX8_gasket_X2_areOfGasket
set_option maxRecDepth 20000 in
theorem ggX8_gasket_Jx4a65c_size_8abf5 : GoodIn wsX8_gasket wsJx4a65c_size_8abf5 := goodIn_r _ [24, 25, 118, 119, 120] (by decide +kernel) (by decide +kernel)
set_option maxRecDepth 20000 in
theorem gX8_gasket_Jx4a65c_size_8abf5 : GoodIn wsX8_gasket (wsV RX8 129 RJx4a65c yJx4a65c_size_8abf5 wsJx4a65c_size_8abf5) := goodIn_app (goodIn_of _ (by decide +kernel)) ggX8_gasket_Jx4a65c_size_8abf5
set_option maxRecDepth 20000 in
theorem ggX8_gasket_X2_init : GoodIn wsX8_gasket wsX2_init := goodIn_r _ [27, 28, 29, 30, 31, 32, 33, 34, 35, 36, 9, 37, 38, 39, 40, 41, 42, 43, 44, 45, 46, 47, 48, 49, 50, 19, 51, 52, 53, 115, 116, 117] (by decide +kernel) (by decide +kernel)
set_option maxRecDepth 20000 in
theorem gX8_gasket_X2_init_n196 : GoodIn wsX8_gasket (wsX2_init) := ggX8_gasket_X2_init
set_option maxRecDepth 20000 in
theorem ggX8_gasket_Jx4a65c_add_9ea2d : GoodIn wsX8_gasket wsJx4a65c_add_9ea2d := goodIn_r _ [57, 58, 59, 60, 25, 61, 62, 63, 23, 64, 65, 66, 67, 68, 69, 70, 71, 72, 73, 74, 75, 76, 77, 78, 79, 80, 81, 82, 83, 84, 85, 86, 87, 88, 89, 90, 91, 92, 93, 94, 95, 96, 97, 98, 99, 100, 101, 102, 103, 104, 105, 106, 107, 118, 119, 120] (by decide +kernel) (by decide +kernel)
set_option maxRecDepth 20000 in
theorem gX8_gasket_Jx4a65c_add_9ea2d : GoodIn wsX8_gasket (wsV RX8 139 RJx4a65c yJx4a65c_add_9ea2d wsJx4a65c_add_9ea2d) := goodIn_app (goodIn_of _ (by decide +kernel)) ggX8_gasket_Jx4a65c_add_9ea2d
theorem dX8_gasket_0 : decode cX8_gasket 0 = .ok (.iload_n 1, 1) := by decide +kernel
theorem dX8_gasket_1 : decode cX8_gasket 1 = .ok (.iload_n 2, 1) := by decide +kernel
theorem dX8_gasket_2 : decode cX8_gasket 2 = .ok (.iload_n 3, 1) := by decide +kernel
theorem dX8_gasket_3 : decode cX8_gasket 3 = .ok (.iload 4, 2) := by decide +kernel
theorem dX8_gasket_5 : decode cX8_gasket 5 = .ok (.ldc 181, 2) := by decide +kernel
theorem dX8_gasket_7 : decode cX8_gasket 7 = .ok (.invokestatic 182, 3) := by decide +kernel
theorem dX8_gasket_10 : decode cX8_gasket 10 = .ok (.ifCond .ne 13, 3) := by decide +kernel
theorem dX8_gasket_13 : decode cX8_gasket 13 = .ok (.new 124, 3) := by decide +kernel
theorem dX8_gasket_16 : decode cX8_gasket 16 = .ok (.dup, 1) := by decide +kernel
theorem dX8_gasket_17 : decode cX8_gasket 17 = .ok (.ldc 126, 2) := by decide +kernel
theorem dX8_gasket_19 : decode cX8_gasket 19 = .ok (.invokespecial 128, 3) := by decide +kernel
theorem dX8_gasket_22 : decode cX8_gasket 22 = .ok (.athrow, 1) := by decide +kernel
theorem dX8_gasket_23 : decode cX8_gasket 23 = .ok (.iload_n 1, 1) := by decide +kernel
theorem dX8_gasket_24 : decode cX8_gasket 24 = .ok (.i2l, 1) := by decide +kernel
theorem dX8_gasket_25 : decode cX8_gasket 25 = .ok (.iload_n 2, 1) := by decide +kernel
theorem dX8_gasket_26 : decode cX8_gasket 26 = .ok (.i2l, 1) := by decide +kernel
theorem dX8_gasket_27 : decode cX8_gasket 27 = .ok (.iload_n 3, 1) := by decide +kernel
theorem dX8_gasket_28 : decode cX8_gasket 28 = .ok (.i2l, 1) := by decide +kernel
theorem dX8_gasket_29 : decode cX8_gasket 29 = .ok (.iload 4, 2) := by decide +kernel
theorem dX8_gasket_31 : decode cX8_gasket 31 = .ok (.i2l, 1) := by decide +kernel
theorem dX8_gasket_32 : decode cX8_gasket 32 = .ok (.invokestatic 186, 3) := by decide +kernel
theorem dX8_gasket_35 : decode cX8_gasket 35 = .ok (.ifCond .ne 13, 3) := by decide +kernel
theorem dX8_gasket_38 : decode cX8_gasket 38 = .ok (.new 124, 3) := by decide +kernel
theorem dX8_gasket_41 : decode cX8_gasket 41 = .ok (.dup, 1) := by decide +kernel
theorem dX8_gasket_42 : decode cX8_gasket 42 = .ok (.ldc 192, 2) := by decide +kernel
theorem dX8_gasket_44 : decode cX8_gasket 44 = .ok (.invokespecial 128, 3) := by decide +kernel
theorem dX8_gasket_47 : decode cX8_gasket 47 = .ok (.athrow, 1) := by decide +kernel
theorem dX8_gasket_48 : decode cX8_gasket 48 = .ok (.aload_n 0, 1) := by decide +kernel
theorem dX8_gasket_49 : decode cX8_gasket 49 = .ok (.getfield 23, 3) := by decide +kernel
theorem dX8_gasket_52 : decode cX8_gasket 52 = .ok (.invokevirtual 129, 3) := by decide +kernel
theorem dX8_gasket_55 : decode cX8_gasket 55 = .ok (.bipush 8, 2) := by decide +kernel
theorem dX8_gasket_57 : decode cX8_gasket 57 = .ok (.if_icmp .lt 13, 3) := by decide +kernel
theorem dX8_gasket_60 : decode cX8_gasket 60 = .ok (.new 67, 3) := by decide +kernel
theorem dX8_gasket_63 : decode cX8_gasket 63 = .ok (.dup, 1) := by decide +kernel
theorem dX8_gasket_64 : decode cX8_gasket 64 = .ok (.ldc 194, 2) := by decide +kernel
theorem dX8_gasket_66 : decode cX8_gasket 66 = .ok (.invokespecial 71, 3) := by decide +kernel
theorem dX8_gasket_69 : decode cX8_gasket 69 = .ok (.athrow, 1) := by decide +kernel
theorem dX8_gasket_70 : decode cX8_gasket 70 = .ok (.aload_n 0, 1) := by decide +kernel
theorem dX8_gasket_71 : decode cX8_gasket 71 = .ok (.getfield 23, 3) := by decide +kernel
theorem dX8_gasket_74 : decode cX8_gasket 74 = .ok (.new 187, 3) := by decide +kernel
theorem dX8_gasket_77 : decode cX8_gasket 77 = .ok (.dup, 1) := by decide +kernel
theorem dX8_gasket_78 : decode cX8_gasket 78 = .ok (.iload_n 1, 1) := by decide +kernel
theorem dX8_gasket_79 : decode cX8_gasket 79 = .ok (.i2l, 1) := by decide +kernel
theorem dX8_gasket_80 : decode cX8_gasket 80 = .ok (.iload_n 2, 1) := by decide +kernel
theorem dX8_gasket_81 : decode cX8_gasket 81 = .ok (.i2l, 1) := by decide +kernel
theorem dX8_gasket_82 : decode cX8_gasket 82 = .ok (.iload_n 3, 1) := by decide +kernel
theorem dX8_gasket_83 : decode cX8_gasket 83 = .ok (.i2l, 1) := by decide +kernel
theorem dX8_gasket_84 : decode cX8_gasket 84 = .ok (.iload 4, 2) := by decide +kernel
theorem dX8_gasket_86 : decode cX8_gasket 86 = .ok (.i2l, 1) := by decide +kernel
theorem dX8_gasket_87 : decode cX8_gasket 87 = .ok (.invokespecial 196, 3) := by decide +kernel
theorem dX8_gasket_90 : decode cX8_gasket 90 = .ok (.invokevirtual 139, 3) := by decide +kernel
theorem dX8_gasket_93 : decode cX8_gasket 93 = .ok (.pop, 1) := by decide +kernel
theorem dX8_gasket_94 : decode cX8_gasket 94 = .ok (.aload_n 0, 1) := by decide +kernel
theorem dX8_gasket_95 : decode cX8_gasket 95 = .ok (.getfield 23, 3) := by decide +kernel
theorem dX8_gasket_98 : decode cX8_gasket 98 = .ok (.invokevirtual 129, 3) := by decide +kernel
theorem dX8_gasket_101 : decode cX8_gasket 101 = .ok (.iconst 1, 1) := by decide +kernel
theorem dX8_gasket_102 : decode cX8_gasket 102 = .ok (.isub, 1) := by decide +kernel
theorem dX8_gasket_103 : decode cX8_gasket 103 = .ok (.ireturn, 1) := by decide +kernel
set_option maxRecDepth 20000 in
theorem ggX8_turn_X8_fourOf : GoodIn wsX8_turn wsX8_fourOf := goodIn_ca (goodIn_r _ [8, 9, 10, 11, 12, 13, 7, 14, 15, 16, 17, 18, 19, 20, 21, 22, 23, 24, 25, 26, 27, 28, 29, 30, 31, 32, 33, 34, 35, 36, 37, 38, 39, 44, 45, 46, 47, 48, 49, 50, 51, 52, 53, 54, 55, 56] (by decide +kernel) (by decide +kernel)) (goodIn_sub (fun _ h => List.mem_cons_of_mem _ (List.mem_append_right _ h)) (by decide +kernel))
set_option maxRecDepth 20000 in
theorem gX8_turn_X8_fourOf : GoodIn wsX8_turn (wsV RX8 197 RX8 yX8_fourOf wsX8_fourOf) := goodIn_app (goodIn_of _ (by decide +kernel)) ggX8_turn_X8_fourOf
set_option maxRecDepth 20000 in
theorem ggX8_turn_X2_turnedAt : GoodIn wsX8_turn wsX2_turnedAt := goodIn_r _ [42, 43] (by decide +kernel) (by decide +kernel)
set_option maxRecDepth 20000 in
theorem gX8_turn_X2_turnedAt_n201 : GoodIn wsX8_turn (wsX2_turnedAt) := ggX8_turn_X2_turnedAt
theorem dX8_turn_0 : decode cX8_turn 0 = .ok (.aload_n 0, 1) := by decide +kernel
theorem dX8_turn_1 : decode cX8_turn 1 = .ok (.iload_n 1, 1) := by decide +kernel
theorem dX8_turn_2 : decode cX8_turn 2 = .ok (.iload_n 2, 1) := by decide +kernel
theorem dX8_turn_3 : decode cX8_turn 3 = .ok (.invokevirtual 197, 3) := by decide +kernel
theorem dX8_turn_6 : decode cX8_turn 6 = .ok (.astore_n 3, 1) := by decide +kernel
theorem dX8_turn_7 : decode cX8_turn 7 = .ok (.aload_n 3, 1) := by decide +kernel
theorem dX8_turn_8 : decode cX8_turn 8 = .ok (.iload_n 2, 1) := by decide +kernel
theorem dX8_turn_9 : decode cX8_turn 9 = .ok (.invokestatic 201, 3) := by decide +kernel
theorem dX8_turn_12 : decode cX8_turn 12 = .ok (.lstore 4, 2) := by decide +kernel
theorem dX8_turn_14 : decode cX8_turn 14 = .ok (.lload 4, 2) := by decide +kernel
theorem dX8_turn_16 : decode cX8_turn 16 = .ok (.ldc2_w 205, 3) := by decide +kernel
theorem dX8_turn_19 : decode cX8_turn 19 = .ok (.lcmp, 1) := by decide +kernel
theorem dX8_turn_20 : decode cX8_turn 20 = .ok (.ifCond .le 13, 3) := by decide +kernel
theorem dX8_turn_23 : decode cX8_turn 23 = .ok (.new 67, 3) := by decide +kernel
theorem dX8_turn_26 : decode cX8_turn 26 = .ok (.dup, 1) := by decide +kernel
theorem dX8_turn_27 : decode cX8_turn 27 = .ok (.ldc 207, 2) := by decide +kernel
theorem dX8_turn_29 : decode cX8_turn 29 = .ok (.invokespecial 71, 3) := by decide +kernel
theorem dX8_turn_32 : decode cX8_turn 32 = .ok (.athrow, 1) := by decide +kernel
theorem dX8_turn_33 : decode cX8_turn 33 = .ok (.aload_n 3, 1) := by decide +kernel
theorem dX8_turn_34 : decode cX8_turn 34 = .ok (.iload_n 2, 1) := by decide +kernel
theorem dX8_turn_35 : decode cX8_turn 35 = .ok (.lload 4, 2) := by decide +kernel
theorem dX8_turn_37 : decode cX8_turn 37 = .ok (.lastore, 1) := by decide +kernel
theorem dX8_turn_38 : decode cX8_turn 38 = .ok (.lload 4, 2) := by decide +kernel
theorem dX8_turn_40 : decode cX8_turn 40 = .ok (.lreturn, 1) := by decide +kernel
set_option maxRecDepth 20000 in
theorem ggX8_curvature_X8_fourOf : GoodIn wsX8_curvature wsX8_fourOf := goodIn_ca (goodIn_r _ [5, 6, 7, 8, 9, 10, 4, 11, 12, 13, 14, 15, 16, 17, 18, 19, 20, 21, 22, 23, 24, 25, 26, 27, 28, 29, 30, 31, 32, 33, 34, 35, 36, 37, 38, 39, 40, 41, 42, 43, 44, 45, 46, 47, 48, 49] (by decide +kernel) (by decide +kernel)) (goodIn_sub (fun _ h => List.mem_cons_of_mem _ (List.mem_append_right _ h)) (by decide +kernel))
set_option maxRecDepth 20000 in
theorem gX8_curvature_X8_fourOf : GoodIn wsX8_curvature (wsV RX8 197 RX8 yX8_fourOf wsX8_fourOf) := goodIn_app (goodIn_of _ (by decide +kernel)) ggX8_curvature_X8_fourOf
theorem dX8_curvature_0 : decode cX8_curvature 0 = .ok (.aload_n 0, 1) := by decide +kernel
theorem dX8_curvature_1 : decode cX8_curvature 1 = .ok (.iload_n 1, 1) := by decide +kernel
theorem dX8_curvature_2 : decode cX8_curvature 2 = .ok (.iload_n 2, 1) := by decide +kernel
theorem dX8_curvature_3 : decode cX8_curvature 3 = .ok (.invokevirtual 197, 3) := by decide +kernel
theorem dX8_curvature_6 : decode cX8_curvature 6 = .ok (.iload_n 2, 1) := by decide +kernel
theorem dX8_curvature_7 : decode cX8_curvature 7 = .ok (.laload, 1) := by decide +kernel
theorem dX8_curvature_8 : decode cX8_curvature 8 = .ok (.lreturn, 1) := by decide +kernel
set_option maxRecDepth 20000 in
theorem ggX8_radius_X8_fourOf : GoodIn wsX8_radius wsX8_fourOf := goodIn_ca (goodIn_r _ [5, 6, 7, 8, 9, 10, 4, 11, 12, 13, 14, 15, 16, 17, 18, 19, 20, 21, 22, 23, 24, 25, 26, 27, 28, 29, 30, 31, 32, 33, 34, 35, 36, 37, 38, 39, 40, 41, 42, 43, 44, 45, 46, 47, 48, 49] (by decide +kernel) (by decide +kernel)) (goodIn_sub (fun _ h => List.mem_cons_of_mem _ (List.mem_append_right _ h)) (by decide +kernel))
set_option maxRecDepth 20000 in
theorem gX8_radius_X8_fourOf : GoodIn wsX8_radius (wsV RX8 197 RX8 yX8_fourOf wsX8_fourOf) := goodIn_app (goodIn_of _ (by decide +kernel)) ggX8_radius_X8_fourOf
theorem dX8_radius_0 : decode cX8_radius 0 = .ok (.fconst 1, 1) := by decide +kernel
theorem dX8_radius_1 : decode cX8_radius 1 = .ok (.aload_n 0, 1) := by decide +kernel
theorem dX8_radius_2 : decode cX8_radius 2 = .ok (.iload_n 1, 1) := by decide +kernel
theorem dX8_radius_3 : decode cX8_radius 3 = .ok (.iload_n 2, 1) := by decide +kernel
theorem dX8_radius_4 : decode cX8_radius 4 = .ok (.invokevirtual 197, 3) := by decide +kernel
theorem dX8_radius_7 : decode cX8_radius 7 = .ok (.iload_n 2, 1) := by decide +kernel
theorem dX8_radius_8 : decode cX8_radius 8 = .ok (.laload, 1) := by decide +kernel
theorem dX8_radius_9 : decode cX8_radius 9 = .ok (.l2f, 1) := by decide +kernel
theorem dX8_radius_10 : decode cX8_radius 10 = .ok (.fdiv, 1) := by decide +kernel
theorem dX8_radius_11 : decode cX8_radius 11 = .ok (.freturn, 1) := by decide +kernel
set_option maxRecDepth 20000 in
theorem ggX8_root_X8_gasketOf : GoodIn wsX8_root wsX8_gasketOf := goodIn_ca (goodIn_r _ [7, 1, 2, 8, 9, 10, 11, 12, 13, 14, 15, 16, 17, 18, 19, 20, 21, 22, 23, 24, 25, 26, 27, 28, 29, 30, 31, 32, 36, 37, 38, 39, 40, 41, 42, 43, 44, 45] (by decide +kernel) (by decide +kernel)) (goodIn_sub (fun _ h => List.mem_cons_of_mem _ (List.mem_append_right _ h)) (by decide +kernel))
set_option maxRecDepth 20000 in
theorem gX8_root_X8_gasketOf : GoodIn wsX8_root (wsV RX8 209 RX8 yX8_gasketOf wsX8_gasketOf) := goodIn_app (goodIn_of _ (by decide +kernel)) ggX8_root_X8_gasketOf
theorem dX8_root_0 : decode cX8_root 0 = .ok (.aload_n 0, 1) := by decide +kernel
theorem dX8_root_1 : decode cX8_root 1 = .ok (.iload_n 1, 1) := by decide +kernel
theorem dX8_root_2 : decode cX8_root 2 = .ok (.invokevirtual 209, 3) := by decide +kernel
theorem dX8_root_5 : decode cX8_root 5 = .ok (.astore_n 3, 1) := by decide +kernel
theorem dX8_root_6 : decode cX8_root 6 = .ok (.iload_n 2, 1) := by decide +kernel
theorem dX8_root_7 : decode cX8_root 7 = .ok (.ifCond .lt 8, 3) := by decide +kernel
theorem dX8_root_10 : decode cX8_root 10 = .ok (.iload_n 2, 1) := by decide +kernel
theorem dX8_root_11 : decode cX8_root 11 = .ok (.iconst 3, 1) := by decide +kernel
theorem dX8_root_12 : decode cX8_root 12 = .ok (.if_icmp .le 13, 3) := by decide +kernel
theorem dX8_root_15 : decode cX8_root 15 = .ok (.new 56, 3) := by decide +kernel
theorem dX8_root_18 : decode cX8_root 18 = .ok (.dup, 1) := by decide +kernel
theorem dX8_root_19 : decode cX8_root 19 = .ok (.ldc 213, 2) := by decide +kernel
theorem dX8_root_21 : decode cX8_root 21 = .ok (.invokespecial 60, 3) := by decide +kernel
theorem dX8_root_24 : decode cX8_root 24 = .ok (.athrow, 1) := by decide +kernel
theorem dX8_root_25 : decode cX8_root 25 = .ok (.aload_n 3, 1) := by decide +kernel
theorem dX8_root_26 : decode cX8_root 26 = .ok (.getfield 215, 3) := by decide +kernel
theorem dX8_root_29 : decode cX8_root 29 = .ok (.iload_n 2, 1) := by decide +kernel
theorem dX8_root_30 : decode cX8_root 30 = .ok (.laload, 1) := by decide +kernel
theorem dX8_root_31 : decode cX8_root 31 = .ok (.lreturn, 1) := by decide +kernel
set_option maxRecDepth 20000 in
theorem ggX8_count_X8_boundedGasket : GoodIn wsX8_count wsX8_boundedGasket := goodIn_ca (goodIn_ca (goodIn_ca (goodIn_r _ [5, 6, 7, 8, 9, 10, 11, 12, 4, 13, 14, 15, 16, 17, 18, 19, 20, 21, 22, 23, 24, 25, 26, 27, 28, 29, 30, 31, 32, 33, 34, 35, 36, 37, 38, 39, 40, 62, 63, 64, 65, 66, 67, 68, 69, 70, 71, 72, 73, 74] (by decide +kernel) (by decide +kernel)) (goodIn_sub (fun _ h => List.mem_cons_of_mem _ (List.mem_append_left _ (List.mem_append_left _ (List.mem_append_right _ h)))) (by decide +kernel))) (goodIn_sub (fun _ h => List.mem_cons_of_mem _ (List.mem_append_left _ (List.mem_append_right _ h))) (by decide +kernel))) (goodIn_sub (fun _ h => List.mem_cons_of_mem _ (List.mem_append_right _ h)) (by decide +kernel))
set_option maxRecDepth 20000 in
theorem gX8_count_X8_boundedGasket : GoodIn wsX8_count (wsV RX8 219 RX8 yX8_boundedGasket wsX8_boundedGasket) := goodIn_app (goodIn_of _ (by decide +kernel)) ggX8_count_X8_boundedGasket
set_option maxRecDepth 20000 in
theorem ggX8_count_X2_circlesByTurns : GoodIn wsX8_count wsX2_circlesByTurns := goodIn_r _ [44, 45, 46, 47, 48, 49, 50, 51, 52, 53, 42, 54, 55, 56, 57, 58, 59, 60, 61, 62, 63, 64] (by decide +kernel) (by decide +kernel)
set_option maxRecDepth 20000 in
theorem gX8_count_X2_circlesByTurns_n223 : GoodIn wsX8_count (wsX2_circlesByTurns) := ggX8_count_X2_circlesByTurns
theorem dX8_count_0 : decode cX8_count 0 = .ok (.aload_n 0, 1) := by decide +kernel
theorem dX8_count_1 : decode cX8_count 1 = .ok (.iload_n 1, 1) := by decide +kernel
theorem dX8_count_2 : decode cX8_count 2 = .ok (.iload_n 2, 1) := by decide +kernel
theorem dX8_count_3 : decode cX8_count 3 = .ok (.invokevirtual 219, 3) := by decide +kernel
theorem dX8_count_6 : decode cX8_count 6 = .ok (.iload_n 2, 1) := by decide +kernel
theorem dX8_count_7 : decode cX8_count 7 = .ok (.invokevirtual 223, 3) := by decide +kernel
theorem dX8_count_10 : decode cX8_count 10 = .ok (.ireturn, 1) := by decide +kernel
set_option maxRecDepth 20000 in
theorem ggX8_countAnew_X8_boundedGasket : GoodIn wsX8_countAnew wsX8_boundedGasket := goodIn_ca (goodIn_ca (goodIn_ca (goodIn_r _ [5, 6, 7, 8, 9, 10, 11, 12, 4, 13, 14, 15, 16, 17, 18, 19, 20, 21, 22, 23, 24, 25, 26, 27, 28, 29, 30, 31, 32, 33, 34, 35, 36, 37, 38, 39, 40, 66, 67, 68, 69, 70, 71, 72, 73, 74, 75, 76, 77, 78] (by decide +kernel) (by decide +kernel)) (goodIn_sub (fun _ h => List.mem_cons_of_mem _ (List.mem_append_left _ (List.mem_append_left _ (List.mem_append_right _ h)))) (by decide +kernel))) (goodIn_sub (fun _ h => List.mem_cons_of_mem _ (List.mem_append_left _ (List.mem_append_right _ h))) (by decide +kernel))) (goodIn_sub (fun _ h => List.mem_cons_of_mem _ (List.mem_append_right _ h)) (by decide +kernel))
set_option maxRecDepth 20000 in
theorem gX8_countAnew_X8_boundedGasket : GoodIn wsX8_countAnew (wsV RX8 219 RX8 yX8_boundedGasket wsX8_boundedGasket) := goodIn_app (goodIn_of _ (by decide +kernel)) ggX8_countAnew_X8_boundedGasket
set_option maxRecDepth 20000 in
theorem ggX8_countAnew_X2_circlesByThrees : GoodIn wsX8_countAnew wsX2_circlesByThrees := goodIn_r _ [44, 45, 46, 47, 48, 42, 49, 50, 51, 52, 53, 54, 55, 56, 57, 58, 59, 60, 61, 62, 63, 64, 65, 66, 67, 68] (by decide +kernel) (by decide +kernel)
set_option maxRecDepth 20000 in
theorem gX8_countAnew_X2_circlesByThrees_n226 : GoodIn wsX8_countAnew (wsX2_circlesByThrees) := ggX8_countAnew_X2_circlesByThrees
theorem dX8_countAnew_0 : decode cX8_countAnew 0 = .ok (.aload_n 0, 1) := by decide +kernel
theorem dX8_countAnew_1 : decode cX8_countAnew 1 = .ok (.iload_n 1, 1) := by decide +kernel
theorem dX8_countAnew_2 : decode cX8_countAnew 2 = .ok (.iload_n 2, 1) := by decide +kernel
theorem dX8_countAnew_3 : decode cX8_countAnew 3 = .ok (.invokevirtual 219, 3) := by decide +kernel
theorem dX8_countAnew_6 : decode cX8_countAnew 6 = .ok (.iload_n 2, 1) := by decide +kernel
theorem dX8_countAnew_7 : decode cX8_countAnew 7 = .ok (.invokevirtual 226, 3) := by decide +kernel
theorem dX8_countAnew_10 : decode cX8_countAnew 10 = .ok (.ireturn, 1) := by decide +kernel
set_option maxRecDepth 20000 in
theorem ggX8_remainders_X8_gasketOf : GoodIn wsX8_remainders wsX8_gasketOf := goodIn_ca (goodIn_r _ [8, 9, 10, 11, 12, 13, 14, 15, 16, 17, 18, 19, 20, 21, 22, 23, 24, 25, 26, 27, 28, 29, 30, 31, 32, 33, 34, 35, 79, 80, 81, 82, 83, 84, 85, 89, 90, 91] (by decide +kernel) (by decide +kernel)) (goodIn_sub (fun _ h => List.mem_cons_of_mem _ (List.mem_append_right _ h)) (by decide +kernel))
set_option maxRecDepth 20000 in
theorem gX8_remainders_X8_gasketOf : GoodIn wsX8_remainders (wsV RX8 209 RX8 yX8_gasketOf wsX8_gasketOf) := goodIn_app (goodIn_of _ (by decide +kernel)) ggX8_remainders_X8_gasketOf
set_option maxRecDepth 20000 in
theorem ggX8_remainders_X5_allReached : GoodIn wsX8_remainders wsX5_allReached := goodIn_r _ [39, 40, 41, 42, 43, 44, 45, 46, 47, 37, 48, 49, 50, 51, 52, 53, 54, 55, 56, 57, 58, 59, 60, 61, 62, 63, 64, 65, 66, 67, 68, 69, 70, 71, 72, 73, 74, 75, 76, 77, 78, 92, 93] (by decide +kernel) (by decide +kernel)
set_option maxRecDepth 20000 in
theorem gX8_remainders_X5_allReached_n234 : GoodIn wsX8_remainders (wsX5_allReached) := ggX8_remainders_X5_allReached
theorem dX8_remainders_0 : decode cX8_remainders 0 = .ok (.aload_n 0, 1) := by decide +kernel
theorem dX8_remainders_1 : decode cX8_remainders 1 = .ok (.iload_n 1, 1) := by decide +kernel
theorem dX8_remainders_2 : decode cX8_remainders 2 = .ok (.invokevirtual 209, 3) := by decide +kernel
theorem dX8_remainders_5 : decode cX8_remainders 5 = .ok (.astore_n 3, 1) := by decide +kernel
theorem dX8_remainders_6 : decode cX8_remainders 6 = .ok (.iload_n 2, 1) := by decide +kernel
theorem dX8_remainders_7 : decode cX8_remainders 7 = .ok (.iconst 2, 1) := by decide +kernel
theorem dX8_remainders_8 : decode cX8_remainders 8 = .ok (.if_icmp .lt 9, 3) := by decide +kernel
theorem dX8_remainders_11 : decode cX8_remainders 11 = .ok (.iload_n 2, 1) := by decide +kernel
theorem dX8_remainders_12 : decode cX8_remainders 12 = .ok (.bipush 8, 2) := by decide +kernel
theorem dX8_remainders_14 : decode cX8_remainders 14 = .ok (.if_icmp .le 13, 3) := by decide +kernel
theorem dX8_remainders_17 : decode cX8_remainders 17 = .ok (.new 124, 3) := by decide +kernel
theorem dX8_remainders_20 : decode cX8_remainders 20 = .ok (.dup, 1) := by decide +kernel
theorem dX8_remainders_21 : decode cX8_remainders 21 = .ok (.ldc 229, 2) := by decide +kernel
theorem dX8_remainders_23 : decode cX8_remainders 23 = .ok (.invokespecial 128, 3) := by decide +kernel
theorem dX8_remainders_26 : decode cX8_remainders 26 = .ok (.athrow, 1) := by decide +kernel
theorem dX8_remainders_27 : decode cX8_remainders 27 = .ok (.aload_n 0, 1) := by decide +kernel
theorem dX8_remainders_28 : decode cX8_remainders 28 = .ok (.getfield 29, 3) := by decide +kernel
theorem dX8_remainders_31 : decode cX8_remainders 31 = .ok (.aload_n 3, 1) := by decide +kernel
theorem dX8_remainders_32 : decode cX8_remainders 32 = .ok (.getfield 231, 3) := by decide +kernel
theorem dX8_remainders_35 : decode cX8_remainders 35 = .ok (.iload_n 2, 1) := by decide +kernel
theorem dX8_remainders_36 : decode cX8_remainders 36 = .ok (.invokevirtual 234, 3) := by decide +kernel
theorem dX8_remainders_39 : decode cX8_remainders 39 = .ok (.ireturn, 1) := by decide +kernel
set_option maxRecDepth 20000 in
theorem ggX8_areFourWithin_X8_isWithin : GoodIn wsX8_areFourWithin wsX8_isWithin := goodIn_r _ [4] (by decide +kernel) (by decide +kernel)
set_option maxRecDepth 20000 in
theorem gX8_areFourWithin_X8_isWithin : GoodIn wsX8_areFourWithin (va_wsS RX8 172 yX8_isWithin wsX8_isWithin) := goodIn_app (goodIn_of _ (by decide +kernel)) ggX8_areFourWithin_X8_isWithin
theorem dX8_areFourWithin_0 : decode cX8_areFourWithin 0 = .ok (.iload_n 0, 1) := by decide +kernel
theorem dX8_areFourWithin_1 : decode cX8_areFourWithin 1 = .ok (.i2l, 1) := by decide +kernel
theorem dX8_areFourWithin_2 : decode cX8_areFourWithin 2 = .ok (.iload 4, 2) := by decide +kernel
theorem dX8_areFourWithin_4 : decode cX8_areFourWithin 4 = .ok (.i2l, 1) := by decide +kernel
theorem dX8_areFourWithin_5 : decode cX8_areFourWithin 5 = .ok (.invokestatic 172, 3) := by decide +kernel
theorem dX8_areFourWithin_8 : decode cX8_areFourWithin 8 = .ok (.ifCond .eq 40, 3) := by decide +kernel
theorem dX8_areFourWithin_11 : decode cX8_areFourWithin 11 = .ok (.iload_n 1, 1) := by decide +kernel
theorem dX8_areFourWithin_12 : decode cX8_areFourWithin 12 = .ok (.i2l, 1) := by decide +kernel
theorem dX8_areFourWithin_13 : decode cX8_areFourWithin 13 = .ok (.iload 4, 2) := by decide +kernel
theorem dX8_areFourWithin_15 : decode cX8_areFourWithin 15 = .ok (.i2l, 1) := by decide +kernel
theorem dX8_areFourWithin_16 : decode cX8_areFourWithin 16 = .ok (.invokestatic 172, 3) := by decide +kernel
theorem dX8_areFourWithin_19 : decode cX8_areFourWithin 19 = .ok (.ifCond .eq 29, 3) := by decide +kernel
theorem dX8_areFourWithin_22 : decode cX8_areFourWithin 22 = .ok (.iload_n 2, 1) := by decide +kernel
theorem dX8_areFourWithin_23 : decode cX8_areFourWithin 23 = .ok (.i2l, 1) := by decide +kernel
theorem dX8_areFourWithin_24 : decode cX8_areFourWithin 24 = .ok (.iload 4, 2) := by decide +kernel
theorem dX8_areFourWithin_26 : decode cX8_areFourWithin 26 = .ok (.i2l, 1) := by decide +kernel
theorem dX8_areFourWithin_27 : decode cX8_areFourWithin 27 = .ok (.invokestatic 172, 3) := by decide +kernel
theorem dX8_areFourWithin_30 : decode cX8_areFourWithin 30 = .ok (.ifCond .eq 18, 3) := by decide +kernel
theorem dX8_areFourWithin_33 : decode cX8_areFourWithin 33 = .ok (.iload_n 3, 1) := by decide +kernel
theorem dX8_areFourWithin_34 : decode cX8_areFourWithin 34 = .ok (.i2l, 1) := by decide +kernel
theorem dX8_areFourWithin_35 : decode cX8_areFourWithin 35 = .ok (.iload 4, 2) := by decide +kernel
theorem dX8_areFourWithin_37 : decode cX8_areFourWithin 37 = .ok (.i2l, 1) := by decide +kernel
theorem dX8_areFourWithin_38 : decode cX8_areFourWithin 38 = .ok (.invokestatic 172, 3) := by decide +kernel
theorem dX8_areFourWithin_41 : decode cX8_areFourWithin 41 = .ok (.ifCond .eq 7, 3) := by decide +kernel
theorem dX8_areFourWithin_44 : decode cX8_areFourWithin 44 = .ok (.iconst 1, 1) := by decide +kernel
theorem dX8_areFourWithin_45 : decode cX8_areFourWithin 45 = .ok (.goto 4, 3) := by decide +kernel
theorem dX8_areFourWithin_48 : decode cX8_areFourWithin 48 = .ok (.iconst 0, 1) := by decide +kernel
theorem dX8_areFourWithin_49 : decode cX8_areFourWithin 49 = .ok (.ireturn, 1) := by decide +kernel
set_option maxRecDepth 20000 in
theorem ggX8_gasketOf_Jx4a65c_size_8abf5 : GoodIn wsX8_gasketOf wsJx4a65c_size_8abf5 := goodIn_r _ [9, 10, 35, 36, 37] (by decide +kernel) (by decide +kernel)
set_option maxRecDepth 20000 in
theorem gX8_gasketOf_Jx4a65c_size_8abf5 : GoodIn wsX8_gasketOf (wsV RX8 129 RJx4a65c yJx4a65c_size_8abf5 wsJx4a65c_size_8abf5) := goodIn_app (goodIn_of _ (by decide +kernel)) ggX8_gasketOf_Jx4a65c_size_8abf5
set_option maxRecDepth 20000 in
theorem ggX8_gasketOf_Jx4a65c_get_915e3 : GoodIn wsX8_gasketOf wsJx4a65c_get_915e3 := goodIn_r _ [14, 10, 15, 16, 17, 18, 19, 20, 21, 22, 23, 24, 25, 8, 26, 27, 35, 36, 37] (by decide +kernel) (by decide +kernel)
set_option maxRecDepth 20000 in
theorem gX8_gasketOf_Jx4a65c_get_915e3 : GoodIn wsX8_gasketOf (wsV RX8 148 RJx4a65c yJx4a65c_get_915e3 wsJx4a65c_get_915e3) := goodIn_app (goodIn_of _ (by decide +kernel)) ggX8_gasketOf_Jx4a65c_get_915e3
theorem dX8_gasketOf_0 : decode cX8_gasketOf 0 = .ok (.iload_n 1, 1) := by decide +kernel
theorem dX8_gasketOf_1 : decode cX8_gasketOf 1 = .ok (.ifCond .lt 14, 3) := by decide +kernel
theorem dX8_gasketOf_4 : decode cX8_gasketOf 4 = .ok (.iload_n 1, 1) := by decide +kernel
theorem dX8_gasketOf_5 : decode cX8_gasketOf 5 = .ok (.aload_n 0, 1) := by decide +kernel
theorem dX8_gasketOf_6 : decode cX8_gasketOf 6 = .ok (.getfield 23, 3) := by decide +kernel
theorem dX8_gasketOf_9 : decode cX8_gasketOf 9 = .ok (.invokevirtual 129, 3) := by decide +kernel
theorem dX8_gasketOf_12 : decode cX8_gasketOf 12 = .ok (.if_icmp .lt 13, 3) := by decide +kernel
theorem dX8_gasketOf_15 : decode cX8_gasketOf 15 = .ok (.new 56, 3) := by decide +kernel
theorem dX8_gasketOf_18 : decode cX8_gasketOf 18 = .ok (.dup, 1) := by decide +kernel
theorem dX8_gasketOf_19 : decode cX8_gasketOf 19 = .ok (.ldc 238, 2) := by decide +kernel
theorem dX8_gasketOf_21 : decode cX8_gasketOf 21 = .ok (.invokespecial 60, 3) := by decide +kernel
theorem dX8_gasketOf_24 : decode cX8_gasketOf 24 = .ok (.athrow, 1) := by decide +kernel
theorem dX8_gasketOf_25 : decode cX8_gasketOf 25 = .ok (.aload_n 0, 1) := by decide +kernel
theorem dX8_gasketOf_26 : decode cX8_gasketOf 26 = .ok (.getfield 23, 3) := by decide +kernel
theorem dX8_gasketOf_29 : decode cX8_gasketOf 29 = .ok (.iload_n 1, 1) := by decide +kernel
theorem dX8_gasketOf_30 : decode cX8_gasketOf 30 = .ok (.invokevirtual 148, 3) := by decide +kernel
theorem dX8_gasketOf_33 : decode cX8_gasketOf 33 = .ok (.checkcast 187, 3) := by decide +kernel
theorem dX8_gasketOf_36 : decode cX8_gasketOf 36 = .ok (.areturn, 1) := by decide +kernel
set_option maxRecDepth 20000 in
theorem ggX8_fourOf_X8_gasketOf : GoodIn wsX8_fourOf wsX8_gasketOf := goodIn_ca (goodIn_r _ [7, 1, 2, 8, 9, 10, 11, 12, 13, 14, 15, 16, 17, 18, 19, 20, 21, 22, 23, 24, 25, 26, 27, 28, 29, 30, 31, 32, 36, 37, 38, 39, 40, 41, 42, 43, 44, 45] (by decide +kernel) (by decide +kernel)) (goodIn_sub (fun _ h => List.mem_cons_of_mem _ (List.mem_append_right _ h)) (by decide +kernel))
set_option maxRecDepth 20000 in
theorem gX8_fourOf_X8_gasketOf : GoodIn wsX8_fourOf (wsV RX8 209 RX8 yX8_gasketOf wsX8_gasketOf) := goodIn_app (goodIn_of _ (by decide +kernel)) ggX8_fourOf_X8_gasketOf
theorem dX8_fourOf_0 : decode cX8_fourOf 0 = .ok (.aload_n 0, 1) := by decide +kernel
theorem dX8_fourOf_1 : decode cX8_fourOf 1 = .ok (.iload_n 1, 1) := by decide +kernel
theorem dX8_fourOf_2 : decode cX8_fourOf 2 = .ok (.invokevirtual 209, 3) := by decide +kernel
theorem dX8_fourOf_5 : decode cX8_fourOf 5 = .ok (.astore_n 3, 1) := by decide +kernel
theorem dX8_fourOf_6 : decode cX8_fourOf 6 = .ok (.iload_n 2, 1) := by decide +kernel
theorem dX8_fourOf_7 : decode cX8_fourOf 7 = .ok (.ifCond .lt 8, 3) := by decide +kernel
theorem dX8_fourOf_10 : decode cX8_fourOf 10 = .ok (.iload_n 2, 1) := by decide +kernel
theorem dX8_fourOf_11 : decode cX8_fourOf 11 = .ok (.iconst 3, 1) := by decide +kernel
theorem dX8_fourOf_12 : decode cX8_fourOf 12 = .ok (.if_icmp .le 13, 3) := by decide +kernel
theorem dX8_fourOf_15 : decode cX8_fourOf 15 = .ok (.new 56, 3) := by decide +kernel
theorem dX8_fourOf_18 : decode cX8_fourOf 18 = .ok (.dup, 1) := by decide +kernel
theorem dX8_fourOf_19 : decode cX8_fourOf 19 = .ok (.ldc 240, 2) := by decide +kernel
theorem dX8_fourOf_21 : decode cX8_fourOf 21 = .ok (.invokespecial 60, 3) := by decide +kernel
theorem dX8_fourOf_24 : decode cX8_fourOf 24 = .ok (.athrow, 1) := by decide +kernel
theorem dX8_fourOf_25 : decode cX8_fourOf 25 = .ok (.aload_n 3, 1) := by decide +kernel
theorem dX8_fourOf_26 : decode cX8_fourOf 26 = .ok (.getfield 231, 3) := by decide +kernel
theorem dX8_fourOf_29 : decode cX8_fourOf 29 = .ok (.areturn, 1) := by decide +kernel
set_option maxRecDepth 20000 in
theorem ggX8_boundedGasket_X8_gasketOf : GoodIn wsX8_boundedGasket wsX8_gasketOf := goodIn_ca (goodIn_r _ [9, 10, 11, 12, 13, 14, 15, 16, 17, 18, 19, 20, 21, 22, 23, 24, 25, 26, 27, 28, 29, 30, 31, 32, 33, 34, 35, 36, 40, 41, 42, 43, 44, 45, 46, 47, 48, 49] (by decide +kernel) (by decide +kernel)) (goodIn_sub (fun _ h => List.mem_cons_of_mem _ (List.mem_append_right _ h)) (by decide +kernel))
set_option maxRecDepth 20000 in
theorem gX8_boundedGasket_X8_gasketOf : GoodIn wsX8_boundedGasket (wsV RX8 209 RX8 yX8_gasketOf wsX8_gasketOf) := goodIn_app (goodIn_of _ (by decide +kernel)) ggX8_boundedGasket_X8_gasketOf
theorem dX8_boundedGasket_0 : decode cX8_boundedGasket 0 = .ok (.aload_n 0, 1) := by decide +kernel
theorem dX8_boundedGasket_1 : decode cX8_boundedGasket 1 = .ok (.iload_n 1, 1) := by decide +kernel
theorem dX8_boundedGasket_2 : decode cX8_boundedGasket 2 = .ok (.invokevirtual 209, 3) := by decide +kernel
theorem dX8_boundedGasket_5 : decode cX8_boundedGasket 5 = .ok (.astore_n 3, 1) := by decide +kernel
theorem dX8_boundedGasket_6 : decode cX8_boundedGasket 6 = .ok (.iload_n 2, 1) := by decide +kernel
theorem dX8_boundedGasket_7 : decode cX8_boundedGasket 7 = .ok (.iconst 1, 1) := by decide +kernel
theorem dX8_boundedGasket_8 : decode cX8_boundedGasket 8 = .ok (.if_icmp .lt 10, 3) := by decide +kernel
theorem dX8_boundedGasket_11 : decode cX8_boundedGasket 11 = .ok (.iload_n 2, 1) := by decide +kernel
theorem dX8_boundedGasket_12 : decode cX8_boundedGasket 12 = .ok (.sipush 1000, 3) := by decide +kernel
theorem dX8_boundedGasket_15 : decode cX8_boundedGasket 15 = .ok (.if_icmp .le 13, 3) := by decide +kernel
theorem dX8_boundedGasket_18 : decode cX8_boundedGasket 18 = .ok (.new 124, 3) := by decide +kernel
theorem dX8_boundedGasket_21 : decode cX8_boundedGasket 21 = .ok (.dup, 1) := by decide +kernel
theorem dX8_boundedGasket_22 : decode cX8_boundedGasket 22 = .ok (.ldc 242, 2) := by decide +kernel
theorem dX8_boundedGasket_24 : decode cX8_boundedGasket 24 = .ok (.invokespecial 128, 3) := by decide +kernel
theorem dX8_boundedGasket_27 : decode cX8_boundedGasket 27 = .ok (.athrow, 1) := by decide +kernel
theorem dX8_boundedGasket_28 : decode cX8_boundedGasket 28 = .ok (.aload_n 3, 1) := by decide +kernel
theorem dX8_boundedGasket_29 : decode cX8_boundedGasket 29 = .ok (.getfield 215, 3) := by decide +kernel
theorem dX8_boundedGasket_32 : decode cX8_boundedGasket 32 = .ok (.iconst 0, 1) := by decide +kernel
theorem dX8_boundedGasket_33 : decode cX8_boundedGasket 33 = .ok (.laload, 1) := by decide +kernel
theorem dX8_boundedGasket_34 : decode cX8_boundedGasket 34 = .ok (.lconst 0, 1) := by decide +kernel
theorem dX8_boundedGasket_35 : decode cX8_boundedGasket 35 = .ok (.lcmp, 1) := by decide +kernel
theorem dX8_boundedGasket_36 : decode cX8_boundedGasket 36 = .ok (.ifCond .lt 13, 3) := by decide +kernel
theorem dX8_boundedGasket_39 : decode cX8_boundedGasket 39 = .ok (.new 67, 3) := by decide +kernel
theorem dX8_boundedGasket_42 : decode cX8_boundedGasket 42 = .ok (.dup, 1) := by decide +kernel
theorem dX8_boundedGasket_43 : decode cX8_boundedGasket 43 = .ok (.ldc 244, 2) := by decide +kernel
theorem dX8_boundedGasket_45 : decode cX8_boundedGasket 45 = .ok (.invokespecial 71, 3) := by decide +kernel
theorem dX8_boundedGasket_48 : decode cX8_boundedGasket 48 = .ok (.athrow, 1) := by decide +kernel
theorem dX8_boundedGasket_49 : decode cX8_boundedGasket 49 = .ok (.aload_n 3, 1) := by decide +kernel
theorem dX8_boundedGasket_50 : decode cX8_boundedGasket 50 = .ok (.areturn, 1) := by decide +kernel
set_option maxRecDepth 20000 in
theorem ggX8_ford_X8_refuseNoFraction : GoodIn wsX8_ford wsX8_refuseNoFraction := goodIn_ca (goodIn_r _ [5, 6, 7, 8, 9, 10, 11, 4, 12, 13, 14, 15, 16, 17, 18, 19] (by decide +kernel) (by decide +kernel)) (goodIn_sub (fun _ h => List.mem_cons_of_mem _ (List.mem_append_right _ h)) (by decide +kernel))
set_option maxRecDepth 20000 in
theorem gX8_ford_X8_refuseNoFraction : GoodIn wsX8_ford (va_wsS RX8 246 yX8_refuseNoFraction wsX8_refuseNoFraction) := goodIn_app (goodIn_of _ (by decide +kernel)) ggX8_ford_X8_refuseNoFraction
set_option maxRecDepth 20000 in
theorem ggX8_ford_X1_crossed : GoodIn wsX8_ford wsX1_crossed := goodIn_r _ [21] (by decide +kernel) (by decide +kernel)
set_option maxRecDepth 20000 in
theorem gX8_ford_X1_crossed_n250 : GoodIn wsX8_ford (wsX1_crossed) := ggX8_ford_X1_crossed
theorem dX8_ford_0 : decode cX8_ford 0 = .ok (.iload_n 1, 1) := by decide +kernel
theorem dX8_ford_1 : decode cX8_ford 1 = .ok (.iload_n 2, 1) := by decide +kernel
theorem dX8_ford_2 : decode cX8_ford 2 = .ok (.invokestatic 246, 3) := by decide +kernel
theorem dX8_ford_5 : decode cX8_ford 5 = .ok (.iload_n 3, 1) := by decide +kernel
theorem dX8_ford_6 : decode cX8_ford 6 = .ok (.iload 4, 2) := by decide +kernel
theorem dX8_ford_8 : decode cX8_ford 8 = .ok (.invokestatic 246, 3) := by decide +kernel
theorem dX8_ford_11 : decode cX8_ford 11 = .ok (.iload_n 1, 1) := by decide +kernel
theorem dX8_ford_12 : decode cX8_ford 12 = .ok (.i2l, 1) := by decide +kernel
theorem dX8_ford_13 : decode cX8_ford 13 = .ok (.iload_n 2, 1) := by decide +kernel
theorem dX8_ford_14 : decode cX8_ford 14 = .ok (.i2l, 1) := by decide +kernel
theorem dX8_ford_15 : decode cX8_ford 15 = .ok (.iload_n 3, 1) := by decide +kernel
theorem dX8_ford_16 : decode cX8_ford 16 = .ok (.i2l, 1) := by decide +kernel
theorem dX8_ford_17 : decode cX8_ford 17 = .ok (.iload 4, 2) := by decide +kernel
theorem dX8_ford_19 : decode cX8_ford 19 = .ok (.i2l, 1) := by decide +kernel
theorem dX8_ford_20 : decode cX8_ford 20 = .ok (.invokestatic 250, 3) := by decide +kernel
theorem dX8_ford_23 : decode cX8_ford 23 = .ok (.lstore 5, 2) := by decide +kernel
theorem dX8_ford_25 : decode cX8_ford 25 = .ok (.lload 5, 2) := by decide +kernel
theorem dX8_ford_27 : decode cX8_ford 27 = .ok (.lconst 0, 1) := by decide +kernel
theorem dX8_ford_28 : decode cX8_ford 28 = .ok (.lcmp, 1) := by decide +kernel
theorem dX8_ford_29 : decode cX8_ford 29 = .ok (.ifCond .ne 5, 3) := by decide +kernel
theorem dX8_ford_32 : decode cX8_ford 32 = .ok (.iconst 2, 1) := by decide +kernel
theorem dX8_ford_33 : decode cX8_ford 33 = .ok (.ireturn, 1) := by decide +kernel
theorem dX8_ford_34 : decode cX8_ford 34 = .ok (.lload 5, 2) := by decide +kernel
theorem dX8_ford_36 : decode cX8_ford 36 = .ok (.lconst 1, 1) := by decide +kernel
theorem dX8_ford_37 : decode cX8_ford 37 = .ok (.lcmp, 1) := by decide +kernel
theorem dX8_ford_38 : decode cX8_ford 38 = .ok (.ifCond .eq 12, 3) := by decide +kernel
theorem dX8_ford_41 : decode cX8_ford 41 = .ok (.lload 5, 2) := by decide +kernel
theorem dX8_ford_43 : decode cX8_ford 43 = .ok (.ldc2_w 256, 3) := by decide +kernel
theorem dX8_ford_46 : decode cX8_ford 46 = .ok (.lcmp, 1) := by decide +kernel
theorem dX8_ford_47 : decode cX8_ford 47 = .ok (.ifCond .ne 7, 3) := by decide +kernel
theorem dX8_ford_50 : decode cX8_ford 50 = .ok (.iconst 1, 1) := by decide +kernel
theorem dX8_ford_51 : decode cX8_ford 51 = .ok (.goto 4, 3) := by decide +kernel
theorem dX8_ford_54 : decode cX8_ford 54 = .ok (.iconst 0, 1) := by decide +kernel
theorem dX8_ford_55 : decode cX8_ford 55 = .ok (.ireturn, 1) := by decide +kernel
set_option maxRecDepth 20000 in
theorem ggX8_between_X8_refuseNoFraction : GoodIn wsX8_between wsX8_refuseNoFraction := goodIn_ca (goodIn_r _ [6, 1, 2, 7, 8, 9, 10, 5, 11, 12, 13, 14, 15, 16, 17, 18] (by decide +kernel) (by decide +kernel)) (goodIn_sub (fun _ h => List.mem_cons_of_mem _ (List.mem_append_right _ h)) (by decide +kernel))
set_option maxRecDepth 20000 in
theorem gX8_between_X8_refuseNoFraction : GoodIn wsX8_between (va_wsS RX8 246 yX8_refuseNoFraction wsX8_refuseNoFraction) := goodIn_app (goodIn_of _ (by decide +kernel)) ggX8_between_X8_refuseNoFraction
set_option maxRecDepth 20000 in
theorem ggX8_between_X1_crossed : GoodIn wsX8_between wsX1_crossed := goodIn_r _ [20] (by decide +kernel) (by decide +kernel)
set_option maxRecDepth 20000 in
theorem gX8_between_X1_crossed_n250 : GoodIn wsX8_between (wsX1_crossed) := ggX8_between_X1_crossed
set_option maxRecDepth 20000 in
theorem ggX8_between_X1_simplest : GoodIn wsX8_between wsX1_simplest := goodIn_r _ [22, 23, 24, 25, 26] (by decide +kernel) (by decide +kernel)
set_option maxRecDepth 20000 in
theorem gX8_between_X1_simplest_n258 : GoodIn wsX8_between (wsX1_simplest) := ggX8_between_X1_simplest
theorem dX8_between_0 : decode cX8_between 0 = .ok (.iload_n 1, 1) := by decide +kernel
theorem dX8_between_1 : decode cX8_between 1 = .ok (.iload_n 2, 1) := by decide +kernel
theorem dX8_between_2 : decode cX8_between 2 = .ok (.invokestatic 246, 3) := by decide +kernel
theorem dX8_between_5 : decode cX8_between 5 = .ok (.iload_n 3, 1) := by decide +kernel
theorem dX8_between_6 : decode cX8_between 6 = .ok (.iload 4, 2) := by decide +kernel
theorem dX8_between_8 : decode cX8_between 8 = .ok (.invokestatic 246, 3) := by decide +kernel
theorem dX8_between_11 : decode cX8_between 11 = .ok (.iload_n 1, 1) := by decide +kernel
theorem dX8_between_12 : decode cX8_between 12 = .ok (.i2l, 1) := by decide +kernel
theorem dX8_between_13 : decode cX8_between 13 = .ok (.iload_n 2, 1) := by decide +kernel
theorem dX8_between_14 : decode cX8_between 14 = .ok (.i2l, 1) := by decide +kernel
theorem dX8_between_15 : decode cX8_between 15 = .ok (.iload_n 3, 1) := by decide +kernel
theorem dX8_between_16 : decode cX8_between 16 = .ok (.i2l, 1) := by decide +kernel
theorem dX8_between_17 : decode cX8_between 17 = .ok (.iload 4, 2) := by decide +kernel
theorem dX8_between_19 : decode cX8_between 19 = .ok (.i2l, 1) := by decide +kernel
theorem dX8_between_20 : decode cX8_between 20 = .ok (.invokestatic 250, 3) := by decide +kernel
theorem dX8_between_23 : decode cX8_between 23 = .ok (.lstore 6, 2) := by decide +kernel
theorem dX8_between_25 : decode cX8_between 25 = .ok (.lload 6, 2) := by decide +kernel
theorem dX8_between_27 : decode cX8_between 27 = .ok (.lconst 0, 1) := by decide +kernel
theorem dX8_between_28 : decode cX8_between 28 = .ok (.lcmp, 1) := by decide +kernel
theorem dX8_between_29 : decode cX8_between 29 = .ok (.ifCond .ne 13, 3) := by decide +kernel
theorem dX8_between_32 : decode cX8_between 32 = .ok (.new 124, 3) := by decide +kernel
theorem dX8_between_35 : decode cX8_between 35 = .ok (.dup, 1) := by decide +kernel
theorem dX8_between_36 : decode cX8_between 36 = .ok (.ldc 160, 2) := by decide +kernel
theorem dX8_between_38 : decode cX8_between 38 = .ok (.invokespecial 128, 3) := by decide +kernel
theorem dX8_between_41 : decode cX8_between 41 = .ok (.athrow, 1) := by decide +kernel
theorem dX8_between_42 : decode cX8_between 42 = .ok (.lload 6, 2) := by decide +kernel
theorem dX8_between_44 : decode cX8_between 44 = .ok (.lconst 0, 1) := by decide +kernel
theorem dX8_between_45 : decode cX8_between 45 = .ok (.lcmp, 1) := by decide +kernel
theorem dX8_between_46 : decode cX8_between 46 = .ok (.ifCond .ge 20, 3) := by decide +kernel
theorem dX8_between_49 : decode cX8_between 49 = .ok (.iload_n 1, 1) := by decide +kernel
theorem dX8_between_50 : decode cX8_between 50 = .ok (.i2l, 1) := by decide +kernel
theorem dX8_between_51 : decode cX8_between 51 = .ok (.iload_n 2, 1) := by decide +kernel
theorem dX8_between_52 : decode cX8_between 52 = .ok (.i2l, 1) := by decide +kernel
theorem dX8_between_53 : decode cX8_between 53 = .ok (.iload_n 3, 1) := by decide +kernel
theorem dX8_between_54 : decode cX8_between 54 = .ok (.i2l, 1) := by decide +kernel
theorem dX8_between_55 : decode cX8_between 55 = .ok (.iload 4, 2) := by decide +kernel
theorem dX8_between_57 : decode cX8_between 57 = .ok (.i2l, 1) := by decide +kernel
theorem dX8_between_58 : decode cX8_between 58 = .ok (.iload 5, 2) := by decide +kernel
theorem dX8_between_60 : decode cX8_between 60 = .ok (.invokestatic 258, 3) := by decide +kernel
theorem dX8_between_63 : decode cX8_between 63 = .ok (.goto 17, 3) := by decide +kernel
theorem dX8_between_66 : decode cX8_between 66 = .ok (.iload_n 3, 1) := by decide +kernel
theorem dX8_between_67 : decode cX8_between 67 = .ok (.i2l, 1) := by decide +kernel
theorem dX8_between_68 : decode cX8_between 68 = .ok (.iload 4, 2) := by decide +kernel
theorem dX8_between_70 : decode cX8_between 70 = .ok (.i2l, 1) := by decide +kernel
theorem dX8_between_71 : decode cX8_between 71 = .ok (.iload_n 1, 1) := by decide +kernel
theorem dX8_between_72 : decode cX8_between 72 = .ok (.i2l, 1) := by decide +kernel
theorem dX8_between_73 : decode cX8_between 73 = .ok (.iload_n 2, 1) := by decide +kernel
theorem dX8_between_74 : decode cX8_between 74 = .ok (.i2l, 1) := by decide +kernel
theorem dX8_between_75 : decode cX8_between 75 = .ok (.iload 5, 2) := by decide +kernel
theorem dX8_between_77 : decode cX8_between 77 = .ok (.invokestatic 258, 3) := by decide +kernel
theorem dX8_between_80 : decode cX8_between 80 = .ok (.lreturn, 1) := by decide +kernel
set_option maxRecDepth 20000 in
theorem ggX8_refuseNoFraction_X8_isWithin : GoodIn wsX8_refuseNoFraction wsX8_isWithin := goodIn_r _ [8] (by decide +kernel) (by decide +kernel)
set_option maxRecDepth 20000 in
theorem gX8_refuseNoFraction_X8_isWithin : GoodIn wsX8_refuseNoFraction (va_wsS RX8 172 yX8_isWithin wsX8_isWithin) := goodIn_app (goodIn_of _ (by decide +kernel)) ggX8_refuseNoFraction_X8_isWithin
set_option maxRecDepth 20000 in
theorem ggX8_refuseNoFraction_X1_isLowest : GoodIn wsX8_refuseNoFraction wsX1_isLowest := goodIn_r _ [11, 12, 13, 14, 15] (by decide +kernel) (by decide +kernel)
set_option maxRecDepth 20000 in
theorem gX8_refuseNoFraction_X1_isLowest_n262 : GoodIn wsX8_refuseNoFraction (wsX1_isLowest) := ggX8_refuseNoFraction_X1_isLowest
theorem dX8_refuseNoFraction_0 : decode cX8_refuseNoFraction 0 = .ok (.iload_n 0, 1) := by decide +kernel
theorem dX8_refuseNoFraction_1 : decode cX8_refuseNoFraction 1 = .ok (.i2l, 1) := by decide +kernel
theorem dX8_refuseNoFraction_2 : decode cX8_refuseNoFraction 2 = .ok (.ldc2_w 170, 3) := by decide +kernel
theorem dX8_refuseNoFraction_5 : decode cX8_refuseNoFraction 5 = .ok (.invokestatic 172, 3) := by decide +kernel
theorem dX8_refuseNoFraction_8 : decode cX8_refuseNoFraction 8 = .ok (.ifCond .eq 14, 3) := by decide +kernel
theorem dX8_refuseNoFraction_11 : decode cX8_refuseNoFraction 11 = .ok (.iload_n 1, 1) := by decide +kernel
theorem dX8_refuseNoFraction_12 : decode cX8_refuseNoFraction 12 = .ok (.iconst 1, 1) := by decide +kernel
theorem dX8_refuseNoFraction_13 : decode cX8_refuseNoFraction 13 = .ok (.if_icmp .lt 9, 3) := by decide +kernel
theorem dX8_refuseNoFraction_16 : decode cX8_refuseNoFraction 16 = .ok (.iload_n 1, 1) := by decide +kernel
theorem dX8_refuseNoFraction_17 : decode cX8_refuseNoFraction 17 = .ok (.ldc 176, 2) := by decide +kernel
theorem dX8_refuseNoFraction_19 : decode cX8_refuseNoFraction 19 = .ok (.if_icmp .le 13, 3) := by decide +kernel
theorem dX8_refuseNoFraction_22 : decode cX8_refuseNoFraction 22 = .ok (.new 124, 3) := by decide +kernel
theorem dX8_refuseNoFraction_25 : decode cX8_refuseNoFraction 25 = .ok (.dup, 1) := by decide +kernel
theorem dX8_refuseNoFraction_26 : decode cX8_refuseNoFraction 26 = .ok (.ldc 126, 2) := by decide +kernel
theorem dX8_refuseNoFraction_28 : decode cX8_refuseNoFraction 28 = .ok (.invokespecial 128, 3) := by decide +kernel
theorem dX8_refuseNoFraction_31 : decode cX8_refuseNoFraction 31 = .ok (.athrow, 1) := by decide +kernel
theorem dX8_refuseNoFraction_32 : decode cX8_refuseNoFraction 32 = .ok (.iload_n 0, 1) := by decide +kernel
theorem dX8_refuseNoFraction_33 : decode cX8_refuseNoFraction 33 = .ok (.i2l, 1) := by decide +kernel
theorem dX8_refuseNoFraction_34 : decode cX8_refuseNoFraction 34 = .ok (.iload_n 1, 1) := by decide +kernel
theorem dX8_refuseNoFraction_35 : decode cX8_refuseNoFraction 35 = .ok (.i2l, 1) := by decide +kernel
theorem dX8_refuseNoFraction_36 : decode cX8_refuseNoFraction 36 = .ok (.invokestatic 262, 3) := by decide +kernel
theorem dX8_refuseNoFraction_39 : decode cX8_refuseNoFraction 39 = .ok (.ifCond .ne 14, 3) := by decide +kernel
theorem dX8_refuseNoFraction_42 : decode cX8_refuseNoFraction 42 = .ok (.new 124, 3) := by decide +kernel
theorem dX8_refuseNoFraction_45 : decode cX8_refuseNoFraction 45 = .ok (.dup, 1) := by decide +kernel
theorem dX8_refuseNoFraction_46 : decode cX8_refuseNoFraction 46 = .ok (.ldc_w 265, 3) := by decide +kernel
theorem dX8_refuseNoFraction_49 : decode cX8_refuseNoFraction 49 = .ok (.invokespecial 128, 3) := by decide +kernel
theorem dX8_refuseNoFraction_52 : decode cX8_refuseNoFraction 52 = .ok (.athrow, 1) := by decide +kernel
theorem dX8_refuseNoFraction_53 : decode cX8_refuseNoFraction 53 = .ok (.return_, 1) := by decide +kernel
set_option maxRecDepth 20000 in
theorem ggX8_tell_X8_areFourWithin : GoodIn wsX8_tell wsX8_areFourWithin := goodIn_r _ [12, 13, 14, 11, 15] (by decide +kernel) (by decide +kernel)
set_option maxRecDepth 20000 in
theorem gX8_tell_X8_areFourWithin : GoodIn wsX8_tell (va_wsS RX8 182 yX8_areFourWithin wsX8_areFourWithin) := goodIn_app (goodIn_of _ (by decide +kernel)) ggX8_tell_X8_areFourWithin
set_option maxRecDepth 20000 in
theorem ggX8_tell_Jx4a65c_size_8abf5 : GoodIn wsX8_tell wsJx4a65c_size_8abf5 := goodIn_r _ [20, 21, 96, 97, 98] (by decide +kernel) (by decide +kernel)
set_option maxRecDepth 20000 in
theorem gX8_tell_Jx4a65c_size_8abf5 : GoodIn wsX8_tell (wsV RX8 129 RJx4a65c yJx4a65c_size_8abf5 wsJx4a65c_size_8abf5) := goodIn_app (goodIn_of _ (by decide +kernel)) ggX8_tell_Jx4a65c_size_8abf5
set_option maxRecDepth 20000 in
theorem ggX8_tell_X6_init : GoodIn wsX8_tell wsX6_init := goodIn_r _ [23, 24, 25, 26, 27, 28, 29, 30, 92, 93, 94, 95] (by decide +kernel) (by decide +kernel)
set_option maxRecDepth 20000 in
theorem gX8_tell_X6_init_n38 : GoodIn wsX8_tell (wsX6_init) := ggX8_tell_X6_init
set_option maxRecDepth 20000 in
theorem ggX8_tell_Jx4a65c_add_9ea2d : GoodIn wsX8_tell wsJx4a65c_add_9ea2d := goodIn_r _ [34, 35, 36, 37, 21, 38, 39, 40, 19, 41, 42, 43, 44, 45, 46, 47, 48, 49, 50, 51, 52, 53, 54, 55, 56, 57, 58, 59, 60, 61, 62, 63, 64, 65, 66, 67, 68, 69, 70, 71, 72, 73, 74, 75, 76, 77, 78, 79, 80, 81, 82, 83, 84, 96, 97, 98] (by decide +kernel) (by decide +kernel)
set_option maxRecDepth 20000 in
theorem gX8_tell_Jx4a65c_add_9ea2d : GoodIn wsX8_tell (wsV RX8 139 RJx4a65c yJx4a65c_add_9ea2d wsJx4a65c_add_9ea2d) := goodIn_app (goodIn_of _ (by decide +kernel)) ggX8_tell_Jx4a65c_add_9ea2d
theorem dX8_tell_0 : decode cX8_tell 0 = .ok (.iload_n 1, 1) := by decide +kernel
theorem dX8_tell_1 : decode cX8_tell 1 = .ok (.iload_n 2, 1) := by decide +kernel
theorem dX8_tell_2 : decode cX8_tell 2 = .ok (.iload_n 3, 1) := by decide +kernel
theorem dX8_tell_3 : decode cX8_tell 3 = .ok (.iload 4, 2) := by decide +kernel
theorem dX8_tell_5 : decode cX8_tell 5 = .ok (.sipush 1000, 3) := by decide +kernel
theorem dX8_tell_8 : decode cX8_tell 8 = .ok (.invokestatic 182, 3) := by decide +kernel
theorem dX8_tell_11 : decode cX8_tell 11 = .ok (.ifCond .ne 13, 3) := by decide +kernel
theorem dX8_tell_14 : decode cX8_tell 14 = .ok (.new 124, 3) := by decide +kernel
theorem dX8_tell_17 : decode cX8_tell 17 = .ok (.dup, 1) := by decide +kernel
theorem dX8_tell_18 : decode cX8_tell 18 = .ok (.ldc 126, 2) := by decide +kernel
theorem dX8_tell_20 : decode cX8_tell 20 = .ok (.invokespecial 128, 3) := by decide +kernel
theorem dX8_tell_23 : decode cX8_tell 23 = .ok (.athrow, 1) := by decide +kernel
theorem dX8_tell_24 : decode cX8_tell 24 = .ok (.iload_n 1, 1) := by decide +kernel
theorem dX8_tell_25 : decode cX8_tell 25 = .ok (.iload 4, 2) := by decide +kernel
theorem dX8_tell_27 : decode cX8_tell 27 = .ok (.imul, 1) := by decide +kernel
theorem dX8_tell_28 : decode cX8_tell 28 = .ok (.iload_n 2, 1) := by decide +kernel
theorem dX8_tell_29 : decode cX8_tell 29 = .ok (.iload_n 3, 1) := by decide +kernel
theorem dX8_tell_30 : decode cX8_tell 30 = .ok (.imul, 1) := by decide +kernel
theorem dX8_tell_31 : decode cX8_tell 31 = .ok (.isub, 1) := by decide +kernel
theorem dX8_tell_32 : decode cX8_tell 32 = .ok (.iconst 1, 1) := by decide +kernel
theorem dX8_tell_33 : decode cX8_tell 33 = .ok (.if_icmp .eq 14, 3) := by decide +kernel
theorem dX8_tell_36 : decode cX8_tell 36 = .ok (.new 124, 3) := by decide +kernel
theorem dX8_tell_39 : decode cX8_tell 39 = .ok (.dup, 1) := by decide +kernel
theorem dX8_tell_40 : decode cX8_tell 40 = .ok (.ldc_w 267, 3) := by decide +kernel
theorem dX8_tell_43 : decode cX8_tell 43 = .ok (.invokespecial 128, 3) := by decide +kernel
theorem dX8_tell_46 : decode cX8_tell 46 = .ok (.athrow, 1) := by decide +kernel
theorem dX8_tell_47 : decode cX8_tell 47 = .ok (.aload_n 0, 1) := by decide +kernel
theorem dX8_tell_48 : decode cX8_tell 48 = .ok (.getfield 33, 3) := by decide +kernel
theorem dX8_tell_51 : decode cX8_tell 51 = .ok (.invokevirtual 129, 3) := by decide +kernel
theorem dX8_tell_54 : decode cX8_tell 54 = .ok (.iconst 4, 1) := by decide +kernel
theorem dX8_tell_55 : decode cX8_tell 55 = .ok (.if_icmp .lt 14, 3) := by decide +kernel
theorem dX8_tell_58 : decode cX8_tell 58 = .ok (.new 67, 3) := by decide +kernel
theorem dX8_tell_61 : decode cX8_tell 61 = .ok (.dup, 1) := by decide +kernel
theorem dX8_tell_62 : decode cX8_tell 62 = .ok (.ldc_w 269, 3) := by decide +kernel
theorem dX8_tell_65 : decode cX8_tell 65 = .ok (.invokespecial 71, 3) := by decide +kernel
theorem dX8_tell_68 : decode cX8_tell 68 = .ok (.athrow, 1) := by decide +kernel
theorem dX8_tell_69 : decode cX8_tell 69 = .ok (.aload_n 0, 1) := by decide +kernel
theorem dX8_tell_70 : decode cX8_tell 70 = .ok (.getfield 33, 3) := by decide +kernel
theorem dX8_tell_73 : decode cX8_tell 73 = .ok (.new 36, 3) := by decide +kernel
theorem dX8_tell_76 : decode cX8_tell 76 = .ok (.dup, 1) := by decide +kernel
theorem dX8_tell_77 : decode cX8_tell 77 = .ok (.iload_n 1, 1) := by decide +kernel
theorem dX8_tell_78 : decode cX8_tell 78 = .ok (.i2l, 1) := by decide +kernel
theorem dX8_tell_79 : decode cX8_tell 79 = .ok (.iload_n 2, 1) := by decide +kernel
theorem dX8_tell_80 : decode cX8_tell 80 = .ok (.i2l, 1) := by decide +kernel
theorem dX8_tell_81 : decode cX8_tell 81 = .ok (.iload_n 3, 1) := by decide +kernel
theorem dX8_tell_82 : decode cX8_tell 82 = .ok (.i2l, 1) := by decide +kernel
theorem dX8_tell_83 : decode cX8_tell 83 = .ok (.iload 4, 2) := by decide +kernel
theorem dX8_tell_85 : decode cX8_tell 85 = .ok (.i2l, 1) := by decide +kernel
theorem dX8_tell_86 : decode cX8_tell 86 = .ok (.invokespecial 38, 3) := by decide +kernel
theorem dX8_tell_89 : decode cX8_tell 89 = .ok (.invokevirtual 139, 3) := by decide +kernel
theorem dX8_tell_92 : decode cX8_tell 92 = .ok (.pop, 1) := by decide +kernel
theorem dX8_tell_93 : decode cX8_tell 93 = .ok (.aload_n 0, 1) := by decide +kernel
theorem dX8_tell_94 : decode cX8_tell 94 = .ok (.getfield 33, 3) := by decide +kernel
theorem dX8_tell_97 : decode cX8_tell 97 = .ok (.invokevirtual 129, 3) := by decide +kernel
theorem dX8_tell_100 : decode cX8_tell 100 = .ok (.iconst 1, 1) := by decide +kernel
theorem dX8_tell_101 : decode cX8_tell 101 = .ok (.isub, 1) := by decide +kernel
theorem dX8_tell_102 : decode cX8_tell 102 = .ok (.ireturn, 1) := by decide +kernel
set_option maxRecDepth 20000 in
theorem ggX8_append_Jx4a65c_size_8abf5 : GoodIn wsX8_append wsJx4a65c_size_8abf5 := goodIn_r _ [13, 14, 67, 68, 69] (by decide +kernel) (by decide +kernel)
set_option maxRecDepth 20000 in
theorem gX8_append_Jx4a65c_size_8abf5 : GoodIn wsX8_append (wsV RX8 129 RJx4a65c yJx4a65c_size_8abf5 wsJx4a65c_size_8abf5) := goodIn_app (goodIn_of _ (by decide +kernel)) ggX8_append_Jx4a65c_size_8abf5
set_option maxRecDepth 20000 in
theorem ggX8_append_Jx4a65c_get_915e3 : GoodIn wsX8_append wsJx4a65c_get_915e3 := goodIn_r _ [18, 14, 19, 20, 21, 22, 23, 24, 25, 26, 27, 28, 29, 12, 30, 31, 67, 68, 69] (by decide +kernel) (by decide +kernel)
set_option maxRecDepth 20000 in
theorem gX8_append_Jx4a65c_get_915e3 : GoodIn wsX8_append (wsV RX8 148 RJx4a65c yJx4a65c_get_915e3 wsJx4a65c_get_915e3) := goodIn_app (goodIn_of _ (by decide +kernel)) ggX8_append_Jx4a65c_get_915e3
set_option maxRecDepth 20000 in
theorem ggX8_append_X6_undone : GoodIn wsX8_append wsX6_undone := goodIn_r _ [35, 36, 37, 33, 38, 39, 40, 41, 42, 43, 44, 45, 46, 47, 70, 71, 72, 73] (by decide +kernel) (by decide +kernel)
set_option maxRecDepth 20000 in
theorem gX8_append_X6_undone_n273 : GoodIn wsX8_append (wsX6_undone) := ggX8_append_X6_undone
set_option maxRecDepth 20000 in
theorem ggX8_append_X6_times : GoodIn wsX8_append wsX6_times := goodIn_r _ [50, 36, 37, 33, 41, 39, 40, 38, 42, 43, 44, 45, 46, 47, 70, 71, 72, 73] (by decide +kernel) (by decide +kernel)
set_option maxRecDepth 20000 in
theorem gX8_append_X6_times_n277 : GoodIn wsX8_append (wsX6_times) := ggX8_append_X6_times
set_option maxRecDepth 20000 in
theorem ggX8_append_X6_isWhollyWithin : GoodIn wsX8_append wsX6_isWhollyWithin := goodIn_r _ [53, 41, 39, 40, 38, 54, 55, 56, 70, 71, 72, 73] (by decide +kernel) (by decide +kernel)
set_option maxRecDepth 20000 in
theorem gX8_append_X6_isWhollyWithin_n281 : GoodIn wsX8_append (wsX6_isWhollyWithin) := ggX8_append_X6_isWhollyWithin
set_option maxRecDepth 20000 in
theorem ggX8_append_X6_trace : GoodIn wsX8_append wsX6_trace := goodIn_r _ [59, 41, 38, 70, 71, 72, 73] (by decide +kernel) (by decide +kernel)
set_option maxRecDepth 20000 in
theorem gX8_append_X6_trace_n287 : GoodIn wsX8_append (wsX6_trace) := ggX8_append_X6_trace
theorem dX8_append_0 : decode cX8_append 0 = .ok (.iload_n 1, 1) := by decide +kernel
theorem dX8_append_1 : decode cX8_append 1 = .ok (.ifCond .lt 14, 3) := by decide +kernel
theorem dX8_append_4 : decode cX8_append 4 = .ok (.iload_n 1, 1) := by decide +kernel
theorem dX8_append_5 : decode cX8_append 5 = .ok (.aload_n 0, 1) := by decide +kernel
theorem dX8_append_6 : decode cX8_append 6 = .ok (.getfield 33, 3) := by decide +kernel
theorem dX8_append_9 : decode cX8_append 9 = .ok (.invokevirtual 129, 3) := by decide +kernel
theorem dX8_append_12 : decode cX8_append 12 = .ok (.if_icmp .lt 14, 3) := by decide +kernel
theorem dX8_append_15 : decode cX8_append 15 = .ok (.new 56, 3) := by decide +kernel
theorem dX8_append_18 : decode cX8_append 18 = .ok (.dup, 1) := by decide +kernel
theorem dX8_append_19 : decode cX8_append 19 = .ok (.ldc_w 271, 3) := by decide +kernel
theorem dX8_append_22 : decode cX8_append 22 = .ok (.invokespecial 60, 3) := by decide +kernel
theorem dX8_append_25 : decode cX8_append 25 = .ok (.athrow, 1) := by decide +kernel
theorem dX8_append_26 : decode cX8_append 26 = .ok (.aload_n 0, 1) := by decide +kernel
theorem dX8_append_27 : decode cX8_append 27 = .ok (.getfield 33, 3) := by decide +kernel
theorem dX8_append_30 : decode cX8_append 30 = .ok (.iload_n 1, 1) := by decide +kernel
theorem dX8_append_31 : decode cX8_append 31 = .ok (.invokevirtual 148, 3) := by decide +kernel
theorem dX8_append_34 : decode cX8_append 34 = .ok (.checkcast 36, 3) := by decide +kernel
theorem dX8_append_37 : decode cX8_append 37 = .ok (.astore_n 3, 1) := by decide +kernel
theorem dX8_append_38 : decode cX8_append 38 = .ok (.aload_n 0, 1) := by decide +kernel
theorem dX8_append_39 : decode cX8_append 39 = .ok (.getfield 41, 3) := by decide +kernel
theorem dX8_append_42 : decode cX8_append 42 = .ok (.iload_n 2, 1) := by decide +kernel
theorem dX8_append_43 : decode cX8_append 43 = .ok (.ifCond .eq 10, 3) := by decide +kernel
theorem dX8_append_46 : decode cX8_append 46 = .ok (.aload_n 3, 1) := by decide +kernel
theorem dX8_append_47 : decode cX8_append 47 = .ok (.invokevirtual 273, 3) := by decide +kernel
theorem dX8_append_50 : decode cX8_append 50 = .ok (.goto 4, 3) := by decide +kernel
theorem dX8_append_53 : decode cX8_append 53 = .ok (.aload_n 3, 1) := by decide +kernel
theorem dX8_append_54 : decode cX8_append 54 = .ok (.invokevirtual 277, 3) := by decide +kernel
theorem dX8_append_57 : decode cX8_append 57 = .ok (.astore 4, 2) := by decide +kernel
theorem dX8_append_59 : decode cX8_append 59 = .ok (.aload 4, 2) := by decide +kernel
theorem dX8_append_61 : decode cX8_append 61 = .ok (.ldc2_w 170, 3) := by decide +kernel
theorem dX8_append_64 : decode cX8_append 64 = .ok (.invokevirtual 281, 3) := by decide +kernel
theorem dX8_append_67 : decode cX8_append 67 = .ok (.ifCond .ne 14, 3) := by decide +kernel
theorem dX8_append_70 : decode cX8_append 70 = .ok (.new 67, 3) := by decide +kernel
theorem dX8_append_73 : decode cX8_append 73 = .ok (.dup, 1) := by decide +kernel
theorem dX8_append_74 : decode cX8_append 74 = .ok (.ldc_w 285, 3) := by decide +kernel
theorem dX8_append_77 : decode cX8_append 77 = .ok (.invokespecial 71, 3) := by decide +kernel
theorem dX8_append_80 : decode cX8_append 80 = .ok (.athrow, 1) := by decide +kernel
theorem dX8_append_81 : decode cX8_append 81 = .ok (.aload_n 0, 1) := by decide +kernel
theorem dX8_append_82 : decode cX8_append 82 = .ok (.aload 4, 2) := by decide +kernel
theorem dX8_append_84 : decode cX8_append 84 = .ok (.putfield 41, 3) := by decide +kernel
theorem dX8_append_87 : decode cX8_append 87 = .ok (.aload_n 0, 1) := by decide +kernel
theorem dX8_append_88 : decode cX8_append 88 = .ok (.getfield 41, 3) := by decide +kernel
theorem dX8_append_91 : decode cX8_append 91 = .ok (.invokevirtual 287, 3) := by decide +kernel
theorem dX8_append_94 : decode cX8_append 94 = .ok (.l2i, 1) := by decide +kernel
theorem dX8_append_95 : decode cX8_append 95 = .ok (.ireturn, 1) := by decide +kernel
set_option maxRecDepth 20000 in
theorem ggX8_home_X6_trace : GoodIn wsX8_home wsX6_trace := goodIn_r _ [7, 8, 9, 24, 25, 26, 27] (by decide +kernel) (by decide +kernel)
set_option maxRecDepth 20000 in
theorem gX8_home_X6_trace_n287 : GoodIn wsX8_home (wsX6_trace) := ggX8_home_X6_trace
set_option maxRecDepth 20000 in
theorem ggX8_home_X6_init : GoodIn wsX8_home wsX6_init := goodIn_r _ [11, 12, 13, 14, 8, 15, 16, 9, 24, 25, 26, 27] (by decide +kernel) (by decide +kernel)
set_option maxRecDepth 20000 in
theorem gX8_home_X6_init_n38 : GoodIn wsX8_home (wsX6_init) := ggX8_home_X6_init
theorem dX8_home_0 : decode cX8_home 0 = .ok (.aload_n 0, 1) := by decide +kernel
theorem dX8_home_1 : decode cX8_home 1 = .ok (.getfield 41, 3) := by decide +kernel
theorem dX8_home_4 : decode cX8_home 4 = .ok (.invokevirtual 287, 3) := by decide +kernel
theorem dX8_home_7 : decode cX8_home 7 = .ok (.l2i, 1) := by decide +kernel
theorem dX8_home_8 : decode cX8_home 8 = .ok (.istore_n 1, 1) := by decide +kernel
theorem dX8_home_9 : decode cX8_home 9 = .ok (.aload_n 0, 1) := by decide +kernel
theorem dX8_home_10 : decode cX8_home 10 = .ok (.new 36, 3) := by decide +kernel
theorem dX8_home_13 : decode cX8_home 13 = .ok (.dup, 1) := by decide +kernel
theorem dX8_home_14 : decode cX8_home 14 = .ok (.lconst 1, 1) := by decide +kernel
theorem dX8_home_15 : decode cX8_home 15 = .ok (.lconst 0, 1) := by decide +kernel
theorem dX8_home_16 : decode cX8_home 16 = .ok (.lconst 0, 1) := by decide +kernel
theorem dX8_home_17 : decode cX8_home 17 = .ok (.lconst 1, 1) := by decide +kernel
theorem dX8_home_18 : decode cX8_home 18 = .ok (.invokespecial 38, 3) := by decide +kernel
theorem dX8_home_21 : decode cX8_home 21 = .ok (.putfield 41, 3) := by decide +kernel
theorem dX8_home_24 : decode cX8_home 24 = .ok (.iload_n 1, 1) := by decide +kernel
theorem dX8_home_25 : decode cX8_home 25 = .ok (.ireturn, 1) := by decide +kernel
set_option maxRecDepth 20000 in
theorem ggX8_word_X6_kind : GoodIn wsX8_word wsX6_kind := goodIn_r _ [7, 8, 9, 10, 11, 12, 13, 14, 15, 16, 17, 18, 19, 5, 20, 28, 29, 30, 31] (by decide +kernel) (by decide +kernel)
set_option maxRecDepth 20000 in
theorem gX8_word_X6_kind_n303 : GoodIn wsX8_word (wsX6_kind) := ggX8_word_X6_kind
theorem dX8_word_0 : decode cX8_word 0 = .ok (.iload_n 1, 1) := by decide +kernel
theorem dX8_word_1 : decode cX8_word 1 = .ok (.tableswitch 79 0 4 #[35, 44, 53, 62, 71], 35) := by decide +kernel
theorem dX8_word_36 : decode cX8_word 36 = .ok (.aload_n 0, 1) := by decide +kernel
theorem dX8_word_37 : decode cX8_word 37 = .ok (.getfield 41, 3) := by decide +kernel
theorem dX8_word_40 : decode cX8_word 40 = .ok (.getfield 291, 3) := by decide +kernel
theorem dX8_word_43 : decode cX8_word 43 = .ok (.l2i, 1) := by decide +kernel
theorem dX8_word_44 : decode cX8_word 44 = .ok (.ireturn, 1) := by decide +kernel
theorem dX8_word_45 : decode cX8_word 45 = .ok (.aload_n 0, 1) := by decide +kernel
theorem dX8_word_46 : decode cX8_word 46 = .ok (.getfield 41, 3) := by decide +kernel
theorem dX8_word_49 : decode cX8_word 49 = .ok (.getfield 294, 3) := by decide +kernel
theorem dX8_word_52 : decode cX8_word 52 = .ok (.l2i, 1) := by decide +kernel
theorem dX8_word_53 : decode cX8_word 53 = .ok (.ireturn, 1) := by decide +kernel
theorem dX8_word_54 : decode cX8_word 54 = .ok (.aload_n 0, 1) := by decide +kernel
theorem dX8_word_55 : decode cX8_word 55 = .ok (.getfield 41, 3) := by decide +kernel
theorem dX8_word_58 : decode cX8_word 58 = .ok (.getfield 297, 3) := by decide +kernel
theorem dX8_word_61 : decode cX8_word 61 = .ok (.l2i, 1) := by decide +kernel
theorem dX8_word_62 : decode cX8_word 62 = .ok (.ireturn, 1) := by decide +kernel
theorem dX8_word_63 : decode cX8_word 63 = .ok (.aload_n 0, 1) := by decide +kernel
theorem dX8_word_64 : decode cX8_word 64 = .ok (.getfield 41, 3) := by decide +kernel
theorem dX8_word_67 : decode cX8_word 67 = .ok (.getfield 300, 3) := by decide +kernel
theorem dX8_word_70 : decode cX8_word 70 = .ok (.l2i, 1) := by decide +kernel
theorem dX8_word_71 : decode cX8_word 71 = .ok (.ireturn, 1) := by decide +kernel
theorem dX8_word_72 : decode cX8_word 72 = .ok (.aload_n 0, 1) := by decide +kernel
theorem dX8_word_73 : decode cX8_word 73 = .ok (.getfield 41, 3) := by decide +kernel
theorem dX8_word_76 : decode cX8_word 76 = .ok (.invokevirtual 303, 3) := by decide +kernel
theorem dX8_word_79 : decode cX8_word 79 = .ok (.ireturn, 1) := by decide +kernel
theorem dX8_word_80 : decode cX8_word 80 = .ok (.new 56, 3) := by decide +kernel
theorem dX8_word_83 : decode cX8_word 83 = .ok (.dup, 1) := by decide +kernel
theorem dX8_word_84 : decode cX8_word 84 = .ok (.ldc 118, 2) := by decide +kernel
theorem dX8_word_86 : decode cX8_word 86 = .ok (.invokespecial 60, 3) := by decide +kernel
theorem dX8_word_89 : decode cX8_word 89 = .ok (.athrow, 1) := by decide +kernel
set_option maxRecDepth 20000 in
theorem ggX8_image_X8_isWithin : GoodIn wsX8_image wsX8_isWithin := goodIn_r _ [9] (by decide +kernel) (by decide +kernel)
set_option maxRecDepth 20000 in
theorem gX8_image_X8_isWithin : GoodIn wsX8_image (va_wsS RX8 172 yX8_isWithin wsX8_isWithin) := goodIn_app (goodIn_of _ (by decide +kernel)) ggX8_image_X8_isWithin
set_option maxRecDepth 20000 in
theorem ggX8_image_X1_isLowest : GoodIn wsX8_image wsX1_isLowest := goodIn_r _ [12, 13, 14, 15, 16] (by decide +kernel) (by decide +kernel)
set_option maxRecDepth 20000 in
theorem gX8_image_X1_isLowest_n262 : GoodIn wsX8_image (wsX1_isLowest) := ggX8_image_X1_isLowest
theorem dX8_image_0 : decode cX8_image 0 = .ok (.iload_n 1, 1) := by decide +kernel
theorem dX8_image_1 : decode cX8_image 1 = .ok (.i2l, 1) := by decide +kernel
theorem dX8_image_2 : decode cX8_image 2 = .ok (.ldc2_w 170, 3) := by decide +kernel
theorem dX8_image_5 : decode cX8_image 5 = .ok (.invokestatic 172, 3) := by decide +kernel
theorem dX8_image_8 : decode cX8_image 8 = .ok (.ifCond .eq 13, 3) := by decide +kernel
theorem dX8_image_11 : decode cX8_image 11 = .ok (.iload_n 2, 1) := by decide +kernel
theorem dX8_image_12 : decode cX8_image 12 = .ok (.ifCond .lt 9, 3) := by decide +kernel
theorem dX8_image_15 : decode cX8_image 15 = .ok (.iload_n 2, 1) := by decide +kernel
theorem dX8_image_16 : decode cX8_image 16 = .ok (.ldc 176, 2) := by decide +kernel
theorem dX8_image_18 : decode cX8_image 18 = .ok (.if_icmp .le 13, 3) := by decide +kernel
theorem dX8_image_21 : decode cX8_image 21 = .ok (.new 124, 3) := by decide +kernel
theorem dX8_image_24 : decode cX8_image 24 = .ok (.dup, 1) := by decide +kernel
theorem dX8_image_25 : decode cX8_image 25 = .ok (.ldc 126, 2) := by decide +kernel
theorem dX8_image_27 : decode cX8_image 27 = .ok (.invokespecial 128, 3) := by decide +kernel
theorem dX8_image_30 : decode cX8_image 30 = .ok (.athrow, 1) := by decide +kernel
theorem dX8_image_31 : decode cX8_image 31 = .ok (.iload_n 1, 1) := by decide +kernel
theorem dX8_image_32 : decode cX8_image 32 = .ok (.i2l, 1) := by decide +kernel
theorem dX8_image_33 : decode cX8_image 33 = .ok (.iload_n 2, 1) := by decide +kernel
theorem dX8_image_34 : decode cX8_image 34 = .ok (.i2l, 1) := by decide +kernel
theorem dX8_image_35 : decode cX8_image 35 = .ok (.invokestatic 262, 3) := by decide +kernel
theorem dX8_image_38 : decode cX8_image 38 = .ok (.ifCond .eq 12, 3) := by decide +kernel
theorem dX8_image_41 : decode cX8_image 41 = .ok (.iload_n 2, 1) := by decide +kernel
theorem dX8_image_42 : decode cX8_image 42 = .ok (.ifCond .ne 19, 3) := by decide +kernel
theorem dX8_image_45 : decode cX8_image 45 = .ok (.iload_n 1, 1) := by decide +kernel
theorem dX8_image_46 : decode cX8_image 46 = .ok (.iconst 1, 1) := by decide +kernel
theorem dX8_image_47 : decode cX8_image 47 = .ok (.if_icmp .eq 14, 3) := by decide +kernel
theorem dX8_image_50 : decode cX8_image 50 = .ok (.new 124, 3) := by decide +kernel
theorem dX8_image_53 : decode cX8_image 53 = .ok (.dup, 1) := by decide +kernel
theorem dX8_image_54 : decode cX8_image 54 = .ok (.ldc_w 306, 3) := by decide +kernel
theorem dX8_image_57 : decode cX8_image 57 = .ok (.invokespecial 128, 3) := by decide +kernel
theorem dX8_image_60 : decode cX8_image 60 = .ok (.athrow, 1) := by decide +kernel
theorem dX8_image_61 : decode cX8_image 61 = .ok (.aload_n 0, 1) := by decide +kernel
theorem dX8_image_62 : decode cX8_image 62 = .ok (.getfield 41, 3) := by decide +kernel
theorem dX8_image_65 : decode cX8_image 65 = .ok (.getfield 291, 3) := by decide +kernel
theorem dX8_image_68 : decode cX8_image 68 = .ok (.iload_n 1, 1) := by decide +kernel
theorem dX8_image_69 : decode cX8_image 69 = .ok (.i2l, 1) := by decide +kernel
theorem dX8_image_70 : decode cX8_image 70 = .ok (.lmul, 1) := by decide +kernel
theorem dX8_image_71 : decode cX8_image 71 = .ok (.aload_n 0, 1) := by decide +kernel
theorem dX8_image_72 : decode cX8_image 72 = .ok (.getfield 41, 3) := by decide +kernel
theorem dX8_image_75 : decode cX8_image 75 = .ok (.getfield 294, 3) := by decide +kernel
theorem dX8_image_78 : decode cX8_image 78 = .ok (.iload_n 2, 1) := by decide +kernel
theorem dX8_image_79 : decode cX8_image 79 = .ok (.i2l, 1) := by decide +kernel
theorem dX8_image_80 : decode cX8_image 80 = .ok (.lmul, 1) := by decide +kernel
theorem dX8_image_81 : decode cX8_image 81 = .ok (.ladd, 1) := by decide +kernel
theorem dX8_image_82 : decode cX8_image 82 = .ok (.lstore 4, 2) := by decide +kernel
theorem dX8_image_84 : decode cX8_image 84 = .ok (.aload_n 0, 1) := by decide +kernel
theorem dX8_image_85 : decode cX8_image 85 = .ok (.getfield 41, 3) := by decide +kernel
theorem dX8_image_88 : decode cX8_image 88 = .ok (.getfield 297, 3) := by decide +kernel
theorem dX8_image_91 : decode cX8_image 91 = .ok (.iload_n 1, 1) := by decide +kernel
theorem dX8_image_92 : decode cX8_image 92 = .ok (.i2l, 1) := by decide +kernel
theorem dX8_image_93 : decode cX8_image 93 = .ok (.lmul, 1) := by decide +kernel
theorem dX8_image_94 : decode cX8_image 94 = .ok (.aload_n 0, 1) := by decide +kernel
theorem dX8_image_95 : decode cX8_image 95 = .ok (.getfield 41, 3) := by decide +kernel
theorem dX8_image_98 : decode cX8_image 98 = .ok (.getfield 300, 3) := by decide +kernel
theorem dX8_image_101 : decode cX8_image 101 = .ok (.iload_n 2, 1) := by decide +kernel
theorem dX8_image_102 : decode cX8_image 102 = .ok (.i2l, 1) := by decide +kernel
theorem dX8_image_103 : decode cX8_image 103 = .ok (.lmul, 1) := by decide +kernel
theorem dX8_image_104 : decode cX8_image 104 = .ok (.ladd, 1) := by decide +kernel
theorem dX8_image_105 : decode cX8_image 105 = .ok (.lstore 6, 2) := by decide +kernel
theorem dX8_image_107 : decode cX8_image 107 = .ok (.lload 6, 2) := by decide +kernel
theorem dX8_image_109 : decode cX8_image 109 = .ok (.lconst 0, 1) := by decide +kernel
theorem dX8_image_110 : decode cX8_image 110 = .ok (.lcmp, 1) := by decide +kernel
theorem dX8_image_111 : decode cX8_image 111 = .ok (.ifCond .lt 17, 3) := by decide +kernel
theorem dX8_image_114 : decode cX8_image 114 = .ok (.lload 6, 2) := by decide +kernel
theorem dX8_image_116 : decode cX8_image 116 = .ok (.lconst 0, 1) := by decide +kernel
theorem dX8_image_117 : decode cX8_image 117 = .ok (.lcmp, 1) := by decide +kernel
theorem dX8_image_118 : decode cX8_image 118 = .ok (.ifCond .ne 14, 3) := by decide +kernel
theorem dX8_image_121 : decode cX8_image 121 = .ok (.lload 4, 2) := by decide +kernel
theorem dX8_image_123 : decode cX8_image 123 = .ok (.lconst 0, 1) := by decide +kernel
theorem dX8_image_124 : decode cX8_image 124 = .ok (.lcmp, 1) := by decide +kernel
theorem dX8_image_125 : decode cX8_image 125 = .ok (.ifCond .ge 7, 3) := by decide +kernel
theorem dX8_image_128 : decode cX8_image 128 = .ok (.iconst 1, 1) := by decide +kernel
theorem dX8_image_129 : decode cX8_image 129 = .ok (.goto 4, 3) := by decide +kernel
theorem dX8_image_132 : decode cX8_image 132 = .ok (.iconst 0, 1) := by decide +kernel
theorem dX8_image_133 : decode cX8_image 133 = .ok (.istore 8, 2) := by decide +kernel
theorem dX8_image_135 : decode cX8_image 135 = .ok (.iload_n 3, 1) := by decide +kernel
theorem dX8_image_136 : decode cX8_image 136 = .ok (.ifCond .eq 8, 3) := by decide +kernel
theorem dX8_image_139 : decode cX8_image 139 = .ok (.lload 4, 2) := by decide +kernel
theorem dX8_image_141 : decode cX8_image 141 = .ok (.goto 5, 3) := by decide +kernel
theorem dX8_image_144 : decode cX8_image 144 = .ok (.lload 6, 2) := by decide +kernel
theorem dX8_image_146 : decode cX8_image 146 = .ok (.lstore 9, 2) := by decide +kernel
theorem dX8_image_148 : decode cX8_image 148 = .ok (.iload 8, 2) := by decide +kernel
theorem dX8_image_150 : decode cX8_image 150 = .ok (.ifCond .eq 9, 3) := by decide +kernel
theorem dX8_image_153 : decode cX8_image 153 = .ok (.lload 9, 2) := by decide +kernel
theorem dX8_image_155 : decode cX8_image 155 = .ok (.lneg, 1) := by decide +kernel
theorem dX8_image_156 : decode cX8_image 156 = .ok (.goto 5, 3) := by decide +kernel
theorem dX8_image_159 : decode cX8_image 159 = .ok (.lload 9, 2) := by decide +kernel
theorem dX8_image_161 : decode cX8_image 161 = .ok (.lreturn, 1) := by decide +kernel
set_option maxRecDepth 20000 in
theorem ggX8_nodes_X4_beginAnew : GoodIn wsX8_nodes wsX4_beginAnew := goodIn_r _ [7, 8, 9, 10, 11, 12, 13, 14, 15, 16, 17, 18, 26, 27, 28, 29, 30, 31] (by decide +kernel) (by decide +kernel)
set_option maxRecDepth 20000 in
theorem gX8_nodes_X4_beginAnew_n310 : GoodIn wsX8_nodes (wsX4_beginAnew) := ggX8_nodes_X4_beginAnew
theorem dX8_nodes_0 : decode cX8_nodes 0 = .ok (.iload_n 1, 1) := by decide +kernel
theorem dX8_nodes_1 : decode cX8_nodes 1 = .ok (.iconst 2, 1) := by decide +kernel
theorem dX8_nodes_2 : decode cX8_nodes 2 = .ok (.if_icmp .lt 9, 3) := by decide +kernel
theorem dX8_nodes_5 : decode cX8_nodes 5 = .ok (.iload_n 1, 1) := by decide +kernel
theorem dX8_nodes_6 : decode cX8_nodes 6 = .ok (.bipush 6, 2) := by decide +kernel
theorem dX8_nodes_8 : decode cX8_nodes 8 = .ok (.if_icmp .le 14, 3) := by decide +kernel
theorem dX8_nodes_11 : decode cX8_nodes 11 = .ok (.new 124, 3) := by decide +kernel
theorem dX8_nodes_14 : decode cX8_nodes 14 = .ok (.dup, 1) := by decide +kernel
theorem dX8_nodes_15 : decode cX8_nodes 15 = .ok (.ldc_w 308, 3) := by decide +kernel
theorem dX8_nodes_18 : decode cX8_nodes 18 = .ok (.invokespecial 128, 3) := by decide +kernel
theorem dX8_nodes_21 : decode cX8_nodes 21 = .ok (.athrow, 1) := by decide +kernel
theorem dX8_nodes_22 : decode cX8_nodes 22 = .ok (.aload_n 0, 1) := by decide +kernel
theorem dX8_nodes_23 : decode cX8_nodes 23 = .ok (.getfield 48, 3) := by decide +kernel
theorem dX8_nodes_26 : decode cX8_nodes 26 = .ok (.iload_n 1, 1) := by decide +kernel
theorem dX8_nodes_27 : decode cX8_nodes 27 = .ok (.invokevirtual 310, 3) := by decide +kernel
theorem dX8_nodes_30 : decode cX8_nodes 30 = .ok (.ireturn, 1) := by decide +kernel
set_option maxRecDepth 20000 in
theorem ggX8_wire_X4_hasNode : GoodIn wsX8_wire wsX4_hasNode := goodIn_r _ [14, 15, 90, 91, 92] (by decide +kernel) (by decide +kernel)
set_option maxRecDepth 20000 in
theorem gX8_wire_X4_hasNode_n313 : GoodIn wsX8_wire (wsX4_hasNode) := ggX8_wire_X4_hasNode
set_option maxRecDepth 20000 in
theorem ggX8_wire_Jx4a65c_size_8abf5 : GoodIn wsX8_wire wsJx4a65c_size_8abf5 := goodIn_r _ [20, 21, 95, 96, 97] (by decide +kernel) (by decide +kernel)
set_option maxRecDepth 20000 in
theorem gX8_wire_Jx4a65c_size_8abf5 : GoodIn wsX8_wire (wsV RX8 129 RJx4a65c yJx4a65c_size_8abf5 wsJx4a65c_size_8abf5) := goodIn_app (goodIn_of _ (by decide +kernel)) ggX8_wire_Jx4a65c_size_8abf5
set_option maxRecDepth 20000 in
theorem ggX8_wire_X7_init : GoodIn wsX8_wire wsX7_init := goodIn_r _ [23, 24, 25, 26, 27, 28, 93, 94] (by decide +kernel) (by decide +kernel)
set_option maxRecDepth 20000 in
theorem gX8_wire_X7_init_n325 : GoodIn wsX8_wire (wsX7_init) := ggX8_wire_X7_init
set_option maxRecDepth 20000 in
theorem ggX8_wire_Jx4a65c_add_9ea2d : GoodIn wsX8_wire wsJx4a65c_add_9ea2d := goodIn_r _ [32, 33, 34, 35, 21, 36, 37, 38, 19, 39, 40, 41, 42, 43, 44, 45, 46, 47, 48, 49, 50, 51, 52, 53, 54, 55, 56, 57, 58, 59, 60, 61, 62, 63, 64, 65, 66, 67, 68, 69, 70, 71, 72, 73, 74, 75, 76, 77, 78, 79, 80, 81, 82, 95, 96, 97] (by decide +kernel) (by decide +kernel)
