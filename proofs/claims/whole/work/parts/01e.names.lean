theorem dX8_between_35 : decode cX8_between 35 = .ok (.dup, 1) := by decide +kernel
theorem dX8_between_36 : decode cX8_between 36 = .ok (.ldc 160, 2) := by decide +kernel
theorem dX8_between_38 : decode cX8_between 38 = .ok (.invokespecial 128, 3) := by decide +kernel
theorem dX8_between_41 : decode cX8_between 41 = .ok (.athrow, 1) := by decide +kernel
theorem dX8_between_42 : decode cX8_between 42 = .ok (.lload 6, 2) := by decide +kernel
theorem dX8_between_44 : decode cX8_between 44 = .ok (.lconst 0, 1) := by decide +kernel
theorem dX8_between_45 : decode cX8_between 45 = .ok (.lcmp, 1) := by decide +kernel
theorem dX8_between_46 : decode cX8_between 46 = .ok (.ifCond .ge 20, 3) := by decide +kernel
theorem dX8_between_49 : decode cX8_between 49 = .ok (.iload_n 1, 1) := by decide +kernel
theorem dX8_between_50 : decode cX8_between 50 = .ok (.i2l, 1) := by decide +kernel
theorem dX8_between_51 : decode cX8_between 51 = .ok (.iload_n 2, 1) := by decide +kernel
theorem dX8_between_52 : decode cX8_between 52 = .ok (.i2l, 1) := by decide +kernel
theorem dX8_between_53 : decode cX8_between 53 = .ok (.iload_n 3, 1) := by decide +kernel
theorem dX8_between_54 : decode cX8_between 54 = .ok (.i2l, 1) := by decide +kernel
theorem dX8_between_55 : decode cX8_between 55 = .ok (.iload 4, 2) := by decide +kernel
theorem dX8_between_57 : decode cX8_between 57 = .ok (.i2l, 1) := by decide +kernel
theorem dX8_between_58 : decode cX8_between 58 = .ok (.iload 5, 2) := by decide +kernel
theorem dX8_between_60 : decode cX8_between 60 = .ok (.invokestatic 258, 3) := by decide +kernel
theorem dX8_between_63 : decode cX8_between 63 = .ok (.goto 17, 3) := by decide +kernel
theorem dX8_between_66 : decode cX8_between 66 = .ok (.iload_n 3, 1) := by decide +kernel
theorem dX8_between_67 : decode cX8_between 67 = .ok (.i2l, 1) := by decide +kernel
theorem dX8_between_68 : decode cX8_between 68 = .ok (.iload 4, 2) := by decide +kernel
theorem dX8_between_70 : decode cX8_between 70 = .ok (.i2l, 1) := by decide +kernel
theorem dX8_between_71 : decode cX8_between 71 = .ok (.iload_n 1, 1) := by decide +kernel
theorem dX8_between_72 : decode cX8_between 72 = .ok (.i2l, 1) := by decide +kernel
theorem dX8_between_73 : decode cX8_between 73 = .ok (.iload_n 2, 1) := by decide +kernel
theorem dX8_between_74 : decode cX8_between 74 = .ok (.i2l, 1) := by decide +kernel
theorem dX8_between_75 : decode cX8_between 75 = .ok (.iload 5, 2) := by decide +kernel
theorem dX8_between_77 : decode cX8_between 77 = .ok (.invokestatic 258, 3) := by decide +kernel
theorem dX8_between_80 : decode cX8_between 80 = .ok (.lreturn, 1) := by decide +kernel
set_option maxRecDepth 20000 in
theorem ggX8_refuseNoFraction_X8_isWithin : GoodIn wsX8_refuseNoFraction wsX8_isWithin := goodIn_r _ [8] (by decide +kernel) (by decide +kernel)
set_option maxRecDepth 20000 in
theorem gX8_refuseNoFraction_X8_isWithin : GoodIn wsX8_refuseNoFraction (va_wsS RX8 172 yX8_isWithin wsX8_isWithin) := goodIn_app (goodIn_of _ (by decide +kernel)) ggX8_refuseNoFraction_X8_isWithin
set_option maxRecDepth 20000 in
theorem ggX8_refuseNoFraction_X1_isLowest : GoodIn wsX8_refuseNoFraction wsX1_isLowest := goodIn_r _ [11, 12, 13, 14, 15] (by decide +kernel) (by decide +kernel)
set_option maxRecDepth 20000 in
theorem gX8_refuseNoFraction_X1_isLowest_n262 : GoodIn wsX8_refuseNoFraction (wsX1_isLowest) := ggX8_refuseNoFraction_X1_isLowest
theorem dX8_refuseNoFraction_0 : decode cX8_refuseNoFraction 0 = .ok (.iload_n 0, 1) := by decide +kernel
theorem dX8_refuseNoFraction_1 : decode cX8_refuseNoFraction 1 = .ok (.i2l, 1) := by decide +kernel
theorem dX8_refuseNoFraction_2 : decode cX8_refuseNoFraction 2 = .ok (.ldc2_w 170, 3) := by decide +kernel
theorem dX8_refuseNoFraction_5 : decode cX8_refuseNoFraction 5 = .ok (.invokestatic 172, 3) := by decide +kernel
theorem dX8_refuseNoFraction_8 : decode cX8_refuseNoFraction 8 = .ok (.ifCond .eq 14, 3) := by decide +kernel
theorem dX8_refuseNoFraction_11 : decode cX8_refuseNoFraction 11 = .ok (.iload_n 1, 1) := by decide +kernel
theorem dX8_refuseNoFraction_12 : decode cX8_refuseNoFraction 12 = .ok (.iconst 1, 1) := by decide +kernel
theorem dX8_refuseNoFraction_13 : decode cX8_refuseNoFraction 13 = .ok (.if_icmp .lt 9, 3) := by decide +kernel
theorem dX8_refuseNoFraction_16 : decode cX8_refuseNoFraction 16 = .ok (.iload_n 1, 1) := by decide +kernel
theorem dX8_refuseNoFraction_17 : decode cX8_refuseNoFraction 17 = .ok (.ldc 176, 2) := by decide +kernel
theorem dX8_refuseNoFraction_19 : decode cX8_refuseNoFraction 19 = .ok (.if_icmp .le 13, 3) := by decide +kernel
theorem dX8_refuseNoFraction_22 : decode cX8_refuseNoFraction 22 = .ok (.new 124, 3) := by decide +kernel
theorem dX8_refuseNoFraction_25 : decode cX8_refuseNoFraction 25 = .ok (.dup, 1) := by decide +kernel
theorem dX8_refuseNoFraction_26 : decode cX8_refuseNoFraction 26 = .ok (.ldc 126, 2) := by decide +kernel
theorem dX8_refuseNoFraction_28 : decode cX8_refuseNoFraction 28 = .ok (.invokespecial 128, 3) := by decide +kernel
theorem dX8_refuseNoFraction_31 : decode cX8_refuseNoFraction 31 = .ok (.athrow, 1) := by decide +kernel
theorem dX8_refuseNoFraction_32 : decode cX8_refuseNoFraction 32 = .ok (.iload_n 0, 1) := by decide +kernel
theorem dX8_refuseNoFraction_33 : decode cX8_refuseNoFraction 33 = .ok (.i2l, 1) := by decide +kernel
theorem dX8_refuseNoFraction_34 : decode cX8_refuseNoFraction 34 = .ok (.iload_n 1, 1) := by decide +kernel
theorem dX8_refuseNoFraction_35 : decode cX8_refuseNoFraction 35 = .ok (.i2l, 1) := by decide +kernel
theorem dX8_refuseNoFraction_36 : decode cX8_refuseNoFraction 36 = .ok (.invokestatic 262, 3) := by decide +kernel
theorem dX8_refuseNoFraction_39 : decode cX8_refuseNoFraction 39 = .ok (.ifCond .ne 14, 3) := by decide +kernel
theorem dX8_refuseNoFraction_42 : decode cX8_refuseNoFraction 42 = .ok (.new 124, 3) := by decide +kernel
theorem dX8_refuseNoFraction_45 : decode cX8_refuseNoFraction 45 = .ok (.dup, 1) := by decide +kernel
theorem dX8_refuseNoFraction_46 : decode cX8_refuseNoFraction 46 = .ok (.ldc_w 265, 3) := by decide +kernel
theorem dX8_refuseNoFraction_49 : decode cX8_refuseNoFraction 49 = .ok (.invokespecial 128, 3) := by decide +kernel
theorem dX8_refuseNoFraction_52 : decode cX8_refuseNoFraction 52 = .ok (.athrow, 1) := by decide +kernel
theorem dX8_refuseNoFraction_53 : decode cX8_refuseNoFraction 53 = .ok (.return_, 1) := by decide +kernel
set_option maxRecDepth 20000 in
theorem ggX8_tell_X8_areFourWithin : GoodIn wsX8_tell wsX8_areFourWithin := goodIn_r _ [12, 13, 14, 11, 15] (by decide +kernel) (by decide +kernel)
set_option maxRecDepth 20000 in
theorem gX8_tell_X8_areFourWithin : GoodIn wsX8_tell (va_wsS RX8 182 yX8_areFourWithin wsX8_areFourWithin) := goodIn_app (goodIn_of _ (by decide +kernel)) ggX8_tell_X8_areFourWithin
set_option maxRecDepth 20000 in
theorem ggX8_tell_Jx4a65c_size_8abf5 : GoodIn wsX8_tell wsJx4a65c_size_8abf5 := goodIn_r _ [20, 21, 96, 97, 98] (by decide +kernel) (by decide +kernel)
set_option maxRecDepth 20000 in
theorem gX8_tell_Jx4a65c_size_8abf5 : GoodIn wsX8_tell (wsV RX8 129 RJx4a65c yJx4a65c_size_8abf5 wsJx4a65c_size_8abf5) := goodIn_app (goodIn_of _ (by decide +kernel)) ggX8_tell_Jx4a65c_size_8abf5
set_option maxRecDepth 20000 in
theorem ggX8_tell_X6_init : GoodIn wsX8_tell wsX6_init := goodIn_r _ [23, 24, 25, 26, 27, 28, 29, 30, 92, 93, 94, 95] (by decide +kernel) (by decide +kernel)
set_option maxRecDepth 20000 in
theorem gX8_tell_X6_init_n38 : GoodIn wsX8_tell (wsX6_init) := ggX8_tell_X6_init
set_option maxRecDepth 20000 in
theorem ggX8_tell_Jx4a65c_add_9ea2d : GoodIn wsX8_tell wsJx4a65c_add_9ea2d := goodIn_r _ [34, 35, 36, 37, 21, 38, 39, 40, 19, 41, 42, 43, 44, 45, 46, 47, 48, 49, 50, 51, 52, 53, 54, 55, 56, 57, 58, 59, 60, 61, 62, 63, 64, 65, 66, 67, 68, 69, 70, 71, 72, 73, 74, 75, 76, 77, 78, 79, 80, 81, 82, 83, 84, 96, 97, 98] (by decide +kernel) (by decide +kernel)
set_option maxRecDepth 20000 in
theorem gX8_tell_Jx4a65c_add_9ea2d : GoodIn wsX8_tell (wsV RX8 139 RJx4a65c yJx4a65c_add_9ea2d wsJx4a65c_add_9ea2d) := goodIn_app (goodIn_of _ (by decide +kernel)) ggX8_tell_Jx4a65c_add_9ea2d
theorem dX8_tell_0 : decode cX8_tell 0 = .ok (.iload_n 1, 1) := by decide +kernel
theorem dX8_tell_1 : decode cX8_tell 1 = .ok (.iload_n 2, 1) := by decide +kernel
theorem dX8_tell_2 : decode cX8_tell 2 = .ok (.iload_n 3, 1) := by decide +kernel
theorem dX8_tell_3 : decode cX8_tell 3 = .ok (.iload 4, 2) := by decide +kernel
theorem dX8_tell_5 : decode cX8_tell 5 = .ok (.sipush 1000, 3) := by decide +kernel
theorem dX8_tell_8 : decode cX8_tell 8 = .ok (.invokestatic 182, 3) := by decide +kernel
theorem dX8_tell_11 : decode cX8_tell 11 = .ok (.ifCond .ne 13, 3) := by decide +kernel
theorem dX8_tell_14 : decode cX8_tell 14 = .ok (.new 124, 3) := by decide +kernel
theorem dX8_tell_17 : decode cX8_tell 17 = .ok (.dup, 1) := by decide +kernel
theorem dX8_tell_18 : decode cX8_tell 18 = .ok (.ldc 126, 2) := by decide +kernel
theorem dX8_tell_20 : decode cX8_tell 20 = .ok (.invokespecial 128, 3) := by decide +kernel
theorem dX8_tell_23 : decode cX8_tell 23 = .ok (.athrow, 1) := by decide +kernel
theorem dX8_tell_24 : decode cX8_tell 24 = .ok (.iload_n 1, 1) := by decide +kernel
theorem dX8_tell_25 : decode cX8_tell 25 = .ok (.iload 4, 2) := by decide +kernel
theorem dX8_tell_27 : decode cX8_tell 27 = .ok (.imul, 1) := by decide +kernel
theorem dX8_tell_28 : decode cX8_tell 28 = .ok (.iload_n 2, 1) := by decide +kernel
theorem dX8_tell_29 : decode cX8_tell 29 = .ok (.iload_n 3, 1) := by decide +kernel
theorem dX8_tell_30 : decode cX8_tell 30 = .ok (.imul, 1) := by decide +kernel
theorem dX8_tell_31 : decode cX8_tell 31 = .ok (.isub, 1) := by decide +kernel
theorem dX8_tell_32 : decode cX8_tell 32 = .ok (.iconst 1, 1) := by decide +kernel
theorem dX8_tell_33 : decode cX8_tell 33 = .ok (.if_icmp .eq 14, 3) := by decide +kernel
theorem dX8_tell_36 : decode cX8_tell 36 = .ok (.new 124, 3) := by decide +kernel
theorem dX8_tell_39 : decode cX8_tell 39 = .ok (.dup, 1) := by decide +kernel
theorem dX8_tell_40 : decode cX8_tell 40 = .ok (.ldc_w 267, 3) := by decide +kernel
theorem dX8_tell_43 : decode cX8_tell 43 = .ok (.invokespecial 128, 3) := by decide +kernel
theorem dX8_tell_46 : decode cX8_tell 46 = .ok (.athrow, 1) := by decide +kernel
theorem dX8_tell_47 : decode cX8_tell 47 = .ok (.aload_n 0, 1) := by decide +kernel
theorem dX8_tell_48 : decode cX8_tell 48 = .ok (.getfield 33, 3) := by decide +kernel
theorem dX8_tell_51 : decode cX8_tell 51 = .ok (.invokevirtual 129, 3) := by decide +kernel
theorem dX8_tell_54 : decode cX8_tell 54 = .ok (.iconst 4, 1) := by decide +kernel
theorem dX8_tell_55 : decode cX8_tell 55 = .ok (.if_icmp .lt 14, 3) := by decide +kernel
theorem dX8_tell_58 : decode cX8_tell 58 = .ok (.new 67, 3) := by decide +kernel
theorem dX8_tell_61 : decode cX8_tell 61 = .ok (.dup, 1) := by decide +kernel
theorem dX8_tell_62 : decode cX8_tell 62 = .ok (.ldc_w 269, 3) := by decide +kernel
theorem dX8_tell_65 : decode cX8_tell 65 = .ok (.invokespecial 71, 3) := by decide +kernel
theorem dX8_tell_68 : decode cX8_tell 68 = .ok (.athrow, 1) := by decide +kernel
theorem dX8_tell_69 : decode cX8_tell 69 = .ok (.aload_n 0, 1) := by decide +kernel
theorem dX8_tell_70 : decode cX8_tell 70 = .ok (.getfield 33, 3) := by decide +kernel
theorem dX8_tell_73 : decode cX8_tell 73 = .ok (.new 36, 3) := by decide +kernel
theorem dX8_tell_76 : decode cX8_tell 76 = .ok (.dup, 1) := by decide +kernel
theorem dX8_tell_77 : decode cX8_tell 77 = .ok (.iload_n 1, 1) := by decide +kernel
theorem dX8_tell_78 : decode cX8_tell 78 = .ok (.i2l, 1) := by decide +kernel
theorem dX8_tell_79 : decode cX8_tell 79 = .ok (.iload_n 2, 1) := by decide +kernel
theorem dX8_tell_80 : decode cX8_tell 80 = .ok (.i2l, 1) := by decide +kernel
theorem dX8_tell_81 : decode cX8_tell 81 = .ok (.iload_n 3, 1) := by decide +kernel
theorem dX8_tell_82 : decode cX8_tell 82 = .ok (.i2l, 1) := by decide +kernel
theorem dX8_tell_83 : decode cX8_tell 83 = .ok (.iload 4, 2) := by decide +kernel
theorem dX8_tell_85 : decode cX8_tell 85 = .ok (.i2l, 1) := by decide +kernel
theorem dX8_tell_86 : decode cX8_tell 86 = .ok (.invokespecial 38, 3) := by decide +kernel
theorem dX8_tell_89 : decode cX8_tell 89 = .ok (.invokevirtual 139, 3) := by decide +kernel
theorem dX8_tell_92 : decode cX8_tell 92 = .ok (.pop, 1) := by decide +kernel
theorem dX8_tell_93 : decode cX8_tell 93 = .ok (.aload_n 0, 1) := by decide +kernel
theorem dX8_tell_94 : decode cX8_tell 94 = .ok (.getfield 33, 3) := by decide +kernel
theorem dX8_tell_97 : decode cX8_tell 97 = .ok (.invokevirtual 129, 3) := by decide +kernel
theorem dX8_tell_100 : decode cX8_tell 100 = .ok (.iconst 1, 1) := by decide +kernel
theorem dX8_tell_101 : decode cX8_tell 101 = .ok (.isub, 1) := by decide +kernel
theorem dX8_tell_102 : decode cX8_tell 102 = .ok (.ireturn, 1) := by decide +kernel
set_option maxRecDepth 20000 in
theorem ggX8_append_Jx4a65c_size_8abf5 : GoodIn wsX8_append wsJx4a65c_size_8abf5 := goodIn_r _ [13, 14, 67, 68, 69] (by decide +kernel) (by decide +kernel)
set_option maxRecDepth 20000 in
theorem gX8_append_Jx4a65c_size_8abf5 : GoodIn wsX8_append (wsV RX8 129 RJx4a65c yJx4a65c_size_8abf5 wsJx4a65c_size_8abf5) := goodIn_app (goodIn_of _ (by decide +kernel)) ggX8_append_Jx4a65c_size_8abf5
set_option maxRecDepth 20000 in
theorem ggX8_append_Jx4a65c_get_915e3 : GoodIn wsX8_append wsJx4a65c_get_915e3 := goodIn_r _ [18, 14, 19, 20, 21, 22, 23, 24, 25, 26, 27, 28, 29, 12, 30, 31, 67, 68, 69] (by decide +kernel) (by decide +kernel)
set_option maxRecDepth 20000 in
theorem gX8_append_Jx4a65c_get_915e3 : GoodIn wsX8_append (wsV RX8 148 RJx4a65c yJx4a65c_get_915e3 wsJx4a65c_get_915e3) := goodIn_app (goodIn_of _ (by decide +kernel)) ggX8_append_Jx4a65c_get_915e3
set_option maxRecDepth 20000 in
theorem ggX8_append_X6_undone : GoodIn wsX8_append wsX6_undone := goodIn_r _ [35, 36, 37, 33, 38, 39, 40, 41, 42, 43, 44, 45, 46, 47, 70, 71, 72, 73] (by decide +kernel) (by decide +kernel)
set_option maxRecDepth 20000 in
theorem gX8_append_X6_undone_n273 : GoodIn wsX8_append (wsX6_undone) := ggX8_append_X6_undone
set_option maxRecDepth 20000 in
theorem ggX8_append_X6_times : GoodIn wsX8_append wsX6_times := goodIn_r _ [50, 36, 37, 33, 41, 39, 40, 38, 42, 43, 44, 45, 46, 47, 70, 71, 72, 73] (by decide +kernel) (by decide +kernel)
set_option maxRecDepth 20000 in
theorem gX8_append_X6_times_n277 : GoodIn wsX8_append (wsX6_times) := ggX8_append_X6_times
set_option maxRecDepth 20000 in
theorem ggX8_append_X6_isWhollyWithin : GoodIn wsX8_append wsX6_isWhollyWithin := goodIn_r _ [53, 41, 39, 40, 38, 54, 55, 56, 70, 71, 72, 73] (by decide +kernel) (by decide +kernel)
set_option maxRecDepth 20000 in
theorem gX8_append_X6_isWhollyWithin_n281 : GoodIn wsX8_append (wsX6_isWhollyWithin) := ggX8_append_X6_isWhollyWithin
set_option maxRecDepth 20000 in
theorem ggX8_append_X6_trace : GoodIn wsX8_append wsX6_trace := goodIn_r _ [59, 41, 38, 70, 71, 72, 73] (by decide +kernel) (by decide +kernel)
set_option maxRecDepth 20000 in
theorem gX8_append_X6_trace_n287 : GoodIn wsX8_append (wsX6_trace) := ggX8_append_X6_trace
theorem dX8_append_0 : decode cX8_append 0 = .ok (.iload_n 1, 1) := by decide +kernel
theorem dX8_append_1 : decode cX8_append 1 = .ok (.ifCond .lt 14, 3) := by decide +kernel
theorem dX8_append_4 : decode cX8_append 4 = .ok (.iload_n 1, 1) := by decide +kernel
theorem dX8_append_5 : decode cX8_append 5 = .ok (.aload_n 0, 1) := by decide +kernel
theorem dX8_append_6 : decode cX8_append 6 = .ok (.getfield 33, 3) := by decide +kernel
theorem dX8_append_9 : decode cX8_append 9 = .ok (.invokevirtual 129, 3) := by decide +kernel
theorem dX8_append_12 : decode cX8_append 12 = .ok (.if_icmp .lt 14, 3) := by decide +kernel
theorem dX8_append_15 : decode cX8_append 15 = .ok (.new 56, 3) := by decide +kernel
theorem dX8_append_18 : decode cX8_append 18 = .ok (.dup, 1) := by decide +kernel
theorem dX8_append_19 : decode cX8_append 19 = .ok (.ldc_w 271, 3) := by decide +kernel
theorem dX8_append_22 : decode cX8_append 22 = .ok (.invokespecial 60, 3) := by decide +kernel
theorem dX8_append_25 : decode cX8_append 25 = .ok (.athrow, 1) := by decide +kernel
theorem dX8_append_26 : decode cX8_append 26 = .ok (.aload_n 0, 1) := by decide +kernel
theorem dX8_append_27 : decode cX8_append 27 = .ok (.getfield 33, 3) := by decide +kernel
theorem dX8_append_30 : decode cX8_append 30 = .ok (.iload_n 1, 1) := by decide +kernel
theorem dX8_append_31 : decode cX8_append 31 = .ok (.invokevirtual 148, 3) := by decide +kernel
theorem dX8_append_34 : decode cX8_append 34 = .ok (.checkcast 36, 3) := by decide +kernel
theorem dX8_append_37 : decode cX8_append 37 = .ok (.astore_n 3, 1) := by decide +kernel
theorem dX8_append_38 : decode cX8_append 38 = .ok (.aload_n 0, 1) := by decide +kernel
theorem dX8_append_39 : decode cX8_append 39 = .ok (.getfield 41, 3) := by decide +kernel
theorem dX8_append_42 : decode cX8_append 42 = .ok (.iload_n 2, 1) := by decide +kernel
theorem dX8_append_43 : decode cX8_append 43 = .ok (.ifCond .eq 10, 3) := by decide +kernel
theorem dX8_append_46 : decode cX8_append 46 = .ok (.aload_n 3, 1) := by decide +kernel
theorem dX8_append_47 : decode cX8_append 47 = .ok (.invokevirtual 273, 3) := by decide +kernel
theorem dX8_append_50 : decode cX8_append 50 = .ok (.goto 4, 3) := by decide +kernel
theorem dX8_append_53 : decode cX8_append 53 = .ok (.aload_n 3, 1) := by decide +kernel
theorem dX8_append_54 : decode cX8_append 54 = .ok (.invokevirtual 277, 3) := by decide +kernel
theorem dX8_append_57 : decode cX8_append 57 = .ok (.astore 4, 2) := by decide +kernel
theorem dX8_append_59 : decode cX8_append 59 = .ok (.aload 4, 2) := by decide +kernel
theorem dX8_append_61 : decode cX8_append 61 = .ok (.ldc2_w 170, 3) := by decide +kernel
theorem dX8_append_64 : decode cX8_append 64 = .ok (.invokevirtual 281, 3) := by decide +kernel
theorem dX8_append_67 : decode cX8_append 67 = .ok (.ifCond .ne 14, 3) := by decide +kernel
theorem dX8_append_70 : decode cX8_append 70 = .ok (.new 67, 3) := by decide +kernel
theorem dX8_append_73 : decode cX8_append 73 = .ok (.dup, 1) := by decide +kernel
theorem dX8_append_74 : decode cX8_append 74 = .ok (.ldc_w 285, 3) := by decide +kernel
theorem dX8_append_77 : decode cX8_append 77 = .ok (.invokespecial 71, 3) := by decide +kernel
theorem dX8_append_80 : decode cX8_append 80 = .ok (.athrow, 1) := by decide +kernel
theorem dX8_append_81 : decode cX8_append 81 = .ok (.aload_n 0, 1) := by decide +kernel
theorem dX8_append_82 : decode cX8_append 82 = .ok (.aload 4, 2) := by decide +kernel
theorem dX8_append_84 : decode cX8_append 84 = .ok (.putfield 41, 3) := by decide +kernel
theorem dX8_append_87 : decode cX8_append 87 = .ok (.aload_n 0, 1) := by decide +kernel
theorem dX8_append_88 : decode cX8_append 88 = .ok (.getfield 41, 3) := by decide +kernel
theorem dX8_append_91 : decode cX8_append 91 = .ok (.invokevirtual 287, 3) := by decide +kernel
theorem dX8_append_94 : decode cX8_append 94 = .ok (.l2i, 1) := by decide +kernel
theorem dX8_append_95 : decode cX8_append 95 = .ok (.ireturn, 1) := by decide +kernel
set_option maxRecDepth 20000 in
theorem ggX8_home_X6_trace : GoodIn wsX8_home wsX6_trace := goodIn_r _ [7, 8, 9, 24, 25, 26, 27] (by decide +kernel) (by decide +kernel)
set_option maxRecDepth 20000 in
theorem gX8_home_X6_trace_n287 : GoodIn wsX8_home (wsX6_trace) := ggX8_home_X6_trace
set_option maxRecDepth 20000 in
theorem ggX8_home_X6_init : GoodIn wsX8_home wsX6_init := goodIn_r _ [11, 12, 13, 14, 8, 15, 16, 9, 24, 25, 26, 27] (by decide +kernel) (by decide +kernel)
set_option maxRecDepth 20000 in
theorem gX8_home_X6_init_n38 : GoodIn wsX8_home (wsX6_init) := ggX8_home_X6_init
theorem dX8_home_0 : decode cX8_home 0 = .ok (.aload_n 0, 1) := by decide +kernel
theorem dX8_home_1 : decode cX8_home 1 = .ok (.getfield 41, 3) := by decide +kernel
theorem dX8_home_4 : decode cX8_home 4 = .ok (.invokevirtual 287, 3) := by decide +kernel
theorem dX8_home_7 : decode cX8_home 7 = .ok (.l2i, 1) := by decide +kernel
theorem dX8_home_8 : decode cX8_home 8 = .ok (.istore_n 1, 1) := by decide +kernel
theorem dX8_home_9 : decode cX8_home 9 = .ok (.aload_n 0, 1) := by decide +kernel
theorem dX8_home_10 : decode cX8_home 10 = .ok (.new 36, 3) := by decide +kernel
theorem dX8_home_13 : decode cX8_home 13 = .ok (.dup, 1) := by decide +kernel
theorem dX8_home_14 : decode cX8_home 14 = .ok (.lconst 1, 1) := by decide +kernel
theorem dX8_home_15 : decode cX8_home 15 = .ok (.lconst 0, 1) := by decide +kernel
theorem dX8_home_16 : decode cX8_home 16 = .ok (.lconst 0, 1) := by decide +kernel
theorem dX8_home_17 : decode cX8_home 17 = .ok (.lconst 1, 1) := by decide +kernel
theorem dX8_home_18 : decode cX8_home 18 = .ok (.invokespecial 38, 3) := by decide +kernel
theorem dX8_home_21 : decode cX8_home 21 = .ok (.putfield 41, 3) := by decide +kernel
theorem dX8_home_24 : decode cX8_home 24 = .ok (.iload_n 1, 1) := by decide +kernel
theorem dX8_home_25 : decode cX8_home 25 = .ok (.ireturn, 1) := by decide +kernel
set_option maxRecDepth 20000 in
theorem ggX8_word_X6_kind : GoodIn wsX8_word wsX6_kind := goodIn_r _ [7, 8, 9, 10, 11, 12, 13, 14, 15, 16, 17, 18, 19, 5, 20, 28, 29, 30, 31] (by decide +kernel) (by decide +kernel)
set_option maxRecDepth 20000 in
theorem gX8_word_X6_kind_n303 : GoodIn wsX8_word (wsX6_kind) := ggX8_word_X6_kind
theorem dX8_word_0 : decode cX8_word 0 = .ok (.iload_n 1, 1) := by decide +kernel
theorem dX8_word_1 : decode cX8_word 1 = .ok (.tableswitch 79 0 4 #[35, 44, 53, 62, 71], 35) := by decide +kernel
theorem dX8_word_36 : decode cX8_word 36 = .ok (.aload_n 0, 1) := by decide +kernel
theorem dX8_word_37 : decode cX8_word 37 = .ok (.getfield 41, 3) := by decide +kernel
theorem dX8_word_40 : decode cX8_word 40 = .ok (.getfield 291, 3) := by decide +kernel
theorem dX8_word_43 : decode cX8_word 43 = .ok (.l2i, 1) := by decide +kernel
theorem dX8_word_44 : decode cX8_word 44 = .ok (.ireturn, 1) := by decide +kernel
theorem dX8_word_45 : decode cX8_word 45 = .ok (.aload_n 0, 1) := by decide +kernel
theorem dX8_word_46 : decode cX8_word 46 = .ok (.getfield 41, 3) := by decide +kernel
theorem dX8_word_49 : decode cX8_word 49 = .ok (.getfield 294, 3) := by decide +kernel
theorem dX8_word_52 : decode cX8_word 52 = .ok (.l2i, 1) := by decide +kernel
theorem dX8_word_53 : decode cX8_word 53 = .ok (.ireturn, 1) := by decide +kernel
theorem dX8_word_54 : decode cX8_word 54 = .ok (.aload_n 0, 1) := by decide +kernel
theorem dX8_word_55 : decode cX8_word 55 = .ok (.getfield 41, 3) := by decide +kernel
theorem dX8_word_58 : decode cX8_word 58 = .ok (.getfield 297, 3) := by decide +kernel
theorem dX8_word_61 : decode cX8_word 61 = .ok (.l2i, 1) := by decide +kernel
theorem dX8_word_62 : decode cX8_word 62 = .ok (.ireturn, 1) := by decide +kernel
theorem dX8_word_63 : decode cX8_word 63 = .ok (.aload_n 0, 1) := by decide +kernel
theorem dX8_word_64 : decode cX8_word 64 = .ok (.getfield 41, 3) := by decide +kernel
theorem dX8_word_67 : decode cX8_word 67 = .ok (.getfield 300, 3) := by decide +kernel
theorem dX8_word_70 : decode cX8_word 70 = .ok (.l2i, 1) := by decide +kernel
theorem dX8_word_71 : decode cX8_word 71 = .ok (.ireturn, 1) := by decide +kernel
theorem dX8_word_72 : decode cX8_word 72 = .ok (.aload_n 0, 1) := by decide +kernel
theorem dX8_word_73 : decode cX8_word 73 = .ok (.getfield 41, 3) := by decide +kernel
theorem dX8_word_76 : decode cX8_word 76 = .ok (.invokevirtual 303, 3) := by decide +kernel
theorem dX8_word_79 : decode cX8_word 79 = .ok (.ireturn, 1) := by decide +kernel
theorem dX8_word_80 : decode cX8_word 80 = .ok (.new 56, 3) := by decide +kernel
theorem dX8_word_83 : decode cX8_word 83 = .ok (.dup, 1) := by decide +kernel
theorem dX8_word_84 : decode cX8_word 84 = .ok (.ldc 118, 2) := by decide +kernel
theorem dX8_word_86 : decode cX8_word 86 = .ok (.invokespecial 60, 3) := by decide +kernel
theorem dX8_word_89 : decode cX8_word 89 = .ok (.athrow, 1) := by decide +kernel
set_option maxRecDepth 20000 in
theorem ggX8_image_X8_isWithin : GoodIn wsX8_image wsX8_isWithin := goodIn_r _ [9] (by decide +kernel) (by decide +kernel)
set_option maxRecDepth 20000 in
theorem gX8_image_X8_isWithin : GoodIn wsX8_image (va_wsS RX8 172 yX8_isWithin wsX8_isWithin) := goodIn_app (goodIn_of _ (by decide +kernel)) ggX8_image_X8_isWithin
set_option maxRecDepth 20000 in
theorem ggX8_image_X1_isLowest : GoodIn wsX8_image wsX1_isLowest := goodIn_r _ [12, 13, 14, 15, 16] (by decide +kernel) (by decide +kernel)
set_option maxRecDepth 20000 in
theorem gX8_image_X1_isLowest_n262 : GoodIn wsX8_image (wsX1_isLowest) := ggX8_image_X1_isLowest
theorem dX8_image_0 : decode cX8_image 0 = .ok (.iload_n 1, 1) := by decide +kernel
theorem dX8_image_1 : decode cX8_image 1 = .ok (.i2l, 1) := by decide +kernel
theorem dX8_image_2 : decode cX8_image 2 = .ok (.ldc2_w 170, 3) := by decide +kernel
theorem dX8_image_5 : decode cX8_image 5 = .ok (.invokestatic 172, 3) := by decide +kernel
theorem dX8_image_8 : decode cX8_image 8 = .ok (.ifCond .eq 13, 3) := by decide +kernel
theorem dX8_image_11 : decode cX8_image 11 = .ok (.iload_n 2, 1) := by decide +kernel
theorem dX8_image_12 : decode cX8_image 12 = .ok (.ifCond .lt 9, 3) := by decide +kernel
theorem dX8_image_15 : decode cX8_image 15 = .ok (.iload_n 2, 1) := by decide +kernel
theorem dX8_image_16 : decode cX8_image 16 = .ok (.ldc 176, 2) := by decide +kernel
theorem dX8_image_18 : decode cX8_image 18 = .ok (.if_icmp .le 13, 3) := by decide +kernel
theorem dX8_image_21 : decode cX8_image 21 = .ok (.new 124, 3) := by decide +kernel
theorem dX8_image_24 : decode cX8_image 24 = .ok (.dup, 1) := by decide +kernel
theorem dX8_image_25 : decode cX8_image 25 = .ok (.ldc 126, 2) := by decide +kernel
theorem dX8_image_27 : decode cX8_image 27 = .ok (.invokespecial 128, 3) := by decide +kernel
theorem dX8_image_30 : decode cX8_image 30 = .ok (.athrow, 1) := by decide +kernel
theorem dX8_image_31 : decode cX8_image 31 = .ok (.iload_n 1, 1) := by decide +kernel
theorem dX8_image_32 : decode cX8_image 32 = .ok (.i2l, 1) := by decide +kernel
theorem dX8_image_33 : decode cX8_image 33 = .ok (.iload_n 2, 1) := by decide +kernel
theorem dX8_image_34 : decode cX8_image 34 = .ok (.i2l, 1) := by decide +kernel
theorem dX8_image_35 : decode cX8_image 35 = .ok (.invokestatic 262, 3) := by decide +kernel
theorem dX8_image_38 : decode cX8_image 38 = .ok (.ifCond .eq 12, 3) := by decide +kernel
theorem dX8_image_41 : decode cX8_image 41 = .ok (.iload_n 2, 1) := by decide +kernel
theorem dX8_image_42 : decode cX8_image 42 = .ok (.ifCond .ne 19, 3) := by decide +kernel
theorem dX8_image_45 : decode cX8_image 45 = .ok (.iload_n 1, 1) := by decide +kernel
theorem dX8_image_46 : decode cX8_image 46 = .ok (.iconst 1, 1) := by decide +kernel
theorem dX8_image_47 : decode cX8_image 47 = .ok (.if_icmp .eq 14, 3) := by decide +kernel
theorem dX8_image_50 : decode cX8_image 50 = .ok (.new 124, 3) := by decide +kernel
theorem dX8_image_53 : decode cX8_image 53 = .ok (.dup, 1) := by decide +kernel
theorem dX8_image_54 : decode cX8_image 54 = .ok (.ldc_w 306, 3) := by decide +kernel
theorem dX8_image_57 : decode cX8_image 57 = .ok (.invokespecial 128, 3) := by decide +kernel
theorem dX8_image_60 : decode cX8_image 60 = .ok (.athrow, 1) := by decide +kernel
theorem dX8_image_61 : decode cX8_image 61 = .ok (.aload_n 0, 1) := by decide +kernel
theorem dX8_image_62 : decode cX8_image 62 = .ok (.getfield 41, 3) := by decide +kernel
theorem dX8_image_65 : decode cX8_image 65 = .ok (.getfield 291, 3) := by decide +kernel
theorem dX8_image_68 : decode cX8_image 68 = .ok (.iload_n 1, 1) := by decide +kernel
theorem dX8_image_69 : decode cX8_image 69 = .ok (.i2l, 1) := by decide +kernel
theorem dX8_image_70 : decode cX8_image 70 = .ok (.lmul, 1) := by decide +kernel
theorem dX8_image_71 : decode cX8_image 71 = .ok (.aload_n 0, 1) := by decide +kernel
theorem dX8_image_72 : decode cX8_image 72 = .ok (.getfield 41, 3) := by decide +kernel
theorem dX8_image_75 : decode cX8_image 75 = .ok (.getfield 294, 3) := by decide +kernel
theorem dX8_image_78 : decode cX8_image 78 = .ok (.iload_n 2, 1) := by decide +kernel
theorem dX8_image_79 : decode cX8_image 79 = .ok (.i2l, 1) := by decide +kernel
theorem dX8_image_80 : decode cX8_image 80 = .ok (.lmul, 1) := by decide +kernel
theorem dX8_image_81 : decode cX8_image 81 = .ok (.ladd, 1) := by decide +kernel
theorem dX8_image_82 : decode cX8_image 82 = .ok (.lstore 4, 2) := by decide +kernel
theorem dX8_image_84 : decode cX8_image 84 = .ok (.aload_n 0, 1) := by decide +kernel
theorem dX8_image_85 : decode cX8_image 85 = .ok (.getfield 41, 3) := by decide +kernel
theorem dX8_image_88 : decode cX8_image 88 = .ok (.getfield 297, 3) := by decide +kernel
theorem dX8_image_91 : decode cX8_image 91 = .ok (.iload_n 1, 1) := by decide +kernel
theorem dX8_image_92 : decode cX8_image 92 = .ok (.i2l, 1) := by decide +kernel
theorem dX8_image_93 : decode cX8_image 93 = .ok (.lmul, 1) := by decide +kernel
theorem dX8_image_94 : decode cX8_image 94 = .ok (.aload_n 0, 1) := by decide +kernel
theorem dX8_image_95 : decode cX8_image 95 = .ok (.getfield 41, 3) := by decide +kernel
theorem dX8_image_98 : decode cX8_image 98 = .ok (.getfield 300, 3) := by decide +kernel
theorem dX8_image_101 : decode cX8_image 101 = .ok (.iload_n 2, 1) := by decide +kernel
theorem dX8_image_102 : decode cX8_image 102 = .ok (.i2l, 1) := by decide +kernel
theorem dX8_image_103 : decode cX8_image 103 = .ok (.lmul, 1) := by decide +kernel
theorem dX8_image_104 : decode cX8_image 104 = .ok (.ladd, 1) := by decide +kernel
theorem dX8_image_105 : decode cX8_image 105 = .ok (.lstore 6, 2) := by decide +kernel
theorem dX8_image_107 : decode cX8_image 107 = .ok (.lload 6, 2) := by decide +kernel
theorem dX8_image_109 : decode cX8_image 109 = .ok (.lconst 0, 1) := by decide +kernel
theorem dX8_image_110 : decode cX8_image 110 = .ok (.lcmp, 1) := by decide +kernel
theorem dX8_image_111 : decode cX8_image 111 = .ok (.ifCond .lt 17, 3) := by decide +kernel
theorem dX8_image_114 : decode cX8_image 114 = .ok (.lload 6, 2) := by decide +kernel
theorem dX8_image_116 : decode cX8_image 116 = .ok (.lconst 0, 1) := by decide +kernel
theorem dX8_image_117 : decode cX8_image 117 = .ok (.lcmp, 1) := by decide +kernel
theorem dX8_image_118 : decode cX8_image 118 = .ok (.ifCond .ne 14, 3) := by decide +kernel
theorem dX8_image_121 : decode cX8_image 121 = .ok (.lload 4, 2) := by decide +kernel
theorem dX8_image_123 : decode cX8_image 123 = .ok (.lconst 0, 1) := by decide +kernel
theorem dX8_image_124 : decode cX8_image 124 = .ok (.lcmp, 1) := by decide +kernel
theorem dX8_image_125 : decode cX8_image 125 = .ok (.ifCond .ge 7, 3) := by decide +kernel
theorem dX8_image_128 : decode cX8_image 128 = .ok (.iconst 1, 1) := by decide +kernel
theorem dX8_image_129 : decode cX8_image 129 = .ok (.goto 4, 3) := by decide +kernel
theorem dX8_image_132 : decode cX8_image 132 = .ok (.iconst 0, 1) := by decide +kernel
theorem dX8_image_133 : decode cX8_image 133 = .ok (.istore 8, 2) := by decide +kernel
theorem dX8_image_135 : decode cX8_image 135 = .ok (.iload_n 3, 1) := by decide +kernel
theorem dX8_image_136 : decode cX8_image 136 = .ok (.ifCond .eq 8, 3) := by decide +kernel
theorem dX8_image_139 : decode cX8_image 139 = .ok (.lload 4, 2) := by decide +kernel
theorem dX8_image_141 : decode cX8_image 141 = .ok (.goto 5, 3) := by decide +kernel
theorem dX8_image_144 : decode cX8_image 144 = .ok (.lload 6, 2) := by decide +kernel
theorem dX8_image_146 : decode cX8_image 146 = .ok (.lstore 9, 2) := by decide +kernel
theorem dX8_image_148 : decode cX8_image 148 = .ok (.iload 8, 2) := by decide +kernel
theorem dX8_image_150 : decode cX8_image 150 = .ok (.ifCond .eq 9, 3) := by decide +kernel
theorem dX8_image_153 : decode cX8_image 153 = .ok (.lload 9, 2) := by decide +kernel
theorem dX8_image_155 : decode cX8_image 155 = .ok (.lneg, 1) := by decide +kernel
theorem dX8_image_156 : decode cX8_image 156 = .ok (.goto 5, 3) := by decide +kernel
theorem dX8_image_159 : decode cX8_image 159 = .ok (.lload 9, 2) := by decide +kernel
theorem dX8_image_161 : decode cX8_image 161 = .ok (.lreturn, 1) := by decide +kernel
set_option maxRecDepth 20000 in
theorem ggX8_nodes_X4_beginAnew : GoodIn wsX8_nodes wsX4_beginAnew := goodIn_r _ [7, 8, 9, 10, 11, 12, 13, 14, 15, 16, 17, 18, 26, 27, 28, 29, 30, 31] (by decide +kernel) (by decide +kernel)
set_option maxRecDepth 20000 in
theorem gX8_nodes_X4_beginAnew_n310 : GoodIn wsX8_nodes (wsX4_beginAnew) := ggX8_nodes_X4_beginAnew
theorem dX8_nodes_0 : decode cX8_nodes 0 = .ok (.iload_n 1, 1) := by decide +kernel
theorem dX8_nodes_1 : decode cX8_nodes 1 = .ok (.iconst 2, 1) := by decide +kernel
theorem dX8_nodes_2 : decode cX8_nodes 2 = .ok (.if_icmp .lt 9, 3) := by decide +kernel
theorem dX8_nodes_5 : decode cX8_nodes 5 = .ok (.iload_n 1, 1) := by decide +kernel
theorem dX8_nodes_6 : decode cX8_nodes 6 = .ok (.bipush 6, 2) := by decide +kernel
theorem dX8_nodes_8 : decode cX8_nodes 8 = .ok (.if_icmp .le 14, 3) := by decide +kernel
theorem dX8_nodes_11 : decode cX8_nodes 11 = .ok (.new 124, 3) := by decide +kernel
theorem dX8_nodes_14 : decode cX8_nodes 14 = .ok (.dup, 1) := by decide +kernel
theorem dX8_nodes_15 : decode cX8_nodes 15 = .ok (.ldc_w 308, 3) := by decide +kernel
theorem dX8_nodes_18 : decode cX8_nodes 18 = .ok (.invokespecial 128, 3) := by decide +kernel
theorem dX8_nodes_21 : decode cX8_nodes 21 = .ok (.athrow, 1) := by decide +kernel
theorem dX8_nodes_22 : decode cX8_nodes 22 = .ok (.aload_n 0, 1) := by decide +kernel
theorem dX8_nodes_23 : decode cX8_nodes 23 = .ok (.getfield 48, 3) := by decide +kernel
theorem dX8_nodes_26 : decode cX8_nodes 26 = .ok (.iload_n 1, 1) := by decide +kernel
theorem dX8_nodes_27 : decode cX8_nodes 27 = .ok (.invokevirtual 310, 3) := by decide +kernel
theorem dX8_nodes_30 : decode cX8_nodes 30 = .ok (.ireturn, 1) := by decide +kernel
set_option maxRecDepth 20000 in
theorem ggX8_wire_X4_hasNode : GoodIn wsX8_wire wsX4_hasNode := goodIn_r _ [14, 15, 90, 91, 92] (by decide +kernel) (by decide +kernel)
set_option maxRecDepth 20000 in
theorem gX8_wire_X4_hasNode_n313 : GoodIn wsX8_wire (wsX4_hasNode) := ggX8_wire_X4_hasNode
set_option maxRecDepth 20000 in
theorem ggX8_wire_Jx4a65c_size_8abf5 : GoodIn wsX8_wire wsJx4a65c_size_8abf5 := goodIn_r _ [20, 21, 95, 96, 97] (by decide +kernel) (by decide +kernel)
set_option maxRecDepth 20000 in
theorem gX8_wire_Jx4a65c_size_8abf5 : GoodIn wsX8_wire (wsV RX8 129 RJx4a65c yJx4a65c_size_8abf5 wsJx4a65c_size_8abf5) := goodIn_app (goodIn_of _ (by decide +kernel)) ggX8_wire_Jx4a65c_size_8abf5
set_option maxRecDepth 20000 in
theorem ggX8_wire_X7_init : GoodIn wsX8_wire wsX7_init := goodIn_r _ [23, 24, 25, 26, 27, 28, 93, 94] (by decide +kernel) (by decide +kernel)
set_option maxRecDepth 20000 in
theorem gX8_wire_X7_init_n325 : GoodIn wsX8_wire (wsX7_init) := ggX8_wire_X7_init
set_option maxRecDepth 20000 in
theorem ggX8_wire_Jx4a65c_add_9ea2d : GoodIn wsX8_wire wsJx4a65c_add_9ea2d := goodIn_r _ [32, 33, 34, 35, 21, 36, 37, 38, 19, 39, 40, 41, 42, 43, 44, 45, 46, 47, 48, 49, 50, 51, 52, 53, 54, 55, 56, 57, 58, 59, 60, 61, 62, 63, 64, 65, 66, 67, 68, 69, 70, 71, 72, 73, 74, 75, 76, 77, 78, 79, 80, 81, 82, 95, 96, 97] (by decide +kernel) (by decide +kernel)
set_option maxRecDepth 20000 in
theorem gX8_wire_Jx4a65c_add_9ea2d : GoodIn wsX8_wire (wsV RX8 139 RJx4a65c yJx4a65c_add_9ea2d wsJx4a65c_add_9ea2d) := goodIn_app (goodIn_of _ (by decide +kernel)) ggX8_wire_Jx4a65c_add_9ea2d
theorem dX8_wire_0 : decode cX8_wire 0 = .ok (.aload_n 0, 1) := by decide +kernel
theorem dX8_wire_1 : decode cX8_wire 1 = .ok (.getfield 48, 3) := by decide +kernel
theorem dX8_wire_4 : decode cX8_wire 4 = .ok (.iload_n 1, 1) := by decide +kernel
theorem dX8_wire_5 : decode cX8_wire 5 = .ok (.invokevirtual 313, 3) := by decide +kernel
theorem dX8_wire_8 : decode cX8_wire 8 = .ok (.ifCond .eq 14, 3) := by decide +kernel
theorem dX8_wire_11 : decode cX8_wire 11 = .ok (.aload_n 0, 1) := by decide +kernel
theorem dX8_wire_12 : decode cX8_wire 12 = .ok (.getfield 48, 3) := by decide +kernel
theorem dX8_wire_15 : decode cX8_wire 15 = .ok (.iload_n 2, 1) := by decide +kernel
theorem dX8_wire_16 : decode cX8_wire 16 = .ok (.invokevirtual 313, 3) := by decide +kernel
theorem dX8_wire_19 : decode cX8_wire 19 = .ok (.ifCond .ne 14, 3) := by decide +kernel
theorem dX8_wire_22 : decode cX8_wire 22 = .ok (.new 56, 3) := by decide +kernel
theorem dX8_wire_25 : decode cX8_wire 25 = .ok (.dup, 1) := by decide +kernel
theorem dX8_wire_26 : decode cX8_wire 26 = .ok (.ldc_w 316, 3) := by decide +kernel
theorem dX8_wire_29 : decode cX8_wire 29 = .ok (.invokespecial 60, 3) := by decide +kernel
theorem dX8_wire_32 : decode cX8_wire 32 = .ok (.athrow, 1) := by decide +kernel
theorem dX8_wire_33 : decode cX8_wire 33 = .ok (.iload_n 1, 1) := by decide +kernel
theorem dX8_wire_34 : decode cX8_wire 34 = .ok (.iload_n 2, 1) := by decide +kernel
theorem dX8_wire_35 : decode cX8_wire 35 = .ok (.if_icmp .ne 13, 3) := by decide +kernel
theorem dX8_wire_38 : decode cX8_wire 38 = .ok (.new 124, 3) := by decide +kernel
theorem dX8_wire_41 : decode cX8_wire 41 = .ok (.dup, 1) := by decide +kernel
theorem dX8_wire_42 : decode cX8_wire 42 = .ok (.ldc 160, 2) := by decide +kernel
theorem dX8_wire_44 : decode cX8_wire 44 = .ok (.invokespecial 128, 3) := by decide +kernel
theorem dX8_wire_47 : decode cX8_wire 47 = .ok (.athrow, 1) := by decide +kernel
theorem dX8_wire_48 : decode cX8_wire 48 = .ok (.aload_n 0, 1) := by decide +kernel
theorem dX8_wire_49 : decode cX8_wire 49 = .ok (.getfield 48, 3) := by decide +kernel
theorem dX8_wire_52 : decode cX8_wire 52 = .ok (.getfield 318, 3) := by decide +kernel
theorem dX8_wire_55 : decode cX8_wire 55 = .ok (.invokevirtual 129, 3) := by decide +kernel
theorem dX8_wire_58 : decode cX8_wire 58 = .ok (.bipush 10, 2) := by decide +kernel
theorem dX8_wire_60 : decode cX8_wire 60 = .ok (.if_icmp .lt 14, 3) := by decide +kernel
theorem dX8_wire_63 : decode cX8_wire 63 = .ok (.new 67, 3) := by decide +kernel
theorem dX8_wire_66 : decode cX8_wire 66 = .ok (.dup, 1) := by decide +kernel
theorem dX8_wire_67 : decode cX8_wire 67 = .ok (.ldc_w 321, 3) := by decide +kernel
theorem dX8_wire_70 : decode cX8_wire 70 = .ok (.invokespecial 71, 3) := by decide +kernel
theorem dX8_wire_73 : decode cX8_wire 73 = .ok (.athrow, 1) := by decide +kernel
theorem dX8_wire_74 : decode cX8_wire 74 = .ok (.aload_n 0, 1) := by decide +kernel
theorem dX8_wire_75 : decode cX8_wire 75 = .ok (.getfield 48, 3) := by decide +kernel
theorem dX8_wire_78 : decode cX8_wire 78 = .ok (.getfield 318, 3) := by decide +kernel
theorem dX8_wire_81 : decode cX8_wire 81 = .ok (.new 323, 3) := by decide +kernel
theorem dX8_wire_84 : decode cX8_wire 84 = .ok (.dup, 1) := by decide +kernel
theorem dX8_wire_85 : decode cX8_wire 85 = .ok (.iload_n 1, 1) := by decide +kernel
theorem dX8_wire_86 : decode cX8_wire 86 = .ok (.iload_n 2, 1) := by decide +kernel
theorem dX8_wire_87 : decode cX8_wire 87 = .ok (.invokespecial 325, 3) := by decide +kernel
theorem dX8_wire_90 : decode cX8_wire 90 = .ok (.invokevirtual 139, 3) := by decide +kernel
theorem dX8_wire_93 : decode cX8_wire 93 = .ok (.pop, 1) := by decide +kernel
theorem dX8_wire_94 : decode cX8_wire 94 = .ok (.aload_n 0, 1) := by decide +kernel
theorem dX8_wire_95 : decode cX8_wire 95 = .ok (.getfield 48, 3) := by decide +kernel
theorem dX8_wire_98 : decode cX8_wire 98 = .ok (.getfield 318, 3) := by decide +kernel
theorem dX8_wire_101 : decode cX8_wire 101 = .ok (.invokevirtual 129, 3) := by decide +kernel
theorem dX8_wire_104 : decode cX8_wire 104 = .ok (.iconst 1, 1) := by decide +kernel
theorem dX8_wire_105 : decode cX8_wire 105 = .ok (.isub, 1) := by decide +kernel
theorem dX8_wire_106 : decode cX8_wire 106 = .ok (.ireturn, 1) := by decide +kernel
set_option maxRecDepth 20000 in
theorem ggX8_trees_X4_treesByTable : GoodIn wsX8_trees wsX4_treesByTable := goodIn_r _ [5, 6, 7, 8, 9, 3, 10, 11, 12, 13, 14, 15, 16, 17, 18, 19, 20, 21, 22, 23, 24, 25, 26, 27, 28, 29, 30, 31, 32, 33, 34, 35, 36, 37, 38, 39, 40, 41, 42, 43, 44, 45, 46, 47, 48, 49, 50, 51, 52, 53, 54, 55, 56, 57, 58, 59, 60, 61, 62, 63, 64, 72, 73, 74, 75, 76, 77, 78, 79] (by decide +kernel) (by decide +kernel)
set_option maxRecDepth 20000 in
theorem gX8_trees_X4_treesByTable_n327 : GoodIn wsX8_trees (wsX4_treesByTable) := ggX8_trees_X4_treesByTable
theorem dX8_trees_0 : decode cX8_trees 0 = .ok (.aload_n 0, 1) := by decide +kernel
theorem dX8_trees_1 : decode cX8_trees 1 = .ok (.getfield 48, 3) := by decide +kernel
theorem dX8_trees_4 : decode cX8_trees 4 = .ok (.invokevirtual 327, 3) := by decide +kernel
theorem dX8_trees_7 : decode cX8_trees 7 = .ok (.l2i, 1) := by decide +kernel
theorem dX8_trees_8 : decode cX8_trees 8 = .ok (.ireturn, 1) := by decide +kernel
set_option maxRecDepth 20000 in
theorem ggX8_treesAnew_X4_treesBySets : GoodIn wsX8_treesAnew wsX4_treesBySets := goodIn_r _ [5, 6, 7, 8, 9, 10, 11, 12, 13, 14, 15, 16, 17, 18, 19, 20, 21, 22, 23, 3, 24, 25, 26, 27, 28, 29, 30, 31, 32, 33, 34, 35, 36, 37, 38, 39, 40, 41, 42, 50, 51, 52, 53, 54, 55, 56, 57] (by decide +kernel) (by decide +kernel)
set_option maxRecDepth 20000 in
theorem gX8_treesAnew_X4_treesBySets_n330 : GoodIn wsX8_treesAnew (wsX4_treesBySets) := ggX8_treesAnew_X4_treesBySets
theorem dX8_treesAnew_0 : decode cX8_treesAnew 0 = .ok (.aload_n 0, 1) := by decide +kernel
theorem dX8_treesAnew_1 : decode cX8_treesAnew 1 = .ok (.getfield 48, 3) := by decide +kernel
theorem dX8_treesAnew_4 : decode cX8_treesAnew 4 = .ok (.invokevirtual 330, 3) := by decide +kernel
theorem dX8_treesAnew_7 : decode cX8_treesAnew 7 = .ok (.ireturn, 1) := by decide +kernel
set_option maxRecDepth 20000 in
theorem ggX8_side_X4_hasNode : GoodIn wsX8_side wsX4_hasNode := goodIn_r _ [11, 12, 92, 93, 94] (by decide +kernel) (by decide +kernel)
set_option maxRecDepth 20000 in
theorem gX8_side_X4_hasNode_n313 : GoodIn wsX8_side (wsX4_hasNode) := ggX8_side_X4_hasNode
set_option maxRecDepth 20000 in
theorem ggX8_side_X4_hasWire : GoodIn wsX8_side wsX4_hasWire := goodIn_r _ [15, 16, 17, 18, 19, 20, 21, 22, 92, 93, 94, 95, 96, 97] (by decide +kernel) (by decide +kernel)
set_option maxRecDepth 20000 in
theorem gX8_side_X4_hasWire_n333 : GoodIn wsX8_side (wsX4_hasWire) := ggX8_side_X4_hasWire
set_option maxRecDepth 20000 in
theorem ggX8_side_X4_treesByTable : GoodIn wsX8_side wsX4_treesByTable := goodIn_r _ [25, 12, 26, 27, 28, 9, 29, 30, 16, 31, 32, 33, 34, 35, 36, 17, 18, 19, 20, 21, 22, 37, 38, 39, 40, 41, 42, 43, 44, 45, 46, 47, 48, 49, 50, 51, 52, 53, 54, 55, 56, 57, 58, 59, 60, 61, 62, 63, 64, 65, 66, 67, 68, 69, 70, 71, 72, 73, 74, 75, 76, 92, 93, 94, 98, 99, 95, 96, 97] (by decide +kernel) (by decide +kernel)
set_option maxRecDepth 20000 in
theorem gX8_side_X4_treesByTable_n327 : GoodIn wsX8_side (wsX4_treesByTable) := ggX8_side_X4_treesByTable
set_option maxRecDepth 20000 in
theorem ggX8_side_X4_heightOf : GoodIn wsX8_side wsX4_heightOf := goodIn_r _ [79, 12, 30, 54, 55, 9, 56, 26, 27, 28, 29, 16, 31, 32, 33, 34, 35, 36, 17, 18, 19, 20, 21, 22, 37, 38, 39, 40, 41, 42, 43, 44, 45, 46, 47, 48, 49, 50, 51, 52, 53, 57, 58, 59, 60, 61, 62, 63, 64, 65, 66, 67, 68, 69, 70, 71, 72, 73, 74, 75, 76, 92, 93, 94, 98, 99, 95, 96, 97] (by decide +kernel) (by decide +kernel)
set_option maxRecDepth 20000 in
theorem gX8_side_X4_heightOf_n342 : GoodIn wsX8_side (wsX4_heightOf) := ggX8_side_X4_heightOf
set_option maxRecDepth 20000 in
theorem ggX8_side_X4_fallAlong : GoodIn wsX8_side wsX4_fallAlong := goodIn_r _ [82, 16, 31, 83, 13, 14, 9, 15, 17, 18, 19, 20, 21, 22, 37, 38, 39, 40, 41, 42, 43, 44, 45, 46, 47, 48, 49, 50, 51, 52, 53, 84, 77, 78, 79, 12, 30, 54, 55, 56, 26, 27, 28, 29, 32, 33, 34, 35, 36, 57, 58, 59, 60, 61, 62, 63, 64, 65, 66, 67, 68, 69, 70, 71, 72, 73, 74, 75, 76, 92, 93, 94, 98, 99, 95, 96, 97] (by decide +kernel) (by decide +kernel)
set_option maxRecDepth 20000 in
theorem gX8_side_X4_fallAlong_n346 : GoodIn wsX8_side (wsX4_fallAlong) := ggX8_side_X4_fallAlong
theorem dX8_side_0 : decode cX8_side 0 = .ok (.aload_n 0, 1) := by decide +kernel
theorem dX8_side_1 : decode cX8_side 1 = .ok (.getfield 48, 3) := by decide +kernel
theorem dX8_side_4 : decode cX8_side 4 = .ok (.iload_n 1, 1) := by decide +kernel
theorem dX8_side_5 : decode cX8_side 5 = .ok (.invokevirtual 313, 3) := by decide +kernel
theorem dX8_side_8 : decode cX8_side 8 = .ok (.ifCond .eq 14, 3) := by decide +kernel
theorem dX8_side_11 : decode cX8_side 11 = .ok (.aload_n 0, 1) := by decide +kernel
theorem dX8_side_12 : decode cX8_side 12 = .ok (.getfield 48, 3) := by decide +kernel
theorem dX8_side_15 : decode cX8_side 15 = .ok (.iload_n 2, 1) := by decide +kernel
theorem dX8_side_16 : decode cX8_side 16 = .ok (.invokevirtual 313, 3) := by decide +kernel
theorem dX8_side_19 : decode cX8_side 19 = .ok (.ifCond .ne 14, 3) := by decide +kernel
theorem dX8_side_22 : decode cX8_side 22 = .ok (.new 56, 3) := by decide +kernel
theorem dX8_side_25 : decode cX8_side 25 = .ok (.dup, 1) := by decide +kernel
theorem dX8_side_26 : decode cX8_side 26 = .ok (.ldc_w 316, 3) := by decide +kernel
theorem dX8_side_29 : decode cX8_side 29 = .ok (.invokespecial 60, 3) := by decide +kernel
theorem dX8_side_32 : decode cX8_side 32 = .ok (.athrow, 1) := by decide +kernel
theorem dX8_side_33 : decode cX8_side 33 = .ok (.iload_n 3, 1) := by decide +kernel
theorem dX8_side_34 : decode cX8_side 34 = .ok (.iconst (-1), 1) := by decide +kernel
theorem dX8_side_35 : decode cX8_side 35 = .ok (.if_icmp .eq 25, 3) := by decide +kernel
theorem dX8_side_38 : decode cX8_side 38 = .ok (.aload_n 0, 1) := by decide +kernel
theorem dX8_side_39 : decode cX8_side 39 = .ok (.getfield 48, 3) := by decide +kernel
theorem dX8_side_42 : decode cX8_side 42 = .ok (.iload_n 3, 1) := by decide +kernel
theorem dX8_side_43 : decode cX8_side 43 = .ok (.invokevirtual 333, 3) := by decide +kernel
theorem dX8_side_46 : decode cX8_side 46 = .ok (.ifCond .ne 14, 3) := by decide +kernel
theorem dX8_side_49 : decode cX8_side 49 = .ok (.new 56, 3) := by decide +kernel
theorem dX8_side_52 : decode cX8_side 52 = .ok (.dup, 1) := by decide +kernel
theorem dX8_side_53 : decode cX8_side 53 = .ok (.ldc_w 336, 3) := by decide +kernel
theorem dX8_side_56 : decode cX8_side 56 = .ok (.invokespecial 60, 3) := by decide +kernel
theorem dX8_side_59 : decode cX8_side 59 = .ok (.athrow, 1) := by decide +kernel
theorem dX8_side_60 : decode cX8_side 60 = .ok (.iload_n 1, 1) := by decide +kernel
theorem dX8_side_61 : decode cX8_side 61 = .ok (.iload_n 2, 1) := by decide +kernel
theorem dX8_side_62 : decode cX8_side 62 = .ok (.if_icmp .ne 14, 3) := by decide +kernel
theorem dX8_side_65 : decode cX8_side 65 = .ok (.new 124, 3) := by decide +kernel
theorem dX8_side_68 : decode cX8_side 68 = .ok (.dup, 1) := by decide +kernel
theorem dX8_side_69 : decode cX8_side 69 = .ok (.ldc_w 338, 3) := by decide +kernel
theorem dX8_side_72 : decode cX8_side 72 = .ok (.invokespecial 128, 3) := by decide +kernel
theorem dX8_side_75 : decode cX8_side 75 = .ok (.athrow, 1) := by decide +kernel
theorem dX8_side_76 : decode cX8_side 76 = .ok (.aload_n 0, 1) := by decide +kernel
theorem dX8_side_77 : decode cX8_side 77 = .ok (.getfield 48, 3) := by decide +kernel
theorem dX8_side_80 : decode cX8_side 80 = .ok (.invokevirtual 327, 3) := by decide +kernel
theorem dX8_side_83 : decode cX8_side 83 = .ok (.lconst 0, 1) := by decide +kernel
theorem dX8_side_84 : decode cX8_side 84 = .ok (.lcmp, 1) := by decide +kernel
theorem dX8_side_85 : decode cX8_side 85 = .ok (.ifCond .ne 14, 3) := by decide +kernel
theorem dX8_side_88 : decode cX8_side 88 = .ok (.new 67, 3) := by decide +kernel
theorem dX8_side_91 : decode cX8_side 91 = .ok (.dup, 1) := by decide +kernel
theorem dX8_side_92 : decode cX8_side 92 = .ok (.ldc_w 340, 3) := by decide +kernel
theorem dX8_side_95 : decode cX8_side 95 = .ok (.invokespecial 71, 3) := by decide +kernel
theorem dX8_side_98 : decode cX8_side 98 = .ok (.athrow, 1) := by decide +kernel
theorem dX8_side_99 : decode cX8_side 99 = .ok (.iload_n 3, 1) := by decide +kernel
theorem dX8_side_100 : decode cX8_side 100 = .ok (.iconst (-1), 1) := by decide +kernel
theorem dX8_side_101 : decode cX8_side 101 = .ok (.if_icmp .ne 16, 3) := by decide +kernel
theorem dX8_side_104 : decode cX8_side 104 = .ok (.aload_n 0, 1) := by decide +kernel
theorem dX8_side_105 : decode cX8_side 105 = .ok (.getfield 48, 3) := by decide +kernel
theorem dX8_side_108 : decode cX8_side 108 = .ok (.iload_n 1, 1) := by decide +kernel
theorem dX8_side_109 : decode cX8_side 109 = .ok (.iload_n 1, 1) := by decide +kernel
theorem dX8_side_110 : decode cX8_side 110 = .ok (.iload_n 2, 1) := by decide +kernel
theorem dX8_side_111 : decode cX8_side 111 = .ok (.invokevirtual 342, 3) := by decide +kernel
theorem dX8_side_114 : decode cX8_side 114 = .ok (.goto 13, 3) := by decide +kernel
theorem dX8_side_117 : decode cX8_side 117 = .ok (.aload_n 0, 1) := by decide +kernel
theorem dX8_side_118 : decode cX8_side 118 = .ok (.getfield 48, 3) := by decide +kernel
theorem dX8_side_121 : decode cX8_side 121 = .ok (.iload_n 3, 1) := by decide +kernel
theorem dX8_side_122 : decode cX8_side 122 = .ok (.iload_n 1, 1) := by decide +kernel
theorem dX8_side_123 : decode cX8_side 123 = .ok (.iload_n 2, 1) := by decide +kernel
theorem dX8_side_124 : decode cX8_side 124 = .ok (.invokevirtual 346, 3) := by decide +kernel
theorem dX8_side_127 : decode cX8_side 127 = .ok (.l2i, 1) := by decide +kernel
theorem dX8_side_128 : decode cX8_side 128 = .ok (.ireturn, 1) := by decide +kernel
set_option maxRecDepth 20000 in
theorem ggX9_init_X9_puts : GoodIn wsX9_init wsX9_puts := goodIn_r _ [32, 7, 33, 34, 35, 36, 37, 38, 39, 40, 41, 42, 43, 44, 45, 46, 47, 48, 49, 50, 51, 52, 53, 54, 55, 56, 57, 58, 59, 60] (by decide +kernel) (by decide +kernel)
set_option maxRecDepth 20000 in
theorem gX9_init_X9_puts : GoodIn wsX9_init (wsV RX9 76 RX9 yX9_puts wsX9_puts) := goodIn_app (goodIn_of _ (by decide +kernel)) ggX9_init_X9_puts
theorem dX9_init_0 : decode cX9_init 0 = .ok (.aload_n 0, 1) := by decide +kernel
theorem dX9_init_1 : decode cX9_init 1 = .ok (.invokespecial 1, 3) := by decide +kernel
theorem dX9_init_4 : decode cX9_init 4 = .ok (.aload_n 0, 1) := by decide +kernel
theorem dX9_init_5 : decode cX9_init 5 = .ok (.iconst 4, 1) := by decide +kernel
theorem dX9_init_6 : decode cX9_init 6 = .ok (.putfield 7, 3) := by decide +kernel
theorem dX9_init_9 : decode cX9_init 9 = .ok (.aload_n 0, 1) := by decide +kernel
theorem dX9_init_10 : decode cX9_init 10 = .ok (.iconst 4, 1) := by decide +kernel
theorem dX9_init_11 : decode cX9_init 11 = .ok (.putfield 13, 3) := by decide +kernel
theorem dX9_init_14 : decode cX9_init 14 = .ok (.aload_n 0, 1) := by decide +kernel
theorem dX9_init_15 : decode cX9_init 15 = .ok (.bipush 84, 2) := by decide +kernel
theorem dX9_init_17 : decode cX9_init 17 = .ok (.newarray .int, 2) := by decide +kernel
theorem dX9_init_19 : decode cX9_init 19 = .ok (.putfield 16, 3) := by decide +kernel
theorem dX9_init_22 : decode cX9_init 22 = .ok (.aload_n 0, 1) := by decide +kernel
theorem dX9_init_23 : decode cX9_init 23 = .ok (.bipush 16, 2) := by decide +kernel
theorem dX9_init_25 : decode cX9_init 25 = .ok (.newarray .int, 2) := by decide +kernel
theorem dX9_init_27 : decode cX9_init 27 = .ok (.putfield 20, 3) := by decide +kernel
theorem dX9_init_30 : decode cX9_init 30 = .ok (.aload_n 0, 1) := by decide +kernel
theorem dX9_init_31 : decode cX9_init 31 = .ok (.bipush 16, 2) := by decide +kernel
theorem dX9_init_33 : decode cX9_init 33 = .ok (.newarray .int, 2) := by decide +kernel
theorem dX9_init_35 : decode cX9_init 35 = .ok (.putfield 23, 3) := by decide +kernel
theorem dX9_init_38 : decode cX9_init 38 = .ok (.aload_n 0, 1) := by decide +kernel
theorem dX9_init_39 : decode cX9_init 39 = .ok (.bipush 16, 2) := by decide +kernel
theorem dX9_init_41 : decode cX9_init 41 = .ok (.newarray .int, 2) := by decide +kernel
theorem dX9_init_43 : decode cX9_init 43 = .ok (.putfield 26, 3) := by decide +kernel
theorem dX9_init_46 : decode cX9_init 46 = .ok (.aload_n 0, 1) := by decide +kernel
theorem dX9_init_47 : decode cX9_init 47 = .ok (.bipush 32, 2) := by decide +kernel
theorem dX9_init_49 : decode cX9_init 49 = .ok (.newarray .long, 2) := by decide +kernel
theorem dX9_init_51 : decode cX9_init 51 = .ok (.putfield 29, 3) := by decide +kernel
theorem dX9_init_54 : decode cX9_init 54 = .ok (.aload_n 0, 1) := by decide +kernel
theorem dX9_init_55 : decode cX9_init 55 = .ok (.iconst 4, 1) := by decide +kernel
theorem dX9_init_56 : decode cX9_init 56 = .ok (.newarray .long, 2) := by decide +kernel
theorem dX9_init_58 : decode cX9_init 58 = .ok (.putfield 33, 3) := by decide +kernel
theorem dX9_init_61 : decode cX9_init 61 = .ok (.aload_n 0, 1) := by decide +kernel
theorem dX9_init_62 : decode cX9_init 62 = .ok (.sipush 1024, 3) := by decide +kernel
theorem dX9_init_65 : decode cX9_init 65 = .ok (.newarray .long, 2) := by decide +kernel
theorem dX9_init_67 : decode cX9_init 67 = .ok (.putfield 36, 3) := by decide +kernel
theorem dX9_init_70 : decode cX9_init 70 = .ok (.aload_n 0, 1) := by decide +kernel
theorem dX9_init_71 : decode cX9_init 71 = .ok (.sipush 256, 3) := by decide +kernel
theorem dX9_init_74 : decode cX9_init 74 = .ok (.newarray .int, 2) := by decide +kernel
theorem dX9_init_76 : decode cX9_init 76 = .ok (.putfield 39, 3) := by decide +kernel
theorem dX9_init_79 : decode cX9_init 79 = .ok (.aload_n 0, 1) := by decide +kernel
theorem dX9_init_80 : decode cX9_init 80 = .ok (.sipush 256, 3) := by decide +kernel
theorem dX9_init_83 : decode cX9_init 83 = .ok (.newarray .int, 2) := by decide +kernel
theorem dX9_init_85 : decode cX9_init 85 = .ok (.putfield 42, 3) := by decide +kernel
theorem dX9_init_88 : decode cX9_init 88 = .ok (.aload_n 0, 1) := by decide +kernel
theorem dX9_init_89 : decode cX9_init 89 = .ok (.sipush 4096, 3) := by decide +kernel
theorem dX9_init_92 : decode cX9_init 92 = .ok (.newarray .boolean, 2) := by decide +kernel
theorem dX9_init_94 : decode cX9_init 94 = .ok (.putfield 45, 3) := by decide +kernel
theorem dX9_init_97 : decode cX9_init 97 = .ok (.aload_n 0, 1) := by decide +kernel
theorem dX9_init_98 : decode cX9_init 98 = .ok (.sipush 4096, 3) := by decide +kernel
theorem dX9_init_101 : decode cX9_init 101 = .ok (.newarray .int, 2) := by decide +kernel
theorem dX9_init_103 : decode cX9_init 103 = .ok (.putfield 49, 3) := by decide +kernel
theorem dX9_init_106 : decode cX9_init 106 = .ok (.aload_n 0, 1) := by decide +kernel
theorem dX9_init_107 : decode cX9_init 107 = .ok (.sipush 128, 3) := by decide +kernel
theorem dX9_init_110 : decode cX9_init 110 = .ok (.newarray .long, 2) := by decide +kernel
theorem dX9_init_112 : decode cX9_init 112 = .ok (.putfield 52, 3) := by decide +kernel
theorem dX9_init_115 : decode cX9_init 115 = .ok (.aload_n 0, 1) := by decide +kernel
theorem dX9_init_116 : decode cX9_init 116 = .ok (.bipush 16, 2) := by decide +kernel
theorem dX9_init_118 : decode cX9_init 118 = .ok (.newarray .long, 2) := by decide +kernel
theorem dX9_init_120 : decode cX9_init 120 = .ok (.putfield 55, 3) := by decide +kernel
theorem dX9_init_123 : decode cX9_init 123 = .ok (.aload_n 0, 1) := by decide +kernel
theorem dX9_init_124 : decode cX9_init 124 = .ok (.iconst 4, 1) := by decide +kernel
theorem dX9_init_125 : decode cX9_init 125 = .ok (.newarray .long, 2) := by decide +kernel
theorem dX9_init_127 : decode cX9_init 127 = .ok (.putfield 58, 3) := by decide +kernel
theorem dX9_init_130 : decode cX9_init 130 = .ok (.aload_n 0, 1) := by decide +kernel
theorem dX9_init_131 : decode cX9_init 131 = .ok (.iconst 4, 1) := by decide +kernel
theorem dX9_init_132 : decode cX9_init 132 = .ok (.newarray .long, 2) := by decide +kernel
theorem dX9_init_134 : decode cX9_init 134 = .ok (.putfield 61, 3) := by decide +kernel
theorem dX9_init_137 : decode cX9_init 137 = .ok (.aload_n 0, 1) := by decide +kernel
theorem dX9_init_138 : decode cX9_init 138 = .ok (.iconst 2, 1) := by decide +kernel
theorem dX9_init_139 : decode cX9_init 139 = .ok (.putfield 64, 3) := by decide +kernel
theorem dX9_init_142 : decode cX9_init 142 = .ok (.aload_n 0, 1) := by decide +kernel
theorem dX9_init_143 : decode cX9_init 143 = .ok (.bipush 10, 2) := by decide +kernel
theorem dX9_init_145 : decode cX9_init 145 = .ok (.newarray .int, 2) := by decide +kernel
theorem dX9_init_147 : decode cX9_init 147 = .ok (.putfield 67, 3) := by decide +kernel
theorem dX9_init_150 : decode cX9_init 150 = .ok (.aload_n 0, 1) := by decide +kernel
theorem dX9_init_151 : decode cX9_init 151 = .ok (.bipush 10, 2) := by decide +kernel
theorem dX9_init_153 : decode cX9_init 153 = .ok (.newarray .int, 2) := by decide +kernel
theorem dX9_init_155 : decode cX9_init 155 = .ok (.putfield 70, 3) := by decide +kernel
theorem dX9_init_158 : decode cX9_init 158 = .ok (.aload_n 0, 1) := by decide +kernel
theorem dX9_init_159 : decode cX9_init 159 = .ok (.bipush 6, 2) := by decide +kernel
theorem dX9_init_161 : decode cX9_init 161 = .ok (.newarray .int, 2) := by decide +kernel
theorem dX9_init_163 : decode cX9_init 163 = .ok (.putfield 73, 3) := by decide +kernel
theorem dX9_init_166 : decode cX9_init 166 = .ok (.aload_n 0, 1) := by decide +kernel
theorem dX9_init_167 : decode cX9_init 167 = .ok (.iconst 0, 1) := by decide +kernel
theorem dX9_init_168 : decode cX9_init 168 = .ok (.iconst 0, 1) := by decide +kernel
theorem dX9_init_169 : decode cX9_init 169 = .ok (.iconst 1, 1) := by decide +kernel
theorem dX9_init_170 : decode cX9_init 170 = .ok (.iconst 2, 1) := by decide +kernel
theorem dX9_init_171 : decode cX9_init 171 = .ok (.invokevirtual 76, 3) := by decide +kernel
theorem dX9_init_174 : decode cX9_init 174 = .ok (.aload_n 0, 1) := by decide +kernel
theorem dX9_init_175 : decode cX9_init 175 = .ok (.iconst 1, 1) := by decide +kernel
theorem dX9_init_176 : decode cX9_init 176 = .ok (.iconst 0, 1) := by decide +kernel
theorem dX9_init_177 : decode cX9_init 177 = .ok (.iconst 3, 1) := by decide +kernel
theorem dX9_init_178 : decode cX9_init 178 = .ok (.iconst 1, 1) := by decide +kernel
theorem dX9_init_179 : decode cX9_init 179 = .ok (.invokevirtual 76, 3) := by decide +kernel
theorem dX9_init_182 : decode cX9_init 182 = .ok (.aload_n 0, 1) := by decide +kernel
theorem dX9_init_183 : decode cX9_init 183 = .ok (.iconst 2, 1) := by decide +kernel
theorem dX9_init_184 : decode cX9_init 184 = .ok (.iconst 1, 1) := by decide +kernel
theorem dX9_init_185 : decode cX9_init 185 = .ok (.iconst 3, 1) := by decide +kernel
theorem dX9_init_186 : decode cX9_init 186 = .ok (.iconst 2, 1) := by decide +kernel
theorem dX9_init_187 : decode cX9_init 187 = .ok (.invokevirtual 76, 3) := by decide +kernel
theorem dX9_init_190 : decode cX9_init 190 = .ok (.aload_n 0, 1) := by decide +kernel
theorem dX9_init_191 : decode cX9_init 191 = .ok (.iconst 3, 1) := by decide +kernel
theorem dX9_init_192 : decode cX9_init 192 = .ok (.iconst 0, 1) := by decide +kernel
theorem dX9_init_193 : decode cX9_init 193 = .ok (.iconst 2, 1) := by decide +kernel
theorem dX9_init_194 : decode cX9_init 194 = .ok (.iconst 3, 1) := by decide +kernel
theorem dX9_init_195 : decode cX9_init 195 = .ok (.invokevirtual 76, 3) := by decide +kernel
theorem dX9_init_198 : decode cX9_init 198 = .ok (.aload_n 0, 1) := by decide +kernel
theorem dX9_init_199 : decode cX9_init 199 = .ok (.getfield 58, 3) := by decide +kernel
theorem dX9_init_202 : decode cX9_init 202 = .ok (.iconst 0, 1) := by decide +kernel
theorem dX9_init_203 : decode cX9_init 203 = .ok (.lconst 1, 1) := by decide +kernel
theorem dX9_init_204 : decode cX9_init 204 = .ok (.lastore, 1) := by decide +kernel
theorem dX9_init_205 : decode cX9_init 205 = .ok (.aload_n 0, 1) := by decide +kernel
theorem dX9_init_206 : decode cX9_init 206 = .ok (.getfield 58, 3) := by decide +kernel
theorem dX9_init_209 : decode cX9_init 209 = .ok (.iconst 3, 1) := by decide +kernel
theorem dX9_init_210 : decode cX9_init 210 = .ok (.lconst 1, 1) := by decide +kernel
theorem dX9_init_211 : decode cX9_init 211 = .ok (.lastore, 1) := by decide +kernel
theorem dX9_init_212 : decode cX9_init 212 = .ok (.return_, 1) := by decide +kernel
theorem dX9_thrown_0 : decode cX9_thrown 0 = .ok (.aload_n 0, 1) := by decide +kernel
theorem dX9_thrown_1 : decode cX9_thrown 1 = .ok (.getfield 80, 3) := by decide +kernel
theorem dX9_thrown_4 : decode cX9_thrown 4 = .ok (.ireturn, 1) := by decide +kernel
theorem dX9_isIn_0 : decode cX9_isIn 0 = .ok (.lload_n 0, 1) := by decide +kernel
theorem dX9_isIn_1 : decode cX9_isIn 1 = .ok (.lload_n 2, 1) := by decide +kernel
theorem dX9_isIn_2 : decode cX9_isIn 2 = .ok (.lcmp, 1) := by decide +kernel
theorem dX9_isIn_3 : decode cX9_isIn 3 = .ok (.ifCond .lt 14, 3) := by decide +kernel
theorem dX9_isIn_6 : decode cX9_isIn 6 = .ok (.lload_n 0, 1) := by decide +kernel
theorem dX9_isIn_7 : decode cX9_isIn 7 = .ok (.lload 4, 2) := by decide +kernel
theorem dX9_isIn_9 : decode cX9_isIn 9 = .ok (.lcmp, 1) := by decide +kernel
theorem dX9_isIn_10 : decode cX9_isIn 10 = .ok (.ifCond .gt 7, 3) := by decide +kernel
theorem dX9_isIn_13 : decode cX9_isIn 13 = .ok (.iconst 1, 1) := by decide +kernel
theorem dX9_isIn_14 : decode cX9_isIn 14 = .ok (.goto 4, 3) := by decide +kernel
theorem dX9_isIn_17 : decode cX9_isIn 17 = .ok (.iconst 0, 1) := by decide +kernel
theorem dX9_isIn_18 : decode cX9_isIn 18 = .ok (.ireturn, 1) := by decide +kernel
theorem dX9_puts_0 : decode cX9_puts 0 = .ok (.iload_n 2, 1) := by decide +kernel
theorem dX9_puts_1 : decode cX9_puts 1 = .ok (.iload_n 3, 1) := by decide +kernel
theorem dX9_puts_2 : decode cX9_puts 2 = .ok (.if_icmp .ge 13, 3) := by decide +kernel
theorem dX9_puts_5 : decode cX9_puts 5 = .ok (.iload_n 2, 1) := by decide +kernel
theorem dX9_puts_6 : decode cX9_puts 6 = .ok (.iload 4, 2) := by decide +kernel
theorem dX9_puts_8 : decode cX9_puts 8 = .ok (.if_icmp .ge 7, 3) := by decide +kernel
theorem dX9_puts_11 : decode cX9_puts 11 = .ok (.iconst 1, 1) := by decide +kernel
theorem dX9_puts_12 : decode cX9_puts 12 = .ok (.goto 4, 3) := by decide +kernel
theorem dX9_puts_15 : decode cX9_puts 15 = .ok (.iconst 0, 1) := by decide +kernel
theorem dX9_puts_16 : decode cX9_puts 16 = .ok (.istore 5, 2) := by decide +kernel
theorem dX9_puts_18 : decode cX9_puts 18 = .ok (.iload_n 3, 1) := by decide +kernel
theorem dX9_puts_19 : decode cX9_puts 19 = .ok (.iload_n 2, 1) := by decide +kernel
theorem dX9_puts_20 : decode cX9_puts 20 = .ok (.if_icmp .ge 13, 3) := by decide +kernel
theorem dX9_puts_23 : decode cX9_puts 23 = .ok (.iload_n 3, 1) := by decide +kernel
theorem dX9_puts_24 : decode cX9_puts 24 = .ok (.iload 4, 2) := by decide +kernel
theorem dX9_puts_26 : decode cX9_puts 26 = .ok (.if_icmp .ge 7, 3) := by decide +kernel
theorem dX9_puts_29 : decode cX9_puts 29 = .ok (.iconst 1, 1) := by decide +kernel
theorem dX9_puts_30 : decode cX9_puts 30 = .ok (.goto 4, 3) := by decide +kernel
theorem dX9_puts_33 : decode cX9_puts 33 = .ok (.iconst 0, 1) := by decide +kernel
theorem dX9_puts_34 : decode cX9_puts 34 = .ok (.istore 6, 2) := by decide +kernel
theorem dX9_puts_36 : decode cX9_puts 36 = .ok (.aload_n 0, 1) := by decide +kernel
theorem dX9_puts_37 : decode cX9_puts 37 = .ok (.getfield 16, 3) := by decide +kernel
theorem dX9_puts_40 : decode cX9_puts 40 = .ok (.iconst 3, 1) := by decide +kernel
theorem dX9_puts_41 : decode cX9_puts 41 = .ok (.iload_n 1, 1) := by decide +kernel
theorem dX9_puts_42 : decode cX9_puts 42 = .ok (.imul, 1) := by decide +kernel
theorem dX9_puts_43 : decode cX9_puts 43 = .ok (.iload 5, 2) := by decide +kernel
theorem dX9_puts_45 : decode cX9_puts 45 = .ok (.ifCond .eq 7, 3) := by decide +kernel
theorem dX9_puts_48 : decode cX9_puts 48 = .ok (.iload_n 2, 1) := by decide +kernel
theorem dX9_puts_49 : decode cX9_puts 49 = .ok (.goto 14, 3) := by decide +kernel
theorem dX9_puts_52 : decode cX9_puts 52 = .ok (.iload 6, 2) := by decide +kernel
theorem dX9_puts_54 : decode cX9_puts 54 = .ok (.ifCond .eq 7, 3) := by decide +kernel
theorem dX9_puts_57 : decode cX9_puts 57 = .ok (.iload_n 3, 1) := by decide +kernel
theorem dX9_puts_58 : decode cX9_puts 58 = .ok (.goto 5, 3) := by decide +kernel
theorem dX9_puts_61 : decode cX9_puts 61 = .ok (.iload 4, 2) := by decide +kernel
theorem dX9_puts_63 : decode cX9_puts 63 = .ok (.iastore, 1) := by decide +kernel
theorem dX9_puts_64 : decode cX9_puts 64 = .ok (.aload_n 0, 1) := by decide +kernel
theorem dX9_puts_65 : decode cX9_puts 65 = .ok (.getfield 16, 3) := by decide +kernel
theorem dX9_puts_68 : decode cX9_puts 68 = .ok (.iconst 3, 1) := by decide +kernel
theorem dX9_puts_69 : decode cX9_puts 69 = .ok (.iload_n 1, 1) := by decide +kernel
theorem dX9_puts_70 : decode cX9_puts 70 = .ok (.imul, 1) := by decide +kernel
theorem dX9_puts_71 : decode cX9_puts 71 = .ok (.iconst 1, 1) := by decide +kernel
theorem dX9_puts_72 : decode cX9_puts 72 = .ok (.iadd, 1) := by decide +kernel
theorem dX9_puts_73 : decode cX9_puts 73 = .ok (.iload 5, 2) := by decide +kernel
theorem dX9_puts_75 : decode cX9_puts 75 = .ok (.ifCond .eq 7, 3) := by decide +kernel
theorem dX9_puts_78 : decode cX9_puts 78 = .ok (.iload_n 3, 1) := by decide +kernel
theorem dX9_puts_79 : decode cX9_puts 79 = .ok (.goto 14, 3) := by decide +kernel
theorem dX9_puts_82 : decode cX9_puts 82 = .ok (.iload 6, 2) := by decide +kernel
theorem dX9_puts_84 : decode cX9_puts 84 = .ok (.ifCond .eq 8, 3) := by decide +kernel
theorem dX9_puts_87 : decode cX9_puts 87 = .ok (.iload 4, 2) := by decide +kernel
theorem dX9_puts_89 : decode cX9_puts 89 = .ok (.goto 4, 3) := by decide +kernel
theorem dX9_puts_92 : decode cX9_puts 92 = .ok (.iload_n 2, 1) := by decide +kernel
theorem dX9_puts_93 : decode cX9_puts 93 = .ok (.iastore, 1) := by decide +kernel
theorem dX9_puts_94 : decode cX9_puts 94 = .ok (.aload_n 0, 1) := by decide +kernel
theorem dX9_puts_95 : decode cX9_puts 95 = .ok (.getfield 16, 3) := by decide +kernel
theorem dX9_puts_98 : decode cX9_puts 98 = .ok (.iconst 3, 1) := by decide +kernel
theorem dX9_puts_99 : decode cX9_puts 99 = .ok (.iload_n 1, 1) := by decide +kernel
theorem dX9_puts_100 : decode cX9_puts 100 = .ok (.imul, 1) := by decide +kernel
theorem dX9_puts_101 : decode cX9_puts 101 = .ok (.iconst 2, 1) := by decide +kernel
theorem dX9_puts_102 : decode cX9_puts 102 = .ok (.iadd, 1) := by decide +kernel
theorem dX9_puts_103 : decode cX9_puts 103 = .ok (.iload 5, 2) := by decide +kernel
theorem dX9_puts_105 : decode cX9_puts 105 = .ok (.ifCond .eq 8, 3) := by decide +kernel
theorem dX9_puts_108 : decode cX9_puts 108 = .ok (.iload 4, 2) := by decide +kernel
theorem dX9_puts_110 : decode cX9_puts 110 = .ok (.goto 13, 3) := by decide +kernel
theorem dX9_puts_113 : decode cX9_puts 113 = .ok (.iload 6, 2) := by decide +kernel
theorem dX9_puts_115 : decode cX9_puts 115 = .ok (.ifCond .eq 7, 3) := by decide +kernel
theorem dX9_puts_118 : decode cX9_puts 118 = .ok (.iload_n 2, 1) := by decide +kernel
theorem dX9_puts_119 : decode cX9_puts 119 = .ok (.goto 4, 3) := by decide +kernel
theorem dX9_puts_122 : decode cX9_puts 122 = .ok (.iload_n 3, 1) := by decide +kernel
theorem dX9_puts_123 : decode cX9_puts 123 = .ok (.iastore, 1) := by decide +kernel
theorem dX9_puts_124 : decode cX9_puts 124 = .ok (.return_, 1) := by decide +kernel
set_option maxRecDepth 20000 in
theorem ggX9_isCorner_X9_isIn : GoodIn wsX9_isCorner wsX9_isIn := goodIn_r _ [5] (by decide +kernel) (by decide +kernel)
set_option maxRecDepth 20000 in
theorem gX9_isCorner_X9_isIn : GoodIn wsX9_isCorner (va_wsS RX9 83 yX9_isIn wsX9_isIn) := goodIn_app (goodIn_of _ (by decide +kernel)) ggX9_isCorner_X9_isIn
theorem dX9_isCorner_0 : decode cX9_isCorner 0 = .ok (.iload_n 1, 1) := by decide +kernel
theorem dX9_isCorner_1 : decode cX9_isCorner 1 = .ok (.i2l, 1) := by decide +kernel
theorem dX9_isCorner_2 : decode cX9_isCorner 2 = .ok (.lconst 0, 1) := by decide +kernel
theorem dX9_isCorner_3 : decode cX9_isCorner 3 = .ok (.aload_n 0, 1) := by decide +kernel
theorem dX9_isCorner_4 : decode cX9_isCorner 4 = .ok (.getfield 7, 3) := by decide +kernel
theorem dX9_isCorner_7 : decode cX9_isCorner 7 = .ok (.iconst 1, 1) := by decide +kernel
theorem dX9_isCorner_8 : decode cX9_isCorner 8 = .ok (.isub, 1) := by decide +kernel
theorem dX9_isCorner_9 : decode cX9_isCorner 9 = .ok (.i2l, 1) := by decide +kernel
theorem dX9_isCorner_10 : decode cX9_isCorner 10 = .ok (.invokestatic 83, 3) := by decide +kernel
theorem dX9_isCorner_13 : decode cX9_isCorner 13 = .ok (.ireturn, 1) := by decide +kernel
set_option maxRecDepth 20000 in
theorem ggX9_isFace_X9_isIn : GoodIn wsX9_isFace wsX9_isIn := goodIn_r _ [5] (by decide +kernel) (by decide +kernel)
set_option maxRecDepth 20000 in
theorem gX9_isFace_X9_isIn : GoodIn wsX9_isFace (va_wsS RX9 83 yX9_isIn wsX9_isIn) := goodIn_app (goodIn_of _ (by decide +kernel)) ggX9_isFace_X9_isIn
theorem dX9_isFace_0 : decode cX9_isFace 0 = .ok (.iload_n 1, 1) := by decide +kernel
theorem dX9_isFace_1 : decode cX9_isFace 1 = .ok (.i2l, 1) := by decide +kernel
theorem dX9_isFace_2 : decode cX9_isFace 2 = .ok (.lconst 0, 1) := by decide +kernel
theorem dX9_isFace_3 : decode cX9_isFace 3 = .ok (.aload_n 0, 1) := by decide +kernel
theorem dX9_isFace_4 : decode cX9_isFace 4 = .ok (.getfield 13, 3) := by decide +kernel
theorem dX9_isFace_7 : decode cX9_isFace 7 = .ok (.iconst 1, 1) := by decide +kernel
theorem dX9_isFace_8 : decode cX9_isFace 8 = .ok (.isub, 1) := by decide +kernel
theorem dX9_isFace_9 : decode cX9_isFace 9 = .ok (.i2l, 1) := by decide +kernel
theorem dX9_isFace_10 : decode cX9_isFace 10 = .ok (.invokestatic 83, 3) := by decide +kernel
theorem dX9_isFace_13 : decode cX9_isFace 13 = .ok (.ireturn, 1) := by decide +kernel
theorem dX9_faceOf_0 : decode cX9_faceOf 0 = .ok (.iconst (-1), 1) := by decide +kernel
theorem dX9_faceOf_1 : decode cX9_faceOf 1 = .ok (.istore_n 3, 1) := by decide +kernel
theorem dX9_faceOf_2 : decode cX9_faceOf 2 = .ok (.iconst 0, 1) := by decide +kernel
theorem dX9_faceOf_3 : decode cX9_faceOf 3 = .ok (.istore 4, 2) := by decide +kernel
theorem dX9_faceOf_5 : decode cX9_faceOf 5 = .ok (.iload 4, 2) := by decide +kernel
theorem dX9_faceOf_7 : decode cX9_faceOf 7 = .ok (.iconst 3, 1) := by decide +kernel
theorem dX9_faceOf_8 : decode cX9_faceOf 8 = .ok (.aload_n 0, 1) := by decide +kernel
theorem dX9_faceOf_9 : decode cX9_faceOf 9 = .ok (.getfield 13, 3) := by decide +kernel
theorem dX9_faceOf_12 : decode cX9_faceOf 12 = .ok (.imul, 1) := by decide +kernel
theorem dX9_faceOf_13 : decode cX9_faceOf 13 = .ok (.if_icmp .ge 61, 3) := by decide +kernel
theorem dX9_faceOf_16 : decode cX9_faceOf 16 = .ok (.iload 4, 2) := by decide +kernel
theorem dX9_faceOf_18 : decode cX9_faceOf 18 = .ok (.iconst 3, 1) := by decide +kernel
theorem dX9_faceOf_19 : decode cX9_faceOf 19 = .ok (.irem, 1) := by decide +kernel
theorem dX9_faceOf_20 : decode cX9_faceOf 20 = .ok (.iconst 2, 1) := by decide +kernel
theorem dX9_faceOf_21 : decode cX9_faceOf 21 = .ok (.if_icmp .ne 10, 3) := by decide +kernel
theorem dX9_faceOf_24 : decode cX9_faceOf 24 = .ok (.iload 4, 2) := by decide +kernel
theorem dX9_faceOf_26 : decode cX9_faceOf 26 = .ok (.iconst 2, 1) := by decide +kernel
theorem dX9_faceOf_27 : decode cX9_faceOf 27 = .ok (.isub, 1) := by decide +kernel
theorem dX9_faceOf_28 : decode cX9_faceOf 28 = .ok (.goto 7, 3) := by decide +kernel
theorem dX9_faceOf_31 : decode cX9_faceOf 31 = .ok (.iload 4, 2) := by decide +kernel
theorem dX9_faceOf_33 : decode cX9_faceOf 33 = .ok (.iconst 1, 1) := by decide +kernel
theorem dX9_faceOf_34 : decode cX9_faceOf 34 = .ok (.iadd, 1) := by decide +kernel
theorem dX9_faceOf_35 : decode cX9_faceOf 35 = .ok (.istore 5, 2) := by decide +kernel
theorem dX9_faceOf_37 : decode cX9_faceOf 37 = .ok (.aload_n 0, 1) := by decide +kernel
theorem dX9_faceOf_38 : decode cX9_faceOf 38 = .ok (.getfield 16, 3) := by decide +kernel
theorem dX9_faceOf_41 : decode cX9_faceOf 41 = .ok (.iload 4, 2) := by decide +kernel
theorem dX9_faceOf_43 : decode cX9_faceOf 43 = .ok (.iaload, 1) := by decide +kernel
theorem dX9_faceOf_44 : decode cX9_faceOf 44 = .ok (.iload_n 1, 1) := by decide +kernel
theorem dX9_faceOf_45 : decode cX9_faceOf 45 = .ok (.if_icmp .ne 21, 3) := by decide +kernel
theorem dX9_faceOf_48 : decode cX9_faceOf 48 = .ok (.aload_n 0, 1) := by decide +kernel
theorem dX9_faceOf_49 : decode cX9_faceOf 49 = .ok (.getfield 16, 3) := by decide +kernel
theorem dX9_faceOf_52 : decode cX9_faceOf 52 = .ok (.iload 5, 2) := by decide +kernel
theorem dX9_faceOf_54 : decode cX9_faceOf 54 = .ok (.iaload, 1) := by decide +kernel
theorem dX9_faceOf_55 : decode cX9_faceOf 55 = .ok (.iload_n 2, 1) := by decide +kernel
theorem dX9_faceOf_56 : decode cX9_faceOf 56 = .ok (.if_icmp .ne 10, 3) := by decide +kernel
theorem dX9_faceOf_59 : decode cX9_faceOf 59 = .ok (.iload 4, 2) := by decide +kernel
theorem dX9_faceOf_61 : decode cX9_faceOf 61 = .ok (.iconst 3, 1) := by decide +kernel
theorem dX9_faceOf_62 : decode cX9_faceOf 62 = .ok (.idiv, 1) := by decide +kernel
theorem dX9_faceOf_63 : decode cX9_faceOf 63 = .ok (.goto 4, 3) := by decide +kernel
theorem dX9_faceOf_66 : decode cX9_faceOf 66 = .ok (.iload_n 3, 1) := by decide +kernel
theorem dX9_faceOf_67 : decode cX9_faceOf 67 = .ok (.istore_n 3, 1) := by decide +kernel
theorem dX9_faceOf_68 : decode cX9_faceOf 68 = .ok (.iinc 4 1, 3) := by decide +kernel
theorem dX9_faceOf_71 : decode cX9_faceOf 71 = .ok (.goto (-66), 3) := by decide +kernel
theorem dX9_faceOf_74 : decode cX9_faceOf 74 = .ok (.iload_n 3, 1) := by decide +kernel
theorem dX9_faceOf_75 : decode cX9_faceOf 75 = .ok (.ireturn, 1) := by decide +kernel
theorem dX9_third_0 : decode cX9_third 0 = .ok (.iconst (-1), 1) := by decide +kernel
theorem dX9_third_1 : decode cX9_third 1 = .ok (.istore 4, 2) := by decide +kernel
theorem dX9_third_3 : decode cX9_third 3 = .ok (.iconst 3, 1) := by decide +kernel
theorem dX9_third_4 : decode cX9_third 4 = .ok (.iload_n 1, 1) := by decide +kernel
theorem dX9_third_5 : decode cX9_third 5 = .ok (.imul, 1) := by decide +kernel
theorem dX9_third_6 : decode cX9_third 6 = .ok (.istore 5, 2) := by decide +kernel
theorem dX9_third_8 : decode cX9_third 8 = .ok (.iload 5, 2) := by decide +kernel
theorem dX9_third_10 : decode cX9_third 10 = .ok (.iconst 3, 1) := by decide +kernel
theorem dX9_third_11 : decode cX9_third 11 = .ok (.iload_n 1, 1) := by decide +kernel
theorem dX9_third_12 : decode cX9_third 12 = .ok (.imul, 1) := by decide +kernel
theorem dX9_third_13 : decode cX9_third 13 = .ok (.iconst 3, 1) := by decide +kernel
theorem dX9_third_14 : decode cX9_third 14 = .ok (.iadd, 1) := by decide +kernel
theorem dX9_third_15 : decode cX9_third 15 = .ok (.if_icmp .ge 45, 3) := by decide +kernel
theorem dX9_third_18 : decode cX9_third 18 = .ok (.aload_n 0, 1) := by decide +kernel
theorem dX9_third_19 : decode cX9_third 19 = .ok (.getfield 16, 3) := by decide +kernel
theorem dX9_third_22 : decode cX9_third 22 = .ok (.iload 5, 2) := by decide +kernel
theorem dX9_third_24 : decode cX9_third 24 = .ok (.iaload, 1) := by decide +kernel
theorem dX9_third_25 : decode cX9_third 25 = .ok (.iload_n 2, 1) := by decide +kernel
theorem dX9_third_26 : decode cX9_third 26 = .ok (.if_icmp .eq 24, 3) := by decide +kernel
theorem dX9_third_29 : decode cX9_third 29 = .ok (.aload_n 0, 1) := by decide +kernel
theorem dX9_third_30 : decode cX9_third 30 = .ok (.getfield 16, 3) := by decide +kernel
theorem dX9_third_33 : decode cX9_third 33 = .ok (.iload 5, 2) := by decide +kernel
theorem dX9_third_35 : decode cX9_third 35 = .ok (.iaload, 1) := by decide +kernel
theorem dX9_third_36 : decode cX9_third 36 = .ok (.iload_n 3, 1) := by decide +kernel
theorem dX9_third_37 : decode cX9_third 37 = .ok (.if_icmp .eq 13, 3) := by decide +kernel
theorem dX9_third_40 : decode cX9_third 40 = .ok (.aload_n 0, 1) := by decide +kernel
theorem dX9_third_41 : decode cX9_third 41 = .ok (.getfield 16, 3) := by decide +kernel
theorem dX9_third_44 : decode cX9_third 44 = .ok (.iload 5, 2) := by decide +kernel
theorem dX9_third_46 : decode cX9_third 46 = .ok (.iaload, 1) := by decide +kernel
theorem dX9_third_47 : decode cX9_third 47 = .ok (.goto 5, 3) := by decide +kernel
theorem dX9_third_50 : decode cX9_third 50 = .ok (.iload 4, 2) := by decide +kernel
theorem dX9_third_52 : decode cX9_third 52 = .ok (.istore 4, 2) := by decide +kernel
theorem dX9_third_54 : decode cX9_third 54 = .ok (.iinc 5 1, 3) := by decide +kernel
theorem dX9_third_57 : decode cX9_third 57 = .ok (.goto (-49), 3) := by decide +kernel
theorem dX9_third_60 : decode cX9_third 60 = .ok (.iload 4, 2) := by decide +kernel
theorem dX9_third_62 : decode cX9_third 62 = .ok (.ireturn, 1) := by decide +kernel
set_option maxRecDepth 20000 in
theorem ggX9_areNeighbours_X9_faceOf : GoodIn wsX9_areNeighbours wsX9_faceOf := goodIn_r _ [5, 6, 7, 8, 9, 10, 11, 12, 13, 14, 15, 16, 17, 18, 19, 20, 21, 22, 23, 24, 25, 26, 27, 28, 29, 30, 31, 32, 33, 34, 35] (by decide +kernel) (by decide +kernel)
set_option maxRecDepth 20000 in
theorem gX9_areNeighbours_X9_faceOf : GoodIn wsX9_areNeighbours (wsV RX9 87 RX9 yX9_faceOf wsX9_faceOf) := goodIn_app (goodIn_of _ (by decide +kernel)) ggX9_areNeighbours_X9_faceOf
theorem dX9_areNeighbours_0 : decode cX9_areNeighbours 0 = .ok (.aload_n 0, 1) := by decide +kernel
theorem dX9_areNeighbours_1 : decode cX9_areNeighbours 1 = .ok (.iload_n 1, 1) := by decide +kernel
theorem dX9_areNeighbours_2 : decode cX9_areNeighbours 2 = .ok (.iload_n 2, 1) := by decide +kernel
theorem dX9_areNeighbours_3 : decode cX9_areNeighbours 3 = .ok (.invokevirtual 87, 3) := by decide +kernel
theorem dX9_areNeighbours_6 : decode cX9_areNeighbours 6 = .ok (.iconst (-1), 1) := by decide +kernel
theorem dX9_areNeighbours_7 : decode cX9_areNeighbours 7 = .ok (.if_icmp .eq 7, 3) := by decide +kernel
theorem dX9_areNeighbours_10 : decode cX9_areNeighbours 10 = .ok (.iconst 1, 1) := by decide +kernel
theorem dX9_areNeighbours_11 : decode cX9_areNeighbours 11 = .ok (.goto 4, 3) := by decide +kernel
theorem dX9_areNeighbours_14 : decode cX9_areNeighbours 14 = .ok (.iconst 0, 1) := by decide +kernel
theorem dX9_areNeighbours_15 : decode cX9_areNeighbours 15 = .ok (.ireturn, 1) := by decide +kernel
set_option maxRecDepth 20000 in
theorem ggX9_split_X9_isFace : GoodIn wsX9_split wsX9_isFace := goodIn_r _ [9, 4, 10, 11, 8, 12, 17, 18, 19, 20, 21, 22, 23, 24, 25, 26, 27, 28, 29, 30, 31, 32, 33, 34, 35, 36, 37, 38, 39, 40, 41, 42, 43, 44] (by decide +kernel) (by decide +kernel)
set_option maxRecDepth 20000 in
theorem gX9_split_X9_isFace : GoodIn wsX9_split (wsV RX9 91 RX9 yX9_isFace wsX9_isFace) := goodIn_app (goodIn_of _ (by decide +kernel)) ggX9_split_X9_isFace
set_option maxRecDepth 20000 in
theorem ggX9_split_X9_puts : GoodIn wsX9_split wsX9_puts := goodIn_r _ [16, 3, 17, 18, 19, 20, 21, 22, 23, 24, 25, 26, 27, 28, 29, 30, 31, 32, 33, 34, 35, 36, 37, 38, 39, 40, 41, 42, 43, 44] (by decide +kernel) (by decide +kernel)
set_option maxRecDepth 20000 in
theorem gX9_split_X9_puts : GoodIn wsX9_split (wsV RX9 76 RX9 yX9_puts wsX9_puts) := goodIn_app (goodIn_of _ (by decide +kernel)) ggX9_split_X9_puts
theorem dX9_split_0 : decode cX9_split 0 = .ok (.aload_n 0, 1) := by decide +kernel
theorem dX9_split_1 : decode cX9_split 1 = .ok (.aload_n 0, 1) := by decide +kernel
theorem dX9_split_2 : decode cX9_split 2 = .ok (.iload_n 1, 1) := by decide +kernel
theorem dX9_split_3 : decode cX9_split 3 = .ok (.invokevirtual 91, 3) := by decide +kernel
theorem dX9_split_6 : decode cX9_split 6 = .ok (.ifCond .ne 7, 3) := by decide +kernel
theorem dX9_split_9 : decode cX9_split 9 = .ok (.iconst 1, 1) := by decide +kernel
theorem dX9_split_10 : decode cX9_split 10 = .ok (.goto 17, 3) := by decide +kernel
theorem dX9_split_13 : decode cX9_split 13 = .ok (.aload_n 0, 1) := by decide +kernel
theorem dX9_split_14 : decode cX9_split 14 = .ok (.getfield 7, 3) := by decide +kernel
theorem dX9_split_17 : decode cX9_split 17 = .ok (.bipush 16, 2) := by decide +kernel
theorem dX9_split_19 : decode cX9_split 19 = .ok (.if_icmp .ne 7, 3) := by decide +kernel
theorem dX9_split_22 : decode cX9_split 22 = .ok (.iconst 2, 1) := by decide +kernel
theorem dX9_split_23 : decode cX9_split 23 = .ok (.goto 4, 3) := by decide +kernel
theorem dX9_split_26 : decode cX9_split 26 = .ok (.iconst 0, 1) := by decide +kernel
theorem dX9_split_27 : decode cX9_split 27 = .ok (.putfield 80, 3) := by decide +kernel
theorem dX9_split_30 : decode cX9_split 30 = .ok (.aload_n 0, 1) := by decide +kernel
theorem dX9_split_31 : decode cX9_split 31 = .ok (.getfield 80, 3) := by decide +kernel
theorem dX9_split_34 : decode cX9_split 34 = .ok (.ifCond .le 5, 3) := by decide +kernel
theorem dX9_split_37 : decode cX9_split 37 = .ok (.iconst 0, 1) := by decide +kernel
theorem dX9_split_38 : decode cX9_split 38 = .ok (.ireturn, 1) := by decide +kernel
theorem dX9_split_39 : decode cX9_split 39 = .ok (.aload_n 0, 1) := by decide +kernel
theorem dX9_split_40 : decode cX9_split 40 = .ok (.getfield 16, 3) := by decide +kernel
theorem dX9_split_43 : decode cX9_split 43 = .ok (.iconst 3, 1) := by decide +kernel
theorem dX9_split_44 : decode cX9_split 44 = .ok (.iload_n 1, 1) := by decide +kernel
theorem dX9_split_45 : decode cX9_split 45 = .ok (.imul, 1) := by decide +kernel
theorem dX9_split_46 : decode cX9_split 46 = .ok (.iaload, 1) := by decide +kernel
theorem dX9_split_47 : decode cX9_split 47 = .ok (.istore_n 2, 1) := by decide +kernel
theorem dX9_split_48 : decode cX9_split 48 = .ok (.aload_n 0, 1) := by decide +kernel
theorem dX9_split_49 : decode cX9_split 49 = .ok (.getfield 16, 3) := by decide +kernel
theorem dX9_split_52 : decode cX9_split 52 = .ok (.iconst 3, 1) := by decide +kernel
theorem dX9_split_53 : decode cX9_split 53 = .ok (.iload_n 1, 1) := by decide +kernel
theorem dX9_split_54 : decode cX9_split 54 = .ok (.imul, 1) := by decide +kernel
theorem dX9_split_55 : decode cX9_split 55 = .ok (.iconst 1, 1) := by decide +kernel
theorem dX9_split_56 : decode cX9_split 56 = .ok (.iadd, 1) := by decide +kernel
theorem dX9_split_57 : decode cX9_split 57 = .ok (.iaload, 1) := by decide +kernel
theorem dX9_split_58 : decode cX9_split 58 = .ok (.istore_n 3, 1) := by decide +kernel
theorem dX9_split_59 : decode cX9_split 59 = .ok (.aload_n 0, 1) := by decide +kernel
theorem dX9_split_60 : decode cX9_split 60 = .ok (.getfield 16, 3) := by decide +kernel
theorem dX9_split_63 : decode cX9_split 63 = .ok (.iconst 3, 1) := by decide +kernel
theorem dX9_split_64 : decode cX9_split 64 = .ok (.iload_n 1, 1) := by decide +kernel
theorem dX9_split_65 : decode cX9_split 65 = .ok (.imul, 1) := by decide +kernel
theorem dX9_split_66 : decode cX9_split 66 = .ok (.iconst 2, 1) := by decide +kernel
theorem dX9_split_67 : decode cX9_split 67 = .ok (.iadd, 1) := by decide +kernel
theorem dX9_split_68 : decode cX9_split 68 = .ok (.iaload, 1) := by decide +kernel
theorem dX9_split_69 : decode cX9_split 69 = .ok (.istore 4, 2) := by decide +kernel
theorem dX9_split_71 : decode cX9_split 71 = .ok (.aload_n 0, 1) := by decide +kernel
theorem dX9_split_72 : decode cX9_split 72 = .ok (.iload_n 1, 1) := by decide +kernel
theorem dX9_split_73 : decode cX9_split 73 = .ok (.iload_n 2, 1) := by decide +kernel
theorem dX9_split_74 : decode cX9_split 74 = .ok (.iload_n 3, 1) := by decide +kernel
theorem dX9_split_75 : decode cX9_split 75 = .ok (.aload_n 0, 1) := by decide +kernel
theorem dX9_split_76 : decode cX9_split 76 = .ok (.getfield 7, 3) := by decide +kernel
theorem dX9_split_79 : decode cX9_split 79 = .ok (.invokevirtual 76, 3) := by decide +kernel
theorem dX9_split_82 : decode cX9_split 82 = .ok (.aload_n 0, 1) := by decide +kernel
theorem dX9_split_83 : decode cX9_split 83 = .ok (.aload_n 0, 1) := by decide +kernel
theorem dX9_split_84 : decode cX9_split 84 = .ok (.getfield 13, 3) := by decide +kernel
theorem dX9_split_87 : decode cX9_split 87 = .ok (.iload_n 3, 1) := by decide +kernel
theorem dX9_split_88 : decode cX9_split 88 = .ok (.iload 4, 2) := by decide +kernel
theorem dX9_split_90 : decode cX9_split 90 = .ok (.aload_n 0, 1) := by decide +kernel
theorem dX9_split_91 : decode cX9_split 91 = .ok (.getfield 7, 3) := by decide +kernel
theorem dX9_split_94 : decode cX9_split 94 = .ok (.invokevirtual 76, 3) := by decide +kernel
theorem dX9_split_97 : decode cX9_split 97 = .ok (.aload_n 0, 1) := by decide +kernel
theorem dX9_split_98 : decode cX9_split 98 = .ok (.aload_n 0, 1) := by decide +kernel
theorem dX9_split_99 : decode cX9_split 99 = .ok (.getfield 13, 3) := by decide +kernel
theorem dX9_split_102 : decode cX9_split 102 = .ok (.iconst 1, 1) := by decide +kernel
theorem dX9_split_103 : decode cX9_split 103 = .ok (.iadd, 1) := by decide +kernel
theorem dX9_split_104 : decode cX9_split 104 = .ok (.iload 4, 2) := by decide +kernel
theorem dX9_split_106 : decode cX9_split 106 = .ok (.iload_n 2, 1) := by decide +kernel
theorem dX9_split_107 : decode cX9_split 107 = .ok (.aload_n 0, 1) := by decide +kernel
theorem dX9_split_108 : decode cX9_split 108 = .ok (.getfield 7, 3) := by decide +kernel
theorem dX9_split_111 : decode cX9_split 111 = .ok (.invokevirtual 76, 3) := by decide +kernel
theorem dX9_split_114 : decode cX9_split 114 = .ok (.aload_n 0, 1) := by decide +kernel
theorem dX9_split_115 : decode cX9_split 115 = .ok (.dup, 1) := by decide +kernel
theorem dX9_split_116 : decode cX9_split 116 = .ok (.getfield 13, 3) := by decide +kernel
theorem dX9_split_119 : decode cX9_split 119 = .ok (.iconst 2, 1) := by decide +kernel
theorem dX9_split_120 : decode cX9_split 120 = .ok (.iadd, 1) := by decide +kernel
theorem dX9_split_121 : decode cX9_split 121 = .ok (.putfield 13, 3) := by decide +kernel
theorem dX9_split_124 : decode cX9_split 124 = .ok (.aload_n 0, 1) := by decide +kernel
theorem dX9_split_125 : decode cX9_split 125 = .ok (.dup, 1) := by decide +kernel
theorem dX9_split_126 : decode cX9_split 126 = .ok (.getfield 7, 3) := by decide +kernel
theorem dX9_split_129 : decode cX9_split 129 = .ok (.iconst 1, 1) := by decide +kernel
theorem dX9_split_130 : decode cX9_split 130 = .ok (.iadd, 1) := by decide +kernel
theorem dX9_split_131 : decode cX9_split 131 = .ok (.putfield 7, 3) := by decide +kernel
theorem dX9_split_134 : decode cX9_split 134 = .ok (.aload_n 0, 1) := by decide +kernel
theorem dX9_split_135 : decode cX9_split 135 = .ok (.getfield 7, 3) := by decide +kernel
theorem dX9_split_138 : decode cX9_split 138 = .ok (.iconst 1, 1) := by decide +kernel
theorem dX9_split_139 : decode cX9_split 139 = .ok (.isub, 1) := by decide +kernel
theorem dX9_split_140 : decode cX9_split 140 = .ok (.ireturn, 1) := by decide +kernel
set_option maxRecDepth 20000 in
theorem ggX9_canFlip_X9_areNeighbours : GoodIn wsX9_canFlip wsX9_areNeighbours := goodIn_r _ [5, 6, 7, 8, 4, 9, 10, 11, 16, 17, 18, 19, 20, 21, 22, 23, 24, 25, 26, 27, 28, 29, 30, 31, 32, 33, 34, 35, 36, 37, 38, 39, 40, 41, 42, 43] (by decide +kernel) (by decide +kernel)
set_option maxRecDepth 20000 in
theorem gX9_canFlip_X9_areNeighbours : GoodIn wsX9_canFlip (wsV RX9 95 RX9 yX9_areNeighbours wsX9_areNeighbours) := goodIn_app (goodIn_of _ (by decide +kernel)) ggX9_canFlip_X9_areNeighbours
set_option maxRecDepth 20000 in
theorem ggX9_canFlip_X9_faceOf : GoodIn wsX9_canFlip wsX9_faceOf := goodIn_r _ [9, 10, 11, 16, 17, 18, 19, 20, 21, 22, 23, 24, 25, 26, 27, 28, 29, 30, 31, 32, 33, 34, 35, 36, 37, 38, 39, 40, 41, 42, 43] (by decide +kernel) (by decide +kernel)
set_option maxRecDepth 20000 in
theorem gX9_canFlip_X9_faceOf : GoodIn wsX9_canFlip (wsV RX9 87 RX9 yX9_faceOf wsX9_faceOf) := goodIn_app (goodIn_of _ (by decide +kernel)) ggX9_canFlip_X9_faceOf
set_option maxRecDepth 20000 in
theorem ggX9_canFlip_X9_third : GoodIn wsX9_canFlip wsX9_third := goodIn_r _ [15, 11, 16, 17, 18, 19, 20, 21, 22, 23, 24, 25, 26, 27, 28, 29, 30, 31, 32, 33, 34, 35, 36, 37, 38, 39, 40, 41, 42, 43] (by decide +kernel) (by decide +kernel)
set_option maxRecDepth 20000 in
theorem gX9_canFlip_X9_third : GoodIn wsX9_canFlip (wsV RX9 99 RX9 yX9_third wsX9_third) := goodIn_app (goodIn_of _ (by decide +kernel)) ggX9_canFlip_X9_third
theorem dX9_canFlip_0 : decode cX9_canFlip 0 = .ok (.aload_n 0, 1) := by decide +kernel
theorem dX9_canFlip_1 : decode cX9_canFlip 1 = .ok (.iload_n 1, 1) := by decide +kernel
theorem dX9_canFlip_2 : decode cX9_canFlip 2 = .ok (.iload_n 2, 1) := by decide +kernel
theorem dX9_canFlip_3 : decode cX9_canFlip 3 = .ok (.invokevirtual 95, 3) := by decide +kernel
theorem dX9_canFlip_6 : decode cX9_canFlip 6 = .ok (.ifCond .eq 38, 3) := by decide +kernel
theorem dX9_canFlip_9 : decode cX9_canFlip 9 = .ok (.aload_n 0, 1) := by decide +kernel
theorem dX9_canFlip_10 : decode cX9_canFlip 10 = .ok (.aload_n 0, 1) := by decide +kernel
theorem dX9_canFlip_11 : decode cX9_canFlip 11 = .ok (.aload_n 0, 1) := by decide +kernel
theorem dX9_canFlip_12 : decode cX9_canFlip 12 = .ok (.iload_n 1, 1) := by decide +kernel
theorem dX9_canFlip_13 : decode cX9_canFlip 13 = .ok (.iload_n 2, 1) := by decide +kernel
theorem dX9_canFlip_14 : decode cX9_canFlip 14 = .ok (.invokevirtual 87, 3) := by decide +kernel
theorem dX9_canFlip_17 : decode cX9_canFlip 17 = .ok (.iload_n 1, 1) := by decide +kernel
theorem dX9_canFlip_18 : decode cX9_canFlip 18 = .ok (.iload_n 2, 1) := by decide +kernel
theorem dX9_canFlip_19 : decode cX9_canFlip 19 = .ok (.invokevirtual 99, 3) := by decide +kernel
theorem dX9_canFlip_22 : decode cX9_canFlip 22 = .ok (.aload_n 0, 1) := by decide +kernel
theorem dX9_canFlip_23 : decode cX9_canFlip 23 = .ok (.aload_n 0, 1) := by decide +kernel
theorem dX9_canFlip_24 : decode cX9_canFlip 24 = .ok (.iload_n 2, 1) := by decide +kernel
theorem dX9_canFlip_25 : decode cX9_canFlip 25 = .ok (.iload_n 1, 1) := by decide +kernel
theorem dX9_canFlip_26 : decode cX9_canFlip 26 = .ok (.invokevirtual 87, 3) := by decide +kernel
theorem dX9_canFlip_29 : decode cX9_canFlip 29 = .ok (.iload_n 1, 1) := by decide +kernel
theorem dX9_canFlip_30 : decode cX9_canFlip 30 = .ok (.iload_n 2, 1) := by decide +kernel
theorem dX9_canFlip_31 : decode cX9_canFlip 31 = .ok (.invokevirtual 99, 3) := by decide +kernel
theorem dX9_canFlip_34 : decode cX9_canFlip 34 = .ok (.invokevirtual 95, 3) := by decide +kernel
theorem dX9_canFlip_37 : decode cX9_canFlip 37 = .ok (.ifCond .ne 7, 3) := by decide +kernel
theorem dX9_canFlip_40 : decode cX9_canFlip 40 = .ok (.iconst 1, 1) := by decide +kernel
theorem dX9_canFlip_41 : decode cX9_canFlip 41 = .ok (.goto 4, 3) := by decide +kernel
theorem dX9_canFlip_44 : decode cX9_canFlip 44 = .ok (.iconst 0, 1) := by decide +kernel
theorem dX9_canFlip_45 : decode cX9_canFlip 45 = .ok (.ireturn, 1) := by decide +kernel
set_option maxRecDepth 20000 in
theorem ggX9_flip_X9_isCorner : GoodIn wsX9_flip wsX9_isCorner := goodIn_r _ [6, 7, 8, 9, 5, 10, 33, 34, 35, 36, 37, 38, 39, 40, 41, 42, 43, 44, 45, 46, 47, 48, 49, 50, 51, 52, 53, 54, 55, 56, 57, 58, 59, 60] (by decide +kernel) (by decide +kernel)
set_option maxRecDepth 20000 in
theorem gX9_flip_X9_isCorner : GoodIn wsX9_flip (wsV RX9 103 RX9 yX9_isCorner wsX9_isCorner) := goodIn_app (goodIn_of _ (by decide +kernel)) ggX9_flip_X9_isCorner
set_option maxRecDepth 20000 in
theorem ggX9_flip_X9_canFlip : GoodIn wsX9_flip wsX9_canFlip := goodIn_r _ [14, 15, 16, 17, 5, 18, 19, 20, 21, 22, 23, 24, 25, 26, 27, 28, 33, 34, 35, 36, 37, 38, 39, 40, 41, 42, 43, 44, 45, 46, 47, 48, 49, 50, 51, 52, 53, 54, 55, 56, 57, 58, 59, 60] (by decide +kernel) (by decide +kernel)
set_option maxRecDepth 20000 in
theorem gX9_flip_X9_canFlip : GoodIn wsX9_flip (wsV RX9 106 RX9 yX9_canFlip wsX9_canFlip) := goodIn_app (goodIn_of _ (by decide +kernel)) ggX9_flip_X9_canFlip
set_option maxRecDepth 20000 in
theorem ggX9_flip_X9_faceOf : GoodIn wsX9_flip wsX9_faceOf := goodIn_r _ [22, 23, 24, 33, 34, 35, 36, 37, 38, 39, 40, 41, 42, 43, 44, 45, 46, 47, 48, 49, 50, 51, 52, 53, 54, 55, 56, 57, 58, 59, 60] (by decide +kernel) (by decide +kernel)
set_option maxRecDepth 20000 in
theorem gX9_flip_X9_faceOf : GoodIn wsX9_flip (wsV RX9 87 RX9 yX9_faceOf wsX9_faceOf) := goodIn_app (goodIn_of _ (by decide +kernel)) ggX9_flip_X9_faceOf
set_option maxRecDepth 20000 in
theorem ggX9_flip_X9_third : GoodIn wsX9_flip wsX9_third := goodIn_r _ [28, 24, 33, 34, 35, 36, 37, 38, 39, 40, 41, 42, 43, 44, 45, 46, 47, 48, 49, 50, 51, 52, 53, 54, 55, 56, 57, 58, 59, 60] (by decide +kernel) (by decide +kernel)
set_option maxRecDepth 20000 in
theorem gX9_flip_X9_third : GoodIn wsX9_flip (wsV RX9 99 RX9 yX9_third wsX9_third) := goodIn_app (goodIn_of _ (by decide +kernel)) ggX9_flip_X9_third
set_option maxRecDepth 20000 in
theorem ggX9_flip_X9_puts : GoodIn wsX9_flip wsX9_puts := goodIn_r _ [32, 24, 33, 34, 35, 36, 37, 38, 39, 40, 41, 42, 43, 44, 45, 46, 47, 48, 49, 50, 51, 52, 53, 54, 55, 56, 57, 58, 59, 60] (by decide +kernel) (by decide +kernel)
set_option maxRecDepth 20000 in
theorem gX9_flip_X9_puts : GoodIn wsX9_flip (wsV RX9 76 RX9 yX9_puts wsX9_puts) := goodIn_app (goodIn_of _ (by decide +kernel)) ggX9_flip_X9_puts
theorem dX9_flip_0 : decode cX9_flip 0 = .ok (.aload_n 0, 1) := by decide +kernel
theorem dX9_flip_1 : decode cX9_flip 1 = .ok (.aload_n 0, 1) := by decide +kernel
theorem dX9_flip_2 : decode cX9_flip 2 = .ok (.iload_n 1, 1) := by decide +kernel
theorem dX9_flip_3 : decode cX9_flip 3 = .ok (.invokevirtual 103, 3) := by decide +kernel
theorem dX9_flip_6 : decode cX9_flip 6 = .ok (.ifCond .eq 11, 3) := by decide +kernel
theorem dX9_flip_9 : decode cX9_flip 9 = .ok (.aload_n 0, 1) := by decide +kernel
theorem dX9_flip_10 : decode cX9_flip 10 = .ok (.iload_n 2, 1) := by decide +kernel
theorem dX9_flip_11 : decode cX9_flip 11 = .ok (.invokevirtual 103, 3) := by decide +kernel
theorem dX9_flip_14 : decode cX9_flip 14 = .ok (.ifCond .ne 7, 3) := by decide +kernel
theorem dX9_flip_17 : decode cX9_flip 17 = .ok (.iconst 1, 1) := by decide +kernel
theorem dX9_flip_18 : decode cX9_flip 18 = .ok (.goto 17, 3) := by decide +kernel
theorem dX9_flip_21 : decode cX9_flip 21 = .ok (.aload_n 0, 1) := by decide +kernel
theorem dX9_flip_22 : decode cX9_flip 22 = .ok (.iload_n 1, 1) := by decide +kernel
theorem dX9_flip_23 : decode cX9_flip 23 = .ok (.iload_n 2, 1) := by decide +kernel
theorem dX9_flip_24 : decode cX9_flip 24 = .ok (.invokevirtual 106, 3) := by decide +kernel
theorem dX9_flip_27 : decode cX9_flip 27 = .ok (.ifCond .ne 7, 3) := by decide +kernel
theorem dX9_flip_30 : decode cX9_flip 30 = .ok (.iconst 2, 1) := by decide +kernel
theorem dX9_flip_31 : decode cX9_flip 31 = .ok (.goto 4, 3) := by decide +kernel
theorem dX9_flip_34 : decode cX9_flip 34 = .ok (.iconst 0, 1) := by decide +kernel
theorem dX9_flip_35 : decode cX9_flip 35 = .ok (.putfield 80, 3) := by decide +kernel
theorem dX9_flip_38 : decode cX9_flip 38 = .ok (.aload_n 0, 1) := by decide +kernel
theorem dX9_flip_39 : decode cX9_flip 39 = .ok (.getfield 80, 3) := by decide +kernel
theorem dX9_flip_42 : decode cX9_flip 42 = .ok (.ifCond .le 5, 3) := by decide +kernel
theorem dX9_flip_45 : decode cX9_flip 45 = .ok (.iconst 0, 1) := by decide +kernel
theorem dX9_flip_46 : decode cX9_flip 46 = .ok (.ireturn, 1) := by decide +kernel
theorem dX9_flip_47 : decode cX9_flip 47 = .ok (.aload_n 0, 1) := by decide +kernel
theorem dX9_flip_48 : decode cX9_flip 48 = .ok (.iload_n 1, 1) := by decide +kernel
theorem dX9_flip_49 : decode cX9_flip 49 = .ok (.iload_n 2, 1) := by decide +kernel
theorem dX9_flip_50 : decode cX9_flip 50 = .ok (.invokevirtual 87, 3) := by decide +kernel
theorem dX9_flip_53 : decode cX9_flip 53 = .ok (.istore_n 3, 1) := by decide +kernel
theorem dX9_flip_54 : decode cX9_flip 54 = .ok (.aload_n 0, 1) := by decide +kernel
theorem dX9_flip_55 : decode cX9_flip 55 = .ok (.iload_n 2, 1) := by decide +kernel
theorem dX9_flip_56 : decode cX9_flip 56 = .ok (.iload_n 1, 1) := by decide +kernel
theorem dX9_flip_57 : decode cX9_flip 57 = .ok (.invokevirtual 87, 3) := by decide +kernel
theorem dX9_flip_60 : decode cX9_flip 60 = .ok (.istore 4, 2) := by decide +kernel
theorem dX9_flip_62 : decode cX9_flip 62 = .ok (.aload_n 0, 1) := by decide +kernel
theorem dX9_flip_63 : decode cX9_flip 63 = .ok (.iload_n 3, 1) := by decide +kernel
theorem dX9_flip_64 : decode cX9_flip 64 = .ok (.iload_n 1, 1) := by decide +kernel
theorem dX9_flip_65 : decode cX9_flip 65 = .ok (.iload_n 2, 1) := by decide +kernel
theorem dX9_flip_66 : decode cX9_flip 66 = .ok (.invokevirtual 99, 3) := by decide +kernel
theorem dX9_flip_69 : decode cX9_flip 69 = .ok (.istore 5, 2) := by decide +kernel
theorem dX9_flip_71 : decode cX9_flip 71 = .ok (.aload_n 0, 1) := by decide +kernel
theorem dX9_flip_72 : decode cX9_flip 72 = .ok (.iload 4, 2) := by decide +kernel
theorem dX9_flip_74 : decode cX9_flip 74 = .ok (.iload_n 1, 1) := by decide +kernel
theorem dX9_flip_75 : decode cX9_flip 75 = .ok (.iload_n 2, 1) := by decide +kernel
theorem dX9_flip_76 : decode cX9_flip 76 = .ok (.invokevirtual 99, 3) := by decide +kernel
theorem dX9_flip_79 : decode cX9_flip 79 = .ok (.istore 6, 2) := by decide +kernel
theorem dX9_flip_81 : decode cX9_flip 81 = .ok (.aload_n 0, 1) := by decide +kernel
theorem dX9_flip_82 : decode cX9_flip 82 = .ok (.iload_n 3, 1) := by decide +kernel
theorem dX9_flip_83 : decode cX9_flip 83 = .ok (.iload_n 1, 1) := by decide +kernel
theorem dX9_flip_84 : decode cX9_flip 84 = .ok (.iload 6, 2) := by decide +kernel
theorem dX9_flip_86 : decode cX9_flip 86 = .ok (.iload 5, 2) := by decide +kernel
theorem dX9_flip_88 : decode cX9_flip 88 = .ok (.invokevirtual 76, 3) := by decide +kernel
theorem dX9_flip_91 : decode cX9_flip 91 = .ok (.aload_n 0, 1) := by decide +kernel
theorem dX9_flip_92 : decode cX9_flip 92 = .ok (.iload 4, 2) := by decide +kernel
theorem dX9_flip_94 : decode cX9_flip 94 = .ok (.iload 6, 2) := by decide +kernel
theorem dX9_flip_96 : decode cX9_flip 96 = .ok (.iload_n 2, 1) := by decide +kernel
theorem dX9_flip_97 : decode cX9_flip 97 = .ok (.iload 5, 2) := by decide +kernel
theorem dX9_flip_99 : decode cX9_flip 99 = .ok (.invokevirtual 76, 3) := by decide +kernel
theorem dX9_flip_102 : decode cX9_flip 102 = .ok (.iload 5, 2) := by decide +kernel
theorem dX9_flip_104 : decode cX9_flip 104 = .ok (.iload 6, 2) := by decide +kernel
theorem dX9_flip_106 : decode cX9_flip 106 = .ok (.if_icmp .ge 14, 3) := by decide +kernel
theorem dX9_flip_109 : decode cX9_flip 109 = .ok (.bipush 100, 2) := by decide +kernel
theorem dX9_flip_111 : decode cX9_flip 111 = .ok (.iload 5, 2) := by decide +kernel
theorem dX9_flip_113 : decode cX9_flip 113 = .ok (.imul, 1) := by decide +kernel
theorem dX9_flip_114 : decode cX9_flip 114 = .ok (.iload 6, 2) := by decide +kernel
theorem dX9_flip_116 : decode cX9_flip 116 = .ok (.iadd, 1) := by decide +kernel
theorem dX9_flip_117 : decode cX9_flip 117 = .ok (.goto 11, 3) := by decide +kernel
theorem dX9_flip_120 : decode cX9_flip 120 = .ok (.bipush 100, 2) := by decide +kernel
theorem dX9_flip_122 : decode cX9_flip 122 = .ok (.iload 6, 2) := by decide +kernel
theorem dX9_flip_124 : decode cX9_flip 124 = .ok (.imul, 1) := by decide +kernel
theorem dX9_flip_125 : decode cX9_flip 125 = .ok (.iload 5, 2) := by decide +kernel
theorem dX9_flip_127 : decode cX9_flip 127 = .ok (.iadd, 1) := by decide +kernel
theorem dX9_flip_128 : decode cX9_flip 128 = .ok (.ireturn, 1) := by decide +kernel
set_option maxRecDepth 20000 in
theorem ggX9_corner_X9_isFace : GoodIn wsX9_corner wsX9_isFace := goodIn_r _ [8, 9, 10, 11, 7, 12, 13, 14, 15, 16, 17, 18, 19, 20, 21, 22, 23, 24, 25, 26, 27, 28, 29, 30, 31, 32, 33, 34, 35, 36, 37, 38, 39, 40] (by decide +kernel) (by decide +kernel)
set_option maxRecDepth 20000 in
theorem gX9_corner_X9_isFace : GoodIn wsX9_corner (wsV RX9 91 RX9 yX9_isFace wsX9_isFace) := goodIn_app (goodIn_of _ (by decide +kernel)) ggX9_corner_X9_isFace
set_option maxRecDepth 20000 in
theorem ggX9_corner_X9_isIn : GoodIn wsX9_corner wsX9_isIn := goodIn_r _ [12] (by decide +kernel) (by decide +kernel)
set_option maxRecDepth 20000 in
theorem gX9_corner_X9_isIn : GoodIn wsX9_corner (va_wsS RX9 83 yX9_isIn wsX9_isIn) := goodIn_app (goodIn_of _ (by decide +kernel)) ggX9_corner_X9_isIn
theorem dX9_corner_0 : decode cX9_corner 0 = .ok (.aload_n 0, 1) := by decide +kernel
theorem dX9_corner_1 : decode cX9_corner 1 = .ok (.aload_n 0, 1) := by decide +kernel
theorem dX9_corner_2 : decode cX9_corner 2 = .ok (.iload_n 1, 1) := by decide +kernel
theorem dX9_corner_3 : decode cX9_corner 3 = .ok (.invokevirtual 91, 3) := by decide +kernel
theorem dX9_corner_6 : decode cX9_corner 6 = .ok (.ifCond .eq 19, 3) := by decide +kernel
theorem dX9_corner_9 : decode cX9_corner 9 = .ok (.iload_n 2, 1) := by decide +kernel
theorem dX9_corner_10 : decode cX9_corner 10 = .ok (.i2l, 1) := by decide +kernel
theorem dX9_corner_11 : decode cX9_corner 11 = .ok (.lconst 0, 1) := by decide +kernel
theorem dX9_corner_12 : decode cX9_corner 12 = .ok (.ldc2_w 109, 3) := by decide +kernel
theorem dX9_corner_15 : decode cX9_corner 15 = .ok (.invokestatic 83, 3) := by decide +kernel
theorem dX9_corner_18 : decode cX9_corner 18 = .ok (.ifCond .eq 7, 3) := by decide +kernel
theorem dX9_corner_21 : decode cX9_corner 21 = .ok (.iconst 0, 1) := by decide +kernel
theorem dX9_corner_22 : decode cX9_corner 22 = .ok (.goto 4, 3) := by decide +kernel
theorem dX9_corner_25 : decode cX9_corner 25 = .ok (.iconst 1, 1) := by decide +kernel
theorem dX9_corner_26 : decode cX9_corner 26 = .ok (.putfield 80, 3) := by decide +kernel
theorem dX9_corner_29 : decode cX9_corner 29 = .ok (.aload_n 0, 1) := by decide +kernel
theorem dX9_corner_30 : decode cX9_corner 30 = .ok (.getfield 80, 3) := by decide +kernel
theorem dX9_corner_33 : decode cX9_corner 33 = .ok (.ifCond .le 7, 3) := by decide +kernel
theorem dX9_corner_36 : decode cX9_corner 36 = .ok (.iconst 0, 1) := by decide +kernel
theorem dX9_corner_37 : decode cX9_corner 37 = .ok (.goto 13, 3) := by decide +kernel
theorem dX9_corner_40 : decode cX9_corner 40 = .ok (.aload_n 0, 1) := by decide +kernel
theorem dX9_corner_41 : decode cX9_corner 41 = .ok (.getfield 16, 3) := by decide +kernel
theorem dX9_corner_44 : decode cX9_corner 44 = .ok (.iconst 3, 1) := by decide +kernel
theorem dX9_corner_45 : decode cX9_corner 45 = .ok (.iload_n 1, 1) := by decide +kernel
theorem dX9_corner_46 : decode cX9_corner 46 = .ok (.imul, 1) := by decide +kernel
theorem dX9_corner_47 : decode cX9_corner 47 = .ok (.iload_n 2, 1) := by decide +kernel
theorem dX9_corner_48 : decode cX9_corner 48 = .ok (.iadd, 1) := by decide +kernel
theorem dX9_corner_49 : decode cX9_corner 49 = .ok (.iaload, 1) := by decide +kernel
theorem dX9_corner_50 : decode cX9_corner 50 = .ok (.ireturn, 1) := by decide +kernel
set_option maxRecDepth 20000 in
theorem ggX9_degree_X9_areNeighbours : GoodIn wsX9_degree wsX9_areNeighbours := goodIn_r _ [6, 7, 8, 9, 5, 10, 11, 12, 13, 14, 15, 16, 17, 18, 19, 20, 21, 22, 23, 24, 25, 26, 27, 28, 29, 30, 31, 32, 33, 34, 35, 36, 37, 38, 39, 40] (by decide +kernel) (by decide +kernel)
set_option maxRecDepth 20000 in
theorem gX9_degree_X9_areNeighbours : GoodIn wsX9_degree (wsV RX9 95 RX9 yX9_areNeighbours wsX9_areNeighbours) := goodIn_app (goodIn_of _ (by decide +kernel)) ggX9_degree_X9_areNeighbours
theorem dX9_degree_0 : decode cX9_degree 0 = .ok (.iconst 0, 1) := by decide +kernel
theorem dX9_degree_1 : decode cX9_degree 1 = .ok (.istore_n 2, 1) := by decide +kernel
theorem dX9_degree_2 : decode cX9_degree 2 = .ok (.iconst 0, 1) := by decide +kernel
theorem dX9_degree_3 : decode cX9_degree 3 = .ok (.istore_n 3, 1) := by decide +kernel
theorem dX9_degree_4 : decode cX9_degree 4 = .ok (.iload_n 3, 1) := by decide +kernel
theorem dX9_degree_5 : decode cX9_degree 5 = .ok (.aload_n 0, 1) := by decide +kernel
theorem dX9_degree_6 : decode cX9_degree 6 = .ok (.getfield 7, 3) := by decide +kernel
theorem dX9_degree_9 : decode cX9_degree 9 = .ok (.if_icmp .ge 26, 3) := by decide +kernel
theorem dX9_degree_12 : decode cX9_degree 12 = .ok (.iload_n 2, 1) := by decide +kernel
theorem dX9_degree_13 : decode cX9_degree 13 = .ok (.aload_n 0, 1) := by decide +kernel
theorem dX9_degree_14 : decode cX9_degree 14 = .ok (.iload_n 1, 1) := by decide +kernel
theorem dX9_degree_15 : decode cX9_degree 15 = .ok (.iload_n 3, 1) := by decide +kernel
theorem dX9_degree_16 : decode cX9_degree 16 = .ok (.invokevirtual 95, 3) := by decide +kernel
theorem dX9_degree_19 : decode cX9_degree 19 = .ok (.ifCond .eq 7, 3) := by decide +kernel
theorem dX9_degree_22 : decode cX9_degree 22 = .ok (.iconst 1, 1) := by decide +kernel
theorem dX9_degree_23 : decode cX9_degree 23 = .ok (.goto 4, 3) := by decide +kernel
theorem dX9_degree_26 : decode cX9_degree 26 = .ok (.iconst 0, 1) := by decide +kernel
theorem dX9_degree_27 : decode cX9_degree 27 = .ok (.iadd, 1) := by decide +kernel
theorem dX9_degree_28 : decode cX9_degree 28 = .ok (.istore_n 2, 1) := by decide +kernel
theorem dX9_degree_29 : decode cX9_degree 29 = .ok (.iinc 3 1, 3) := by decide +kernel
theorem dX9_degree_32 : decode cX9_degree 32 = .ok (.goto (-28), 3) := by decide +kernel
theorem dX9_degree_35 : decode cX9_degree 35 = .ok (.iload_n 2, 1) := by decide +kernel
theorem dX9_degree_36 : decode cX9_degree 36 = .ok (.ireturn, 1) := by decide +kernel
set_option maxRecDepth 20000 in
theorem ggX9_around_X9_isCorner : GoodIn wsX9_around wsX9_isCorner := goodIn_r _ [6, 7, 8, 9, 5, 10, 29, 30, 31, 32, 33, 34, 35, 36, 37, 38, 39, 40, 41, 42, 43, 44, 45, 46, 47, 48, 49, 50, 51, 52, 53, 54, 55, 56] (by decide +kernel) (by decide +kernel)
set_option maxRecDepth 20000 in
theorem gX9_around_X9_isCorner : GoodIn wsX9_around (wsV RX9 103 RX9 yX9_isCorner wsX9_isCorner) := goodIn_app (goodIn_of _ (by decide +kernel)) ggX9_around_X9_isCorner
set_option maxRecDepth 20000 in
theorem ggX9_around_X9_degree : GoodIn wsX9_around wsX9_degree := goodIn_r _ [14, 7, 15, 16, 17, 5, 18, 19, 20, 21, 22, 23, 24, 29, 30, 31, 32, 33, 34, 35, 36, 37, 38, 39, 40, 41, 42, 43, 44, 45, 46, 47, 48, 49, 50, 51, 52, 53, 54, 55, 56] (by decide +kernel) (by decide +kernel)
set_option maxRecDepth 20000 in
theorem gX9_around_X9_degree : GoodIn wsX9_around (wsV RX9 111 RX9 yX9_degree wsX9_degree) := goodIn_app (goodIn_of _ (by decide +kernel)) ggX9_around_X9_degree
set_option maxRecDepth 20000 in
theorem ggX9_around_X9_areNeighbours : GoodIn wsX9_around wsX9_areNeighbours := goodIn_r _ [18, 19, 20, 21, 5, 22, 23, 24, 29, 30, 31, 32, 33, 34, 35, 36, 37, 38, 39, 40, 41, 42, 43, 44, 45, 46, 47, 48, 49, 50, 51, 52, 53, 54, 55, 56] (by decide +kernel) (by decide +kernel)
set_option maxRecDepth 20000 in
theorem gX9_around_X9_areNeighbours : GoodIn wsX9_around (wsV RX9 95 RX9 yX9_areNeighbours wsX9_areNeighbours) := goodIn_app (goodIn_of _ (by decide +kernel)) ggX9_around_X9_areNeighbours
set_option maxRecDepth 20000 in
theorem ggX9_around_X9_faceOf : GoodIn wsX9_around wsX9_faceOf := goodIn_r _ [22, 23, 24, 29, 30, 31, 32, 33, 34, 35, 36, 37, 38, 39, 40, 41, 42, 43, 44, 45, 46, 47, 48, 49, 50, 51, 52, 53, 54, 55, 56] (by decide +kernel) (by decide +kernel)
set_option maxRecDepth 20000 in
theorem gX9_around_X9_faceOf : GoodIn wsX9_around (wsV RX9 87 RX9 yX9_faceOf wsX9_faceOf) := goodIn_app (goodIn_of _ (by decide +kernel)) ggX9_around_X9_faceOf
set_option maxRecDepth 20000 in
theorem ggX9_around_X9_third : GoodIn wsX9_around wsX9_third := goodIn_r _ [28, 24, 29, 30, 31, 32, 33, 34, 35, 36, 37, 38, 39, 40, 41, 42, 43, 44, 45, 46, 47, 48, 49, 50, 51, 52, 53, 54, 55, 56] (by decide +kernel) (by decide +kernel)
set_option maxRecDepth 20000 in
theorem gX9_around_X9_third : GoodIn wsX9_around (wsV RX9 99 RX9 yX9_third wsX9_third) := goodIn_app (goodIn_of _ (by decide +kernel)) ggX9_around_X9_third
theorem dX9_around_0 : decode cX9_around 0 = .ok (.aload_n 0, 1) := by decide +kernel
theorem dX9_around_1 : decode cX9_around 1 = .ok (.aload_n 0, 1) := by decide +kernel
theorem dX9_around_2 : decode cX9_around 2 = .ok (.iload_n 1, 1) := by decide +kernel
theorem dX9_around_3 : decode cX9_around 3 = .ok (.invokevirtual 103, 3) := by decide +kernel
theorem dX9_around_6 : decode cX9_around 6 = .ok (.ifCond .eq 11, 3) := by decide +kernel
theorem dX9_around_9 : decode cX9_around 9 = .ok (.iload_n 2, 1) := by decide +kernel
theorem dX9_around_10 : decode cX9_around 10 = .ok (.ifCond .lt 7, 3) := by decide +kernel
theorem dX9_around_13 : decode cX9_around 13 = .ok (.iconst 0, 1) := by decide +kernel
theorem dX9_around_14 : decode cX9_around 14 = .ok (.goto 4, 3) := by decide +kernel
theorem dX9_around_17 : decode cX9_around 17 = .ok (.iconst 1, 1) := by decide +kernel
theorem dX9_around_18 : decode cX9_around 18 = .ok (.putfield 80, 3) := by decide +kernel
theorem dX9_around_21 : decode cX9_around 21 = .ok (.aload_n 0, 1) := by decide +kernel
theorem dX9_around_22 : decode cX9_around 22 = .ok (.getfield 80, 3) := by decide +kernel
theorem dX9_around_25 : decode cX9_around 25 = .ok (.ifCond .le 5, 3) := by decide +kernel
theorem dX9_around_28 : decode cX9_around 28 = .ok (.iconst 0, 1) := by decide +kernel
theorem dX9_around_29 : decode cX9_around 29 = .ok (.ireturn, 1) := by decide +kernel
theorem dX9_around_30 : decode cX9_around 30 = .ok (.iload_n 2, 1) := by decide +kernel
theorem dX9_around_31 : decode cX9_around 31 = .ok (.aload_n 0, 1) := by decide +kernel
theorem dX9_around_32 : decode cX9_around 32 = .ok (.iload_n 1, 1) := by decide +kernel
theorem dX9_around_33 : decode cX9_around 33 = .ok (.invokevirtual 111, 3) := by decide +kernel
theorem dX9_around_36 : decode cX9_around 36 = .ok (.if_icmp .lt 5, 3) := by decide +kernel
theorem dX9_around_39 : decode cX9_around 39 = .ok (.iconst (-1), 1) := by decide +kernel
theorem dX9_around_40 : decode cX9_around 40 = .ok (.ireturn, 1) := by decide +kernel
theorem dX9_around_41 : decode cX9_around 41 = .ok (.iconst 0, 1) := by decide +kernel
theorem dX9_around_42 : decode cX9_around 42 = .ok (.istore_n 3, 1) := by decide +kernel
theorem dX9_around_43 : decode cX9_around 43 = .ok (.aload_n 0, 1) := by decide +kernel
theorem dX9_around_44 : decode cX9_around 44 = .ok (.iload_n 1, 1) := by decide +kernel
theorem dX9_around_45 : decode cX9_around 45 = .ok (.iload_n 3, 1) := by decide +kernel
theorem dX9_around_46 : decode cX9_around 46 = .ok (.invokevirtual 95, 3) := by decide +kernel
theorem dX9_around_49 : decode cX9_around 49 = .ok (.ifCond .ne 9, 3) := by decide +kernel
theorem dX9_around_52 : decode cX9_around 52 = .ok (.iinc 3 1, 3) := by decide +kernel
theorem dX9_around_55 : decode cX9_around 55 = .ok (.goto (-12), 3) := by decide +kernel
theorem dX9_around_58 : decode cX9_around 58 = .ok (.iconst 0, 1) := by decide +kernel
theorem dX9_around_59 : decode cX9_around 59 = .ok (.istore 4, 2) := by decide +kernel
theorem dX9_around_61 : decode cX9_around 61 = .ok (.iload 4, 2) := by decide +kernel
theorem dX9_around_63 : decode cX9_around 63 = .ok (.iload_n 2, 1) := by decide +kernel
theorem dX9_around_64 : decode cX9_around 64 = .ok (.if_icmp .ge 22, 3) := by decide +kernel
theorem dX9_around_67 : decode cX9_around 67 = .ok (.aload_n 0, 1) := by decide +kernel
theorem dX9_around_68 : decode cX9_around 68 = .ok (.aload_n 0, 1) := by decide +kernel
theorem dX9_around_69 : decode cX9_around 69 = .ok (.iload_n 1, 1) := by decide +kernel
theorem dX9_around_70 : decode cX9_around 70 = .ok (.iload_n 3, 1) := by decide +kernel
theorem dX9_around_71 : decode cX9_around 71 = .ok (.invokevirtual 87, 3) := by decide +kernel
theorem dX9_around_74 : decode cX9_around 74 = .ok (.iload_n 1, 1) := by decide +kernel
theorem dX9_around_75 : decode cX9_around 75 = .ok (.iload_n 3, 1) := by decide +kernel
theorem dX9_around_76 : decode cX9_around 76 = .ok (.invokevirtual 99, 3) := by decide +kernel
theorem dX9_around_79 : decode cX9_around 79 = .ok (.istore_n 3, 1) := by decide +kernel
theorem dX9_around_80 : decode cX9_around 80 = .ok (.iinc 4 1, 3) := by decide +kernel
theorem dX9_around_83 : decode cX9_around 83 = .ok (.goto (-22), 3) := by decide +kernel
theorem dX9_around_86 : decode cX9_around 86 = .ok (.iload_n 3, 1) := by decide +kernel
theorem dX9_around_87 : decode cX9_around 87 = .ok (.ireturn, 1) := by decide +kernel
set_option maxRecDepth 20000 in
theorem ggX9_net_X9_isIn : GoodIn wsX9_net wsX9_isIn := goodIn_r _ [8] (by decide +kernel) (by decide +kernel)
set_option maxRecDepth 20000 in
theorem gX9_net_X9_isIn : GoodIn wsX9_net (va_wsS RX9 83 yX9_isIn wsX9_isIn) := goodIn_app (goodIn_of _ (by decide +kernel)) ggX9_net_X9_isIn
set_option maxRecDepth 20000 in
theorem ggX9_net_X9_degree : GoodIn wsX9_net wsX9_degree := goodIn_r _ [12, 3, 13, 14, 15, 7, 16, 17, 18, 19, 20, 4, 21, 30, 31, 32, 33, 34, 35, 36, 37, 38, 39, 40, 41, 42, 43, 44, 45, 46, 47, 48, 49, 50, 51, 52, 53, 54, 55, 56, 57] (by decide +kernel) (by decide +kernel)
set_option maxRecDepth 20000 in
theorem gX9_net_X9_degree : GoodIn wsX9_net (wsV RX9 111 RX9 yX9_degree wsX9_degree) := goodIn_app (goodIn_of _ (by decide +kernel)) ggX9_net_X9_degree
set_option maxRecDepth 20000 in
theorem ggX9_net_X9_canFlip : GoodIn wsX9_net wsX9_canFlip := goodIn_r _ [25, 13, 14, 15, 7, 16, 17, 18, 19, 20, 4, 21, 26, 27, 28, 29, 30, 31, 32, 33, 34, 35, 36, 37, 38, 39, 40, 41, 42, 43, 44, 45, 46, 47, 48, 49, 50, 51, 52, 53, 54, 55, 56, 57] (by decide +kernel) (by decide +kernel)
set_option maxRecDepth 20000 in
theorem gX9_net_X9_canFlip : GoodIn wsX9_net (wsV RX9 106 RX9 yX9_canFlip wsX9_canFlip) := goodIn_app (goodIn_of _ (by decide +kernel)) ggX9_net_X9_canFlip
theorem dX9_net_0 : decode cX9_net 0 = .ok (.aload_n 0, 1) := by decide +kernel
theorem dX9_net_1 : decode cX9_net 1 = .ok (.iload_n 1, 1) := by decide +kernel
theorem dX9_net_2 : decode cX9_net 2 = .ok (.i2l, 1) := by decide +kernel
theorem dX9_net_3 : decode cX9_net 3 = .ok (.lconst 0, 1) := by decide +kernel
theorem dX9_net_4 : decode cX9_net 4 = .ok (.ldc2_w 115, 3) := by decide +kernel
theorem dX9_net_7 : decode cX9_net 7 = .ok (.invokestatic 83, 3) := by decide +kernel
theorem dX9_net_10 : decode cX9_net 10 = .ok (.ifCond .eq 7, 3) := by decide +kernel
theorem dX9_net_13 : decode cX9_net 13 = .ok (.iconst 0, 1) := by decide +kernel
theorem dX9_net_14 : decode cX9_net 14 = .ok (.goto 4, 3) := by decide +kernel
theorem dX9_net_17 : decode cX9_net 17 = .ok (.iconst 1, 1) := by decide +kernel
theorem dX9_net_18 : decode cX9_net 18 = .ok (.putfield 80, 3) := by decide +kernel
theorem dX9_net_21 : decode cX9_net 21 = .ok (.aload_n 0, 1) := by decide +kernel
theorem dX9_net_22 : decode cX9_net 22 = .ok (.getfield 80, 3) := by decide +kernel
theorem dX9_net_25 : decode cX9_net 25 = .ok (.ifCond .le 5, 3) := by decide +kernel
theorem dX9_net_28 : decode cX9_net 28 = .ok (.iconst 0, 1) := by decide +kernel
theorem dX9_net_29 : decode cX9_net 29 = .ok (.ireturn, 1) := by decide +kernel
theorem dX9_net_30 : decode cX9_net 30 = .ok (.iconst 0, 1) := by decide +kernel
theorem dX9_net_31 : decode cX9_net 31 = .ok (.istore_n 2, 1) := by decide +kernel
theorem dX9_net_32 : decode cX9_net 32 = .ok (.iconst 0, 1) := by decide +kernel
theorem dX9_net_33 : decode cX9_net 33 = .ok (.istore_n 3, 1) := by decide +kernel
theorem dX9_net_34 : decode cX9_net 34 = .ok (.iconst 0, 1) := by decide +kernel
theorem dX9_net_35 : decode cX9_net 35 = .ok (.istore 4, 2) := by decide +kernel
theorem dX9_net_37 : decode cX9_net 37 = .ok (.iload 4, 2) := by decide +kernel
theorem dX9_net_39 : decode cX9_net 39 = .ok (.aload_n 0, 1) := by decide +kernel
theorem dX9_net_40 : decode cX9_net 40 = .ok (.getfield 7, 3) := by decide +kernel
theorem dX9_net_43 : decode cX9_net 43 = .ok (.if_icmp .ge 65, 3) := by decide +kernel
theorem dX9_net_46 : decode cX9_net 46 = .ok (.aload_n 0, 1) := by decide +kernel
theorem dX9_net_47 : decode cX9_net 47 = .ok (.iload 4, 2) := by decide +kernel
theorem dX9_net_49 : decode cX9_net 49 = .ok (.invokevirtual 111, 3) := by decide +kernel
theorem dX9_net_52 : decode cX9_net 52 = .ok (.iload_n 3, 1) := by decide +kernel
theorem dX9_net_53 : decode cX9_net 53 = .ok (.if_icmp .le 12, 3) := by decide +kernel
theorem dX9_net_56 : decode cX9_net 56 = .ok (.aload_n 0, 1) := by decide +kernel
theorem dX9_net_57 : decode cX9_net 57 = .ok (.iload 4, 2) := by decide +kernel
theorem dX9_net_59 : decode cX9_net 59 = .ok (.invokevirtual 111, 3) := by decide +kernel
theorem dX9_net_62 : decode cX9_net 62 = .ok (.goto 4, 3) := by decide +kernel
theorem dX9_net_65 : decode cX9_net 65 = .ok (.iload_n 3, 1) := by decide +kernel
theorem dX9_net_66 : decode cX9_net 66 = .ok (.istore_n 3, 1) := by decide +kernel
theorem dX9_net_67 : decode cX9_net 67 = .ok (.iconst 0, 1) := by decide +kernel
theorem dX9_net_68 : decode cX9_net 68 = .ok (.istore 5, 2) := by decide +kernel
theorem dX9_net_70 : decode cX9_net 70 = .ok (.iload 5, 2) := by decide +kernel
theorem dX9_net_72 : decode cX9_net 72 = .ok (.iload 4, 2) := by decide +kernel
theorem dX9_net_74 : decode cX9_net 74 = .ok (.if_icmp .ge 28, 3) := by decide +kernel
theorem dX9_net_77 : decode cX9_net 77 = .ok (.iload_n 2, 1) := by decide +kernel
theorem dX9_net_78 : decode cX9_net 78 = .ok (.aload_n 0, 1) := by decide +kernel
theorem dX9_net_79 : decode cX9_net 79 = .ok (.iload 4, 2) := by decide +kernel
theorem dX9_net_81 : decode cX9_net 81 = .ok (.iload 5, 2) := by decide +kernel
theorem dX9_net_83 : decode cX9_net 83 = .ok (.invokevirtual 106, 3) := by decide +kernel
theorem dX9_net_86 : decode cX9_net 86 = .ok (.ifCond .eq 7, 3) := by decide +kernel
theorem dX9_net_89 : decode cX9_net 89 = .ok (.iconst 1, 1) := by decide +kernel
theorem dX9_net_90 : decode cX9_net 90 = .ok (.goto 4, 3) := by decide +kernel
theorem dX9_net_93 : decode cX9_net 93 = .ok (.iconst 0, 1) := by decide +kernel
theorem dX9_net_94 : decode cX9_net 94 = .ok (.iadd, 1) := by decide +kernel
theorem dX9_net_95 : decode cX9_net 95 = .ok (.istore_n 2, 1) := by decide +kernel
theorem dX9_net_96 : decode cX9_net 96 = .ok (.iinc 5 1, 3) := by decide +kernel
theorem dX9_net_99 : decode cX9_net 99 = .ok (.goto (-29), 3) := by decide +kernel
theorem dX9_net_102 : decode cX9_net 102 = .ok (.iinc 4 1, 3) := by decide +kernel
theorem dX9_net_105 : decode cX9_net 105 = .ok (.goto (-68), 3) := by decide +kernel
theorem dX9_net_108 : decode cX9_net 108 = .ok (.iload_n 1, 1) := by decide +kernel
theorem dX9_net_109 : decode cX9_net 109 = .ok (.ifCond .ne 10, 3) := by decide +kernel
theorem dX9_net_112 : decode cX9_net 112 = .ok (.aload_n 0, 1) := by decide +kernel
theorem dX9_net_113 : decode cX9_net 113 = .ok (.getfield 7, 3) := by decide +kernel
theorem dX9_net_116 : decode cX9_net 116 = .ok (.goto 42, 3) := by decide +kernel
theorem dX9_net_119 : decode cX9_net 119 = .ok (.iload_n 1, 1) := by decide +kernel
theorem dX9_net_120 : decode cX9_net 120 = .ok (.iconst 1, 1) := by decide +kernel
theorem dX9_net_121 : decode cX9_net 121 = .ok (.if_icmp .ne 15, 3) := by decide +kernel
theorem dX9_net_124 : decode cX9_net 124 = .ok (.iconst 3, 1) := by decide +kernel
theorem dX9_net_125 : decode cX9_net 125 = .ok (.aload_n 0, 1) := by decide +kernel
theorem dX9_net_126 : decode cX9_net 126 = .ok (.getfield 7, 3) := by decide +kernel
theorem dX9_net_129 : decode cX9_net 129 = .ok (.imul, 1) := by decide +kernel
theorem dX9_net_130 : decode cX9_net 130 = .ok (.bipush 6, 2) := by decide +kernel
theorem dX9_net_132 : decode cX9_net 132 = .ok (.isub, 1) := by decide +kernel
theorem dX9_net_133 : decode cX9_net 133 = .ok (.goto 25, 3) := by decide +kernel
theorem dX9_net_136 : decode cX9_net 136 = .ok (.iload_n 1, 1) := by decide +kernel
theorem dX9_net_137 : decode cX9_net 137 = .ok (.iconst 2, 1) := by decide +kernel
theorem dX9_net_138 : decode cX9_net 138 = .ok (.if_icmp .ne 10, 3) := by decide +kernel
theorem dX9_net_141 : decode cX9_net 141 = .ok (.aload_n 0, 1) := by decide +kernel
theorem dX9_net_142 : decode cX9_net 142 = .ok (.getfield 13, 3) := by decide +kernel
theorem dX9_net_145 : decode cX9_net 145 = .ok (.goto 13, 3) := by decide +kernel
theorem dX9_net_148 : decode cX9_net 148 = .ok (.iload_n 1, 1) := by decide +kernel
theorem dX9_net_149 : decode cX9_net 149 = .ok (.iconst 3, 1) := by decide +kernel
theorem dX9_net_150 : decode cX9_net 150 = .ok (.if_icmp .ne 7, 3) := by decide +kernel
theorem dX9_net_153 : decode cX9_net 153 = .ok (.iload_n 2, 1) := by decide +kernel
theorem dX9_net_154 : decode cX9_net 154 = .ok (.goto 4, 3) := by decide +kernel
theorem dX9_net_157 : decode cX9_net 157 = .ok (.iload_n 3, 1) := by decide +kernel
theorem dX9_net_158 : decode cX9_net 158 = .ok (.ireturn, 1) := by decide +kernel
set_option maxRecDepth 20000 in
theorem ggX9_isDisk_X9_isIn : GoodIn wsX9_isDisk wsX9_isIn := goodIn_r _ [6] (by decide +kernel) (by decide +kernel)
set_option maxRecDepth 20000 in
theorem gX9_isDisk_X9_isIn : GoodIn wsX9_isDisk (va_wsS RX9 83 yX9_isIn wsX9_isIn) := goodIn_app (goodIn_of _ (by decide +kernel)) ggX9_isDisk_X9_isIn
theorem dX9_isDisk_0 : decode cX9_isDisk 0 = .ok (.iload_n 0, 1) := by decide +kernel
theorem dX9_isDisk_1 : decode cX9_isDisk 1 = .ok (.i2l, 1) := by decide +kernel
theorem dX9_isDisk_2 : decode cX9_isDisk 2 = .ok (.ldc2_w 117, 3) := by decide +kernel
theorem dX9_isDisk_5 : decode cX9_isDisk 5 = .ok (.ldc2_w 119, 3) := by decide +kernel
theorem dX9_isDisk_8 : decode cX9_isDisk 8 = .ok (.invokestatic 83, 3) := by decide +kernel
theorem dX9_isDisk_11 : decode cX9_isDisk 11 = .ok (.ifCond .eq 33, 3) := by decide +kernel
theorem dX9_isDisk_14 : decode cX9_isDisk 14 = .ok (.iload_n 1, 1) := by decide +kernel
theorem dX9_isDisk_15 : decode cX9_isDisk 15 = .ok (.i2l, 1) := by decide +kernel
theorem dX9_isDisk_16 : decode cX9_isDisk 16 = .ok (.ldc2_w 117, 3) := by decide +kernel
theorem dX9_isDisk_19 : decode cX9_isDisk 19 = .ok (.ldc2_w 119, 3) := by decide +kernel
theorem dX9_isDisk_22 : decode cX9_isDisk 22 = .ok (.invokestatic 83, 3) := by decide +kernel
theorem dX9_isDisk_25 : decode cX9_isDisk 25 = .ok (.ifCond .eq 19, 3) := by decide +kernel
theorem dX9_isDisk_28 : decode cX9_isDisk 28 = .ok (.iload_n 2, 1) := by decide +kernel
theorem dX9_isDisk_29 : decode cX9_isDisk 29 = .ok (.i2l, 1) := by decide +kernel
theorem dX9_isDisk_30 : decode cX9_isDisk 30 = .ok (.lconst 1, 1) := by decide +kernel
theorem dX9_isDisk_31 : decode cX9_isDisk 31 = .ok (.ldc2_w 119, 3) := by decide +kernel
theorem dX9_isDisk_34 : decode cX9_isDisk 34 = .ok (.invokestatic 83, 3) := by decide +kernel
theorem dX9_isDisk_37 : decode cX9_isDisk 37 = .ok (.ifCond .eq 7, 3) := by decide +kernel
theorem dX9_isDisk_40 : decode cX9_isDisk 40 = .ok (.iconst 1, 1) := by decide +kernel
theorem dX9_isDisk_41 : decode cX9_isDisk 41 = .ok (.goto 4, 3) := by decide +kernel
theorem dX9_isDisk_44 : decode cX9_isDisk 44 = .ok (.iconst 0, 1) := by decide +kernel
theorem dX9_isDisk_45 : decode cX9_isDisk 45 = .ok (.ireturn, 1) := by decide +kernel
set_option maxRecDepth 20000 in
theorem ggX9_disk_X9_isDisk : GoodIn wsX9_disk wsX9_isDisk := goodIn_r _ [9, 10, 11, 12, 13, 8, 14] (by decide +kernel) (by decide +kernel)
set_option maxRecDepth 20000 in
theorem gX9_disk_X9_isDisk : GoodIn wsX9_disk (va_wsS RX9 121 yX9_isDisk wsX9_isDisk) := goodIn_app (goodIn_of _ (by decide +kernel)) ggX9_disk_X9_isDisk
theorem dX9_disk_0 : decode cX9_disk 0 = .ok (.aload_n 0, 1) := by decide +kernel
theorem dX9_disk_1 : decode cX9_disk 1 = .ok (.iload_n 1, 1) := by decide +kernel
theorem dX9_disk_2 : decode cX9_disk 2 = .ok (.iload_n 2, 1) := by decide +kernel
theorem dX9_disk_3 : decode cX9_disk 3 = .ok (.iload_n 3, 1) := by decide +kernel
theorem dX9_disk_4 : decode cX9_disk 4 = .ok (.invokestatic 121, 3) := by decide +kernel
theorem dX9_disk_7 : decode cX9_disk 7 = .ok (.ifCond .ne 7, 3) := by decide +kernel
theorem dX9_disk_10 : decode cX9_disk 10 = .ok (.iconst 1, 1) := by decide +kernel
theorem dX9_disk_11 : decode cX9_disk 11 = .ok (.goto 17, 3) := by decide +kernel
theorem dX9_disk_14 : decode cX9_disk 14 = .ok (.aload_n 0, 1) := by decide +kernel
theorem dX9_disk_15 : decode cX9_disk 15 = .ok (.getfield 125, 3) := by decide +kernel
theorem dX9_disk_18 : decode cX9_disk 18 = .ok (.bipush 16, 2) := by decide +kernel
theorem dX9_disk_20 : decode cX9_disk 20 = .ok (.if_icmp .ne 7, 3) := by decide +kernel
theorem dX9_disk_23 : decode cX9_disk 23 = .ok (.iconst 2, 1) := by decide +kernel
theorem dX9_disk_24 : decode cX9_disk 24 = .ok (.goto 4, 3) := by decide +kernel
theorem dX9_disk_27 : decode cX9_disk 27 = .ok (.iconst 0, 1) := by decide +kernel
theorem dX9_disk_28 : decode cX9_disk 28 = .ok (.putfield 80, 3) := by decide +kernel
theorem dX9_disk_31 : decode cX9_disk 31 = .ok (.aload_n 0, 1) := by decide +kernel
theorem dX9_disk_32 : decode cX9_disk 32 = .ok (.getfield 80, 3) := by decide +kernel
theorem dX9_disk_35 : decode cX9_disk 35 = .ok (.ifCond .le 5, 3) := by decide +kernel
theorem dX9_disk_38 : decode cX9_disk 38 = .ok (.iconst 0, 1) := by decide +kernel
theorem dX9_disk_39 : decode cX9_disk 39 = .ok (.ireturn, 1) := by decide +kernel
theorem dX9_disk_40 : decode cX9_disk 40 = .ok (.aload_n 0, 1) := by decide +kernel
theorem dX9_disk_41 : decode cX9_disk 41 = .ok (.getfield 20, 3) := by decide +kernel
theorem dX9_disk_44 : decode cX9_disk 44 = .ok (.aload_n 0, 1) := by decide +kernel
theorem dX9_disk_45 : decode cX9_disk 45 = .ok (.getfield 125, 3) := by decide +kernel
theorem dX9_disk_48 : decode cX9_disk 48 = .ok (.iload_n 1, 1) := by decide +kernel
theorem dX9_disk_49 : decode cX9_disk 49 = .ok (.iastore, 1) := by decide +kernel
theorem dX9_disk_50 : decode cX9_disk 50 = .ok (.aload_n 0, 1) := by decide +kernel
theorem dX9_disk_51 : decode cX9_disk 51 = .ok (.getfield 23, 3) := by decide +kernel
theorem dX9_disk_54 : decode cX9_disk 54 = .ok (.aload_n 0, 1) := by decide +kernel
theorem dX9_disk_55 : decode cX9_disk 55 = .ok (.getfield 125, 3) := by decide +kernel
theorem dX9_disk_58 : decode cX9_disk 58 = .ok (.iload_n 2, 1) := by decide +kernel
theorem dX9_disk_59 : decode cX9_disk 59 = .ok (.iastore, 1) := by decide +kernel
theorem dX9_disk_60 : decode cX9_disk 60 = .ok (.aload_n 0, 1) := by decide +kernel
theorem dX9_disk_61 : decode cX9_disk 61 = .ok (.getfield 26, 3) := by decide +kernel
theorem dX9_disk_64 : decode cX9_disk 64 = .ok (.aload_n 0, 1) := by decide +kernel
theorem dX9_disk_65 : decode cX9_disk 65 = .ok (.getfield 125, 3) := by decide +kernel
theorem dX9_disk_68 : decode cX9_disk 68 = .ok (.iload_n 3, 1) := by decide +kernel
theorem dX9_disk_69 : decode cX9_disk 69 = .ok (.iastore, 1) := by decide +kernel
theorem dX9_disk_70 : decode cX9_disk 70 = .ok (.aload_n 0, 1) := by decide +kernel
theorem dX9_disk_71 : decode cX9_disk 71 = .ok (.dup, 1) := by decide +kernel
theorem dX9_disk_72 : decode cX9_disk 72 = .ok (.getfield 125, 3) := by decide +kernel
theorem dX9_disk_75 : decode cX9_disk 75 = .ok (.iconst 1, 1) := by decide +kernel
theorem dX9_disk_76 : decode cX9_disk 76 = .ok (.iadd, 1) := by decide +kernel
theorem dX9_disk_77 : decode cX9_disk 77 = .ok (.putfield 125, 3) := by decide +kernel
theorem dX9_disk_80 : decode cX9_disk 80 = .ok (.aload_n 0, 1) := by decide +kernel
theorem dX9_disk_81 : decode cX9_disk 81 = .ok (.getfield 125, 3) := by decide +kernel
theorem dX9_disk_84 : decode cX9_disk 84 = .ok (.iconst 1, 1) := by decide +kernel
theorem dX9_disk_85 : decode cX9_disk 85 = .ok (.isub, 1) := by decide +kernel
theorem dX9_disk_86 : decode cX9_disk 86 = .ok (.ireturn, 1) := by decide +kernel
set_option maxRecDepth 20000 in
theorem ggX9_move_X9_isIn : GoodIn wsX9_move wsX9_isIn := goodIn_r _ [9] (by decide +kernel) (by decide +kernel)
set_option maxRecDepth 20000 in
theorem gX9_move_X9_isIn : GoodIn wsX9_move (va_wsS RX9 83 yX9_isIn wsX9_isIn) := goodIn_app (goodIn_of _ (by decide +kernel)) ggX9_move_X9_isIn
set_option maxRecDepth 20000 in
theorem ggX9_move_X9_isDisk : GoodIn wsX9_move wsX9_isDisk := goodIn_r _ [12, 13, 14, 6, 7, 8, 9] (by decide +kernel) (by decide +kernel)
set_option maxRecDepth 20000 in
theorem gX9_move_X9_isDisk : GoodIn wsX9_move (va_wsS RX9 121 yX9_isDisk wsX9_isDisk) := goodIn_app (goodIn_of _ (by decide +kernel)) ggX9_move_X9_isDisk
theorem dX9_move_0 : decode cX9_move 0 = .ok (.aload_n 0, 1) := by decide +kernel
theorem dX9_move_1 : decode cX9_move 1 = .ok (.iload_n 1, 1) := by decide +kernel
theorem dX9_move_2 : decode cX9_move 2 = .ok (.i2l, 1) := by decide +kernel
theorem dX9_move_3 : decode cX9_move 3 = .ok (.lconst 0, 1) := by decide +kernel
theorem dX9_move_4 : decode cX9_move 4 = .ok (.aload_n 0, 1) := by decide +kernel
theorem dX9_move_5 : decode cX9_move 5 = .ok (.getfield 125, 3) := by decide +kernel
theorem dX9_move_8 : decode cX9_move 8 = .ok (.iconst 1, 1) := by decide +kernel
theorem dX9_move_9 : decode cX9_move 9 = .ok (.isub, 1) := by decide +kernel
theorem dX9_move_10 : decode cX9_move 10 = .ok (.i2l, 1) := by decide +kernel
theorem dX9_move_11 : decode cX9_move 11 = .ok (.invokestatic 83, 3) := by decide +kernel
theorem dX9_move_14 : decode cX9_move 14 = .ok (.ifCond .ne 7, 3) := by decide +kernel
theorem dX9_move_17 : decode cX9_move 17 = .ok (.iconst 1, 1) := by decide +kernel
theorem dX9_move_18 : decode cX9_move 18 = .ok (.goto 18, 3) := by decide +kernel
theorem dX9_move_21 : decode cX9_move 21 = .ok (.iload_n 2, 1) := by decide +kernel
theorem dX9_move_22 : decode cX9_move 22 = .ok (.iload_n 3, 1) := by decide +kernel
theorem dX9_move_23 : decode cX9_move 23 = .ok (.iload 4, 2) := by decide +kernel
theorem dX9_move_25 : decode cX9_move 25 = .ok (.invokestatic 121, 3) := by decide +kernel
theorem dX9_move_28 : decode cX9_move 28 = .ok (.ifCond .ne 7, 3) := by decide +kernel
theorem dX9_move_31 : decode cX9_move 31 = .ok (.iconst 2, 1) := by decide +kernel
theorem dX9_move_32 : decode cX9_move 32 = .ok (.goto 4, 3) := by decide +kernel
theorem dX9_move_35 : decode cX9_move 35 = .ok (.iconst 0, 1) := by decide +kernel
theorem dX9_move_36 : decode cX9_move 36 = .ok (.putfield 80, 3) := by decide +kernel
theorem dX9_move_39 : decode cX9_move 39 = .ok (.aload_n 0, 1) := by decide +kernel
theorem dX9_move_40 : decode cX9_move 40 = .ok (.getfield 80, 3) := by decide +kernel
theorem dX9_move_43 : decode cX9_move 43 = .ok (.ifCond .le 5, 3) := by decide +kernel
theorem dX9_move_46 : decode cX9_move 46 = .ok (.iconst 0, 1) := by decide +kernel
theorem dX9_move_47 : decode cX9_move 47 = .ok (.ireturn, 1) := by decide +kernel
theorem dX9_move_48 : decode cX9_move 48 = .ok (.aload_n 0, 1) := by decide +kernel
theorem dX9_move_49 : decode cX9_move 49 = .ok (.getfield 26, 3) := by decide +kernel
theorem dX9_move_52 : decode cX9_move 52 = .ok (.iload_n 1, 1) := by decide +kernel
theorem dX9_move_53 : decode cX9_move 53 = .ok (.iaload, 1) := by decide +kernel
theorem dX9_move_54 : decode cX9_move 54 = .ok (.istore 5, 2) := by decide +kernel
theorem dX9_move_56 : decode cX9_move 56 = .ok (.aload_n 0, 1) := by decide +kernel
theorem dX9_move_57 : decode cX9_move 57 = .ok (.getfield 20, 3) := by decide +kernel
theorem dX9_move_60 : decode cX9_move 60 = .ok (.iload_n 1, 1) := by decide +kernel
theorem dX9_move_61 : decode cX9_move 61 = .ok (.iload_n 2, 1) := by decide +kernel
theorem dX9_move_62 : decode cX9_move 62 = .ok (.iastore, 1) := by decide +kernel
theorem dX9_move_63 : decode cX9_move 63 = .ok (.aload_n 0, 1) := by decide +kernel
theorem dX9_move_64 : decode cX9_move 64 = .ok (.getfield 23, 3) := by decide +kernel
theorem dX9_move_67 : decode cX9_move 67 = .ok (.iload_n 1, 1) := by decide +kernel
theorem dX9_move_68 : decode cX9_move 68 = .ok (.iload_n 3, 1) := by decide +kernel
theorem dX9_move_69 : decode cX9_move 69 = .ok (.iastore, 1) := by decide +kernel
theorem dX9_move_70 : decode cX9_move 70 = .ok (.aload_n 0, 1) := by decide +kernel
theorem dX9_move_71 : decode cX9_move 71 = .ok (.getfield 26, 3) := by decide +kernel
theorem dX9_move_74 : decode cX9_move 74 = .ok (.iload_n 1, 1) := by decide +kernel
theorem dX9_move_75 : decode cX9_move 75 = .ok (.iload 4, 2) := by decide +kernel
theorem dX9_move_77 : decode cX9_move 77 = .ok (.iastore, 1) := by decide +kernel
theorem dX9_move_78 : decode cX9_move 78 = .ok (.iload 5, 2) := by decide +kernel
theorem dX9_move_80 : decode cX9_move 80 = .ok (.ireturn, 1) := by decide +kernel
theorem dX9_lies_0 : decode cX9_lies 0 = .ok (.aload_n 0, 1) := by decide +kernel
theorem dX9_lies_1 : decode cX9_lies 1 = .ok (.getfield 20, 3) := by decide +kernel
theorem dX9_lies_4 : decode cX9_lies 4 = .ok (.iload_n 1, 1) := by decide +kernel
theorem dX9_lies_5 : decode cX9_lies 5 = .ok (.iaload, 1) := by decide +kernel
theorem dX9_lies_6 : decode cX9_lies 6 = .ok (.i2l, 1) := by decide +kernel
theorem dX9_lies_7 : decode cX9_lies 7 = .ok (.aload_n 0, 1) := by decide +kernel
theorem dX9_lies_8 : decode cX9_lies 8 = .ok (.getfield 20, 3) := by decide +kernel
theorem dX9_lies_11 : decode cX9_lies 11 = .ok (.iload_n 2, 1) := by decide +kernel
theorem dX9_lies_12 : decode cX9_lies 12 = .ok (.iaload, 1) := by decide +kernel
theorem dX9_lies_13 : decode cX9_lies 13 = .ok (.i2l, 1) := by decide +kernel
theorem dX9_lies_14 : decode cX9_lies 14 = .ok (.lsub, 1) := by decide +kernel
theorem dX9_lies_15 : decode cX9_lies 15 = .ok (.lstore_n 3, 1) := by decide +kernel
theorem dX9_lies_16 : decode cX9_lies 16 = .ok (.aload_n 0, 1) := by decide +kernel
theorem dX9_lies_17 : decode cX9_lies 17 = .ok (.getfield 23, 3) := by decide +kernel
theorem dX9_lies_20 : decode cX9_lies 20 = .ok (.iload_n 1, 1) := by decide +kernel
theorem dX9_lies_21 : decode cX9_lies 21 = .ok (.iaload, 1) := by decide +kernel
theorem dX9_lies_22 : decode cX9_lies 22 = .ok (.i2l, 1) := by decide +kernel
theorem dX9_lies_23 : decode cX9_lies 23 = .ok (.aload_n 0, 1) := by decide +kernel
theorem dX9_lies_24 : decode cX9_lies 24 = .ok (.getfield 23, 3) := by decide +kernel
theorem dX9_lies_27 : decode cX9_lies 27 = .ok (.iload_n 2, 1) := by decide +kernel
theorem dX9_lies_28 : decode cX9_lies 28 = .ok (.iaload, 1) := by decide +kernel
