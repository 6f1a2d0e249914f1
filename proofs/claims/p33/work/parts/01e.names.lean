theorem dX8_tell_31 : decode cX8_tell 31 = .ok (.isub, 1) := by decide +kernel
theorem dX8_tell_32 : decode cX8_tell 32 = .ok (.iconst 1, 1) := by decide +kernel
theorem dX8_tell_33 : decode cX8_tell 33 = .ok (.if_icmp .eq 14, 3) := by decide +kernel
theorem dX8_tell_36 : decode cX8_tell 36 = .ok (.new 124, 3) := by decide +kernel
theorem dX8_tell_39 : decode cX8_tell 39 = .ok (.dup, 1) := by decide +kernel
theorem dX8_tell_40 : decode cX8_tell 40 = .ok (.ldc_w 267, 3) := by decide +kernel
theorem dX8_tell_43 : decode cX8_tell 43 = .ok (.invokespecial 128, 3) := by decide +kernel
theorem dX8_tell_46 : decode cX8_tell 46 = .ok (.athrow, 1) := by decide +kernel
theorem dX8_tell_47 : decode cX8_tell 47 = .ok (.aload_n 0, 1) := by decide +kernel
theorem dX8_tell_48 : decode cX8_tell 48 = .ok (.getfield 33, 3) := by decide +kernel
theorem dX8_tell_51 : decode cX8_tell 51 = .ok (.invokevirtual 129, 3) := by decide +kernel
theorem dX8_tell_54 : decode cX8_tell 54 = .ok (.iconst 4, 1) := by decide +kernel
theorem dX8_tell_55 : decode cX8_tell 55 = .ok (.if_icmp .lt 14, 3) := by decide +kernel
theorem dX8_tell_58 : decode cX8_tell 58 = .ok (.new 67, 3) := by decide +kernel
theorem dX8_tell_61 : decode cX8_tell 61 = .ok (.dup, 1) := by decide +kernel
theorem dX8_tell_62 : decode cX8_tell 62 = .ok (.ldc_w 269, 3) := by decide +kernel
theorem dX8_tell_65 : decode cX8_tell 65 = .ok (.invokespecial 71, 3) := by decide +kernel
theorem dX8_tell_68 : decode cX8_tell 68 = .ok (.athrow, 1) := by decide +kernel
theorem dX8_tell_69 : decode cX8_tell 69 = .ok (.aload_n 0, 1) := by decide +kernel
theorem dX8_tell_70 : decode cX8_tell 70 = .ok (.getfield 33, 3) := by decide +kernel
theorem dX8_tell_73 : decode cX8_tell 73 = .ok (.new 36, 3) := by decide +kernel
theorem dX8_tell_76 : decode cX8_tell 76 = .ok (.dup, 1) := by decide +kernel
theorem dX8_tell_77 : decode cX8_tell 77 = .ok (.iload_n 1, 1) := by decide +kernel
theorem dX8_tell_78 : decode cX8_tell 78 = .ok (.i2l, 1) := by decide +kernel
theorem dX8_tell_79 : decode cX8_tell 79 = .ok (.iload_n 2, 1) := by decide +kernel
theorem dX8_tell_80 : decode cX8_tell 80 = .ok (.i2l, 1) := by decide +kernel
theorem dX8_tell_81 : decode cX8_tell 81 = .ok (.iload_n 3, 1) := by decide +kernel
theorem dX8_tell_82 : decode cX8_tell 82 = .ok (.i2l, 1) := by decide +kernel
theorem dX8_tell_83 : decode cX8_tell 83 = .ok (.iload 4, 2) := by decide +kernel
theorem dX8_tell_85 : decode cX8_tell 85 = .ok (.i2l, 1) := by decide +kernel
theorem dX8_tell_86 : decode cX8_tell 86 = .ok (.invokespecial 38, 3) := by decide +kernel
theorem dX8_tell_89 : decode cX8_tell 89 = .ok (.invokevirtual 139, 3) := by decide +kernel
theorem dX8_tell_92 : decode cX8_tell 92 = .ok (.pop, 1) := by decide +kernel
theorem dX8_tell_93 : decode cX8_tell 93 = .ok (.aload_n 0, 1) := by decide +kernel
theorem dX8_tell_94 : decode cX8_tell 94 = .ok (.getfield 33, 3) := by decide +kernel
theorem dX8_tell_97 : decode cX8_tell 97 = .ok (.invokevirtual 129, 3) := by decide +kernel
theorem dX8_tell_100 : decode cX8_tell 100 = .ok (.iconst 1, 1) := by decide +kernel
theorem dX8_tell_101 : decode cX8_tell 101 = .ok (.isub, 1) := by decide +kernel
theorem dX8_tell_102 : decode cX8_tell 102 = .ok (.ireturn, 1) := by decide +kernel
set_option maxRecDepth 20000 in
theorem ggX8_append_Jx4a65c_size_8abf5 : GoodIn wsX8_append wsJx4a65c_size_8abf5 := goodIn_r _ [13, 14, 67, 68, 69] (by decide +kernel) (by decide +kernel)
set_option maxRecDepth 20000 in
theorem gX8_append_Jx4a65c_size_8abf5 : GoodIn wsX8_append (wsV RX8 129 RJx4a65c yJx4a65c_size_8abf5 wsJx4a65c_size_8abf5) := goodIn_app (goodIn_of _ (by decide +kernel)) ggX8_append_Jx4a65c_size_8abf5
set_option maxRecDepth 20000 in
theorem ggX8_append_Jx4a65c_get_915e3 : GoodIn wsX8_append wsJx4a65c_get_915e3 := goodIn_r _ [18, 14, 19, 20, 21, 22, 23, 24, 25, 26, 27, 28, 29, 12, 30, 31, 67, 68, 69] (by decide +kernel) (by decide +kernel)
set_option maxRecDepth 20000 in
theorem gX8_append_Jx4a65c_get_915e3 : GoodIn wsX8_append (wsV RX8 148 RJx4a65c yJx4a65c_get_915e3 wsJx4a65c_get_915e3) := goodIn_app (goodIn_of _ (by decide +kernel)) ggX8_append_Jx4a65c_get_915e3
set_option maxRecDepth 20000 in
theorem ggX8_append_X6_undone : GoodIn wsX8_append wsX6_undone := goodIn_r _ [35, 36, 37, 33, 38, 39, 40, 41, 42, 43, 44, 45, 46, 47, 70, 71, 72, 73] (by decide +kernel) (by decide +kernel)
set_option maxRecDepth 20000 in
theorem gX8_append_X6_undone_n273 : GoodIn wsX8_append (wsX6_undone) := ggX8_append_X6_undone
set_option maxRecDepth 20000 in
theorem ggX8_append_X6_times : GoodIn wsX8_append wsX6_times := goodIn_r _ [50, 36, 37, 33, 41, 39, 40, 38, 42, 43, 44, 45, 46, 47, 70, 71, 72, 73] (by decide +kernel) (by decide +kernel)
set_option maxRecDepth 20000 in
theorem gX8_append_X6_times_n277 : GoodIn wsX8_append (wsX6_times) := ggX8_append_X6_times
set_option maxRecDepth 20000 in
theorem ggX8_append_X6_isWhollyWithin : GoodIn wsX8_append wsX6_isWhollyWithin := goodIn_r _ [53, 41, 39, 40, 38, 54, 55, 56, 70, 71, 72, 73] (by decide +kernel) (by decide +kernel)
set_option maxRecDepth 20000 in
theorem gX8_append_X6_isWhollyWithin_n281 : GoodIn wsX8_append (wsX6_isWhollyWithin) := ggX8_append_X6_isWhollyWithin
set_option maxRecDepth 20000 in
theorem ggX8_append_X6_trace : GoodIn wsX8_append wsX6_trace := goodIn_r _ [59, 41, 38, 70, 71, 72, 73] (by decide +kernel) (by decide +kernel)
set_option maxRecDepth 20000 in
theorem gX8_append_X6_trace_n287 : GoodIn wsX8_append (wsX6_trace) := ggX8_append_X6_trace
theorem dX8_append_0 : decode cX8_append 0 = .ok (.iload_n 1, 1) := by decide +kernel
theorem dX8_append_1 : decode cX8_append 1 = .ok (.ifCond .lt 14, 3) := by decide +kernel
theorem dX8_append_4 : decode cX8_append 4 = .ok (.iload_n 1, 1) := by decide +kernel
theorem dX8_append_5 : decode cX8_append 5 = .ok (.aload_n 0, 1) := by decide +kernel
theorem dX8_append_6 : decode cX8_append 6 = .ok (.getfield 33, 3) := by decide +kernel
theorem dX8_append_9 : decode cX8_append 9 = .ok (.invokevirtual 129, 3) := by decide +kernel
theorem dX8_append_12 : decode cX8_append 12 = .ok (.if_icmp .lt 14, 3) := by decide +kernel
theorem dX8_append_15 : decode cX8_append 15 = .ok (.new 56, 3) := by decide +kernel
theorem dX8_append_18 : decode cX8_append 18 = .ok (.dup, 1) := by decide +kernel
theorem dX8_append_19 : decode cX8_append 19 = .ok (.ldc_w 271, 3) := by decide +kernel
theorem dX8_append_22 : decode cX8_append 22 = .ok (.invokespecial 60, 3) := by decide +kernel
theorem dX8_append_25 : decode cX8_append 25 = .ok (.athrow, 1) := by decide +kernel
theorem dX8_append_26 : decode cX8_append 26 = .ok (.aload_n 0, 1) := by decide +kernel
theorem dX8_append_27 : decode cX8_append 27 = .ok (.getfield 33, 3) := by decide +kernel
theorem dX8_append_30 : decode cX8_append 30 = .ok (.iload_n 1, 1) := by decide +kernel
theorem dX8_append_31 : decode cX8_append 31 = .ok (.invokevirtual 148, 3) := by decide +kernel
theorem dX8_append_34 : decode cX8_append 34 = .ok (.checkcast 36, 3) := by decide +kernel
theorem dX8_append_37 : decode cX8_append 37 = .ok (.astore_n 3, 1) := by decide +kernel
theorem dX8_append_38 : decode cX8_append 38 = .ok (.aload_n 0, 1) := by decide +kernel
theorem dX8_append_39 : decode cX8_append 39 = .ok (.getfield 41, 3) := by decide +kernel
theorem dX8_append_42 : decode cX8_append 42 = .ok (.iload_n 2, 1) := by decide +kernel
theorem dX8_append_43 : decode cX8_append 43 = .ok (.ifCond .eq 10, 3) := by decide +kernel
theorem dX8_append_46 : decode cX8_append 46 = .ok (.aload_n 3, 1) := by decide +kernel
theorem dX8_append_47 : decode cX8_append 47 = .ok (.invokevirtual 273, 3) := by decide +kernel
theorem dX8_append_50 : decode cX8_append 50 = .ok (.goto 4, 3) := by decide +kernel
theorem dX8_append_53 : decode cX8_append 53 = .ok (.aload_n 3, 1) := by decide +kernel
theorem dX8_append_54 : decode cX8_append 54 = .ok (.invokevirtual 277, 3) := by decide +kernel
theorem dX8_append_57 : decode cX8_append 57 = .ok (.astore 4, 2) := by decide +kernel
theorem dX8_append_59 : decode cX8_append 59 = .ok (.aload 4, 2) := by decide +kernel
theorem dX8_append_61 : decode cX8_append 61 = .ok (.ldc2_w 170, 3) := by decide +kernel
theorem dX8_append_64 : decode cX8_append 64 = .ok (.invokevirtual 281, 3) := by decide +kernel
theorem dX8_append_67 : decode cX8_append 67 = .ok (.ifCond .ne 14, 3) := by decide +kernel
theorem dX8_append_70 : decode cX8_append 70 = .ok (.new 67, 3) := by decide +kernel
theorem dX8_append_73 : decode cX8_append 73 = .ok (.dup, 1) := by decide +kernel
theorem dX8_append_74 : decode cX8_append 74 = .ok (.ldc_w 285, 3) := by decide +kernel
theorem dX8_append_77 : decode cX8_append 77 = .ok (.invokespecial 71, 3) := by decide +kernel
theorem dX8_append_80 : decode cX8_append 80 = .ok (.athrow, 1) := by decide +kernel
theorem dX8_append_81 : decode cX8_append 81 = .ok (.aload_n 0, 1) := by decide +kernel
theorem dX8_append_82 : decode cX8_append 82 = .ok (.aload 4, 2) := by decide +kernel
theorem dX8_append_84 : decode cX8_append 84 = .ok (.putfield 41, 3) := by decide +kernel
theorem dX8_append_87 : decode cX8_append 87 = .ok (.aload_n 0, 1) := by decide +kernel
theorem dX8_append_88 : decode cX8_append 88 = .ok (.getfield 41, 3) := by decide +kernel
theorem dX8_append_91 : decode cX8_append 91 = .ok (.invokevirtual 287, 3) := by decide +kernel
theorem dX8_append_94 : decode cX8_append 94 = .ok (.l2i, 1) := by decide +kernel
theorem dX8_append_95 : decode cX8_append 95 = .ok (.ireturn, 1) := by decide +kernel
set_option maxRecDepth 20000 in
theorem ggX8_home_X6_trace : GoodIn wsX8_home wsX6_trace := goodIn_r _ [7, 8, 9, 24, 25, 26, 27] (by decide +kernel) (by decide +kernel)
set_option maxRecDepth 20000 in
theorem gX8_home_X6_trace_n287 : GoodIn wsX8_home (wsX6_trace) := ggX8_home_X6_trace
set_option maxRecDepth 20000 in
theorem ggX8_home_X6_init : GoodIn wsX8_home wsX6_init := goodIn_r _ [11, 12, 13, 14, 8, 15, 16, 9, 24, 25, 26, 27] (by decide +kernel) (by decide +kernel)
set_option maxRecDepth 20000 in
theorem gX8_home_X6_init_n38 : GoodIn wsX8_home (wsX6_init) := ggX8_home_X6_init
theorem dX8_home_0 : decode cX8_home 0 = .ok (.aload_n 0, 1) := by decide +kernel
theorem dX8_home_1 : decode cX8_home 1 = .ok (.getfield 41, 3) := by decide +kernel
theorem dX8_home_4 : decode cX8_home 4 = .ok (.invokevirtual 287, 3) := by decide +kernel
theorem dX8_home_7 : decode cX8_home 7 = .ok (.l2i, 1) := by decide +kernel
theorem dX8_home_8 : decode cX8_home 8 = .ok (.istore_n 1, 1) := by decide +kernel
theorem dX8_home_9 : decode cX8_home 9 = .ok (.aload_n 0, 1) := by decide +kernel
theorem dX8_home_10 : decode cX8_home 10 = .ok (.new 36, 3) := by decide +kernel
theorem dX8_home_13 : decode cX8_home 13 = .ok (.dup, 1) := by decide +kernel
theorem dX8_home_14 : decode cX8_home 14 = .ok (.lconst 1, 1) := by decide +kernel
theorem dX8_home_15 : decode cX8_home 15 = .ok (.lconst 0, 1) := by decide +kernel
theorem dX8_home_16 : decode cX8_home 16 = .ok (.lconst 0, 1) := by decide +kernel
theorem dX8_home_17 : decode cX8_home 17 = .ok (.lconst 1, 1) := by decide +kernel
theorem dX8_home_18 : decode cX8_home 18 = .ok (.invokespecial 38, 3) := by decide +kernel
theorem dX8_home_21 : decode cX8_home 21 = .ok (.putfield 41, 3) := by decide +kernel
theorem dX8_home_24 : decode cX8_home 24 = .ok (.iload_n 1, 1) := by decide +kernel
theorem dX8_home_25 : decode cX8_home 25 = .ok (.ireturn, 1) := by decide +kernel
set_option maxRecDepth 20000 in
theorem ggX8_word_X6_kind : GoodIn wsX8_word wsX6_kind := goodIn_r _ [7, 8, 9, 10, 11, 12, 13, 14, 15, 16, 17, 18, 19, 5, 20, 28, 29, 30, 31] (by decide +kernel) (by decide +kernel)
set_option maxRecDepth 20000 in
theorem gX8_word_X6_kind_n303 : GoodIn wsX8_word (wsX6_kind) := ggX8_word_X6_kind
theorem dX8_word_0 : decode cX8_word 0 = .ok (.iload_n 1, 1) := by decide +kernel
theorem dX8_word_1 : decode cX8_word 1 = .ok (.tableswitch 79 0 4 #[35, 44, 53, 62, 71], 35) := by decide +kernel
theorem dX8_word_36 : decode cX8_word 36 = .ok (.aload_n 0, 1) := by decide +kernel
theorem dX8_word_37 : decode cX8_word 37 = .ok (.getfield 41, 3) := by decide +kernel
theorem dX8_word_40 : decode cX8_word 40 = .ok (.getfield 291, 3) := by decide +kernel
theorem dX8_word_43 : decode cX8_word 43 = .ok (.l2i, 1) := by decide +kernel
theorem dX8_word_44 : decode cX8_word 44 = .ok (.ireturn, 1) := by decide +kernel
theorem dX8_word_45 : decode cX8_word 45 = .ok (.aload_n 0, 1) := by decide +kernel
theorem dX8_word_46 : decode cX8_word 46 = .ok (.getfield 41, 3) := by decide +kernel
theorem dX8_word_49 : decode cX8_word 49 = .ok (.getfield 294, 3) := by decide +kernel
theorem dX8_word_52 : decode cX8_word 52 = .ok (.l2i, 1) := by decide +kernel
theorem dX8_word_53 : decode cX8_word 53 = .ok (.ireturn, 1) := by decide +kernel
theorem dX8_word_54 : decode cX8_word 54 = .ok (.aload_n 0, 1) := by decide +kernel
theorem dX8_word_55 : decode cX8_word 55 = .ok (.getfield 41, 3) := by decide +kernel
theorem dX8_word_58 : decode cX8_word 58 = .ok (.getfield 297, 3) := by decide +kernel
theorem dX8_word_61 : decode cX8_word 61 = .ok (.l2i, 1) := by decide +kernel
theorem dX8_word_62 : decode cX8_word 62 = .ok (.ireturn, 1) := by decide +kernel
theorem dX8_word_63 : decode cX8_word 63 = .ok (.aload_n 0, 1) := by decide +kernel
theorem dX8_word_64 : decode cX8_word 64 = .ok (.getfield 41, 3) := by decide +kernel
theorem dX8_word_67 : decode cX8_word 67 = .ok (.getfield 300, 3) := by decide +kernel
theorem dX8_word_70 : decode cX8_word 70 = .ok (.l2i, 1) := by decide +kernel
theorem dX8_word_71 : decode cX8_word 71 = .ok (.ireturn, 1) := by decide +kernel
theorem dX8_word_72 : decode cX8_word 72 = .ok (.aload_n 0, 1) := by decide +kernel
theorem dX8_word_73 : decode cX8_word 73 = .ok (.getfield 41, 3) := by decide +kernel
theorem dX8_word_76 : decode cX8_word 76 = .ok (.invokevirtual 303, 3) := by decide +kernel
theorem dX8_word_79 : decode cX8_word 79 = .ok (.ireturn, 1) := by decide +kernel
theorem dX8_word_80 : decode cX8_word 80 = .ok (.new 56, 3) := by decide +kernel
theorem dX8_word_83 : decode cX8_word 83 = .ok (.dup, 1) := by decide +kernel
theorem dX8_word_84 : decode cX8_word 84 = .ok (.ldc 118, 2) := by decide +kernel
theorem dX8_word_86 : decode cX8_word 86 = .ok (.invokespecial 60, 3) := by decide +kernel
theorem dX8_word_89 : decode cX8_word 89 = .ok (.athrow, 1) := by decide +kernel
set_option maxRecDepth 20000 in
theorem ggX8_image_X8_isWithin : GoodIn wsX8_image wsX8_isWithin := goodIn_r _ [9] (by decide +kernel) (by decide +kernel)
set_option maxRecDepth 20000 in
theorem gX8_image_X8_isWithin : GoodIn wsX8_image (va_wsS RX8 172 yX8_isWithin wsX8_isWithin) := goodIn_app (goodIn_of _ (by decide +kernel)) ggX8_image_X8_isWithin
set_option maxRecDepth 20000 in
theorem ggX8_image_X1_isLowest : GoodIn wsX8_image wsX1_isLowest := goodIn_r _ [12, 13, 14, 15, 16] (by decide +kernel) (by decide +kernel)
set_option maxRecDepth 20000 in
theorem gX8_image_X1_isLowest_n262 : GoodIn wsX8_image (wsX1_isLowest) := ggX8_image_X1_isLowest
theorem dX8_image_0 : decode cX8_image 0 = .ok (.iload_n 1, 1) := by decide +kernel
theorem dX8_image_1 : decode cX8_image 1 = .ok (.i2l, 1) := by decide +kernel
theorem dX8_image_2 : decode cX8_image 2 = .ok (.ldc2_w 170, 3) := by decide +kernel
theorem dX8_image_5 : decode cX8_image 5 = .ok (.invokestatic 172, 3) := by decide +kernel
theorem dX8_image_8 : decode cX8_image 8 = .ok (.ifCond .eq 13, 3) := by decide +kernel
theorem dX8_image_11 : decode cX8_image 11 = .ok (.iload_n 2, 1) := by decide +kernel
theorem dX8_image_12 : decode cX8_image 12 = .ok (.ifCond .lt 9, 3) := by decide +kernel
theorem dX8_image_15 : decode cX8_image 15 = .ok (.iload_n 2, 1) := by decide +kernel
theorem dX8_image_16 : decode cX8_image 16 = .ok (.ldc 176, 2) := by decide +kernel
theorem dX8_image_18 : decode cX8_image 18 = .ok (.if_icmp .le 13, 3) := by decide +kernel
theorem dX8_image_21 : decode cX8_image 21 = .ok (.new 124, 3) := by decide +kernel
theorem dX8_image_24 : decode cX8_image 24 = .ok (.dup, 1) := by decide +kernel
theorem dX8_image_25 : decode cX8_image 25 = .ok (.ldc 126, 2) := by decide +kernel
theorem dX8_image_27 : decode cX8_image 27 = .ok (.invokespecial 128, 3) := by decide +kernel
theorem dX8_image_30 : decode cX8_image 30 = .ok (.athrow, 1) := by decide +kernel
theorem dX8_image_31 : decode cX8_image 31 = .ok (.iload_n 1, 1) := by decide +kernel
theorem dX8_image_32 : decode cX8_image 32 = .ok (.i2l, 1) := by decide +kernel
theorem dX8_image_33 : decode cX8_image 33 = .ok (.iload_n 2, 1) := by decide +kernel
theorem dX8_image_34 : decode cX8_image 34 = .ok (.i2l, 1) := by decide +kernel
theorem dX8_image_35 : decode cX8_image 35 = .ok (.invokestatic 262, 3) := by decide +kernel
theorem dX8_image_38 : decode cX8_image 38 = .ok (.ifCond .eq 12, 3) := by decide +kernel
theorem dX8_image_41 : decode cX8_image 41 = .ok (.iload_n 2, 1) := by decide +kernel
theorem dX8_image_42 : decode cX8_image 42 = .ok (.ifCond .ne 19, 3) := by decide +kernel
theorem dX8_image_45 : decode cX8_image 45 = .ok (.iload_n 1, 1) := by decide +kernel
theorem dX8_image_46 : decode cX8_image 46 = .ok (.iconst 1, 1) := by decide +kernel
theorem dX8_image_47 : decode cX8_image 47 = .ok (.if_icmp .eq 14, 3) := by decide +kernel
theorem dX8_image_50 : decode cX8_image 50 = .ok (.new 124, 3) := by decide +kernel
theorem dX8_image_53 : decode cX8_image 53 = .ok (.dup, 1) := by decide +kernel
theorem dX8_image_54 : decode cX8_image 54 = .ok (.ldc_w 306, 3) := by decide +kernel
theorem dX8_image_57 : decode cX8_image 57 = .ok (.invokespecial 128, 3) := by decide +kernel
theorem dX8_image_60 : decode cX8_image 60 = .ok (.athrow, 1) := by decide +kernel
theorem dX8_image_61 : decode cX8_image 61 = .ok (.aload_n 0, 1) := by decide +kernel
theorem dX8_image_62 : decode cX8_image 62 = .ok (.getfield 41, 3) := by decide +kernel
theorem dX8_image_65 : decode cX8_image 65 = .ok (.getfield 291, 3) := by decide +kernel
theorem dX8_image_68 : decode cX8_image 68 = .ok (.iload_n 1, 1) := by decide +kernel
theorem dX8_image_69 : decode cX8_image 69 = .ok (.i2l, 1) := by decide +kernel
theorem dX8_image_70 : decode cX8_image 70 = .ok (.lmul, 1) := by decide +kernel
theorem dX8_image_71 : decode cX8_image 71 = .ok (.aload_n 0, 1) := by decide +kernel
theorem dX8_image_72 : decode cX8_image 72 = .ok (.getfield 41, 3) := by decide +kernel
theorem dX8_image_75 : decode cX8_image 75 = .ok (.getfield 294, 3) := by decide +kernel
theorem dX8_image_78 : decode cX8_image 78 = .ok (.iload_n 2, 1) := by decide +kernel
theorem dX8_image_79 : decode cX8_image 79 = .ok (.i2l, 1) := by decide +kernel
theorem dX8_image_80 : decode cX8_image 80 = .ok (.lmul, 1) := by decide +kernel
theorem dX8_image_81 : decode cX8_image 81 = .ok (.ladd, 1) := by decide +kernel
theorem dX8_image_82 : decode cX8_image 82 = .ok (.lstore 4, 2) := by decide +kernel
theorem dX8_image_84 : decode cX8_image 84 = .ok (.aload_n 0, 1) := by decide +kernel
theorem dX8_image_85 : decode cX8_image 85 = .ok (.getfield 41, 3) := by decide +kernel
theorem dX8_image_88 : decode cX8_image 88 = .ok (.getfield 297, 3) := by decide +kernel
theorem dX8_image_91 : decode cX8_image 91 = .ok (.iload_n 1, 1) := by decide +kernel
theorem dX8_image_92 : decode cX8_image 92 = .ok (.i2l, 1) := by decide +kernel
theorem dX8_image_93 : decode cX8_image 93 = .ok (.lmul, 1) := by decide +kernel
theorem dX8_image_94 : decode cX8_image 94 = .ok (.aload_n 0, 1) := by decide +kernel
theorem dX8_image_95 : decode cX8_image 95 = .ok (.getfield 41, 3) := by decide +kernel
theorem dX8_image_98 : decode cX8_image 98 = .ok (.getfield 300, 3) := by decide +kernel
theorem dX8_image_101 : decode cX8_image 101 = .ok (.iload_n 2, 1) := by decide +kernel
theorem dX8_image_102 : decode cX8_image 102 = .ok (.i2l, 1) := by decide +kernel
theorem dX8_image_103 : decode cX8_image 103 = .ok (.lmul, 1) := by decide +kernel
theorem dX8_image_104 : decode cX8_image 104 = .ok (.ladd, 1) := by decide +kernel
theorem dX8_image_105 : decode cX8_image 105 = .ok (.lstore 6, 2) := by decide +kernel
theorem dX8_image_107 : decode cX8_image 107 = .ok (.lload 6, 2) := by decide +kernel
theorem dX8_image_109 : decode cX8_image 109 = .ok (.lconst 0, 1) := by decide +kernel
theorem dX8_image_110 : decode cX8_image 110 = .ok (.lcmp, 1) := by decide +kernel
theorem dX8_image_111 : decode cX8_image 111 = .ok (.ifCond .lt 17, 3) := by decide +kernel
theorem dX8_image_114 : decode cX8_image 114 = .ok (.lload 6, 2) := by decide +kernel
theorem dX8_image_116 : decode cX8_image 116 = .ok (.lconst 0, 1) := by decide +kernel
theorem dX8_image_117 : decode cX8_image 117 = .ok (.lcmp, 1) := by decide +kernel
theorem dX8_image_118 : decode cX8_image 118 = .ok (.ifCond .ne 14, 3) := by decide +kernel
theorem dX8_image_121 : decode cX8_image 121 = .ok (.lload 4, 2) := by decide +kernel
theorem dX8_image_123 : decode cX8_image 123 = .ok (.lconst 0, 1) := by decide +kernel
theorem dX8_image_124 : decode cX8_image 124 = .ok (.lcmp, 1) := by decide +kernel
theorem dX8_image_125 : decode cX8_image 125 = .ok (.ifCond .ge 7, 3) := by decide +kernel
theorem dX8_image_128 : decode cX8_image 128 = .ok (.iconst 1, 1) := by decide +kernel
theorem dX8_image_129 : decode cX8_image 129 = .ok (.goto 4, 3) := by decide +kernel
theorem dX8_image_132 : decode cX8_image 132 = .ok (.iconst 0, 1) := by decide +kernel
theorem dX8_image_133 : decode cX8_image 133 = .ok (.istore 8, 2) := by decide +kernel
theorem dX8_image_135 : decode cX8_image 135 = .ok (.iload_n 3, 1) := by decide +kernel
theorem dX8_image_136 : decode cX8_image 136 = .ok (.ifCond .eq 8, 3) := by decide +kernel
theorem dX8_image_139 : decode cX8_image 139 = .ok (.lload 4, 2) := by decide +kernel
theorem dX8_image_141 : decode cX8_image 141 = .ok (.goto 5, 3) := by decide +kernel
theorem dX8_image_144 : decode cX8_image 144 = .ok (.lload 6, 2) := by decide +kernel
theorem dX8_image_146 : decode cX8_image 146 = .ok (.lstore 9, 2) := by decide +kernel
theorem dX8_image_148 : decode cX8_image 148 = .ok (.iload 8, 2) := by decide +kernel
theorem dX8_image_150 : decode cX8_image 150 = .ok (.ifCond .eq 9, 3) := by decide +kernel
theorem dX8_image_153 : decode cX8_image 153 = .ok (.lload 9, 2) := by decide +kernel
theorem dX8_image_155 : decode cX8_image 155 = .ok (.lneg, 1) := by decide +kernel
theorem dX8_image_156 : decode cX8_image 156 = .ok (.goto 5, 3) := by decide +kernel
theorem dX8_image_159 : decode cX8_image 159 = .ok (.lload 9, 2) := by decide +kernel
theorem dX8_image_161 : decode cX8_image 161 = .ok (.lreturn, 1) := by decide +kernel
set_option maxRecDepth 20000 in
theorem ggX8_nodes_X4_beginAnew : GoodIn wsX8_nodes wsX4_beginAnew := goodIn_r _ [7, 8, 9, 10, 11, 12, 13, 14, 15, 16, 17, 18, 26, 27, 28, 29, 30, 31] (by decide +kernel) (by decide +kernel)
set_option maxRecDepth 20000 in
theorem gX8_nodes_X4_beginAnew_n310 : GoodIn wsX8_nodes (wsX4_beginAnew) := ggX8_nodes_X4_beginAnew
theorem dX8_nodes_0 : decode cX8_nodes 0 = .ok (.iload_n 1, 1) := by decide +kernel
theorem dX8_nodes_1 : decode cX8_nodes 1 = .ok (.iconst 2, 1) := by decide +kernel
theorem dX8_nodes_2 : decode cX8_nodes 2 = .ok (.if_icmp .lt 9, 3) := by decide +kernel
theorem dX8_nodes_5 : decode cX8_nodes 5 = .ok (.iload_n 1, 1) := by decide +kernel
theorem dX8_nodes_6 : decode cX8_nodes 6 = .ok (.bipush 6, 2) := by decide +kernel
theorem dX8_nodes_8 : decode cX8_nodes 8 = .ok (.if_icmp .le 14, 3) := by decide +kernel
theorem dX8_nodes_11 : decode cX8_nodes 11 = .ok (.new 124, 3) := by decide +kernel
theorem dX8_nodes_14 : decode cX8_nodes 14 = .ok (.dup, 1) := by decide +kernel
theorem dX8_nodes_15 : decode cX8_nodes 15 = .ok (.ldc_w 308, 3) := by decide +kernel
theorem dX8_nodes_18 : decode cX8_nodes 18 = .ok (.invokespecial 128, 3) := by decide +kernel
theorem dX8_nodes_21 : decode cX8_nodes 21 = .ok (.athrow, 1) := by decide +kernel
theorem dX8_nodes_22 : decode cX8_nodes 22 = .ok (.aload_n 0, 1) := by decide +kernel
theorem dX8_nodes_23 : decode cX8_nodes 23 = .ok (.getfield 48, 3) := by decide +kernel
theorem dX8_nodes_26 : decode cX8_nodes 26 = .ok (.iload_n 1, 1) := by decide +kernel
theorem dX8_nodes_27 : decode cX8_nodes 27 = .ok (.invokevirtual 310, 3) := by decide +kernel
theorem dX8_nodes_30 : decode cX8_nodes 30 = .ok (.ireturn, 1) := by decide +kernel
set_option maxRecDepth 20000 in
theorem ggX8_wire_X4_hasNode : GoodIn wsX8_wire wsX4_hasNode := goodIn_r _ [14, 15, 90, 91, 92] (by decide +kernel) (by decide +kernel)
set_option maxRecDepth 20000 in
theorem gX8_wire_X4_hasNode_n313 : GoodIn wsX8_wire (wsX4_hasNode) := ggX8_wire_X4_hasNode
set_option maxRecDepth 20000 in
theorem ggX8_wire_Jx4a65c_size_8abf5 : GoodIn wsX8_wire wsJx4a65c_size_8abf5 := goodIn_r _ [20, 21, 95, 96, 97] (by decide +kernel) (by decide +kernel)
set_option maxRecDepth 20000 in
theorem gX8_wire_Jx4a65c_size_8abf5 : GoodIn wsX8_wire (wsV RX8 129 RJx4a65c yJx4a65c_size_8abf5 wsJx4a65c_size_8abf5) := goodIn_app (goodIn_of _ (by decide +kernel)) ggX8_wire_Jx4a65c_size_8abf5
set_option maxRecDepth 20000 in
theorem ggX8_wire_X7_init : GoodIn wsX8_wire wsX7_init := goodIn_r _ [23, 24, 25, 26, 27, 28, 93, 94] (by decide +kernel) (by decide +kernel)
set_option maxRecDepth 20000 in
theorem gX8_wire_X7_init_n325 : GoodIn wsX8_wire (wsX7_init) := ggX8_wire_X7_init
set_option maxRecDepth 20000 in
theorem ggX8_wire_Jx4a65c_add_9ea2d : GoodIn wsX8_wire wsJx4a65c_add_9ea2d := goodIn_r _ [32, 33, 34, 35, 21, 36, 37, 38, 19, 39, 40, 41, 42, 43, 44, 45, 46, 47, 48, 49, 50, 51, 52, 53, 54, 55, 56, 57, 58, 59, 60, 61, 62, 63, 64, 65, 66, 67, 68, 69, 70, 71, 72, 73, 74, 75, 76, 77, 78, 79, 80, 81, 82, 95, 96, 97] (by decide +kernel) (by decide +kernel)
set_option maxRecDepth 20000 in
theorem gX8_wire_Jx4a65c_add_9ea2d : GoodIn wsX8_wire (wsV RX8 139 RJx4a65c yJx4a65c_add_9ea2d wsJx4a65c_add_9ea2d) := goodIn_app (goodIn_of _ (by decide +kernel)) ggX8_wire_Jx4a65c_add_9ea2d
theorem dX8_wire_0 : decode cX8_wire 0 = .ok (.aload_n 0, 1) := by decide +kernel
theorem dX8_wire_1 : decode cX8_wire 1 = .ok (.getfield 48, 3) := by decide +kernel
theorem dX8_wire_4 : decode cX8_wire 4 = .ok (.iload_n 1, 1) := by decide +kernel
theorem dX8_wire_5 : decode cX8_wire 5 = .ok (.invokevirtual 313, 3) := by decide +kernel
theorem dX8_wire_8 : decode cX8_wire 8 = .ok (.ifCond .eq 14, 3) := by decide +kernel
theorem dX8_wire_11 : decode cX8_wire 11 = .ok (.aload_n 0, 1) := by decide +kernel
theorem dX8_wire_12 : decode cX8_wire 12 = .ok (.getfield 48, 3) := by decide +kernel
theorem dX8_wire_15 : decode cX8_wire 15 = .ok (.iload_n 2, 1) := by decide +kernel
theorem dX8_wire_16 : decode cX8_wire 16 = .ok (.invokevirtual 313, 3) := by decide +kernel
theorem dX8_wire_19 : decode cX8_wire 19 = .ok (.ifCond .ne 14, 3) := by decide +kernel
theorem dX8_wire_22 : decode cX8_wire 22 = .ok (.new 56, 3) := by decide +kernel
theorem dX8_wire_25 : decode cX8_wire 25 = .ok (.dup, 1) := by decide +kernel
theorem dX8_wire_26 : decode cX8_wire 26 = .ok (.ldc_w 316, 3) := by decide +kernel
theorem dX8_wire_29 : decode cX8_wire 29 = .ok (.invokespecial 60, 3) := by decide +kernel
theorem dX8_wire_32 : decode cX8_wire 32 = .ok (.athrow, 1) := by decide +kernel
theorem dX8_wire_33 : decode cX8_wire 33 = .ok (.iload_n 1, 1) := by decide +kernel
theorem dX8_wire_34 : decode cX8_wire 34 = .ok (.iload_n 2, 1) := by decide +kernel
theorem dX8_wire_35 : decode cX8_wire 35 = .ok (.if_icmp .ne 13, 3) := by decide +kernel
theorem dX8_wire_38 : decode cX8_wire 38 = .ok (.new 124, 3) := by decide +kernel
theorem dX8_wire_41 : decode cX8_wire 41 = .ok (.dup, 1) := by decide +kernel
theorem dX8_wire_42 : decode cX8_wire 42 = .ok (.ldc 160, 2) := by decide +kernel
theorem dX8_wire_44 : decode cX8_wire 44 = .ok (.invokespecial 128, 3) := by decide +kernel
theorem dX8_wire_47 : decode cX8_wire 47 = .ok (.athrow, 1) := by decide +kernel
theorem dX8_wire_48 : decode cX8_wire 48 = .ok (.aload_n 0, 1) := by decide +kernel
theorem dX8_wire_49 : decode cX8_wire 49 = .ok (.getfield 48, 3) := by decide +kernel
theorem dX8_wire_52 : decode cX8_wire 52 = .ok (.getfield 318, 3) := by decide +kernel
theorem dX8_wire_55 : decode cX8_wire 55 = .ok (.invokevirtual 129, 3) := by decide +kernel
theorem dX8_wire_58 : decode cX8_wire 58 = .ok (.bipush 10, 2) := by decide +kernel
theorem dX8_wire_60 : decode cX8_wire 60 = .ok (.if_icmp .lt 14, 3) := by decide +kernel
theorem dX8_wire_63 : decode cX8_wire 63 = .ok (.new 67, 3) := by decide +kernel
theorem dX8_wire_66 : decode cX8_wire 66 = .ok (.dup, 1) := by decide +kernel
theorem dX8_wire_67 : decode cX8_wire 67 = .ok (.ldc_w 321, 3) := by decide +kernel
theorem dX8_wire_70 : decode cX8_wire 70 = .ok (.invokespecial 71, 3) := by decide +kernel
theorem dX8_wire_73 : decode cX8_wire 73 = .ok (.athrow, 1) := by decide +kernel
theorem dX8_wire_74 : decode cX8_wire 74 = .ok (.aload_n 0, 1) := by decide +kernel
theorem dX8_wire_75 : decode cX8_wire 75 = .ok (.getfield 48, 3) := by decide +kernel
theorem dX8_wire_78 : decode cX8_wire 78 = .ok (.getfield 318, 3) := by decide +kernel
theorem dX8_wire_81 : decode cX8_wire 81 = .ok (.new 323, 3) := by decide +kernel
theorem dX8_wire_84 : decode cX8_wire 84 = .ok (.dup, 1) := by decide +kernel
theorem dX8_wire_85 : decode cX8_wire 85 = .ok (.iload_n 1, 1) := by decide +kernel
theorem dX8_wire_86 : decode cX8_wire 86 = .ok (.iload_n 2, 1) := by decide +kernel
theorem dX8_wire_87 : decode cX8_wire 87 = .ok (.invokespecial 325, 3) := by decide +kernel
theorem dX8_wire_90 : decode cX8_wire 90 = .ok (.invokevirtual 139, 3) := by decide +kernel
theorem dX8_wire_93 : decode cX8_wire 93 = .ok (.pop, 1) := by decide +kernel
theorem dX8_wire_94 : decode cX8_wire 94 = .ok (.aload_n 0, 1) := by decide +kernel
theorem dX8_wire_95 : decode cX8_wire 95 = .ok (.getfield 48, 3) := by decide +kernel
theorem dX8_wire_98 : decode cX8_wire 98 = .ok (.getfield 318, 3) := by decide +kernel
theorem dX8_wire_101 : decode cX8_wire 101 = .ok (.invokevirtual 129, 3) := by decide +kernel
theorem dX8_wire_104 : decode cX8_wire 104 = .ok (.iconst 1, 1) := by decide +kernel
theorem dX8_wire_105 : decode cX8_wire 105 = .ok (.isub, 1) := by decide +kernel
theorem dX8_wire_106 : decode cX8_wire 106 = .ok (.ireturn, 1) := by decide +kernel
set_option maxRecDepth 20000 in
theorem ggX8_trees_X4_treesByTable : GoodIn wsX8_trees wsX4_treesByTable := goodIn_r _ [5, 6, 7, 8, 9, 3, 10, 11, 12, 13, 14, 15, 16, 17, 18, 19, 20, 21, 22, 23, 24, 25, 26, 27, 28, 29, 30, 31, 32, 33, 34, 35, 36, 37, 38, 39, 40, 41, 42, 43, 44, 45, 46, 47, 48, 49, 50, 51, 52, 53, 54, 55, 56, 57, 58, 59, 60, 61, 62, 63, 64, 72, 73, 74, 75, 76, 77, 78, 79] (by decide +kernel) (by decide +kernel)
set_option maxRecDepth 20000 in
theorem gX8_trees_X4_treesByTable_n327 : GoodIn wsX8_trees (wsX4_treesByTable) := ggX8_trees_X4_treesByTable
theorem dX8_trees_0 : decode cX8_trees 0 = .ok (.aload_n 0, 1) := by decide +kernel
theorem dX8_trees_1 : decode cX8_trees 1 = .ok (.getfield 48, 3) := by decide +kernel
theorem dX8_trees_4 : decode cX8_trees 4 = .ok (.invokevirtual 327, 3) := by decide +kernel
theorem dX8_trees_7 : decode cX8_trees 7 = .ok (.l2i, 1) := by decide +kernel
theorem dX8_trees_8 : decode cX8_trees 8 = .ok (.ireturn, 1) := by decide +kernel
set_option maxRecDepth 20000 in
theorem ggX8_treesAnew_X4_treesBySets : GoodIn wsX8_treesAnew wsX4_treesBySets := goodIn_r _ [5, 6, 7, 8, 9, 10, 11, 12, 13, 14, 15, 16, 17, 18, 19, 20, 21, 22, 23, 3, 24, 25, 26, 27, 28, 29, 30, 31, 32, 33, 34, 35, 36, 37, 38, 39, 40, 41, 42, 50, 51, 52, 53, 54, 55, 56, 57] (by decide +kernel) (by decide +kernel)
set_option maxRecDepth 20000 in
theorem gX8_treesAnew_X4_treesBySets_n330 : GoodIn wsX8_treesAnew (wsX4_treesBySets) := ggX8_treesAnew_X4_treesBySets
theorem dX8_treesAnew_0 : decode cX8_treesAnew 0 = .ok (.aload_n 0, 1) := by decide +kernel
theorem dX8_treesAnew_1 : decode cX8_treesAnew 1 = .ok (.getfield 48, 3) := by decide +kernel
theorem dX8_treesAnew_4 : decode cX8_treesAnew 4 = .ok (.invokevirtual 330, 3) := by decide +kernel
theorem dX8_treesAnew_7 : decode cX8_treesAnew 7 = .ok (.ireturn, 1) := by decide +kernel
set_option maxRecDepth 20000 in
theorem ggX8_side_X4_hasNode : GoodIn wsX8_side wsX4_hasNode := goodIn_r _ [11, 12, 92, 93, 94] (by decide +kernel) (by decide +kernel)
set_option maxRecDepth 20000 in
theorem gX8_side_X4_hasNode_n313 : GoodIn wsX8_side (wsX4_hasNode) := ggX8_side_X4_hasNode
set_option maxRecDepth 20000 in
theorem ggX8_side_X4_hasWire : GoodIn wsX8_side wsX4_hasWire := goodIn_r _ [15, 16, 17, 18, 19, 20, 21, 22, 92, 93, 94, 95, 96, 97] (by decide +kernel) (by decide +kernel)
set_option maxRecDepth 20000 in
theorem gX8_side_X4_hasWire_n333 : GoodIn wsX8_side (wsX4_hasWire) := ggX8_side_X4_hasWire
set_option maxRecDepth 20000 in
theorem ggX8_side_X4_treesByTable : GoodIn wsX8_side wsX4_treesByTable := goodIn_r _ [25, 12, 26, 27, 28, 9, 29, 30, 16, 31, 32, 33, 34, 35, 36, 17, 18, 19, 20, 21, 22, 37, 38, 39, 40, 41, 42, 43, 44, 45, 46, 47, 48, 49, 50, 51, 52, 53, 54, 55, 56, 57, 58, 59, 60, 61, 62, 63, 64, 65, 66, 67, 68, 69, 70, 71, 72, 73, 74, 75, 76, 92, 93, 94, 98, 99, 95, 96, 97] (by decide +kernel) (by decide +kernel)
set_option maxRecDepth 20000 in
theorem gX8_side_X4_treesByTable_n327 : GoodIn wsX8_side (wsX4_treesByTable) := ggX8_side_X4_treesByTable
set_option maxRecDepth 20000 in
theorem ggX8_side_X4_heightOf : GoodIn wsX8_side wsX4_heightOf := goodIn_r _ [79, 12, 30, 54, 55, 9, 56, 26, 27, 28, 29, 16, 31, 32, 33, 34, 35, 36, 17, 18, 19, 20, 21, 22, 37, 38, 39, 40, 41, 42, 43, 44, 45, 46, 47, 48, 49, 50, 51, 52, 53, 57, 58, 59, 60, 61, 62, 63, 64, 65, 66, 67, 68, 69, 70, 71, 72, 73, 74, 75, 76, 92, 93, 94, 98, 99, 95, 96, 97] (by decide +kernel) (by decide +kernel)
set_option maxRecDepth 20000 in
theorem gX8_side_X4_heightOf_n342 : GoodIn wsX8_side (wsX4_heightOf) := ggX8_side_X4_heightOf
set_option maxRecDepth 20000 in
theorem ggX8_side_X4_fallAlong : GoodIn wsX8_side wsX4_fallAlong := goodIn_r _ [82, 16, 31, 83, 13, 14, 9, 15, 17, 18, 19, 20, 21, 22, 37, 38, 39, 40, 41, 42, 43, 44, 45, 46, 47, 48, 49, 50, 51, 52, 53, 84, 77, 78, 79, 12, 30, 54, 55, 56, 26, 27, 28, 29, 32, 33, 34, 35, 36, 57, 58, 59, 60, 61, 62, 63, 64, 65, 66, 67, 68, 69, 70, 71, 72, 73, 74, 75, 76, 92, 93, 94, 98, 99, 95, 96, 97] (by decide +kernel) (by decide +kernel)
set_option maxRecDepth 20000 in
theorem gX8_side_X4_fallAlong_n346 : GoodIn wsX8_side (wsX4_fallAlong) := ggX8_side_X4_fallAlong
theorem dX8_side_0 : decode cX8_side 0 = .ok (.aload_n 0, 1) := by decide +kernel
theorem dX8_side_1 : decode cX8_side 1 = .ok (.getfield 48, 3) := by decide +kernel
theorem dX8_side_4 : decode cX8_side 4 = .ok (.iload_n 1, 1) := by decide +kernel
theorem dX8_side_5 : decode cX8_side 5 = .ok (.invokevirtual 313, 3) := by decide +kernel
theorem dX8_side_8 : decode cX8_side 8 = .ok (.ifCond .eq 14, 3) := by decide +kernel
theorem dX8_side_11 : decode cX8_side 11 = .ok (.aload_n 0, 1) := by decide +kernel
theorem dX8_side_12 : decode cX8_side 12 = .ok (.getfield 48, 3) := by decide +kernel
theorem dX8_side_15 : decode cX8_side 15 = .ok (.iload_n 2, 1) := by decide +kernel
theorem dX8_side_16 : decode cX8_side 16 = .ok (.invokevirtual 313, 3) := by decide +kernel
theorem dX8_side_19 : decode cX8_side 19 = .ok (.ifCond .ne 14, 3) := by decide +kernel
theorem dX8_side_22 : decode cX8_side 22 = .ok (.new 56, 3) := by decide +kernel
theorem dX8_side_25 : decode cX8_side 25 = .ok (.dup, 1) := by decide +kernel
theorem dX8_side_26 : decode cX8_side 26 = .ok (.ldc_w 316, 3) := by decide +kernel
theorem dX8_side_29 : decode cX8_side 29 = .ok (.invokespecial 60, 3) := by decide +kernel
theorem dX8_side_32 : decode cX8_side 32 = .ok (.athrow, 1) := by decide +kernel
theorem dX8_side_33 : decode cX8_side 33 = .ok (.iload_n 3, 1) := by decide +kernel
theorem dX8_side_34 : decode cX8_side 34 = .ok (.iconst (-1), 1) := by decide +kernel
theorem dX8_side_35 : decode cX8_side 35 = .ok (.if_icmp .eq 25, 3) := by decide +kernel
theorem dX8_side_38 : decode cX8_side 38 = .ok (.aload_n 0, 1) := by decide +kernel
theorem dX8_side_39 : decode cX8_side 39 = .ok (.getfield 48, 3) := by decide +kernel
theorem dX8_side_42 : decode cX8_side 42 = .ok (.iload_n 3, 1) := by decide +kernel
theorem dX8_side_43 : decode cX8_side 43 = .ok (.invokevirtual 333, 3) := by decide +kernel
theorem dX8_side_46 : decode cX8_side 46 = .ok (.ifCond .ne 14, 3) := by decide +kernel
theorem dX8_side_49 : decode cX8_side 49 = .ok (.new 56, 3) := by decide +kernel
theorem dX8_side_52 : decode cX8_side 52 = .ok (.dup, 1) := by decide +kernel
theorem dX8_side_53 : decode cX8_side 53 = .ok (.ldc_w 336, 3) := by decide +kernel
theorem dX8_side_56 : decode cX8_side 56 = .ok (.invokespecial 60, 3) := by decide +kernel
theorem dX8_side_59 : decode cX8_side 59 = .ok (.athrow, 1) := by decide +kernel
theorem dX8_side_60 : decode cX8_side 60 = .ok (.iload_n 1, 1) := by decide +kernel
theorem dX8_side_61 : decode cX8_side 61 = .ok (.iload_n 2, 1) := by decide +kernel
theorem dX8_side_62 : decode cX8_side 62 = .ok (.if_icmp .ne 14, 3) := by decide +kernel
theorem dX8_side_65 : decode cX8_side 65 = .ok (.new 124, 3) := by decide +kernel
theorem dX8_side_68 : decode cX8_side 68 = .ok (.dup, 1) := by decide +kernel
theorem dX8_side_69 : decode cX8_side 69 = .ok (.ldc_w 338, 3) := by decide +kernel
theorem dX8_side_72 : decode cX8_side 72 = .ok (.invokespecial 128, 3) := by decide +kernel
theorem dX8_side_75 : decode cX8_side 75 = .ok (.athrow, 1) := by decide +kernel
theorem dX8_side_76 : decode cX8_side 76 = .ok (.aload_n 0, 1) := by decide +kernel
theorem dX8_side_77 : decode cX8_side 77 = .ok (.getfield 48, 3) := by decide +kernel
theorem dX8_side_80 : decode cX8_side 80 = .ok (.invokevirtual 327, 3) := by decide +kernel
theorem dX8_side_83 : decode cX8_side 83 = .ok (.lconst 0, 1) := by decide +kernel
theorem dX8_side_84 : decode cX8_side 84 = .ok (.lcmp, 1) := by decide +kernel
theorem dX8_side_85 : decode cX8_side 85 = .ok (.ifCond .ne 14, 3) := by decide +kernel
theorem dX8_side_88 : decode cX8_side 88 = .ok (.new 67, 3) := by decide +kernel
theorem dX8_side_91 : decode cX8_side 91 = .ok (.dup, 1) := by decide +kernel
theorem dX8_side_92 : decode cX8_side 92 = .ok (.ldc_w 340, 3) := by decide +kernel
theorem dX8_side_95 : decode cX8_side 95 = .ok (.invokespecial 71, 3) := by decide +kernel
theorem dX8_side_98 : decode cX8_side 98 = .ok (.athrow, 1) := by decide +kernel
theorem dX8_side_99 : decode cX8_side 99 = .ok (.iload_n 3, 1) := by decide +kernel
theorem dX8_side_100 : decode cX8_side 100 = .ok (.iconst (-1), 1) := by decide +kernel
theorem dX8_side_101 : decode cX8_side 101 = .ok (.if_icmp .ne 16, 3) := by decide +kernel
theorem dX8_side_104 : decode cX8_side 104 = .ok (.aload_n 0, 1) := by decide +kernel
theorem dX8_side_105 : decode cX8_side 105 = .ok (.getfield 48, 3) := by decide +kernel
theorem dX8_side_108 : decode cX8_side 108 = .ok (.iload_n 1, 1) := by decide +kernel
theorem dX8_side_109 : decode cX8_side 109 = .ok (.iload_n 1, 1) := by decide +kernel
theorem dX8_side_110 : decode cX8_side 110 = .ok (.iload_n 2, 1) := by decide +kernel
theorem dX8_side_111 : decode cX8_side 111 = .ok (.invokevirtual 342, 3) := by decide +kernel
theorem dX8_side_114 : decode cX8_side 114 = .ok (.goto 13, 3) := by decide +kernel
theorem dX8_side_117 : decode cX8_side 117 = .ok (.aload_n 0, 1) := by decide +kernel
theorem dX8_side_118 : decode cX8_side 118 = .ok (.getfield 48, 3) := by decide +kernel
theorem dX8_side_121 : decode cX8_side 121 = .ok (.iload_n 3, 1) := by decide +kernel
theorem dX8_side_122 : decode cX8_side 122 = .ok (.iload_n 1, 1) := by decide +kernel
theorem dX8_side_123 : decode cX8_side 123 = .ok (.iload_n 2, 1) := by decide +kernel
theorem dX8_side_124 : decode cX8_side 124 = .ok (.invokevirtual 346, 3) := by decide +kernel
theorem dX8_side_127 : decode cX8_side 127 = .ok (.l2i, 1) := by decide +kernel
theorem dX8_side_128 : decode cX8_side 128 = .ok (.ireturn, 1) := by decide +kernel
theorem dJ6_numberOfLeadingZeros_0f7a4_0 : decode cJ6_numberOfLeadingZeros_0f7a4 0 = .ok (.iload_n 0, 1) := by decide +kernel
theorem dJ6_numberOfLeadingZeros_0f7a4_1 : decode cJ6_numberOfLeadingZeros_0f7a4 1 = .ok (.ifCond .gt 14, 3) := by decide +kernel
theorem dJ6_numberOfLeadingZeros_0f7a4_4 : decode cJ6_numberOfLeadingZeros_0f7a4 4 = .ok (.iload_n 0, 1) := by decide +kernel
theorem dJ6_numberOfLeadingZeros_0f7a4_5 : decode cJ6_numberOfLeadingZeros_0f7a4 5 = .ok (.ifCond .ne 8, 3) := by decide +kernel
theorem dJ6_numberOfLeadingZeros_0f7a4_8 : decode cJ6_numberOfLeadingZeros_0f7a4 8 = .ok (.bipush 32, 2) := by decide +kernel
theorem dJ6_numberOfLeadingZeros_0f7a4_10 : decode cJ6_numberOfLeadingZeros_0f7a4 10 = .ok (.goto 4, 3) := by decide +kernel
theorem dJ6_numberOfLeadingZeros_0f7a4_13 : decode cJ6_numberOfLeadingZeros_0f7a4 13 = .ok (.iconst 0, 1) := by decide +kernel
theorem dJ6_numberOfLeadingZeros_0f7a4_14 : decode cJ6_numberOfLeadingZeros_0f7a4 14 = .ok (.ireturn, 1) := by decide +kernel
theorem dJ6_numberOfLeadingZeros_0f7a4_15 : decode cJ6_numberOfLeadingZeros_0f7a4 15 = .ok (.bipush 31, 2) := by decide +kernel
theorem dJ6_numberOfLeadingZeros_0f7a4_17 : decode cJ6_numberOfLeadingZeros_0f7a4 17 = .ok (.istore_n 1, 1) := by decide +kernel
theorem dJ6_numberOfLeadingZeros_0f7a4_18 : decode cJ6_numberOfLeadingZeros_0f7a4 18 = .ok (.iload_n 0, 1) := by decide +kernel
theorem dJ6_numberOfLeadingZeros_0f7a4_19 : decode cJ6_numberOfLeadingZeros_0f7a4 19 = .ok (.ldc_w 264, 3) := by decide +kernel
theorem dJ6_numberOfLeadingZeros_0f7a4_22 : decode cJ6_numberOfLeadingZeros_0f7a4 22 = .ok (.if_icmp .lt 11, 3) := by decide +kernel
theorem dJ6_numberOfLeadingZeros_0f7a4_25 : decode cJ6_numberOfLeadingZeros_0f7a4 25 = .ok (.iinc 1 (-16), 3) := by decide +kernel
theorem dJ6_numberOfLeadingZeros_0f7a4_28 : decode cJ6_numberOfLeadingZeros_0f7a4 28 = .ok (.iload_n 0, 1) := by decide +kernel
theorem dJ6_numberOfLeadingZeros_0f7a4_29 : decode cJ6_numberOfLeadingZeros_0f7a4 29 = .ok (.bipush 16, 2) := by decide +kernel
theorem dJ6_numberOfLeadingZeros_0f7a4_31 : decode cJ6_numberOfLeadingZeros_0f7a4 31 = .ok (.iushr, 1) := by decide +kernel
theorem dJ6_numberOfLeadingZeros_0f7a4_32 : decode cJ6_numberOfLeadingZeros_0f7a4 32 = .ok (.istore_n 0, 1) := by decide +kernel
theorem dJ6_numberOfLeadingZeros_0f7a4_33 : decode cJ6_numberOfLeadingZeros_0f7a4 33 = .ok (.iload_n 0, 1) := by decide +kernel
theorem dJ6_numberOfLeadingZeros_0f7a4_34 : decode cJ6_numberOfLeadingZeros_0f7a4 34 = .ok (.sipush 256, 3) := by decide +kernel
theorem dJ6_numberOfLeadingZeros_0f7a4_37 : decode cJ6_numberOfLeadingZeros_0f7a4 37 = .ok (.if_icmp .lt 11, 3) := by decide +kernel
theorem dJ6_numberOfLeadingZeros_0f7a4_40 : decode cJ6_numberOfLeadingZeros_0f7a4 40 = .ok (.iinc 1 (-8), 3) := by decide +kernel
theorem dJ6_numberOfLeadingZeros_0f7a4_43 : decode cJ6_numberOfLeadingZeros_0f7a4 43 = .ok (.iload_n 0, 1) := by decide +kernel
theorem dJ6_numberOfLeadingZeros_0f7a4_44 : decode cJ6_numberOfLeadingZeros_0f7a4 44 = .ok (.bipush 8, 2) := by decide +kernel
theorem dJ6_numberOfLeadingZeros_0f7a4_46 : decode cJ6_numberOfLeadingZeros_0f7a4 46 = .ok (.iushr, 1) := by decide +kernel
theorem dJ6_numberOfLeadingZeros_0f7a4_47 : decode cJ6_numberOfLeadingZeros_0f7a4 47 = .ok (.istore_n 0, 1) := by decide +kernel
theorem dJ6_numberOfLeadingZeros_0f7a4_48 : decode cJ6_numberOfLeadingZeros_0f7a4 48 = .ok (.iload_n 0, 1) := by decide +kernel
theorem dJ6_numberOfLeadingZeros_0f7a4_49 : decode cJ6_numberOfLeadingZeros_0f7a4 49 = .ok (.bipush 16, 2) := by decide +kernel
theorem dJ6_numberOfLeadingZeros_0f7a4_51 : decode cJ6_numberOfLeadingZeros_0f7a4 51 = .ok (.if_icmp .lt 10, 3) := by decide +kernel
theorem dJ6_numberOfLeadingZeros_0f7a4_54 : decode cJ6_numberOfLeadingZeros_0f7a4 54 = .ok (.iinc 1 (-4), 3) := by decide +kernel
theorem dJ6_numberOfLeadingZeros_0f7a4_57 : decode cJ6_numberOfLeadingZeros_0f7a4 57 = .ok (.iload_n 0, 1) := by decide +kernel
theorem dJ6_numberOfLeadingZeros_0f7a4_58 : decode cJ6_numberOfLeadingZeros_0f7a4 58 = .ok (.iconst 4, 1) := by decide +kernel
theorem dJ6_numberOfLeadingZeros_0f7a4_59 : decode cJ6_numberOfLeadingZeros_0f7a4 59 = .ok (.iushr, 1) := by decide +kernel
theorem dJ6_numberOfLeadingZeros_0f7a4_60 : decode cJ6_numberOfLeadingZeros_0f7a4 60 = .ok (.istore_n 0, 1) := by decide +kernel
theorem dJ6_numberOfLeadingZeros_0f7a4_61 : decode cJ6_numberOfLeadingZeros_0f7a4 61 = .ok (.iload_n 0, 1) := by decide +kernel
theorem dJ6_numberOfLeadingZeros_0f7a4_62 : decode cJ6_numberOfLeadingZeros_0f7a4 62 = .ok (.iconst 4, 1) := by decide +kernel
theorem dJ6_numberOfLeadingZeros_0f7a4_63 : decode cJ6_numberOfLeadingZeros_0f7a4 63 = .ok (.if_icmp .lt 10, 3) := by decide +kernel
theorem dJ6_numberOfLeadingZeros_0f7a4_66 : decode cJ6_numberOfLeadingZeros_0f7a4 66 = .ok (.iinc 1 (-2), 3) := by decide +kernel
theorem dJ6_numberOfLeadingZeros_0f7a4_69 : decode cJ6_numberOfLeadingZeros_0f7a4 69 = .ok (.iload_n 0, 1) := by decide +kernel
theorem dJ6_numberOfLeadingZeros_0f7a4_70 : decode cJ6_numberOfLeadingZeros_0f7a4 70 = .ok (.iconst 2, 1) := by decide +kernel
theorem dJ6_numberOfLeadingZeros_0f7a4_71 : decode cJ6_numberOfLeadingZeros_0f7a4 71 = .ok (.iushr, 1) := by decide +kernel
theorem dJ6_numberOfLeadingZeros_0f7a4_72 : decode cJ6_numberOfLeadingZeros_0f7a4 72 = .ok (.istore_n 0, 1) := by decide +kernel
theorem dJ6_numberOfLeadingZeros_0f7a4_73 : decode cJ6_numberOfLeadingZeros_0f7a4 73 = .ok (.iload_n 1, 1) := by decide +kernel
theorem dJ6_numberOfLeadingZeros_0f7a4_74 : decode cJ6_numberOfLeadingZeros_0f7a4 74 = .ok (.iload_n 0, 1) := by decide +kernel
theorem dJ6_numberOfLeadingZeros_0f7a4_75 : decode cJ6_numberOfLeadingZeros_0f7a4 75 = .ok (.iconst 1, 1) := by decide +kernel
theorem dJ6_numberOfLeadingZeros_0f7a4_76 : decode cJ6_numberOfLeadingZeros_0f7a4 76 = .ok (.iushr, 1) := by decide +kernel
theorem dJ6_numberOfLeadingZeros_0f7a4_77 : decode cJ6_numberOfLeadingZeros_0f7a4 77 = .ok (.isub, 1) := by decide +kernel
theorem dJ6_numberOfLeadingZeros_0f7a4_78 : decode cJ6_numberOfLeadingZeros_0f7a4 78 = .ok (.ireturn, 1) := by decide +kernel
theorem dJ6_numberOfTrailingZeros_0f7a4_0 : decode cJ6_numberOfTrailingZeros_0f7a4 0 = .ok (.iload_n 0, 1) := by decide +kernel
theorem dJ6_numberOfTrailingZeros_0f7a4_1 : decode cJ6_numberOfTrailingZeros_0f7a4 1 = .ok (.iconst (-1), 1) := by decide +kernel
theorem dJ6_numberOfTrailingZeros_0f7a4_2 : decode cJ6_numberOfTrailingZeros_0f7a4 2 = .ok (.ixor, 1) := by decide +kernel
theorem dJ6_numberOfTrailingZeros_0f7a4_3 : decode cJ6_numberOfTrailingZeros_0f7a4 3 = .ok (.iload_n 0, 1) := by decide +kernel
theorem dJ6_numberOfTrailingZeros_0f7a4_4 : decode cJ6_numberOfTrailingZeros_0f7a4 4 = .ok (.iconst 1, 1) := by decide +kernel
theorem dJ6_numberOfTrailingZeros_0f7a4_5 : decode cJ6_numberOfTrailingZeros_0f7a4 5 = .ok (.isub, 1) := by decide +kernel
theorem dJ6_numberOfTrailingZeros_0f7a4_6 : decode cJ6_numberOfTrailingZeros_0f7a4 6 = .ok (.iand, 1) := by decide +kernel
theorem dJ6_numberOfTrailingZeros_0f7a4_7 : decode cJ6_numberOfTrailingZeros_0f7a4 7 = .ok (.istore_n 0, 1) := by decide +kernel
theorem dJ6_numberOfTrailingZeros_0f7a4_8 : decode cJ6_numberOfTrailingZeros_0f7a4 8 = .ok (.iload_n 0, 1) := by decide +kernel
theorem dJ6_numberOfTrailingZeros_0f7a4_9 : decode cJ6_numberOfTrailingZeros_0f7a4 9 = .ok (.ifCond .gt 8, 3) := by decide +kernel
theorem dJ6_numberOfTrailingZeros_0f7a4_12 : decode cJ6_numberOfTrailingZeros_0f7a4 12 = .ok (.iload_n 0, 1) := by decide +kernel
theorem dJ6_numberOfTrailingZeros_0f7a4_13 : decode cJ6_numberOfTrailingZeros_0f7a4 13 = .ok (.bipush 32, 2) := by decide +kernel
theorem dJ6_numberOfTrailingZeros_0f7a4_15 : decode cJ6_numberOfTrailingZeros_0f7a4 15 = .ok (.iand, 1) := by decide +kernel
theorem dJ6_numberOfTrailingZeros_0f7a4_16 : decode cJ6_numberOfTrailingZeros_0f7a4 16 = .ok (.ireturn, 1) := by decide +kernel
theorem dJ6_numberOfTrailingZeros_0f7a4_17 : decode cJ6_numberOfTrailingZeros_0f7a4 17 = .ok (.iconst 1, 1) := by decide +kernel
theorem dJ6_numberOfTrailingZeros_0f7a4_18 : decode cJ6_numberOfTrailingZeros_0f7a4 18 = .ok (.istore_n 1, 1) := by decide +kernel
theorem dJ6_numberOfTrailingZeros_0f7a4_19 : decode cJ6_numberOfTrailingZeros_0f7a4 19 = .ok (.iload_n 0, 1) := by decide +kernel
theorem dJ6_numberOfTrailingZeros_0f7a4_20 : decode cJ6_numberOfTrailingZeros_0f7a4 20 = .ok (.ldc_w 264, 3) := by decide +kernel
theorem dJ6_numberOfTrailingZeros_0f7a4_23 : decode cJ6_numberOfTrailingZeros_0f7a4 23 = .ok (.if_icmp .le 11, 3) := by decide +kernel
theorem dJ6_numberOfTrailingZeros_0f7a4_26 : decode cJ6_numberOfTrailingZeros_0f7a4 26 = .ok (.iinc 1 16, 3) := by decide +kernel
theorem dJ6_numberOfTrailingZeros_0f7a4_29 : decode cJ6_numberOfTrailingZeros_0f7a4 29 = .ok (.iload_n 0, 1) := by decide +kernel
theorem dJ6_numberOfTrailingZeros_0f7a4_30 : decode cJ6_numberOfTrailingZeros_0f7a4 30 = .ok (.bipush 16, 2) := by decide +kernel
theorem dJ6_numberOfTrailingZeros_0f7a4_32 : decode cJ6_numberOfTrailingZeros_0f7a4 32 = .ok (.iushr, 1) := by decide +kernel
theorem dJ6_numberOfTrailingZeros_0f7a4_33 : decode cJ6_numberOfTrailingZeros_0f7a4 33 = .ok (.istore_n 0, 1) := by decide +kernel
theorem dJ6_numberOfTrailingZeros_0f7a4_34 : decode cJ6_numberOfTrailingZeros_0f7a4 34 = .ok (.iload_n 0, 1) := by decide +kernel
theorem dJ6_numberOfTrailingZeros_0f7a4_35 : decode cJ6_numberOfTrailingZeros_0f7a4 35 = .ok (.sipush 256, 3) := by decide +kernel
theorem dJ6_numberOfTrailingZeros_0f7a4_38 : decode cJ6_numberOfTrailingZeros_0f7a4 38 = .ok (.if_icmp .le 11, 3) := by decide +kernel
theorem dJ6_numberOfTrailingZeros_0f7a4_41 : decode cJ6_numberOfTrailingZeros_0f7a4 41 = .ok (.iinc 1 8, 3) := by decide +kernel
theorem dJ6_numberOfTrailingZeros_0f7a4_44 : decode cJ6_numberOfTrailingZeros_0f7a4 44 = .ok (.iload_n 0, 1) := by decide +kernel
theorem dJ6_numberOfTrailingZeros_0f7a4_45 : decode cJ6_numberOfTrailingZeros_0f7a4 45 = .ok (.bipush 8, 2) := by decide +kernel
theorem dJ6_numberOfTrailingZeros_0f7a4_47 : decode cJ6_numberOfTrailingZeros_0f7a4 47 = .ok (.iushr, 1) := by decide +kernel
theorem dJ6_numberOfTrailingZeros_0f7a4_48 : decode cJ6_numberOfTrailingZeros_0f7a4 48 = .ok (.istore_n 0, 1) := by decide +kernel
theorem dJ6_numberOfTrailingZeros_0f7a4_49 : decode cJ6_numberOfTrailingZeros_0f7a4 49 = .ok (.iload_n 0, 1) := by decide +kernel
theorem dJ6_numberOfTrailingZeros_0f7a4_50 : decode cJ6_numberOfTrailingZeros_0f7a4 50 = .ok (.bipush 16, 2) := by decide +kernel
theorem dJ6_numberOfTrailingZeros_0f7a4_52 : decode cJ6_numberOfTrailingZeros_0f7a4 52 = .ok (.if_icmp .le 10, 3) := by decide +kernel
theorem dJ6_numberOfTrailingZeros_0f7a4_55 : decode cJ6_numberOfTrailingZeros_0f7a4 55 = .ok (.iinc 1 4, 3) := by decide +kernel
theorem dJ6_numberOfTrailingZeros_0f7a4_58 : decode cJ6_numberOfTrailingZeros_0f7a4 58 = .ok (.iload_n 0, 1) := by decide +kernel
theorem dJ6_numberOfTrailingZeros_0f7a4_59 : decode cJ6_numberOfTrailingZeros_0f7a4 59 = .ok (.iconst 4, 1) := by decide +kernel
theorem dJ6_numberOfTrailingZeros_0f7a4_60 : decode cJ6_numberOfTrailingZeros_0f7a4 60 = .ok (.iushr, 1) := by decide +kernel
theorem dJ6_numberOfTrailingZeros_0f7a4_61 : decode cJ6_numberOfTrailingZeros_0f7a4 61 = .ok (.istore_n 0, 1) := by decide +kernel
theorem dJ6_numberOfTrailingZeros_0f7a4_62 : decode cJ6_numberOfTrailingZeros_0f7a4 62 = .ok (.iload_n 0, 1) := by decide +kernel
theorem dJ6_numberOfTrailingZeros_0f7a4_63 : decode cJ6_numberOfTrailingZeros_0f7a4 63 = .ok (.iconst 4, 1) := by decide +kernel
theorem dJ6_numberOfTrailingZeros_0f7a4_64 : decode cJ6_numberOfTrailingZeros_0f7a4 64 = .ok (.if_icmp .le 10, 3) := by decide +kernel
theorem dJ6_numberOfTrailingZeros_0f7a4_67 : decode cJ6_numberOfTrailingZeros_0f7a4 67 = .ok (.iinc 1 2, 3) := by decide +kernel
theorem dJ6_numberOfTrailingZeros_0f7a4_70 : decode cJ6_numberOfTrailingZeros_0f7a4 70 = .ok (.iload_n 0, 1) := by decide +kernel
theorem dJ6_numberOfTrailingZeros_0f7a4_71 : decode cJ6_numberOfTrailingZeros_0f7a4 71 = .ok (.iconst 2, 1) := by decide +kernel
theorem dJ6_numberOfTrailingZeros_0f7a4_72 : decode cJ6_numberOfTrailingZeros_0f7a4 72 = .ok (.iushr, 1) := by decide +kernel
theorem dJ6_numberOfTrailingZeros_0f7a4_73 : decode cJ6_numberOfTrailingZeros_0f7a4 73 = .ok (.istore_n 0, 1) := by decide +kernel
theorem dJ6_numberOfTrailingZeros_0f7a4_74 : decode cJ6_numberOfTrailingZeros_0f7a4 74 = .ok (.iload_n 1, 1) := by decide +kernel
theorem dJ6_numberOfTrailingZeros_0f7a4_75 : decode cJ6_numberOfTrailingZeros_0f7a4 75 = .ok (.iload_n 0, 1) := by decide +kernel
theorem dJ6_numberOfTrailingZeros_0f7a4_76 : decode cJ6_numberOfTrailingZeros_0f7a4 76 = .ok (.iconst 1, 1) := by decide +kernel
theorem dJ6_numberOfTrailingZeros_0f7a4_77 : decode cJ6_numberOfTrailingZeros_0f7a4 77 = .ok (.iushr, 1) := by decide +kernel
theorem dJ6_numberOfTrailingZeros_0f7a4_78 : decode cJ6_numberOfTrailingZeros_0f7a4 78 = .ok (.iadd, 1) := by decide +kernel
theorem dJ6_numberOfTrailingZeros_0f7a4_79 : decode cJ6_numberOfTrailingZeros_0f7a4 79 = .ok (.ireturn, 1) := by decide +kernel
theorem dJ6_bitCount_0f7a4_0 : decode cJ6_bitCount_0f7a4 0 = .ok (.iload_n 0, 1) := by decide +kernel
theorem dJ6_bitCount_0f7a4_1 : decode cJ6_bitCount_0f7a4 1 = .ok (.iload_n 0, 1) := by decide +kernel
theorem dJ6_bitCount_0f7a4_2 : decode cJ6_bitCount_0f7a4 2 = .ok (.iconst 1, 1) := by decide +kernel
theorem dJ6_bitCount_0f7a4_3 : decode cJ6_bitCount_0f7a4 3 = .ok (.iushr, 1) := by decide +kernel
theorem dJ6_bitCount_0f7a4_4 : decode cJ6_bitCount_0f7a4 4 = .ok (.ldc_w 265, 3) := by decide +kernel
theorem dJ6_bitCount_0f7a4_7 : decode cJ6_bitCount_0f7a4 7 = .ok (.iand, 1) := by decide +kernel
theorem dJ6_bitCount_0f7a4_8 : decode cJ6_bitCount_0f7a4 8 = .ok (.isub, 1) := by decide +kernel
theorem dJ6_bitCount_0f7a4_9 : decode cJ6_bitCount_0f7a4 9 = .ok (.istore_n 0, 1) := by decide +kernel
theorem dJ6_bitCount_0f7a4_10 : decode cJ6_bitCount_0f7a4 10 = .ok (.iload_n 0, 1) := by decide +kernel
theorem dJ6_bitCount_0f7a4_11 : decode cJ6_bitCount_0f7a4 11 = .ok (.ldc_w 266, 3) := by decide +kernel
theorem dJ6_bitCount_0f7a4_14 : decode cJ6_bitCount_0f7a4 14 = .ok (.iand, 1) := by decide +kernel
theorem dJ6_bitCount_0f7a4_15 : decode cJ6_bitCount_0f7a4 15 = .ok (.iload_n 0, 1) := by decide +kernel
theorem dJ6_bitCount_0f7a4_16 : decode cJ6_bitCount_0f7a4 16 = .ok (.iconst 2, 1) := by decide +kernel
theorem dJ6_bitCount_0f7a4_17 : decode cJ6_bitCount_0f7a4 17 = .ok (.iushr, 1) := by decide +kernel
theorem dJ6_bitCount_0f7a4_18 : decode cJ6_bitCount_0f7a4 18 = .ok (.ldc_w 266, 3) := by decide +kernel
theorem dJ6_bitCount_0f7a4_21 : decode cJ6_bitCount_0f7a4 21 = .ok (.iand, 1) := by decide +kernel
theorem dJ6_bitCount_0f7a4_22 : decode cJ6_bitCount_0f7a4 22 = .ok (.iadd, 1) := by decide +kernel
theorem dJ6_bitCount_0f7a4_23 : decode cJ6_bitCount_0f7a4 23 = .ok (.istore_n 0, 1) := by decide +kernel
theorem dJ6_bitCount_0f7a4_24 : decode cJ6_bitCount_0f7a4 24 = .ok (.iload_n 0, 1) := by decide +kernel
theorem dJ6_bitCount_0f7a4_25 : decode cJ6_bitCount_0f7a4 25 = .ok (.iload_n 0, 1) := by decide +kernel
theorem dJ6_bitCount_0f7a4_26 : decode cJ6_bitCount_0f7a4 26 = .ok (.iconst 4, 1) := by decide +kernel
theorem dJ6_bitCount_0f7a4_27 : decode cJ6_bitCount_0f7a4 27 = .ok (.iushr, 1) := by decide +kernel
theorem dJ6_bitCount_0f7a4_28 : decode cJ6_bitCount_0f7a4 28 = .ok (.iadd, 1) := by decide +kernel
theorem dJ6_bitCount_0f7a4_29 : decode cJ6_bitCount_0f7a4 29 = .ok (.ldc_w 267, 3) := by decide +kernel
theorem dJ6_bitCount_0f7a4_32 : decode cJ6_bitCount_0f7a4 32 = .ok (.iand, 1) := by decide +kernel
theorem dJ6_bitCount_0f7a4_33 : decode cJ6_bitCount_0f7a4 33 = .ok (.istore_n 0, 1) := by decide +kernel
theorem dJ6_bitCount_0f7a4_34 : decode cJ6_bitCount_0f7a4 34 = .ok (.iload_n 0, 1) := by decide +kernel
theorem dJ6_bitCount_0f7a4_35 : decode cJ6_bitCount_0f7a4 35 = .ok (.iload_n 0, 1) := by decide +kernel
theorem dJ6_bitCount_0f7a4_36 : decode cJ6_bitCount_0f7a4 36 = .ok (.bipush 8, 2) := by decide +kernel
theorem dJ6_bitCount_0f7a4_38 : decode cJ6_bitCount_0f7a4 38 = .ok (.iushr, 1) := by decide +kernel
theorem dJ6_bitCount_0f7a4_39 : decode cJ6_bitCount_0f7a4 39 = .ok (.iadd, 1) := by decide +kernel
theorem dJ6_bitCount_0f7a4_40 : decode cJ6_bitCount_0f7a4 40 = .ok (.istore_n 0, 1) := by decide +kernel
theorem dJ6_bitCount_0f7a4_41 : decode cJ6_bitCount_0f7a4 41 = .ok (.iload_n 0, 1) := by decide +kernel
theorem dJ6_bitCount_0f7a4_42 : decode cJ6_bitCount_0f7a4 42 = .ok (.iload_n 0, 1) := by decide +kernel
theorem dJ6_bitCount_0f7a4_43 : decode cJ6_bitCount_0f7a4 43 = .ok (.bipush 16, 2) := by decide +kernel
theorem dJ6_bitCount_0f7a4_45 : decode cJ6_bitCount_0f7a4 45 = .ok (.iushr, 1) := by decide +kernel
theorem dJ6_bitCount_0f7a4_46 : decode cJ6_bitCount_0f7a4 46 = .ok (.iadd, 1) := by decide +kernel
theorem dJ6_bitCount_0f7a4_47 : decode cJ6_bitCount_0f7a4 47 = .ok (.istore_n 0, 1) := by decide +kernel
theorem dJ6_bitCount_0f7a4_48 : decode cJ6_bitCount_0f7a4 48 = .ok (.iload_n 0, 1) := by decide +kernel
theorem dJ6_bitCount_0f7a4_49 : decode cJ6_bitCount_0f7a4 49 = .ok (.bipush 63, 2) := by decide +kernel
theorem dJ6_bitCount_0f7a4_51 : decode cJ6_bitCount_0f7a4 51 = .ok (.iand, 1) := by decide +kernel
theorem dJ6_bitCount_0f7a4_52 : decode cJ6_bitCount_0f7a4 52 = .ok (.ireturn, 1) := by decide +kernel
set_option maxRecDepth 20000 in
theorem ggJ13_numberOfLeadingZeros_95d88_J6_numberOfLeadingZeros_0f7a4 : GoodIn wsJ13_numberOfLeadingZeros_95d88 wsJ6_numberOfLeadingZeros_0f7a4 := goodIn_r _ [4, 5] (by decide +kernel) (by decide +kernel)
set_option maxRecDepth 20000 in
theorem gJ13_numberOfLeadingZeros_95d88_J6_numberOfLeadingZeros_0f7a4 : GoodIn wsJ13_numberOfLeadingZeros_95d88 (va_wsS RJ13 308 yJ6_numberOfLeadingZeros_0f7a4 wsJ6_numberOfLeadingZeros_0f7a4) := goodIn_app (goodIn_of _ (by decide +kernel)) ggJ13_numberOfLeadingZeros_95d88_J6_numberOfLeadingZeros_0f7a4
theorem dJ13_numberOfLeadingZeros_95d88_0 : decode cJ13_numberOfLeadingZeros_95d88 0 = .ok (.lload_n 0, 1) := by decide +kernel
theorem dJ13_numberOfLeadingZeros_95d88_1 : decode cJ13_numberOfLeadingZeros_95d88 1 = .ok (.bipush 32, 2) := by decide +kernel
theorem dJ13_numberOfLeadingZeros_95d88_3 : decode cJ13_numberOfLeadingZeros_95d88 3 = .ok (.lushr, 1) := by decide +kernel
theorem dJ13_numberOfLeadingZeros_95d88_4 : decode cJ13_numberOfLeadingZeros_95d88 4 = .ok (.l2i, 1) := by decide +kernel
theorem dJ13_numberOfLeadingZeros_95d88_5 : decode cJ13_numberOfLeadingZeros_95d88 5 = .ok (.istore_n 2, 1) := by decide +kernel
theorem dJ13_numberOfLeadingZeros_95d88_6 : decode cJ13_numberOfLeadingZeros_95d88 6 = .ok (.iload_n 2, 1) := by decide +kernel
theorem dJ13_numberOfLeadingZeros_95d88_7 : decode cJ13_numberOfLeadingZeros_95d88 7 = .ok (.ifCond .ne 14, 3) := by decide +kernel
theorem dJ13_numberOfLeadingZeros_95d88_10 : decode cJ13_numberOfLeadingZeros_95d88 10 = .ok (.bipush 32, 2) := by decide +kernel
theorem dJ13_numberOfLeadingZeros_95d88_12 : decode cJ13_numberOfLeadingZeros_95d88 12 = .ok (.lload_n 0, 1) := by decide +kernel
theorem dJ13_numberOfLeadingZeros_95d88_13 : decode cJ13_numberOfLeadingZeros_95d88 13 = .ok (.l2i, 1) := by decide +kernel
theorem dJ13_numberOfLeadingZeros_95d88_14 : decode cJ13_numberOfLeadingZeros_95d88 14 = .ok (.invokestatic 308, 3) := by decide +kernel
theorem dJ13_numberOfLeadingZeros_95d88_17 : decode cJ13_numberOfLeadingZeros_95d88 17 = .ok (.iadd, 1) := by decide +kernel
theorem dJ13_numberOfLeadingZeros_95d88_18 : decode cJ13_numberOfLeadingZeros_95d88 18 = .ok (.goto 7, 3) := by decide +kernel
theorem dJ13_numberOfLeadingZeros_95d88_21 : decode cJ13_numberOfLeadingZeros_95d88 21 = .ok (.iload_n 2, 1) := by decide +kernel
theorem dJ13_numberOfLeadingZeros_95d88_22 : decode cJ13_numberOfLeadingZeros_95d88 22 = .ok (.invokestatic 308, 3) := by decide +kernel
theorem dJ13_numberOfLeadingZeros_95d88_25 : decode cJ13_numberOfLeadingZeros_95d88 25 = .ok (.ireturn, 1) := by decide +kernel
set_option maxRecDepth 20000 in
theorem ggJ13_numberOfTrailingZeros_95d88_J6_numberOfTrailingZeros_0f7a4 : GoodIn wsJ13_numberOfTrailingZeros_95d88 wsJ6_numberOfTrailingZeros_0f7a4 := goodIn_r _ [4, 5] (by decide +kernel) (by decide +kernel)
set_option maxRecDepth 20000 in
theorem gJ13_numberOfTrailingZeros_95d88_J6_numberOfTrailingZeros_0f7a4 : GoodIn wsJ13_numberOfTrailingZeros_95d88 (va_wsS RJ13 311 yJ6_numberOfTrailingZeros_0f7a4 wsJ6_numberOfTrailingZeros_0f7a4) := goodIn_app (goodIn_of _ (by decide +kernel)) ggJ13_numberOfTrailingZeros_95d88_J6_numberOfTrailingZeros_0f7a4
theorem dJ13_numberOfTrailingZeros_95d88_0 : decode cJ13_numberOfTrailingZeros_95d88 0 = .ok (.lload_n 0, 1) := by decide +kernel
theorem dJ13_numberOfTrailingZeros_95d88_1 : decode cJ13_numberOfTrailingZeros_95d88 1 = .ok (.l2i, 1) := by decide +kernel
theorem dJ13_numberOfTrailingZeros_95d88_2 : decode cJ13_numberOfTrailingZeros_95d88 2 = .ok (.istore_n 2, 1) := by decide +kernel
theorem dJ13_numberOfTrailingZeros_95d88_3 : decode cJ13_numberOfTrailingZeros_95d88 3 = .ok (.iload_n 2, 1) := by decide +kernel
theorem dJ13_numberOfTrailingZeros_95d88_4 : decode cJ13_numberOfTrailingZeros_95d88 4 = .ok (.ifCond .ne 17, 3) := by decide +kernel
theorem dJ13_numberOfTrailingZeros_95d88_7 : decode cJ13_numberOfTrailingZeros_95d88 7 = .ok (.bipush 32, 2) := by decide +kernel
theorem dJ13_numberOfTrailingZeros_95d88_9 : decode cJ13_numberOfTrailingZeros_95d88 9 = .ok (.lload_n 0, 1) := by decide +kernel
theorem dJ13_numberOfTrailingZeros_95d88_10 : decode cJ13_numberOfTrailingZeros_95d88 10 = .ok (.bipush 32, 2) := by decide +kernel
theorem dJ13_numberOfTrailingZeros_95d88_12 : decode cJ13_numberOfTrailingZeros_95d88 12 = .ok (.lushr, 1) := by decide +kernel
theorem dJ13_numberOfTrailingZeros_95d88_13 : decode cJ13_numberOfTrailingZeros_95d88 13 = .ok (.l2i, 1) := by decide +kernel
theorem dJ13_numberOfTrailingZeros_95d88_14 : decode cJ13_numberOfTrailingZeros_95d88 14 = .ok (.invokestatic 311, 3) := by decide +kernel
theorem dJ13_numberOfTrailingZeros_95d88_17 : decode cJ13_numberOfTrailingZeros_95d88 17 = .ok (.iadd, 1) := by decide +kernel
theorem dJ13_numberOfTrailingZeros_95d88_18 : decode cJ13_numberOfTrailingZeros_95d88 18 = .ok (.goto 7, 3) := by decide +kernel
theorem dJ13_numberOfTrailingZeros_95d88_21 : decode cJ13_numberOfTrailingZeros_95d88 21 = .ok (.iload_n 2, 1) := by decide +kernel
theorem dJ13_numberOfTrailingZeros_95d88_22 : decode cJ13_numberOfTrailingZeros_95d88 22 = .ok (.invokestatic 311, 3) := by decide +kernel
theorem dJ13_numberOfTrailingZeros_95d88_25 : decode cJ13_numberOfTrailingZeros_95d88 25 = .ok (.ireturn, 1) := by decide +kernel
theorem dJ9_floorDiv_f86c9_0 : decode cJ9_floorDiv_f86c9 0 = .ok (.lload_n 0, 1) := by decide +kernel
theorem dJ9_floorDiv_f86c9_1 : decode cJ9_floorDiv_f86c9 1 = .ok (.lload_n 2, 1) := by decide +kernel
theorem dJ9_floorDiv_f86c9_2 : decode cJ9_floorDiv_f86c9 2 = .ok (.ldiv, 1) := by decide +kernel
theorem dJ9_floorDiv_f86c9_3 : decode cJ9_floorDiv_f86c9 3 = .ok (.lstore 4, 2) := by decide +kernel
theorem dJ9_floorDiv_f86c9_5 : decode cJ9_floorDiv_f86c9 5 = .ok (.lload_n 0, 1) := by decide +kernel
theorem dJ9_floorDiv_f86c9_6 : decode cJ9_floorDiv_f86c9 6 = .ok (.lload_n 2, 1) := by decide +kernel
theorem dJ9_floorDiv_f86c9_7 : decode cJ9_floorDiv_f86c9 7 = .ok (.lxor, 1) := by decide +kernel
theorem dJ9_floorDiv_f86c9_8 : decode cJ9_floorDiv_f86c9 8 = .ok (.lconst 0, 1) := by decide +kernel
theorem dJ9_floorDiv_f86c9_9 : decode cJ9_floorDiv_f86c9 9 = .ok (.lcmp, 1) := by decide +kernel
theorem dJ9_floorDiv_f86c9_10 : decode cJ9_floorDiv_f86c9 10 = .ok (.ifCond .ge 17, 3) := by decide +kernel
theorem dJ9_floorDiv_f86c9_13 : decode cJ9_floorDiv_f86c9 13 = .ok (.lload 4, 2) := by decide +kernel
theorem dJ9_floorDiv_f86c9_15 : decode cJ9_floorDiv_f86c9 15 = .ok (.lload_n 2, 1) := by decide +kernel
theorem dJ9_floorDiv_f86c9_16 : decode cJ9_floorDiv_f86c9 16 = .ok (.lmul, 1) := by decide +kernel
theorem dJ9_floorDiv_f86c9_17 : decode cJ9_floorDiv_f86c9 17 = .ok (.lload_n 0, 1) := by decide +kernel
theorem dJ9_floorDiv_f86c9_18 : decode cJ9_floorDiv_f86c9 18 = .ok (.lcmp, 1) := by decide +kernel
theorem dJ9_floorDiv_f86c9_19 : decode cJ9_floorDiv_f86c9 19 = .ok (.ifCond .eq 8, 3) := by decide +kernel
theorem dJ9_floorDiv_f86c9_22 : decode cJ9_floorDiv_f86c9 22 = .ok (.lload 4, 2) := by decide +kernel
theorem dJ9_floorDiv_f86c9_24 : decode cJ9_floorDiv_f86c9 24 = .ok (.lconst 1, 1) := by decide +kernel
theorem dJ9_floorDiv_f86c9_25 : decode cJ9_floorDiv_f86c9 25 = .ok (.lsub, 1) := by decide +kernel
theorem dJ9_floorDiv_f86c9_26 : decode cJ9_floorDiv_f86c9 26 = .ok (.lreturn, 1) := by decide +kernel
theorem dJ9_floorDiv_f86c9_27 : decode cJ9_floorDiv_f86c9 27 = .ok (.lload 4, 2) := by decide +kernel
theorem dJ9_floorDiv_f86c9_29 : decode cJ9_floorDiv_f86c9 29 = .ok (.lreturn, 1) := by decide +kernel
theorem dJ9_floorMod_7cf53_0 : decode cJ9_floorMod_7cf53 0 = .ok (.iload_n 0, 1) := by decide +kernel
theorem dJ9_floorMod_7cf53_1 : decode cJ9_floorMod_7cf53 1 = .ok (.iload_n 1, 1) := by decide +kernel
theorem dJ9_floorMod_7cf53_2 : decode cJ9_floorMod_7cf53 2 = .ok (.irem, 1) := by decide +kernel
theorem dJ9_floorMod_7cf53_3 : decode cJ9_floorMod_7cf53 3 = .ok (.istore_n 2, 1) := by decide +kernel
theorem dJ9_floorMod_7cf53_4 : decode cJ9_floorMod_7cf53 4 = .ok (.iload_n 0, 1) := by decide +kernel
theorem dJ9_floorMod_7cf53_5 : decode cJ9_floorMod_7cf53 5 = .ok (.iload_n 1, 1) := by decide +kernel
theorem dJ9_floorMod_7cf53_6 : decode cJ9_floorMod_7cf53 6 = .ok (.ixor, 1) := by decide +kernel
theorem dJ9_floorMod_7cf53_7 : decode cJ9_floorMod_7cf53 7 = .ok (.ifCond .ge 11, 3) := by decide +kernel
theorem dJ9_floorMod_7cf53_10 : decode cJ9_floorMod_7cf53 10 = .ok (.iload_n 2, 1) := by decide +kernel
theorem dJ9_floorMod_7cf53_11 : decode cJ9_floorMod_7cf53 11 = .ok (.ifCond .eq 7, 3) := by decide +kernel
theorem dJ9_floorMod_7cf53_14 : decode cJ9_floorMod_7cf53 14 = .ok (.iload_n 2, 1) := by decide +kernel
theorem dJ9_floorMod_7cf53_15 : decode cJ9_floorMod_7cf53 15 = .ok (.iload_n 1, 1) := by decide +kernel
theorem dJ9_floorMod_7cf53_16 : decode cJ9_floorMod_7cf53 16 = .ok (.iadd, 1) := by decide +kernel
theorem dJ9_floorMod_7cf53_17 : decode cJ9_floorMod_7cf53 17 = .ok (.ireturn, 1) := by decide +kernel
theorem dJ9_floorMod_7cf53_18 : decode cJ9_floorMod_7cf53 18 = .ok (.iload_n 2, 1) := by decide +kernel
theorem dJ9_floorMod_7cf53_19 : decode cJ9_floorMod_7cf53 19 = .ok (.ireturn, 1) := by decide +kernel
theorem dJ9_floorMod_f86c9_0 : decode cJ9_floorMod_f86c9 0 = .ok (.lload_n 0, 1) := by decide +kernel
theorem dJ9_floorMod_f86c9_1 : decode cJ9_floorMod_f86c9 1 = .ok (.lload_n 2, 1) := by decide +kernel
theorem dJ9_floorMod_f86c9_2 : decode cJ9_floorMod_f86c9 2 = .ok (.lrem, 1) := by decide +kernel
theorem dJ9_floorMod_f86c9_3 : decode cJ9_floorMod_f86c9 3 = .ok (.lstore 4, 2) := by decide +kernel
theorem dJ9_floorMod_f86c9_5 : decode cJ9_floorMod_f86c9 5 = .ok (.lload_n 0, 1) := by decide +kernel
theorem dJ9_floorMod_f86c9_6 : decode cJ9_floorMod_f86c9 6 = .ok (.lload_n 2, 1) := by decide +kernel
theorem dJ9_floorMod_f86c9_7 : decode cJ9_floorMod_f86c9 7 = .ok (.lxor, 1) := by decide +kernel
theorem dJ9_floorMod_f86c9_8 : decode cJ9_floorMod_f86c9 8 = .ok (.lconst 0, 1) := by decide +kernel
theorem dJ9_floorMod_f86c9_9 : decode cJ9_floorMod_f86c9 9 = .ok (.lcmp, 1) := by decide +kernel
theorem dJ9_floorMod_f86c9_10 : decode cJ9_floorMod_f86c9 10 = .ok (.ifCond .ge 15, 3) := by decide +kernel
theorem dJ9_floorMod_f86c9_13 : decode cJ9_floorMod_f86c9 13 = .ok (.lload 4, 2) := by decide +kernel
theorem dJ9_floorMod_f86c9_15 : decode cJ9_floorMod_f86c9 15 = .ok (.lconst 0, 1) := by decide +kernel
theorem dJ9_floorMod_f86c9_16 : decode cJ9_floorMod_f86c9 16 = .ok (.lcmp, 1) := by decide +kernel
theorem dJ9_floorMod_f86c9_17 : decode cJ9_floorMod_f86c9 17 = .ok (.ifCond .eq 8, 3) := by decide +kernel
theorem dJ9_floorMod_f86c9_20 : decode cJ9_floorMod_f86c9 20 = .ok (.lload 4, 2) := by decide +kernel
theorem dJ9_floorMod_f86c9_22 : decode cJ9_floorMod_f86c9 22 = .ok (.lload_n 2, 1) := by decide +kernel
theorem dJ9_floorMod_f86c9_23 : decode cJ9_floorMod_f86c9 23 = .ok (.ladd, 1) := by decide +kernel
theorem dJ9_floorMod_f86c9_24 : decode cJ9_floorMod_f86c9 24 = .ok (.lreturn, 1) := by decide +kernel
theorem dJ9_floorMod_f86c9_25 : decode cJ9_floorMod_f86c9 25 = .ok (.lload 4, 2) := by decide +kernel
theorem dJ9_floorMod_f86c9_27 : decode cJ9_floorMod_f86c9 27 = .ok (.lreturn, 1) := by decide +kernel
theorem dJ9_abs_067f4_0 : decode cJ9_abs_067f4 0 = .ok (.lload_n 0, 1) := by decide +kernel
theorem dJ9_abs_067f4_1 : decode cJ9_abs_067f4 1 = .ok (.lconst 0, 1) := by decide +kernel
theorem dJ9_abs_067f4_2 : decode cJ9_abs_067f4 2 = .ok (.lcmp, 1) := by decide +kernel
theorem dJ9_abs_067f4_3 : decode cJ9_abs_067f4 3 = .ok (.ifCond .ge 8, 3) := by decide +kernel
theorem dJ9_abs_067f4_6 : decode cJ9_abs_067f4 6 = .ok (.lload_n 0, 1) := by decide +kernel
theorem dJ9_abs_067f4_7 : decode cJ9_abs_067f4 7 = .ok (.lneg, 1) := by decide +kernel
theorem dJ9_abs_067f4_8 : decode cJ9_abs_067f4 8 = .ok (.goto 4, 3) := by decide +kernel
theorem dJ9_abs_067f4_11 : decode cJ9_abs_067f4 11 = .ok (.lload_n 0, 1) := by decide +kernel
theorem dJ9_abs_067f4_12 : decode cJ9_abs_067f4 12 = .ok (.lreturn, 1) := by decide +kernel
theorem dJ9_max_7cf53_0 : decode cJ9_max_7cf53 0 = .ok (.iload_n 0, 1) := by decide +kernel
theorem dJ9_max_7cf53_1 : decode cJ9_max_7cf53 1 = .ok (.iload_n 1, 1) := by decide +kernel
theorem dJ9_max_7cf53_2 : decode cJ9_max_7cf53 2 = .ok (.if_icmp .lt 7, 3) := by decide +kernel
theorem dJ9_max_7cf53_5 : decode cJ9_max_7cf53 5 = .ok (.iload_n 0, 1) := by decide +kernel
theorem dJ9_max_7cf53_6 : decode cJ9_max_7cf53 6 = .ok (.goto 4, 3) := by decide +kernel
theorem dJ9_max_7cf53_9 : decode cJ9_max_7cf53 9 = .ok (.iload_n 1, 1) := by decide +kernel
theorem dJ9_max_7cf53_10 : decode cJ9_max_7cf53 10 = .ok (.ireturn, 1) := by decide +kernel
theorem dJ9_min_7cf53_0 : decode cJ9_min_7cf53 0 = .ok (.iload_n 0, 1) := by decide +kernel
theorem dJ9_min_7cf53_1 : decode cJ9_min_7cf53 1 = .ok (.iload_n 1, 1) := by decide +kernel
theorem dJ9_min_7cf53_2 : decode cJ9_min_7cf53 2 = .ok (.if_icmp .gt 7, 3) := by decide +kernel
theorem dJ9_min_7cf53_5 : decode cJ9_min_7cf53 5 = .ok (.iload_n 0, 1) := by decide +kernel
theorem dJ9_min_7cf53_6 : decode cJ9_min_7cf53 6 = .ok (.goto 4, 3) := by decide +kernel
theorem dJ9_min_7cf53_9 : decode cJ9_min_7cf53 9 = .ok (.iload_n 1, 1) := by decide +kernel
theorem dJ9_min_7cf53_10 : decode cJ9_min_7cf53 10 = .ok (.ireturn, 1) := by decide +kernel
theorem dJxa1e45_init_da8c8_0 : decode cJxa1e45_init_da8c8 0 = .ok (.aload_n 0, 1) := by decide +kernel
theorem dJxa1e45_init_da8c8_1 : decode cJxa1e45_init_da8c8 1 = .ok (.invokespecial 1, 3) := by decide +kernel
theorem dJxa1e45_init_da8c8_4 : decode cJxa1e45_init_da8c8 4 = .ok (.return_, 1) := by decide +kernel
set_option maxRecDepth 20000 in
theorem ggJxc12de_init_da8c8_Jxa1e45_init_da8c8 : GoodIn wsJxc12de_init_da8c8 wsJxa1e45_init_da8c8 := goodIn_r _ [5, 6, 7, 8] (by decide +kernel) (by decide +kernel)
set_option maxRecDepth 20000 in
theorem gJxc12de_init_da8c8_Jxa1e45_init_da8c8 : GoodIn wsJxc12de_init_da8c8 (wsJxa1e45_init_da8c8) := ggJxc12de_init_da8c8_Jxa1e45_init_da8c8
theorem dJxc12de_init_da8c8_0 : decode cJxc12de_init_da8c8 0 = .ok (.aload_n 0, 1) := by decide +kernel
theorem dJxc12de_init_da8c8_1 : decode cJxc12de_init_da8c8 1 = .ok (.invokespecial 1, 3) := by decide +kernel
theorem dJxc12de_init_da8c8_4 : decode cJxc12de_init_da8c8 4 = .ok (.aload_n 0, 1) := by decide +kernel
theorem dJxc12de_init_da8c8_5 : decode cJxc12de_init_da8c8 5 = .ok (.iconst 0, 1) := by decide +kernel
theorem dJxc12de_init_da8c8_6 : decode cJxc12de_init_da8c8 6 = .ok (.putfield 7, 3) := by decide +kernel
theorem dJxc12de_init_da8c8_9 : decode cJxc12de_init_da8c8 9 = .ok (.return_, 1) := by decide +kernel
set_option maxRecDepth 20000 in
theorem ggJx4a65c_init_da8c8_Jxc12de_init_da8c8 : GoodIn wsJx4a65c_init_da8c8 wsJxc12de_init_da8c8 := goodIn_r _ [6, 7, 8, 9, 10, 11, 12, 13, 14, 15, 16, 17] (by decide +kernel) (by decide +kernel)
set_option maxRecDepth 20000 in
theorem gJx4a65c_init_da8c8_Jxc12de_init_da8c8 : GoodIn wsJx4a65c_init_da8c8 (wsJxc12de_init_da8c8) := ggJx4a65c_init_da8c8_Jxc12de_init_da8c8
theorem dJx4a65c_init_da8c8_0 : decode cJx4a65c_init_da8c8 0 = .ok (.aload_n 0, 1) := by decide +kernel
theorem dJx4a65c_init_da8c8_1 : decode cJx4a65c_init_da8c8 1 = .ok (.invokespecial 1, 3) := by decide +kernel
theorem dJx4a65c_init_da8c8_4 : decode cJx4a65c_init_da8c8 4 = .ok (.aload_n 0, 1) := by decide +kernel
theorem dJx4a65c_init_da8c8_5 : decode cJx4a65c_init_da8c8 5 = .ok (.getstatic 39, 3) := by decide +kernel
theorem dJx4a65c_init_da8c8_8 : decode cJx4a65c_init_da8c8 8 = .ok (.putfield 9, 3) := by decide +kernel
theorem dJx4a65c_init_da8c8_11 : decode cJx4a65c_init_da8c8 11 = .ok (.return_, 1) := by decide +kernel
set_option maxRecDepth 20000 in
theorem ggJx4a65c_grow_92f84_J8_newLength_cabcc : GoodIn wsJx4a65c_grow_92f84 wsJ8_newLength_cabcc := goodIn_r _ [11, 12, 4, 5, 6, 13, 14, 15, 10, 16] (by decide +kernel) (by decide +kernel)
set_option maxRecDepth 20000 in
theorem gJx4a65c_grow_92f84_J8_newLength_cabcc : GoodIn wsJx4a65c_grow_92f84 (va_wsS RJx4a65c 73 yJ8_newLength_cabcc wsJ8_newLength_cabcc) := goodIn_app (goodIn_of _ (by decide +kernel)) ggJx4a65c_grow_92f84_J8_newLength_cabcc
set_option maxRecDepth 20000 in
theorem ggJx4a65c_grow_92f84_J7_copyOf_1904c : GoodIn wsJx4a65c_grow_92f84 wsJ7_copyOf_1904c := goodIn_r _ [20, 21, 22, 23, 24, 25, 26, 19, 27, 28, 29, 30, 31, 5, 32, 33, 34, 35, 36] (by decide +kernel) (by decide +kernel)
set_option maxRecDepth 20000 in
theorem gJx4a65c_grow_92f84_J7_copyOf_1904c : GoodIn wsJx4a65c_grow_92f84 (va_wsS RJx4a65c 66 yJ7_copyOf_1904c wsJ7_copyOf_1904c) := goodIn_app (goodIn_of _ (by decide +kernel)) ggJx4a65c_grow_92f84_J7_copyOf_1904c
theorem dJx4a65c_grow_92f84_0 : decode cJx4a65c_grow_92f84 0 = .ok (.aload_n 0, 1) := by decide +kernel
theorem dJx4a65c_grow_92f84_1 : decode cJx4a65c_grow_92f84 1 = .ok (.getfield 9, 3) := by decide +kernel
theorem dJx4a65c_grow_92f84_4 : decode cJx4a65c_grow_92f84 4 = .ok (.arraylength, 1) := by decide +kernel
theorem dJx4a65c_grow_92f84_5 : decode cJx4a65c_grow_92f84 5 = .ok (.istore_n 2, 1) := by decide +kernel
theorem dJx4a65c_grow_92f84_6 : decode cJx4a65c_grow_92f84 6 = .ok (.iload_n 2, 1) := by decide +kernel
theorem dJx4a65c_grow_92f84_7 : decode cJx4a65c_grow_92f84 7 = .ok (.ifCond .gt 13, 3) := by decide +kernel
theorem dJx4a65c_grow_92f84_10 : decode cJx4a65c_grow_92f84 10 = .ok (.aload_n 0, 1) := by decide +kernel
theorem dJx4a65c_grow_92f84_11 : decode cJx4a65c_grow_92f84 11 = .ok (.getfield 9, 3) := by decide +kernel
theorem dJx4a65c_grow_92f84_14 : decode cJx4a65c_grow_92f84 14 = .ok (.getstatic 39, 3) := by decide +kernel
theorem dJx4a65c_grow_92f84_17 : decode cJx4a65c_grow_92f84 17 = .ok (.if_acmp .eq 28, 3) := by decide +kernel
theorem dJx4a65c_grow_92f84_20 : decode cJx4a65c_grow_92f84 20 = .ok (.iload_n 2, 1) := by decide +kernel
theorem dJx4a65c_grow_92f84_21 : decode cJx4a65c_grow_92f84 21 = .ok (.iload_n 1, 1) := by decide +kernel
theorem dJx4a65c_grow_92f84_22 : decode cJx4a65c_grow_92f84 22 = .ok (.iload_n 2, 1) := by decide +kernel
theorem dJx4a65c_grow_92f84_23 : decode cJx4a65c_grow_92f84 23 = .ok (.isub, 1) := by decide +kernel
theorem dJx4a65c_grow_92f84_24 : decode cJx4a65c_grow_92f84 24 = .ok (.iload_n 2, 1) := by decide +kernel
theorem dJx4a65c_grow_92f84_25 : decode cJx4a65c_grow_92f84 25 = .ok (.iconst 1, 1) := by decide +kernel
theorem dJx4a65c_grow_92f84_26 : decode cJx4a65c_grow_92f84 26 = .ok (.ishr, 1) := by decide +kernel
theorem dJx4a65c_grow_92f84_27 : decode cJx4a65c_grow_92f84 27 = .ok (.invokestatic 73, 3) := by decide +kernel
theorem dJx4a65c_grow_92f84_30 : decode cJx4a65c_grow_92f84 30 = .ok (.istore_n 3, 1) := by decide +kernel
theorem dJx4a65c_grow_92f84_31 : decode cJx4a65c_grow_92f84 31 = .ok (.aload_n 0, 1) := by decide +kernel
theorem dJx4a65c_grow_92f84_32 : decode cJx4a65c_grow_92f84 32 = .ok (.aload_n 0, 1) := by decide +kernel
theorem dJx4a65c_grow_92f84_33 : decode cJx4a65c_grow_92f84 33 = .ok (.getfield 9, 3) := by decide +kernel
theorem dJx4a65c_grow_92f84_36 : decode cJx4a65c_grow_92f84 36 = .ok (.iload_n 3, 1) := by decide +kernel
theorem dJx4a65c_grow_92f84_37 : decode cJx4a65c_grow_92f84 37 = .ok (.invokestatic 66, 3) := by decide +kernel
theorem dJx4a65c_grow_92f84_40 : decode cJx4a65c_grow_92f84 40 = .ok (.dup_x1, 1) := by decide +kernel
theorem dJx4a65c_grow_92f84_41 : decode cJx4a65c_grow_92f84 41 = .ok (.putfield 9, 3) := by decide +kernel
theorem dJx4a65c_grow_92f84_44 : decode cJx4a65c_grow_92f84 44 = .ok (.areturn, 1) := by decide +kernel
theorem dJx4a65c_grow_92f84_45 : decode cJx4a65c_grow_92f84 45 = .ok (.aload_n 0, 1) := by decide +kernel
theorem dJx4a65c_grow_92f84_46 : decode cJx4a65c_grow_92f84 46 = .ok (.bipush 10, 2) := by decide +kernel
theorem dJx4a65c_grow_92f84_48 : decode cJx4a65c_grow_92f84 48 = .ok (.iload_n 1, 1) := by decide +kernel
theorem dJx4a65c_grow_92f84_49 : decode cJx4a65c_grow_92f84 49 = .ok (.invokestatic 79, 3) := by decide +kernel
theorem dJx4a65c_grow_92f84_52 : decode cJx4a65c_grow_92f84 52 = .ok (.anewarray 7, 3) := by decide +kernel
theorem dJx4a65c_grow_92f84_55 : decode cJx4a65c_grow_92f84 55 = .ok (.dup_x1, 1) := by decide +kernel
theorem dJx4a65c_grow_92f84_56 : decode cJx4a65c_grow_92f84 56 = .ok (.putfield 9, 3) := by decide +kernel
theorem dJx4a65c_grow_92f84_59 : decode cJx4a65c_grow_92f84 59 = .ok (.areturn, 1) := by decide +kernel
set_option maxRecDepth 20000 in
theorem ggJx4a65c_grow_d5877_Jx4a65c_grow_92f84 : GoodIn wsJx4a65c_grow_d5877 wsJx4a65c_grow_92f84 := goodIn_r _ [6, 7, 8, 9, 10, 11, 12, 13, 14, 15, 16, 17, 18, 19, 20, 21, 22, 23, 24, 25, 26, 27, 28, 29, 30, 31, 32, 33, 34, 35, 36, 37, 38, 39, 40, 41, 42, 43, 44, 45] (by decide +kernel) (by decide +kernel)
set_option maxRecDepth 20000 in
theorem gJx4a65c_grow_d5877_Jx4a65c_grow_92f84 : GoodIn wsJx4a65c_grow_d5877 (wsV RJx4a65c 69 RJx4a65c yJx4a65c_grow_92f84 wsJx4a65c_grow_92f84) := goodIn_app (goodIn_of _ (by decide +kernel)) ggJx4a65c_grow_d5877_Jx4a65c_grow_92f84
theorem dJx4a65c_grow_d5877_0 : decode cJx4a65c_grow_d5877 0 = .ok (.aload_n 0, 1) := by decide +kernel
theorem dJx4a65c_grow_d5877_1 : decode cJx4a65c_grow_d5877 1 = .ok (.aload_n 0, 1) := by decide +kernel
theorem dJx4a65c_grow_d5877_2 : decode cJx4a65c_grow_d5877 2 = .ok (.getfield 48, 3) := by decide +kernel
theorem dJx4a65c_grow_d5877_5 : decode cJx4a65c_grow_d5877 5 = .ok (.iconst 1, 1) := by decide +kernel
theorem dJx4a65c_grow_d5877_6 : decode cJx4a65c_grow_d5877 6 = .ok (.iadd, 1) := by decide +kernel
theorem dJx4a65c_grow_d5877_7 : decode cJx4a65c_grow_d5877 7 = .ok (.invokevirtual 69, 3) := by decide +kernel
theorem dJx4a65c_grow_d5877_10 : decode cJx4a65c_grow_d5877 10 = .ok (.areturn, 1) := by decide +kernel
theorem dJx4a65c_size_8abf5_0 : decode cJx4a65c_size_8abf5 0 = .ok (.aload_n 0, 1) := by decide +kernel
theorem dJx4a65c_size_8abf5_1 : decode cJx4a65c_size_8abf5 1 = .ok (.getfield 48, 3) := by decide +kernel
theorem dJx4a65c_size_8abf5_4 : decode cJx4a65c_size_8abf5 4 = .ok (.ireturn, 1) := by decide +kernel
theorem dJx4a65c_elementData_915e3_0 : decode cJx4a65c_elementData_915e3 0 = .ok (.aload_n 0, 1) := by decide +kernel
theorem dJx4a65c_elementData_915e3_1 : decode cJx4a65c_elementData_915e3 1 = .ok (.getfield 9, 3) := by decide +kernel
theorem dJx4a65c_elementData_915e3_4 : decode cJx4a65c_elementData_915e3 4 = .ok (.iload_n 1, 1) := by decide +kernel
theorem dJx4a65c_elementData_915e3_5 : decode cJx4a65c_elementData_915e3 5 = .ok (.aaload, 1) := by decide +kernel
theorem dJx4a65c_elementData_915e3_6 : decode cJx4a65c_elementData_915e3 6 = .ok (.areturn, 1) := by decide +kernel
set_option maxRecDepth 20000 in
theorem ggJx4a65c_get_915e3_J15_checkIndex_7cf53 : GoodIn wsJx4a65c_get_915e3 wsJ15_checkIndex_7cf53 := goodIn_r _ [5, 6, 7, 8, 9] (by decide +kernel) (by decide +kernel)
set_option maxRecDepth 20000 in
theorem gJx4a65c_get_915e3_J15_checkIndex_7cf53 : GoodIn wsJx4a65c_get_915e3 (va_wsS RJx4a65c 118 yJ15_checkIndex_7cf53 wsJ15_checkIndex_7cf53) := goodIn_app (goodIn_of _ (by decide +kernel)) ggJx4a65c_get_915e3_J15_checkIndex_7cf53
set_option maxRecDepth 20000 in
theorem ggJx4a65c_get_915e3_Jx4a65c_elementData_915e3 : GoodIn wsJx4a65c_get_915e3 wsJx4a65c_elementData_915e3 := goodIn_r _ [14, 15, 16, 17, 18] (by decide +kernel) (by decide +kernel)
set_option maxRecDepth 20000 in
theorem gJx4a65c_get_915e3_Jx4a65c_elementData_915e3 : GoodIn wsJx4a65c_get_915e3 (wsV RJx4a65c 123 RJx4a65c yJx4a65c_elementData_915e3 wsJx4a65c_elementData_915e3) := goodIn_app (goodIn_of _ (by decide +kernel)) ggJx4a65c_get_915e3_Jx4a65c_elementData_915e3
theorem dJx4a65c_get_915e3_0 : decode cJx4a65c_get_915e3 0 = .ok (.iload_n 1, 1) := by decide +kernel
theorem dJx4a65c_get_915e3_1 : decode cJx4a65c_get_915e3 1 = .ok (.aload_n 0, 1) := by decide +kernel
theorem dJx4a65c_get_915e3_2 : decode cJx4a65c_get_915e3 2 = .ok (.getfield 48, 3) := by decide +kernel
theorem dJx4a65c_get_915e3_5 : decode cJx4a65c_get_915e3 5 = .ok (.invokestatic 118, 3) := by decide +kernel
theorem dJx4a65c_get_915e3_8 : decode cJx4a65c_get_915e3 8 = .ok (.pop, 1) := by decide +kernel
theorem dJx4a65c_get_915e3_9 : decode cJx4a65c_get_915e3 9 = .ok (.aload_n 0, 1) := by decide +kernel
theorem dJx4a65c_get_915e3_10 : decode cJx4a65c_get_915e3 10 = .ok (.iload_n 1, 1) := by decide +kernel
theorem dJx4a65c_get_915e3_11 : decode cJx4a65c_get_915e3 11 = .ok (.invokevirtual 123, 3) := by decide +kernel
theorem dJx4a65c_get_915e3_14 : decode cJx4a65c_get_915e3 14 = .ok (.areturn, 1) := by decide +kernel
set_option maxRecDepth 20000 in
theorem ggJx4a65c_set_bcc79_J15_checkIndex_7cf53 : GoodIn wsJx4a65c_set_bcc79 wsJ15_checkIndex_7cf53 := goodIn_r _ [6, 7, 8, 9, 10] (by decide +kernel) (by decide +kernel)
set_option maxRecDepth 20000 in
theorem gJx4a65c_set_bcc79_J15_checkIndex_7cf53 : GoodIn wsJx4a65c_set_bcc79 (va_wsS RJx4a65c 118 yJ15_checkIndex_7cf53 wsJ15_checkIndex_7cf53) := goodIn_app (goodIn_of _ (by decide +kernel)) ggJx4a65c_set_bcc79_J15_checkIndex_7cf53
set_option maxRecDepth 20000 in
theorem ggJx4a65c_set_bcc79_Jx4a65c_elementData_915e3 : GoodIn wsJx4a65c_set_bcc79 wsJx4a65c_elementData_915e3 := goodIn_r _ [15, 2, 16, 17, 18] (by decide +kernel) (by decide +kernel)
set_option maxRecDepth 20000 in
theorem gJx4a65c_set_bcc79_Jx4a65c_elementData_915e3 : GoodIn wsJx4a65c_set_bcc79 (wsV RJx4a65c 123 RJx4a65c yJx4a65c_elementData_915e3 wsJx4a65c_elementData_915e3) := goodIn_app (goodIn_of _ (by decide +kernel)) ggJx4a65c_set_bcc79_Jx4a65c_elementData_915e3
theorem dJx4a65c_set_bcc79_0 : decode cJx4a65c_set_bcc79 0 = .ok (.iload_n 1, 1) := by decide +kernel
theorem dJx4a65c_set_bcc79_1 : decode cJx4a65c_set_bcc79 1 = .ok (.aload_n 0, 1) := by decide +kernel
theorem dJx4a65c_set_bcc79_2 : decode cJx4a65c_set_bcc79 2 = .ok (.getfield 48, 3) := by decide +kernel
theorem dJx4a65c_set_bcc79_5 : decode cJx4a65c_set_bcc79 5 = .ok (.invokestatic 118, 3) := by decide +kernel
theorem dJx4a65c_set_bcc79_8 : decode cJx4a65c_set_bcc79 8 = .ok (.pop, 1) := by decide +kernel
theorem dJx4a65c_set_bcc79_9 : decode cJx4a65c_set_bcc79 9 = .ok (.aload_n 0, 1) := by decide +kernel
theorem dJx4a65c_set_bcc79_10 : decode cJx4a65c_set_bcc79 10 = .ok (.iload_n 1, 1) := by decide +kernel
theorem dJx4a65c_set_bcc79_11 : decode cJx4a65c_set_bcc79 11 = .ok (.invokevirtual 123, 3) := by decide +kernel
theorem dJx4a65c_set_bcc79_14 : decode cJx4a65c_set_bcc79 14 = .ok (.astore_n 3, 1) := by decide +kernel
theorem dJx4a65c_set_bcc79_15 : decode cJx4a65c_set_bcc79 15 = .ok (.aload_n 0, 1) := by decide +kernel
theorem dJx4a65c_set_bcc79_16 : decode cJx4a65c_set_bcc79 16 = .ok (.getfield 9, 3) := by decide +kernel
theorem dJx4a65c_set_bcc79_19 : decode cJx4a65c_set_bcc79 19 = .ok (.iload_n 1, 1) := by decide +kernel
theorem dJx4a65c_set_bcc79_20 : decode cJx4a65c_set_bcc79 20 = .ok (.aload_n 2, 1) := by decide +kernel
theorem dJx4a65c_set_bcc79_21 : decode cJx4a65c_set_bcc79 21 = .ok (.aastore, 1) := by decide +kernel
theorem dJx4a65c_set_bcc79_22 : decode cJx4a65c_set_bcc79 22 = .ok (.aload_n 3, 1) := by decide +kernel
theorem dJx4a65c_set_bcc79_23 : decode cJx4a65c_set_bcc79 23 = .ok (.areturn, 1) := by decide +kernel
set_option maxRecDepth 20000 in
theorem ggJx4a65c_add_72be8_Jx4a65c_grow_d5877 : GoodIn wsJx4a65c_add_72be8 wsJx4a65c_grow_d5877 := goodIn_r _ [6, 1, 7, 8, 9, 5, 10, 11, 12, 13, 14, 15, 16, 17, 18, 19, 20, 21, 22, 23, 24, 25, 26, 27, 28, 29, 30, 31, 32, 33, 34, 35, 36, 37, 38, 39, 40, 41, 42, 43, 44, 45, 46, 47, 48, 49] (by decide +kernel) (by decide +kernel)
set_option maxRecDepth 20000 in
theorem gJx4a65c_add_72be8_Jx4a65c_grow_d5877 : GoodIn wsJx4a65c_add_72be8 (wsV RJx4a65c 129 RJx4a65c yJx4a65c_grow_d5877 wsJx4a65c_grow_d5877) := goodIn_app (goodIn_of _ (by decide +kernel)) ggJx4a65c_add_72be8_Jx4a65c_grow_d5877
theorem dJx4a65c_add_72be8_0 : decode cJx4a65c_add_72be8 0 = .ok (.iload_n 3, 1) := by decide +kernel
theorem dJx4a65c_add_72be8_1 : decode cJx4a65c_add_72be8 1 = .ok (.aload_n 2, 1) := by decide +kernel
theorem dJx4a65c_add_72be8_2 : decode cJx4a65c_add_72be8 2 = .ok (.arraylength, 1) := by decide +kernel
theorem dJx4a65c_add_72be8_3 : decode cJx4a65c_add_72be8 3 = .ok (.if_icmp .ne 8, 3) := by decide +kernel
theorem dJx4a65c_add_72be8_6 : decode cJx4a65c_add_72be8 6 = .ok (.aload_n 0, 1) := by decide +kernel
theorem dJx4a65c_add_72be8_7 : decode cJx4a65c_add_72be8 7 = .ok (.invokevirtual 129, 3) := by decide +kernel
theorem dJx4a65c_add_72be8_10 : decode cJx4a65c_add_72be8 10 = .ok (.astore_n 2, 1) := by decide +kernel
theorem dJx4a65c_add_72be8_11 : decode cJx4a65c_add_72be8 11 = .ok (.aload_n 2, 1) := by decide +kernel
theorem dJx4a65c_add_72be8_12 : decode cJx4a65c_add_72be8 12 = .ok (.iload_n 3, 1) := by decide +kernel
theorem dJx4a65c_add_72be8_13 : decode cJx4a65c_add_72be8 13 = .ok (.aload_n 1, 1) := by decide +kernel
theorem dJx4a65c_add_72be8_14 : decode cJx4a65c_add_72be8 14 = .ok (.aastore, 1) := by decide +kernel
theorem dJx4a65c_add_72be8_15 : decode cJx4a65c_add_72be8 15 = .ok (.aload_n 0, 1) := by decide +kernel
theorem dJx4a65c_add_72be8_16 : decode cJx4a65c_add_72be8 16 = .ok (.iload_n 3, 1) := by decide +kernel
theorem dJx4a65c_add_72be8_17 : decode cJx4a65c_add_72be8 17 = .ok (.iconst 1, 1) := by decide +kernel
theorem dJx4a65c_add_72be8_18 : decode cJx4a65c_add_72be8 18 = .ok (.iadd, 1) := by decide +kernel
theorem dJx4a65c_add_72be8_19 : decode cJx4a65c_add_72be8 19 = .ok (.putfield 48, 3) := by decide +kernel
theorem dJx4a65c_add_72be8_22 : decode cJx4a65c_add_72be8 22 = .ok (.return_, 1) := by decide +kernel
set_option maxRecDepth 20000 in
theorem ggJx4a65c_add_9ea2d_Jx4a65c_add_72be8 : GoodIn wsJx4a65c_add_9ea2d wsJx4a65c_add_72be8 := goodIn_r _ [9, 4, 10, 11, 12, 8, 13, 14, 15, 16, 17, 3, 18, 19, 20, 21, 22, 23, 24, 25, 26, 27, 28, 29, 30, 31, 32, 33, 34, 35, 36, 37, 38, 39, 40, 41, 42, 43, 44, 45, 46, 47, 48, 49, 50, 51, 52, 53, 54, 55] (by decide +kernel) (by decide +kernel)
set_option maxRecDepth 20000 in
theorem gJx4a65c_add_9ea2d_Jx4a65c_add_72be8 : GoodIn wsJx4a65c_add_9ea2d (wsV RJx4a65c 131 RJx4a65c yJx4a65c_add_72be8 wsJx4a65c_add_72be8) := goodIn_app (goodIn_of _ (by decide +kernel)) ggJx4a65c_add_9ea2d_Jx4a65c_add_72be8
theorem dJx4a65c_add_9ea2d_0 : decode cJx4a65c_add_9ea2d 0 = .ok (.aload_n 0, 1) := by decide +kernel
theorem dJx4a65c_add_9ea2d_1 : decode cJx4a65c_add_9ea2d 1 = .ok (.dup, 1) := by decide +kernel
theorem dJx4a65c_add_9ea2d_2 : decode cJx4a65c_add_9ea2d 2 = .ok (.getfield 63, 3) := by decide +kernel
theorem dJx4a65c_add_9ea2d_5 : decode cJx4a65c_add_9ea2d 5 = .ok (.iconst 1, 1) := by decide +kernel
theorem dJx4a65c_add_9ea2d_6 : decode cJx4a65c_add_9ea2d 6 = .ok (.iadd, 1) := by decide +kernel
theorem dJx4a65c_add_9ea2d_7 : decode cJx4a65c_add_9ea2d 7 = .ok (.putfield 63, 3) := by decide +kernel
theorem dJx4a65c_add_9ea2d_10 : decode cJx4a65c_add_9ea2d 10 = .ok (.aload_n 0, 1) := by decide +kernel
theorem dJx4a65c_add_9ea2d_11 : decode cJx4a65c_add_9ea2d 11 = .ok (.aload_n 1, 1) := by decide +kernel
theorem dJx4a65c_add_9ea2d_12 : decode cJx4a65c_add_9ea2d 12 = .ok (.aload_n 0, 1) := by decide +kernel
theorem dJx4a65c_add_9ea2d_13 : decode cJx4a65c_add_9ea2d 13 = .ok (.getfield 9, 3) := by decide +kernel
theorem dJx4a65c_add_9ea2d_16 : decode cJx4a65c_add_9ea2d 16 = .ok (.aload_n 0, 1) := by decide +kernel
theorem dJx4a65c_add_9ea2d_17 : decode cJx4a65c_add_9ea2d 17 = .ok (.getfield 48, 3) := by decide +kernel
theorem dJx4a65c_add_9ea2d_20 : decode cJx4a65c_add_9ea2d 20 = .ok (.invokevirtual 131, 3) := by decide +kernel
theorem dJx4a65c_add_9ea2d_23 : decode cJx4a65c_add_9ea2d 23 = .ok (.iconst 1, 1) := by decide +kernel
theorem dJx4a65c_add_9ea2d_24 : decode cJx4a65c_add_9ea2d 24 = .ok (.ireturn, 1) := by decide +kernel
theorem dJx4a65c_clear_da8c8_0 : decode cJx4a65c_clear_da8c8 0 = .ok (.aload_n 0, 1) := by decide +kernel
theorem dJx4a65c_clear_da8c8_1 : decode cJx4a65c_clear_da8c8 1 = .ok (.dup, 1) := by decide +kernel
theorem dJx4a65c_clear_da8c8_2 : decode cJx4a65c_clear_da8c8 2 = .ok (.getfield 63, 3) := by decide +kernel
theorem dJx4a65c_clear_da8c8_5 : decode cJx4a65c_clear_da8c8 5 = .ok (.iconst 1, 1) := by decide +kernel
theorem dJx4a65c_clear_da8c8_6 : decode cJx4a65c_clear_da8c8 6 = .ok (.iadd, 1) := by decide +kernel
theorem dJx4a65c_clear_da8c8_7 : decode cJx4a65c_clear_da8c8 7 = .ok (.putfield 63, 3) := by decide +kernel
theorem dJx4a65c_clear_da8c8_10 : decode cJx4a65c_clear_da8c8 10 = .ok (.aload_n 0, 1) := by decide +kernel
theorem dJx4a65c_clear_da8c8_11 : decode cJx4a65c_clear_da8c8 11 = .ok (.getfield 9, 3) := by decide +kernel
theorem dJx4a65c_clear_da8c8_14 : decode cJx4a65c_clear_da8c8 14 = .ok (.astore_n 1, 1) := by decide +kernel
theorem dJx4a65c_clear_da8c8_15 : decode cJx4a65c_clear_da8c8 15 = .ok (.aload_n 0, 1) := by decide +kernel
theorem dJx4a65c_clear_da8c8_16 : decode cJx4a65c_clear_da8c8 16 = .ok (.getfield 48, 3) := by decide +kernel
theorem dJx4a65c_clear_da8c8_19 : decode cJx4a65c_clear_da8c8 19 = .ok (.istore_n 2, 1) := by decide +kernel
theorem dJx4a65c_clear_da8c8_20 : decode cJx4a65c_clear_da8c8 20 = .ok (.aload_n 0, 1) := by decide +kernel
theorem dJx4a65c_clear_da8c8_21 : decode cJx4a65c_clear_da8c8 21 = .ok (.iconst 0, 1) := by decide +kernel
theorem dJx4a65c_clear_da8c8_22 : decode cJx4a65c_clear_da8c8 22 = .ok (.dup_x1, 1) := by decide +kernel
theorem dJx4a65c_clear_da8c8_23 : decode cJx4a65c_clear_da8c8 23 = .ok (.putfield 48, 3) := by decide +kernel
theorem dJx4a65c_clear_da8c8_26 : decode cJx4a65c_clear_da8c8 26 = .ok (.istore_n 3, 1) := by decide +kernel
theorem dJx4a65c_clear_da8c8_27 : decode cJx4a65c_clear_da8c8 27 = .ok (.iload_n 3, 1) := by decide +kernel
theorem dJx4a65c_clear_da8c8_28 : decode cJx4a65c_clear_da8c8 28 = .ok (.iload_n 2, 1) := by decide +kernel
theorem dJx4a65c_clear_da8c8_29 : decode cJx4a65c_clear_da8c8 29 = .ok (.if_icmp .ge 13, 3) := by decide +kernel
theorem dJx4a65c_clear_da8c8_32 : decode cJx4a65c_clear_da8c8 32 = .ok (.aload_n 1, 1) := by decide +kernel
theorem dJx4a65c_clear_da8c8_33 : decode cJx4a65c_clear_da8c8 33 = .ok (.iload_n 3, 1) := by decide +kernel
theorem dJx4a65c_clear_da8c8_34 : decode cJx4a65c_clear_da8c8 34 = .ok (.aconst_null, 1) := by decide +kernel
theorem dJx4a65c_clear_da8c8_35 : decode cJx4a65c_clear_da8c8 35 = .ok (.aastore, 1) := by decide +kernel
theorem dJx4a65c_clear_da8c8_36 : decode cJx4a65c_clear_da8c8 36 = .ok (.iinc 3 1, 3) := by decide +kernel
theorem dJx4a65c_clear_da8c8_39 : decode cJx4a65c_clear_da8c8 39 = .ok (.goto (-12), 3) := by decide +kernel
theorem dJx4a65c_clear_da8c8_42 : decode cJx4a65c_clear_da8c8 42 = .ok (.return_, 1) := by decide +kernel
theorem dJ7_fill_d0a16_0 : decode cJ7_fill_d0a16 0 = .ok (.iconst 0, 1) := by decide +kernel
theorem dJ7_fill_d0a16_1 : decode cJ7_fill_d0a16 1 = .ok (.istore_n 3, 1) := by decide +kernel
theorem dJ7_fill_d0a16_2 : decode cJ7_fill_d0a16 2 = .ok (.aload_n 0, 1) := by decide +kernel
theorem dJ7_fill_d0a16_3 : decode cJ7_fill_d0a16 3 = .ok (.arraylength, 1) := by decide +kernel
theorem dJ7_fill_d0a16_4 : decode cJ7_fill_d0a16 4 = .ok (.istore 4, 2) := by decide +kernel
theorem dJ7_fill_d0a16_6 : decode cJ7_fill_d0a16 6 = .ok (.iload_n 3, 1) := by decide +kernel
theorem dJ7_fill_d0a16_7 : decode cJ7_fill_d0a16 7 = .ok (.iload 4, 2) := by decide +kernel
theorem dJ7_fill_d0a16_9 : decode cJ7_fill_d0a16 9 = .ok (.if_icmp .ge 13, 3) := by decide +kernel
theorem dJ7_fill_d0a16_12 : decode cJ7_fill_d0a16 12 = .ok (.aload_n 0, 1) := by decide +kernel
theorem dJ7_fill_d0a16_13 : decode cJ7_fill_d0a16 13 = .ok (.iload_n 3, 1) := by decide +kernel
theorem dJ7_fill_d0a16_14 : decode cJ7_fill_d0a16 14 = .ok (.lload_n 1, 1) := by decide +kernel
theorem dJ7_fill_d0a16_15 : decode cJ7_fill_d0a16 15 = .ok (.lastore, 1) := by decide +kernel
theorem dJ7_fill_d0a16_16 : decode cJ7_fill_d0a16 16 = .ok (.iinc 3 1, 3) := by decide +kernel
theorem dJ7_fill_d0a16_19 : decode cJ7_fill_d0a16 19 = .ok (.goto (-13), 3) := by decide +kernel
theorem dJ7_fill_d0a16_22 : decode cJ7_fill_d0a16 22 = .ok (.return_, 1) := by decide +kernel
theorem dJ7_fill_53178_0 : decode cJ7_fill_53178 0 = .ok (.iconst 0, 1) := by decide +kernel
theorem dJ7_fill_53178_1 : decode cJ7_fill_53178 1 = .ok (.istore_n 2, 1) := by decide +kernel
theorem dJ7_fill_53178_2 : decode cJ7_fill_53178 2 = .ok (.aload_n 0, 1) := by decide +kernel
theorem dJ7_fill_53178_3 : decode cJ7_fill_53178 3 = .ok (.arraylength, 1) := by decide +kernel
theorem dJ7_fill_53178_4 : decode cJ7_fill_53178 4 = .ok (.istore_n 3, 1) := by decide +kernel
theorem dJ7_fill_53178_5 : decode cJ7_fill_53178 5 = .ok (.iload_n 2, 1) := by decide +kernel
theorem dJ7_fill_53178_6 : decode cJ7_fill_53178 6 = .ok (.iload_n 3, 1) := by decide +kernel
theorem dJ7_fill_53178_7 : decode cJ7_fill_53178 7 = .ok (.if_icmp .ge 13, 3) := by decide +kernel
theorem dJ7_fill_53178_10 : decode cJ7_fill_53178 10 = .ok (.aload_n 0, 1) := by decide +kernel
theorem dJ7_fill_53178_11 : decode cJ7_fill_53178 11 = .ok (.iload_n 2, 1) := by decide +kernel
theorem dJ7_fill_53178_12 : decode cJ7_fill_53178 12 = .ok (.iload_n 1, 1) := by decide +kernel
theorem dJ7_fill_53178_13 : decode cJ7_fill_53178 13 = .ok (.iastore, 1) := by decide +kernel
theorem dJ7_fill_53178_14 : decode cJ7_fill_53178 14 = .ok (.iinc 2 1, 3) := by decide +kernel
theorem dJ7_fill_53178_17 : decode cJ7_fill_53178 17 = .ok (.goto (-12), 3) := by decide +kernel
theorem dJ7_fill_53178_20 : decode cJ7_fill_53178 20 = .ok (.return_, 1) := by decide +kernel
set_option maxRecDepth 20000 in
theorem ggJ7_copyOf_1904c_J7_copyOf_6403c : GoodIn wsJ7_copyOf_1904c wsJ7_copyOf_6403c := goodIn_r _ [8, 9, 10, 11, 12, 13, 14, 15, 16, 17, 18] (by decide +kernel) (by decide +kernel)
set_option maxRecDepth 20000 in
theorem gJ7_copyOf_1904c_J7_copyOf_6403c : GoodIn wsJ7_copyOf_1904c (va_wsS RJ7 300 yJ7_copyOf_6403c wsJ7_copyOf_6403c) := goodIn_app (goodIn_of _ (by decide +kernel)) ggJ7_copyOf_1904c_J7_copyOf_6403c
theorem dJ7_copyOf_1904c_0 : decode cJ7_copyOf_1904c 0 = .ok (.aload_n 0, 1) := by decide +kernel
theorem dJ7_copyOf_1904c_1 : decode cJ7_copyOf_1904c 1 = .ok (.iload_n 1, 1) := by decide +kernel
theorem dJ7_copyOf_1904c_2 : decode cJ7_copyOf_1904c 2 = .ok (.aload_n 0, 1) := by decide +kernel
theorem dJ7_copyOf_1904c_3 : decode cJ7_copyOf_1904c 3 = .ok (.invokevirtual 86, 3) := by decide +kernel
theorem dJ7_copyOf_1904c_6 : decode cJ7_copyOf_1904c 6 = .ok (.invokestatic 300, 3) := by decide +kernel
theorem dJ7_copyOf_1904c_9 : decode cJ7_copyOf_1904c 9 = .ok (.areturn, 1) := by decide +kernel
theorem dJ7_copyOf_6403c_0 : decode cJ7_copyOf_6403c 0 = .ok (.aload_n 2, 1) := by decide +kernel
theorem dJ7_copyOf_6403c_1 : decode cJ7_copyOf_6403c 1 = .ok (.ldc 110, 2) := by decide +kernel
theorem dJ7_copyOf_6403c_3 : decode cJ7_copyOf_6403c 3 = .ok (.if_acmp .ne 10, 3) := by decide +kernel
theorem dJ7_copyOf_6403c_6 : decode cJ7_copyOf_6403c 6 = .ok (.iload_n 1, 1) := by decide +kernel
theorem dJ7_copyOf_6403c_7 : decode cJ7_copyOf_6403c 7 = .ok (.anewarray 2, 3) := by decide +kernel
theorem dJ7_copyOf_6403c_10 : decode cJ7_copyOf_6403c 10 = .ok (.goto 14, 3) := by decide +kernel
theorem dJ7_copyOf_6403c_13 : decode cJ7_copyOf_6403c 13 = .ok (.aload_n 2, 1) := by decide +kernel
theorem dJ7_copyOf_6403c_14 : decode cJ7_copyOf_6403c 14 = .ok (.invokevirtual 90, 3) := by decide +kernel
theorem dJ7_copyOf_6403c_17 : decode cJ7_copyOf_6403c 17 = .ok (.iload_n 1, 1) := by decide +kernel
theorem dJ7_copyOf_6403c_18 : decode cJ7_copyOf_6403c 18 = .ok (.invokestatic 95, 3) := by decide +kernel
theorem dJ7_copyOf_6403c_21 : decode cJ7_copyOf_6403c 21 = .ok (.checkcast 110, 3) := by decide +kernel
theorem dJ7_copyOf_6403c_24 : decode cJ7_copyOf_6403c 24 = .ok (.astore_n 3, 1) := by decide +kernel
theorem dJ7_copyOf_6403c_25 : decode cJ7_copyOf_6403c 25 = .ok (.aload_n 0, 1) := by decide +kernel
theorem dJ7_copyOf_6403c_26 : decode cJ7_copyOf_6403c 26 = .ok (.iconst 0, 1) := by decide +kernel
theorem dJ7_copyOf_6403c_27 : decode cJ7_copyOf_6403c 27 = .ok (.aload_n 3, 1) := by decide +kernel
theorem dJ7_copyOf_6403c_28 : decode cJ7_copyOf_6403c 28 = .ok (.iconst 0, 1) := by decide +kernel
theorem dJ7_copyOf_6403c_29 : decode cJ7_copyOf_6403c 29 = .ok (.aload_n 0, 1) := by decide +kernel
theorem dJ7_copyOf_6403c_30 : decode cJ7_copyOf_6403c 30 = .ok (.arraylength, 1) := by decide +kernel
theorem dJ7_copyOf_6403c_31 : decode cJ7_copyOf_6403c 31 = .ok (.iload_n 1, 1) := by decide +kernel
theorem dJ7_copyOf_6403c_32 : decode cJ7_copyOf_6403c 32 = .ok (.invokestatic 304, 3) := by decide +kernel
theorem dJ7_copyOf_6403c_35 : decode cJ7_copyOf_6403c 35 = .ok (.invokestatic 150, 3) := by decide +kernel
theorem dJ7_copyOf_6403c_38 : decode cJ7_copyOf_6403c 38 = .ok (.aload_n 3, 1) := by decide +kernel
theorem dJ7_copyOf_6403c_39 : decode cJ7_copyOf_6403c 39 = .ok (.areturn, 1) := by decide +kernel
set_option maxRecDepth 20000 in
theorem ggJ15_checkIndex_7cf53_J3_checkIndex_8e157 : GoodIn wsJ15_checkIndex_7cf53 wsJ3_checkIndex_8e157 := goodIn_r _ [4] (by decide +kernel) (by decide +kernel)
set_option maxRecDepth 20000 in
theorem gJ15_checkIndex_7cf53_J3_checkIndex_8e157 : GoodIn wsJ15_checkIndex_7cf53 (va_wsS RJ15 105 yJ3_checkIndex_8e157 wsJ3_checkIndex_8e157) := goodIn_app (goodIn_of _ (by decide +kernel)) ggJ15_checkIndex_7cf53_J3_checkIndex_8e157
theorem dJ15_checkIndex_7cf53_0 : decode cJ15_checkIndex_7cf53 0 = .ok (.iload_n 0, 1) := by decide +kernel
theorem dJ15_checkIndex_7cf53_1 : decode cJ15_checkIndex_7cf53 1 = .ok (.iload_n 1, 1) := by decide +kernel
theorem dJ15_checkIndex_7cf53_2 : decode cJ15_checkIndex_7cf53 2 = .ok (.aconst_null, 1) := by decide +kernel
theorem dJ15_checkIndex_7cf53_3 : decode cJ15_checkIndex_7cf53 3 = .ok (.invokestatic 105, 3) := by decide +kernel
theorem dJ15_checkIndex_7cf53_6 : decode cJ15_checkIndex_7cf53 6 = .ok (.ireturn, 1) := by decide +kernel
set_option maxRecDepth 20000 in
theorem ggJ8_newLength_cabcc_J8_hugeLength_7cf53 : GoodIn wsJ8_newLength_cabcc wsJ8_hugeLength_7cf53 := goodIn_r _ [9, 5] (by decide +kernel) (by decide +kernel)
set_option maxRecDepth 20000 in
theorem gJ8_newLength_cabcc_J8_hugeLength_7cf53 : GoodIn wsJ8_newLength_cabcc (va_wsS RJ8 201 yJ8_hugeLength_7cf53 wsJ8_hugeLength_7cf53) := goodIn_app (goodIn_of _ (by decide +kernel)) ggJ8_newLength_cabcc_J8_hugeLength_7cf53
theorem dJ8_newLength_cabcc_0 : decode cJ8_newLength_cabcc 0 = .ok (.iload_n 0, 1) := by decide +kernel
theorem dJ8_newLength_cabcc_1 : decode cJ8_newLength_cabcc 1 = .ok (.iload_n 1, 1) := by decide +kernel
theorem dJ8_newLength_cabcc_2 : decode cJ8_newLength_cabcc 2 = .ok (.iload_n 2, 1) := by decide +kernel
theorem dJ8_newLength_cabcc_3 : decode cJ8_newLength_cabcc 3 = .ok (.invokestatic 194, 3) := by decide +kernel
theorem dJ8_newLength_cabcc_6 : decode cJ8_newLength_cabcc 6 = .ok (.iadd, 1) := by decide +kernel
theorem dJ8_newLength_cabcc_7 : decode cJ8_newLength_cabcc 7 = .ok (.istore_n 3, 1) := by decide +kernel
theorem dJ8_newLength_cabcc_8 : decode cJ8_newLength_cabcc 8 = .ok (.iconst 0, 1) := by decide +kernel
theorem dJ8_newLength_cabcc_9 : decode cJ8_newLength_cabcc 9 = .ok (.iload_n 3, 1) := by decide +kernel
theorem dJ8_newLength_cabcc_10 : decode cJ8_newLength_cabcc 10 = .ok (.if_icmp .ge 11, 3) := by decide +kernel
theorem dJ8_newLength_cabcc_13 : decode cJ8_newLength_cabcc 13 = .ok (.iload_n 3, 1) := by decide +kernel
theorem dJ8_newLength_cabcc_14 : decode cJ8_newLength_cabcc 14 = .ok (.ldc 200, 2) := by decide +kernel
theorem dJ8_newLength_cabcc_16 : decode cJ8_newLength_cabcc 16 = .ok (.if_icmp .gt 5, 3) := by decide +kernel
theorem dJ8_newLength_cabcc_19 : decode cJ8_newLength_cabcc 19 = .ok (.iload_n 3, 1) := by decide +kernel
theorem dJ8_newLength_cabcc_20 : decode cJ8_newLength_cabcc 20 = .ok (.ireturn, 1) := by decide +kernel
theorem dJ8_newLength_cabcc_21 : decode cJ8_newLength_cabcc 21 = .ok (.iload_n 0, 1) := by decide +kernel
theorem dJ8_newLength_cabcc_22 : decode cJ8_newLength_cabcc 22 = .ok (.iload_n 1, 1) := by decide +kernel
theorem dJ8_newLength_cabcc_23 : decode cJ8_newLength_cabcc 23 = .ok (.invokestatic 201, 3) := by decide +kernel
theorem dJ8_newLength_cabcc_26 : decode cJ8_newLength_cabcc 26 = .ok (.ireturn, 1) := by decide +kernel
theorem dJ8_hugeLength_7cf53_0 : decode cJ8_hugeLength_7cf53 0 = .ok (.iload_n 0, 1) := by decide +kernel
theorem dJ8_hugeLength_7cf53_1 : decode cJ8_hugeLength_7cf53 1 = .ok (.iload_n 1, 1) := by decide +kernel
theorem dJ8_hugeLength_7cf53_2 : decode cJ8_hugeLength_7cf53 2 = .ok (.iadd, 1) := by decide +kernel
theorem dJ8_hugeLength_7cf53_3 : decode cJ8_hugeLength_7cf53 3 = .ok (.istore_n 2, 1) := by decide +kernel
theorem dJ8_hugeLength_7cf53_4 : decode cJ8_hugeLength_7cf53 4 = .ok (.iload_n 2, 1) := by decide +kernel
theorem dJ8_hugeLength_7cf53_5 : decode cJ8_hugeLength_7cf53 5 = .ok (.ifCond .ge 44, 3) := by decide +kernel
theorem dJ8_hugeLength_7cf53_8 : decode cJ8_hugeLength_7cf53 8 = .ok (.new 204, 3) := by decide +kernel
theorem dJ8_hugeLength_7cf53_11 : decode cJ8_hugeLength_7cf53 11 = .ok (.dup, 1) := by decide +kernel
theorem dJ8_hugeLength_7cf53_12 : decode cJ8_hugeLength_7cf53 12 = .ok (.new 89, 3) := by decide +kernel
theorem dJ8_hugeLength_7cf53_15 : decode cJ8_hugeLength_7cf53 15 = .ok (.dup, 1) := by decide +kernel
theorem dJ8_hugeLength_7cf53_16 : decode cJ8_hugeLength_7cf53 16 = .ok (.invokespecial 91, 3) := by decide +kernel
theorem dJ8_hugeLength_7cf53_19 : decode cJ8_hugeLength_7cf53 19 = .ok (.ldc 206, 2) := by decide +kernel
theorem dJ8_hugeLength_7cf53_21 : decode cJ8_hugeLength_7cf53 21 = .ok (.invokevirtual 94, 3) := by decide +kernel
theorem dJ8_hugeLength_7cf53_24 : decode cJ8_hugeLength_7cf53 24 = .ok (.iload_n 0, 1) := by decide +kernel
theorem dJ8_hugeLength_7cf53_25 : decode cJ8_hugeLength_7cf53 25 = .ok (.invokevirtual 98, 3) := by decide +kernel
theorem dJ8_hugeLength_7cf53_28 : decode cJ8_hugeLength_7cf53 28 = .ok (.ldc 208, 2) := by decide +kernel
theorem dJ8_hugeLength_7cf53_30 : decode cJ8_hugeLength_7cf53 30 = .ok (.invokevirtual 94, 3) := by decide +kernel
theorem dJ8_hugeLength_7cf53_33 : decode cJ8_hugeLength_7cf53 33 = .ok (.iload_n 1, 1) := by decide +kernel
theorem dJ8_hugeLength_7cf53_34 : decode cJ8_hugeLength_7cf53 34 = .ok (.invokevirtual 98, 3) := by decide +kernel
theorem dJ8_hugeLength_7cf53_37 : decode cJ8_hugeLength_7cf53 37 = .ok (.ldc 210, 2) := by decide +kernel
theorem dJ8_hugeLength_7cf53_39 : decode cJ8_hugeLength_7cf53 39 = .ok (.invokevirtual 94, 3) := by decide +kernel
theorem dJ8_hugeLength_7cf53_42 : decode cJ8_hugeLength_7cf53 42 = .ok (.invokevirtual 101, 3) := by decide +kernel
theorem dJ8_hugeLength_7cf53_45 : decode cJ8_hugeLength_7cf53 45 = .ok (.invokespecial 212, 3) := by decide +kernel
theorem dJ8_hugeLength_7cf53_48 : decode cJ8_hugeLength_7cf53 48 = .ok (.athrow, 1) := by decide +kernel
theorem dJ8_hugeLength_7cf53_49 : decode cJ8_hugeLength_7cf53 49 = .ok (.iload_n 2, 1) := by decide +kernel
theorem dJ8_hugeLength_7cf53_50 : decode cJ8_hugeLength_7cf53 50 = .ok (.ldc 200, 2) := by decide +kernel
theorem dJ8_hugeLength_7cf53_52 : decode cJ8_hugeLength_7cf53 52 = .ok (.if_icmp .gt 6, 3) := by decide +kernel
theorem dJ8_hugeLength_7cf53_55 : decode cJ8_hugeLength_7cf53 55 = .ok (.ldc 200, 2) := by decide +kernel
theorem dJ8_hugeLength_7cf53_57 : decode cJ8_hugeLength_7cf53 57 = .ok (.ireturn, 1) := by decide +kernel
theorem dJ8_hugeLength_7cf53_58 : decode cJ8_hugeLength_7cf53 58 = .ok (.iload_n 2, 1) := by decide +kernel
theorem dJ8_hugeLength_7cf53_59 : decode cJ8_hugeLength_7cf53 59 = .ok (.ireturn, 1) := by decide +kernel
theorem dJ3_checkIndex_8e157_0 : decode cJ3_checkIndex_8e157 0 = .ok (.iload_n 0, 1) := by decide +kernel
theorem dJ3_checkIndex_8e157_1 : decode cJ3_checkIndex_8e157 1 = .ok (.ifCond .lt 8, 3) := by decide +kernel
theorem dJ3_checkIndex_8e157_4 : decode cJ3_checkIndex_8e157 4 = .ok (.iload_n 0, 1) := by decide +kernel
theorem dJ3_checkIndex_8e157_5 : decode cJ3_checkIndex_8e157 5 = .ok (.iload_n 1, 1) := by decide +kernel
theorem dJ3_checkIndex_8e157_6 : decode cJ3_checkIndex_8e157 6 = .ok (.if_icmp .lt 10, 3) := by decide +kernel
theorem dJ3_checkIndex_8e157_9 : decode cJ3_checkIndex_8e157 9 = .ok (.aload_n 2, 1) := by decide +kernel
theorem dJ3_checkIndex_8e157_10 : decode cJ3_checkIndex_8e157 10 = .ok (.iload_n 0, 1) := by decide +kernel
theorem dJ3_checkIndex_8e157_11 : decode cJ3_checkIndex_8e157 11 = .ok (.iload_n 1, 1) := by decide +kernel
theorem dJ3_checkIndex_8e157_12 : decode cJ3_checkIndex_8e157 12 = .ok (.invokestatic 95, 3) := by decide +kernel
theorem dJ3_checkIndex_8e157_15 : decode cJ3_checkIndex_8e157 15 = .ok (.athrow, 1) := by decide +kernel
theorem dJ3_checkIndex_8e157_16 : decode cJ3_checkIndex_8e157 16 = .ok (.iload_n 0, 1) := by decide +kernel
theorem dJ3_checkIndex_8e157_17 : decode cJ3_checkIndex_8e157 17 = .ok (.ireturn, 1) := by decide +kernel
set_option maxRecDepth 20000 in
theorem ggL_act_X8_split : GoodIn wsL_act wsX8_split := goodIn_ca (goodIn_ca (goodIn_r _ [11, 12, 13, 14, 15, 16, 17, 18, 19, 20, 21, 22, 23, 24, 25, 26, 27, 28, 29, 30, 31, 32, 33, 34, 35, 36, 37, 38, 39, 40, 41, 42, 43, 44, 45, 46, 545, 546, 547, 548, 549, 550, 551, 552, 553, 554, 555] (by decide +kernel) (by decide +kernel)) (goodIn_sub (fun _ h => List.mem_cons_of_mem _ (List.mem_append_left _ (List.mem_append_left _ (List.mem_append_right _ h)))) (by decide +kernel))) (goodIn_sub (fun _ h => List.mem_cons_of_mem _ (List.mem_append_left _ (List.mem_append_right _ h))) (by decide +kernel))
set_option maxRecDepth 20000 in
theorem gL_act_X8_split : GoodIn wsL_act (wsV RL 7 RX8 yX8_split wsX8_split) := goodIn_app (goodIn_of _ (by decide +kernel)) ggL_act_X8_split
set_option maxRecDepth 20000 in
theorem ggL_act_X8_flip : GoodIn wsL_act wsX8_flip := goodIn_ca (goodIn_ca (goodIn_r _ [50, 12, 13, 14, 15, 16, 51, 18, 52, 53, 25, 54, 55, 56, 57, 58, 59, 60, 61, 62, 63, 64, 46, 65, 66, 67, 68, 69, 70, 71, 72, 73, 74, 75, 76, 77, 78, 79, 21, 33, 42, 43, 44, 45, 34, 35, 36, 37, 38, 39, 40, 41, 545, 546, 547, 548, 549, 550, 551, 552, 553, 554, 555] (by decide +kernel) (by decide +kernel)) (goodIn_sub (fun _ h => List.mem_cons_of_mem _ (List.mem_append_left _ (List.mem_append_left _ (List.mem_append_right _ h)))) (by decide +kernel))) (goodIn_sub (fun _ h => List.mem_cons_of_mem _ (List.mem_append_left _ (List.mem_append_right _ h))) (by decide +kernel))
set_option maxRecDepth 20000 in
theorem gL_act_X8_flip : GoodIn wsL_act (wsV RL 13 RX8 yX8_flip wsX8_flip) := goodIn_app (goodIn_of _ (by decide +kernel)) ggL_act_X8_flip
set_option maxRecDepth 20000 in
theorem ggL_act_X8_corner : GoodIn wsL_act wsX8_corner := goodIn_ca (goodIn_r _ [83, 12, 13, 16, 17, 18, 19, 20, 21, 30, 31, 32, 33, 545, 546, 547, 548, 549, 550, 551, 552, 553, 554, 555] (by decide +kernel) (by decide +kernel)) (goodIn_sub (fun _ h => List.mem_cons_of_mem _ (List.mem_append_left _ (List.mem_append_left _ (List.mem_append_right _ h)))) (by decide +kernel))
set_option maxRecDepth 20000 in
theorem gL_act_X8_corner : GoodIn wsL_act (wsV RL 17 RX8 yX8_corner wsX8_corner) := goodIn_app (goodIn_of _ (by decide +kernel)) ggL_act_X8_corner
set_option maxRecDepth 20000 in
theorem ggL_act_X8_around : GoodIn wsL_act wsX8_around := goodIn_ca (goodIn_r _ [87, 12, 13, 16, 51, 18, 52, 53, 25, 88, 89, 90, 91, 92, 93, 94, 57, 58, 59, 60, 61, 62, 63, 64, 46, 65, 545, 546, 547, 548, 549, 550, 551, 552, 553, 554, 555] (by decide +kernel) (by decide +kernel)) (goodIn_sub (fun _ h => List.mem_cons_of_mem _ (List.mem_append_left _ (List.mem_append_left _ (List.mem_append_right _ h)))) (by decide +kernel))
set_option maxRecDepth 20000 in
theorem gL_act_X8_around : GoodIn wsL_act (wsV RL 20 RX8 yX8_around wsX8_around) := goodIn_app (goodIn_of _ (by decide +kernel)) ggL_act_X8_around
set_option maxRecDepth 20000 in
theorem ggL_act_X8_net : GoodIn wsL_act wsX8_net := goodIn_ca (goodIn_r _ [98, 12, 13, 16, 99, 18, 100, 101, 21, 102, 103, 104, 25, 105, 54, 55, 56, 57, 58, 59, 60, 61, 62, 63, 64, 46, 65, 51, 52, 53, 106, 107, 108, 73, 74, 71, 75, 109, 110, 111, 112, 33, 545, 546, 547, 548, 549, 550, 551, 552, 553, 554, 555] (by decide +kernel) (by decide +kernel)) (goodIn_sub (fun _ h => List.mem_cons_of_mem _ (List.mem_append_left _ (List.mem_append_left _ (List.mem_append_right _ h)))) (by decide +kernel))
set_option maxRecDepth 20000 in
theorem gL_act_X8_net : GoodIn wsL_act (wsV RL 23 RX8 yX8_net wsX8_net) := goodIn_app (goodIn_of _ (by decide +kernel)) ggL_act_X8_net
set_option maxRecDepth 20000 in
theorem ggL_act_X8_disk : GoodIn wsL_act wsX8_disk := goodIn_ca (goodIn_ca (goodIn_r _ [116, 117, 118, 14, 15, 119, 120, 121, 122, 123, 124, 10, 125, 126, 127, 128, 129, 130, 131, 132, 133, 134, 135, 136, 137, 138, 139, 140, 141, 142, 143, 144, 145, 146, 147, 148, 149, 150, 151, 152, 153, 154, 155, 156, 157, 158, 159, 160, 161, 162, 163, 164, 165, 74, 71, 75, 166, 167, 168, 169, 170, 171, 172, 173, 174, 175, 176, 177, 178, 179, 180, 181, 182, 183, 184, 185, 186, 187, 188, 189, 70, 72, 190, 191, 192, 193, 545, 546, 547, 548, 549, 550, 551, 556, 557, 558, 559, 560, 561] (by decide +kernel) (by decide +kernel)) (goodIn_sub (fun _ h => List.mem_cons_of_mem _ (List.mem_append_right _ h)) (by decide +kernel))) (goodIn_sub (fun _ h => List.mem_cons_of_mem _ (List.mem_append_left _ (List.mem_append_right _ h))) (by decide +kernel))
set_option maxRecDepth 20000 in
theorem gL_act_X8_disk : GoodIn wsL_act (wsV RL 26 RX8 yX8_disk wsX8_disk) := goodIn_app (goodIn_of _ (by decide +kernel)) ggL_act_X8_disk
set_option maxRecDepth 20000 in
theorem ggL_act_X8_move : GoodIn wsL_act wsX8_move := goodIn_ca (goodIn_ca (goodIn_r _ [197, 12, 13, 117, 118, 119, 198, 120, 121, 122, 199, 200, 201, 10, 202, 131, 132, 133, 134, 135, 136, 123, 124, 125, 126, 127, 128, 129, 130, 203, 204, 205, 206, 207, 208, 209, 210, 211, 212, 213, 214, 215, 216, 217, 218, 151, 137, 138, 139, 140, 141, 142, 143, 144, 219, 220, 221, 222, 545, 546, 547, 548, 549, 550, 551, 556, 557, 558, 559, 560, 561] (by decide +kernel) (by decide +kernel)) (goodIn_sub (fun _ h => List.mem_cons_of_mem _ (List.mem_append_left _ (List.mem_append_left _ (List.mem_append_right _ h)))) (by decide +kernel))) (goodIn_sub (fun _ h => List.mem_cons_of_mem _ (List.mem_append_right _ h)) (by decide +kernel))
set_option maxRecDepth 20000 in
theorem gL_act_X8_move : GoodIn wsL_act (wsV RL 30 RX8 yX8_move wsX8_move) := goodIn_app (goodIn_of _ (by decide +kernel)) ggL_act_X8_move
set_option maxRecDepth 20000 in
theorem ggL_act_X8_lie : GoodIn wsL_act wsX8_lie := goodIn_ca (goodIn_ca (goodIn_r _ [226, 12, 13, 117, 118, 199, 200, 201, 10, 202, 119, 131, 132, 133, 134, 135, 136, 227, 228, 229, 230, 198, 203, 204, 205, 206, 207, 208, 209, 210, 211, 212, 213, 214, 215, 216, 217, 218, 151, 231, 122, 232, 233, 142, 143, 144, 545, 546, 547, 548, 549, 550, 551, 559, 560, 561, 556, 557, 558] (by decide +kernel) (by decide +kernel)) (goodIn_sub (fun _ h => List.mem_cons_of_mem _ (List.mem_append_left _ (List.mem_append_left _ (List.mem_append_right _ h)))) (by decide +kernel))) (goodIn_sub (fun _ h => List.mem_cons_of_mem _ (List.mem_append_right _ h)) (by decide +kernel))
set_option maxRecDepth 20000 in
theorem gL_act_X8_lie : GoodIn wsL_act (wsV RL 34 RX8 yX8_lie wsX8_lie) := goodIn_app (goodIn_of _ (by decide +kernel)) ggL_act_X8_lie
set_option maxRecDepth 20000 in
theorem ggL_act_X8_pairs : GoodIn wsL_act wsX8_pairs := goodIn_ca (goodIn_r _ [237, 117, 118, 119, 131, 132, 133, 134, 135, 136, 227, 228, 229, 10, 230, 198, 199, 200, 201, 202, 203, 204, 205, 206, 207, 208, 209, 210, 211, 212, 213, 214, 215, 216, 217, 218, 151, 231, 122, 232, 233, 142, 143, 144, 545, 546, 547, 548, 549, 550, 551, 559, 560, 561, 556, 557, 558] (by decide +kernel) (by decide +kernel)) (goodIn_sub (fun _ h => List.mem_cons_of_mem _ (List.mem_append_right _ h)) (by decide +kernel))
set_option maxRecDepth 20000 in
theorem gL_act_X8_pairs : GoodIn wsL_act (wsV RL 37 RX8 yX8_pairs wsX8_pairs) := goodIn_app (goodIn_of _ (by decide +kernel)) ggL_act_X8_pairs
set_option maxRecDepth 20000 in
theorem ggL_act_X8_gasket : GoodIn wsL_act wsX8_gasket := goodIn_ca (goodIn_ca (goodIn_r _ [241, 117, 118, 14, 15, 242, 243, 244, 245, 246, 247, 248, 10, 249, 128, 129, 130, 250, 251, 252, 131, 132, 133, 134, 135, 136, 253, 254, 255, 140, 141, 256, 257, 258, 259, 260, 261, 262, 263, 264, 265, 266, 267, 268, 269, 270, 271, 272, 273, 274, 275, 276, 277, 278, 145, 146, 147, 148, 149, 150, 151, 152, 153, 154, 155, 156, 157, 158, 159, 160, 161, 162, 163, 164, 165, 74, 71, 75, 166, 167, 168, 169, 170, 171, 172, 173, 174, 175, 176, 177, 178, 179, 180, 181, 182, 183, 184, 185, 186, 187, 188, 189, 70, 72, 190, 191, 192, 193, 545, 546, 547, 548, 549, 550, 551, 562, 563, 564, 559, 560, 561] (by decide +kernel) (by decide +kernel)) (goodIn_sub (fun _ h => List.mem_cons_of_mem _ (List.mem_append_right _ h)) (by decide +kernel))) (goodIn_sub (fun _ h => List.mem_cons_of_mem _ (List.mem_append_left _ (List.mem_append_right _ h))) (by decide +kernel))
set_option maxRecDepth 20000 in
theorem gL_act_X8_gasket : GoodIn wsL_act (wsV RL 40 RX8 yX8_gasket wsX8_gasket) := goodIn_app (goodIn_of _ (by decide +kernel)) ggL_act_X8_gasket
set_option maxRecDepth 20000 in
theorem ggL_act_X8_turn : GoodIn wsL_act wsX8_turn := goodIn_ca (goodIn_ca (goodIn_r _ [282, 14, 15, 283, 284, 285, 286, 10, 287, 12, 13, 288, 289, 290, 291, 243, 292, 131, 132, 133, 134, 135, 136, 203, 204, 205, 206, 207, 208, 209, 210, 211, 212, 213, 214, 215, 216, 217, 218, 151, 274, 246, 275, 252, 562, 563, 564, 545, 546, 547, 548, 549, 550, 551, 559, 560, 561] (by decide +kernel) (by decide +kernel)) (goodIn_sub (fun _ h => List.mem_cons_of_mem _ (List.mem_append_left _ (List.mem_append_right _ h))) (by decide +kernel))) (goodIn_sub (fun _ h => List.mem_cons_of_mem _ (List.mem_append_left _ (List.mem_append_left _ (List.mem_append_right _ h)))) (by decide +kernel))
set_option maxRecDepth 20000 in
theorem gL_act_X8_turn : GoodIn wsL_act (wsV RL 43 RX8 yX8_turn wsX8_turn) := goodIn_app (goodIn_of _ (by decide +kernel)) ggL_act_X8_turn
set_option maxRecDepth 20000 in
theorem ggL_act_X8_curvature : GoodIn wsL_act wsX8_curvature := goodIn_ca (goodIn_r _ [296, 284, 285, 286, 10, 287, 12, 13, 288, 289, 290, 291, 243, 292, 131, 132, 133, 134, 135, 136, 203, 204, 205, 206, 207, 208, 209, 210, 211, 212, 213, 214, 215, 216, 217, 218, 151, 562, 563, 564, 545, 546, 547, 548, 549, 550, 551, 559, 560, 561] (by decide +kernel) (by decide +kernel)) (goodIn_sub (fun _ h => List.mem_cons_of_mem _ (List.mem_append_left _ (List.mem_append_left _ (List.mem_append_right _ h)))) (by decide +kernel))
set_option maxRecDepth 20000 in
theorem gL_act_X8_curvature : GoodIn wsL_act (wsV RL 47 RX8 yX8_curvature wsX8_curvature) := goodIn_app (goodIn_of _ (by decide +kernel)) ggL_act_X8_curvature
set_option maxRecDepth 20000 in
theorem ggL_act_X8_radius : GoodIn wsL_act wsX8_radius := goodIn_ca (goodIn_r _ [300, 284, 285, 286, 10, 287, 12, 13, 288, 289, 290, 291, 243, 292, 131, 132, 133, 134, 135, 136, 203, 204, 205, 206, 207, 208, 209, 210, 211, 212, 213, 214, 215, 216, 217, 218, 151, 562, 563, 564, 545, 546, 547, 548, 549, 550, 551, 559, 560, 561] (by decide +kernel) (by decide +kernel)) (goodIn_sub (fun _ h => List.mem_cons_of_mem _ (List.mem_append_left _ (List.mem_append_left _ (List.mem_append_right _ h)))) (by decide +kernel))
set_option maxRecDepth 20000 in
theorem gL_act_X8_radius : GoodIn wsL_act (wsV RL 50 RX8 yX8_radius wsX8_radius) := goodIn_app (goodIn_of _ (by decide +kernel)) ggL_act_X8_radius
set_option maxRecDepth 20000 in
theorem ggL_act_X8_root : GoodIn wsL_act wsX8_root := goodIn_ca (goodIn_r _ [304, 12, 13, 288, 289, 290, 10, 291, 243, 292, 131, 132, 133, 134, 135, 136, 203, 204, 205, 206, 207, 208, 209, 210, 211, 212, 213, 214, 215, 216, 217, 218, 151, 562, 563, 564, 545, 546, 547, 548, 549, 550, 551, 559, 560, 561] (by decide +kernel) (by decide +kernel)) (goodIn_sub (fun _ h => List.mem_cons_of_mem _ (List.mem_append_left _ (List.mem_append_left _ (List.mem_append_right _ h)))) (by decide +kernel))
set_option maxRecDepth 20000 in
theorem gL_act_X8_root : GoodIn wsL_act (wsV RL 54 RX8 yX8_root wsX8_root) := goodIn_app (goodIn_of _ (by decide +kernel)) ggL_act_X8_root
set_option maxRecDepth 20000 in
theorem ggL_act_X8_count : GoodIn wsL_act wsX8_count := goodIn_ca (goodIn_ca (goodIn_ca (goodIn_r _ [308, 309, 310, 311, 10, 312, 117, 118, 14, 15, 288, 289, 290, 291, 12, 13, 243, 292, 131, 132, 133, 134, 135, 136, 203, 204, 205, 206, 207, 208, 209, 210, 211, 212, 213, 214, 215, 216, 217, 218, 151, 313, 246, 314, 315, 257, 259, 316, 191, 192, 193, 317, 318, 319, 320, 321, 322, 323, 273, 274, 275, 252, 562, 563, 564, 545, 546, 547, 548, 549, 550, 551, 559, 560, 561] (by decide +kernel) (by decide +kernel)) (goodIn_sub (fun _ h => List.mem_cons_of_mem _ (List.mem_append_right _ h)) (by decide +kernel))) (goodIn_sub (fun _ h => List.mem_cons_of_mem _ (List.mem_append_left _ (List.mem_append_right _ h))) (by decide +kernel))) (goodIn_sub (fun _ h => List.mem_cons_of_mem _ (List.mem_append_left _ (List.mem_append_left _ (List.mem_append_right _ h)))) (by decide +kernel))
set_option maxRecDepth 20000 in
theorem gL_act_X8_count : GoodIn wsL_act (wsV RL 57 RX8 yX8_count wsX8_count) := goodIn_app (goodIn_of _ (by decide +kernel)) ggL_act_X8_count
set_option maxRecDepth 20000 in
theorem ggL_act_X8_countAnew : GoodIn wsL_act wsX8_countAnew := goodIn_ca (goodIn_ca (goodIn_ca (goodIn_r _ [327, 309, 310, 311, 10, 312, 117, 118, 14, 15, 288, 289, 290, 291, 12, 13, 243, 292, 131, 132, 133, 134, 135, 136, 203, 204, 205, 206, 207, 208, 209, 210, 211, 212, 213, 214, 215, 216, 217, 218, 151, 328, 246, 329, 330, 257, 317, 318, 319, 320, 331, 332, 333, 252, 334, 335, 336, 337, 338, 339, 340, 341, 342, 343, 344, 345, 562, 563, 564, 545, 546, 547, 548, 549, 550, 551, 559, 560, 561] (by decide +kernel) (by decide +kernel)) (goodIn_sub (fun _ h => List.mem_cons_of_mem _ (List.mem_append_right _ h)) (by decide +kernel))) (goodIn_sub (fun _ h => List.mem_cons_of_mem _ (List.mem_append_left _ (List.mem_append_right _ h))) (by decide +kernel))) (goodIn_sub (fun _ h => List.mem_cons_of_mem _ (List.mem_append_left _ (List.mem_append_left _ (List.mem_append_right _ h)))) (by decide +kernel))
set_option maxRecDepth 20000 in
theorem gL_act_X8_countAnew : GoodIn wsL_act (wsV RL 60 RX8 yX8_countAnew wsX8_countAnew) := goodIn_app (goodIn_of _ (by decide +kernel)) ggL_act_X8_countAnew
set_option maxRecDepth 20000 in
theorem ggL_act_X8_remainders : GoodIn wsL_act wsX8_remainders := goodIn_ca (goodIn_ca (goodIn_r _ [349, 117, 118, 350, 288, 289, 290, 10, 291, 12, 13, 243, 292, 131, 132, 133, 134, 135, 136, 203, 204, 205, 206, 207, 208, 209, 210, 211, 212, 213, 214, 215, 216, 217, 218, 151, 351, 352, 353, 354, 355, 356, 357, 358, 178, 359, 360, 361, 362, 363, 364, 365, 366, 367, 368, 369, 370, 371, 372, 373, 374, 375, 376, 339, 377, 378, 379, 343, 380, 345, 381, 382, 383, 384, 385, 386, 387, 388, 389, 545, 546, 547, 548, 549, 550, 551, 562, 563, 564, 559, 560, 561, 565, 566] (by decide +kernel) (by decide +kernel)) (goodIn_sub (fun _ h => List.mem_cons_of_mem _ (List.mem_append_right _ h)) (by decide +kernel))) (goodIn_sub (fun _ h => List.mem_cons_of_mem _ (List.mem_append_left _ (List.mem_append_left _ (List.mem_append_right _ h)))) (by decide +kernel))
set_option maxRecDepth 20000 in
theorem gL_act_X8_remainders : GoodIn wsL_act (wsV RL 63 RX8 yX8_remainders wsX8_remainders) := goodIn_app (goodIn_of _ (by decide +kernel)) ggL_act_X8_remainders
set_option maxRecDepth 20000 in
theorem ggL_act_X8_ford : GoodIn wsL_act wsX8_ford := goodIn_ca (goodIn_r _ [393, 394, 395, 396, 10, 397, 117, 118, 126, 127, 128, 129, 130, 398, 399, 400, 401, 402, 71, 403, 404, 405] (by decide +kernel) (by decide +kernel)) (goodIn_sub (fun _ h => List.mem_cons_of_mem _ (List.mem_append_right _ h)) (by decide +kernel))
set_option maxRecDepth 20000 in
theorem gL_act_X8_ford : GoodIn wsL_act (wsV RL 66 RX8 yX8_ford wsX8_ford) := goodIn_app (goodIn_of _ (by decide +kernel)) ggL_act_X8_ford
set_option maxRecDepth 20000 in
theorem ggL_act_X8_between : GoodIn wsL_act wsX8_between := goodIn_ca (goodIn_r _ [409, 117, 118, 395, 396, 10, 397, 126, 127, 128, 129, 130, 398, 399, 400, 401, 402, 71, 403, 404, 405, 410, 411, 412, 413, 365, 414] (by decide +kernel) (by decide +kernel)) (goodIn_sub (fun _ h => List.mem_cons_of_mem _ (List.mem_append_right _ h)) (by decide +kernel))
set_option maxRecDepth 20000 in
theorem gL_act_X8_between : GoodIn wsL_act (wsV RL 69 RX8 yX8_between wsX8_between) := goodIn_app (goodIn_of _ (by decide +kernel)) ggL_act_X8_between
set_option maxRecDepth 20000 in
theorem ggL_act_X8_tell : GoodIn wsL_act wsX8_tell := goodIn_ca (goodIn_ca (goodIn_r _ [418, 117, 118, 14, 15, 419, 420, 421, 422, 247, 248, 10, 249, 128, 129, 130, 131, 132, 133, 134, 135, 136, 423, 424, 425, 140, 141, 426, 427, 428, 429, 145, 146, 147, 148, 149, 150, 151, 152, 153, 154, 155, 156, 157, 158, 159, 160, 161, 162, 163, 164, 165, 74, 71, 75, 166, 167, 168, 169, 170, 171, 172, 173, 174, 175, 176, 177, 178, 179, 180, 181, 182, 183, 184, 185, 186, 187, 188, 189, 70, 72, 190, 191, 192, 193, 545, 546, 547, 548, 549, 550, 551, 567, 568, 569, 570, 559, 560, 561] (by decide +kernel) (by decide +kernel)) (goodIn_sub (fun _ h => List.mem_cons_of_mem _ (List.mem_append_right _ h)) (by decide +kernel))) (goodIn_sub (fun _ h => List.mem_cons_of_mem _ (List.mem_append_left _ (List.mem_append_right _ h))) (by decide +kernel))
set_option maxRecDepth 20000 in
theorem gL_act_X8_tell : GoodIn wsL_act (wsV RL 73 RX8 yX8_tell wsX8_tell) := goodIn_app (goodIn_of _ (by decide +kernel)) ggL_act_X8_tell
set_option maxRecDepth 20000 in
theorem ggL_act_X8_append : GoodIn wsL_act wsX8_append := goodIn_ca (goodIn_ca (goodIn_r _ [433, 12, 13, 14, 15, 419, 434, 435, 126, 131, 132, 133, 134, 135, 136, 203, 204, 205, 206, 207, 208, 209, 210, 211, 212, 213, 214, 215, 216, 217, 218, 151, 436, 422, 437, 438, 439, 421, 429, 427, 428, 426, 440, 423, 424, 425, 140, 141, 441, 442, 443, 444, 445, 446, 129, 10, 130, 447, 448, 449, 545, 546, 547, 548, 549, 550, 551, 559, 560, 561, 567, 568, 569, 570] (by decide +kernel) (by decide +kernel)) (goodIn_sub (fun _ h => List.mem_cons_of_mem _ (List.mem_append_left _ (List.mem_append_left _ (List.mem_append_right _ h)))) (by decide +kernel))) (goodIn_sub (fun _ h => List.mem_cons_of_mem _ (List.mem_append_left _ (List.mem_append_right _ h))) (by decide +kernel))
set_option maxRecDepth 20000 in
theorem gL_act_X8_append : GoodIn wsL_act (wsV RL 76 RX8 yX8_append wsX8_append) := goodIn_app (goodIn_of _ (by decide +kernel)) ggL_act_X8_append
set_option maxRecDepth 20000 in
theorem ggL_act_X8_word : GoodIn wsL_act wsX8_word := goodIn_ca (goodIn_r _ [453, 12, 13, 435, 454, 422, 455, 456, 427, 428, 426, 429, 457, 402, 71, 403, 458, 459, 447, 448, 449, 545, 546, 547, 548, 549, 550, 551, 567, 568, 569, 570] (by decide +kernel) (by decide +kernel)) (goodIn_sub (fun _ h => List.mem_cons_of_mem _ (List.mem_append_left _ (List.mem_append_left _ (List.mem_append_right _ h)))) (by decide +kernel))
set_option maxRecDepth 20000 in
theorem gL_act_X8_word : GoodIn wsL_act (wsV RL 80 RX8 yX8_word wsX8_word) := goodIn_app (goodIn_of _ (by decide +kernel)) ggL_act_X8_word
set_option maxRecDepth 20000 in
theorem ggL_act_X8_image : GoodIn wsL_act wsX8_image := goodIn_ca (goodIn_r _ [463, 117, 118, 126, 127, 435, 128, 129, 10, 130, 398, 399, 400, 401, 402, 71, 403, 545, 546, 547, 548, 549, 550, 551, 567, 568, 569, 570] (by decide +kernel) (by decide +kernel)) (goodIn_sub (fun _ h => List.mem_cons_of_mem _ (List.mem_append_right _ h)) (by decide +kernel))
set_option maxRecDepth 20000 in
theorem gL_act_X8_image : GoodIn wsL_act (wsV RL 83 RX8 yX8_image wsX8_image) := goodIn_app (goodIn_of _ (by decide +kernel)) ggL_act_X8_image
set_option maxRecDepth 20000 in
theorem ggL_act_X8_nodes : GoodIn wsL_act wsX8_nodes := goodIn_ca (goodIn_r _ [467, 117, 118, 468, 469, 470, 471, 472, 473, 474, 475, 476, 477, 134, 478, 149, 150, 151, 136, 545, 546, 547, 548, 549, 550, 551, 571, 572, 573, 559, 560, 561] (by decide +kernel) (by decide +kernel)) (goodIn_sub (fun _ h => List.mem_cons_of_mem _ (List.mem_append_right _ h)) (by decide +kernel))
set_option maxRecDepth 20000 in
theorem gL_act_X8_nodes : GoodIn wsL_act (wsV RL 87 RX8 yX8_nodes wsX8_nodes) := goodIn_app (goodIn_of _ (by decide +kernel)) ggL_act_X8_nodes
set_option maxRecDepth 20000 in
theorem ggL_act_X8_wire : GoodIn wsL_act wsX8_wire := goodIn_ca (goodIn_ca (goodIn_ca (goodIn_r _ [482, 12, 13, 117, 118, 14, 15, 468, 483, 484, 485, 486, 470, 487, 488, 473, 131, 132, 133, 134, 135, 136, 489, 490, 491, 140, 141, 492, 493, 145, 146, 147, 148, 149, 150, 151, 152, 153, 154, 155, 156, 157, 158, 159, 160, 161, 162, 163, 164, 165, 74, 71, 75, 166, 167, 168, 169, 170, 171, 172, 173, 174, 175, 176, 177, 178, 179, 180, 181, 182, 183, 184, 185, 186, 187, 188, 189, 70, 72, 190, 191, 192, 193, 545, 546, 547, 548, 549, 550, 551, 571, 572, 573, 574, 575, 559, 560, 561] (by decide +kernel) (by decide +kernel)) (goodIn_sub (fun _ h => List.mem_cons_of_mem _ (List.mem_append_left _ (List.mem_append_left _ (List.mem_append_right _ h)))) (by decide +kernel))) (goodIn_sub (fun _ h => List.mem_cons_of_mem _ (List.mem_append_right _ h)) (by decide +kernel))) (goodIn_sub (fun _ h => List.mem_cons_of_mem _ (List.mem_append_left _ (List.mem_append_right _ h))) (by decide +kernel))
set_option maxRecDepth 20000 in
theorem gL_act_X8_wire : GoodIn wsL_act (wsV RL 90 RX8 yX8_wire wsX8_wire) := goodIn_app (goodIn_of _ (by decide +kernel)) ggL_act_X8_wire
set_option maxRecDepth 20000 in
theorem ggL_act_X8_side : GoodIn wsL_act wsX8_side := goodIn_ca (goodIn_ca (goodIn_ca (goodIn_r _ [497, 12, 13, 117, 118, 14, 15, 468, 486, 470, 487, 488, 473, 498, 499, 500, 474, 501, 132, 133, 134, 135, 136, 502, 503, 504, 505, 506, 507, 508, 509, 510, 511, 512, 358, 178, 359, 513, 204, 205, 206, 207, 208, 209, 210, 211, 212, 213, 214, 215, 216, 217, 218, 151, 514, 515, 516, 517, 518, 519, 520, 521, 522, 523, 524, 525, 526, 527, 528, 529, 530, 531, 532, 533, 534, 535, 536, 537, 538, 539, 540, 541, 542, 543, 544, 545, 546, 547, 548, 549, 550, 551, 571, 572, 573, 559, 560, 561, 574, 575] (by decide +kernel) (by decide +kernel)) (goodIn_sub (fun _ h => List.mem_cons_of_mem _ (List.mem_append_left _ (List.mem_append_left _ (List.mem_append_right _ h)))) (by decide +kernel))) (goodIn_sub (fun _ h => List.mem_cons_of_mem _ (List.mem_append_right _ h)) (by decide +kernel))) (goodIn_sub (fun _ h => List.mem_cons_of_mem _ (List.mem_append_left _ (List.mem_append_right _ h))) (by decide +kernel))
set_option maxRecDepth 20000 in
theorem gL_act_X8_side : GoodIn wsL_act (wsV RL 93 RX8 yX8_side wsX8_side) := goodIn_app (goodIn_of _ (by decide +kernel)) ggL_act_X8_side
theorem dL_act_0 : decode cL_act 0 = .ok (.iload_n 1, 1) := by decide +kernel
theorem dL_act_1 : decode cL_act 1 = .ok (.ifCond .ne 12, 3) := by decide +kernel
theorem dL_act_4 : decode cL_act 4 = .ok (.aload_n 0, 1) := by decide +kernel
theorem dL_act_5 : decode cL_act 5 = .ok (.iload_n 2, 1) := by decide +kernel
theorem dL_act_6 : decode cL_act 6 = .ok (.invokevirtual 7, 3) := by decide +kernel
theorem dL_act_9 : decode cL_act 9 = .ok (.i2l, 1) := by decide +kernel
theorem dL_act_10 : decode cL_act 10 = .ok (.goto 425, 3) := by decide +kernel
theorem dL_act_13 : decode cL_act 13 = .ok (.iload_n 1, 1) := by decide +kernel
theorem dL_act_14 : decode cL_act 14 = .ok (.iconst 1, 1) := by decide +kernel
theorem dL_act_15 : decode cL_act 15 = .ok (.if_icmp .ne 13, 3) := by decide +kernel
theorem dL_act_18 : decode cL_act 18 = .ok (.aload_n 0, 1) := by decide +kernel
theorem dL_act_19 : decode cL_act 19 = .ok (.iload_n 2, 1) := by decide +kernel
theorem dL_act_20 : decode cL_act 20 = .ok (.iload_n 3, 1) := by decide +kernel
theorem dL_act_21 : decode cL_act 21 = .ok (.invokevirtual 13, 3) := by decide +kernel
theorem dL_act_24 : decode cL_act 24 = .ok (.i2l, 1) := by decide +kernel
theorem dL_act_25 : decode cL_act 25 = .ok (.goto 410, 3) := by decide +kernel
theorem dL_act_28 : decode cL_act 28 = .ok (.iload_n 1, 1) := by decide +kernel
theorem dL_act_29 : decode cL_act 29 = .ok (.iconst 2, 1) := by decide +kernel
theorem dL_act_30 : decode cL_act 30 = .ok (.if_icmp .ne 13, 3) := by decide +kernel
theorem dL_act_33 : decode cL_act 33 = .ok (.aload_n 0, 1) := by decide +kernel
theorem dL_act_34 : decode cL_act 34 = .ok (.iload_n 2, 1) := by decide +kernel
theorem dL_act_35 : decode cL_act 35 = .ok (.iload_n 3, 1) := by decide +kernel
theorem dL_act_36 : decode cL_act 36 = .ok (.invokevirtual 17, 3) := by decide +kernel
theorem dL_act_39 : decode cL_act 39 = .ok (.i2l, 1) := by decide +kernel
theorem dL_act_40 : decode cL_act 40 = .ok (.goto 395, 3) := by decide +kernel
theorem dL_act_43 : decode cL_act 43 = .ok (.iload_n 1, 1) := by decide +kernel
theorem dL_act_44 : decode cL_act 44 = .ok (.iconst 3, 1) := by decide +kernel
theorem dL_act_45 : decode cL_act 45 = .ok (.if_icmp .ne 13, 3) := by decide +kernel
theorem dL_act_48 : decode cL_act 48 = .ok (.aload_n 0, 1) := by decide +kernel
theorem dL_act_49 : decode cL_act 49 = .ok (.iload_n 2, 1) := by decide +kernel
theorem dL_act_50 : decode cL_act 50 = .ok (.iload_n 3, 1) := by decide +kernel
theorem dL_act_51 : decode cL_act 51 = .ok (.invokevirtual 20, 3) := by decide +kernel
theorem dL_act_54 : decode cL_act 54 = .ok (.i2l, 1) := by decide +kernel
theorem dL_act_55 : decode cL_act 55 = .ok (.goto 380, 3) := by decide +kernel
theorem dL_act_58 : decode cL_act 58 = .ok (.iload_n 1, 1) := by decide +kernel
theorem dL_act_59 : decode cL_act 59 = .ok (.iconst 4, 1) := by decide +kernel
theorem dL_act_60 : decode cL_act 60 = .ok (.if_icmp .ne 12, 3) := by decide +kernel
theorem dL_act_63 : decode cL_act 63 = .ok (.aload_n 0, 1) := by decide +kernel
theorem dL_act_64 : decode cL_act 64 = .ok (.iload_n 2, 1) := by decide +kernel
theorem dL_act_65 : decode cL_act 65 = .ok (.invokevirtual 23, 3) := by decide +kernel
theorem dL_act_68 : decode cL_act 68 = .ok (.i2l, 1) := by decide +kernel
theorem dL_act_69 : decode cL_act 69 = .ok (.goto 366, 3) := by decide +kernel
theorem dL_act_72 : decode cL_act 72 = .ok (.iload_n 1, 1) := by decide +kernel
theorem dL_act_73 : decode cL_act 73 = .ok (.iconst 5, 1) := by decide +kernel
theorem dL_act_74 : decode cL_act 74 = .ok (.if_icmp .ne 15, 3) := by decide +kernel
theorem dL_act_77 : decode cL_act 77 = .ok (.aload_n 0, 1) := by decide +kernel
theorem dL_act_78 : decode cL_act 78 = .ok (.iload_n 2, 1) := by decide +kernel
theorem dL_act_79 : decode cL_act 79 = .ok (.iload_n 3, 1) := by decide +kernel
theorem dL_act_80 : decode cL_act 80 = .ok (.iload 4, 2) := by decide +kernel
theorem dL_act_82 : decode cL_act 82 = .ok (.invokevirtual 26, 3) := by decide +kernel
theorem dL_act_85 : decode cL_act 85 = .ok (.i2l, 1) := by decide +kernel
theorem dL_act_86 : decode cL_act 86 = .ok (.goto 349, 3) := by decide +kernel
theorem dL_act_89 : decode cL_act 89 = .ok (.iload_n 1, 1) := by decide +kernel
theorem dL_act_90 : decode cL_act 90 = .ok (.bipush 6, 2) := by decide +kernel
theorem dL_act_92 : decode cL_act 92 = .ok (.if_icmp .ne 17, 3) := by decide +kernel
theorem dL_act_95 : decode cL_act 95 = .ok (.aload_n 0, 1) := by decide +kernel
theorem dL_act_96 : decode cL_act 96 = .ok (.iload_n 2, 1) := by decide +kernel
theorem dL_act_97 : decode cL_act 97 = .ok (.iload_n 3, 1) := by decide +kernel
theorem dL_act_98 : decode cL_act 98 = .ok (.iload 4, 2) := by decide +kernel
theorem dL_act_100 : decode cL_act 100 = .ok (.iload 5, 2) := by decide +kernel
theorem dL_act_102 : decode cL_act 102 = .ok (.invokevirtual 30, 3) := by decide +kernel
theorem dL_act_105 : decode cL_act 105 = .ok (.i2l, 1) := by decide +kernel
theorem dL_act_106 : decode cL_act 106 = .ok (.goto 329, 3) := by decide +kernel
theorem dL_act_109 : decode cL_act 109 = .ok (.iload_n 1, 1) := by decide +kernel
theorem dL_act_110 : decode cL_act 110 = .ok (.bipush 7, 2) := by decide +kernel
theorem dL_act_112 : decode cL_act 112 = .ok (.if_icmp .ne 13, 3) := by decide +kernel
theorem dL_act_115 : decode cL_act 115 = .ok (.aload_n 0, 1) := by decide +kernel
theorem dL_act_116 : decode cL_act 116 = .ok (.iload_n 2, 1) := by decide +kernel
theorem dL_act_117 : decode cL_act 117 = .ok (.iload_n 3, 1) := by decide +kernel
theorem dL_act_118 : decode cL_act 118 = .ok (.invokevirtual 34, 3) := by decide +kernel
theorem dL_act_121 : decode cL_act 121 = .ok (.i2l, 1) := by decide +kernel
theorem dL_act_122 : decode cL_act 122 = .ok (.goto 313, 3) := by decide +kernel
theorem dL_act_125 : decode cL_act 125 = .ok (.iload_n 1, 1) := by decide +kernel
theorem dL_act_126 : decode cL_act 126 = .ok (.bipush 8, 2) := by decide +kernel
theorem dL_act_128 : decode cL_act 128 = .ok (.if_icmp .ne 12, 3) := by decide +kernel
theorem dL_act_131 : decode cL_act 131 = .ok (.aload_n 0, 1) := by decide +kernel
theorem dL_act_132 : decode cL_act 132 = .ok (.iload_n 2, 1) := by decide +kernel
theorem dL_act_133 : decode cL_act 133 = .ok (.invokevirtual 37, 3) := by decide +kernel
theorem dL_act_136 : decode cL_act 136 = .ok (.i2l, 1) := by decide +kernel
theorem dL_act_137 : decode cL_act 137 = .ok (.goto 298, 3) := by decide +kernel
theorem dL_act_140 : decode cL_act 140 = .ok (.iload_n 1, 1) := by decide +kernel
theorem dL_act_141 : decode cL_act 141 = .ok (.bipush 9, 2) := by decide +kernel
theorem dL_act_143 : decode cL_act 143 = .ok (.if_icmp .ne 17, 3) := by decide +kernel
theorem dL_act_146 : decode cL_act 146 = .ok (.aload_n 0, 1) := by decide +kernel
theorem dL_act_147 : decode cL_act 147 = .ok (.iload_n 2, 1) := by decide +kernel
theorem dL_act_148 : decode cL_act 148 = .ok (.iload_n 3, 1) := by decide +kernel
theorem dL_act_149 : decode cL_act 149 = .ok (.iload 4, 2) := by decide +kernel
theorem dL_act_151 : decode cL_act 151 = .ok (.iload 5, 2) := by decide +kernel
theorem dL_act_153 : decode cL_act 153 = .ok (.invokevirtual 40, 3) := by decide +kernel
theorem dL_act_156 : decode cL_act 156 = .ok (.i2l, 1) := by decide +kernel
theorem dL_act_157 : decode cL_act 157 = .ok (.goto 278, 3) := by decide +kernel
theorem dL_act_160 : decode cL_act 160 = .ok (.iload_n 1, 1) := by decide +kernel
theorem dL_act_161 : decode cL_act 161 = .ok (.bipush 10, 2) := by decide +kernel
theorem dL_act_163 : decode cL_act 163 = .ok (.if_icmp .ne 12, 3) := by decide +kernel
theorem dL_act_166 : decode cL_act 166 = .ok (.aload_n 0, 1) := by decide +kernel
theorem dL_act_167 : decode cL_act 167 = .ok (.iload_n 2, 1) := by decide +kernel
theorem dL_act_168 : decode cL_act 168 = .ok (.iload_n 3, 1) := by decide +kernel
theorem dL_act_169 : decode cL_act 169 = .ok (.invokevirtual 43, 3) := by decide +kernel
theorem dL_act_172 : decode cL_act 172 = .ok (.goto 263, 3) := by decide +kernel
theorem dL_act_175 : decode cL_act 175 = .ok (.iload_n 1, 1) := by decide +kernel
theorem dL_act_176 : decode cL_act 176 = .ok (.bipush 11, 2) := by decide +kernel
theorem dL_act_178 : decode cL_act 178 = .ok (.if_icmp .ne 12, 3) := by decide +kernel
theorem dL_act_181 : decode cL_act 181 = .ok (.aload_n 0, 1) := by decide +kernel
theorem dL_act_182 : decode cL_act 182 = .ok (.iload_n 2, 1) := by decide +kernel
theorem dL_act_183 : decode cL_act 183 = .ok (.iload_n 3, 1) := by decide +kernel
theorem dL_act_184 : decode cL_act 184 = .ok (.invokevirtual 47, 3) := by decide +kernel
theorem dL_act_187 : decode cL_act 187 = .ok (.goto 248, 3) := by decide +kernel
theorem dL_act_190 : decode cL_act 190 = .ok (.iload_n 1, 1) := by decide +kernel
theorem dL_act_191 : decode cL_act 191 = .ok (.bipush 12, 2) := by decide +kernel
theorem dL_act_193 : decode cL_act 193 = .ok (.if_icmp .ne 13, 3) := by decide +kernel
theorem dL_act_196 : decode cL_act 196 = .ok (.aload_n 0, 1) := by decide +kernel
theorem dL_act_197 : decode cL_act 197 = .ok (.iload_n 2, 1) := by decide +kernel
theorem dL_act_198 : decode cL_act 198 = .ok (.iload_n 3, 1) := by decide +kernel
theorem dL_act_199 : decode cL_act 199 = .ok (.invokevirtual 50, 3) := by decide +kernel
theorem dL_act_202 : decode cL_act 202 = .ok (.f2l, 1) := by decide +kernel
theorem dL_act_203 : decode cL_act 203 = .ok (.goto 232, 3) := by decide +kernel
theorem dL_act_206 : decode cL_act 206 = .ok (.iload_n 1, 1) := by decide +kernel
theorem dL_act_207 : decode cL_act 207 = .ok (.bipush 13, 2) := by decide +kernel
theorem dL_act_209 : decode cL_act 209 = .ok (.if_icmp .ne 12, 3) := by decide +kernel
theorem dL_act_212 : decode cL_act 212 = .ok (.aload_n 0, 1) := by decide +kernel
theorem dL_act_213 : decode cL_act 213 = .ok (.iload_n 2, 1) := by decide +kernel
theorem dL_act_214 : decode cL_act 214 = .ok (.iload_n 3, 1) := by decide +kernel
theorem dL_act_215 : decode cL_act 215 = .ok (.invokevirtual 54, 3) := by decide +kernel
theorem dL_act_218 : decode cL_act 218 = .ok (.goto 217, 3) := by decide +kernel
theorem dL_act_221 : decode cL_act 221 = .ok (.iload_n 1, 1) := by decide +kernel
theorem dL_act_222 : decode cL_act 222 = .ok (.bipush 14, 2) := by decide +kernel
theorem dL_act_224 : decode cL_act 224 = .ok (.if_icmp .ne 13, 3) := by decide +kernel
theorem dL_act_227 : decode cL_act 227 = .ok (.aload_n 0, 1) := by decide +kernel
theorem dL_act_228 : decode cL_act 228 = .ok (.iload_n 2, 1) := by decide +kernel
theorem dL_act_229 : decode cL_act 229 = .ok (.iload_n 3, 1) := by decide +kernel
theorem dL_act_230 : decode cL_act 230 = .ok (.invokevirtual 57, 3) := by decide +kernel
theorem dL_act_233 : decode cL_act 233 = .ok (.i2l, 1) := by decide +kernel
theorem dL_act_234 : decode cL_act 234 = .ok (.goto 201, 3) := by decide +kernel
theorem dL_act_237 : decode cL_act 237 = .ok (.iload_n 1, 1) := by decide +kernel
theorem dL_act_238 : decode cL_act 238 = .ok (.bipush 15, 2) := by decide +kernel
theorem dL_act_240 : decode cL_act 240 = .ok (.if_icmp .ne 13, 3) := by decide +kernel
theorem dL_act_243 : decode cL_act 243 = .ok (.aload_n 0, 1) := by decide +kernel
theorem dL_act_244 : decode cL_act 244 = .ok (.iload_n 2, 1) := by decide +kernel
theorem dL_act_245 : decode cL_act 245 = .ok (.iload_n 3, 1) := by decide +kernel
theorem dL_act_246 : decode cL_act 246 = .ok (.invokevirtual 60, 3) := by decide +kernel
theorem dL_act_249 : decode cL_act 249 = .ok (.i2l, 1) := by decide +kernel
theorem dL_act_250 : decode cL_act 250 = .ok (.goto 185, 3) := by decide +kernel
theorem dL_act_253 : decode cL_act 253 = .ok (.iload_n 1, 1) := by decide +kernel
theorem dL_act_254 : decode cL_act 254 = .ok (.bipush 16, 2) := by decide +kernel
theorem dL_act_256 : decode cL_act 256 = .ok (.if_icmp .ne 13, 3) := by decide +kernel
theorem dL_act_259 : decode cL_act 259 = .ok (.aload_n 0, 1) := by decide +kernel
theorem dL_act_260 : decode cL_act 260 = .ok (.iload_n 2, 1) := by decide +kernel
theorem dL_act_261 : decode cL_act 261 = .ok (.iload_n 3, 1) := by decide +kernel
theorem dL_act_262 : decode cL_act 262 = .ok (.invokevirtual 63, 3) := by decide +kernel
theorem dL_act_265 : decode cL_act 265 = .ok (.i2l, 1) := by decide +kernel
theorem dL_act_266 : decode cL_act 266 = .ok (.goto 169, 3) := by decide +kernel
theorem dL_act_269 : decode cL_act 269 = .ok (.iload_n 1, 1) := by decide +kernel
theorem dL_act_270 : decode cL_act 270 = .ok (.bipush 17, 2) := by decide +kernel
theorem dL_act_272 : decode cL_act 272 = .ok (.if_icmp .ne 17, 3) := by decide +kernel
theorem dL_act_275 : decode cL_act 275 = .ok (.aload_n 0, 1) := by decide +kernel
theorem dL_act_276 : decode cL_act 276 = .ok (.iload_n 2, 1) := by decide +kernel
theorem dL_act_277 : decode cL_act 277 = .ok (.iload_n 3, 1) := by decide +kernel
theorem dL_act_278 : decode cL_act 278 = .ok (.iload 4, 2) := by decide +kernel
theorem dL_act_280 : decode cL_act 280 = .ok (.iload 5, 2) := by decide +kernel
theorem dL_act_282 : decode cL_act 282 = .ok (.invokevirtual 66, 3) := by decide +kernel
theorem dL_act_285 : decode cL_act 285 = .ok (.i2l, 1) := by decide +kernel
theorem dL_act_286 : decode cL_act 286 = .ok (.goto 149, 3) := by decide +kernel
theorem dL_act_289 : decode cL_act 289 = .ok (.iload_n 1, 1) := by decide +kernel
theorem dL_act_290 : decode cL_act 290 = .ok (.bipush 18, 2) := by decide +kernel
theorem dL_act_292 : decode cL_act 292 = .ok (.if_icmp .ne 17, 3) := by decide +kernel
theorem dL_act_295 : decode cL_act 295 = .ok (.aload_n 0, 1) := by decide +kernel
theorem dL_act_296 : decode cL_act 296 = .ok (.iload_n 2, 1) := by decide +kernel
theorem dL_act_297 : decode cL_act 297 = .ok (.iload_n 3, 1) := by decide +kernel
theorem dL_act_298 : decode cL_act 298 = .ok (.iload 4, 2) := by decide +kernel
theorem dL_act_300 : decode cL_act 300 = .ok (.iload 5, 2) := by decide +kernel
theorem dL_act_302 : decode cL_act 302 = .ok (.iconst 1, 1) := by decide +kernel
theorem dL_act_303 : decode cL_act 303 = .ok (.invokevirtual 69, 3) := by decide +kernel
theorem dL_act_306 : decode cL_act 306 = .ok (.goto 129, 3) := by decide +kernel
theorem dL_act_309 : decode cL_act 309 = .ok (.iload_n 1, 1) := by decide +kernel
theorem dL_act_310 : decode cL_act 310 = .ok (.bipush 19, 2) := by decide +kernel
theorem dL_act_312 : decode cL_act 312 = .ok (.if_icmp .ne 17, 3) := by decide +kernel
theorem dL_act_315 : decode cL_act 315 = .ok (.aload_n 0, 1) := by decide +kernel
theorem dL_act_316 : decode cL_act 316 = .ok (.iload_n 2, 1) := by decide +kernel
theorem dL_act_317 : decode cL_act 317 = .ok (.iload_n 3, 1) := by decide +kernel
theorem dL_act_318 : decode cL_act 318 = .ok (.iload 4, 2) := by decide +kernel
theorem dL_act_320 : decode cL_act 320 = .ok (.iload 5, 2) := by decide +kernel
theorem dL_act_322 : decode cL_act 322 = .ok (.invokevirtual 73, 3) := by decide +kernel
theorem dL_act_325 : decode cL_act 325 = .ok (.i2l, 1) := by decide +kernel
theorem dL_act_326 : decode cL_act 326 = .ok (.goto 109, 3) := by decide +kernel
theorem dL_act_329 : decode cL_act 329 = .ok (.iload_n 1, 1) := by decide +kernel
theorem dL_act_330 : decode cL_act 330 = .ok (.bipush 20, 2) := by decide +kernel
theorem dL_act_332 : decode cL_act 332 = .ok (.if_icmp .ne 22, 3) := by decide +kernel
theorem dL_act_335 : decode cL_act 335 = .ok (.aload_n 0, 1) := by decide +kernel
theorem dL_act_336 : decode cL_act 336 = .ok (.iload_n 2, 1) := by decide +kernel
theorem dL_act_337 : decode cL_act 337 = .ok (.iload_n 3, 1) := by decide +kernel
theorem dL_act_338 : decode cL_act 338 = .ok (.iconst 1, 1) := by decide +kernel
theorem dL_act_339 : decode cL_act 339 = .ok (.if_icmp .ne 7, 3) := by decide +kernel
theorem dL_act_342 : decode cL_act 342 = .ok (.iconst 1, 1) := by decide +kernel
theorem dL_act_343 : decode cL_act 343 = .ok (.goto 4, 3) := by decide +kernel
theorem dL_act_346 : decode cL_act 346 = .ok (.iconst 0, 1) := by decide +kernel
theorem dL_act_347 : decode cL_act 347 = .ok (.invokevirtual 76, 3) := by decide +kernel
theorem dL_act_350 : decode cL_act 350 = .ok (.i2l, 1) := by decide +kernel
theorem dL_act_351 : decode cL_act 351 = .ok (.goto 84, 3) := by decide +kernel
theorem dL_act_354 : decode cL_act 354 = .ok (.iload_n 1, 1) := by decide +kernel
theorem dL_act_355 : decode cL_act 355 = .ok (.bipush 21, 2) := by decide +kernel
theorem dL_act_357 : decode cL_act 357 = .ok (.if_icmp .ne 12, 3) := by decide +kernel
theorem dL_act_360 : decode cL_act 360 = .ok (.aload_n 0, 1) := by decide +kernel
theorem dL_act_361 : decode cL_act 361 = .ok (.iload_n 2, 1) := by decide +kernel
theorem dL_act_362 : decode cL_act 362 = .ok (.invokevirtual 80, 3) := by decide +kernel
theorem dL_act_365 : decode cL_act 365 = .ok (.i2l, 1) := by decide +kernel
theorem dL_act_366 : decode cL_act 366 = .ok (.goto 69, 3) := by decide +kernel
theorem dL_act_369 : decode cL_act 369 = .ok (.iload_n 1, 1) := by decide +kernel
theorem dL_act_370 : decode cL_act 370 = .ok (.bipush 22, 2) := by decide +kernel
theorem dL_act_372 : decode cL_act 372 = .ok (.if_icmp .ne 23, 3) := by decide +kernel
theorem dL_act_375 : decode cL_act 375 = .ok (.aload_n 0, 1) := by decide +kernel
theorem dL_act_376 : decode cL_act 376 = .ok (.iload_n 2, 1) := by decide +kernel
theorem dL_act_377 : decode cL_act 377 = .ok (.iload_n 3, 1) := by decide +kernel
theorem dL_act_378 : decode cL_act 378 = .ok (.iload 4, 2) := by decide +kernel
theorem dL_act_380 : decode cL_act 380 = .ok (.iconst 1, 1) := by decide +kernel
theorem dL_act_381 : decode cL_act 381 = .ok (.if_icmp .ne 7, 3) := by decide +kernel
theorem dL_act_384 : decode cL_act 384 = .ok (.iconst 1, 1) := by decide +kernel
theorem dL_act_385 : decode cL_act 385 = .ok (.goto 4, 3) := by decide +kernel
theorem dL_act_388 : decode cL_act 388 = .ok (.iconst 0, 1) := by decide +kernel
theorem dL_act_389 : decode cL_act 389 = .ok (.invokevirtual 83, 3) := by decide +kernel
theorem dL_act_392 : decode cL_act 392 = .ok (.goto 43, 3) := by decide +kernel
theorem dL_act_395 : decode cL_act 395 = .ok (.iload_n 1, 1) := by decide +kernel
theorem dL_act_396 : decode cL_act 396 = .ok (.bipush 23, 2) := by decide +kernel
theorem dL_act_398 : decode cL_act 398 = .ok (.if_icmp .ne 12, 3) := by decide +kernel
theorem dL_act_401 : decode cL_act 401 = .ok (.aload_n 0, 1) := by decide +kernel
theorem dL_act_402 : decode cL_act 402 = .ok (.iload_n 2, 1) := by decide +kernel
theorem dL_act_403 : decode cL_act 403 = .ok (.invokevirtual 87, 3) := by decide +kernel
theorem dL_act_406 : decode cL_act 406 = .ok (.i2l, 1) := by decide +kernel
theorem dL_act_407 : decode cL_act 407 = .ok (.goto 28, 3) := by decide +kernel
theorem dL_act_410 : decode cL_act 410 = .ok (.iload_n 1, 1) := by decide +kernel
theorem dL_act_411 : decode cL_act 411 = .ok (.bipush 24, 2) := by decide +kernel
theorem dL_act_413 : decode cL_act 413 = .ok (.if_icmp .ne 13, 3) := by decide +kernel
theorem dL_act_416 : decode cL_act 416 = .ok (.aload_n 0, 1) := by decide +kernel
theorem dL_act_417 : decode cL_act 417 = .ok (.iload_n 2, 1) := by decide +kernel
theorem dL_act_418 : decode cL_act 418 = .ok (.iload_n 3, 1) := by decide +kernel
theorem dL_act_419 : decode cL_act 419 = .ok (.invokevirtual 90, 3) := by decide +kernel
theorem dL_act_422 : decode cL_act 422 = .ok (.i2l, 1) := by decide +kernel
theorem dL_act_423 : decode cL_act 423 = .ok (.goto 12, 3) := by decide +kernel
theorem dL_act_426 : decode cL_act 426 = .ok (.aload_n 0, 1) := by decide +kernel
theorem dL_act_427 : decode cL_act 427 = .ok (.iload_n 2, 1) := by decide +kernel
theorem dL_act_428 : decode cL_act 428 = .ok (.iload_n 3, 1) := by decide +kernel
theorem dL_act_429 : decode cL_act 429 = .ok (.iload 4, 2) := by decide +kernel
theorem dL_act_431 : decode cL_act 431 = .ok (.invokevirtual 93, 3) := by decide +kernel
theorem dL_act_434 : decode cL_act 434 = .ok (.i2l, 1) := by decide +kernel
theorem dL_act_435 : decode cL_act 435 = .ok (.lreturn, 1) := by decide +kernel
theorem dL_act_436 : decode cL_act 436 = .ok (.astore 6, 2) := by decide +kernel
theorem dL_act_438 : decode cL_act 438 = .ok (.ldc2_w 98, 3) := by decide +kernel
theorem dL_act_441 : decode cL_act 441 = .ok (.lreturn, 1) := by decide +kernel
theorem dL_act_442 : decode cL_act 442 = .ok (.astore 6, 2) := by decide +kernel
theorem dL_act_444 : decode cL_act 444 = .ok (.ldc2_w 102, 3) := by decide +kernel
theorem dL_act_447 : decode cL_act 447 = .ok (.lreturn, 1) := by decide +kernel
theorem dL_act_448 : decode cL_act 448 = .ok (.astore 6, 2) := by decide +kernel
theorem dL_act_450 : decode cL_act 450 = .ok (.ldc2_w 106, 3) := by decide +kernel
theorem dL_act_453 : decode cL_act 453 = .ok (.lreturn, 1) := by decide +kernel
set_option maxRecDepth 20000 in
theorem ggL_refuses_X8_net : GoodIn wsL_refuses wsX8_net := goodIn_ca (goodIn_r _ [13, 14, 15, 16, 17, 18, 19, 20, 21, 22, 23, 24, 25, 26, 27, 28, 29, 30, 31, 32, 33, 34, 35, 36, 37, 38, 39, 40, 41, 42, 43, 44, 45, 46, 47, 48, 49, 50, 51, 52, 53, 54, 575, 576, 577, 578, 579, 580, 581, 582, 583, 584, 585] (by decide +kernel) (by decide +kernel)) (goodIn_sub (fun _ h => List.mem_cons_of_mem _ (List.mem_append_left _ (List.mem_append_left _ (List.mem_append_right _ h)))) (by decide +kernel))
set_option maxRecDepth 20000 in
theorem gL_refuses_X8_net : GoodIn wsL_refuses (wsV RL 23 RX8 yX8_net wsX8_net) := goodIn_app (goodIn_of _ (by decide +kernel)) ggL_refuses_X8_net
set_option maxRecDepth 20000 in
theorem ggL_refuses_X8_trees : GoodIn wsL_refuses wsX8_trees := goodIn_r _ [58, 59, 60, 61, 62, 63, 64, 65, 66, 67, 68, 69, 70, 71, 72, 73, 74, 75, 76, 77, 78, 79, 80, 81, 82, 83, 84, 85, 86, 87, 88, 89, 90, 91, 92, 93, 94, 95, 96, 97, 98, 99, 100, 101, 102, 103, 104, 105, 106, 107, 108, 109, 110, 111, 112, 113, 114, 115, 116, 117, 118, 119, 120, 121, 122, 575, 576, 577, 578, 579, 580, 581, 586, 587, 588, 589, 590, 591, 592, 593] (by decide +kernel) (by decide +kernel)
set_option maxRecDepth 20000 in
theorem gL_refuses_X8_trees : GoodIn wsL_refuses (wsV RL 109 RX8 yX8_trees wsX8_trees) := goodIn_app (goodIn_of _ (by decide +kernel)) ggL_refuses_X8_trees
set_option maxRecDepth 20000 in
theorem ggL_refuses_X8_word : GoodIn wsL_refuses wsX8_word := goodIn_ca (goodIn_r _ [126, 14, 15, 127, 128, 129, 130, 131, 132, 133, 134, 135, 136, 137, 48, 138, 139, 140, 141, 142, 143, 575, 576, 577, 578, 579, 580, 581, 594, 595, 596, 597] (by decide +kernel) (by decide +kernel)) (goodIn_sub (fun _ h => List.mem_cons_of_mem _ (List.mem_append_left _ (List.mem_append_left _ (List.mem_append_right _ h)))) (by decide +kernel))
set_option maxRecDepth 20000 in
theorem gL_refuses_X8_word : GoodIn wsL_refuses (wsV RL 80 RX8 yX8_word wsX8_word) := goodIn_app (goodIn_of _ (by decide +kernel)) ggL_refuses_X8_word
set_option maxRecDepth 20000 in
theorem ggL_refuses_L_act : GoodIn wsL_refuses wsL_act := goodIn_ca (goodIn_ca (goodIn_ca (goodIn_r _ [147, 148, 149, 150, 6, 8, 7, 151, 152, 153, 12, 154, 14, 15, 155, 156, 16, 157, 18, 158, 159, 21, 160, 161, 162, 25, 163, 164, 165, 166, 167, 168, 169, 54, 170, 171, 172, 173, 174, 175, 176, 177, 178, 179, 180, 181, 38, 182, 183, 184, 185, 40, 41, 42, 27, 28, 29, 30, 31, 32, 33, 34, 35, 36, 37, 39, 186, 187, 188, 189, 190, 48, 191, 46, 47, 49, 192, 193, 194, 195, 196, 197, 198, 199, 200, 201, 202, 203, 204, 205, 206, 207, 208, 209, 210, 9, 10, 11, 13, 17, 19, 20, 22, 23, 24, 26, 43, 44, 45, 50, 51, 52, 53, 211, 212, 213, 214, 215, 216, 217, 218, 219, 220, 221, 222, 223, 224, 225, 226, 227, 228, 229, 78, 79, 80, 81, 82, 230, 231, 232, 233, 234, 235, 236, 237, 238, 239, 240, 241, 242, 243, 99, 244, 245, 246, 247, 248, 249, 250, 251, 252, 253, 254, 255, 256, 257, 258, 259, 260, 261, 262, 263, 264, 265, 266, 267, 268, 269, 75, 270, 271, 272, 273, 274, 275, 276, 277, 278, 279, 280, 281, 282, 283, 284, 285, 286, 287, 288, 289, 290, 291, 292, 293, 294, 84, 85, 86, 87, 88, 89, 90, 91, 92, 93, 94, 95, 96, 97, 98, 295, 296, 297, 298, 299, 300, 301, 302, 303, 304, 305, 306, 307, 308, 309, 310, 311, 312, 313, 314, 315, 316, 317, 318, 319, 320, 321, 322, 323, 324, 325, 326, 327, 328, 329, 330, 331, 332, 333, 334, 335, 336, 337, 338, 339, 340, 341, 342, 343, 344, 345, 346, 347, 348, 349, 350, 351, 352, 353, 354, 355, 356, 357, 358, 359, 360, 361, 362, 363, 364, 365, 366, 367, 368, 369, 370, 371, 372, 373, 374, 375, 376, 377, 378, 379, 380, 381, 382, 383, 384, 385, 386, 387, 388, 389, 390, 391, 392, 393, 394, 395, 396, 397, 398, 399, 400, 401, 402, 403, 404, 405, 406, 407, 408, 409, 410, 411, 412, 413, 414, 415, 416, 417, 418, 419, 420, 421, 422, 423, 424, 425, 426, 427, 428, 429, 430, 431, 432, 433, 74, 76, 434, 435, 436, 437, 438, 439, 440, 441, 442, 443, 444, 445, 446, 447, 448, 449, 450, 451, 452, 453, 454, 455, 456, 457, 458, 459, 460, 461, 462, 463, 464, 465, 466, 467, 468, 469, 470, 471, 472, 473, 474, 475, 137, 138, 476, 477, 478, 479, 480, 481, 482, 483, 484, 485, 486, 487, 488, 489, 490, 491, 492, 493, 129, 494, 495, 496, 134, 132, 133, 135, 497, 498, 499, 500, 501, 127, 502, 503, 504, 505, 506, 507, 508, 509, 510, 511, 512, 141, 142, 143, 123, 124, 125, 126, 128, 130, 131, 136, 139, 140, 513, 514, 515, 516, 517, 518, 519, 520, 59, 521, 61, 522, 523, 64, 70, 524, 525, 526, 527, 528, 529, 530, 531, 532, 533, 534, 535, 536, 537, 538, 539, 540, 541, 542, 543, 544, 545, 546, 547, 548, 549, 77, 60, 62, 63, 65, 66, 67, 68, 69, 71, 72, 73, 83, 100, 101, 102, 103, 104, 105, 106, 107, 108, 109, 110, 111, 112, 113, 114, 115, 116, 117, 118, 119, 120, 121, 122, 550, 551, 552, 553, 554, 555, 556, 557, 575, 576, 577, 578, 579, 580, 581, 582, 583, 584, 585, 598, 599, 600, 591, 592, 593, 601, 602, 603, 604, 605, 594, 595, 596, 597, 586, 587, 588, 589, 590] (by decide +kernel) (by decide +kernel)) (goodIn_sub (fun _ h => List.mem_cons_of_mem _ (List.mem_append_left _ (List.mem_append_left _ (List.mem_append_right _ h)))) (by decide +kernel))) (goodIn_sub (fun _ h => List.mem_cons_of_mem _ (List.mem_append_left _ (List.mem_append_right _ h))) (by decide +kernel))) (goodIn_sub (fun _ h => List.mem_cons_of_mem _ (List.mem_append_right _ h)) (by decide +kernel))
set_option maxRecDepth 20000 in
theorem gL_refuses_L_act : GoodIn wsL_refuses (va_wsS RL 117 yL_act wsL_act) := goodIn_app (goodIn_of _ (by decide +kernel)) ggL_refuses_L_act
set_option maxRecDepth 20000 in
theorem ggL_refuses_X8_treesAnew : GoodIn wsL_refuses wsX8_treesAnew := goodIn_r _ [561, 59, 562, 61, 563, 564, 70, 64, 77, 78, 79, 80, 81, 82, 565, 566, 419, 567, 568, 569, 570, 571, 572, 573, 574, 71, 83, 84, 85, 86, 87, 88, 89, 90, 91, 92, 93, 94, 95, 96, 97, 98, 99, 575, 576, 577, 578, 579, 580, 581, 586, 587, 588, 591, 592, 593, 589, 590] (by decide +kernel) (by decide +kernel)
set_option maxRecDepth 20000 in
theorem gL_refuses_X8_treesAnew : GoodIn wsL_refuses (wsV RL 123 RX8 yX8_treesAnew wsX8_treesAnew) := goodIn_app (goodIn_of _ (by decide +kernel)) ggL_refuses_X8_treesAnew
theorem dL_refuses_0 : decode cL_refuses 0 = .ok (.ldc 108, 2) := by decide +kernel
theorem dL_refuses_2 : decode cL_refuses 2 = .ok (.istore 6, 2) := by decide +kernel
theorem dL_refuses_4 : decode cL_refuses 4 = .ok (.aload_n 0, 1) := by decide +kernel
theorem dL_refuses_5 : decode cL_refuses 5 = .ok (.iconst 0, 1) := by decide +kernel
theorem dL_refuses_6 : decode cL_refuses 6 = .ok (.invokevirtual 23, 3) := by decide +kernel
theorem dL_refuses_9 : decode cL_refuses 9 = .ok (.istore 7, 2) := by decide +kernel
theorem dL_refuses_11 : decode cL_refuses 11 = .ok (.aload_n 0, 1) := by decide +kernel
theorem dL_refuses_12 : decode cL_refuses 12 = .ok (.iconst 2, 1) := by decide +kernel
theorem dL_refuses_13 : decode cL_refuses 13 = .ok (.invokevirtual 23, 3) := by decide +kernel
theorem dL_refuses_16 : decode cL_refuses 16 = .ok (.istore 8, 2) := by decide +kernel
theorem dL_refuses_18 : decode cL_refuses 18 = .ok (.aload_n 0, 1) := by decide +kernel
theorem dL_refuses_19 : decode cL_refuses 19 = .ok (.invokevirtual 109, 3) := by decide +kernel
theorem dL_refuses_22 : decode cL_refuses 22 = .ok (.istore 9, 2) := by decide +kernel
theorem dL_refuses_24 : decode cL_refuses 24 = .ok (.aload_n 0, 1) := by decide +kernel
theorem dL_refuses_25 : decode cL_refuses 25 = .ok (.iconst 0, 1) := by decide +kernel
theorem dL_refuses_26 : decode cL_refuses 26 = .ok (.invokevirtual 80, 3) := by decide +kernel
theorem dL_refuses_29 : decode cL_refuses 29 = .ok (.istore 10, 2) := by decide +kernel
theorem dL_refuses_31 : decode cL_refuses 31 = .ok (.iconst 0, 1) := by decide +kernel
theorem dL_refuses_32 : decode cL_refuses 32 = .ok (.istore 11, 2) := by decide +kernel
theorem dL_refuses_34 : decode cL_refuses 34 = .ok (.iload 11, 2) := by decide +kernel
theorem dL_refuses_36 : decode cL_refuses 36 = .ok (.iconst 4, 1) := by decide +kernel
theorem dL_refuses_37 : decode cL_refuses 37 = .ok (.if_icmp .ge 1384, 3) := by decide +kernel
theorem dL_refuses_40 : decode cL_refuses 40 = .ok (.iload 11, 2) := by decide +kernel
theorem dL_refuses_42 : decode cL_refuses 42 = .ok (.ifCond .ne 7, 3) := by decide +kernel
theorem dL_refuses_45 : decode cL_refuses 45 = .ok (.iconst (-1), 1) := by decide +kernel
theorem dL_refuses_46 : decode cL_refuses 46 = .ok (.goto 19, 3) := by decide +kernel
theorem dL_refuses_49 : decode cL_refuses 49 = .ok (.iload 11, 2) := by decide +kernel
theorem dL_refuses_51 : decode cL_refuses 51 = .ok (.iconst 2, 1) := by decide +kernel
theorem dL_refuses_52 : decode cL_refuses 52 = .ok (.if_icmp .ne 8, 3) := by decide +kernel
theorem dL_refuses_55 : decode cL_refuses 55 = .ok (.iload 6, 2) := by decide +kernel
theorem dL_refuses_57 : decode cL_refuses 57 = .ok (.goto 8, 3) := by decide +kernel
theorem dL_refuses_60 : decode cL_refuses 60 = .ok (.iload 6, 2) := by decide +kernel
theorem dL_refuses_62 : decode cL_refuses 62 = .ok (.ineg, 1) := by decide +kernel
theorem dL_refuses_63 : decode cL_refuses 63 = .ok (.iconst 1, 1) := by decide +kernel
theorem dL_refuses_64 : decode cL_refuses 64 = .ok (.isub, 1) := by decide +kernel
theorem dL_refuses_65 : decode cL_refuses 65 = .ok (.istore 12, 2) := by decide +kernel
theorem dL_refuses_67 : decode cL_refuses 67 = .ok (.iload 11, 2) := by decide +kernel
theorem dL_refuses_69 : decode cL_refuses 69 = .ok (.iconst 1, 1) := by decide +kernel
theorem dL_refuses_70 : decode cL_refuses 70 = .ok (.if_icmp .ne 8, 3) := by decide +kernel
theorem dL_refuses_73 : decode cL_refuses 73 = .ok (.iload 8, 2) := by decide +kernel
theorem dL_refuses_75 : decode cL_refuses 75 = .ok (.goto 5, 3) := by decide +kernel
theorem dL_refuses_78 : decode cL_refuses 78 = .ok (.iload 12, 2) := by decide +kernel
theorem dL_refuses_80 : decode cL_refuses 80 = .ok (.istore 13, 2) := by decide +kernel
theorem dL_refuses_82 : decode cL_refuses 82 = .ok (.iload 11, 2) := by decide +kernel
theorem dL_refuses_84 : decode cL_refuses 84 = .ok (.iconst 1, 1) := by decide +kernel
theorem dL_refuses_85 : decode cL_refuses 85 = .ok (.if_icmp .ne 8, 3) := by decide +kernel
theorem dL_refuses_88 : decode cL_refuses 88 = .ok (.iload 7, 2) := by decide +kernel
theorem dL_refuses_90 : decode cL_refuses 90 = .ok (.goto 5, 3) := by decide +kernel
theorem dL_refuses_93 : decode cL_refuses 93 = .ok (.iload 12, 2) := by decide +kernel
theorem dL_refuses_95 : decode cL_refuses 95 = .ok (.istore 14, 2) := by decide +kernel
theorem dL_refuses_97 : decode cL_refuses 97 = .ok (.iload 11, 2) := by decide +kernel
theorem dL_refuses_99 : decode cL_refuses 99 = .ok (.iconst 1, 1) := by decide +kernel
theorem dL_refuses_100 : decode cL_refuses 100 = .ok (.if_icmp .ne 7, 3) := by decide +kernel
theorem dL_refuses_103 : decode cL_refuses 103 = .ok (.iload_n 1, 1) := by decide +kernel
theorem dL_refuses_104 : decode cL_refuses 104 = .ok (.goto 5, 3) := by decide +kernel
theorem dL_refuses_107 : decode cL_refuses 107 = .ok (.iload 12, 2) := by decide +kernel
theorem dL_refuses_109 : decode cL_refuses 109 = .ok (.istore 15, 2) := by decide +kernel
theorem dL_refuses_111 : decode cL_refuses 111 = .ok (.iload 11, 2) := by decide +kernel
theorem dL_refuses_113 : decode cL_refuses 113 = .ok (.iconst 1, 1) := by decide +kernel
theorem dL_refuses_114 : decode cL_refuses 114 = .ok (.if_icmp .ne 7, 3) := by decide +kernel
theorem dL_refuses_117 : decode cL_refuses 117 = .ok (.iload_n 2, 1) := by decide +kernel
theorem dL_refuses_118 : decode cL_refuses 118 = .ok (.goto 5, 3) := by decide +kernel
theorem dL_refuses_121 : decode cL_refuses 121 = .ok (.iload 12, 2) := by decide +kernel
theorem dL_refuses_123 : decode cL_refuses 123 = .ok (.istore 16, 2) := by decide +kernel
theorem dL_refuses_125 : decode cL_refuses 125 = .ok (.iload 11, 2) := by decide +kernel
theorem dL_refuses_127 : decode cL_refuses 127 = .ok (.iconst 1, 1) := by decide +kernel
theorem dL_refuses_128 : decode cL_refuses 128 = .ok (.if_icmp .ne 7, 3) := by decide +kernel
theorem dL_refuses_131 : decode cL_refuses 131 = .ok (.iconst 4, 1) := by decide +kernel
theorem dL_refuses_132 : decode cL_refuses 132 = .ok (.goto 5, 3) := by decide +kernel
theorem dL_refuses_135 : decode cL_refuses 135 = .ok (.iload 12, 2) := by decide +kernel
theorem dL_refuses_137 : decode cL_refuses 137 = .ok (.istore 17, 2) := by decide +kernel
theorem dL_refuses_139 : decode cL_refuses 139 = .ok (.iload 11, 2) := by decide +kernel
theorem dL_refuses_141 : decode cL_refuses 141 = .ok (.iconst 1, 1) := by decide +kernel
theorem dL_refuses_142 : decode cL_refuses 142 = .ok (.if_icmp .ne 8, 3) := by decide +kernel
theorem dL_refuses_145 : decode cL_refuses 145 = .ok (.iload 4, 2) := by decide +kernel
theorem dL_refuses_147 : decode cL_refuses 147 = .ok (.goto 5, 3) := by decide +kernel
