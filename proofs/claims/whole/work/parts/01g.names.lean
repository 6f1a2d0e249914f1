theorem dX9_tell_8 : decode cX9_tell 8 = .ok (.invokestatic 199, 3) := by decide +kernel
theorem dX9_tell_11 : decode cX9_tell 11 = .ok (.ifCond .eq 34, 3) := by decide +kernel
theorem dX9_tell_14 : decode cX9_tell 14 = .ok (.iload_n 3, 1) := by decide +kernel
theorem dX9_tell_15 : decode cX9_tell 15 = .ok (.invokestatic 199, 3) := by decide +kernel
theorem dX9_tell_18 : decode cX9_tell 18 = .ok (.ifCond .eq 27, 3) := by decide +kernel
theorem dX9_tell_21 : decode cX9_tell 21 = .ok (.iload 4, 2) := by decide +kernel
theorem dX9_tell_23 : decode cX9_tell 23 = .ok (.invokestatic 199, 3) := by decide +kernel
theorem dX9_tell_26 : decode cX9_tell 26 = .ok (.ifCond .eq 19, 3) := by decide +kernel
theorem dX9_tell_29 : decode cX9_tell 29 = .ok (.iload_n 1, 1) := by decide +kernel
theorem dX9_tell_30 : decode cX9_tell 30 = .ok (.iload 4, 2) := by decide +kernel
theorem dX9_tell_32 : decode cX9_tell 32 = .ok (.imul, 1) := by decide +kernel
theorem dX9_tell_33 : decode cX9_tell 33 = .ok (.iload_n 2, 1) := by decide +kernel
theorem dX9_tell_34 : decode cX9_tell 34 = .ok (.iload_n 3, 1) := by decide +kernel
theorem dX9_tell_35 : decode cX9_tell 35 = .ok (.imul, 1) := by decide +kernel
theorem dX9_tell_36 : decode cX9_tell 36 = .ok (.isub, 1) := by decide +kernel
theorem dX9_tell_37 : decode cX9_tell 37 = .ok (.iconst 1, 1) := by decide +kernel
theorem dX9_tell_38 : decode cX9_tell 38 = .ok (.if_icmp .ne 7, 3) := by decide +kernel
theorem dX9_tell_41 : decode cX9_tell 41 = .ok (.iconst 1, 1) := by decide +kernel
theorem dX9_tell_42 : decode cX9_tell 42 = .ok (.goto 4, 3) := by decide +kernel
theorem dX9_tell_45 : decode cX9_tell 45 = .ok (.iconst 0, 1) := by decide +kernel
theorem dX9_tell_46 : decode cX9_tell 46 = .ok (.istore 5, 2) := by decide +kernel
theorem dX9_tell_48 : decode cX9_tell 48 = .ok (.aload_n 0, 1) := by decide +kernel
theorem dX9_tell_49 : decode cX9_tell 49 = .ok (.iload 5, 2) := by decide +kernel
theorem dX9_tell_51 : decode cX9_tell 51 = .ok (.ifCond .ne 7, 3) := by decide +kernel
theorem dX9_tell_54 : decode cX9_tell 54 = .ok (.iconst 1, 1) := by decide +kernel
theorem dX9_tell_55 : decode cX9_tell 55 = .ok (.goto 16, 3) := by decide +kernel
theorem dX9_tell_58 : decode cX9_tell 58 = .ok (.aload_n 0, 1) := by decide +kernel
theorem dX9_tell_59 : decode cX9_tell 59 = .ok (.getfield 202, 3) := by decide +kernel
theorem dX9_tell_62 : decode cX9_tell 62 = .ok (.iconst 4, 1) := by decide +kernel
theorem dX9_tell_63 : decode cX9_tell 63 = .ok (.if_icmp .ne 7, 3) := by decide +kernel
theorem dX9_tell_66 : decode cX9_tell 66 = .ok (.iconst 2, 1) := by decide +kernel
theorem dX9_tell_67 : decode cX9_tell 67 = .ok (.goto 4, 3) := by decide +kernel
theorem dX9_tell_70 : decode cX9_tell 70 = .ok (.iconst 0, 1) := by decide +kernel
theorem dX9_tell_71 : decode cX9_tell 71 = .ok (.putfield 80, 3) := by decide +kernel
theorem dX9_tell_74 : decode cX9_tell 74 = .ok (.aload_n 0, 1) := by decide +kernel
theorem dX9_tell_75 : decode cX9_tell 75 = .ok (.getfield 80, 3) := by decide +kernel
theorem dX9_tell_78 : decode cX9_tell 78 = .ok (.ifCond .le 5, 3) := by decide +kernel
theorem dX9_tell_81 : decode cX9_tell 81 = .ok (.iconst 0, 1) := by decide +kernel
theorem dX9_tell_82 : decode cX9_tell 82 = .ok (.ireturn, 1) := by decide +kernel
theorem dX9_tell_83 : decode cX9_tell 83 = .ok (.aload_n 0, 1) := by decide +kernel
theorem dX9_tell_84 : decode cX9_tell 84 = .ok (.getfield 55, 3) := by decide +kernel
theorem dX9_tell_87 : decode cX9_tell 87 = .ok (.iconst 4, 1) := by decide +kernel
theorem dX9_tell_88 : decode cX9_tell 88 = .ok (.aload_n 0, 1) := by decide +kernel
theorem dX9_tell_89 : decode cX9_tell 89 = .ok (.getfield 202, 3) := by decide +kernel
theorem dX9_tell_92 : decode cX9_tell 92 = .ok (.imul, 1) := by decide +kernel
theorem dX9_tell_93 : decode cX9_tell 93 = .ok (.iload_n 1, 1) := by decide +kernel
theorem dX9_tell_94 : decode cX9_tell 94 = .ok (.i2l, 1) := by decide +kernel
theorem dX9_tell_95 : decode cX9_tell 95 = .ok (.lastore, 1) := by decide +kernel
theorem dX9_tell_96 : decode cX9_tell 96 = .ok (.aload_n 0, 1) := by decide +kernel
theorem dX9_tell_97 : decode cX9_tell 97 = .ok (.getfield 55, 3) := by decide +kernel
theorem dX9_tell_100 : decode cX9_tell 100 = .ok (.iconst 4, 1) := by decide +kernel
theorem dX9_tell_101 : decode cX9_tell 101 = .ok (.aload_n 0, 1) := by decide +kernel
theorem dX9_tell_102 : decode cX9_tell 102 = .ok (.getfield 202, 3) := by decide +kernel
theorem dX9_tell_105 : decode cX9_tell 105 = .ok (.imul, 1) := by decide +kernel
theorem dX9_tell_106 : decode cX9_tell 106 = .ok (.iconst 1, 1) := by decide +kernel
theorem dX9_tell_107 : decode cX9_tell 107 = .ok (.iadd, 1) := by decide +kernel
theorem dX9_tell_108 : decode cX9_tell 108 = .ok (.iload_n 2, 1) := by decide +kernel
theorem dX9_tell_109 : decode cX9_tell 109 = .ok (.i2l, 1) := by decide +kernel
theorem dX9_tell_110 : decode cX9_tell 110 = .ok (.lastore, 1) := by decide +kernel
theorem dX9_tell_111 : decode cX9_tell 111 = .ok (.aload_n 0, 1) := by decide +kernel
theorem dX9_tell_112 : decode cX9_tell 112 = .ok (.getfield 55, 3) := by decide +kernel
theorem dX9_tell_115 : decode cX9_tell 115 = .ok (.iconst 4, 1) := by decide +kernel
theorem dX9_tell_116 : decode cX9_tell 116 = .ok (.aload_n 0, 1) := by decide +kernel
theorem dX9_tell_117 : decode cX9_tell 117 = .ok (.getfield 202, 3) := by decide +kernel
theorem dX9_tell_120 : decode cX9_tell 120 = .ok (.imul, 1) := by decide +kernel
theorem dX9_tell_121 : decode cX9_tell 121 = .ok (.iconst 2, 1) := by decide +kernel
theorem dX9_tell_122 : decode cX9_tell 122 = .ok (.iadd, 1) := by decide +kernel
theorem dX9_tell_123 : decode cX9_tell 123 = .ok (.iload_n 3, 1) := by decide +kernel
theorem dX9_tell_124 : decode cX9_tell 124 = .ok (.i2l, 1) := by decide +kernel
theorem dX9_tell_125 : decode cX9_tell 125 = .ok (.lastore, 1) := by decide +kernel
theorem dX9_tell_126 : decode cX9_tell 126 = .ok (.aload_n 0, 1) := by decide +kernel
theorem dX9_tell_127 : decode cX9_tell 127 = .ok (.getfield 55, 3) := by decide +kernel
theorem dX9_tell_130 : decode cX9_tell 130 = .ok (.iconst 4, 1) := by decide +kernel
theorem dX9_tell_131 : decode cX9_tell 131 = .ok (.aload_n 0, 1) := by decide +kernel
theorem dX9_tell_132 : decode cX9_tell 132 = .ok (.getfield 202, 3) := by decide +kernel
theorem dX9_tell_135 : decode cX9_tell 135 = .ok (.imul, 1) := by decide +kernel
theorem dX9_tell_136 : decode cX9_tell 136 = .ok (.iconst 3, 1) := by decide +kernel
theorem dX9_tell_137 : decode cX9_tell 137 = .ok (.iadd, 1) := by decide +kernel
theorem dX9_tell_138 : decode cX9_tell 138 = .ok (.iload 4, 2) := by decide +kernel
theorem dX9_tell_140 : decode cX9_tell 140 = .ok (.i2l, 1) := by decide +kernel
theorem dX9_tell_141 : decode cX9_tell 141 = .ok (.lastore, 1) := by decide +kernel
theorem dX9_tell_142 : decode cX9_tell 142 = .ok (.aload_n 0, 1) := by decide +kernel
theorem dX9_tell_143 : decode cX9_tell 143 = .ok (.dup, 1) := by decide +kernel
theorem dX9_tell_144 : decode cX9_tell 144 = .ok (.getfield 202, 3) := by decide +kernel
theorem dX9_tell_147 : decode cX9_tell 147 = .ok (.iconst 1, 1) := by decide +kernel
theorem dX9_tell_148 : decode cX9_tell 148 = .ok (.iadd, 1) := by decide +kernel
theorem dX9_tell_149 : decode cX9_tell 149 = .ok (.putfield 202, 3) := by decide +kernel
theorem dX9_tell_152 : decode cX9_tell 152 = .ok (.aload_n 0, 1) := by decide +kernel
theorem dX9_tell_153 : decode cX9_tell 153 = .ok (.getfield 202, 3) := by decide +kernel
theorem dX9_tell_156 : decode cX9_tell 156 = .ok (.iconst 1, 1) := by decide +kernel
theorem dX9_tell_157 : decode cX9_tell 157 = .ok (.isub, 1) := by decide +kernel
theorem dX9_tell_158 : decode cX9_tell 158 = .ok (.ireturn, 1) := by decide +kernel
set_option maxRecDepth 20000 in
theorem ggX9_append_X9_isIn : GoodIn wsX9_append wsX9_isIn := goodIn_r _ [11] (by decide +kernel) (by decide +kernel)
set_option maxRecDepth 20000 in
theorem gX9_append_X9_isIn : GoodIn wsX9_append (va_wsS RX9 83 yX9_isIn wsX9_isIn) := goodIn_app (goodIn_of _ (by decide +kernel)) ggX9_append_X9_isIn
theorem dX9_append_0 : decode cX9_append 0 = .ok (.aload_n 0, 1) := by decide +kernel
theorem dX9_append_1 : decode cX9_append 1 = .ok (.iload_n 1, 1) := by decide +kernel
theorem dX9_append_2 : decode cX9_append 2 = .ok (.i2l, 1) := by decide +kernel
theorem dX9_append_3 : decode cX9_append 3 = .ok (.lconst 0, 1) := by decide +kernel
theorem dX9_append_4 : decode cX9_append 4 = .ok (.aload_n 0, 1) := by decide +kernel
theorem dX9_append_5 : decode cX9_append 5 = .ok (.getfield 202, 3) := by decide +kernel
theorem dX9_append_8 : decode cX9_append 8 = .ok (.iconst 1, 1) := by decide +kernel
theorem dX9_append_9 : decode cX9_append 9 = .ok (.isub, 1) := by decide +kernel
theorem dX9_append_10 : decode cX9_append 10 = .ok (.i2l, 1) := by decide +kernel
theorem dX9_append_11 : decode cX9_append 11 = .ok (.invokestatic 83, 3) := by decide +kernel
theorem dX9_append_14 : decode cX9_append 14 = .ok (.ifCond .eq 7, 3) := by decide +kernel
theorem dX9_append_17 : decode cX9_append 17 = .ok (.iconst 0, 1) := by decide +kernel
theorem dX9_append_18 : decode cX9_append 18 = .ok (.goto 4, 3) := by decide +kernel
theorem dX9_append_21 : decode cX9_append 21 = .ok (.iconst 1, 1) := by decide +kernel
theorem dX9_append_22 : decode cX9_append 22 = .ok (.putfield 80, 3) := by decide +kernel
theorem dX9_append_25 : decode cX9_append 25 = .ok (.aload_n 0, 1) := by decide +kernel
theorem dX9_append_26 : decode cX9_append 26 = .ok (.getfield 80, 3) := by decide +kernel
theorem dX9_append_29 : decode cX9_append 29 = .ok (.ifCond .le 5, 3) := by decide +kernel
theorem dX9_append_32 : decode cX9_append 32 = .ok (.iconst 0, 1) := by decide +kernel
theorem dX9_append_33 : decode cX9_append 33 = .ok (.ireturn, 1) := by decide +kernel
theorem dX9_append_34 : decode cX9_append 34 = .ok (.iconst 4, 1) := by decide +kernel
theorem dX9_append_35 : decode cX9_append 35 = .ok (.iload_n 1, 1) := by decide +kernel
theorem dX9_append_36 : decode cX9_append 36 = .ok (.imul, 1) := by decide +kernel
theorem dX9_append_37 : decode cX9_append 37 = .ok (.istore_n 3, 1) := by decide +kernel
theorem dX9_append_38 : decode cX9_append 38 = .ok (.iload_n 2, 1) := by decide +kernel
theorem dX9_append_39 : decode cX9_append 39 = .ok (.ifCond .eq 14, 3) := by decide +kernel
theorem dX9_append_42 : decode cX9_append 42 = .ok (.aload_n 0, 1) := by decide +kernel
theorem dX9_append_43 : decode cX9_append 43 = .ok (.getfield 55, 3) := by decide +kernel
theorem dX9_append_46 : decode cX9_append 46 = .ok (.iload_n 3, 1) := by decide +kernel
theorem dX9_append_47 : decode cX9_append 47 = .ok (.iconst 3, 1) := by decide +kernel
theorem dX9_append_48 : decode cX9_append 48 = .ok (.iadd, 1) := by decide +kernel
theorem dX9_append_49 : decode cX9_append 49 = .ok (.laload, 1) := by decide +kernel
theorem dX9_append_50 : decode cX9_append 50 = .ok (.goto 9, 3) := by decide +kernel
theorem dX9_append_53 : decode cX9_append 53 = .ok (.aload_n 0, 1) := by decide +kernel
theorem dX9_append_54 : decode cX9_append 54 = .ok (.getfield 55, 3) := by decide +kernel
theorem dX9_append_57 : decode cX9_append 57 = .ok (.iload_n 3, 1) := by decide +kernel
theorem dX9_append_58 : decode cX9_append 58 = .ok (.laload, 1) := by decide +kernel
theorem dX9_append_59 : decode cX9_append 59 = .ok (.lstore 4, 2) := by decide +kernel
theorem dX9_append_61 : decode cX9_append 61 = .ok (.iload_n 2, 1) := by decide +kernel
theorem dX9_append_62 : decode cX9_append 62 = .ok (.ifCond .eq 15, 3) := by decide +kernel
theorem dX9_append_65 : decode cX9_append 65 = .ok (.aload_n 0, 1) := by decide +kernel
theorem dX9_append_66 : decode cX9_append 66 = .ok (.getfield 55, 3) := by decide +kernel
theorem dX9_append_69 : decode cX9_append 69 = .ok (.iload_n 3, 1) := by decide +kernel
theorem dX9_append_70 : decode cX9_append 70 = .ok (.iconst 1, 1) := by decide +kernel
theorem dX9_append_71 : decode cX9_append 71 = .ok (.iadd, 1) := by decide +kernel
theorem dX9_append_72 : decode cX9_append 72 = .ok (.laload, 1) := by decide +kernel
theorem dX9_append_73 : decode cX9_append 73 = .ok (.lneg, 1) := by decide +kernel
theorem dX9_append_74 : decode cX9_append 74 = .ok (.goto 11, 3) := by decide +kernel
theorem dX9_append_77 : decode cX9_append 77 = .ok (.aload_n 0, 1) := by decide +kernel
theorem dX9_append_78 : decode cX9_append 78 = .ok (.getfield 55, 3) := by decide +kernel
theorem dX9_append_81 : decode cX9_append 81 = .ok (.iload_n 3, 1) := by decide +kernel
theorem dX9_append_82 : decode cX9_append 82 = .ok (.iconst 1, 1) := by decide +kernel
theorem dX9_append_83 : decode cX9_append 83 = .ok (.iadd, 1) := by decide +kernel
theorem dX9_append_84 : decode cX9_append 84 = .ok (.laload, 1) := by decide +kernel
theorem dX9_append_85 : decode cX9_append 85 = .ok (.lstore 6, 2) := by decide +kernel
theorem dX9_append_87 : decode cX9_append 87 = .ok (.iload_n 2, 1) := by decide +kernel
theorem dX9_append_88 : decode cX9_append 88 = .ok (.ifCond .eq 15, 3) := by decide +kernel
theorem dX9_append_91 : decode cX9_append 91 = .ok (.aload_n 0, 1) := by decide +kernel
theorem dX9_append_92 : decode cX9_append 92 = .ok (.getfield 55, 3) := by decide +kernel
theorem dX9_append_95 : decode cX9_append 95 = .ok (.iload_n 3, 1) := by decide +kernel
theorem dX9_append_96 : decode cX9_append 96 = .ok (.iconst 2, 1) := by decide +kernel
theorem dX9_append_97 : decode cX9_append 97 = .ok (.iadd, 1) := by decide +kernel
theorem dX9_append_98 : decode cX9_append 98 = .ok (.laload, 1) := by decide +kernel
theorem dX9_append_99 : decode cX9_append 99 = .ok (.lneg, 1) := by decide +kernel
theorem dX9_append_100 : decode cX9_append 100 = .ok (.goto 11, 3) := by decide +kernel
theorem dX9_append_103 : decode cX9_append 103 = .ok (.aload_n 0, 1) := by decide +kernel
theorem dX9_append_104 : decode cX9_append 104 = .ok (.getfield 55, 3) := by decide +kernel
theorem dX9_append_107 : decode cX9_append 107 = .ok (.iload_n 3, 1) := by decide +kernel
theorem dX9_append_108 : decode cX9_append 108 = .ok (.iconst 2, 1) := by decide +kernel
theorem dX9_append_109 : decode cX9_append 109 = .ok (.iadd, 1) := by decide +kernel
theorem dX9_append_110 : decode cX9_append 110 = .ok (.laload, 1) := by decide +kernel
theorem dX9_append_111 : decode cX9_append 111 = .ok (.lstore 8, 2) := by decide +kernel
theorem dX9_append_113 : decode cX9_append 113 = .ok (.iload_n 2, 1) := by decide +kernel
theorem dX9_append_114 : decode cX9_append 114 = .ok (.ifCond .eq 12, 3) := by decide +kernel
theorem dX9_append_117 : decode cX9_append 117 = .ok (.aload_n 0, 1) := by decide +kernel
theorem dX9_append_118 : decode cX9_append 118 = .ok (.getfield 55, 3) := by decide +kernel
theorem dX9_append_121 : decode cX9_append 121 = .ok (.iload_n 3, 1) := by decide +kernel
theorem dX9_append_122 : decode cX9_append 122 = .ok (.laload, 1) := by decide +kernel
theorem dX9_append_123 : decode cX9_append 123 = .ok (.goto 11, 3) := by decide +kernel
theorem dX9_append_126 : decode cX9_append 126 = .ok (.aload_n 0, 1) := by decide +kernel
theorem dX9_append_127 : decode cX9_append 127 = .ok (.getfield 55, 3) := by decide +kernel
theorem dX9_append_130 : decode cX9_append 130 = .ok (.iload_n 3, 1) := by decide +kernel
theorem dX9_append_131 : decode cX9_append 131 = .ok (.iconst 3, 1) := by decide +kernel
theorem dX9_append_132 : decode cX9_append 132 = .ok (.iadd, 1) := by decide +kernel
theorem dX9_append_133 : decode cX9_append 133 = .ok (.laload, 1) := by decide +kernel
theorem dX9_append_134 : decode cX9_append 134 = .ok (.lstore 10, 2) := by decide +kernel
theorem dX9_append_136 : decode cX9_append 136 = .ok (.aload_n 0, 1) := by decide +kernel
theorem dX9_append_137 : decode cX9_append 137 = .ok (.getfield 61, 3) := by decide +kernel
theorem dX9_append_140 : decode cX9_append 140 = .ok (.iconst 0, 1) := by decide +kernel
theorem dX9_append_141 : decode cX9_append 141 = .ok (.aload_n 0, 1) := by decide +kernel
theorem dX9_append_142 : decode cX9_append 142 = .ok (.getfield 58, 3) := by decide +kernel
theorem dX9_append_145 : decode cX9_append 145 = .ok (.iconst 0, 1) := by decide +kernel
theorem dX9_append_146 : decode cX9_append 146 = .ok (.laload, 1) := by decide +kernel
theorem dX9_append_147 : decode cX9_append 147 = .ok (.lload 4, 2) := by decide +kernel
theorem dX9_append_149 : decode cX9_append 149 = .ok (.lmul, 1) := by decide +kernel
theorem dX9_append_150 : decode cX9_append 150 = .ok (.aload_n 0, 1) := by decide +kernel
theorem dX9_append_151 : decode cX9_append 151 = .ok (.getfield 58, 3) := by decide +kernel
theorem dX9_append_154 : decode cX9_append 154 = .ok (.iconst 1, 1) := by decide +kernel
theorem dX9_append_155 : decode cX9_append 155 = .ok (.laload, 1) := by decide +kernel
theorem dX9_append_156 : decode cX9_append 156 = .ok (.lload 8, 2) := by decide +kernel
theorem dX9_append_158 : decode cX9_append 158 = .ok (.lmul, 1) := by decide +kernel
theorem dX9_append_159 : decode cX9_append 159 = .ok (.ladd, 1) := by decide +kernel
theorem dX9_append_160 : decode cX9_append 160 = .ok (.lastore, 1) := by decide +kernel
theorem dX9_append_161 : decode cX9_append 161 = .ok (.aload_n 0, 1) := by decide +kernel
theorem dX9_append_162 : decode cX9_append 162 = .ok (.getfield 61, 3) := by decide +kernel
theorem dX9_append_165 : decode cX9_append 165 = .ok (.iconst 1, 1) := by decide +kernel
theorem dX9_append_166 : decode cX9_append 166 = .ok (.aload_n 0, 1) := by decide +kernel
theorem dX9_append_167 : decode cX9_append 167 = .ok (.getfield 58, 3) := by decide +kernel
theorem dX9_append_170 : decode cX9_append 170 = .ok (.iconst 0, 1) := by decide +kernel
theorem dX9_append_171 : decode cX9_append 171 = .ok (.laload, 1) := by decide +kernel
theorem dX9_append_172 : decode cX9_append 172 = .ok (.lload 6, 2) := by decide +kernel
theorem dX9_append_174 : decode cX9_append 174 = .ok (.lmul, 1) := by decide +kernel
theorem dX9_append_175 : decode cX9_append 175 = .ok (.aload_n 0, 1) := by decide +kernel
theorem dX9_append_176 : decode cX9_append 176 = .ok (.getfield 58, 3) := by decide +kernel
theorem dX9_append_179 : decode cX9_append 179 = .ok (.iconst 1, 1) := by decide +kernel
theorem dX9_append_180 : decode cX9_append 180 = .ok (.laload, 1) := by decide +kernel
theorem dX9_append_181 : decode cX9_append 181 = .ok (.lload 10, 2) := by decide +kernel
theorem dX9_append_183 : decode cX9_append 183 = .ok (.lmul, 1) := by decide +kernel
theorem dX9_append_184 : decode cX9_append 184 = .ok (.ladd, 1) := by decide +kernel
theorem dX9_append_185 : decode cX9_append 185 = .ok (.lastore, 1) := by decide +kernel
theorem dX9_append_186 : decode cX9_append 186 = .ok (.aload_n 0, 1) := by decide +kernel
theorem dX9_append_187 : decode cX9_append 187 = .ok (.getfield 61, 3) := by decide +kernel
theorem dX9_append_190 : decode cX9_append 190 = .ok (.iconst 2, 1) := by decide +kernel
theorem dX9_append_191 : decode cX9_append 191 = .ok (.aload_n 0, 1) := by decide +kernel
theorem dX9_append_192 : decode cX9_append 192 = .ok (.getfield 58, 3) := by decide +kernel
theorem dX9_append_195 : decode cX9_append 195 = .ok (.iconst 2, 1) := by decide +kernel
theorem dX9_append_196 : decode cX9_append 196 = .ok (.laload, 1) := by decide +kernel
theorem dX9_append_197 : decode cX9_append 197 = .ok (.lload 4, 2) := by decide +kernel
theorem dX9_append_199 : decode cX9_append 199 = .ok (.lmul, 1) := by decide +kernel
theorem dX9_append_200 : decode cX9_append 200 = .ok (.aload_n 0, 1) := by decide +kernel
theorem dX9_append_201 : decode cX9_append 201 = .ok (.getfield 58, 3) := by decide +kernel
theorem dX9_append_204 : decode cX9_append 204 = .ok (.iconst 3, 1) := by decide +kernel
theorem dX9_append_205 : decode cX9_append 205 = .ok (.laload, 1) := by decide +kernel
theorem dX9_append_206 : decode cX9_append 206 = .ok (.lload 8, 2) := by decide +kernel
theorem dX9_append_208 : decode cX9_append 208 = .ok (.lmul, 1) := by decide +kernel
theorem dX9_append_209 : decode cX9_append 209 = .ok (.ladd, 1) := by decide +kernel
theorem dX9_append_210 : decode cX9_append 210 = .ok (.lastore, 1) := by decide +kernel
theorem dX9_append_211 : decode cX9_append 211 = .ok (.aload_n 0, 1) := by decide +kernel
theorem dX9_append_212 : decode cX9_append 212 = .ok (.getfield 61, 3) := by decide +kernel
theorem dX9_append_215 : decode cX9_append 215 = .ok (.iconst 3, 1) := by decide +kernel
theorem dX9_append_216 : decode cX9_append 216 = .ok (.aload_n 0, 1) := by decide +kernel
theorem dX9_append_217 : decode cX9_append 217 = .ok (.getfield 58, 3) := by decide +kernel
theorem dX9_append_220 : decode cX9_append 220 = .ok (.iconst 2, 1) := by decide +kernel
theorem dX9_append_221 : decode cX9_append 221 = .ok (.laload, 1) := by decide +kernel
theorem dX9_append_222 : decode cX9_append 222 = .ok (.lload 6, 2) := by decide +kernel
theorem dX9_append_224 : decode cX9_append 224 = .ok (.lmul, 1) := by decide +kernel
theorem dX9_append_225 : decode cX9_append 225 = .ok (.aload_n 0, 1) := by decide +kernel
theorem dX9_append_226 : decode cX9_append 226 = .ok (.getfield 58, 3) := by decide +kernel
theorem dX9_append_229 : decode cX9_append 229 = .ok (.iconst 3, 1) := by decide +kernel
theorem dX9_append_230 : decode cX9_append 230 = .ok (.laload, 1) := by decide +kernel
theorem dX9_append_231 : decode cX9_append 231 = .ok (.lload 10, 2) := by decide +kernel
theorem dX9_append_233 : decode cX9_append 233 = .ok (.lmul, 1) := by decide +kernel
theorem dX9_append_234 : decode cX9_append 234 = .ok (.ladd, 1) := by decide +kernel
theorem dX9_append_235 : decode cX9_append 235 = .ok (.lastore, 1) := by decide +kernel
theorem dX9_append_236 : decode cX9_append 236 = .ok (.iconst 1, 1) := by decide +kernel
theorem dX9_append_237 : decode cX9_append 237 = .ok (.istore 12, 2) := by decide +kernel
theorem dX9_append_239 : decode cX9_append 239 = .ok (.iconst 0, 1) := by decide +kernel
theorem dX9_append_240 : decode cX9_append 240 = .ok (.istore 13, 2) := by decide +kernel
theorem dX9_append_242 : decode cX9_append 242 = .ok (.iload 13, 2) := by decide +kernel
theorem dX9_append_244 : decode cX9_append 244 = .ok (.iconst 4, 1) := by decide +kernel
theorem dX9_append_245 : decode cX9_append 245 = .ok (.if_icmp .ge 30, 3) := by decide +kernel
theorem dX9_append_248 : decode cX9_append 248 = .ok (.iload 12, 2) := by decide +kernel
theorem dX9_append_250 : decode cX9_append 250 = .ok (.aload_n 0, 1) := by decide +kernel
theorem dX9_append_251 : decode cX9_append 251 = .ok (.getfield 61, 3) := by decide +kernel
theorem dX9_append_254 : decode cX9_append 254 = .ok (.iload 13, 2) := by decide +kernel
theorem dX9_append_256 : decode cX9_append 256 = .ok (.laload, 1) := by decide +kernel
theorem dX9_append_257 : decode cX9_append 257 = .ok (.ldc2_w 117, 3) := by decide +kernel
theorem dX9_append_260 : decode cX9_append 260 = .ok (.ldc2_w 119, 3) := by decide +kernel
theorem dX9_append_263 : decode cX9_append 263 = .ok (.invokestatic 83, 3) := by decide +kernel
theorem dX9_append_266 : decode cX9_append 266 = .ok (.iand, 1) := by decide +kernel
theorem dX9_append_267 : decode cX9_append 267 = .ok (.istore 12, 2) := by decide +kernel
theorem dX9_append_269 : decode cX9_append 269 = .ok (.iinc 13 1, 3) := by decide +kernel
theorem dX9_append_272 : decode cX9_append 272 = .ok (.goto (-30), 3) := by decide +kernel
theorem dX9_append_275 : decode cX9_append 275 = .ok (.aload_n 0, 1) := by decide +kernel
theorem dX9_append_276 : decode cX9_append 276 = .ok (.iload 12, 2) := by decide +kernel
theorem dX9_append_278 : decode cX9_append 278 = .ok (.ifCond .eq 7, 3) := by decide +kernel
theorem dX9_append_281 : decode cX9_append 281 = .ok (.iconst 0, 1) := by decide +kernel
theorem dX9_append_282 : decode cX9_append 282 = .ok (.goto 4, 3) := by decide +kernel
theorem dX9_append_285 : decode cX9_append 285 = .ok (.iconst 2, 1) := by decide +kernel
theorem dX9_append_286 : decode cX9_append 286 = .ok (.putfield 80, 3) := by decide +kernel
theorem dX9_append_289 : decode cX9_append 289 = .ok (.iconst 0, 1) := by decide +kernel
theorem dX9_append_290 : decode cX9_append 290 = .ok (.istore 13, 2) := by decide +kernel
theorem dX9_append_292 : decode cX9_append 292 = .ok (.iload 13, 2) := by decide +kernel
theorem dX9_append_294 : decode cX9_append 294 = .ok (.iconst 4, 1) := by decide +kernel
theorem dX9_append_295 : decode cX9_append 295 = .ok (.if_icmp .ge 38, 3) := by decide +kernel
theorem dX9_append_298 : decode cX9_append 298 = .ok (.aload_n 0, 1) := by decide +kernel
theorem dX9_append_299 : decode cX9_append 299 = .ok (.getfield 58, 3) := by decide +kernel
theorem dX9_append_302 : decode cX9_append 302 = .ok (.iload 13, 2) := by decide +kernel
theorem dX9_append_304 : decode cX9_append 304 = .ok (.iload 12, 2) := by decide +kernel
theorem dX9_append_306 : decode cX9_append 306 = .ok (.ifCond .eq 13, 3) := by decide +kernel
theorem dX9_append_309 : decode cX9_append 309 = .ok (.aload_n 0, 1) := by decide +kernel
theorem dX9_append_310 : decode cX9_append 310 = .ok (.getfield 61, 3) := by decide +kernel
theorem dX9_append_313 : decode cX9_append 313 = .ok (.iload 13, 2) := by decide +kernel
theorem dX9_append_315 : decode cX9_append 315 = .ok (.laload, 1) := by decide +kernel
theorem dX9_append_316 : decode cX9_append 316 = .ok (.goto 10, 3) := by decide +kernel
theorem dX9_append_319 : decode cX9_append 319 = .ok (.aload_n 0, 1) := by decide +kernel
theorem dX9_append_320 : decode cX9_append 320 = .ok (.getfield 58, 3) := by decide +kernel
theorem dX9_append_323 : decode cX9_append 323 = .ok (.iload 13, 2) := by decide +kernel
theorem dX9_append_325 : decode cX9_append 325 = .ok (.laload, 1) := by decide +kernel
theorem dX9_append_326 : decode cX9_append 326 = .ok (.lastore, 1) := by decide +kernel
theorem dX9_append_327 : decode cX9_append 327 = .ok (.iinc 13 1, 3) := by decide +kernel
theorem dX9_append_330 : decode cX9_append 330 = .ok (.goto (-38), 3) := by decide +kernel
theorem dX9_append_333 : decode cX9_append 333 = .ok (.aload_n 0, 1) := by decide +kernel
theorem dX9_append_334 : decode cX9_append 334 = .ok (.getfield 80, 3) := by decide +kernel
theorem dX9_append_337 : decode cX9_append 337 = .ok (.ifCond .le 7, 3) := by decide +kernel
theorem dX9_append_340 : decode cX9_append 340 = .ok (.iconst 0, 1) := by decide +kernel
theorem dX9_append_341 : decode cX9_append 341 = .ok (.goto 17, 3) := by decide +kernel
theorem dX9_append_344 : decode cX9_append 344 = .ok (.aload_n 0, 1) := by decide +kernel
theorem dX9_append_345 : decode cX9_append 345 = .ok (.getfield 58, 3) := by decide +kernel
theorem dX9_append_348 : decode cX9_append 348 = .ok (.iconst 0, 1) := by decide +kernel
theorem dX9_append_349 : decode cX9_append 349 = .ok (.laload, 1) := by decide +kernel
theorem dX9_append_350 : decode cX9_append 350 = .ok (.aload_n 0, 1) := by decide +kernel
theorem dX9_append_351 : decode cX9_append 351 = .ok (.getfield 58, 3) := by decide +kernel
theorem dX9_append_354 : decode cX9_append 354 = .ok (.iconst 3, 1) := by decide +kernel
theorem dX9_append_355 : decode cX9_append 355 = .ok (.laload, 1) := by decide +kernel
theorem dX9_append_356 : decode cX9_append 356 = .ok (.ladd, 1) := by decide +kernel
theorem dX9_append_357 : decode cX9_append 357 = .ok (.l2i, 1) := by decide +kernel
theorem dX9_append_358 : decode cX9_append 358 = .ok (.ireturn, 1) := by decide +kernel
theorem dX9_home_0 : decode cX9_home 0 = .ok (.aload_n 0, 1) := by decide +kernel
theorem dX9_home_1 : decode cX9_home 1 = .ok (.iconst 0, 1) := by decide +kernel
theorem dX9_home_2 : decode cX9_home 2 = .ok (.putfield 80, 3) := by decide +kernel
theorem dX9_home_5 : decode cX9_home 5 = .ok (.aload_n 0, 1) := by decide +kernel
theorem dX9_home_6 : decode cX9_home 6 = .ok (.getfield 58, 3) := by decide +kernel
theorem dX9_home_9 : decode cX9_home 9 = .ok (.iconst 0, 1) := by decide +kernel
theorem dX9_home_10 : decode cX9_home 10 = .ok (.laload, 1) := by decide +kernel
theorem dX9_home_11 : decode cX9_home 11 = .ok (.aload_n 0, 1) := by decide +kernel
theorem dX9_home_12 : decode cX9_home 12 = .ok (.getfield 58, 3) := by decide +kernel
theorem dX9_home_15 : decode cX9_home 15 = .ok (.iconst 3, 1) := by decide +kernel
theorem dX9_home_16 : decode cX9_home 16 = .ok (.laload, 1) := by decide +kernel
theorem dX9_home_17 : decode cX9_home 17 = .ok (.ladd, 1) := by decide +kernel
theorem dX9_home_18 : decode cX9_home 18 = .ok (.l2i, 1) := by decide +kernel
theorem dX9_home_19 : decode cX9_home 19 = .ok (.istore_n 1, 1) := by decide +kernel
theorem dX9_home_20 : decode cX9_home 20 = .ok (.iconst 0, 1) := by decide +kernel
theorem dX9_home_21 : decode cX9_home 21 = .ok (.istore_n 2, 1) := by decide +kernel
theorem dX9_home_22 : decode cX9_home 22 = .ok (.iload_n 2, 1) := by decide +kernel
theorem dX9_home_23 : decode cX9_home 23 = .ok (.iconst 4, 1) := by decide +kernel
theorem dX9_home_24 : decode cX9_home 24 = .ok (.if_icmp .ge 26, 3) := by decide +kernel
theorem dX9_home_27 : decode cX9_home 27 = .ok (.aload_n 0, 1) := by decide +kernel
theorem dX9_home_28 : decode cX9_home 28 = .ok (.getfield 58, 3) := by decide +kernel
theorem dX9_home_31 : decode cX9_home 31 = .ok (.iload_n 2, 1) := by decide +kernel
theorem dX9_home_32 : decode cX9_home 32 = .ok (.iload_n 2, 1) := by decide +kernel
theorem dX9_home_33 : decode cX9_home 33 = .ok (.iconst 3, 1) := by decide +kernel
theorem dX9_home_34 : decode cX9_home 34 = .ok (.irem, 1) := by decide +kernel
theorem dX9_home_35 : decode cX9_home 35 = .ok (.ifCond .ne 7, 3) := by decide +kernel
theorem dX9_home_38 : decode cX9_home 38 = .ok (.lconst 1, 1) := by decide +kernel
theorem dX9_home_39 : decode cX9_home 39 = .ok (.goto 4, 3) := by decide +kernel
theorem dX9_home_42 : decode cX9_home 42 = .ok (.lconst 0, 1) := by decide +kernel
theorem dX9_home_43 : decode cX9_home 43 = .ok (.lastore, 1) := by decide +kernel
theorem dX9_home_44 : decode cX9_home 44 = .ok (.iinc 2 1, 3) := by decide +kernel
theorem dX9_home_47 : decode cX9_home 47 = .ok (.goto (-25), 3) := by decide +kernel
theorem dX9_home_50 : decode cX9_home 50 = .ok (.iload_n 1, 1) := by decide +kernel
theorem dX9_home_51 : decode cX9_home 51 = .ok (.ireturn, 1) := by decide +kernel
set_option maxRecDepth 20000 in
theorem ggX9_word_X9_isIn : GoodIn wsX9_word wsX9_isIn := goodIn_r _ [10] (by decide +kernel) (by decide +kernel)
set_option maxRecDepth 20000 in
theorem gX9_word_X9_isIn : GoodIn wsX9_word (va_wsS RX9 83 yX9_isIn wsX9_isIn) := goodIn_app (goodIn_of _ (by decide +kernel)) ggX9_word_X9_isIn
theorem dX9_word_0 : decode cX9_word 0 = .ok (.aload_n 0, 1) := by decide +kernel
theorem dX9_word_1 : decode cX9_word 1 = .ok (.iload_n 1, 1) := by decide +kernel
theorem dX9_word_2 : decode cX9_word 2 = .ok (.i2l, 1) := by decide +kernel
theorem dX9_word_3 : decode cX9_word 3 = .ok (.lconst 0, 1) := by decide +kernel
theorem dX9_word_4 : decode cX9_word 4 = .ok (.ldc2_w 115, 3) := by decide +kernel
theorem dX9_word_7 : decode cX9_word 7 = .ok (.invokestatic 83, 3) := by decide +kernel
theorem dX9_word_10 : decode cX9_word 10 = .ok (.ifCond .eq 7, 3) := by decide +kernel
theorem dX9_word_13 : decode cX9_word 13 = .ok (.iconst 0, 1) := by decide +kernel
theorem dX9_word_14 : decode cX9_word 14 = .ok (.goto 4, 3) := by decide +kernel
theorem dX9_word_17 : decode cX9_word 17 = .ok (.iconst 1, 1) := by decide +kernel
theorem dX9_word_18 : decode cX9_word 18 = .ok (.putfield 80, 3) := by decide +kernel
theorem dX9_word_21 : decode cX9_word 21 = .ok (.aload_n 0, 1) := by decide +kernel
theorem dX9_word_22 : decode cX9_word 22 = .ok (.getfield 80, 3) := by decide +kernel
theorem dX9_word_25 : decode cX9_word 25 = .ok (.ifCond .le 5, 3) := by decide +kernel
theorem dX9_word_28 : decode cX9_word 28 = .ok (.iconst 0, 1) := by decide +kernel
theorem dX9_word_29 : decode cX9_word 29 = .ok (.ireturn, 1) := by decide +kernel
theorem dX9_word_30 : decode cX9_word 30 = .ok (.aload_n 0, 1) := by decide +kernel
theorem dX9_word_31 : decode cX9_word 31 = .ok (.getfield 58, 3) := by decide +kernel
theorem dX9_word_34 : decode cX9_word 34 = .ok (.iconst 0, 1) := by decide +kernel
theorem dX9_word_35 : decode cX9_word 35 = .ok (.laload, 1) := by decide +kernel
theorem dX9_word_36 : decode cX9_word 36 = .ok (.aload_n 0, 1) := by decide +kernel
theorem dX9_word_37 : decode cX9_word 37 = .ok (.getfield 58, 3) := by decide +kernel
theorem dX9_word_40 : decode cX9_word 40 = .ok (.iconst 3, 1) := by decide +kernel
theorem dX9_word_41 : decode cX9_word 41 = .ok (.laload, 1) := by decide +kernel
theorem dX9_word_42 : decode cX9_word 42 = .ok (.ladd, 1) := by decide +kernel
theorem dX9_word_43 : decode cX9_word 43 = .ok (.lstore_n 2, 1) := by decide +kernel
theorem dX9_word_44 : decode cX9_word 44 = .ok (.aload_n 0, 1) := by decide +kernel
theorem dX9_word_45 : decode cX9_word 45 = .ok (.getfield 58, 3) := by decide +kernel
theorem dX9_word_48 : decode cX9_word 48 = .ok (.iconst 1, 1) := by decide +kernel
theorem dX9_word_49 : decode cX9_word 49 = .ok (.laload, 1) := by decide +kernel
theorem dX9_word_50 : decode cX9_word 50 = .ok (.lconst 0, 1) := by decide +kernel
theorem dX9_word_51 : decode cX9_word 51 = .ok (.lcmp, 1) := by decide +kernel
theorem dX9_word_52 : decode cX9_word 52 = .ok (.ifCond .ne 34, 3) := by decide +kernel
theorem dX9_word_55 : decode cX9_word 55 = .ok (.aload_n 0, 1) := by decide +kernel
theorem dX9_word_56 : decode cX9_word 56 = .ok (.getfield 58, 3) := by decide +kernel
theorem dX9_word_59 : decode cX9_word 59 = .ok (.iconst 2, 1) := by decide +kernel
theorem dX9_word_60 : decode cX9_word 60 = .ok (.laload, 1) := by decide +kernel
theorem dX9_word_61 : decode cX9_word 61 = .ok (.lconst 0, 1) := by decide +kernel
theorem dX9_word_62 : decode cX9_word 62 = .ok (.lcmp, 1) := by decide +kernel
theorem dX9_word_63 : decode cX9_word 63 = .ok (.ifCond .ne 23, 3) := by decide +kernel
theorem dX9_word_66 : decode cX9_word 66 = .ok (.aload_n 0, 1) := by decide +kernel
theorem dX9_word_67 : decode cX9_word 67 = .ok (.getfield 58, 3) := by decide +kernel
theorem dX9_word_70 : decode cX9_word 70 = .ok (.iconst 0, 1) := by decide +kernel
theorem dX9_word_71 : decode cX9_word 71 = .ok (.laload, 1) := by decide +kernel
theorem dX9_word_72 : decode cX9_word 72 = .ok (.aload_n 0, 1) := by decide +kernel
theorem dX9_word_73 : decode cX9_word 73 = .ok (.getfield 58, 3) := by decide +kernel
theorem dX9_word_76 : decode cX9_word 76 = .ok (.iconst 3, 1) := by decide +kernel
theorem dX9_word_77 : decode cX9_word 77 = .ok (.laload, 1) := by decide +kernel
theorem dX9_word_78 : decode cX9_word 78 = .ok (.lcmp, 1) := by decide +kernel
theorem dX9_word_79 : decode cX9_word 79 = .ok (.ifCond .ne 7, 3) := by decide +kernel
theorem dX9_word_82 : decode cX9_word 82 = .ok (.iconst 1, 1) := by decide +kernel
theorem dX9_word_83 : decode cX9_word 83 = .ok (.goto 4, 3) := by decide +kernel
theorem dX9_word_86 : decode cX9_word 86 = .ok (.iconst 0, 1) := by decide +kernel
theorem dX9_word_87 : decode cX9_word 87 = .ok (.istore 4, 2) := by decide +kernel
theorem dX9_word_89 : decode cX9_word 89 = .ok (.iload 4, 2) := by decide +kernel
theorem dX9_word_91 : decode cX9_word 91 = .ok (.ifCond .eq 7, 3) := by decide +kernel
theorem dX9_word_94 : decode cX9_word 94 = .ok (.iconst 0, 1) := by decide +kernel
theorem dX9_word_95 : decode cX9_word 95 = .ok (.goto 36, 3) := by decide +kernel
theorem dX9_word_98 : decode cX9_word 98 = .ok (.lload_n 2, 1) := by decide +kernel
theorem dX9_word_99 : decode cX9_word 99 = .ok (.ldc2_w 181, 3) := by decide +kernel
theorem dX9_word_102 : decode cX9_word 102 = .ok (.lconst 1, 1) := by decide +kernel
theorem dX9_word_103 : decode cX9_word 103 = .ok (.invokestatic 83, 3) := by decide +kernel
theorem dX9_word_106 : decode cX9_word 106 = .ok (.ifCond .eq 7, 3) := by decide +kernel
theorem dX9_word_109 : decode cX9_word 109 = .ok (.iconst 1, 1) := by decide +kernel
theorem dX9_word_110 : decode cX9_word 110 = .ok (.goto 21, 3) := by decide +kernel
theorem dX9_word_113 : decode cX9_word 113 = .ok (.lload_n 2, 1) := by decide +kernel
theorem dX9_word_114 : decode cX9_word 114 = .ok (.ldc2_w 205, 3) := by decide +kernel
theorem dX9_word_117 : decode cX9_word 117 = .ok (.ldc2_w 109, 3) := by decide +kernel
theorem dX9_word_120 : decode cX9_word 120 = .ok (.invokestatic 83, 3) := by decide +kernel
theorem dX9_word_123 : decode cX9_word 123 = .ok (.ifCond .eq 7, 3) := by decide +kernel
theorem dX9_word_126 : decode cX9_word 126 = .ok (.iconst 2, 1) := by decide +kernel
theorem dX9_word_127 : decode cX9_word 127 = .ok (.goto 4, 3) := by decide +kernel
theorem dX9_word_130 : decode cX9_word 130 = .ok (.iconst 3, 1) := by decide +kernel
theorem dX9_word_131 : decode cX9_word 131 = .ok (.istore 5, 2) := by decide +kernel
theorem dX9_word_133 : decode cX9_word 133 = .ok (.iload_n 1, 1) := by decide +kernel
theorem dX9_word_134 : decode cX9_word 134 = .ok (.iconst 4, 1) := by decide +kernel
theorem dX9_word_135 : decode cX9_word 135 = .ok (.if_icmp .ge 13, 3) := by decide +kernel
theorem dX9_word_138 : decode cX9_word 138 = .ok (.aload_n 0, 1) := by decide +kernel
theorem dX9_word_139 : decode cX9_word 139 = .ok (.getfield 58, 3) := by decide +kernel
theorem dX9_word_142 : decode cX9_word 142 = .ok (.iload_n 1, 1) := by decide +kernel
theorem dX9_word_143 : decode cX9_word 143 = .ok (.laload, 1) := by decide +kernel
theorem dX9_word_144 : decode cX9_word 144 = .ok (.l2i, 1) := by decide +kernel
theorem dX9_word_145 : decode cX9_word 145 = .ok (.goto 5, 3) := by decide +kernel
theorem dX9_word_148 : decode cX9_word 148 = .ok (.iload 5, 2) := by decide +kernel
theorem dX9_word_150 : decode cX9_word 150 = .ok (.ireturn, 1) := by decide +kernel
set_option maxRecDepth 20000 in
theorem ggX9_image_X9_isFraction : GoodIn wsX9_image wsX9_isFraction := goodIn_r _ [6, 7, 8, 9, 10, 5, 11, 12, 13, 14] (by decide +kernel) (by decide +kernel)
set_option maxRecDepth 20000 in
theorem gX9_image_X9_isFraction : GoodIn wsX9_image (va_wsS RX9 174 yX9_isFraction wsX9_isFraction) := goodIn_app (goodIn_of _ (by decide +kernel)) ggX9_image_X9_isFraction
theorem dX9_image_0 : decode cX9_image 0 = .ok (.aload_n 0, 1) := by decide +kernel
theorem dX9_image_1 : decode cX9_image 1 = .ok (.iload_n 1, 1) := by decide +kernel
theorem dX9_image_2 : decode cX9_image 2 = .ok (.iload_n 2, 1) := by decide +kernel
theorem dX9_image_3 : decode cX9_image 3 = .ok (.iconst 0, 1) := by decide +kernel
theorem dX9_image_4 : decode cX9_image 4 = .ok (.invokestatic 174, 3) := by decide +kernel
theorem dX9_image_7 : decode cX9_image 7 = .ok (.ifCond .eq 16, 3) := by decide +kernel
theorem dX9_image_10 : decode cX9_image 10 = .ok (.iload_n 2, 1) := by decide +kernel
theorem dX9_image_11 : decode cX9_image 11 = .ok (.ifCond .gt 8, 3) := by decide +kernel
theorem dX9_image_14 : decode cX9_image 14 = .ok (.iload_n 1, 1) := by decide +kernel
theorem dX9_image_15 : decode cX9_image 15 = .ok (.iconst 1, 1) := by decide +kernel
theorem dX9_image_16 : decode cX9_image 16 = .ok (.if_icmp .ne 7, 3) := by decide +kernel
theorem dX9_image_19 : decode cX9_image 19 = .ok (.iconst 0, 1) := by decide +kernel
theorem dX9_image_20 : decode cX9_image 20 = .ok (.goto 4, 3) := by decide +kernel
theorem dX9_image_23 : decode cX9_image 23 = .ok (.iconst 1, 1) := by decide +kernel
theorem dX9_image_24 : decode cX9_image 24 = .ok (.putfield 80, 3) := by decide +kernel
theorem dX9_image_27 : decode cX9_image 27 = .ok (.aload_n 0, 1) := by decide +kernel
theorem dX9_image_28 : decode cX9_image 28 = .ok (.getfield 80, 3) := by decide +kernel
theorem dX9_image_31 : decode cX9_image 31 = .ok (.ifCond .le 5, 3) := by decide +kernel
theorem dX9_image_34 : decode cX9_image 34 = .ok (.lconst 0, 1) := by decide +kernel
theorem dX9_image_35 : decode cX9_image 35 = .ok (.lreturn, 1) := by decide +kernel
theorem dX9_image_36 : decode cX9_image 36 = .ok (.aload_n 0, 1) := by decide +kernel
theorem dX9_image_37 : decode cX9_image 37 = .ok (.getfield 58, 3) := by decide +kernel
theorem dX9_image_40 : decode cX9_image 40 = .ok (.iconst 0, 1) := by decide +kernel
theorem dX9_image_41 : decode cX9_image 41 = .ok (.laload, 1) := by decide +kernel
theorem dX9_image_42 : decode cX9_image 42 = .ok (.iload_n 1, 1) := by decide +kernel
theorem dX9_image_43 : decode cX9_image 43 = .ok (.i2l, 1) := by decide +kernel
theorem dX9_image_44 : decode cX9_image 44 = .ok (.lmul, 1) := by decide +kernel
theorem dX9_image_45 : decode cX9_image 45 = .ok (.aload_n 0, 1) := by decide +kernel
theorem dX9_image_46 : decode cX9_image 46 = .ok (.getfield 58, 3) := by decide +kernel
theorem dX9_image_49 : decode cX9_image 49 = .ok (.iconst 1, 1) := by decide +kernel
theorem dX9_image_50 : decode cX9_image 50 = .ok (.laload, 1) := by decide +kernel
theorem dX9_image_51 : decode cX9_image 51 = .ok (.iload_n 2, 1) := by decide +kernel
theorem dX9_image_52 : decode cX9_image 52 = .ok (.i2l, 1) := by decide +kernel
theorem dX9_image_53 : decode cX9_image 53 = .ok (.lmul, 1) := by decide +kernel
theorem dX9_image_54 : decode cX9_image 54 = .ok (.ladd, 1) := by decide +kernel
theorem dX9_image_55 : decode cX9_image 55 = .ok (.lstore 4, 2) := by decide +kernel
theorem dX9_image_57 : decode cX9_image 57 = .ok (.aload_n 0, 1) := by decide +kernel
theorem dX9_image_58 : decode cX9_image 58 = .ok (.getfield 58, 3) := by decide +kernel
theorem dX9_image_61 : decode cX9_image 61 = .ok (.iconst 2, 1) := by decide +kernel
theorem dX9_image_62 : decode cX9_image 62 = .ok (.laload, 1) := by decide +kernel
theorem dX9_image_63 : decode cX9_image 63 = .ok (.iload_n 1, 1) := by decide +kernel
theorem dX9_image_64 : decode cX9_image 64 = .ok (.i2l, 1) := by decide +kernel
theorem dX9_image_65 : decode cX9_image 65 = .ok (.lmul, 1) := by decide +kernel
theorem dX9_image_66 : decode cX9_image 66 = .ok (.aload_n 0, 1) := by decide +kernel
theorem dX9_image_67 : decode cX9_image 67 = .ok (.getfield 58, 3) := by decide +kernel
theorem dX9_image_70 : decode cX9_image 70 = .ok (.iconst 3, 1) := by decide +kernel
theorem dX9_image_71 : decode cX9_image 71 = .ok (.laload, 1) := by decide +kernel
theorem dX9_image_72 : decode cX9_image 72 = .ok (.iload_n 2, 1) := by decide +kernel
theorem dX9_image_73 : decode cX9_image 73 = .ok (.i2l, 1) := by decide +kernel
theorem dX9_image_74 : decode cX9_image 74 = .ok (.lmul, 1) := by decide +kernel
theorem dX9_image_75 : decode cX9_image 75 = .ok (.ladd, 1) := by decide +kernel
theorem dX9_image_76 : decode cX9_image 76 = .ok (.lstore 6, 2) := by decide +kernel
theorem dX9_image_78 : decode cX9_image 78 = .ok (.lload 6, 2) := by decide +kernel
theorem dX9_image_80 : decode cX9_image 80 = .ok (.lconst 0, 1) := by decide +kernel
theorem dX9_image_81 : decode cX9_image 81 = .ok (.lcmp, 1) := by decide +kernel
theorem dX9_image_82 : decode cX9_image 82 = .ok (.ifCond .lt 17, 3) := by decide +kernel
theorem dX9_image_85 : decode cX9_image 85 = .ok (.lload 6, 2) := by decide +kernel
theorem dX9_image_87 : decode cX9_image 87 = .ok (.lconst 0, 1) := by decide +kernel
theorem dX9_image_88 : decode cX9_image 88 = .ok (.lcmp, 1) := by decide +kernel
theorem dX9_image_89 : decode cX9_image 89 = .ok (.ifCond .ne 14, 3) := by decide +kernel
theorem dX9_image_92 : decode cX9_image 92 = .ok (.lload 4, 2) := by decide +kernel
theorem dX9_image_94 : decode cX9_image 94 = .ok (.lconst 0, 1) := by decide +kernel
theorem dX9_image_95 : decode cX9_image 95 = .ok (.lcmp, 1) := by decide +kernel
theorem dX9_image_96 : decode cX9_image 96 = .ok (.ifCond .ge 7, 3) := by decide +kernel
theorem dX9_image_99 : decode cX9_image 99 = .ok (.iconst 1, 1) := by decide +kernel
theorem dX9_image_100 : decode cX9_image 100 = .ok (.goto 4, 3) := by decide +kernel
theorem dX9_image_103 : decode cX9_image 103 = .ok (.iconst 0, 1) := by decide +kernel
theorem dX9_image_104 : decode cX9_image 104 = .ok (.istore 8, 2) := by decide +kernel
theorem dX9_image_106 : decode cX9_image 106 = .ok (.iload_n 3, 1) := by decide +kernel
theorem dX9_image_107 : decode cX9_image 107 = .ok (.ifCond .eq 19, 3) := by decide +kernel
theorem dX9_image_110 : decode cX9_image 110 = .ok (.iload 8, 2) := by decide +kernel
theorem dX9_image_112 : decode cX9_image 112 = .ok (.ifCond .eq 9, 3) := by decide +kernel
theorem dX9_image_115 : decode cX9_image 115 = .ok (.lload 4, 2) := by decide +kernel
theorem dX9_image_117 : decode cX9_image 117 = .ok (.lneg, 1) := by decide +kernel
theorem dX9_image_118 : decode cX9_image 118 = .ok (.goto 21, 3) := by decide +kernel
theorem dX9_image_121 : decode cX9_image 121 = .ok (.lload 4, 2) := by decide +kernel
theorem dX9_image_123 : decode cX9_image 123 = .ok (.goto 16, 3) := by decide +kernel
theorem dX9_image_126 : decode cX9_image 126 = .ok (.iload 8, 2) := by decide +kernel
theorem dX9_image_128 : decode cX9_image 128 = .ok (.ifCond .eq 9, 3) := by decide +kernel
theorem dX9_image_131 : decode cX9_image 131 = .ok (.lload 6, 2) := by decide +kernel
theorem dX9_image_133 : decode cX9_image 133 = .ok (.lneg, 1) := by decide +kernel
theorem dX9_image_134 : decode cX9_image 134 = .ok (.goto 5, 3) := by decide +kernel
theorem dX9_image_137 : decode cX9_image 137 = .ok (.lload 6, 2) := by decide +kernel
theorem dX9_image_139 : decode cX9_image 139 = .ok (.lreturn, 1) := by decide +kernel
set_option maxRecDepth 20000 in
theorem ggX9_nodes_X9_isIn : GoodIn wsX9_nodes wsX9_isIn := goodIn_r _ [9] (by decide +kernel) (by decide +kernel)
set_option maxRecDepth 20000 in
theorem gX9_nodes_X9_isIn : GoodIn wsX9_nodes (va_wsS RX9 83 yX9_isIn wsX9_isIn) := goodIn_app (goodIn_of _ (by decide +kernel)) ggX9_nodes_X9_isIn
theorem dX9_nodes_0 : decode cX9_nodes 0 = .ok (.aload_n 0, 1) := by decide +kernel
theorem dX9_nodes_1 : decode cX9_nodes 1 = .ok (.iload_n 1, 1) := by decide +kernel
theorem dX9_nodes_2 : decode cX9_nodes 2 = .ok (.i2l, 1) := by decide +kernel
theorem dX9_nodes_3 : decode cX9_nodes 3 = .ok (.ldc2_w 109, 3) := by decide +kernel
theorem dX9_nodes_6 : decode cX9_nodes 6 = .ok (.ldc2_w 207, 3) := by decide +kernel
theorem dX9_nodes_9 : decode cX9_nodes 9 = .ok (.invokestatic 83, 3) := by decide +kernel
theorem dX9_nodes_12 : decode cX9_nodes 12 = .ok (.ifCond .eq 7, 3) := by decide +kernel
theorem dX9_nodes_15 : decode cX9_nodes 15 = .ok (.iconst 0, 1) := by decide +kernel
theorem dX9_nodes_16 : decode cX9_nodes 16 = .ok (.goto 4, 3) := by decide +kernel
theorem dX9_nodes_19 : decode cX9_nodes 19 = .ok (.iconst 1, 1) := by decide +kernel
theorem dX9_nodes_20 : decode cX9_nodes 20 = .ok (.putfield 80, 3) := by decide +kernel
theorem dX9_nodes_23 : decode cX9_nodes 23 = .ok (.aload_n 0, 1) := by decide +kernel
theorem dX9_nodes_24 : decode cX9_nodes 24 = .ok (.getfield 80, 3) := by decide +kernel
theorem dX9_nodes_27 : decode cX9_nodes 27 = .ok (.ifCond .le 5, 3) := by decide +kernel
theorem dX9_nodes_30 : decode cX9_nodes 30 = .ok (.iconst 0, 1) := by decide +kernel
theorem dX9_nodes_31 : decode cX9_nodes 31 = .ok (.ireturn, 1) := by decide +kernel
theorem dX9_nodes_32 : decode cX9_nodes 32 = .ok (.aload_n 0, 1) := by decide +kernel
theorem dX9_nodes_33 : decode cX9_nodes 33 = .ok (.getfield 64, 3) := by decide +kernel
theorem dX9_nodes_36 : decode cX9_nodes 36 = .ok (.istore_n 2, 1) := by decide +kernel
theorem dX9_nodes_37 : decode cX9_nodes 37 = .ok (.aload_n 0, 1) := by decide +kernel
theorem dX9_nodes_38 : decode cX9_nodes 38 = .ok (.iload_n 1, 1) := by decide +kernel
theorem dX9_nodes_39 : decode cX9_nodes 39 = .ok (.putfield 64, 3) := by decide +kernel
theorem dX9_nodes_42 : decode cX9_nodes 42 = .ok (.aload_n 0, 1) := by decide +kernel
theorem dX9_nodes_43 : decode cX9_nodes 43 = .ok (.iconst 0, 1) := by decide +kernel
theorem dX9_nodes_44 : decode cX9_nodes 44 = .ok (.putfield 209, 3) := by decide +kernel
theorem dX9_nodes_47 : decode cX9_nodes 47 = .ok (.iload_n 2, 1) := by decide +kernel
theorem dX9_nodes_48 : decode cX9_nodes 48 = .ok (.ireturn, 1) := by decide +kernel
set_option maxRecDepth 20000 in
theorem ggX9_isNode_X9_isIn : GoodIn wsX9_isNode wsX9_isIn := goodIn_r _ [5] (by decide +kernel) (by decide +kernel)
set_option maxRecDepth 20000 in
theorem gX9_isNode_X9_isIn : GoodIn wsX9_isNode (va_wsS RX9 83 yX9_isIn wsX9_isIn) := goodIn_app (goodIn_of _ (by decide +kernel)) ggX9_isNode_X9_isIn
theorem dX9_isNode_0 : decode cX9_isNode 0 = .ok (.iload_n 1, 1) := by decide +kernel
theorem dX9_isNode_1 : decode cX9_isNode 1 = .ok (.i2l, 1) := by decide +kernel
theorem dX9_isNode_2 : decode cX9_isNode 2 = .ok (.lconst 0, 1) := by decide +kernel
theorem dX9_isNode_3 : decode cX9_isNode 3 = .ok (.aload_n 0, 1) := by decide +kernel
theorem dX9_isNode_4 : decode cX9_isNode 4 = .ok (.getfield 64, 3) := by decide +kernel
theorem dX9_isNode_7 : decode cX9_isNode 7 = .ok (.iconst 1, 1) := by decide +kernel
theorem dX9_isNode_8 : decode cX9_isNode 8 = .ok (.isub, 1) := by decide +kernel
theorem dX9_isNode_9 : decode cX9_isNode 9 = .ok (.i2l, 1) := by decide +kernel
theorem dX9_isNode_10 : decode cX9_isNode 10 = .ok (.invokestatic 83, 3) := by decide +kernel
theorem dX9_isNode_13 : decode cX9_isNode 13 = .ok (.ireturn, 1) := by decide +kernel
set_option maxRecDepth 20000 in
theorem ggX9_wire_X9_isNode : GoodIn wsX9_wire wsX9_isNode := goodIn_r _ [9, 10, 11, 12, 8, 13, 14, 15, 16, 17, 18, 19, 20, 21, 22, 23, 24, 25, 26, 27, 28, 29, 30, 31, 32, 33, 34, 35, 36, 37, 38, 39, 40, 41] (by decide +kernel) (by decide +kernel)
set_option maxRecDepth 20000 in
theorem gX9_wire_X9_isNode : GoodIn wsX9_wire (wsV RX9 212 RX9 yX9_isNode wsX9_isNode) := goodIn_app (goodIn_of _ (by decide +kernel)) ggX9_wire_X9_isNode
theorem dX9_wire_0 : decode cX9_wire 0 = .ok (.aload_n 0, 1) := by decide +kernel
theorem dX9_wire_1 : decode cX9_wire 1 = .ok (.aload_n 0, 1) := by decide +kernel
theorem dX9_wire_2 : decode cX9_wire 2 = .ok (.iload_n 1, 1) := by decide +kernel
theorem dX9_wire_3 : decode cX9_wire 3 = .ok (.invokevirtual 212, 3) := by decide +kernel
theorem dX9_wire_6 : decode cX9_wire 6 = .ok (.ifCond .eq 11, 3) := by decide +kernel
theorem dX9_wire_9 : decode cX9_wire 9 = .ok (.aload_n 0, 1) := by decide +kernel
theorem dX9_wire_10 : decode cX9_wire 10 = .ok (.iload_n 2, 1) := by decide +kernel
theorem dX9_wire_11 : decode cX9_wire 11 = .ok (.invokevirtual 212, 3) := by decide +kernel
theorem dX9_wire_14 : decode cX9_wire 14 = .ok (.ifCond .ne 7, 3) := by decide +kernel
theorem dX9_wire_17 : decode cX9_wire 17 = .ok (.iconst 1, 1) := by decide +kernel
theorem dX9_wire_18 : decode cX9_wire 18 = .ok (.goto 26, 3) := by decide +kernel
theorem dX9_wire_21 : decode cX9_wire 21 = .ok (.iload_n 1, 1) := by decide +kernel
theorem dX9_wire_22 : decode cX9_wire 22 = .ok (.iload_n 2, 1) := by decide +kernel
theorem dX9_wire_23 : decode cX9_wire 23 = .ok (.if_icmp .ne 7, 3) := by decide +kernel
theorem dX9_wire_26 : decode cX9_wire 26 = .ok (.iconst 2, 1) := by decide +kernel
theorem dX9_wire_27 : decode cX9_wire 27 = .ok (.goto 17, 3) := by decide +kernel
theorem dX9_wire_30 : decode cX9_wire 30 = .ok (.aload_n 0, 1) := by decide +kernel
theorem dX9_wire_31 : decode cX9_wire 31 = .ok (.getfield 209, 3) := by decide +kernel
theorem dX9_wire_34 : decode cX9_wire 34 = .ok (.bipush 10, 2) := by decide +kernel
theorem dX9_wire_36 : decode cX9_wire 36 = .ok (.if_icmp .ne 7, 3) := by decide +kernel
theorem dX9_wire_39 : decode cX9_wire 39 = .ok (.iconst 3, 1) := by decide +kernel
theorem dX9_wire_40 : decode cX9_wire 40 = .ok (.goto 4, 3) := by decide +kernel
theorem dX9_wire_43 : decode cX9_wire 43 = .ok (.iconst 0, 1) := by decide +kernel
theorem dX9_wire_44 : decode cX9_wire 44 = .ok (.putfield 80, 3) := by decide +kernel
theorem dX9_wire_47 : decode cX9_wire 47 = .ok (.aload_n 0, 1) := by decide +kernel
theorem dX9_wire_48 : decode cX9_wire 48 = .ok (.getfield 80, 3) := by decide +kernel
theorem dX9_wire_51 : decode cX9_wire 51 = .ok (.ifCond .le 5, 3) := by decide +kernel
theorem dX9_wire_54 : decode cX9_wire 54 = .ok (.iconst 0, 1) := by decide +kernel
theorem dX9_wire_55 : decode cX9_wire 55 = .ok (.ireturn, 1) := by decide +kernel
theorem dX9_wire_56 : decode cX9_wire 56 = .ok (.aload_n 0, 1) := by decide +kernel
theorem dX9_wire_57 : decode cX9_wire 57 = .ok (.getfield 67, 3) := by decide +kernel
theorem dX9_wire_60 : decode cX9_wire 60 = .ok (.aload_n 0, 1) := by decide +kernel
theorem dX9_wire_61 : decode cX9_wire 61 = .ok (.getfield 209, 3) := by decide +kernel
theorem dX9_wire_64 : decode cX9_wire 64 = .ok (.iload_n 1, 1) := by decide +kernel
theorem dX9_wire_65 : decode cX9_wire 65 = .ok (.iastore, 1) := by decide +kernel
theorem dX9_wire_66 : decode cX9_wire 66 = .ok (.aload_n 0, 1) := by decide +kernel
theorem dX9_wire_67 : decode cX9_wire 67 = .ok (.getfield 70, 3) := by decide +kernel
theorem dX9_wire_70 : decode cX9_wire 70 = .ok (.aload_n 0, 1) := by decide +kernel
theorem dX9_wire_71 : decode cX9_wire 71 = .ok (.getfield 209, 3) := by decide +kernel
theorem dX9_wire_74 : decode cX9_wire 74 = .ok (.iload_n 2, 1) := by decide +kernel
theorem dX9_wire_75 : decode cX9_wire 75 = .ok (.iastore, 1) := by decide +kernel
theorem dX9_wire_76 : decode cX9_wire 76 = .ok (.aload_n 0, 1) := by decide +kernel
theorem dX9_wire_77 : decode cX9_wire 77 = .ok (.dup, 1) := by decide +kernel
theorem dX9_wire_78 : decode cX9_wire 78 = .ok (.getfield 209, 3) := by decide +kernel
theorem dX9_wire_81 : decode cX9_wire 81 = .ok (.iconst 1, 1) := by decide +kernel
theorem dX9_wire_82 : decode cX9_wire 82 = .ok (.iadd, 1) := by decide +kernel
theorem dX9_wire_83 : decode cX9_wire 83 = .ok (.putfield 209, 3) := by decide +kernel
theorem dX9_wire_86 : decode cX9_wire 86 = .ok (.aload_n 0, 1) := by decide +kernel
theorem dX9_wire_87 : decode cX9_wire 87 = .ok (.getfield 209, 3) := by decide +kernel
theorem dX9_wire_90 : decode cX9_wire 90 = .ok (.iconst 1, 1) := by decide +kernel
theorem dX9_wire_91 : decode cX9_wire 91 = .ok (.isub, 1) := by decide +kernel
theorem dX9_wire_92 : decode cX9_wire 92 = .ok (.ireturn, 1) := by decide +kernel
theorem dX9_partsBy_0 : decode cX9_partsBy 0 = .ok (.iconst 0, 1) := by decide +kernel
theorem dX9_partsBy_1 : decode cX9_partsBy 1 = .ok (.istore_n 2, 1) := by decide +kernel
theorem dX9_partsBy_2 : decode cX9_partsBy 2 = .ok (.iload_n 2, 1) := by decide +kernel
theorem dX9_partsBy_3 : decode cX9_partsBy 3 = .ok (.aload_n 0, 1) := by decide +kernel
theorem dX9_partsBy_4 : decode cX9_partsBy 4 = .ok (.getfield 64, 3) := by decide +kernel
theorem dX9_partsBy_7 : decode cX9_partsBy 7 = .ok (.if_icmp .ge 16, 3) := by decide +kernel
theorem dX9_partsBy_10 : decode cX9_partsBy 10 = .ok (.aload_n 0, 1) := by decide +kernel
theorem dX9_partsBy_11 : decode cX9_partsBy 11 = .ok (.getfield 73, 3) := by decide +kernel
theorem dX9_partsBy_14 : decode cX9_partsBy 14 = .ok (.iload_n 2, 1) := by decide +kernel
theorem dX9_partsBy_15 : decode cX9_partsBy 15 = .ok (.iload_n 2, 1) := by decide +kernel
theorem dX9_partsBy_16 : decode cX9_partsBy 16 = .ok (.iastore, 1) := by decide +kernel
theorem dX9_partsBy_17 : decode cX9_partsBy 17 = .ok (.iinc 2 1, 3) := by decide +kernel
theorem dX9_partsBy_20 : decode cX9_partsBy 20 = .ok (.goto (-18), 3) := by decide +kernel
theorem dX9_partsBy_23 : decode cX9_partsBy 23 = .ok (.aload_n 0, 1) := by decide +kernel
theorem dX9_partsBy_24 : decode cX9_partsBy 24 = .ok (.getfield 64, 3) := by decide +kernel
theorem dX9_partsBy_27 : decode cX9_partsBy 27 = .ok (.istore_n 2, 1) := by decide +kernel
theorem dX9_partsBy_28 : decode cX9_partsBy 28 = .ok (.iconst 0, 1) := by decide +kernel
theorem dX9_partsBy_29 : decode cX9_partsBy 29 = .ok (.istore_n 3, 1) := by decide +kernel
theorem dX9_partsBy_30 : decode cX9_partsBy 30 = .ok (.iload_n 3, 1) := by decide +kernel
theorem dX9_partsBy_31 : decode cX9_partsBy 31 = .ok (.aload_n 0, 1) := by decide +kernel
theorem dX9_partsBy_32 : decode cX9_partsBy 32 = .ok (.getfield 209, 3) := by decide +kernel
theorem dX9_partsBy_35 : decode cX9_partsBy 35 = .ok (.if_icmp .ge 105, 3) := by decide +kernel
theorem dX9_partsBy_38 : decode cX9_partsBy 38 = .ok (.iload_n 1, 1) := by decide +kernel
theorem dX9_partsBy_39 : decode cX9_partsBy 39 = .ok (.iload_n 3, 1) := by decide +kernel
theorem dX9_partsBy_40 : decode cX9_partsBy 40 = .ok (.ishr, 1) := by decide +kernel
theorem dX9_partsBy_41 : decode cX9_partsBy 41 = .ok (.iconst 1, 1) := by decide +kernel
theorem dX9_partsBy_42 : decode cX9_partsBy 42 = .ok (.iand, 1) := by decide +kernel
theorem dX9_partsBy_43 : decode cX9_partsBy 43 = .ok (.iconst 1, 1) := by decide +kernel
theorem dX9_partsBy_44 : decode cX9_partsBy 44 = .ok (.if_icmp .ne 90, 3) := by decide +kernel
theorem dX9_partsBy_47 : decode cX9_partsBy 47 = .ok (.aload_n 0, 1) := by decide +kernel
theorem dX9_partsBy_48 : decode cX9_partsBy 48 = .ok (.getfield 73, 3) := by decide +kernel
theorem dX9_partsBy_51 : decode cX9_partsBy 51 = .ok (.aload_n 0, 1) := by decide +kernel
theorem dX9_partsBy_52 : decode cX9_partsBy 52 = .ok (.getfield 67, 3) := by decide +kernel
theorem dX9_partsBy_55 : decode cX9_partsBy 55 = .ok (.iload_n 3, 1) := by decide +kernel
theorem dX9_partsBy_56 : decode cX9_partsBy 56 = .ok (.iaload, 1) := by decide +kernel
theorem dX9_partsBy_57 : decode cX9_partsBy 57 = .ok (.iaload, 1) := by decide +kernel
theorem dX9_partsBy_58 : decode cX9_partsBy 58 = .ok (.istore 4, 2) := by decide +kernel
theorem dX9_partsBy_60 : decode cX9_partsBy 60 = .ok (.aload_n 0, 1) := by decide +kernel
theorem dX9_partsBy_61 : decode cX9_partsBy 61 = .ok (.getfield 73, 3) := by decide +kernel
theorem dX9_partsBy_64 : decode cX9_partsBy 64 = .ok (.aload_n 0, 1) := by decide +kernel
theorem dX9_partsBy_65 : decode cX9_partsBy 65 = .ok (.getfield 70, 3) := by decide +kernel
theorem dX9_partsBy_68 : decode cX9_partsBy 68 = .ok (.iload_n 3, 1) := by decide +kernel
theorem dX9_partsBy_69 : decode cX9_partsBy 69 = .ok (.iaload, 1) := by decide +kernel
theorem dX9_partsBy_70 : decode cX9_partsBy 70 = .ok (.iaload, 1) := by decide +kernel
theorem dX9_partsBy_71 : decode cX9_partsBy 71 = .ok (.istore 5, 2) := by decide +kernel
theorem dX9_partsBy_73 : decode cX9_partsBy 73 = .ok (.iload 4, 2) := by decide +kernel
theorem dX9_partsBy_75 : decode cX9_partsBy 75 = .ok (.iload 5, 2) := by decide +kernel
theorem dX9_partsBy_77 : decode cX9_partsBy 77 = .ok (.if_icmp .ne 5, 3) := by decide +kernel
theorem dX9_partsBy_80 : decode cX9_partsBy 80 = .ok (.iconst (-1), 1) := by decide +kernel
theorem dX9_partsBy_81 : decode cX9_partsBy 81 = .ok (.ireturn, 1) := by decide +kernel
theorem dX9_partsBy_82 : decode cX9_partsBy 82 = .ok (.iconst 0, 1) := by decide +kernel
theorem dX9_partsBy_83 : decode cX9_partsBy 83 = .ok (.istore 6, 2) := by decide +kernel
theorem dX9_partsBy_85 : decode cX9_partsBy 85 = .ok (.iload 6, 2) := by decide +kernel
theorem dX9_partsBy_87 : decode cX9_partsBy 87 = .ok (.aload_n 0, 1) := by decide +kernel
theorem dX9_partsBy_88 : decode cX9_partsBy 88 = .ok (.getfield 64, 3) := by decide +kernel
theorem dX9_partsBy_91 : decode cX9_partsBy 91 = .ok (.if_icmp .ge 40, 3) := by decide +kernel
theorem dX9_partsBy_94 : decode cX9_partsBy 94 = .ok (.aload_n 0, 1) := by decide +kernel
theorem dX9_partsBy_95 : decode cX9_partsBy 95 = .ok (.getfield 73, 3) := by decide +kernel
theorem dX9_partsBy_98 : decode cX9_partsBy 98 = .ok (.iload 6, 2) := by decide +kernel
theorem dX9_partsBy_100 : decode cX9_partsBy 100 = .ok (.aload_n 0, 1) := by decide +kernel
theorem dX9_partsBy_101 : decode cX9_partsBy 101 = .ok (.getfield 73, 3) := by decide +kernel
theorem dX9_partsBy_104 : decode cX9_partsBy 104 = .ok (.iload 6, 2) := by decide +kernel
theorem dX9_partsBy_106 : decode cX9_partsBy 106 = .ok (.iaload, 1) := by decide +kernel
theorem dX9_partsBy_107 : decode cX9_partsBy 107 = .ok (.iload 5, 2) := by decide +kernel
theorem dX9_partsBy_109 : decode cX9_partsBy 109 = .ok (.if_icmp .ne 8, 3) := by decide +kernel
theorem dX9_partsBy_112 : decode cX9_partsBy 112 = .ok (.iload 4, 2) := by decide +kernel
theorem dX9_partsBy_114 : decode cX9_partsBy 114 = .ok (.goto 10, 3) := by decide +kernel
theorem dX9_partsBy_117 : decode cX9_partsBy 117 = .ok (.aload_n 0, 1) := by decide +kernel
theorem dX9_partsBy_118 : decode cX9_partsBy 118 = .ok (.getfield 73, 3) := by decide +kernel
theorem dX9_partsBy_121 : decode cX9_partsBy 121 = .ok (.iload 6, 2) := by decide +kernel
theorem dX9_partsBy_123 : decode cX9_partsBy 123 = .ok (.iaload, 1) := by decide +kernel
theorem dX9_partsBy_124 : decode cX9_partsBy 124 = .ok (.iastore, 1) := by decide +kernel
theorem dX9_partsBy_125 : decode cX9_partsBy 125 = .ok (.iinc 6 1, 3) := by decide +kernel
theorem dX9_partsBy_128 : decode cX9_partsBy 128 = .ok (.goto (-43), 3) := by decide +kernel
theorem dX9_partsBy_131 : decode cX9_partsBy 131 = .ok (.iinc 2 (-1), 3) := by decide +kernel
theorem dX9_partsBy_134 : decode cX9_partsBy 134 = .ok (.iinc 3 1, 3) := by decide +kernel
theorem dX9_partsBy_137 : decode cX9_partsBy 137 = .ok (.goto (-107), 3) := by decide +kernel
theorem dX9_partsBy_140 : decode cX9_partsBy 140 = .ok (.iload_n 2, 1) := by decide +kernel
theorem dX9_partsBy_141 : decode cX9_partsBy 141 = .ok (.ireturn, 1) := by decide +kernel
set_option maxRecDepth 20000 in
theorem ggX9_treesOf_X9_partsBy : GoodIn wsX9_treesOf wsX9_partsBy := goodIn_r _ [6, 7, 8, 1, 9, 10, 11, 12, 13, 14, 15, 16, 17, 18, 19, 20, 21, 22, 23, 24, 25, 26, 27, 28, 29, 30, 31, 32, 33, 34, 35, 36, 37, 38] (by decide +kernel) (by decide +kernel)
set_option maxRecDepth 20000 in
theorem gX9_treesOf_X9_partsBy : GoodIn wsX9_treesOf (wsV RX9 215 RX9 yX9_partsBy wsX9_partsBy) := goodIn_app (goodIn_of _ (by decide +kernel)) ggX9_treesOf_X9_partsBy
theorem dX9_treesOf_0 : decode cX9_treesOf 0 = .ok (.iconst 0, 1) := by decide +kernel
theorem dX9_treesOf_1 : decode cX9_treesOf 1 = .ok (.istore_n 1, 1) := by decide +kernel
theorem dX9_treesOf_2 : decode cX9_treesOf 2 = .ok (.iconst 0, 1) := by decide +kernel
theorem dX9_treesOf_3 : decode cX9_treesOf 3 = .ok (.istore_n 2, 1) := by decide +kernel
theorem dX9_treesOf_4 : decode cX9_treesOf 4 = .ok (.iload_n 2, 1) := by decide +kernel
theorem dX9_treesOf_5 : decode cX9_treesOf 5 = .ok (.iconst 1, 1) := by decide +kernel
theorem dX9_treesOf_6 : decode cX9_treesOf 6 = .ok (.aload_n 0, 1) := by decide +kernel
theorem dX9_treesOf_7 : decode cX9_treesOf 7 = .ok (.getfield 209, 3) := by decide +kernel
theorem dX9_treesOf_10 : decode cX9_treesOf 10 = .ok (.ishl, 1) := by decide +kernel
theorem dX9_treesOf_11 : decode cX9_treesOf 11 = .ok (.if_icmp .ge 26, 3) := by decide +kernel
theorem dX9_treesOf_14 : decode cX9_treesOf 14 = .ok (.iload_n 1, 1) := by decide +kernel
theorem dX9_treesOf_15 : decode cX9_treesOf 15 = .ok (.aload_n 0, 1) := by decide +kernel
theorem dX9_treesOf_16 : decode cX9_treesOf 16 = .ok (.iload_n 2, 1) := by decide +kernel
theorem dX9_treesOf_17 : decode cX9_treesOf 17 = .ok (.invokevirtual 215, 3) := by decide +kernel
theorem dX9_treesOf_20 : decode cX9_treesOf 20 = .ok (.iconst 1, 1) := by decide +kernel
theorem dX9_treesOf_21 : decode cX9_treesOf 21 = .ok (.if_icmp .ne 7, 3) := by decide +kernel
theorem dX9_treesOf_24 : decode cX9_treesOf 24 = .ok (.iconst 1, 1) := by decide +kernel
theorem dX9_treesOf_25 : decode cX9_treesOf 25 = .ok (.goto 4, 3) := by decide +kernel
theorem dX9_treesOf_28 : decode cX9_treesOf 28 = .ok (.iconst 0, 1) := by decide +kernel
theorem dX9_treesOf_29 : decode cX9_treesOf 29 = .ok (.iadd, 1) := by decide +kernel
theorem dX9_treesOf_30 : decode cX9_treesOf 30 = .ok (.istore_n 1, 1) := by decide +kernel
theorem dX9_treesOf_31 : decode cX9_treesOf 31 = .ok (.iinc 2 1, 3) := by decide +kernel
theorem dX9_treesOf_34 : decode cX9_treesOf 34 = .ok (.goto (-30), 3) := by decide +kernel
theorem dX9_treesOf_37 : decode cX9_treesOf 37 = .ok (.iload_n 1, 1) := by decide +kernel
theorem dX9_treesOf_38 : decode cX9_treesOf 38 = .ok (.ireturn, 1) := by decide +kernel
set_option maxRecDepth 20000 in
theorem ggX9_trees_X9_treesOf : GoodIn wsX9_trees wsX9_treesOf := goodIn_r _ [6, 7, 8, 9, 10, 5, 11, 12, 13, 14, 15, 16, 17, 18, 19, 20, 21, 22, 23, 24, 25, 26, 27, 28, 29, 30, 31, 32, 33, 34, 35, 36, 37, 38, 39, 40, 41, 42, 43] (by decide +kernel) (by decide +kernel)
set_option maxRecDepth 20000 in
theorem gX9_trees_X9_treesOf : GoodIn wsX9_trees (wsV RX9 218 RX9 yX9_treesOf wsX9_treesOf) := goodIn_app (goodIn_of _ (by decide +kernel)) ggX9_trees_X9_treesOf
theorem dX9_trees_0 : decode cX9_trees 0 = .ok (.aload_n 0, 1) := by decide +kernel
theorem dX9_trees_1 : decode cX9_trees 1 = .ok (.iconst 0, 1) := by decide +kernel
theorem dX9_trees_2 : decode cX9_trees 2 = .ok (.putfield 80, 3) := by decide +kernel
theorem dX9_trees_5 : decode cX9_trees 5 = .ok (.aload_n 0, 1) := by decide +kernel
theorem dX9_trees_6 : decode cX9_trees 6 = .ok (.invokevirtual 218, 3) := by decide +kernel
theorem dX9_trees_9 : decode cX9_trees 9 = .ok (.ireturn, 1) := by decide +kernel
set_option maxRecDepth 20000 in
theorem ggX9_treesAnew_X9_treesOf : GoodIn wsX9_treesAnew wsX9_treesOf := goodIn_r _ [6, 7, 8, 9, 10, 5, 11, 12, 13, 14, 15, 16, 17, 18, 19, 20, 21, 22, 23, 24, 25, 26, 27, 28, 29, 30, 31, 32, 33, 34, 35, 36, 37, 38, 39, 40, 41, 42, 43] (by decide +kernel) (by decide +kernel)
set_option maxRecDepth 20000 in
theorem gX9_treesAnew_X9_treesOf : GoodIn wsX9_treesAnew (wsV RX9 218 RX9 yX9_treesOf wsX9_treesOf) := goodIn_app (goodIn_of _ (by decide +kernel)) ggX9_treesAnew_X9_treesOf
theorem dX9_treesAnew_0 : decode cX9_treesAnew 0 = .ok (.aload_n 0, 1) := by decide +kernel
theorem dX9_treesAnew_1 : decode cX9_treesAnew 1 = .ok (.iconst 0, 1) := by decide +kernel
theorem dX9_treesAnew_2 : decode cX9_treesAnew 2 = .ok (.putfield 80, 3) := by decide +kernel
theorem dX9_treesAnew_5 : decode cX9_treesAnew 5 = .ok (.aload_n 0, 1) := by decide +kernel
theorem dX9_treesAnew_6 : decode cX9_treesAnew 6 = .ok (.invokevirtual 218, 3) := by decide +kernel
theorem dX9_treesAnew_9 : decode cX9_treesAnew 9 = .ok (.ireturn, 1) := by decide +kernel
set_option maxRecDepth 20000 in
theorem ggX9_height_X9_partsBy : GoodIn wsX9_height wsX9_partsBy := goodIn_r _ [7, 8, 2, 1, 9, 10, 11, 12, 13, 14, 15, 16, 17, 18, 19, 20, 21, 22, 23, 24, 25, 26, 27, 28, 29, 30, 31, 32, 33, 34, 35, 36, 37, 38] (by decide +kernel) (by decide +kernel)
set_option maxRecDepth 20000 in
theorem gX9_height_X9_partsBy : GoodIn wsX9_height (wsV RX9 215 RX9 yX9_partsBy wsX9_partsBy) := goodIn_app (goodIn_of _ (by decide +kernel)) ggX9_height_X9_partsBy
theorem dX9_height_0 : decode cX9_height 0 = .ok (.iconst 0, 1) := by decide +kernel
theorem dX9_height_1 : decode cX9_height 1 = .ok (.istore 4, 2) := by decide +kernel
theorem dX9_height_3 : decode cX9_height 3 = .ok (.iconst 0, 1) := by decide +kernel
theorem dX9_height_4 : decode cX9_height 4 = .ok (.istore 5, 2) := by decide +kernel
theorem dX9_height_6 : decode cX9_height 6 = .ok (.iload 5, 2) := by decide +kernel
theorem dX9_height_8 : decode cX9_height 8 = .ok (.iconst 1, 1) := by decide +kernel
theorem dX9_height_9 : decode cX9_height 9 = .ok (.aload_n 0, 1) := by decide +kernel
theorem dX9_height_10 : decode cX9_height 10 = .ok (.getfield 209, 3) := by decide +kernel
theorem dX9_height_13 : decode cX9_height 13 = .ok (.ishl, 1) := by decide +kernel
theorem dX9_height_14 : decode cX9_height 14 = .ok (.if_icmp .ge 71, 3) := by decide +kernel
theorem dX9_height_17 : decode cX9_height 17 = .ok (.aload_n 0, 1) := by decide +kernel
theorem dX9_height_18 : decode cX9_height 18 = .ok (.iload 5, 2) := by decide +kernel
theorem dX9_height_20 : decode cX9_height 20 = .ok (.invokevirtual 215, 3) := by decide +kernel
theorem dX9_height_23 : decode cX9_height 23 = .ok (.iconst 2, 1) := by decide +kernel
theorem dX9_height_24 : decode cX9_height 24 = .ok (.if_icmp .ne 7, 3) := by decide +kernel
theorem dX9_height_27 : decode cX9_height 27 = .ok (.iconst 1, 1) := by decide +kernel
theorem dX9_height_28 : decode cX9_height 28 = .ok (.goto 4, 3) := by decide +kernel
theorem dX9_height_31 : decode cX9_height 31 = .ok (.iconst 0, 1) := by decide +kernel
theorem dX9_height_32 : decode cX9_height 32 = .ok (.istore 6, 2) := by decide +kernel
theorem dX9_height_34 : decode cX9_height 34 = .ok (.iload 4, 2) := by decide +kernel
theorem dX9_height_36 : decode cX9_height 36 = .ok (.iload 6, 2) := by decide +kernel
theorem dX9_height_38 : decode cX9_height 38 = .ok (.ifCond .eq 37, 3) := by decide +kernel
theorem dX9_height_41 : decode cX9_height 41 = .ok (.aload_n 0, 1) := by decide +kernel
theorem dX9_height_42 : decode cX9_height 42 = .ok (.getfield 73, 3) := by decide +kernel
theorem dX9_height_45 : decode cX9_height 45 = .ok (.iload_n 1, 1) := by decide +kernel
theorem dX9_height_46 : decode cX9_height 46 = .ok (.iaload, 1) := by decide +kernel
theorem dX9_height_47 : decode cX9_height 47 = .ok (.aload_n 0, 1) := by decide +kernel
theorem dX9_height_48 : decode cX9_height 48 = .ok (.getfield 73, 3) := by decide +kernel
theorem dX9_height_51 : decode cX9_height 51 = .ok (.iload_n 2, 1) := by decide +kernel
theorem dX9_height_52 : decode cX9_height 52 = .ok (.iaload, 1) := by decide +kernel
theorem dX9_height_53 : decode cX9_height 53 = .ok (.if_icmp .eq 22, 3) := by decide +kernel
theorem dX9_height_56 : decode cX9_height 56 = .ok (.aload_n 0, 1) := by decide +kernel
theorem dX9_height_57 : decode cX9_height 57 = .ok (.getfield 73, 3) := by decide +kernel
theorem dX9_height_60 : decode cX9_height 60 = .ok (.iload_n 3, 1) := by decide +kernel
theorem dX9_height_61 : decode cX9_height 61 = .ok (.iaload, 1) := by decide +kernel
theorem dX9_height_62 : decode cX9_height 62 = .ok (.aload_n 0, 1) := by decide +kernel
theorem dX9_height_63 : decode cX9_height 63 = .ok (.getfield 73, 3) := by decide +kernel
theorem dX9_height_66 : decode cX9_height 66 = .ok (.iload_n 1, 1) := by decide +kernel
theorem dX9_height_67 : decode cX9_height 67 = .ok (.iaload, 1) := by decide +kernel
theorem dX9_height_68 : decode cX9_height 68 = .ok (.if_icmp .ne 7, 3) := by decide +kernel
theorem dX9_height_71 : decode cX9_height 71 = .ok (.iconst 1, 1) := by decide +kernel
theorem dX9_height_72 : decode cX9_height 72 = .ok (.goto 4, 3) := by decide +kernel
theorem dX9_height_75 : decode cX9_height 75 = .ok (.iconst 0, 1) := by decide +kernel
theorem dX9_height_76 : decode cX9_height 76 = .ok (.iadd, 1) := by decide +kernel
theorem dX9_height_77 : decode cX9_height 77 = .ok (.istore 4, 2) := by decide +kernel
theorem dX9_height_79 : decode cX9_height 79 = .ok (.iinc 5 1, 3) := by decide +kernel
theorem dX9_height_82 : decode cX9_height 82 = .ok (.goto (-76), 3) := by decide +kernel
theorem dX9_height_85 : decode cX9_height 85 = .ok (.iload 4, 2) := by decide +kernel
theorem dX9_height_87 : decode cX9_height 87 = .ok (.ireturn, 1) := by decide +kernel
set_option maxRecDepth 20000 in
theorem ggX9_side_X9_isNode : GoodIn wsX9_side wsX9_isNode := goodIn_r _ [9, 10, 11, 12, 8, 13, 27, 28, 29, 30, 31, 32, 33, 34, 35, 36, 37, 38, 39, 40, 41, 42, 43, 44, 45, 46, 47, 48, 49, 50, 51, 52, 53, 54] (by decide +kernel) (by decide +kernel)
set_option maxRecDepth 20000 in
theorem gX9_side_X9_isNode : GoodIn wsX9_side (wsV RX9 212 RX9 yX9_isNode wsX9_isNode) := goodIn_app (goodIn_of _ (by decide +kernel)) ggX9_side_X9_isNode
set_option maxRecDepth 20000 in
theorem ggX9_side_X9_isIn : GoodIn wsX9_side wsX9_isIn := goodIn_r _ [13] (by decide +kernel) (by decide +kernel)
set_option maxRecDepth 20000 in
theorem gX9_side_X9_isIn : GoodIn wsX9_side (va_wsS RX9 83 yX9_isIn wsX9_isIn) := goodIn_app (goodIn_of _ (by decide +kernel)) ggX9_side_X9_isIn
set_option maxRecDepth 20000 in
theorem ggX9_side_X9_treesOf : GoodIn wsX9_side wsX9_treesOf := goodIn_r _ [17, 1, 18, 19, 20, 8, 21, 10, 22, 3, 4, 27, 28, 29, 30, 31, 32, 33, 34, 35, 36, 37, 38, 39, 40, 41, 42, 43, 44, 45, 46, 47, 48, 49, 50, 51, 52, 53, 54] (by decide +kernel) (by decide +kernel)
set_option maxRecDepth 20000 in
theorem gX9_side_X9_treesOf : GoodIn wsX9_side (wsV RX9 218 RX9 yX9_treesOf wsX9_treesOf) := goodIn_app (goodIn_of _ (by decide +kernel)) ggX9_side_X9_treesOf
set_option maxRecDepth 20000 in
theorem ggX9_side_X9_height : GoodIn wsX9_side wsX9_height := goodIn_r _ [26, 1, 22, 18, 19, 20, 8, 21, 10, 3, 4, 27, 28, 29, 30, 31, 32, 33, 34, 35, 36, 37, 38, 39, 40, 41, 42, 43, 44, 45, 46, 47, 48, 49, 50, 51, 52, 53, 54] (by decide +kernel) (by decide +kernel)
set_option maxRecDepth 20000 in
theorem gX9_side_X9_height : GoodIn wsX9_side (wsV RX9 222 RX9 yX9_height wsX9_height) := goodIn_app (goodIn_of _ (by decide +kernel)) ggX9_side_X9_height
theorem dX9_side_0 : decode cX9_side 0 = .ok (.aload_n 0, 1) := by decide +kernel
theorem dX9_side_1 : decode cX9_side 1 = .ok (.iload_n 1, 1) := by decide +kernel
theorem dX9_side_2 : decode cX9_side 2 = .ok (.invokevirtual 212, 3) := by decide +kernel
theorem dX9_side_5 : decode cX9_side 5 = .ok (.ifCond .eq 36, 3) := by decide +kernel
theorem dX9_side_8 : decode cX9_side 8 = .ok (.aload_n 0, 1) := by decide +kernel
theorem dX9_side_9 : decode cX9_side 9 = .ok (.iload_n 2, 1) := by decide +kernel
theorem dX9_side_10 : decode cX9_side 10 = .ok (.invokevirtual 212, 3) := by decide +kernel
theorem dX9_side_13 : decode cX9_side 13 = .ok (.ifCond .eq 28, 3) := by decide +kernel
theorem dX9_side_16 : decode cX9_side 16 = .ok (.iload_n 3, 1) := by decide +kernel
theorem dX9_side_17 : decode cX9_side 17 = .ok (.iconst (-1), 1) := by decide +kernel
theorem dX9_side_18 : decode cX9_side 18 = .ok (.if_icmp .eq 19, 3) := by decide +kernel
theorem dX9_side_21 : decode cX9_side 21 = .ok (.iload_n 3, 1) := by decide +kernel
theorem dX9_side_22 : decode cX9_side 22 = .ok (.i2l, 1) := by decide +kernel
theorem dX9_side_23 : decode cX9_side 23 = .ok (.lconst 0, 1) := by decide +kernel
theorem dX9_side_24 : decode cX9_side 24 = .ok (.aload_n 0, 1) := by decide +kernel
theorem dX9_side_25 : decode cX9_side 25 = .ok (.getfield 209, 3) := by decide +kernel
theorem dX9_side_28 : decode cX9_side 28 = .ok (.iconst 1, 1) := by decide +kernel
theorem dX9_side_29 : decode cX9_side 29 = .ok (.isub, 1) := by decide +kernel
theorem dX9_side_30 : decode cX9_side 30 = .ok (.i2l, 1) := by decide +kernel
theorem dX9_side_31 : decode cX9_side 31 = .ok (.invokestatic 83, 3) := by decide +kernel
theorem dX9_side_34 : decode cX9_side 34 = .ok (.ifCond .eq 7, 3) := by decide +kernel
theorem dX9_side_37 : decode cX9_side 37 = .ok (.iconst 1, 1) := by decide +kernel
theorem dX9_side_38 : decode cX9_side 38 = .ok (.goto 4, 3) := by decide +kernel
theorem dX9_side_41 : decode cX9_side 41 = .ok (.iconst 0, 1) := by decide +kernel
theorem dX9_side_42 : decode cX9_side 42 = .ok (.istore 4, 2) := by decide +kernel
theorem dX9_side_44 : decode cX9_side 44 = .ok (.aload_n 0, 1) := by decide +kernel
theorem dX9_side_45 : decode cX9_side 45 = .ok (.iload 4, 2) := by decide +kernel
theorem dX9_side_47 : decode cX9_side 47 = .ok (.ifCond .ne 7, 3) := by decide +kernel
theorem dX9_side_50 : decode cX9_side 50 = .ok (.iconst 1, 1) := by decide +kernel
theorem dX9_side_51 : decode cX9_side 51 = .ok (.goto 24, 3) := by decide +kernel
theorem dX9_side_54 : decode cX9_side 54 = .ok (.iload_n 1, 1) := by decide +kernel
theorem dX9_side_55 : decode cX9_side 55 = .ok (.iload_n 2, 1) := by decide +kernel
theorem dX9_side_56 : decode cX9_side 56 = .ok (.if_icmp .ne 7, 3) := by decide +kernel
theorem dX9_side_59 : decode cX9_side 59 = .ok (.iconst 2, 1) := by decide +kernel
theorem dX9_side_60 : decode cX9_side 60 = .ok (.goto 15, 3) := by decide +kernel
theorem dX9_side_63 : decode cX9_side 63 = .ok (.aload_n 0, 1) := by decide +kernel
theorem dX9_side_64 : decode cX9_side 64 = .ok (.invokevirtual 218, 3) := by decide +kernel
theorem dX9_side_67 : decode cX9_side 67 = .ok (.ifCond .ne 7, 3) := by decide +kernel
theorem dX9_side_70 : decode cX9_side 70 = .ok (.iconst 3, 1) := by decide +kernel
theorem dX9_side_71 : decode cX9_side 71 = .ok (.goto 4, 3) := by decide +kernel
theorem dX9_side_74 : decode cX9_side 74 = .ok (.iconst 0, 1) := by decide +kernel
theorem dX9_side_75 : decode cX9_side 75 = .ok (.putfield 80, 3) := by decide +kernel
theorem dX9_side_78 : decode cX9_side 78 = .ok (.aload_n 0, 1) := by decide +kernel
theorem dX9_side_79 : decode cX9_side 79 = .ok (.getfield 80, 3) := by decide +kernel
theorem dX9_side_82 : decode cX9_side 82 = .ok (.ifCond .le 5, 3) := by decide +kernel
theorem dX9_side_85 : decode cX9_side 85 = .ok (.iconst 0, 1) := by decide +kernel
theorem dX9_side_86 : decode cX9_side 86 = .ok (.ireturn, 1) := by decide +kernel
theorem dX9_side_87 : decode cX9_side 87 = .ok (.iload_n 3, 1) := by decide +kernel
theorem dX9_side_88 : decode cX9_side 88 = .ok (.iconst (-1), 1) := by decide +kernel
theorem dX9_side_89 : decode cX9_side 89 = .ok (.if_icmp .ne 13, 3) := by decide +kernel
theorem dX9_side_92 : decode cX9_side 92 = .ok (.aload_n 0, 1) := by decide +kernel
theorem dX9_side_93 : decode cX9_side 93 = .ok (.iload_n 1, 1) := by decide +kernel
theorem dX9_side_94 : decode cX9_side 94 = .ok (.iload_n 2, 1) := by decide +kernel
theorem dX9_side_95 : decode cX9_side 95 = .ok (.iload_n 1, 1) := by decide +kernel
theorem dX9_side_96 : decode cX9_side 96 = .ok (.invokevirtual 222, 3) := by decide +kernel
theorem dX9_side_99 : decode cX9_side 99 = .ok (.goto 28, 3) := by decide +kernel
theorem dX9_side_102 : decode cX9_side 102 = .ok (.aload_n 0, 1) := by decide +kernel
theorem dX9_side_103 : decode cX9_side 103 = .ok (.iload_n 1, 1) := by decide +kernel
theorem dX9_side_104 : decode cX9_side 104 = .ok (.iload_n 2, 1) := by decide +kernel
theorem dX9_side_105 : decode cX9_side 105 = .ok (.aload_n 0, 1) := by decide +kernel
theorem dX9_side_106 : decode cX9_side 106 = .ok (.getfield 67, 3) := by decide +kernel
theorem dX9_side_109 : decode cX9_side 109 = .ok (.iload_n 3, 1) := by decide +kernel
theorem dX9_side_110 : decode cX9_side 110 = .ok (.iaload, 1) := by decide +kernel
theorem dX9_side_111 : decode cX9_side 111 = .ok (.invokevirtual 222, 3) := by decide +kernel
theorem dX9_side_114 : decode cX9_side 114 = .ok (.aload_n 0, 1) := by decide +kernel
theorem dX9_side_115 : decode cX9_side 115 = .ok (.iload_n 1, 1) := by decide +kernel
theorem dX9_side_116 : decode cX9_side 116 = .ok (.iload_n 2, 1) := by decide +kernel
theorem dX9_side_117 : decode cX9_side 117 = .ok (.aload_n 0, 1) := by decide +kernel
theorem dX9_side_118 : decode cX9_side 118 = .ok (.getfield 70, 3) := by decide +kernel
theorem dX9_side_121 : decode cX9_side 121 = .ok (.iload_n 3, 1) := by decide +kernel
theorem dX9_side_122 : decode cX9_side 122 = .ok (.iaload, 1) := by decide +kernel
theorem dX9_side_123 : decode cX9_side 123 = .ok (.invokevirtual 222, 3) := by decide +kernel
theorem dX9_side_126 : decode cX9_side 126 = .ok (.isub, 1) := by decide +kernel
theorem dX9_side_127 : decode cX9_side 127 = .ok (.ireturn, 1) := by decide +kernel
theorem dJ6_numberOfLeadingZeros_0f7a4_0 : decode cJ6_numberOfLeadingZeros_0f7a4 0 = .ok (.iload_n 0, 1) := by decide +kernel
theorem dJ6_numberOfLeadingZeros_0f7a4_1 : decode cJ6_numberOfLeadingZeros_0f7a4 1 = .ok (.ifCond .gt 14, 3) := by decide +kernel
theorem dJ6_numberOfLeadingZeros_0f7a4_4 : decode cJ6_numberOfLeadingZeros_0f7a4 4 = .ok (.iload_n 0, 1) := by decide +kernel
theorem dJ6_numberOfLeadingZeros_0f7a4_5 : decode cJ6_numberOfLeadingZeros_0f7a4 5 = .ok (.ifCond .ne 8, 3) := by decide +kernel
theorem dJ6_numberOfLeadingZeros_0f7a4_8 : decode cJ6_numberOfLeadingZeros_0f7a4 8 = .ok (.bipush 32, 2) := by decide +kernel
theorem dJ6_numberOfLeadingZeros_0f7a4_10 : decode cJ6_numberOfLeadingZeros_0f7a4 10 = .ok (.goto 4, 3) := by decide +kernel
theorem dJ6_numberOfLeadingZeros_0f7a4_13 : decode cJ6_numberOfLeadingZeros_0f7a4 13 = .ok (.iconst 0, 1) := by decide +kernel
theorem dJ6_numberOfLeadingZeros_0f7a4_14 : decode cJ6_numberOfLeadingZeros_0f7a4 14 = .ok (.ireturn, 1) := by decide +kernel
theorem dJ6_numberOfLeadingZeros_0f7a4_15 : decode cJ6_numberOfLeadingZeros_0f7a4 15 = .ok (.bipush 31, 2) := by decide +kernel
theorem dJ6_numberOfLeadingZeros_0f7a4_17 : decode cJ6_numberOfLeadingZeros_0f7a4 17 = .ok (.istore_n 1, 1) := by decide +kernel
theorem dJ6_numberOfLeadingZeros_0f7a4_18 : decode cJ6_numberOfLeadingZeros_0f7a4 18 = .ok (.iload_n 0, 1) := by decide +kernel
theorem dJ6_numberOfLeadingZeros_0f7a4_19 : decode cJ6_numberOfLeadingZeros_0f7a4 19 = .ok (.ldc_w 264, 3) := by decide +kernel
theorem dJ6_numberOfLeadingZeros_0f7a4_22 : decode cJ6_numberOfLeadingZeros_0f7a4 22 = .ok (.if_icmp .lt 11, 3) := by decide +kernel
theorem dJ6_numberOfLeadingZeros_0f7a4_25 : decode cJ6_numberOfLeadingZeros_0f7a4 25 = .ok (.iinc 1 (-16), 3) := by decide +kernel
theorem dJ6_numberOfLeadingZeros_0f7a4_28 : decode cJ6_numberOfLeadingZeros_0f7a4 28 = .ok (.iload_n 0, 1) := by decide +kernel
theorem dJ6_numberOfLeadingZeros_0f7a4_29 : decode cJ6_numberOfLeadingZeros_0f7a4 29 = .ok (.bipush 16, 2) := by decide +kernel
theorem dJ6_numberOfLeadingZeros_0f7a4_31 : decode cJ6_numberOfLeadingZeros_0f7a4 31 = .ok (.iushr, 1) := by decide +kernel
theorem dJ6_numberOfLeadingZeros_0f7a4_32 : decode cJ6_numberOfLeadingZeros_0f7a4 32 = .ok (.istore_n 0, 1) := by decide +kernel
theorem dJ6_numberOfLeadingZeros_0f7a4_33 : decode cJ6_numberOfLeadingZeros_0f7a4 33 = .ok (.iload_n 0, 1) := by decide +kernel
theorem dJ6_numberOfLeadingZeros_0f7a4_34 : decode cJ6_numberOfLeadingZeros_0f7a4 34 = .ok (.sipush 256, 3) := by decide +kernel
theorem dJ6_numberOfLeadingZeros_0f7a4_37 : decode cJ6_numberOfLeadingZeros_0f7a4 37 = .ok (.if_icmp .lt 11, 3) := by decide +kernel
theorem dJ6_numberOfLeadingZeros_0f7a4_40 : decode cJ6_numberOfLeadingZeros_0f7a4 40 = .ok (.iinc 1 (-8), 3) := by decide +kernel
theorem dJ6_numberOfLeadingZeros_0f7a4_43 : decode cJ6_numberOfLeadingZeros_0f7a4 43 = .ok (.iload_n 0, 1) := by decide +kernel
theorem dJ6_numberOfLeadingZeros_0f7a4_44 : decode cJ6_numberOfLeadingZeros_0f7a4 44 = .ok (.bipush 8, 2) := by decide +kernel
theorem dJ6_numberOfLeadingZeros_0f7a4_46 : decode cJ6_numberOfLeadingZeros_0f7a4 46 = .ok (.iushr, 1) := by decide +kernel
theorem dJ6_numberOfLeadingZeros_0f7a4_47 : decode cJ6_numberOfLeadingZeros_0f7a4 47 = .ok (.istore_n 0, 1) := by decide +kernel
theorem dJ6_numberOfLeadingZeros_0f7a4_48 : decode cJ6_numberOfLeadingZeros_0f7a4 48 = .ok (.iload_n 0, 1) := by decide +kernel
theorem dJ6_numberOfLeadingZeros_0f7a4_49 : decode cJ6_numberOfLeadingZeros_0f7a4 49 = .ok (.bipush 16, 2) := by decide +kernel
theorem dJ6_numberOfLeadingZeros_0f7a4_51 : decode cJ6_numberOfLeadingZeros_0f7a4 51 = .ok (.if_icmp .lt 10, 3) := by decide +kernel
theorem dJ6_numberOfLeadingZeros_0f7a4_54 : decode cJ6_numberOfLeadingZeros_0f7a4 54 = .ok (.iinc 1 (-4), 3) := by decide +kernel
theorem dJ6_numberOfLeadingZeros_0f7a4_57 : decode cJ6_numberOfLeadingZeros_0f7a4 57 = .ok (.iload_n 0, 1) := by decide +kernel
theorem dJ6_numberOfLeadingZeros_0f7a4_58 : decode cJ6_numberOfLeadingZeros_0f7a4 58 = .ok (.iconst 4, 1) := by decide +kernel
theorem dJ6_numberOfLeadingZeros_0f7a4_59 : decode cJ6_numberOfLeadingZeros_0f7a4 59 = .ok (.iushr, 1) := by decide +kernel
theorem dJ6_numberOfLeadingZeros_0f7a4_60 : decode cJ6_numberOfLeadingZeros_0f7a4 60 = .ok (.istore_n 0, 1) := by decide +kernel
theorem dJ6_numberOfLeadingZeros_0f7a4_61 : decode cJ6_numberOfLeadingZeros_0f7a4 61 = .ok (.iload_n 0, 1) := by decide +kernel
theorem dJ6_numberOfLeadingZeros_0f7a4_62 : decode cJ6_numberOfLeadingZeros_0f7a4 62 = .ok (.iconst 4, 1) := by decide +kernel
theorem dJ6_numberOfLeadingZeros_0f7a4_63 : decode cJ6_numberOfLeadingZeros_0f7a4 63 = .ok (.if_icmp .lt 10, 3) := by decide +kernel
theorem dJ6_numberOfLeadingZeros_0f7a4_66 : decode cJ6_numberOfLeadingZeros_0f7a4 66 = .ok (.iinc 1 (-2), 3) := by decide +kernel
theorem dJ6_numberOfLeadingZeros_0f7a4_69 : decode cJ6_numberOfLeadingZeros_0f7a4 69 = .ok (.iload_n 0, 1) := by decide +kernel
theorem dJ6_numberOfLeadingZeros_0f7a4_70 : decode cJ6_numberOfLeadingZeros_0f7a4 70 = .ok (.iconst 2, 1) := by decide +kernel
theorem dJ6_numberOfLeadingZeros_0f7a4_71 : decode cJ6_numberOfLeadingZeros_0f7a4 71 = .ok (.iushr, 1) := by decide +kernel
theorem dJ6_numberOfLeadingZeros_0f7a4_72 : decode cJ6_numberOfLeadingZeros_0f7a4 72 = .ok (.istore_n 0, 1) := by decide +kernel
theorem dJ6_numberOfLeadingZeros_0f7a4_73 : decode cJ6_numberOfLeadingZeros_0f7a4 73 = .ok (.iload_n 1, 1) := by decide +kernel
theorem dJ6_numberOfLeadingZeros_0f7a4_74 : decode cJ6_numberOfLeadingZeros_0f7a4 74 = .ok (.iload_n 0, 1) := by decide +kernel
theorem dJ6_numberOfLeadingZeros_0f7a4_75 : decode cJ6_numberOfLeadingZeros_0f7a4 75 = .ok (.iconst 1, 1) := by decide +kernel
theorem dJ6_numberOfLeadingZeros_0f7a4_76 : decode cJ6_numberOfLeadingZeros_0f7a4 76 = .ok (.iushr, 1) := by decide +kernel
theorem dJ6_numberOfLeadingZeros_0f7a4_77 : decode cJ6_numberOfLeadingZeros_0f7a4 77 = .ok (.isub, 1) := by decide +kernel
theorem dJ6_numberOfLeadingZeros_0f7a4_78 : decode cJ6_numberOfLeadingZeros_0f7a4 78 = .ok (.ireturn, 1) := by decide +kernel
theorem dJ6_numberOfTrailingZeros_0f7a4_0 : decode cJ6_numberOfTrailingZeros_0f7a4 0 = .ok (.iload_n 0, 1) := by decide +kernel
theorem dJ6_numberOfTrailingZeros_0f7a4_1 : decode cJ6_numberOfTrailingZeros_0f7a4 1 = .ok (.iconst (-1), 1) := by decide +kernel
theorem dJ6_numberOfTrailingZeros_0f7a4_2 : decode cJ6_numberOfTrailingZeros_0f7a4 2 = .ok (.ixor, 1) := by decide +kernel
theorem dJ6_numberOfTrailingZeros_0f7a4_3 : decode cJ6_numberOfTrailingZeros_0f7a4 3 = .ok (.iload_n 0, 1) := by decide +kernel
theorem dJ6_numberOfTrailingZeros_0f7a4_4 : decode cJ6_numberOfTrailingZeros_0f7a4 4 = .ok (.iconst 1, 1) := by decide +kernel
theorem dJ6_numberOfTrailingZeros_0f7a4_5 : decode cJ6_numberOfTrailingZeros_0f7a4 5 = .ok (.isub, 1) := by decide +kernel
theorem dJ6_numberOfTrailingZeros_0f7a4_6 : decode cJ6_numberOfTrailingZeros_0f7a4 6 = .ok (.iand, 1) := by decide +kernel
theorem dJ6_numberOfTrailingZeros_0f7a4_7 : decode cJ6_numberOfTrailingZeros_0f7a4 7 = .ok (.istore_n 0, 1) := by decide +kernel
theorem dJ6_numberOfTrailingZeros_0f7a4_8 : decode cJ6_numberOfTrailingZeros_0f7a4 8 = .ok (.iload_n 0, 1) := by decide +kernel
theorem dJ6_numberOfTrailingZeros_0f7a4_9 : decode cJ6_numberOfTrailingZeros_0f7a4 9 = .ok (.ifCond .gt 8, 3) := by decide +kernel
theorem dJ6_numberOfTrailingZeros_0f7a4_12 : decode cJ6_numberOfTrailingZeros_0f7a4 12 = .ok (.iload_n 0, 1) := by decide +kernel
theorem dJ6_numberOfTrailingZeros_0f7a4_13 : decode cJ6_numberOfTrailingZeros_0f7a4 13 = .ok (.bipush 32, 2) := by decide +kernel
theorem dJ6_numberOfTrailingZeros_0f7a4_15 : decode cJ6_numberOfTrailingZeros_0f7a4 15 = .ok (.iand, 1) := by decide +kernel
theorem dJ6_numberOfTrailingZeros_0f7a4_16 : decode cJ6_numberOfTrailingZeros_0f7a4 16 = .ok (.ireturn, 1) := by decide +kernel
theorem dJ6_numberOfTrailingZeros_0f7a4_17 : decode cJ6_numberOfTrailingZeros_0f7a4 17 = .ok (.iconst 1, 1) := by decide +kernel
theorem dJ6_numberOfTrailingZeros_0f7a4_18 : decode cJ6_numberOfTrailingZeros_0f7a4 18 = .ok (.istore_n 1, 1) := by decide +kernel
theorem dJ6_numberOfTrailingZeros_0f7a4_19 : decode cJ6_numberOfTrailingZeros_0f7a4 19 = .ok (.iload_n 0, 1) := by decide +kernel
theorem dJ6_numberOfTrailingZeros_0f7a4_20 : decode cJ6_numberOfTrailingZeros_0f7a4 20 = .ok (.ldc_w 264, 3) := by decide +kernel
theorem dJ6_numberOfTrailingZeros_0f7a4_23 : decode cJ6_numberOfTrailingZeros_0f7a4 23 = .ok (.if_icmp .le 11, 3) := by decide +kernel
theorem dJ6_numberOfTrailingZeros_0f7a4_26 : decode cJ6_numberOfTrailingZeros_0f7a4 26 = .ok (.iinc 1 16, 3) := by decide +kernel
theorem dJ6_numberOfTrailingZeros_0f7a4_29 : decode cJ6_numberOfTrailingZeros_0f7a4 29 = .ok (.iload_n 0, 1) := by decide +kernel
theorem dJ6_numberOfTrailingZeros_0f7a4_30 : decode cJ6_numberOfTrailingZeros_0f7a4 30 = .ok (.bipush 16, 2) := by decide +kernel
theorem dJ6_numberOfTrailingZeros_0f7a4_32 : decode cJ6_numberOfTrailingZeros_0f7a4 32 = .ok (.iushr, 1) := by decide +kernel
theorem dJ6_numberOfTrailingZeros_0f7a4_33 : decode cJ6_numberOfTrailingZeros_0f7a4 33 = .ok (.istore_n 0, 1) := by decide +kernel
theorem dJ6_numberOfTrailingZeros_0f7a4_34 : decode cJ6_numberOfTrailingZeros_0f7a4 34 = .ok (.iload_n 0, 1) := by decide +kernel
theorem dJ6_numberOfTrailingZeros_0f7a4_35 : decode cJ6_numberOfTrailingZeros_0f7a4 35 = .ok (.sipush 256, 3) := by decide +kernel
theorem dJ6_numberOfTrailingZeros_0f7a4_38 : decode cJ6_numberOfTrailingZeros_0f7a4 38 = .ok (.if_icmp .le 11, 3) := by decide +kernel
theorem dJ6_numberOfTrailingZeros_0f7a4_41 : decode cJ6_numberOfTrailingZeros_0f7a4 41 = .ok (.iinc 1 8, 3) := by decide +kernel
theorem dJ6_numberOfTrailingZeros_0f7a4_44 : decode cJ6_numberOfTrailingZeros_0f7a4 44 = .ok (.iload_n 0, 1) := by decide +kernel
theorem dJ6_numberOfTrailingZeros_0f7a4_45 : decode cJ6_numberOfTrailingZeros_0f7a4 45 = .ok (.bipush 8, 2) := by decide +kernel
theorem dJ6_numberOfTrailingZeros_0f7a4_47 : decode cJ6_numberOfTrailingZeros_0f7a4 47 = .ok (.iushr, 1) := by decide +kernel
theorem dJ6_numberOfTrailingZeros_0f7a4_48 : decode cJ6_numberOfTrailingZeros_0f7a4 48 = .ok (.istore_n 0, 1) := by decide +kernel
theorem dJ6_numberOfTrailingZeros_0f7a4_49 : decode cJ6_numberOfTrailingZeros_0f7a4 49 = .ok (.iload_n 0, 1) := by decide +kernel
theorem dJ6_numberOfTrailingZeros_0f7a4_50 : decode cJ6_numberOfTrailingZeros_0f7a4 50 = .ok (.bipush 16, 2) := by decide +kernel
theorem dJ6_numberOfTrailingZeros_0f7a4_52 : decode cJ6_numberOfTrailingZeros_0f7a4 52 = .ok (.if_icmp .le 10, 3) := by decide +kernel
theorem dJ6_numberOfTrailingZeros_0f7a4_55 : decode cJ6_numberOfTrailingZeros_0f7a4 55 = .ok (.iinc 1 4, 3) := by decide +kernel
theorem dJ6_numberOfTrailingZeros_0f7a4_58 : decode cJ6_numberOfTrailingZeros_0f7a4 58 = .ok (.iload_n 0, 1) := by decide +kernel
theorem dJ6_numberOfTrailingZeros_0f7a4_59 : decode cJ6_numberOfTrailingZeros_0f7a4 59 = .ok (.iconst 4, 1) := by decide +kernel
theorem dJ6_numberOfTrailingZeros_0f7a4_60 : decode cJ6_numberOfTrailingZeros_0f7a4 60 = .ok (.iushr, 1) := by decide +kernel
theorem dJ6_numberOfTrailingZeros_0f7a4_61 : decode cJ6_numberOfTrailingZeros_0f7a4 61 = .ok (.istore_n 0, 1) := by decide +kernel
theorem dJ6_numberOfTrailingZeros_0f7a4_62 : decode cJ6_numberOfTrailingZeros_0f7a4 62 = .ok (.iload_n 0, 1) := by decide +kernel
theorem dJ6_numberOfTrailingZeros_0f7a4_63 : decode cJ6_numberOfTrailingZeros_0f7a4 63 = .ok (.iconst 4, 1) := by decide +kernel
theorem dJ6_numberOfTrailingZeros_0f7a4_64 : decode cJ6_numberOfTrailingZeros_0f7a4 64 = .ok (.if_icmp .le 10, 3) := by decide +kernel
theorem dJ6_numberOfTrailingZeros_0f7a4_67 : decode cJ6_numberOfTrailingZeros_0f7a4 67 = .ok (.iinc 1 2, 3) := by decide +kernel
theorem dJ6_numberOfTrailingZeros_0f7a4_70 : decode cJ6_numberOfTrailingZeros_0f7a4 70 = .ok (.iload_n 0, 1) := by decide +kernel
theorem dJ6_numberOfTrailingZeros_0f7a4_71 : decode cJ6_numberOfTrailingZeros_0f7a4 71 = .ok (.iconst 2, 1) := by decide +kernel
theorem dJ6_numberOfTrailingZeros_0f7a4_72 : decode cJ6_numberOfTrailingZeros_0f7a4 72 = .ok (.iushr, 1) := by decide +kernel
theorem dJ6_numberOfTrailingZeros_0f7a4_73 : decode cJ6_numberOfTrailingZeros_0f7a4 73 = .ok (.istore_n 0, 1) := by decide +kernel
theorem dJ6_numberOfTrailingZeros_0f7a4_74 : decode cJ6_numberOfTrailingZeros_0f7a4 74 = .ok (.iload_n 1, 1) := by decide +kernel
theorem dJ6_numberOfTrailingZeros_0f7a4_75 : decode cJ6_numberOfTrailingZeros_0f7a4 75 = .ok (.iload_n 0, 1) := by decide +kernel
theorem dJ6_numberOfTrailingZeros_0f7a4_76 : decode cJ6_numberOfTrailingZeros_0f7a4 76 = .ok (.iconst 1, 1) := by decide +kernel
theorem dJ6_numberOfTrailingZeros_0f7a4_77 : decode cJ6_numberOfTrailingZeros_0f7a4 77 = .ok (.iushr, 1) := by decide +kernel
theorem dJ6_numberOfTrailingZeros_0f7a4_78 : decode cJ6_numberOfTrailingZeros_0f7a4 78 = .ok (.iadd, 1) := by decide +kernel
theorem dJ6_numberOfTrailingZeros_0f7a4_79 : decode cJ6_numberOfTrailingZeros_0f7a4 79 = .ok (.ireturn, 1) := by decide +kernel
theorem dJ6_bitCount_0f7a4_0 : decode cJ6_bitCount_0f7a4 0 = .ok (.iload_n 0, 1) := by decide +kernel
theorem dJ6_bitCount_0f7a4_1 : decode cJ6_bitCount_0f7a4 1 = .ok (.iload_n 0, 1) := by decide +kernel
theorem dJ6_bitCount_0f7a4_2 : decode cJ6_bitCount_0f7a4 2 = .ok (.iconst 1, 1) := by decide +kernel
theorem dJ6_bitCount_0f7a4_3 : decode cJ6_bitCount_0f7a4 3 = .ok (.iushr, 1) := by decide +kernel
theorem dJ6_bitCount_0f7a4_4 : decode cJ6_bitCount_0f7a4 4 = .ok (.ldc_w 265, 3) := by decide +kernel
theorem dJ6_bitCount_0f7a4_7 : decode cJ6_bitCount_0f7a4 7 = .ok (.iand, 1) := by decide +kernel
theorem dJ6_bitCount_0f7a4_8 : decode cJ6_bitCount_0f7a4 8 = .ok (.isub, 1) := by decide +kernel
theorem dJ6_bitCount_0f7a4_9 : decode cJ6_bitCount_0f7a4 9 = .ok (.istore_n 0, 1) := by decide +kernel
theorem dJ6_bitCount_0f7a4_10 : decode cJ6_bitCount_0f7a4 10 = .ok (.iload_n 0, 1) := by decide +kernel
theorem dJ6_bitCount_0f7a4_11 : decode cJ6_bitCount_0f7a4 11 = .ok (.ldc_w 266, 3) := by decide +kernel
theorem dJ6_bitCount_0f7a4_14 : decode cJ6_bitCount_0f7a4 14 = .ok (.iand, 1) := by decide +kernel
theorem dJ6_bitCount_0f7a4_15 : decode cJ6_bitCount_0f7a4 15 = .ok (.iload_n 0, 1) := by decide +kernel
theorem dJ6_bitCount_0f7a4_16 : decode cJ6_bitCount_0f7a4 16 = .ok (.iconst 2, 1) := by decide +kernel
theorem dJ6_bitCount_0f7a4_17 : decode cJ6_bitCount_0f7a4 17 = .ok (.iushr, 1) := by decide +kernel
theorem dJ6_bitCount_0f7a4_18 : decode cJ6_bitCount_0f7a4 18 = .ok (.ldc_w 266, 3) := by decide +kernel
theorem dJ6_bitCount_0f7a4_21 : decode cJ6_bitCount_0f7a4 21 = .ok (.iand, 1) := by decide +kernel
theorem dJ6_bitCount_0f7a4_22 : decode cJ6_bitCount_0f7a4 22 = .ok (.iadd, 1) := by decide +kernel
theorem dJ6_bitCount_0f7a4_23 : decode cJ6_bitCount_0f7a4 23 = .ok (.istore_n 0, 1) := by decide +kernel
theorem dJ6_bitCount_0f7a4_24 : decode cJ6_bitCount_0f7a4 24 = .ok (.iload_n 0, 1) := by decide +kernel
theorem dJ6_bitCount_0f7a4_25 : decode cJ6_bitCount_0f7a4 25 = .ok (.iload_n 0, 1) := by decide +kernel
theorem dJ6_bitCount_0f7a4_26 : decode cJ6_bitCount_0f7a4 26 = .ok (.iconst 4, 1) := by decide +kernel
theorem dJ6_bitCount_0f7a4_27 : decode cJ6_bitCount_0f7a4 27 = .ok (.iushr, 1) := by decide +kernel
theorem dJ6_bitCount_0f7a4_28 : decode cJ6_bitCount_0f7a4 28 = .ok (.iadd, 1) := by decide +kernel
theorem dJ6_bitCount_0f7a4_29 : decode cJ6_bitCount_0f7a4 29 = .ok (.ldc_w 267, 3) := by decide +kernel
theorem dJ6_bitCount_0f7a4_32 : decode cJ6_bitCount_0f7a4 32 = .ok (.iand, 1) := by decide +kernel
theorem dJ6_bitCount_0f7a4_33 : decode cJ6_bitCount_0f7a4 33 = .ok (.istore_n 0, 1) := by decide +kernel
theorem dJ6_bitCount_0f7a4_34 : decode cJ6_bitCount_0f7a4 34 = .ok (.iload_n 0, 1) := by decide +kernel
theorem dJ6_bitCount_0f7a4_35 : decode cJ6_bitCount_0f7a4 35 = .ok (.iload_n 0, 1) := by decide +kernel
theorem dJ6_bitCount_0f7a4_36 : decode cJ6_bitCount_0f7a4 36 = .ok (.bipush 8, 2) := by decide +kernel
theorem dJ6_bitCount_0f7a4_38 : decode cJ6_bitCount_0f7a4 38 = .ok (.iushr, 1) := by decide +kernel
theorem dJ6_bitCount_0f7a4_39 : decode cJ6_bitCount_0f7a4 39 = .ok (.iadd, 1) := by decide +kernel
theorem dJ6_bitCount_0f7a4_40 : decode cJ6_bitCount_0f7a4 40 = .ok (.istore_n 0, 1) := by decide +kernel
theorem dJ6_bitCount_0f7a4_41 : decode cJ6_bitCount_0f7a4 41 = .ok (.iload_n 0, 1) := by decide +kernel
theorem dJ6_bitCount_0f7a4_42 : decode cJ6_bitCount_0f7a4 42 = .ok (.iload_n 0, 1) := by decide +kernel
theorem dJ6_bitCount_0f7a4_43 : decode cJ6_bitCount_0f7a4 43 = .ok (.bipush 16, 2) := by decide +kernel
theorem dJ6_bitCount_0f7a4_45 : decode cJ6_bitCount_0f7a4 45 = .ok (.iushr, 1) := by decide +kernel
theorem dJ6_bitCount_0f7a4_46 : decode cJ6_bitCount_0f7a4 46 = .ok (.iadd, 1) := by decide +kernel
theorem dJ6_bitCount_0f7a4_47 : decode cJ6_bitCount_0f7a4 47 = .ok (.istore_n 0, 1) := by decide +kernel
theorem dJ6_bitCount_0f7a4_48 : decode cJ6_bitCount_0f7a4 48 = .ok (.iload_n 0, 1) := by decide +kernel
theorem dJ6_bitCount_0f7a4_49 : decode cJ6_bitCount_0f7a4 49 = .ok (.bipush 63, 2) := by decide +kernel
theorem dJ6_bitCount_0f7a4_51 : decode cJ6_bitCount_0f7a4 51 = .ok (.iand, 1) := by decide +kernel
theorem dJ6_bitCount_0f7a4_52 : decode cJ6_bitCount_0f7a4 52 = .ok (.ireturn, 1) := by decide +kernel
set_option maxRecDepth 20000 in
theorem ggJ13_numberOfLeadingZeros_95d88_J6_numberOfLeadingZeros_0f7a4 : GoodIn wsJ13_numberOfLeadingZeros_95d88 wsJ6_numberOfLeadingZeros_0f7a4 := goodIn_r _ [4, 5] (by decide +kernel) (by decide +kernel)
set_option maxRecDepth 20000 in
theorem gJ13_numberOfLeadingZeros_95d88_J6_numberOfLeadingZeros_0f7a4 : GoodIn wsJ13_numberOfLeadingZeros_95d88 (va_wsS RJ13 308 yJ6_numberOfLeadingZeros_0f7a4 wsJ6_numberOfLeadingZeros_0f7a4) := goodIn_app (goodIn_of _ (by decide +kernel)) ggJ13_numberOfLeadingZeros_95d88_J6_numberOfLeadingZeros_0f7a4
theorem dJ13_numberOfLeadingZeros_95d88_0 : decode cJ13_numberOfLeadingZeros_95d88 0 = .ok (.lload_n 0, 1) := by decide +kernel
theorem dJ13_numberOfLeadingZeros_95d88_1 : decode cJ13_numberOfLeadingZeros_95d88 1 = .ok (.bipush 32, 2) := by decide +kernel
theorem dJ13_numberOfLeadingZeros_95d88_3 : decode cJ13_numberOfLeadingZeros_95d88 3 = .ok (.lushr, 1) := by decide +kernel
theorem dJ13_numberOfLeadingZeros_95d88_4 : decode cJ13_numberOfLeadingZeros_95d88 4 = .ok (.l2i, 1) := by decide +kernel
theorem dJ13_numberOfLeadingZeros_95d88_5 : decode cJ13_numberOfLeadingZeros_95d88 5 = .ok (.istore_n 2, 1) := by decide +kernel
theorem dJ13_numberOfLeadingZeros_95d88_6 : decode cJ13_numberOfLeadingZeros_95d88 6 = .ok (.iload_n 2, 1) := by decide +kernel
theorem dJ13_numberOfLeadingZeros_95d88_7 : decode cJ13_numberOfLeadingZeros_95d88 7 = .ok (.ifCond .ne 14, 3) := by decide +kernel
theorem dJ13_numberOfLeadingZeros_95d88_10 : decode cJ13_numberOfLeadingZeros_95d88 10 = .ok (.bipush 32, 2) := by decide +kernel
theorem dJ13_numberOfLeadingZeros_95d88_12 : decode cJ13_numberOfLeadingZeros_95d88 12 = .ok (.lload_n 0, 1) := by decide +kernel
theorem dJ13_numberOfLeadingZeros_95d88_13 : decode cJ13_numberOfLeadingZeros_95d88 13 = .ok (.l2i, 1) := by decide +kernel
theorem dJ13_numberOfLeadingZeros_95d88_14 : decode cJ13_numberOfLeadingZeros_95d88 14 = .ok (.invokestatic 308, 3) := by decide +kernel
theorem dJ13_numberOfLeadingZeros_95d88_17 : decode cJ13_numberOfLeadingZeros_95d88 17 = .ok (.iadd, 1) := by decide +kernel
theorem dJ13_numberOfLeadingZeros_95d88_18 : decode cJ13_numberOfLeadingZeros_95d88 18 = .ok (.goto 7, 3) := by decide +kernel
theorem dJ13_numberOfLeadingZeros_95d88_21 : decode cJ13_numberOfLeadingZeros_95d88 21 = .ok (.iload_n 2, 1) := by decide +kernel
theorem dJ13_numberOfLeadingZeros_95d88_22 : decode cJ13_numberOfLeadingZeros_95d88 22 = .ok (.invokestatic 308, 3) := by decide +kernel
theorem dJ13_numberOfLeadingZeros_95d88_25 : decode cJ13_numberOfLeadingZeros_95d88 25 = .ok (.ireturn, 1) := by decide +kernel
set_option maxRecDepth 20000 in
theorem ggJ13_numberOfTrailingZeros_95d88_J6_numberOfTrailingZeros_0f7a4 : GoodIn wsJ13_numberOfTrailingZeros_95d88 wsJ6_numberOfTrailingZeros_0f7a4 := goodIn_r _ [4, 5] (by decide +kernel) (by decide +kernel)
set_option maxRecDepth 20000 in
theorem gJ13_numberOfTrailingZeros_95d88_J6_numberOfTrailingZeros_0f7a4 : GoodIn wsJ13_numberOfTrailingZeros_95d88 (va_wsS RJ13 311 yJ6_numberOfTrailingZeros_0f7a4 wsJ6_numberOfTrailingZeros_0f7a4) := goodIn_app (goodIn_of _ (by decide +kernel)) ggJ13_numberOfTrailingZeros_95d88_J6_numberOfTrailingZeros_0f7a4
theorem dJ13_numberOfTrailingZeros_95d88_0 : decode cJ13_numberOfTrailingZeros_95d88 0 = .ok (.lload_n 0, 1) := by decide +kernel
theorem dJ13_numberOfTrailingZeros_95d88_1 : decode cJ13_numberOfTrailingZeros_95d88 1 = .ok (.l2i, 1) := by decide +kernel
theorem dJ13_numberOfTrailingZeros_95d88_2 : decode cJ13_numberOfTrailingZeros_95d88 2 = .ok (.istore_n 2, 1) := by decide +kernel
theorem dJ13_numberOfTrailingZeros_95d88_3 : decode cJ13_numberOfTrailingZeros_95d88 3 = .ok (.iload_n 2, 1) := by decide +kernel
theorem dJ13_numberOfTrailingZeros_95d88_4 : decode cJ13_numberOfTrailingZeros_95d88 4 = .ok (.ifCond .ne 17, 3) := by decide +kernel
theorem dJ13_numberOfTrailingZeros_95d88_7 : decode cJ13_numberOfTrailingZeros_95d88 7 = .ok (.bipush 32, 2) := by decide +kernel
theorem dJ13_numberOfTrailingZeros_95d88_9 : decode cJ13_numberOfTrailingZeros_95d88 9 = .ok (.lload_n 0, 1) := by decide +kernel
theorem dJ13_numberOfTrailingZeros_95d88_10 : decode cJ13_numberOfTrailingZeros_95d88 10 = .ok (.bipush 32, 2) := by decide +kernel
theorem dJ13_numberOfTrailingZeros_95d88_12 : decode cJ13_numberOfTrailingZeros_95d88 12 = .ok (.lushr, 1) := by decide +kernel
theorem dJ13_numberOfTrailingZeros_95d88_13 : decode cJ13_numberOfTrailingZeros_95d88 13 = .ok (.l2i, 1) := by decide +kernel
theorem dJ13_numberOfTrailingZeros_95d88_14 : decode cJ13_numberOfTrailingZeros_95d88 14 = .ok (.invokestatic 311, 3) := by decide +kernel
theorem dJ13_numberOfTrailingZeros_95d88_17 : decode cJ13_numberOfTrailingZeros_95d88 17 = .ok (.iadd, 1) := by decide +kernel
theorem dJ13_numberOfTrailingZeros_95d88_18 : decode cJ13_numberOfTrailingZeros_95d88 18 = .ok (.goto 7, 3) := by decide +kernel
theorem dJ13_numberOfTrailingZeros_95d88_21 : decode cJ13_numberOfTrailingZeros_95d88 21 = .ok (.iload_n 2, 1) := by decide +kernel
theorem dJ13_numberOfTrailingZeros_95d88_22 : decode cJ13_numberOfTrailingZeros_95d88 22 = .ok (.invokestatic 311, 3) := by decide +kernel
theorem dJ13_numberOfTrailingZeros_95d88_25 : decode cJ13_numberOfTrailingZeros_95d88 25 = .ok (.ireturn, 1) := by decide +kernel
theorem dJ9_floorDiv_f86c9_0 : decode cJ9_floorDiv_f86c9 0 = .ok (.lload_n 0, 1) := by decide +kernel
theorem dJ9_floorDiv_f86c9_1 : decode cJ9_floorDiv_f86c9 1 = .ok (.lload_n 2, 1) := by decide +kernel
theorem dJ9_floorDiv_f86c9_2 : decode cJ9_floorDiv_f86c9 2 = .ok (.ldiv, 1) := by decide +kernel
theorem dJ9_floorDiv_f86c9_3 : decode cJ9_floorDiv_f86c9 3 = .ok (.lstore 4, 2) := by decide +kernel
theorem dJ9_floorDiv_f86c9_5 : decode cJ9_floorDiv_f86c9 5 = .ok (.lload_n 0, 1) := by decide +kernel
theorem dJ9_floorDiv_f86c9_6 : decode cJ9_floorDiv_f86c9 6 = .ok (.lload_n 2, 1) := by decide +kernel
theorem dJ9_floorDiv_f86c9_7 : decode cJ9_floorDiv_f86c9 7 = .ok (.lxor, 1) := by decide +kernel
theorem dJ9_floorDiv_f86c9_8 : decode cJ9_floorDiv_f86c9 8 = .ok (.lconst 0, 1) := by decide +kernel
theorem dJ9_floorDiv_f86c9_9 : decode cJ9_floorDiv_f86c9 9 = .ok (.lcmp, 1) := by decide +kernel
theorem dJ9_floorDiv_f86c9_10 : decode cJ9_floorDiv_f86c9 10 = .ok (.ifCond .ge 17, 3) := by decide +kernel
theorem dJ9_floorDiv_f86c9_13 : decode cJ9_floorDiv_f86c9 13 = .ok (.lload 4, 2) := by decide +kernel
theorem dJ9_floorDiv_f86c9_15 : decode cJ9_floorDiv_f86c9 15 = .ok (.lload_n 2, 1) := by decide +kernel
theorem dJ9_floorDiv_f86c9_16 : decode cJ9_floorDiv_f86c9 16 = .ok (.lmul, 1) := by decide +kernel
theorem dJ9_floorDiv_f86c9_17 : decode cJ9_floorDiv_f86c9 17 = .ok (.lload_n 0, 1) := by decide +kernel
theorem dJ9_floorDiv_f86c9_18 : decode cJ9_floorDiv_f86c9 18 = .ok (.lcmp, 1) := by decide +kernel
theorem dJ9_floorDiv_f86c9_19 : decode cJ9_floorDiv_f86c9 19 = .ok (.ifCond .eq 8, 3) := by decide +kernel
theorem dJ9_floorDiv_f86c9_22 : decode cJ9_floorDiv_f86c9 22 = .ok (.lload 4, 2) := by decide +kernel
theorem dJ9_floorDiv_f86c9_24 : decode cJ9_floorDiv_f86c9 24 = .ok (.lconst 1, 1) := by decide +kernel
theorem dJ9_floorDiv_f86c9_25 : decode cJ9_floorDiv_f86c9 25 = .ok (.lsub, 1) := by decide +kernel
theorem dJ9_floorDiv_f86c9_26 : decode cJ9_floorDiv_f86c9 26 = .ok (.lreturn, 1) := by decide +kernel
theorem dJ9_floorDiv_f86c9_27 : decode cJ9_floorDiv_f86c9 27 = .ok (.lload 4, 2) := by decide +kernel
theorem dJ9_floorDiv_f86c9_29 : decode cJ9_floorDiv_f86c9 29 = .ok (.lreturn, 1) := by decide +kernel
theorem dJ9_floorMod_7cf53_0 : decode cJ9_floorMod_7cf53 0 = .ok (.iload_n 0, 1) := by decide +kernel
theorem dJ9_floorMod_7cf53_1 : decode cJ9_floorMod_7cf53 1 = .ok (.iload_n 1, 1) := by decide +kernel
theorem dJ9_floorMod_7cf53_2 : decode cJ9_floorMod_7cf53 2 = .ok (.irem, 1) := by decide +kernel
theorem dJ9_floorMod_7cf53_3 : decode cJ9_floorMod_7cf53 3 = .ok (.istore_n 2, 1) := by decide +kernel
theorem dJ9_floorMod_7cf53_4 : decode cJ9_floorMod_7cf53 4 = .ok (.iload_n 0, 1) := by decide +kernel
theorem dJ9_floorMod_7cf53_5 : decode cJ9_floorMod_7cf53 5 = .ok (.iload_n 1, 1) := by decide +kernel
theorem dJ9_floorMod_7cf53_6 : decode cJ9_floorMod_7cf53 6 = .ok (.ixor, 1) := by decide +kernel
theorem dJ9_floorMod_7cf53_7 : decode cJ9_floorMod_7cf53 7 = .ok (.ifCond .ge 11, 3) := by decide +kernel
theorem dJ9_floorMod_7cf53_10 : decode cJ9_floorMod_7cf53 10 = .ok (.iload_n 2, 1) := by decide +kernel
theorem dJ9_floorMod_7cf53_11 : decode cJ9_floorMod_7cf53 11 = .ok (.ifCond .eq 7, 3) := by decide +kernel
theorem dJ9_floorMod_7cf53_14 : decode cJ9_floorMod_7cf53 14 = .ok (.iload_n 2, 1) := by decide +kernel
theorem dJ9_floorMod_7cf53_15 : decode cJ9_floorMod_7cf53 15 = .ok (.iload_n 1, 1) := by decide +kernel
theorem dJ9_floorMod_7cf53_16 : decode cJ9_floorMod_7cf53 16 = .ok (.iadd, 1) := by decide +kernel
theorem dJ9_floorMod_7cf53_17 : decode cJ9_floorMod_7cf53 17 = .ok (.ireturn, 1) := by decide +kernel
theorem dJ9_floorMod_7cf53_18 : decode cJ9_floorMod_7cf53 18 = .ok (.iload_n 2, 1) := by decide +kernel
theorem dJ9_floorMod_7cf53_19 : decode cJ9_floorMod_7cf53 19 = .ok (.ireturn, 1) := by decide +kernel
theorem dJ9_floorMod_f86c9_0 : decode cJ9_floorMod_f86c9 0 = .ok (.lload_n 0, 1) := by decide +kernel
theorem dJ9_floorMod_f86c9_1 : decode cJ9_floorMod_f86c9 1 = .ok (.lload_n 2, 1) := by decide +kernel
theorem dJ9_floorMod_f86c9_2 : decode cJ9_floorMod_f86c9 2 = .ok (.lrem, 1) := by decide +kernel
theorem dJ9_floorMod_f86c9_3 : decode cJ9_floorMod_f86c9 3 = .ok (.lstore 4, 2) := by decide +kernel
theorem dJ9_floorMod_f86c9_5 : decode cJ9_floorMod_f86c9 5 = .ok (.lload_n 0, 1) := by decide +kernel
theorem dJ9_floorMod_f86c9_6 : decode cJ9_floorMod_f86c9 6 = .ok (.lload_n 2, 1) := by decide +kernel
theorem dJ9_floorMod_f86c9_7 : decode cJ9_floorMod_f86c9 7 = .ok (.lxor, 1) := by decide +kernel
theorem dJ9_floorMod_f86c9_8 : decode cJ9_floorMod_f86c9 8 = .ok (.lconst 0, 1) := by decide +kernel
theorem dJ9_floorMod_f86c9_9 : decode cJ9_floorMod_f86c9 9 = .ok (.lcmp, 1) := by decide +kernel
theorem dJ9_floorMod_f86c9_10 : decode cJ9_floorMod_f86c9 10 = .ok (.ifCond .ge 15, 3) := by decide +kernel
theorem dJ9_floorMod_f86c9_13 : decode cJ9_floorMod_f86c9 13 = .ok (.lload 4, 2) := by decide +kernel
theorem dJ9_floorMod_f86c9_15 : decode cJ9_floorMod_f86c9 15 = .ok (.lconst 0, 1) := by decide +kernel
theorem dJ9_floorMod_f86c9_16 : decode cJ9_floorMod_f86c9 16 = .ok (.lcmp, 1) := by decide +kernel
theorem dJ9_floorMod_f86c9_17 : decode cJ9_floorMod_f86c9 17 = .ok (.ifCond .eq 8, 3) := by decide +kernel
theorem dJ9_floorMod_f86c9_20 : decode cJ9_floorMod_f86c9 20 = .ok (.lload 4, 2) := by decide +kernel
theorem dJ9_floorMod_f86c9_22 : decode cJ9_floorMod_f86c9 22 = .ok (.lload_n 2, 1) := by decide +kernel
theorem dJ9_floorMod_f86c9_23 : decode cJ9_floorMod_f86c9 23 = .ok (.ladd, 1) := by decide +kernel
theorem dJ9_floorMod_f86c9_24 : decode cJ9_floorMod_f86c9 24 = .ok (.lreturn, 1) := by decide +kernel
theorem dJ9_floorMod_f86c9_25 : decode cJ9_floorMod_f86c9 25 = .ok (.lload 4, 2) := by decide +kernel
theorem dJ9_floorMod_f86c9_27 : decode cJ9_floorMod_f86c9 27 = .ok (.lreturn, 1) := by decide +kernel
theorem dJ9_abs_067f4_0 : decode cJ9_abs_067f4 0 = .ok (.lload_n 0, 1) := by decide +kernel
theorem dJ9_abs_067f4_1 : decode cJ9_abs_067f4 1 = .ok (.lconst 0, 1) := by decide +kernel
theorem dJ9_abs_067f4_2 : decode cJ9_abs_067f4 2 = .ok (.lcmp, 1) := by decide +kernel
theorem dJ9_abs_067f4_3 : decode cJ9_abs_067f4 3 = .ok (.ifCond .ge 8, 3) := by decide +kernel
theorem dJ9_abs_067f4_6 : decode cJ9_abs_067f4 6 = .ok (.lload_n 0, 1) := by decide +kernel
theorem dJ9_abs_067f4_7 : decode cJ9_abs_067f4 7 = .ok (.lneg, 1) := by decide +kernel
theorem dJ9_abs_067f4_8 : decode cJ9_abs_067f4 8 = .ok (.goto 4, 3) := by decide +kernel
theorem dJ9_abs_067f4_11 : decode cJ9_abs_067f4 11 = .ok (.lload_n 0, 1) := by decide +kernel
theorem dJ9_abs_067f4_12 : decode cJ9_abs_067f4 12 = .ok (.lreturn, 1) := by decide +kernel
theorem dJ9_max_7cf53_0 : decode cJ9_max_7cf53 0 = .ok (.iload_n 0, 1) := by decide +kernel
theorem dJ9_max_7cf53_1 : decode cJ9_max_7cf53 1 = .ok (.iload_n 1, 1) := by decide +kernel
theorem dJ9_max_7cf53_2 : decode cJ9_max_7cf53 2 = .ok (.if_icmp .lt 7, 3) := by decide +kernel
theorem dJ9_max_7cf53_5 : decode cJ9_max_7cf53 5 = .ok (.iload_n 0, 1) := by decide +kernel
theorem dJ9_max_7cf53_6 : decode cJ9_max_7cf53 6 = .ok (.goto 4, 3) := by decide +kernel
theorem dJ9_max_7cf53_9 : decode cJ9_max_7cf53 9 = .ok (.iload_n 1, 1) := by decide +kernel
theorem dJ9_max_7cf53_10 : decode cJ9_max_7cf53 10 = .ok (.ireturn, 1) := by decide +kernel
theorem dJ9_min_7cf53_0 : decode cJ9_min_7cf53 0 = .ok (.iload_n 0, 1) := by decide +kernel
theorem dJ9_min_7cf53_1 : decode cJ9_min_7cf53 1 = .ok (.iload_n 1, 1) := by decide +kernel
theorem dJ9_min_7cf53_2 : decode cJ9_min_7cf53 2 = .ok (.if_icmp .gt 7, 3) := by decide +kernel
theorem dJ9_min_7cf53_5 : decode cJ9_min_7cf53 5 = .ok (.iload_n 0, 1) := by decide +kernel
theorem dJ9_min_7cf53_6 : decode cJ9_min_7cf53 6 = .ok (.goto 4, 3) := by decide +kernel
theorem dJ9_min_7cf53_9 : decode cJ9_min_7cf53 9 = .ok (.iload_n 1, 1) := by decide +kernel
theorem dJ9_min_7cf53_10 : decode cJ9_min_7cf53 10 = .ok (.ireturn, 1) := by decide +kernel
theorem dJxa1e45_init_da8c8_0 : decode cJxa1e45_init_da8c8 0 = .ok (.aload_n 0, 1) := by decide +kernel
theorem dJxa1e45_init_da8c8_1 : decode cJxa1e45_init_da8c8 1 = .ok (.invokespecial 1, 3) := by decide +kernel
theorem dJxa1e45_init_da8c8_4 : decode cJxa1e45_init_da8c8 4 = .ok (.return_, 1) := by decide +kernel
set_option maxRecDepth 20000 in
theorem ggJxc12de_init_da8c8_Jxa1e45_init_da8c8 : GoodIn wsJxc12de_init_da8c8 wsJxa1e45_init_da8c8 := goodIn_r _ [5, 6, 7, 8] (by decide +kernel) (by decide +kernel)
set_option maxRecDepth 20000 in
theorem gJxc12de_init_da8c8_Jxa1e45_init_da8c8 : GoodIn wsJxc12de_init_da8c8 (wsJxa1e45_init_da8c8) := ggJxc12de_init_da8c8_Jxa1e45_init_da8c8
theorem dJxc12de_init_da8c8_0 : decode cJxc12de_init_da8c8 0 = .ok (.aload_n 0, 1) := by decide +kernel
theorem dJxc12de_init_da8c8_1 : decode cJxc12de_init_da8c8 1 = .ok (.invokespecial 1, 3) := by decide +kernel
theorem dJxc12de_init_da8c8_4 : decode cJxc12de_init_da8c8 4 = .ok (.aload_n 0, 1) := by decide +kernel
theorem dJxc12de_init_da8c8_5 : decode cJxc12de_init_da8c8 5 = .ok (.iconst 0, 1) := by decide +kernel
theorem dJxc12de_init_da8c8_6 : decode cJxc12de_init_da8c8 6 = .ok (.putfield 7, 3) := by decide +kernel
theorem dJxc12de_init_da8c8_9 : decode cJxc12de_init_da8c8 9 = .ok (.return_, 1) := by decide +kernel
set_option maxRecDepth 20000 in
theorem ggJx4a65c_init_da8c8_Jxc12de_init_da8c8 : GoodIn wsJx4a65c_init_da8c8 wsJxc12de_init_da8c8 := goodIn_r _ [6, 7, 8, 9, 10, 11, 12, 13, 14, 15, 16, 17] (by decide +kernel) (by decide +kernel)
set_option maxRecDepth 20000 in
theorem gJx4a65c_init_da8c8_Jxc12de_init_da8c8 : GoodIn wsJx4a65c_init_da8c8 (wsJxc12de_init_da8c8) := ggJx4a65c_init_da8c8_Jxc12de_init_da8c8
theorem dJx4a65c_init_da8c8_0 : decode cJx4a65c_init_da8c8 0 = .ok (.aload_n 0, 1) := by decide +kernel
theorem dJx4a65c_init_da8c8_1 : decode cJx4a65c_init_da8c8 1 = .ok (.invokespecial 1, 3) := by decide +kernel
theorem dJx4a65c_init_da8c8_4 : decode cJx4a65c_init_da8c8 4 = .ok (.aload_n 0, 1) := by decide +kernel
theorem dJx4a65c_init_da8c8_5 : decode cJx4a65c_init_da8c8 5 = .ok (.getstatic 39, 3) := by decide +kernel
theorem dJx4a65c_init_da8c8_8 : decode cJx4a65c_init_da8c8 8 = .ok (.putfield 9, 3) := by decide +kernel
theorem dJx4a65c_init_da8c8_11 : decode cJx4a65c_init_da8c8 11 = .ok (.return_, 1) := by decide +kernel
set_option maxRecDepth 20000 in
theorem ggJx4a65c_grow_92f84_J8_newLength_cabcc : GoodIn wsJx4a65c_grow_92f84 wsJ8_newLength_cabcc := goodIn_r _ [11, 12, 4, 5, 6, 13, 14, 15, 10, 16] (by decide +kernel) (by decide +kernel)
set_option maxRecDepth 20000 in
theorem gJx4a65c_grow_92f84_J8_newLength_cabcc : GoodIn wsJx4a65c_grow_92f84 (va_wsS RJx4a65c 73 yJ8_newLength_cabcc wsJ8_newLength_cabcc) := goodIn_app (goodIn_of _ (by decide +kernel)) ggJx4a65c_grow_92f84_J8_newLength_cabcc
set_option maxRecDepth 20000 in
theorem ggJx4a65c_grow_92f84_J7_copyOf_1904c : GoodIn wsJx4a65c_grow_92f84 wsJ7_copyOf_1904c := goodIn_r _ [20, 21, 22, 23, 24, 25, 26, 19, 27, 28, 29, 30, 31, 5, 32, 33, 34, 35, 36] (by decide +kernel) (by decide +kernel)
set_option maxRecDepth 20000 in
theorem gJx4a65c_grow_92f84_J7_copyOf_1904c : GoodIn wsJx4a65c_grow_92f84 (va_wsS RJx4a65c 66 yJ7_copyOf_1904c wsJ7_copyOf_1904c) := goodIn_app (goodIn_of _ (by decide +kernel)) ggJx4a65c_grow_92f84_J7_copyOf_1904c
theorem dJx4a65c_grow_92f84_0 : decode cJx4a65c_grow_92f84 0 = .ok (.aload_n 0, 1) := by decide +kernel
theorem dJx4a65c_grow_92f84_1 : decode cJx4a65c_grow_92f84 1 = .ok (.getfield 9, 3) := by decide +kernel
theorem dJx4a65c_grow_92f84_4 : decode cJx4a65c_grow_92f84 4 = .ok (.arraylength, 1) := by decide +kernel
theorem dJx4a65c_grow_92f84_5 : decode cJx4a65c_grow_92f84 5 = .ok (.istore_n 2, 1) := by decide +kernel
theorem dJx4a65c_grow_92f84_6 : decode cJx4a65c_grow_92f84 6 = .ok (.iload_n 2, 1) := by decide +kernel
theorem dJx4a65c_grow_92f84_7 : decode cJx4a65c_grow_92f84 7 = .ok (.ifCond .gt 13, 3) := by decide +kernel
theorem dJx4a65c_grow_92f84_10 : decode cJx4a65c_grow_92f84 10 = .ok (.aload_n 0, 1) := by decide +kernel
theorem dJx4a65c_grow_92f84_11 : decode cJx4a65c_grow_92f84 11 = .ok (.getfield 9, 3) := by decide +kernel
theorem dJx4a65c_grow_92f84_14 : decode cJx4a65c_grow_92f84 14 = .ok (.getstatic 39, 3) := by decide +kernel
theorem dJx4a65c_grow_92f84_17 : decode cJx4a65c_grow_92f84 17 = .ok (.if_acmp .eq 28, 3) := by decide +kernel
theorem dJx4a65c_grow_92f84_20 : decode cJx4a65c_grow_92f84 20 = .ok (.iload_n 2, 1) := by decide +kernel
theorem dJx4a65c_grow_92f84_21 : decode cJx4a65c_grow_92f84 21 = .ok (.iload_n 1, 1) := by decide +kernel
theorem dJx4a65c_grow_92f84_22 : decode cJx4a65c_grow_92f84 22 = .ok (.iload_n 2, 1) := by decide +kernel
theorem dJx4a65c_grow_92f84_23 : decode cJx4a65c_grow_92f84 23 = .ok (.isub, 1) := by decide +kernel
theorem dJx4a65c_grow_92f84_24 : decode cJx4a65c_grow_92f84 24 = .ok (.iload_n 2, 1) := by decide +kernel
theorem dJx4a65c_grow_92f84_25 : decode cJx4a65c_grow_92f84 25 = .ok (.iconst 1, 1) := by decide +kernel
theorem dJx4a65c_grow_92f84_26 : decode cJx4a65c_grow_92f84 26 = .ok (.ishr, 1) := by decide +kernel
theorem dJx4a65c_grow_92f84_27 : decode cJx4a65c_grow_92f84 27 = .ok (.invokestatic 73, 3) := by decide +kernel
theorem dJx4a65c_grow_92f84_30 : decode cJx4a65c_grow_92f84 30 = .ok (.istore_n 3, 1) := by decide +kernel
theorem dJx4a65c_grow_92f84_31 : decode cJx4a65c_grow_92f84 31 = .ok (.aload_n 0, 1) := by decide +kernel
theorem dJx4a65c_grow_92f84_32 : decode cJx4a65c_grow_92f84 32 = .ok (.aload_n 0, 1) := by decide +kernel
theorem dJx4a65c_grow_92f84_33 : decode cJx4a65c_grow_92f84 33 = .ok (.getfield 9, 3) := by decide +kernel
theorem dJx4a65c_grow_92f84_36 : decode cJx4a65c_grow_92f84 36 = .ok (.iload_n 3, 1) := by decide +kernel
theorem dJx4a65c_grow_92f84_37 : decode cJx4a65c_grow_92f84 37 = .ok (.invokestatic 66, 3) := by decide +kernel
theorem dJx4a65c_grow_92f84_40 : decode cJx4a65c_grow_92f84 40 = .ok (.dup_x1, 1) := by decide +kernel
theorem dJx4a65c_grow_92f84_41 : decode cJx4a65c_grow_92f84 41 = .ok (.putfield 9, 3) := by decide +kernel
theorem dJx4a65c_grow_92f84_44 : decode cJx4a65c_grow_92f84 44 = .ok (.areturn, 1) := by decide +kernel
theorem dJx4a65c_grow_92f84_45 : decode cJx4a65c_grow_92f84 45 = .ok (.aload_n 0, 1) := by decide +kernel
theorem dJx4a65c_grow_92f84_46 : decode cJx4a65c_grow_92f84 46 = .ok (.bipush 10, 2) := by decide +kernel
theorem dJx4a65c_grow_92f84_48 : decode cJx4a65c_grow_92f84 48 = .ok (.iload_n 1, 1) := by decide +kernel
theorem dJx4a65c_grow_92f84_49 : decode cJx4a65c_grow_92f84 49 = .ok (.invokestatic 79, 3) := by decide +kernel
theorem dJx4a65c_grow_92f84_52 : decode cJx4a65c_grow_92f84 52 = .ok (.anewarray 7, 3) := by decide +kernel
theorem dJx4a65c_grow_92f84_55 : decode cJx4a65c_grow_92f84 55 = .ok (.dup_x1, 1) := by decide +kernel
theorem dJx4a65c_grow_92f84_56 : decode cJx4a65c_grow_92f84 56 = .ok (.putfield 9, 3) := by decide +kernel
theorem dJx4a65c_grow_92f84_59 : decode cJx4a65c_grow_92f84 59 = .ok (.areturn, 1) := by decide +kernel
set_option maxRecDepth 20000 in
theorem ggJx4a65c_grow_d5877_Jx4a65c_grow_92f84 : GoodIn wsJx4a65c_grow_d5877 wsJx4a65c_grow_92f84 := goodIn_r _ [6, 7, 8, 9, 10, 11, 12, 13, 14, 15, 16, 17, 18, 19, 20, 21, 22, 23, 24, 25, 26, 27, 28, 29, 30, 31, 32, 33, 34, 35, 36, 37, 38, 39, 40, 41, 42, 43, 44, 45] (by decide +kernel) (by decide +kernel)
set_option maxRecDepth 20000 in
theorem gJx4a65c_grow_d5877_Jx4a65c_grow_92f84 : GoodIn wsJx4a65c_grow_d5877 (wsV RJx4a65c 69 RJx4a65c yJx4a65c_grow_92f84 wsJx4a65c_grow_92f84) := goodIn_app (goodIn_of _ (by decide +kernel)) ggJx4a65c_grow_d5877_Jx4a65c_grow_92f84
theorem dJx4a65c_grow_d5877_0 : decode cJx4a65c_grow_d5877 0 = .ok (.aload_n 0, 1) := by decide +kernel
theorem dJx4a65c_grow_d5877_1 : decode cJx4a65c_grow_d5877 1 = .ok (.aload_n 0, 1) := by decide +kernel
theorem dJx4a65c_grow_d5877_2 : decode cJx4a65c_grow_d5877 2 = .ok (.getfield 48, 3) := by decide +kernel
theorem dJx4a65c_grow_d5877_5 : decode cJx4a65c_grow_d5877 5 = .ok (.iconst 1, 1) := by decide +kernel
theorem dJx4a65c_grow_d5877_6 : decode cJx4a65c_grow_d5877 6 = .ok (.iadd, 1) := by decide +kernel
theorem dJx4a65c_grow_d5877_7 : decode cJx4a65c_grow_d5877 7 = .ok (.invokevirtual 69, 3) := by decide +kernel
theorem dJx4a65c_grow_d5877_10 : decode cJx4a65c_grow_d5877 10 = .ok (.areturn, 1) := by decide +kernel
theorem dJx4a65c_size_8abf5_0 : decode cJx4a65c_size_8abf5 0 = .ok (.aload_n 0, 1) := by decide +kernel
theorem dJx4a65c_size_8abf5_1 : decode cJx4a65c_size_8abf5 1 = .ok (.getfield 48, 3) := by decide +kernel
theorem dJx4a65c_size_8abf5_4 : decode cJx4a65c_size_8abf5 4 = .ok (.ireturn, 1) := by decide +kernel
theorem dJx4a65c_elementData_915e3_0 : decode cJx4a65c_elementData_915e3 0 = .ok (.aload_n 0, 1) := by decide +kernel
theorem dJx4a65c_elementData_915e3_1 : decode cJx4a65c_elementData_915e3 1 = .ok (.getfield 9, 3) := by decide +kernel
theorem dJx4a65c_elementData_915e3_4 : decode cJx4a65c_elementData_915e3 4 = .ok (.iload_n 1, 1) := by decide +kernel
theorem dJx4a65c_elementData_915e3_5 : decode cJx4a65c_elementData_915e3 5 = .ok (.aaload, 1) := by decide +kernel
theorem dJx4a65c_elementData_915e3_6 : decode cJx4a65c_elementData_915e3 6 = .ok (.areturn, 1) := by decide +kernel
set_option maxRecDepth 20000 in
theorem ggJx4a65c_get_915e3_J15_checkIndex_7cf53 : GoodIn wsJx4a65c_get_915e3 wsJ15_checkIndex_7cf53 := goodIn_r _ [5, 6, 7, 8, 9] (by decide +kernel) (by decide +kernel)
set_option maxRecDepth 20000 in
theorem gJx4a65c_get_915e3_J15_checkIndex_7cf53 : GoodIn wsJx4a65c_get_915e3 (va_wsS RJx4a65c 118 yJ15_checkIndex_7cf53 wsJ15_checkIndex_7cf53) := goodIn_app (goodIn_of _ (by decide +kernel)) ggJx4a65c_get_915e3_J15_checkIndex_7cf53
set_option maxRecDepth 20000 in
theorem ggJx4a65c_get_915e3_Jx4a65c_elementData_915e3 : GoodIn wsJx4a65c_get_915e3 wsJx4a65c_elementData_915e3 := goodIn_r _ [14, 15, 16, 17, 18] (by decide +kernel) (by decide +kernel)
set_option maxRecDepth 20000 in
theorem gJx4a65c_get_915e3_Jx4a65c_elementData_915e3 : GoodIn wsJx4a65c_get_915e3 (wsV RJx4a65c 123 RJx4a65c yJx4a65c_elementData_915e3 wsJx4a65c_elementData_915e3) := goodIn_app (goodIn_of _ (by decide +kernel)) ggJx4a65c_get_915e3_Jx4a65c_elementData_915e3
theorem dJx4a65c_get_915e3_0 : decode cJx4a65c_get_915e3 0 = .ok (.iload_n 1, 1) := by decide +kernel
theorem dJx4a65c_get_915e3_1 : decode cJx4a65c_get_915e3 1 = .ok (.aload_n 0, 1) := by decide +kernel
theorem dJx4a65c_get_915e3_2 : decode cJx4a65c_get_915e3 2 = .ok (.getfield 48, 3) := by decide +kernel
theorem dJx4a65c_get_915e3_5 : decode cJx4a65c_get_915e3 5 = .ok (.invokestatic 118, 3) := by decide +kernel
theorem dJx4a65c_get_915e3_8 : decode cJx4a65c_get_915e3 8 = .ok (.pop, 1) := by decide +kernel
theorem dJx4a65c_get_915e3_9 : decode cJx4a65c_get_915e3 9 = .ok (.aload_n 0, 1) := by decide +kernel
theorem dJx4a65c_get_915e3_10 : decode cJx4a65c_get_915e3 10 = .ok (.iload_n 1, 1) := by decide +kernel
theorem dJx4a65c_get_915e3_11 : decode cJx4a65c_get_915e3 11 = .ok (.invokevirtual 123, 3) := by decide +kernel
theorem dJx4a65c_get_915e3_14 : decode cJx4a65c_get_915e3 14 = .ok (.areturn, 1) := by decide +kernel
set_option maxRecDepth 20000 in
theorem ggJx4a65c_set_bcc79_J15_checkIndex_7cf53 : GoodIn wsJx4a65c_set_bcc79 wsJ15_checkIndex_7cf53 := goodIn_r _ [6, 7, 8, 9, 10] (by decide +kernel) (by decide +kernel)
set_option maxRecDepth 20000 in
theorem gJx4a65c_set_bcc79_J15_checkIndex_7cf53 : GoodIn wsJx4a65c_set_bcc79 (va_wsS RJx4a65c 118 yJ15_checkIndex_7cf53 wsJ15_checkIndex_7cf53) := goodIn_app (goodIn_of _ (by decide +kernel)) ggJx4a65c_set_bcc79_J15_checkIndex_7cf53
set_option maxRecDepth 20000 in
theorem ggJx4a65c_set_bcc79_Jx4a65c_elementData_915e3 : GoodIn wsJx4a65c_set_bcc79 wsJx4a65c_elementData_915e3 := goodIn_r _ [15, 2, 16, 17, 18] (by decide +kernel) (by decide +kernel)
set_option maxRecDepth 20000 in
theorem gJx4a65c_set_bcc79_Jx4a65c_elementData_915e3 : GoodIn wsJx4a65c_set_bcc79 (wsV RJx4a65c 123 RJx4a65c yJx4a65c_elementData_915e3 wsJx4a65c_elementData_915e3) := goodIn_app (goodIn_of _ (by decide +kernel)) ggJx4a65c_set_bcc79_Jx4a65c_elementData_915e3
theorem dJx4a65c_set_bcc79_0 : decode cJx4a65c_set_bcc79 0 = .ok (.iload_n 1, 1) := by decide +kernel
theorem dJx4a65c_set_bcc79_1 : decode cJx4a65c_set_bcc79 1 = .ok (.aload_n 0, 1) := by decide +kernel
theorem dJx4a65c_set_bcc79_2 : decode cJx4a65c_set_bcc79 2 = .ok (.getfield 48, 3) := by decide +kernel
theorem dJx4a65c_set_bcc79_5 : decode cJx4a65c_set_bcc79 5 = .ok (.invokestatic 118, 3) := by decide +kernel
theorem dJx4a65c_set_bcc79_8 : decode cJx4a65c_set_bcc79 8 = .ok (.pop, 1) := by decide +kernel
theorem dJx4a65c_set_bcc79_9 : decode cJx4a65c_set_bcc79 9 = .ok (.aload_n 0, 1) := by decide +kernel
theorem dJx4a65c_set_bcc79_10 : decode cJx4a65c_set_bcc79 10 = .ok (.iload_n 1, 1) := by decide +kernel
theorem dJx4a65c_set_bcc79_11 : decode cJx4a65c_set_bcc79 11 = .ok (.invokevirtual 123, 3) := by decide +kernel
theorem dJx4a65c_set_bcc79_14 : decode cJx4a65c_set_bcc79 14 = .ok (.astore_n 3, 1) := by decide +kernel
theorem dJx4a65c_set_bcc79_15 : decode cJx4a65c_set_bcc79 15 = .ok (.aload_n 0, 1) := by decide +kernel
theorem dJx4a65c_set_bcc79_16 : decode cJx4a65c_set_bcc79 16 = .ok (.getfield 9, 3) := by decide +kernel
theorem dJx4a65c_set_bcc79_19 : decode cJx4a65c_set_bcc79 19 = .ok (.iload_n 1, 1) := by decide +kernel
theorem dJx4a65c_set_bcc79_20 : decode cJx4a65c_set_bcc79 20 = .ok (.aload_n 2, 1) := by decide +kernel
theorem dJx4a65c_set_bcc79_21 : decode cJx4a65c_set_bcc79 21 = .ok (.aastore, 1) := by decide +kernel
theorem dJx4a65c_set_bcc79_22 : decode cJx4a65c_set_bcc79 22 = .ok (.aload_n 3, 1) := by decide +kernel
theorem dJx4a65c_set_bcc79_23 : decode cJx4a65c_set_bcc79 23 = .ok (.areturn, 1) := by decide +kernel
set_option maxRecDepth 20000 in
theorem ggJx4a65c_add_72be8_Jx4a65c_grow_d5877 : GoodIn wsJx4a65c_add_72be8 wsJx4a65c_grow_d5877 := goodIn_r _ [6, 1, 7, 8, 9, 5, 10, 11, 12, 13, 14, 15, 16, 17, 18, 19, 20, 21, 22, 23, 24, 25, 26, 27, 28, 29, 30, 31, 32, 33, 34, 35, 36, 37, 38, 39, 40, 41, 42, 43, 44, 45, 46, 47, 48, 49] (by decide +kernel) (by decide +kernel)
set_option maxRecDepth 20000 in
theorem gJx4a65c_add_72be8_Jx4a65c_grow_d5877 : GoodIn wsJx4a65c_add_72be8 (wsV RJx4a65c 129 RJx4a65c yJx4a65c_grow_d5877 wsJx4a65c_grow_d5877) := goodIn_app (goodIn_of _ (by decide +kernel)) ggJx4a65c_add_72be8_Jx4a65c_grow_d5877
theorem dJx4a65c_add_72be8_0 : decode cJx4a65c_add_72be8 0 = .ok (.iload_n 3, 1) := by decide +kernel
theorem dJx4a65c_add_72be8_1 : decode cJx4a65c_add_72be8 1 = .ok (.aload_n 2, 1) := by decide +kernel
theorem dJx4a65c_add_72be8_2 : decode cJx4a65c_add_72be8 2 = .ok (.arraylength, 1) := by decide +kernel
theorem dJx4a65c_add_72be8_3 : decode cJx4a65c_add_72be8 3 = .ok (.if_icmp .ne 8, 3) := by decide +kernel
theorem dJx4a65c_add_72be8_6 : decode cJx4a65c_add_72be8 6 = .ok (.aload_n 0, 1) := by decide +kernel
theorem dJx4a65c_add_72be8_7 : decode cJx4a65c_add_72be8 7 = .ok (.invokevirtual 129, 3) := by decide +kernel
theorem dJx4a65c_add_72be8_10 : decode cJx4a65c_add_72be8 10 = .ok (.astore_n 2, 1) := by decide +kernel
theorem dJx4a65c_add_72be8_11 : decode cJx4a65c_add_72be8 11 = .ok (.aload_n 2, 1) := by decide +kernel
theorem dJx4a65c_add_72be8_12 : decode cJx4a65c_add_72be8 12 = .ok (.iload_n 3, 1) := by decide +kernel
theorem dJx4a65c_add_72be8_13 : decode cJx4a65c_add_72be8 13 = .ok (.aload_n 1, 1) := by decide +kernel
theorem dJx4a65c_add_72be8_14 : decode cJx4a65c_add_72be8 14 = .ok (.aastore, 1) := by decide +kernel
theorem dJx4a65c_add_72be8_15 : decode cJx4a65c_add_72be8 15 = .ok (.aload_n 0, 1) := by decide +kernel
theorem dJx4a65c_add_72be8_16 : decode cJx4a65c_add_72be8 16 = .ok (.iload_n 3, 1) := by decide +kernel
theorem dJx4a65c_add_72be8_17 : decode cJx4a65c_add_72be8 17 = .ok (.iconst 1, 1) := by decide +kernel
theorem dJx4a65c_add_72be8_18 : decode cJx4a65c_add_72be8 18 = .ok (.iadd, 1) := by decide +kernel
theorem dJx4a65c_add_72be8_19 : decode cJx4a65c_add_72be8 19 = .ok (.putfield 48, 3) := by decide +kernel
theorem dJx4a65c_add_72be8_22 : decode cJx4a65c_add_72be8 22 = .ok (.return_, 1) := by decide +kernel
set_option maxRecDepth 20000 in
theorem ggJx4a65c_add_9ea2d_Jx4a65c_add_72be8 : GoodIn wsJx4a65c_add_9ea2d wsJx4a65c_add_72be8 := goodIn_r _ [9, 4, 10, 11, 12, 8, 13, 14, 15, 16, 17, 3, 18, 19, 20, 21, 22, 23, 24, 25, 26, 27, 28, 29, 30, 31, 32, 33, 34, 35, 36, 37, 38, 39, 40, 41, 42, 43, 44, 45, 46, 47, 48, 49, 50, 51, 52, 53, 54, 55] (by decide +kernel) (by decide +kernel)
set_option maxRecDepth 20000 in
theorem gJx4a65c_add_9ea2d_Jx4a65c_add_72be8 : GoodIn wsJx4a65c_add_9ea2d (wsV RJx4a65c 131 RJx4a65c yJx4a65c_add_72be8 wsJx4a65c_add_72be8) := goodIn_app (goodIn_of _ (by decide +kernel)) ggJx4a65c_add_9ea2d_Jx4a65c_add_72be8
theorem dJx4a65c_add_9ea2d_0 : decode cJx4a65c_add_9ea2d 0 = .ok (.aload_n 0, 1) := by decide +kernel
theorem dJx4a65c_add_9ea2d_1 : decode cJx4a65c_add_9ea2d 1 = .ok (.dup, 1) := by decide +kernel
theorem dJx4a65c_add_9ea2d_2 : decode cJx4a65c_add_9ea2d 2 = .ok (.getfield 63, 3) := by decide +kernel
theorem dJx4a65c_add_9ea2d_5 : decode cJx4a65c_add_9ea2d 5 = .ok (.iconst 1, 1) := by decide +kernel
theorem dJx4a65c_add_9ea2d_6 : decode cJx4a65c_add_9ea2d 6 = .ok (.iadd, 1) := by decide +kernel
theorem dJx4a65c_add_9ea2d_7 : decode cJx4a65c_add_9ea2d 7 = .ok (.putfield 63, 3) := by decide +kernel
theorem dJx4a65c_add_9ea2d_10 : decode cJx4a65c_add_9ea2d 10 = .ok (.aload_n 0, 1) := by decide +kernel
theorem dJx4a65c_add_9ea2d_11 : decode cJx4a65c_add_9ea2d 11 = .ok (.aload_n 1, 1) := by decide +kernel
theorem dJx4a65c_add_9ea2d_12 : decode cJx4a65c_add_9ea2d 12 = .ok (.aload_n 0, 1) := by decide +kernel
theorem dJx4a65c_add_9ea2d_13 : decode cJx4a65c_add_9ea2d 13 = .ok (.getfield 9, 3) := by decide +kernel
theorem dJx4a65c_add_9ea2d_16 : decode cJx4a65c_add_9ea2d 16 = .ok (.aload_n 0, 1) := by decide +kernel
theorem dJx4a65c_add_9ea2d_17 : decode cJx4a65c_add_9ea2d 17 = .ok (.getfield 48, 3) := by decide +kernel
theorem dJx4a65c_add_9ea2d_20 : decode cJx4a65c_add_9ea2d 20 = .ok (.invokevirtual 131, 3) := by decide +kernel
theorem dJx4a65c_add_9ea2d_23 : decode cJx4a65c_add_9ea2d 23 = .ok (.iconst 1, 1) := by decide +kernel
theorem dJx4a65c_add_9ea2d_24 : decode cJx4a65c_add_9ea2d 24 = .ok (.ireturn, 1) := by decide +kernel
theorem dJx4a65c_clear_da8c8_0 : decode cJx4a65c_clear_da8c8 0 = .ok (.aload_n 0, 1) := by decide +kernel
theorem dJx4a65c_clear_da8c8_1 : decode cJx4a65c_clear_da8c8 1 = .ok (.dup, 1) := by decide +kernel
theorem dJx4a65c_clear_da8c8_2 : decode cJx4a65c_clear_da8c8 2 = .ok (.getfield 63, 3) := by decide +kernel
theorem dJx4a65c_clear_da8c8_5 : decode cJx4a65c_clear_da8c8 5 = .ok (.iconst 1, 1) := by decide +kernel
theorem dJx4a65c_clear_da8c8_6 : decode cJx4a65c_clear_da8c8 6 = .ok (.iadd, 1) := by decide +kernel
theorem dJx4a65c_clear_da8c8_7 : decode cJx4a65c_clear_da8c8 7 = .ok (.putfield 63, 3) := by decide +kernel
theorem dJx4a65c_clear_da8c8_10 : decode cJx4a65c_clear_da8c8 10 = .ok (.aload_n 0, 1) := by decide +kernel
theorem dJx4a65c_clear_da8c8_11 : decode cJx4a65c_clear_da8c8 11 = .ok (.getfield 9, 3) := by decide +kernel
theorem dJx4a65c_clear_da8c8_14 : decode cJx4a65c_clear_da8c8 14 = .ok (.astore_n 1, 1) := by decide +kernel
theorem dJx4a65c_clear_da8c8_15 : decode cJx4a65c_clear_da8c8 15 = .ok (.aload_n 0, 1) := by decide +kernel
theorem dJx4a65c_clear_da8c8_16 : decode cJx4a65c_clear_da8c8 16 = .ok (.getfield 48, 3) := by decide +kernel
theorem dJx4a65c_clear_da8c8_19 : decode cJx4a65c_clear_da8c8 19 = .ok (.istore_n 2, 1) := by decide +kernel
theorem dJx4a65c_clear_da8c8_20 : decode cJx4a65c_clear_da8c8 20 = .ok (.aload_n 0, 1) := by decide +kernel
theorem dJx4a65c_clear_da8c8_21 : decode cJx4a65c_clear_da8c8 21 = .ok (.iconst 0, 1) := by decide +kernel
theorem dJx4a65c_clear_da8c8_22 : decode cJx4a65c_clear_da8c8 22 = .ok (.dup_x1, 1) := by decide +kernel
theorem dJx4a65c_clear_da8c8_23 : decode cJx4a65c_clear_da8c8 23 = .ok (.putfield 48, 3) := by decide +kernel
theorem dJx4a65c_clear_da8c8_26 : decode cJx4a65c_clear_da8c8 26 = .ok (.istore_n 3, 1) := by decide +kernel
theorem dJx4a65c_clear_da8c8_27 : decode cJx4a65c_clear_da8c8 27 = .ok (.iload_n 3, 1) := by decide +kernel
theorem dJx4a65c_clear_da8c8_28 : decode cJx4a65c_clear_da8c8 28 = .ok (.iload_n 2, 1) := by decide +kernel
theorem dJx4a65c_clear_da8c8_29 : decode cJx4a65c_clear_da8c8 29 = .ok (.if_icmp .ge 13, 3) := by decide +kernel
theorem dJx4a65c_clear_da8c8_32 : decode cJx4a65c_clear_da8c8 32 = .ok (.aload_n 1, 1) := by decide +kernel
theorem dJx4a65c_clear_da8c8_33 : decode cJx4a65c_clear_da8c8 33 = .ok (.iload_n 3, 1) := by decide +kernel
theorem dJx4a65c_clear_da8c8_34 : decode cJx4a65c_clear_da8c8 34 = .ok (.aconst_null, 1) := by decide +kernel
theorem dJx4a65c_clear_da8c8_35 : decode cJx4a65c_clear_da8c8 35 = .ok (.aastore, 1) := by decide +kernel
theorem dJx4a65c_clear_da8c8_36 : decode cJx4a65c_clear_da8c8 36 = .ok (.iinc 3 1, 3) := by decide +kernel
theorem dJx4a65c_clear_da8c8_39 : decode cJx4a65c_clear_da8c8 39 = .ok (.goto (-12), 3) := by decide +kernel
theorem dJx4a65c_clear_da8c8_42 : decode cJx4a65c_clear_da8c8 42 = .ok (.return_, 1) := by decide +kernel
theorem dJ7_fill_d0a16_0 : decode cJ7_fill_d0a16 0 = .ok (.iconst 0, 1) := by decide +kernel
theorem dJ7_fill_d0a16_1 : decode cJ7_fill_d0a16 1 = .ok (.istore_n 3, 1) := by decide +kernel
theorem dJ7_fill_d0a16_2 : decode cJ7_fill_d0a16 2 = .ok (.aload_n 0, 1) := by decide +kernel
theorem dJ7_fill_d0a16_3 : decode cJ7_fill_d0a16 3 = .ok (.arraylength, 1) := by decide +kernel
theorem dJ7_fill_d0a16_4 : decode cJ7_fill_d0a16 4 = .ok (.istore 4, 2) := by decide +kernel
theorem dJ7_fill_d0a16_6 : decode cJ7_fill_d0a16 6 = .ok (.iload_n 3, 1) := by decide +kernel
theorem dJ7_fill_d0a16_7 : decode cJ7_fill_d0a16 7 = .ok (.iload 4, 2) := by decide +kernel
theorem dJ7_fill_d0a16_9 : decode cJ7_fill_d0a16 9 = .ok (.if_icmp .ge 13, 3) := by decide +kernel
theorem dJ7_fill_d0a16_12 : decode cJ7_fill_d0a16 12 = .ok (.aload_n 0, 1) := by decide +kernel
theorem dJ7_fill_d0a16_13 : decode cJ7_fill_d0a16 13 = .ok (.iload_n 3, 1) := by decide +kernel
theorem dJ7_fill_d0a16_14 : decode cJ7_fill_d0a16 14 = .ok (.lload_n 1, 1) := by decide +kernel
theorem dJ7_fill_d0a16_15 : decode cJ7_fill_d0a16 15 = .ok (.lastore, 1) := by decide +kernel
theorem dJ7_fill_d0a16_16 : decode cJ7_fill_d0a16 16 = .ok (.iinc 3 1, 3) := by decide +kernel
theorem dJ7_fill_d0a16_19 : decode cJ7_fill_d0a16 19 = .ok (.goto (-13), 3) := by decide +kernel
theorem dJ7_fill_d0a16_22 : decode cJ7_fill_d0a16 22 = .ok (.return_, 1) := by decide +kernel
theorem dJ7_fill_53178_0 : decode cJ7_fill_53178 0 = .ok (.iconst 0, 1) := by decide +kernel
theorem dJ7_fill_53178_1 : decode cJ7_fill_53178 1 = .ok (.istore_n 2, 1) := by decide +kernel
theorem dJ7_fill_53178_2 : decode cJ7_fill_53178 2 = .ok (.aload_n 0, 1) := by decide +kernel
theorem dJ7_fill_53178_3 : decode cJ7_fill_53178 3 = .ok (.arraylength, 1) := by decide +kernel
theorem dJ7_fill_53178_4 : decode cJ7_fill_53178 4 = .ok (.istore_n 3, 1) := by decide +kernel
theorem dJ7_fill_53178_5 : decode cJ7_fill_53178 5 = .ok (.iload_n 2, 1) := by decide +kernel
theorem dJ7_fill_53178_6 : decode cJ7_fill_53178 6 = .ok (.iload_n 3, 1) := by decide +kernel
theorem dJ7_fill_53178_7 : decode cJ7_fill_53178 7 = .ok (.if_icmp .ge 13, 3) := by decide +kernel
theorem dJ7_fill_53178_10 : decode cJ7_fill_53178 10 = .ok (.aload_n 0, 1) := by decide +kernel
theorem dJ7_fill_53178_11 : decode cJ7_fill_53178 11 = .ok (.iload_n 2, 1) := by decide +kernel
theorem dJ7_fill_53178_12 : decode cJ7_fill_53178 12 = .ok (.iload_n 1, 1) := by decide +kernel
theorem dJ7_fill_53178_13 : decode cJ7_fill_53178 13 = .ok (.iastore, 1) := by decide +kernel
theorem dJ7_fill_53178_14 : decode cJ7_fill_53178 14 = .ok (.iinc 2 1, 3) := by decide +kernel
theorem dJ7_fill_53178_17 : decode cJ7_fill_53178 17 = .ok (.goto (-12), 3) := by decide +kernel
theorem dJ7_fill_53178_20 : decode cJ7_fill_53178 20 = .ok (.return_, 1) := by decide +kernel
set_option maxRecDepth 20000 in
theorem ggJ7_copyOf_1904c_J7_copyOf_6403c : GoodIn wsJ7_copyOf_1904c wsJ7_copyOf_6403c := goodIn_r _ [8, 9, 10, 11, 12, 13, 14, 15, 16, 17, 18] (by decide +kernel) (by decide +kernel)
set_option maxRecDepth 20000 in
theorem gJ7_copyOf_1904c_J7_copyOf_6403c : GoodIn wsJ7_copyOf_1904c (va_wsS RJ7 300 yJ7_copyOf_6403c wsJ7_copyOf_6403c) := goodIn_app (goodIn_of _ (by decide +kernel)) ggJ7_copyOf_1904c_J7_copyOf_6403c
theorem dJ7_copyOf_1904c_0 : decode cJ7_copyOf_1904c 0 = .ok (.aload_n 0, 1) := by decide +kernel
theorem dJ7_copyOf_1904c_1 : decode cJ7_copyOf_1904c 1 = .ok (.iload_n 1, 1) := by decide +kernel
theorem dJ7_copyOf_1904c_2 : decode cJ7_copyOf_1904c 2 = .ok (.aload_n 0, 1) := by decide +kernel
theorem dJ7_copyOf_1904c_3 : decode cJ7_copyOf_1904c 3 = .ok (.invokevirtual 86, 3) := by decide +kernel
theorem dJ7_copyOf_1904c_6 : decode cJ7_copyOf_1904c 6 = .ok (.invokestatic 300, 3) := by decide +kernel
theorem dJ7_copyOf_1904c_9 : decode cJ7_copyOf_1904c 9 = .ok (.areturn, 1) := by decide +kernel
theorem dJ7_copyOf_6403c_0 : decode cJ7_copyOf_6403c 0 = .ok (.aload_n 2, 1) := by decide +kernel
theorem dJ7_copyOf_6403c_1 : decode cJ7_copyOf_6403c 1 = .ok (.ldc 110, 2) := by decide +kernel
theorem dJ7_copyOf_6403c_3 : decode cJ7_copyOf_6403c 3 = .ok (.if_acmp .ne 10, 3) := by decide +kernel
theorem dJ7_copyOf_6403c_6 : decode cJ7_copyOf_6403c 6 = .ok (.iload_n 1, 1) := by decide +kernel
theorem dJ7_copyOf_6403c_7 : decode cJ7_copyOf_6403c 7 = .ok (.anewarray 2, 3) := by decide +kernel
theorem dJ7_copyOf_6403c_10 : decode cJ7_copyOf_6403c 10 = .ok (.goto 14, 3) := by decide +kernel
theorem dJ7_copyOf_6403c_13 : decode cJ7_copyOf_6403c 13 = .ok (.aload_n 2, 1) := by decide +kernel
theorem dJ7_copyOf_6403c_14 : decode cJ7_copyOf_6403c 14 = .ok (.invokevirtual 90, 3) := by decide +kernel
theorem dJ7_copyOf_6403c_17 : decode cJ7_copyOf_6403c 17 = .ok (.iload_n 1, 1) := by decide +kernel
theorem dJ7_copyOf_6403c_18 : decode cJ7_copyOf_6403c 18 = .ok (.invokestatic 95, 3) := by decide +kernel
theorem dJ7_copyOf_6403c_21 : decode cJ7_copyOf_6403c 21 = .ok (.checkcast 110, 3) := by decide +kernel
theorem dJ7_copyOf_6403c_24 : decode cJ7_copyOf_6403c 24 = .ok (.astore_n 3, 1) := by decide +kernel
theorem dJ7_copyOf_6403c_25 : decode cJ7_copyOf_6403c 25 = .ok (.aload_n 0, 1) := by decide +kernel
theorem dJ7_copyOf_6403c_26 : decode cJ7_copyOf_6403c 26 = .ok (.iconst 0, 1) := by decide +kernel
theorem dJ7_copyOf_6403c_27 : decode cJ7_copyOf_6403c 27 = .ok (.aload_n 3, 1) := by decide +kernel
theorem dJ7_copyOf_6403c_28 : decode cJ7_copyOf_6403c 28 = .ok (.iconst 0, 1) := by decide +kernel
theorem dJ7_copyOf_6403c_29 : decode cJ7_copyOf_6403c 29 = .ok (.aload_n 0, 1) := by decide +kernel
theorem dJ7_copyOf_6403c_30 : decode cJ7_copyOf_6403c 30 = .ok (.arraylength, 1) := by decide +kernel
theorem dJ7_copyOf_6403c_31 : decode cJ7_copyOf_6403c 31 = .ok (.iload_n 1, 1) := by decide +kernel
theorem dJ7_copyOf_6403c_32 : decode cJ7_copyOf_6403c 32 = .ok (.invokestatic 304, 3) := by decide +kernel
theorem dJ7_copyOf_6403c_35 : decode cJ7_copyOf_6403c 35 = .ok (.invokestatic 150, 3) := by decide +kernel
theorem dJ7_copyOf_6403c_38 : decode cJ7_copyOf_6403c 38 = .ok (.aload_n 3, 1) := by decide +kernel
theorem dJ7_copyOf_6403c_39 : decode cJ7_copyOf_6403c 39 = .ok (.areturn, 1) := by decide +kernel
set_option maxRecDepth 20000 in
theorem ggJ15_checkIndex_7cf53_J3_checkIndex_8e157 : GoodIn wsJ15_checkIndex_7cf53 wsJ3_checkIndex_8e157 := goodIn_r _ [4] (by decide +kernel) (by decide +kernel)
set_option maxRecDepth 20000 in
theorem gJ15_checkIndex_7cf53_J3_checkIndex_8e157 : GoodIn wsJ15_checkIndex_7cf53 (va_wsS RJ15 105 yJ3_checkIndex_8e157 wsJ3_checkIndex_8e157) := goodIn_app (goodIn_of _ (by decide +kernel)) ggJ15_checkIndex_7cf53_J3_checkIndex_8e157
theorem dJ15_checkIndex_7cf53_0 : decode cJ15_checkIndex_7cf53 0 = .ok (.iload_n 0, 1) := by decide +kernel
theorem dJ15_checkIndex_7cf53_1 : decode cJ15_checkIndex_7cf53 1 = .ok (.iload_n 1, 1) := by decide +kernel
theorem dJ15_checkIndex_7cf53_2 : decode cJ15_checkIndex_7cf53 2 = .ok (.aconst_null, 1) := by decide +kernel
theorem dJ15_checkIndex_7cf53_3 : decode cJ15_checkIndex_7cf53 3 = .ok (.invokestatic 105, 3) := by decide +kernel
theorem dJ15_checkIndex_7cf53_6 : decode cJ15_checkIndex_7cf53 6 = .ok (.ireturn, 1) := by decide +kernel
set_option maxRecDepth 20000 in
theorem ggJ8_newLength_cabcc_J8_hugeLength_7cf53 : GoodIn wsJ8_newLength_cabcc wsJ8_hugeLength_7cf53 := goodIn_r _ [9, 5] (by decide +kernel) (by decide +kernel)
set_option maxRecDepth 20000 in
theorem gJ8_newLength_cabcc_J8_hugeLength_7cf53 : GoodIn wsJ8_newLength_cabcc (va_wsS RJ8 201 yJ8_hugeLength_7cf53 wsJ8_hugeLength_7cf53) := goodIn_app (goodIn_of _ (by decide +kernel)) ggJ8_newLength_cabcc_J8_hugeLength_7cf53
theorem dJ8_newLength_cabcc_0 : decode cJ8_newLength_cabcc 0 = .ok (.iload_n 0, 1) := by decide +kernel
theorem dJ8_newLength_cabcc_1 : decode cJ8_newLength_cabcc 1 = .ok (.iload_n 1, 1) := by decide +kernel
theorem dJ8_newLength_cabcc_2 : decode cJ8_newLength_cabcc 2 = .ok (.iload_n 2, 1) := by decide +kernel
theorem dJ8_newLength_cabcc_3 : decode cJ8_newLength_cabcc 3 = .ok (.invokestatic 194, 3) := by decide +kernel
theorem dJ8_newLength_cabcc_6 : decode cJ8_newLength_cabcc 6 = .ok (.iadd, 1) := by decide +kernel
theorem dJ8_newLength_cabcc_7 : decode cJ8_newLength_cabcc 7 = .ok (.istore_n 3, 1) := by decide +kernel
theorem dJ8_newLength_cabcc_8 : decode cJ8_newLength_cabcc 8 = .ok (.iconst 0, 1) := by decide +kernel
theorem dJ8_newLength_cabcc_9 : decode cJ8_newLength_cabcc 9 = .ok (.iload_n 3, 1) := by decide +kernel
theorem dJ8_newLength_cabcc_10 : decode cJ8_newLength_cabcc 10 = .ok (.if_icmp .ge 11, 3) := by decide +kernel
theorem dJ8_newLength_cabcc_13 : decode cJ8_newLength_cabcc 13 = .ok (.iload_n 3, 1) := by decide +kernel
theorem dJ8_newLength_cabcc_14 : decode cJ8_newLength_cabcc 14 = .ok (.ldc 200, 2) := by decide +kernel
theorem dJ8_newLength_cabcc_16 : decode cJ8_newLength_cabcc 16 = .ok (.if_icmp .gt 5, 3) := by decide +kernel
theorem dJ8_newLength_cabcc_19 : decode cJ8_newLength_cabcc 19 = .ok (.iload_n 3, 1) := by decide +kernel
theorem dJ8_newLength_cabcc_20 : decode cJ8_newLength_cabcc 20 = .ok (.ireturn, 1) := by decide +kernel
theorem dJ8_newLength_cabcc_21 : decode cJ8_newLength_cabcc 21 = .ok (.iload_n 0, 1) := by decide +kernel
theorem dJ8_newLength_cabcc_22 : decode cJ8_newLength_cabcc 22 = .ok (.iload_n 1, 1) := by decide +kernel
theorem dJ8_newLength_cabcc_23 : decode cJ8_newLength_cabcc 23 = .ok (.invokestatic 201, 3) := by decide +kernel
theorem dJ8_newLength_cabcc_26 : decode cJ8_newLength_cabcc 26 = .ok (.ireturn, 1) := by decide +kernel
theorem dJ8_hugeLength_7cf53_0 : decode cJ8_hugeLength_7cf53 0 = .ok (.iload_n 0, 1) := by decide +kernel
theorem dJ8_hugeLength_7cf53_1 : decode cJ8_hugeLength_7cf53 1 = .ok (.iload_n 1, 1) := by decide +kernel
theorem dJ8_hugeLength_7cf53_2 : decode cJ8_hugeLength_7cf53 2 = .ok (.iadd, 1) := by decide +kernel
theorem dJ8_hugeLength_7cf53_3 : decode cJ8_hugeLength_7cf53 3 = .ok (.istore_n 2, 1) := by decide +kernel
theorem dJ8_hugeLength_7cf53_4 : decode cJ8_hugeLength_7cf53 4 = .ok (.iload_n 2, 1) := by decide +kernel
theorem dJ8_hugeLength_7cf53_5 : decode cJ8_hugeLength_7cf53 5 = .ok (.ifCond .ge 44, 3) := by decide +kernel
theorem dJ8_hugeLength_7cf53_8 : decode cJ8_hugeLength_7cf53 8 = .ok (.new 204, 3) := by decide +kernel
theorem dJ8_hugeLength_7cf53_11 : decode cJ8_hugeLength_7cf53 11 = .ok (.dup, 1) := by decide +kernel
theorem dJ8_hugeLength_7cf53_12 : decode cJ8_hugeLength_7cf53 12 = .ok (.new 89, 3) := by decide +kernel
theorem dJ8_hugeLength_7cf53_15 : decode cJ8_hugeLength_7cf53 15 = .ok (.dup, 1) := by decide +kernel
theorem dJ8_hugeLength_7cf53_16 : decode cJ8_hugeLength_7cf53 16 = .ok (.invokespecial 91, 3) := by decide +kernel
theorem dJ8_hugeLength_7cf53_19 : decode cJ8_hugeLength_7cf53 19 = .ok (.ldc 206, 2) := by decide +kernel
theorem dJ8_hugeLength_7cf53_21 : decode cJ8_hugeLength_7cf53 21 = .ok (.invokevirtual 94, 3) := by decide +kernel
theorem dJ8_hugeLength_7cf53_24 : decode cJ8_hugeLength_7cf53 24 = .ok (.iload_n 0, 1) := by decide +kernel
theorem dJ8_hugeLength_7cf53_25 : decode cJ8_hugeLength_7cf53 25 = .ok (.invokevirtual 98, 3) := by decide +kernel
theorem dJ8_hugeLength_7cf53_28 : decode cJ8_hugeLength_7cf53 28 = .ok (.ldc 208, 2) := by decide +kernel
theorem dJ8_hugeLength_7cf53_30 : decode cJ8_hugeLength_7cf53 30 = .ok (.invokevirtual 94, 3) := by decide +kernel
theorem dJ8_hugeLength_7cf53_33 : decode cJ8_hugeLength_7cf53 33 = .ok (.iload_n 1, 1) := by decide +kernel
theorem dJ8_hugeLength_7cf53_34 : decode cJ8_hugeLength_7cf53 34 = .ok (.invokevirtual 98, 3) := by decide +kernel
theorem dJ8_hugeLength_7cf53_37 : decode cJ8_hugeLength_7cf53 37 = .ok (.ldc 210, 2) := by decide +kernel
theorem dJ8_hugeLength_7cf53_39 : decode cJ8_hugeLength_7cf53 39 = .ok (.invokevirtual 94, 3) := by decide +kernel
theorem dJ8_hugeLength_7cf53_42 : decode cJ8_hugeLength_7cf53 42 = .ok (.invokevirtual 101, 3) := by decide +kernel
theorem dJ8_hugeLength_7cf53_45 : decode cJ8_hugeLength_7cf53 45 = .ok (.invokespecial 212, 3) := by decide +kernel
theorem dJ8_hugeLength_7cf53_48 : decode cJ8_hugeLength_7cf53 48 = .ok (.athrow, 1) := by decide +kernel
theorem dJ8_hugeLength_7cf53_49 : decode cJ8_hugeLength_7cf53 49 = .ok (.iload_n 2, 1) := by decide +kernel
theorem dJ8_hugeLength_7cf53_50 : decode cJ8_hugeLength_7cf53 50 = .ok (.ldc 200, 2) := by decide +kernel
theorem dJ8_hugeLength_7cf53_52 : decode cJ8_hugeLength_7cf53 52 = .ok (.if_icmp .gt 6, 3) := by decide +kernel
theorem dJ8_hugeLength_7cf53_55 : decode cJ8_hugeLength_7cf53 55 = .ok (.ldc 200, 2) := by decide +kernel
theorem dJ8_hugeLength_7cf53_57 : decode cJ8_hugeLength_7cf53 57 = .ok (.ireturn, 1) := by decide +kernel
theorem dJ8_hugeLength_7cf53_58 : decode cJ8_hugeLength_7cf53 58 = .ok (.iload_n 2, 1) := by decide +kernel
theorem dJ8_hugeLength_7cf53_59 : decode cJ8_hugeLength_7cf53 59 = .ok (.ireturn, 1) := by decide +kernel
theorem dJ3_checkIndex_8e157_0 : decode cJ3_checkIndex_8e157 0 = .ok (.iload_n 0, 1) := by decide +kernel
theorem dJ3_checkIndex_8e157_1 : decode cJ3_checkIndex_8e157 1 = .ok (.ifCond .lt 8, 3) := by decide +kernel
theorem dJ3_checkIndex_8e157_4 : decode cJ3_checkIndex_8e157 4 = .ok (.iload_n 0, 1) := by decide +kernel
theorem dJ3_checkIndex_8e157_5 : decode cJ3_checkIndex_8e157 5 = .ok (.iload_n 1, 1) := by decide +kernel
theorem dJ3_checkIndex_8e157_6 : decode cJ3_checkIndex_8e157 6 = .ok (.if_icmp .lt 10, 3) := by decide +kernel
theorem dJ3_checkIndex_8e157_9 : decode cJ3_checkIndex_8e157 9 = .ok (.aload_n 2, 1) := by decide +kernel
theorem dJ3_checkIndex_8e157_10 : decode cJ3_checkIndex_8e157 10 = .ok (.iload_n 0, 1) := by decide +kernel
theorem dJ3_checkIndex_8e157_11 : decode cJ3_checkIndex_8e157 11 = .ok (.iload_n 1, 1) := by decide +kernel
theorem dJ3_checkIndex_8e157_12 : decode cJ3_checkIndex_8e157 12 = .ok (.invokestatic 95, 3) := by decide +kernel
theorem dJ3_checkIndex_8e157_15 : decode cJ3_checkIndex_8e157 15 = .ok (.athrow, 1) := by decide +kernel
theorem dJ3_checkIndex_8e157_16 : decode cJ3_checkIndex_8e157 16 = .ok (.iload_n 0, 1) := by decide +kernel
theorem dJ3_checkIndex_8e157_17 : decode cJ3_checkIndex_8e157 17 = .ok (.ireturn, 1) := by decide +kernel
set_option maxRecDepth 20000 in
theorem ggL_split_X8_split : GoodIn wsL_split wsX8_split := goodIn_ca (goodIn_ca (goodIn_r _ [7, 8, 9, 10, 11, 12, 13, 14, 15, 16, 17, 18, 19, 20, 21, 22, 23, 24, 25, 26, 27, 28, 29, 30, 31, 32, 33, 34, 35, 36, 37, 38, 39, 40, 41, 42, 43, 44, 45, 46, 47, 48, 49, 50, 51, 52, 53] (by decide +kernel) (by decide +kernel)) (goodIn_sub (fun _ h => List.mem_cons_of_mem _ (List.mem_append_left _ (List.mem_append_right _ h))) (by decide +kernel))) (goodIn_sub (fun _ h => List.mem_cons_of_mem _ (List.mem_append_right _ h)) (by decide +kernel))
set_option maxRecDepth 20000 in
theorem gL_split_X8_split : GoodIn wsL_split (wsV RL 7 RX8 yX8_split wsX8_split) := goodIn_app (goodIn_of _ (by decide +kernel)) ggL_split_X8_split
theorem dL_split_0 : decode cL_split 0 = .ok (.aload_n 2, 1) := by decide +kernel
theorem dL_split_1 : decode cL_split 1 = .ok (.iconst 0, 1) := by decide +kernel
theorem dL_split_2 : decode cL_split 2 = .ok (.aload_n 0, 1) := by decide +kernel
theorem dL_split_3 : decode cL_split 3 = .ok (.iload_n 1, 1) := by decide +kernel
