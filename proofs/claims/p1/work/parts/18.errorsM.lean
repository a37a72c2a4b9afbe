theorem dX12_begin_0 : decode cX12_begin 0 = .ok (.aload_n 0, 1) := by decide +kernel
theorem dX12_begin_1 : decode cX12_begin 1 = .ok (.iconst 0, 1) := by decide +kernel
theorem dX12_begin_2 : decode cX12_begin 2 = .ok (.putfield 186, 3) := by decide +kernel
theorem dX12_begin_5 : decode cX12_begin 5 = .ok (.return_, 1) := by decide +kernel
theorem dX12_say_0 : decode cX12_say 0 = .ok (.aload_n 0, 1) := by decide +kernel
theorem dX12_say_1 : decode cX12_say 1 = .ok (.getfield 61, 3) := by decide +kernel
theorem dX12_say_10 : decode cX12_say 10 = .ok (.bastore, 1) := by decide +kernel
theorem dX12_say_11 : decode cX12_say 11 = .ok (.aload_n 0, 1) := by decide +kernel
theorem dX12_say_12 : decode cX12_say 12 = .ok (.dup, 1) := by decide +kernel
theorem dX12_say_13 : decode cX12_say 13 = .ok (.getfield 186, 3) := by decide +kernel
theorem dX12_say_16 : decode cX12_say 16 = .ok (.iconst 1, 1) := by decide +kernel
theorem dX12_say_17 : decode cX12_say 17 = .ok (.iadd, 1) := by decide +kernel
theorem dX12_say_18 : decode cX12_say 18 = .ok (.putfield 186, 3) := by decide +kernel
theorem dX12_say_21 : decode cX12_say 21 = .ok (.return_, 1) := by decide +kernel
theorem dX12_say_4 : decode cX12_say 4 = .ok (.aload_n 0, 1) := by decide +kernel
theorem dX12_say_5 : decode cX12_say 5 = .ok (.getfield 186, 3) := by decide +kernel
theorem dX12_say_8 : decode cX12_say 8 = .ok (.iload_n 1, 1) := by decide +kernel
theorem dX12_say_9 : decode cX12_say 9 = .ok (.i2b, 1) := by decide +kernel
theorem dX12_sayDigits_0 : decode cX12_sayDigits 0 = .ok (.lconst 1, 1) := by decide +kernel
theorem dX12_sayDigits_1 : decode cX12_sayDigits 1 = .ok (.lstore 4, 2) := by decide +kernel
theorem dX12_sayDigits_12 : decode cX12_sayDigits 12 = .ok (.ldc2_w 192, 3) := by decide +kernel
theorem dX12_sayDigits_15 : decode cX12_sayDigits 15 = .ok (.lload 4, 2) := by decide +kernel
theorem dX12_sayDigits_17 : decode cX12_sayDigits 17 = .ok (.lmul, 1) := by decide +kernel
theorem dX12_sayDigits_18 : decode cX12_sayDigits 18 = .ok (.lstore 4, 2) := by decide +kernel
theorem dX12_sayDigits_20 : decode cX12_sayDigits 20 = .ok (.iinc 6 1, 3) := by decide +kernel
theorem dX12_sayDigits_23 : decode cX12_sayDigits 23 = .ok (.goto (-17), 3) := by decide +kernel
theorem dX12_sayDigits_26 : decode cX12_sayDigits 26 = .ok (.iconst 0, 1) := by decide +kernel
theorem dX12_sayDigits_27 : decode cX12_sayDigits 27 = .ok (.istore 6, 2) := by decide +kernel
theorem dX12_sayDigits_29 : decode cX12_sayDigits 29 = .ok (.iload 6, 2) := by decide +kernel
theorem dX12_sayDigits_3 : decode cX12_sayDigits 3 = .ok (.iconst 1, 1) := by decide +kernel
theorem dX12_sayDigits_31 : decode cX12_sayDigits 31 = .ok (.iload_n 3, 1) := by decide +kernel
theorem dX12_sayDigits_32 : decode cX12_sayDigits 32 = .ok (.if_icmp .ge 34, 3) := by decide +kernel
theorem dX12_sayDigits_35 : decode cX12_sayDigits 35 = .ok (.aload_n 0, 1) := by decide +kernel
theorem dX12_sayDigits_36 : decode cX12_sayDigits 36 = .ok (.ldc2_w 194, 3) := by decide +kernel
theorem dX12_sayDigits_39 : decode cX12_sayDigits 39 = .ok (.lload_n 1, 1) := by decide +kernel
theorem dX12_sayDigits_4 : decode cX12_sayDigits 4 = .ok (.istore 6, 2) := by decide +kernel
theorem dX12_sayDigits_40 : decode cX12_sayDigits 40 = .ok (.lload 4, 2) := by decide +kernel
theorem dX12_sayDigits_42 : decode cX12_sayDigits 42 = .ok (.ldiv, 1) := by decide +kernel
theorem dX12_sayDigits_43 : decode cX12_sayDigits 43 = .ok (.ldc2_w 192, 3) := by decide +kernel
theorem dX12_sayDigits_46 : decode cX12_sayDigits 46 = .ok (.lrem, 1) := by decide +kernel
theorem dX12_sayDigits_47 : decode cX12_sayDigits 47 = .ok (.ladd, 1) := by decide +kernel
theorem dX12_sayDigits_48 : decode cX12_sayDigits 48 = .ok (.l2i, 1) := by decide +kernel
theorem dX12_sayDigits_49 : decode cX12_sayDigits 49 = .ok (.invokevirtual 189, 3) := by decide +kernel
theorem dX12_sayDigits_52 : decode cX12_sayDigits 52 = .ok (.lload 4, 2) := by decide +kernel
theorem dX12_sayDigits_54 : decode cX12_sayDigits 54 = .ok (.ldc2_w 192, 3) := by decide +kernel
theorem dX12_sayDigits_57 : decode cX12_sayDigits 57 = .ok (.ldiv, 1) := by decide +kernel
theorem dX12_sayDigits_58 : decode cX12_sayDigits 58 = .ok (.lstore 4, 2) := by decide +kernel
theorem dX12_sayDigits_6 : decode cX12_sayDigits 6 = .ok (.iload 6, 2) := by decide +kernel
theorem dX12_sayDigits_60 : decode cX12_sayDigits 60 = .ok (.iinc 6 1, 3) := by decide +kernel
theorem dX12_sayDigits_63 : decode cX12_sayDigits 63 = .ok (.goto (-34), 3) := by decide +kernel
theorem dX12_sayDigits_66 : decode cX12_sayDigits 66 = .ok (.return_, 1) := by decide +kernel
theorem dX12_sayDigits_8 : decode cX12_sayDigits 8 = .ok (.iload_n 3, 1) := by decide +kernel
theorem dX12_sayDigits_9 : decode cX12_sayDigits 9 = .ok (.if_icmp .ge 17, 3) := by decide +kernel
theorem dX12_toColumn_0 : decode cX12_toColumn 0 = .ok (.aload_n 0, 1) := by decide +kernel
theorem dX12_toColumn_1 : decode cX12_toColumn 1 = .ok (.getfield 186, 3) := by decide +kernel
theorem dX12_toColumn_10 : decode cX12_toColumn 10 = .ok (.aload_n 0, 1) := by decide +kernel
theorem dX12_toColumn_11 : decode cX12_toColumn 11 = .ok (.bipush 32, 2) := by decide +kernel
theorem dX12_toColumn_13 : decode cX12_toColumn 13 = .ok (.invokevirtual 189, 3) := by decide +kernel
theorem dX12_toColumn_16 : decode cX12_toColumn 16 = .ok (.goto (-16), 3) := by decide +kernel
theorem dX12_toColumn_19 : decode cX12_toColumn 19 = .ok (.return_, 1) := by decide +kernel
theorem dX12_toColumn_4 : decode cX12_toColumn 4 = .ok (.iload_n 1, 1) := by decide +kernel
theorem dX12_toColumn_5 : decode cX12_toColumn 5 = .ok (.iconst 1, 1) := by decide +kernel
theorem dX12_toColumn_6 : decode cX12_toColumn 6 = .ok (.isub, 1) := by decide +kernel
theorem dX12_toColumn_7 : decode cX12_toColumn 7 = .ok (.if_icmp .ge 12, 3) := by decide +kernel
theorem dX12_print_0 : decode cX12_print 0 = .ok (.iload_n 1, 1) := by decide +kernel
theorem dX12_print_1 : decode cX12_print 1 = .ok (.bipush 17, 2) := by decide +kernel
theorem dX12_print_100 : decode cX12_print 100 = .ok (.isub, 1) := by decide +kernel
theorem dX12_print_101 : decode cX12_print 101 = .ok (.baload, 1) := by decide +kernel
theorem dX12_print_102 : decode cX12_print 102 = .ok (.bipush 32, 2) := by decide +kernel
theorem dX12_print_104 : decode cX12_print 104 = .ok (.if_icmp .ne 16, 3) := by decide +kernel
theorem dX12_print_107 : decode cX12_print 107 = .ok (.aload_n 0, 1) := by decide +kernel
theorem dX12_print_108 : decode cX12_print 108 = .ok (.dup, 1) := by decide +kernel
theorem dX12_print_109 : decode cX12_print 109 = .ok (.getfield 186, 3) := by decide +kernel
theorem dX12_print_112 : decode cX12_print 112 = .ok (.iconst 1, 1) := by decide +kernel
theorem dX12_print_113 : decode cX12_print 113 = .ok (.isub, 1) := by decide +kernel
theorem dX12_print_114 : decode cX12_print 114 = .ok (.putfield 186, 3) := by decide +kernel
theorem dX12_print_117 : decode cX12_print 117 = .ok (.goto (-33), 3) := by decide +kernel
theorem dX12_print_120 : decode cX12_print 120 = .ok (.aload_n 0, 1) := by decide +kernel
theorem dX12_print_121 : decode cX12_print 121 = .ok (.getfield 58, 3) := by decide +kernel
theorem dX12_print_124 : decode cX12_print 124 = .ok (.iload_n 2, 1) := by decide +kernel
theorem dX12_print_125 : decode cX12_print 125 = .ok (.iaload, 1) := by decide +kernel
theorem dX12_print_126 : decode cX12_print 126 = .ok (.sipush 300, 3) := by decide +kernel
theorem dX12_print_129 : decode cX12_print 129 = .ok (.if_icmp .ne 4, 3) := by decide +kernel
theorem dX12_print_133 : decode cX12_print 133 = .ok (.sipush 300, 3) := by decide +kernel
theorem dX12_print_136 : decode cX12_print 136 = .ok (.iload_n 2, 1) := by decide +kernel
theorem dX12_print_137 : decode cX12_print 137 = .ok (.imul, 1) := by decide +kernel
theorem dX12_print_138 : decode cX12_print 138 = .ok (.aload_n 0, 1) := by decide +kernel
theorem dX12_print_139 : decode cX12_print 139 = .ok (.getfield 58, 3) := by decide +kernel
theorem dX12_print_142 : decode cX12_print 142 = .ok (.iload_n 2, 1) := by decide +kernel
theorem dX12_print_143 : decode cX12_print 143 = .ok (.iaload, 1) := by decide +kernel
theorem dX12_print_144 : decode cX12_print 144 = .ok (.iadd, 1) := by decide +kernel
theorem dX12_print_145 : decode cX12_print 145 = .ok (.istore_n 3, 1) := by decide +kernel
theorem dX12_print_146 : decode cX12_print 146 = .ok (.iconst 0, 1) := by decide +kernel
theorem dX12_print_147 : decode cX12_print 147 = .ok (.istore 4, 2) := by decide +kernel
theorem dX12_print_149 : decode cX12_print 149 = .ok (.iload 4, 2) := by decide +kernel
theorem dX12_print_151 : decode cX12_print 151 = .ok (.aload_n 0, 1) := by decide +kernel
theorem dX12_print_152 : decode cX12_print 152 = .ok (.getfield 186, 3) := by decide +kernel
theorem dX12_print_155 : decode cX12_print 155 = .ok (.if_icmp .ge 28, 3) := by decide +kernel
theorem dX12_print_158 : decode cX12_print 158 = .ok (.aload_n 0, 1) := by decide +kernel
theorem dX12_print_159 : decode cX12_print 159 = .ok (.getfield 52, 3) := by decide +kernel
theorem dX12_print_162 : decode cX12_print 162 = .ok (.bipush 120, 2) := by decide +kernel
theorem dX12_print_164 : decode cX12_print 164 = .ok (.iload_n 3, 1) := by decide +kernel
theorem dX12_print_165 : decode cX12_print 165 = .ok (.imul, 1) := by decide +kernel
theorem dX12_print_166 : decode cX12_print 166 = .ok (.iload 4, 2) := by decide +kernel
theorem dX12_print_168 : decode cX12_print 168 = .ok (.iadd, 1) := by decide +kernel
theorem dX12_print_169 : decode cX12_print 169 = .ok (.aload_n 0, 1) := by decide +kernel
theorem dX12_print_170 : decode cX12_print 170 = .ok (.getfield 61, 3) := by decide +kernel
theorem dX12_print_173 : decode cX12_print 173 = .ok (.iload 4, 2) := by decide +kernel
theorem dX12_print_175 : decode cX12_print 175 = .ok (.baload, 1) := by decide +kernel
theorem dX12_print_176 : decode cX12_print 176 = .ok (.bastore, 1) := by decide +kernel
theorem dX12_print_177 : decode cX12_print 177 = .ok (.iinc 4 1, 3) := by decide +kernel
theorem dX12_print_180 : decode cX12_print 180 = .ok (.goto (-31), 3) := by decide +kernel
theorem dX12_print_183 : decode cX12_print 183 = .ok (.aload_n 0, 1) := by decide +kernel
theorem dX12_print_184 : decode cX12_print 184 = .ok (.getfield 55, 3) := by decide +kernel
theorem dX12_print_187 : decode cX12_print 187 = .ok (.iload_n 3, 1) := by decide +kernel
theorem dX12_print_188 : decode cX12_print 188 = .ok (.aload_n 0, 1) := by decide +kernel
theorem dX12_print_189 : decode cX12_print 189 = .ok (.getfield 186, 3) := by decide +kernel
theorem dX12_print_192 : decode cX12_print 192 = .ok (.iastore, 1) := by decide +kernel
theorem dX12_print_193 : decode cX12_print 193 = .ok (.aload_n 0, 1) := by decide +kernel
theorem dX12_print_194 : decode cX12_print 194 = .ok (.getfield 58, 3) := by decide +kernel
theorem dX12_print_197 : decode cX12_print 197 = .ok (.iload_n 2, 1) := by decide +kernel
theorem dX12_print_198 : decode cX12_print 198 = .ok (.dup2, 1) := by decide +kernel
theorem dX12_print_199 : decode cX12_print 199 = .ok (.iaload, 1) := by decide +kernel
theorem dX12_print_200 : decode cX12_print 200 = .ok (.iconst 1, 1) := by decide +kernel
theorem dX12_print_201 : decode cX12_print 201 = .ok (.iadd, 1) := by decide +kernel
theorem dX12_print_202 : decode cX12_print 202 = .ok (.iastore, 1) := by decide +kernel
theorem dX12_print_203 : decode cX12_print 203 = .ok (.return_, 1) := by decide +kernel
theorem dX12_print_3 : decode cX12_print 3 = .ok (.isub, 1) := by decide +kernel
theorem dX12_print_4 : decode cX12_print 4 = .ok (.istore_n 2, 1) := by decide +kernel
theorem dX12_print_5 : decode cX12_print 5 = .ok (.aload_n 0, 1) := by decide +kernel
theorem dX12_print_6 : decode cX12_print 6 = .ok (.getfield 207, 3) := by decide +kernel
theorem dX12_print_84 : decode cX12_print 84 = .ok (.aload_n 0, 1) := by decide +kernel
theorem dX12_print_85 : decode cX12_print 85 = .ok (.getfield 186, 3) := by decide +kernel
theorem dX12_print_88 : decode cX12_print 88 = .ok (.ifCond .le 32, 3) := by decide +kernel
theorem dX12_print_9 : decode cX12_print 9 = .ok (.ifCond .eq 75, 3) := by decide +kernel
theorem dX12_print_91 : decode cX12_print 91 = .ok (.aload_n 0, 1) := by decide +kernel
theorem dX12_print_92 : decode cX12_print 92 = .ok (.getfield 61, 3) := by decide +kernel
theorem dX12_print_95 : decode cX12_print 95 = .ok (.aload_n 0, 1) := by decide +kernel
theorem dX12_print_96 : decode cX12_print 96 = .ok (.getfield 186, 3) := by decide +kernel
theorem dX12_print_99 : decode cX12_print 99 = .ok (.iconst 1, 1) := by decide +kernel
theorem dX12_sayError_0 : decode cX12_sayError 0 = .ok (.aload_n 0, 1) := by decide +kernel
theorem dX12_sayError_1 : decode cX12_sayError 1 = .ok (.invokevirtual 263, 3) := by decide +kernel
theorem dX12_sayError_10 : decode cX12_sayError 10 = .ok (.iadd, 1) := by decide +kernel
theorem dX12_sayError_11 : decode cX12_sayError 11 = .ok (.i2l, 1) := by decide +kernel
theorem dX12_sayError_12 : decode cX12_sayError 12 = .ok (.iconst 4, 1) := by decide +kernel
theorem dX12_sayError_13 : decode cX12_sayError 13 = .ok (.invokevirtual 199, 3) := by decide +kernel
theorem dX12_sayError_16 : decode cX12_sayError 16 = .ok (.aload_n 0, 1) := by decide +kernel
theorem dX12_sayError_17 : decode cX12_sayError 17 = .ok (.bipush 6, 2) := by decide +kernel
theorem dX12_sayError_19 : decode cX12_sayError 19 = .ok (.invokevirtual 667, 3) := by decide +kernel
theorem dX12_sayError_22 : decode cX12_sayError 22 = .ok (.aload_n 0, 1) := by decide +kernel
theorem dX12_sayError_23 : decode cX12_sayError 23 = .ok (.aload_n 0, 1) := by decide +kernel
theorem dX12_sayError_24 : decode cX12_sayError 24 = .ok (.getfield 469, 3) := by decide +kernel
theorem dX12_sayError_27 : decode cX12_sayError 27 = .ok (.i2l, 1) := by decide +kernel
theorem dX12_sayError_28 : decode cX12_sayError 28 = .ok (.iconst 1, 1) := by decide +kernel
theorem dX12_sayError_29 : decode cX12_sayError 29 = .ok (.invokevirtual 199, 3) := by decide +kernel
theorem dX12_sayError_32 : decode cX12_sayError 32 = .ok (.aload_n 0, 1) := by decide +kernel
theorem dX12_sayError_33 : decode cX12_sayError 33 = .ok (.bipush 8, 2) := by decide +kernel
theorem dX12_sayError_35 : decode cX12_sayError 35 = .ok (.invokevirtual 667, 3) := by decide +kernel
theorem dX12_sayError_38 : decode cX12_sayError 38 = .ok (.iconst 1, 1) := by decide +kernel
theorem dX12_sayError_39 : decode cX12_sayError 39 = .ok (.istore_n 1, 1) := by decide +kernel
theorem dX12_sayError_4 : decode cX12_sayError 4 = .ok (.aload_n 0, 1) := by decide +kernel
theorem dX12_sayError_40 : decode cX12_sayError 40 = .ok (.iload_n 1, 1) := by decide +kernel
theorem dX12_sayError_41 : decode cX12_sayError 41 = .ok (.bipush 81, 2) := by decide +kernel
theorem dX12_sayError_43 : decode cX12_sayError 43 = .ok (.if_icmp .ge 27, 3) := by decide +kernel
theorem dX12_sayError_46 : decode cX12_sayError 46 = .ok (.aload_n 0, 1) := by decide +kernel
theorem dX12_sayError_47 : decode cX12_sayError 47 = .ok (.getfield 469, 3) := by decide +kernel
theorem dX12_sayError_5 : decode cX12_sayError 5 = .ok (.aload_n 0, 1) := by decide +kernel
theorem dX12_sayError_50 : decode cX12_sayError 50 = .ok (.bipush 7, 2) := by decide +kernel
theorem dX12_sayError_52 : decode cX12_sayError 52 = .ok (.if_icmp .eq 18, 3) := by decide +kernel
theorem dX12_sayError_6 : decode cX12_sayError 6 = .ok (.getfield 443, 3) := by decide +kernel
theorem dX12_sayError_70 : decode cX12_sayError 70 = .ok (.aload_n 0, 1) := by decide +kernel
theorem dX12_sayError_71 : decode cX12_sayError 71 = .ok (.bipush 18, 2) := by decide +kernel
theorem dX12_sayError_73 : decode cX12_sayError 73 = .ok (.invokevirtual 269, 3) := by decide +kernel
theorem dX12_sayError_76 : decode cX12_sayError 76 = .ok (.return_, 1) := by decide +kernel
theorem dX12_sayError_9 : decode cX12_sayError 9 = .ok (.iconst 1, 1) := by decide +kernel
theorem dX12_goOver_0 : decode cX12_goOver 0 = .ok (.aload_n 0, 1) := by decide +kernel
theorem dX12_goOver_1 : decode cX12_goOver 1 = .ok (.invokevirtual 639, 3) := by decide +kernel
theorem dX12_goOver_10 : decode cX12_goOver 10 = .ok (.iconst 0, 1) := by decide +kernel
theorem dX12_goOver_100 : decode cX12_goOver 100 = .ok (.goto 7, 3) := by decide +kernel
theorem dX12_goOver_107 : decode cX12_goOver 107 = .ok (.putfield 648, 3) := by decide +kernel
theorem dX12_goOver_11 : decode cX12_goOver 11 = .ok (.istore_n 2, 1) := by decide +kernel
theorem dX12_goOver_110 : decode cX12_goOver 110 = .ok (.iinc 2 1, 3) := by decide +kernel
theorem dX12_goOver_113 : decode cX12_goOver 113 = .ok (.aload_n 0, 1) := by decide +kernel
theorem dX12_goOver_114 : decode cX12_goOver 114 = .ok (.invokevirtual 670, 3) := by decide +kernel
theorem dX12_goOver_117 : decode cX12_goOver 117 = .ok (.aload_n 0, 1) := by decide +kernel
theorem dX12_goOver_118 : decode cX12_goOver 118 = .ok (.dup, 1) := by decide +kernel
theorem dX12_goOver_119 : decode cX12_goOver 119 = .ok (.getfield 443, 3) := by decide +kernel
theorem dX12_goOver_12 : decode cX12_goOver 12 = .ok (.aload_n 0, 1) := by decide +kernel
theorem dX12_goOver_122 : decode cX12_goOver 122 = .ok (.iconst 1, 1) := by decide +kernel
theorem dX12_goOver_123 : decode cX12_goOver 123 = .ok (.iadd, 1) := by decide +kernel
theorem dX12_goOver_124 : decode cX12_goOver 124 = .ok (.putfield 443, 3) := by decide +kernel
theorem dX12_goOver_127 : decode cX12_goOver 127 = .ok (.goto (-105), 3) := by decide +kernel
theorem dX12_goOver_13 : decode cX12_goOver 13 = .ok (.iconst 0, 1) := by decide +kernel
theorem dX12_goOver_130 : decode cX12_goOver 130 = .ok (.aload_n 0, 1) := by decide +kernel
theorem dX12_goOver_131 : decode cX12_goOver 131 = .ok (.invokevirtual 627, 3) := by decide +kernel
theorem dX12_goOver_134 : decode cX12_goOver 134 = .ok (.iload_n 2, 1) := by decide +kernel
theorem dX12_goOver_135 : decode cX12_goOver 135 = .ok (.ireturn, 1) := by decide +kernel
theorem dX12_goOver_14 : decode cX12_goOver 14 = .ok (.putfield 648, 3) := by decide +kernel
theorem dX12_goOver_17 : decode cX12_goOver 17 = .ok (.aload_n 0, 1) := by decide +kernel
theorem dX12_goOver_18 : decode cX12_goOver 18 = .ok (.iconst 0, 1) := by decide +kernel
theorem dX12_goOver_19 : decode cX12_goOver 19 = .ok (.putfield 443, 3) := by decide +kernel
theorem dX12_goOver_22 : decode cX12_goOver 22 = .ok (.aload_n 0, 1) := by decide +kernel
theorem dX12_goOver_23 : decode cX12_goOver 23 = .ok (.getfield 443, 3) := by decide +kernel
theorem dX12_goOver_26 : decode cX12_goOver 26 = .ok (.aload_n 0, 1) := by decide +kernel
theorem dX12_goOver_27 : decode cX12_goOver 27 = .ok (.getfield 436, 3) := by decide +kernel
theorem dX12_goOver_30 : decode cX12_goOver 30 = .ok (.if_icmp .gt 100, 3) := by decide +kernel
theorem dX12_goOver_33 : decode cX12_goOver 33 = .ok (.iload_n 1, 1) := by decide +kernel
theorem dX12_goOver_34 : decode cX12_goOver 34 = .ok (.ifCond .ne 96, 3) := by decide +kernel
theorem dX12_goOver_37 : decode cX12_goOver 37 = .ok (.aload_n 0, 1) := by decide +kernel
theorem dX12_goOver_38 : decode cX12_goOver 38 = .ok (.getfield 443, 3) := by decide +kernel
theorem dX12_goOver_4 : decode cX12_goOver 4 = .ok (.aload_n 0, 1) := by decide +kernel
theorem dX12_goOver_41 : decode cX12_goOver 41 = .ok (.aload_n 0, 1) := by decide +kernel
theorem dX12_goOver_42 : decode cX12_goOver 42 = .ok (.getfield 436, 3) := by decide +kernel
theorem dX12_goOver_45 : decode cX12_goOver 45 = .ok (.if_icmp .ge 14, 3) := by decide +kernel
theorem dX12_goOver_5 : decode cX12_goOver 5 = .ok (.invokevirtual 642, 3) := by decide +kernel
theorem dX12_goOver_59 : decode cX12_goOver 59 = .ok (.iconst 0, 1) := by decide +kernel
theorem dX12_goOver_60 : decode cX12_goOver 60 = .ok (.istore_n 1, 1) := by decide +kernel
theorem dX12_goOver_61 : decode cX12_goOver 61 = .ok (.aload_n 0, 1) := by decide +kernel
theorem dX12_goOver_62 : decode cX12_goOver 62 = .ok (.getfield 443, 3) := by decide +kernel
theorem dX12_goOver_65 : decode cX12_goOver 65 = .ok (.aload_n 0, 1) := by decide +kernel
theorem dX12_goOver_66 : decode cX12_goOver 66 = .ok (.getfield 436, 3) := by decide +kernel
theorem dX12_goOver_69 : decode cX12_goOver 69 = .ok (.if_icmp .ne 9, 3) := by decide +kernel
theorem dX12_goOver_72 : decode cX12_goOver 72 = .ok (.aload_n 0, 1) := by decide +kernel
theorem dX12_goOver_73 : decode cX12_goOver 73 = .ok (.bipush 7, 2) := by decide +kernel
theorem dX12_goOver_75 : decode cX12_goOver 75 = .ok (.putfield 469, 3) := by decide +kernel
theorem dX12_goOver_78 : decode cX12_goOver 78 = .ok (.aload_n 0, 1) := by decide +kernel
theorem dX12_goOver_79 : decode cX12_goOver 79 = .ok (.getfield 469, 3) := by decide +kernel
theorem dX12_goOver_8 : decode cX12_goOver 8 = .ok (.iconst 0, 1) := by decide +kernel
theorem dX12_goOver_82 : decode cX12_goOver 82 = .ok (.ifCond .ne 6, 3) := by decide +kernel
theorem dX12_goOver_88 : decode cX12_goOver 88 = .ok (.aload_n 0, 1) := by decide +kernel
theorem dX12_goOver_89 : decode cX12_goOver 89 = .ok (.aload_n 0, 1) := by decide +kernel
theorem dX12_goOver_9 : decode cX12_goOver 9 = .ok (.istore_n 1, 1) := by decide +kernel
theorem dX12_goOver_90 : decode cX12_goOver 90 = .ok (.getfield 648, 3) := by decide +kernel
theorem dX12_goOver_93 : decode cX12_goOver 93 = .ok (.ifCond .ne 10, 3) := by decide +kernel
theorem dX12_goOver_96 : decode cX12_goOver 96 = .ok (.aload_n 0, 1) := by decide +kernel
theorem dX12_goOver_97 : decode cX12_goOver 97 = .ok (.getfield 469, 3) := by decide +kernel
theorem dX12_errors_0 : decode cX12_errors 0 = .ok (.aload_n 0, 1) := by decide +kernel
theorem dX12_errors_1 : decode cX12_errors 1 = .ok (.iconst 0, 1) := by decide +kernel
theorem dX12_errors_10 : decode cX12_errors 10 = .ok (.aload_n 0, 1) := by decide +kernel
theorem dX12_errors_11 : decode cX12_errors 11 = .ok (.getfield 176, 3) := by decide +kernel
theorem dX12_errors_14 : decode cX12_errors 14 = .ok (.invokevirtual 657, 3) := by decide +kernel
theorem dX12_errors_17 : decode cX12_errors 17 = .ok (.aload_n 0, 1) := by decide +kernel
theorem dX12_errors_18 : decode cX12_errors 18 = .ok (.iconst 0, 1) := by decide +kernel
theorem dX12_errors_19 : decode cX12_errors 19 = .ok (.putfield 176, 3) := by decide +kernel
theorem dX12_errors_2 : decode cX12_errors 2 = .ok (.putfield 155, 3) := by decide +kernel
theorem dX12_errors_22 : decode cX12_errors 22 = .ok (.aload_n 0, 1) := by decide +kernel
theorem dX12_errors_23 : decode cX12_errors 23 = .ok (.iconst 0, 1) := by decide +kernel
theorem dX12_errors_24 : decode cX12_errors 24 = .ok (.putfield 596, 3) := by decide +kernel
theorem dX12_errors_27 : decode cX12_errors 27 = .ok (.aload_n 0, 1) := by decide +kernel
theorem dX12_errors_28 : decode cX12_errors 28 = .ok (.invokevirtual 673, 3) := by decide +kernel
theorem dX12_errors_31 : decode cX12_errors 31 = .ok (.ireturn, 1) := by decide +kernel
theorem dX12_errors_5 : decode cX12_errors 5 = .ok (.aload_n 0, 1) := by decide +kernel
theorem dX12_errors_6 : decode cX12_errors 6 = .ok (.aload_n 0, 1) := by decide +kernel
theorem dX12_errors_7 : decode cX12_errors 7 = .ok (.getfield 9, 3) := by decide +kernel
set_option maxHeartbeats 4000000 in
set_option maxRecDepth 100000 in
theorem c_X12_begin (l : Launch) (D : va_G) (K : Nat → ClassId) (a0 : Nat) (s0 : List Value) (n0 : s0.length = 94) : uMet l yX12_begin cX12_begin 1 none (rmD 0 0 0) D K X0 [.ref a0] [(a0, .inr (11, s0))] (QV D K (fun (u : Nat → Nat) => True) (fun (u : Nat → Nat) => [(a0, .inr (11, (s0.set 30 (.int 0))))])) 0 0 := by
  refine k_met RX12 ⟨rfl, by decide +kernel⟩ (Nat.le_of_ble_eq_true rfl) ?_
  intro p e s m below meth c A ls C hX hr hlocks hin hA hP hD hS hl
  have hl : lv_has ls 1 [(0, .ref a0)] := hl
  refine lv_aload_n C.1 C.2.1 dX12_begin_0 rfl (lv_at hl 0 rfl) ?_
  refine lv_iconst (v := 0) C.1 C.2.1 dX12_begin_1 (by decide) ?_
  refine k_put (ws' := [(a0, .inr (11, (s0.set 30 (.int 0))))]) (v := .int 0) C hP hD hS 0 rfl rfl inlX12 tyX12_ok nmX12 30 (by decide) m_42_8 rfl rfl rfl n0 rfl dX12_begin_2 (fun H locs hP hD hS => ?_)
  exact k_vret C hr hlocks hP hD hS (fun _ => 0) [0] rfl rfl trivial (Nat.le_of_ble_eq_true rfl) (Nat.le_of_ble_eq_true rfl) dX12_begin_5
set_option maxHeartbeats 4000000 in
set_option maxRecDepth 100000 in
theorem c_X12_say (l : Launch) (D : va_G) (K : Nat → ClassId) (a0 : Nat) (a1 : Nat) (s0 : List Value) (n0 : s0.length = 94) (f1 : Nat → Int32) (e0_29 : s0[29]? = some (.ref a1)) (e0_30 : s0[30]? = some (.int 0)) : uMet l yX12_say cX12_say 2 none (rmD 0 0 0) D K X0 [.ref a0, .int 48] [(a0, .inr (11, s0)), (a1, .inl (K 2, 240, .inl f1))] (QV D K (fun (u : Nat → Nat) => True) (fun (u : Nat → Nat) => [(a0, .inr (11, (s0.set 30 (.int 1)))), (a1, .inl (K 2, 240, .inl (upd f1 0 48)))])) 0 0 := by
  refine k_met RX12 ⟨rfl, by decide +kernel⟩ (Nat.le_of_ble_eq_true rfl) ?_
  intro p e s m below meth c A ls C hX hr hlocks hin hA hP hD hS hl
  have hl : lv_has ls 2 [(0, .ref a0), (1, .int 48)] := hl
  refine lv_aload_n C.1 C.2.1 dX12_say_0 rfl (lv_at hl 0 rfl) ?_
  refine k_get (v := .ref a1) C hP 0 rfl rfl inlX12 29 (by decide) m_7_21 e0_29 dX12_say_1 ?_
  refine lv_aload_n C.1 C.2.1 dX12_say_4 rfl (lv_at hl 0 rfl) ?_
  refine k_get (v := .int 0) C hP 0 rfl rfl inlX12 30 (by decide) m_42_8 e0_30 dX12_say_5 ?_
  refine lv_iload_n C.1 C.2.1 dX12_say_8 rfl (lv_at hl 1 rfl) ?_
  refine lv_i2b (v := 48) C.1 C.2.1 dX12_say_9 (by decide) ?_
  refine k_bst (ws' := [(a0, .inr (11, s0)), (a1, .inl (K 2, 240, .inl (upd f1 0 48)))]) (j := 0) (x' := 48) C hP hD hS 1 rfl (vin (by decide)) (by decide) (by decide) rfl dX12_say_10 (fun H locs hP hD hS => ?_)
  refine lv_aload_n C.1 C.2.1 dX12_say_11 rfl (lv_at hl 0 rfl) ?_
  refine lv_dup C.1 C.2.1 dX12_say_12 rfl ?_
  refine k_get (v := .int 0) C hP 0 rfl rfl inlX12 30 (by decide) m_42_8 e0_30 dX12_say_13 ?_
  refine lv_iconst (v := 1) C.1 C.2.1 dX12_say_16 (by decide) ?_
  refine k_iadd (v := 1) C (by decide) dX12_say_17 ?_
  refine k_put (ws' := [(a0, .inr (11, (s0.set 30 (.int 1)))), (a1, .inl (K 2, 240, .inl (upd f1 0 48)))]) (v := .int 1) C hP hD hS 0 rfl rfl inlX12 tyX12_ok nmX12 30 (by decide) m_42_8 rfl rfl rfl n0 rfl dX12_say_18 (fun H locs hP hD hS => ?_)
  exact k_vret C hr hlocks hP hD hS (fun _ => 0) [0, 1] rfl rfl trivial (Nat.le_of_ble_eq_true rfl) (Nat.le_of_ble_eq_true rfl) dX12_say_21
set_option maxHeartbeats 4000000 in
set_option maxRecDepth 100000 in
theorem c_X12_say_2 (l : Launch) (D : va_G) (K : Nat → ClassId) (a0 : Nat) (a1 : Nat) (s0 : List Value) (n0 : s0.length = 94) (f1 : Nat → Int32) (e0_29 : s0[29]? = some (.ref a1)) (e0_30 : s0[30]? = some (.int 1)) : uMet l yX12_say cX12_say 2 none (rmD 0 0 0) D K X0 [.ref a0, .int 48] [(a0, .inr (11, s0)), (a1, .inl (K 2, 240, .inl f1))] (QV D K (fun (u : Nat → Nat) => True) (fun (u : Nat → Nat) => [(a0, .inr (11, (s0.set 30 (.int 2)))), (a1, .inl (K 2, 240, .inl (upd f1 1 48)))])) 0 0 := by
  refine k_met RX12 ⟨rfl, by decide +kernel⟩ (Nat.le_of_ble_eq_true rfl) ?_
  intro p e s m below meth c A ls C hX hr hlocks hin hA hP hD hS hl
  have hl : lv_has ls 2 [(0, .ref a0), (1, .int 48)] := hl
  refine lv_aload_n C.1 C.2.1 dX12_say_0 rfl (lv_at hl 0 rfl) ?_
  refine k_get (v := .ref a1) C hP 0 rfl rfl inlX12 29 (by decide) m_7_21 e0_29 dX12_say_1 ?_
  refine lv_aload_n C.1 C.2.1 dX12_say_4 rfl (lv_at hl 0 rfl) ?_
  refine k_get (v := .int 1) C hP 0 rfl rfl inlX12 30 (by decide) m_42_8 e0_30 dX12_say_5 ?_
  refine lv_iload_n C.1 C.2.1 dX12_say_8 rfl (lv_at hl 1 rfl) ?_
  refine lv_i2b (v := 48) C.1 C.2.1 dX12_say_9 (by decide) ?_
  refine k_bst (ws' := [(a0, .inr (11, s0)), (a1, .inl (K 2, 240, .inl (upd f1 1 48)))]) (j := 1) (x' := 48) C hP hD hS 1 rfl (vin (by decide)) (by decide) (by decide) rfl dX12_say_10 (fun H locs hP hD hS => ?_)
  refine lv_aload_n C.1 C.2.1 dX12_say_11 rfl (lv_at hl 0 rfl) ?_
  refine lv_dup C.1 C.2.1 dX12_say_12 rfl ?_
  refine k_get (v := .int 1) C hP 0 rfl rfl inlX12 30 (by decide) m_42_8 e0_30 dX12_say_13 ?_
  refine lv_iconst (v := 1) C.1 C.2.1 dX12_say_16 (by decide) ?_
  refine k_iadd (v := 2) C (by decide) dX12_say_17 ?_
  refine k_put (ws' := [(a0, .inr (11, (s0.set 30 (.int 2)))), (a1, .inl (K 2, 240, .inl (upd f1 1 48)))]) (v := .int 2) C hP hD hS 0 rfl rfl inlX12 tyX12_ok nmX12 30 (by decide) m_42_8 rfl rfl rfl n0 rfl dX12_say_18 (fun H locs hP hD hS => ?_)
  exact k_vret C hr hlocks hP hD hS (fun _ => 0) [0, 1] rfl rfl trivial (Nat.le_of_ble_eq_true rfl) (Nat.le_of_ble_eq_true rfl) dX12_say_21
set_option maxHeartbeats 4000000 in
set_option maxRecDepth 100000 in
theorem c_X12_say_3 (l : Launch) (D : va_G) (K : Nat → ClassId) (a0 : Nat) (a1 : Nat) (s0 : List Value) (n0 : s0.length = 94) (f1 : Nat → Int32) (e0_29 : s0[29]? = some (.ref a1)) (e0_30 : s0[30]? = some (.int 2)) : uMet l yX12_say cX12_say 2 none (rmD 0 0 0) D K X0 [.ref a0, .int 48] [(a0, .inr (11, s0)), (a1, .inl (K 2, 240, .inl f1))] (QV D K (fun (u : Nat → Nat) => True) (fun (u : Nat → Nat) => [(a0, .inr (11, (s0.set 30 (.int 3)))), (a1, .inl (K 2, 240, .inl (upd f1 2 48)))])) 0 0 := by
  refine k_met RX12 ⟨rfl, by decide +kernel⟩ (Nat.le_of_ble_eq_true rfl) ?_
  intro p e s m below meth c A ls C hX hr hlocks hin hA hP hD hS hl
  have hl : lv_has ls 2 [(0, .ref a0), (1, .int 48)] := hl
  refine lv_aload_n C.1 C.2.1 dX12_say_0 rfl (lv_at hl 0 rfl) ?_
  refine k_get (v := .ref a1) C hP 0 rfl rfl inlX12 29 (by decide) m_7_21 e0_29 dX12_say_1 ?_
  refine lv_aload_n C.1 C.2.1 dX12_say_4 rfl (lv_at hl 0 rfl) ?_
  refine k_get (v := .int 2) C hP 0 rfl rfl inlX12 30 (by decide) m_42_8 e0_30 dX12_say_5 ?_
  refine lv_iload_n C.1 C.2.1 dX12_say_8 rfl (lv_at hl 1 rfl) ?_
  refine lv_i2b (v := 48) C.1 C.2.1 dX12_say_9 (by decide) ?_
  refine k_bst (ws' := [(a0, .inr (11, s0)), (a1, .inl (K 2, 240, .inl (upd f1 2 48)))]) (j := 2) (x' := 48) C hP hD hS 1 rfl (vin (by decide)) (by decide) (by decide) rfl dX12_say_10 (fun H locs hP hD hS => ?_)
  refine lv_aload_n C.1 C.2.1 dX12_say_11 rfl (lv_at hl 0 rfl) ?_
  refine lv_dup C.1 C.2.1 dX12_say_12 rfl ?_
  refine k_get (v := .int 2) C hP 0 rfl rfl inlX12 30 (by decide) m_42_8 e0_30 dX12_say_13 ?_
  refine lv_iconst (v := 1) C.1 C.2.1 dX12_say_16 (by decide) ?_
  refine k_iadd (v := 3) C (by decide) dX12_say_17 ?_
  refine k_put (ws' := [(a0, .inr (11, (s0.set 30 (.int 3)))), (a1, .inl (K 2, 240, .inl (upd f1 2 48)))]) (v := .int 3) C hP hD hS 0 rfl rfl inlX12 tyX12_ok nmX12 30 (by decide) m_42_8 rfl rfl rfl n0 rfl dX12_say_18 (fun H locs hP hD hS => ?_)
  exact k_vret C hr hlocks hP hD hS (fun _ => 0) [0, 1] rfl rfl trivial (Nat.le_of_ble_eq_true rfl) (Nat.le_of_ble_eq_true rfl) dX12_say_21
set_option maxHeartbeats 4000000 in
set_option maxRecDepth 100000 in
theorem c_X12_say_4 (l : Launch) (D : va_G) (K : Nat → ClassId) (a0 : Nat) (a1 : Nat) (s0 : List Value) (n0 : s0.length = 94) (f1 : Nat → Int32) (e0_29 : s0[29]? = some (.ref a1)) (e0_30 : s0[30]? = some (.int 3)) : uMet l yX12_say cX12_say 2 none (rmD 0 0 0) D K X0 [.ref a0, .int 49] [(a0, .inr (11, s0)), (a1, .inl (K 2, 240, .inl f1))] (QV D K (fun (u : Nat → Nat) => True) (fun (u : Nat → Nat) => [(a0, .inr (11, (s0.set 30 (.int 4)))), (a1, .inl (K 2, 240, .inl (upd f1 3 49)))])) 0 0 := by
  refine k_met RX12 ⟨rfl, by decide +kernel⟩ (Nat.le_of_ble_eq_true rfl) ?_
  intro p e s m below meth c A ls C hX hr hlocks hin hA hP hD hS hl
  have hl : lv_has ls 2 [(0, .ref a0), (1, .int 49)] := hl
  refine lv_aload_n C.1 C.2.1 dX12_say_0 rfl (lv_at hl 0 rfl) ?_
  refine k_get (v := .ref a1) C hP 0 rfl rfl inlX12 29 (by decide) m_7_21 e0_29 dX12_say_1 ?_
  refine lv_aload_n C.1 C.2.1 dX12_say_4 rfl (lv_at hl 0 rfl) ?_
  refine k_get (v := .int 3) C hP 0 rfl rfl inlX12 30 (by decide) m_42_8 e0_30 dX12_say_5 ?_
  refine lv_iload_n C.1 C.2.1 dX12_say_8 rfl (lv_at hl 1 rfl) ?_
  refine lv_i2b (v := 49) C.1 C.2.1 dX12_say_9 (by decide) ?_
  refine k_bst (ws' := [(a0, .inr (11, s0)), (a1, .inl (K 2, 240, .inl (upd f1 3 49)))]) (j := 3) (x' := 49) C hP hD hS 1 rfl (vin (by decide)) (by decide) (by decide) rfl dX12_say_10 (fun H locs hP hD hS => ?_)
  refine lv_aload_n C.1 C.2.1 dX12_say_11 rfl (lv_at hl 0 rfl) ?_
  refine lv_dup C.1 C.2.1 dX12_say_12 rfl ?_
  refine k_get (v := .int 3) C hP 0 rfl rfl inlX12 30 (by decide) m_42_8 e0_30 dX12_say_13 ?_
  refine lv_iconst (v := 1) C.1 C.2.1 dX12_say_16 (by decide) ?_
  refine k_iadd (v := 4) C (by decide) dX12_say_17 ?_
  refine k_put (ws' := [(a0, .inr (11, (s0.set 30 (.int 4)))), (a1, .inl (K 2, 240, .inl (upd f1 3 49)))]) (v := .int 4) C hP hD hS 0 rfl rfl inlX12 tyX12_ok nmX12 30 (by decide) m_42_8 rfl rfl rfl n0 rfl dX12_say_18 (fun H locs hP hD hS => ?_)
  exact k_vret C hr hlocks hP hD hS (fun _ => 0) [0, 1] rfl rfl trivial (Nat.le_of_ble_eq_true rfl) (Nat.le_of_ble_eq_true rfl) dX12_say_21
set_option maxHeartbeats 4000000 in
set_option maxRecDepth 100000 in
theorem c_X12_sayDigits (l : Launch) (D : va_G) (K : Nat → ClassId) (a0 : Nat) (a1 : Nat) (s0 : List Value) (n0 : s0.length = 94) (f1 : Nat → Int32) (e0_29 : s0[29]? = some (.ref a1)) (e0_30 : s0[30]? = some (.int 0)) : uMet l yX12_sayDigits cX12_sayDigits 7 none (rmD 1 0 0) D K X0 [.ref a0, .long 1, .int 4] [(a0, .inr (11, s0)), (a1, .inl (K 2, 240, .inl f1))] (QV D K (fun (u : Nat → Nat) => True) (fun (u : Nat → Nat) => [(a0, .inr (11, ((((s0.set 30 (.int 1)).set 30 (.int 2)).set 30 (.int 3)).set 30 (.int 4)))), (a1, .inl (K 2, 240, .inl (upd (upd (upd (upd f1 0 48) 1 48) 2 48) 3 49)))])) 0 0 := by
  refine k_met RX12 ⟨rfl, by decide +kernel⟩ (Nat.le_of_ble_eq_true rfl) ?_
  intro p e s m below meth c A ls C hX hr hlocks hin hA hP hD hS hl
  have hl : lv_has ls 7 [(0, .ref a0), (1, .long 1), (3, .int 4)] := hl
  refine lv_lconst (v := 1) C.1 C.2.1 dX12_sayDigits_0 (by decide) ?_
  refine lv_lstore (lv' := [(4, .long 1), (0, .ref a0), (1, .long 1), (3, .int 4)]) C.1 C.2.1 dX12_sayDigits_1 hl (by decide) rfl (fun ls hl => ?_)
  refine lv_iconst (v := 1) C.1 C.2.1 dX12_sayDigits_3 (by decide) ?_
  refine lv_istore (lv' := [(6, .int 1), (4, .long 1), (0, .ref a0), (1, .long 1), (3, .int 4)]) C.1 C.2.1 dX12_sayDigits_4 hl (by decide) rfl (fun ls hl => ?_)
  refine lv_iload C.1 C.2.1 dX12_sayDigits_6 (lv_at hl 0 rfl) ?_
  refine lv_iload_n C.1 C.2.1 dX12_sayDigits_8 rfl (lv_at hl 4 rfl) ?_
  refine lv_icmp_ge (tgt := 26) C.1 C.2.1 dX12_sayDigits_9 (by decide) (fun h => absurd h (by decide)) (fun _ => ?_)
  refine lv_ldc2 (v := 10) C.1 C.2.1 C.2.2.2.1 (C.2.2.2.2.1 _ m_36_4) dX12_sayDigits_12 ?_
  refine lv_lload C.1 C.2.1 dX12_sayDigits_15 (lv_at hl 1 rfl) ?_
  refine k_lmul (v := 10) C (by decide) dX12_sayDigits_17 ?_
  refine lv_lstore (lv' := [(4, .long 10), (6, .int 1), (0, .ref a0), (1, .long 1), (3, .int 4)]) C.1 C.2.1 dX12_sayDigits_18 hl (by decide) rfl (fun ls hl => ?_)
  refine lv_iinc (v := 2) (lv' := [(6, .int 2), (4, .long 10), (0, .ref a0), (1, .long 1), (3, .int 4)]) C.1 C.2.1 dX12_sayDigits_20 hl (k := 1) rfl (by decide) (by decide) rfl (fun ls hl => ?_)
  refine lv_goto (tgt := 6) C.1 C.2.1 dX12_sayDigits_23 (by decide) ?_
  refine lv_iload C.1 C.2.1 dX12_sayDigits_6 (lv_at hl 0 rfl) ?_
  refine lv_iload_n C.1 C.2.1 dX12_sayDigits_8 rfl (lv_at hl 4 rfl) ?_
  refine lv_icmp_ge (tgt := 26) C.1 C.2.1 dX12_sayDigits_9 (by decide) (fun h => absurd h (by decide)) (fun _ => ?_)
  refine lv_ldc2 (v := 10) C.1 C.2.1 C.2.2.2.1 (C.2.2.2.2.1 _ m_36_4) dX12_sayDigits_12 ?_
  refine lv_lload C.1 C.2.1 dX12_sayDigits_15 (lv_at hl 1 rfl) ?_
  refine k_lmul (v := 100) C (by decide) dX12_sayDigits_17 ?_
  refine lv_lstore (lv' := [(4, .long 100), (6, .int 2), (0, .ref a0), (1, .long 1), (3, .int 4)]) C.1 C.2.1 dX12_sayDigits_18 hl (by decide) rfl (fun ls hl => ?_)
  refine lv_iinc (v := 3) (lv' := [(6, .int 3), (4, .long 100), (0, .ref a0), (1, .long 1), (3, .int 4)]) C.1 C.2.1 dX12_sayDigits_20 hl (k := 1) rfl (by decide) (by decide) rfl (fun ls hl => ?_)
  refine lv_goto (tgt := 6) C.1 C.2.1 dX12_sayDigits_23 (by decide) ?_
  refine lv_iload C.1 C.2.1 dX12_sayDigits_6 (lv_at hl 0 rfl) ?_
  refine lv_iload_n C.1 C.2.1 dX12_sayDigits_8 rfl (lv_at hl 4 rfl) ?_
  refine lv_icmp_ge (tgt := 26) C.1 C.2.1 dX12_sayDigits_9 (by decide) (fun h => absurd h (by decide)) (fun _ => ?_)
  refine lv_ldc2 (v := 10) C.1 C.2.1 C.2.2.2.1 (C.2.2.2.2.1 _ m_36_4) dX12_sayDigits_12 ?_
  refine lv_lload C.1 C.2.1 dX12_sayDigits_15 (lv_at hl 1 rfl) ?_
  refine k_lmul (v := 1000) C (by decide) dX12_sayDigits_17 ?_
  refine lv_lstore (lv' := [(4, .long 1000), (6, .int 3), (0, .ref a0), (1, .long 1), (3, .int 4)]) C.1 C.2.1 dX12_sayDigits_18 hl (by decide) rfl (fun ls hl => ?_)
  refine lv_iinc (v := 4) (lv' := [(6, .int 4), (4, .long 1000), (0, .ref a0), (1, .long 1), (3, .int 4)]) C.1 C.2.1 dX12_sayDigits_20 hl (k := 1) rfl (by decide) (by decide) rfl (fun ls hl => ?_)
  refine lv_goto (tgt := 6) C.1 C.2.1 dX12_sayDigits_23 (by decide) ?_
  refine lv_iload C.1 C.2.1 dX12_sayDigits_6 (lv_at hl 0 rfl) ?_
  refine lv_iload_n C.1 C.2.1 dX12_sayDigits_8 rfl (lv_at hl 4 rfl) ?_
  refine lv_icmp_ge (tgt := 26) C.1 C.2.1 dX12_sayDigits_9 (by decide) (fun _ => ?_) (fun h => absurd (by decide) h)
  refine lv_iconst (v := 0) C.1 C.2.1 dX12_sayDigits_26 (by decide) ?_
  refine lv_istore (lv' := [(6, .int 0), (4, .long 1000), (0, .ref a0), (1, .long 1), (3, .int 4)]) C.1 C.2.1 dX12_sayDigits_27 hl (by decide) rfl (fun ls hl => ?_)
  refine lv_iload C.1 C.2.1 dX12_sayDigits_29 (lv_at hl 0 rfl) ?_
  refine lv_iload_n C.1 C.2.1 dX12_sayDigits_31 rfl (lv_at hl 4 rfl) ?_
  refine lv_icmp_ge (tgt := 66) C.1 C.2.1 dX12_sayDigits_32 (by decide) (fun h => absurd h (by decide)) (fun _ => ?_)
  refine lv_aload_n C.1 C.2.1 dX12_sayDigits_35 rfl (lv_at hl 2 rfl) ?_
  refine lv_ldc2 (v := 48) C.1 C.2.1 C.2.2.2.1 (C.2.2.2.2.1 _ m_36_5) dX12_sayDigits_36 ?_
  refine lv_lload_n C.1 C.2.1 dX12_sayDigits_39 rfl (lv_at hl 3 rfl) ?_
  refine lv_lload C.1 C.2.1 dX12_sayDigits_40 (lv_at hl 1 rfl) ?_
  refine k_ldiv (v := 0) C (by decide) (by decide) dX12_sayDigits_42 ?_
  refine lv_ldc2 (v := 10) C.1 C.2.1 C.2.2.2.1 (C.2.2.2.2.1 _ m_36_4) dX12_sayDigits_43 ?_
  refine k_lrem (v := 0) C (by decide) (by decide) dX12_sayDigits_46 ?_
  refine k_ladd (v := 48) C (by decide) dX12_sayDigits_47 ?_
  refine lv_l2i (v := 48) C.1 C.2.1 dX12_sayDigits_48 (by decide) ?_
  refine k_Vv (As := [.int 48]) (rest := []) C hP hD hS hA (c_X12_say l D K a0 a1 s0 n0 f1 e0_29 e0_30) X0_ok trivial (uwV m_42_13 m_42_14 m_42_15 m_1_5 m_42_16) (hdV 1 (by decide +kernel) rfl) ⟨Nat.le_of_ble_eq_true rfl, Nat.le_of_ble_eq_true rfl⟩ rfl rfl (ci := 11) rfl rfl (isC := [0, 1]) (isR := []) (wr := []) ⟨rfl, rfl, rfl, rfl, by decide⟩ rfl hl.1 (Nat.le_of_ble_eq_true rfl) dX12_sayDigits_49 ⟨Nat.le_of_ble_eq_true rfl, Nat.le_of_ble_eq_true rfl⟩ (fun u_1 H locs hw hP hD hS => ?_)
  have hP : va_P D vwCl [(a0, .inr (11, (s0.set 30 (.int 1)))), (a1, .inl (K 2, 240, .inl (upd f1 0 48)))] H := hP
  have hD : va_D A [(a0, .inr (11, (s0.set 30 (.int 1)))), (a1, .inl (K 2, 240, .inl (upd f1 0 48)))] := hD
  refine lv_lload C.1 C.2.1 dX12_sayDigits_52 (lv_at hl 1 rfl) ?_
  refine lv_ldc2 (v := 10) C.1 C.2.1 C.2.2.2.1 (C.2.2.2.2.1 _ m_36_4) dX12_sayDigits_54 ?_
  refine k_ldiv (v := 100) C (by decide) (by decide) dX12_sayDigits_57 ?_
  refine lv_lstore (lv' := [(4, .long 100), (6, .int 0), (0, .ref a0), (1, .long 1), (3, .int 4)]) C.1 C.2.1 dX12_sayDigits_58 hl (by decide) rfl (fun ls hl => ?_)
  refine lv_iinc (v := 1) (lv' := [(6, .int 1), (4, .long 100), (0, .ref a0), (1, .long 1), (3, .int 4)]) C.1 C.2.1 dX12_sayDigits_60 hl (k := 1) rfl (by decide) (by decide) rfl (fun ls hl => ?_)
  refine lv_goto (tgt := 29) C.1 C.2.1 dX12_sayDigits_63 (by decide) ?_
  refine lv_iload C.1 C.2.1 dX12_sayDigits_29 (lv_at hl 0 rfl) ?_
  refine lv_iload_n C.1 C.2.1 dX12_sayDigits_31 rfl (lv_at hl 4 rfl) ?_
  refine lv_icmp_ge (tgt := 66) C.1 C.2.1 dX12_sayDigits_32 (by decide) (fun h => absurd h (by decide)) (fun _ => ?_)
  refine lv_aload_n C.1 C.2.1 dX12_sayDigits_35 rfl (lv_at hl 2 rfl) ?_
  refine lv_ldc2 (v := 48) C.1 C.2.1 C.2.2.2.1 (C.2.2.2.2.1 _ m_36_5) dX12_sayDigits_36 ?_
  refine lv_lload_n C.1 C.2.1 dX12_sayDigits_39 rfl (lv_at hl 3 rfl) ?_
  refine lv_lload C.1 C.2.1 dX12_sayDigits_40 (lv_at hl 1 rfl) ?_
  refine k_ldiv (v := 0) C (by decide) (by decide) dX12_sayDigits_42 ?_
  refine lv_ldc2 (v := 10) C.1 C.2.1 C.2.2.2.1 (C.2.2.2.2.1 _ m_36_4) dX12_sayDigits_43 ?_
  refine k_lrem (v := 0) C (by decide) (by decide) dX12_sayDigits_46 ?_
  refine k_ladd (v := 48) C (by decide) dX12_sayDigits_47 ?_
  refine lv_l2i (v := 48) C.1 C.2.1 dX12_sayDigits_48 (by decide) ?_
  refine k_Vv (As := [.int 48]) (rest := []) C hP hD hS hA (c_X12_say_2 l D K a0 a1 ((s0.set 30 (.int 1))) (sl n0) (upd f1 0 48) (sn (by decide) e0_29) (ss (sk n0 (by decide)))) X0_ok trivial (uwV m_42_13 m_42_14 m_42_15 m_1_5 m_42_16) (hdV 1 (by decide +kernel) rfl) ⟨Nat.le_of_ble_eq_true rfl, Nat.le_of_ble_eq_true rfl⟩ rfl rfl (ci := 11) rfl rfl (isC := [0, 1]) (isR := []) (wr := []) ⟨rfl, rfl, rfl, rfl, by decide⟩ rfl hl.1 (Nat.le_of_ble_eq_true rfl) dX12_sayDigits_49 ⟨Nat.le_of_ble_eq_true rfl, Nat.le_of_ble_eq_true rfl⟩ (fun u_3 H locs hw hP hD hS => ?_)
  have hP : va_P D vwCl [(a0, .inr (11, ((s0.set 30 (.int 1)).set 30 (.int 2)))), (a1, .inl (K 2, 240, .inl (upd (upd f1 0 48) 1 48)))] H := hP
  have hD : va_D A [(a0, .inr (11, ((s0.set 30 (.int 1)).set 30 (.int 2)))), (a1, .inl (K 2, 240, .inl (upd (upd f1 0 48) 1 48)))] := hD
  refine lv_lload C.1 C.2.1 dX12_sayDigits_52 (lv_at hl 1 rfl) ?_
  refine lv_ldc2 (v := 10) C.1 C.2.1 C.2.2.2.1 (C.2.2.2.2.1 _ m_36_4) dX12_sayDigits_54 ?_
  refine k_ldiv (v := 10) C (by decide) (by decide) dX12_sayDigits_57 ?_
  refine lv_lstore (lv' := [(4, .long 10), (6, .int 1), (0, .ref a0), (1, .long 1), (3, .int 4)]) C.1 C.2.1 dX12_sayDigits_58 hl (by decide) rfl (fun ls hl => ?_)
  refine lv_iinc (v := 2) (lv' := [(6, .int 2), (4, .long 10), (0, .ref a0), (1, .long 1), (3, .int 4)]) C.1 C.2.1 dX12_sayDigits_60 hl (k := 1) rfl (by decide) (by decide) rfl (fun ls hl => ?_)
  refine lv_goto (tgt := 29) C.1 C.2.1 dX12_sayDigits_63 (by decide) ?_
  refine lv_iload C.1 C.2.1 dX12_sayDigits_29 (lv_at hl 0 rfl) ?_
  refine lv_iload_n C.1 C.2.1 dX12_sayDigits_31 rfl (lv_at hl 4 rfl) ?_
  refine lv_icmp_ge (tgt := 66) C.1 C.2.1 dX12_sayDigits_32 (by decide) (fun h => absurd h (by decide)) (fun _ => ?_)
  refine lv_aload_n C.1 C.2.1 dX12_sayDigits_35 rfl (lv_at hl 2 rfl) ?_
  refine lv_ldc2 (v := 48) C.1 C.2.1 C.2.2.2.1 (C.2.2.2.2.1 _ m_36_5) dX12_sayDigits_36 ?_
  refine lv_lload_n C.1 C.2.1 dX12_sayDigits_39 rfl (lv_at hl 3 rfl) ?_
  refine lv_lload C.1 C.2.1 dX12_sayDigits_40 (lv_at hl 1 rfl) ?_
  refine k_ldiv (v := 0) C (by decide) (by decide) dX12_sayDigits_42 ?_
  refine lv_ldc2 (v := 10) C.1 C.2.1 C.2.2.2.1 (C.2.2.2.2.1 _ m_36_4) dX12_sayDigits_43 ?_
  refine k_lrem (v := 0) C (by decide) (by decide) dX12_sayDigits_46 ?_
  refine k_ladd (v := 48) C (by decide) dX12_sayDigits_47 ?_
  refine lv_l2i (v := 48) C.1 C.2.1 dX12_sayDigits_48 (by decide) ?_
  refine k_Vv (As := [.int 48]) (rest := []) C hP hD hS hA (c_X12_say_3 l D K a0 a1 (((s0.set 30 (.int 1)).set 30 (.int 2))) (sl (sl n0)) (upd (upd f1 0 48) 1 48) (sn (by decide) (sn (by decide) e0_29)) (ss (sk (sl n0) (by decide)))) X0_ok trivial (uwV m_42_13 m_42_14 m_42_15 m_1_5 m_42_16) (hdV 1 (by decide +kernel) rfl) ⟨Nat.le_of_ble_eq_true rfl, Nat.le_of_ble_eq_true rfl⟩ rfl rfl (ci := 11) rfl rfl (isC := [0, 1]) (isR := []) (wr := []) ⟨rfl, rfl, rfl, rfl, by decide⟩ rfl hl.1 (Nat.le_of_ble_eq_true rfl) dX12_sayDigits_49 ⟨Nat.le_of_ble_eq_true rfl, Nat.le_of_ble_eq_true rfl⟩ (fun u_5 H locs hw hP hD hS => ?_)
  have hP : va_P D vwCl [(a0, .inr (11, (((s0.set 30 (.int 1)).set 30 (.int 2)).set 30 (.int 3)))), (a1, .inl (K 2, 240, .inl (upd (upd (upd f1 0 48) 1 48) 2 48)))] H := hP
  have hD : va_D A [(a0, .inr (11, (((s0.set 30 (.int 1)).set 30 (.int 2)).set 30 (.int 3)))), (a1, .inl (K 2, 240, .inl (upd (upd (upd f1 0 48) 1 48) 2 48)))] := hD
  refine lv_lload C.1 C.2.1 dX12_sayDigits_52 (lv_at hl 1 rfl) ?_
  refine lv_ldc2 (v := 10) C.1 C.2.1 C.2.2.2.1 (C.2.2.2.2.1 _ m_36_4) dX12_sayDigits_54 ?_
  refine k_ldiv (v := 1) C (by decide) (by decide) dX12_sayDigits_57 ?_
  refine lv_lstore (lv' := [(4, .long 1), (6, .int 2), (0, .ref a0), (1, .long 1), (3, .int 4)]) C.1 C.2.1 dX12_sayDigits_58 hl (by decide) rfl (fun ls hl => ?_)
  refine lv_iinc (v := 3) (lv' := [(6, .int 3), (4, .long 1), (0, .ref a0), (1, .long 1), (3, .int 4)]) C.1 C.2.1 dX12_sayDigits_60 hl (k := 1) rfl (by decide) (by decide) rfl (fun ls hl => ?_)
  refine lv_goto (tgt := 29) C.1 C.2.1 dX12_sayDigits_63 (by decide) ?_
  refine lv_iload C.1 C.2.1 dX12_sayDigits_29 (lv_at hl 0 rfl) ?_
  refine lv_iload_n C.1 C.2.1 dX12_sayDigits_31 rfl (lv_at hl 4 rfl) ?_
  refine lv_icmp_ge (tgt := 66) C.1 C.2.1 dX12_sayDigits_32 (by decide) (fun h => absurd h (by decide)) (fun _ => ?_)
  refine lv_aload_n C.1 C.2.1 dX12_sayDigits_35 rfl (lv_at hl 2 rfl) ?_
  refine lv_ldc2 (v := 48) C.1 C.2.1 C.2.2.2.1 (C.2.2.2.2.1 _ m_36_5) dX12_sayDigits_36 ?_
  refine lv_lload_n C.1 C.2.1 dX12_sayDigits_39 rfl (lv_at hl 3 rfl) ?_
  refine lv_lload C.1 C.2.1 dX12_sayDigits_40 (lv_at hl 1 rfl) ?_
  refine k_ldiv (v := 1) C (by decide) (by decide) dX12_sayDigits_42 ?_
  refine lv_ldc2 (v := 10) C.1 C.2.1 C.2.2.2.1 (C.2.2.2.2.1 _ m_36_4) dX12_sayDigits_43 ?_
  refine k_lrem (v := 1) C (by decide) (by decide) dX12_sayDigits_46 ?_
  refine k_ladd (v := 49) C (by decide) dX12_sayDigits_47 ?_
  refine lv_l2i (v := 49) C.1 C.2.1 dX12_sayDigits_48 (by decide) ?_
  refine k_Vv (As := [.int 49]) (rest := []) C hP hD hS hA (c_X12_say_4 l D K a0 a1 ((((s0.set 30 (.int 1)).set 30 (.int 2)).set 30 (.int 3))) (sl (sl (sl n0))) (upd (upd (upd f1 0 48) 1 48) 2 48) (sn (by decide) (sn (by decide) (sn (by decide) e0_29))) (ss (sk (sl (sl n0)) (by decide)))) X0_ok trivial (uwV m_42_13 m_42_14 m_42_15 m_1_5 m_42_16) (hdV 1 (by decide +kernel) rfl) ⟨Nat.le_of_ble_eq_true rfl, Nat.le_of_ble_eq_true rfl⟩ rfl rfl (ci := 11) rfl rfl (isC := [0, 1]) (isR := []) (wr := []) ⟨rfl, rfl, rfl, rfl, by decide⟩ rfl hl.1 (Nat.le_of_ble_eq_true rfl) dX12_sayDigits_49 ⟨Nat.le_of_ble_eq_true rfl, Nat.le_of_ble_eq_true rfl⟩ (fun u_7 H locs hw hP hD hS => ?_)
  have hP : va_P D vwCl [(a0, .inr (11, ((((s0.set 30 (.int 1)).set 30 (.int 2)).set 30 (.int 3)).set 30 (.int 4)))), (a1, .inl (K 2, 240, .inl (upd (upd (upd (upd f1 0 48) 1 48) 2 48) 3 49)))] H := hP
  have hD : va_D A [(a0, .inr (11, ((((s0.set 30 (.int 1)).set 30 (.int 2)).set 30 (.int 3)).set 30 (.int 4)))), (a1, .inl (K 2, 240, .inl (upd (upd (upd (upd f1 0 48) 1 48) 2 48) 3 49)))] := hD
  refine lv_lload C.1 C.2.1 dX12_sayDigits_52 (lv_at hl 1 rfl) ?_
  refine lv_ldc2 (v := 10) C.1 C.2.1 C.2.2.2.1 (C.2.2.2.2.1 _ m_36_4) dX12_sayDigits_54 ?_
  refine k_ldiv (v := 0) C (by decide) (by decide) dX12_sayDigits_57 ?_
  refine lv_lstore (lv' := [(4, .long 0), (6, .int 3), (0, .ref a0), (1, .long 1), (3, .int 4)]) C.1 C.2.1 dX12_sayDigits_58 hl (by decide) rfl (fun ls hl => ?_)
  refine lv_iinc (v := 4) (lv' := [(6, .int 4), (4, .long 0), (0, .ref a0), (1, .long 1), (3, .int 4)]) C.1 C.2.1 dX12_sayDigits_60 hl (k := 1) rfl (by decide) (by decide) rfl (fun ls hl => ?_)
  refine lv_goto (tgt := 29) C.1 C.2.1 dX12_sayDigits_63 (by decide) ?_
  refine lv_iload C.1 C.2.1 dX12_sayDigits_29 (lv_at hl 0 rfl) ?_
  refine lv_iload_n C.1 C.2.1 dX12_sayDigits_31 rfl (lv_at hl 4 rfl) ?_
  refine lv_icmp_ge (tgt := 66) C.1 C.2.1 dX12_sayDigits_32 (by decide) (fun _ => ?_) (fun h => absurd (by decide) h)
  exact k_vret C hr hlocks hP hD hS (fun _ => 0) [0, 1] rfl rfl trivial (Nat.le_of_ble_eq_true rfl) (Nat.le_of_ble_eq_true rfl) dX12_sayDigits_66
set_option maxHeartbeats 4000000 in
set_option maxRecDepth 100000 in
theorem c_X12_say_5 (l : Launch) (D : va_G) (K : Nat → ClassId) (a0 : Nat) (a1 : Nat) (s0 : List Value) (n0 : s0.length = 94) (f1 : Nat → Int32) (e0_29 : s0[29]? = some (.ref a1)) (e0_30 : s0[30]? = some (.int 4)) : uMet l yX12_say cX12_say 2 none (rmD 0 0 0) D K X0 [.ref a0, .int 32] [(a0, .inr (11, s0)), (a1, .inl (K 2, 240, .inl f1))] (QV D K (fun (u : Nat → Nat) => True) (fun (u : Nat → Nat) => [(a0, .inr (11, (s0.set 30 (.int 5)))), (a1, .inl (K 2, 240, .inl (upd f1 4 32)))])) 0 0 := by
  refine k_met RX12 ⟨rfl, by decide +kernel⟩ (Nat.le_of_ble_eq_true rfl) ?_
  intro p e s m below meth c A ls C hX hr hlocks hin hA hP hD hS hl
  have hl : lv_has ls 2 [(0, .ref a0), (1, .int 32)] := hl
  refine lv_aload_n C.1 C.2.1 dX12_say_0 rfl (lv_at hl 0 rfl) ?_
  refine k_get (v := .ref a1) C hP 0 rfl rfl inlX12 29 (by decide) m_7_21 e0_29 dX12_say_1 ?_
  refine lv_aload_n C.1 C.2.1 dX12_say_4 rfl (lv_at hl 0 rfl) ?_
  refine k_get (v := .int 4) C hP 0 rfl rfl inlX12 30 (by decide) m_42_8 e0_30 dX12_say_5 ?_
  refine lv_iload_n C.1 C.2.1 dX12_say_8 rfl (lv_at hl 1 rfl) ?_
  refine lv_i2b (v := 32) C.1 C.2.1 dX12_say_9 (by decide) ?_
  refine k_bst (ws' := [(a0, .inr (11, s0)), (a1, .inl (K 2, 240, .inl (upd f1 4 32)))]) (j := 4) (x' := 32) C hP hD hS 1 rfl (vin (by decide)) (by decide) (by decide) rfl dX12_say_10 (fun H locs hP hD hS => ?_)
  refine lv_aload_n C.1 C.2.1 dX12_say_11 rfl (lv_at hl 0 rfl) ?_
  refine lv_dup C.1 C.2.1 dX12_say_12 rfl ?_
  refine k_get (v := .int 4) C hP 0 rfl rfl inlX12 30 (by decide) m_42_8 e0_30 dX12_say_13 ?_
  refine lv_iconst (v := 1) C.1 C.2.1 dX12_say_16 (by decide) ?_
  refine k_iadd (v := 5) C (by decide) dX12_say_17 ?_
  refine k_put (ws' := [(a0, .inr (11, (s0.set 30 (.int 5)))), (a1, .inl (K 2, 240, .inl (upd f1 4 32)))]) (v := .int 5) C hP hD hS 0 rfl rfl inlX12 tyX12_ok nmX12 30 (by decide) m_42_8 rfl rfl rfl n0 rfl dX12_say_18 (fun H locs hP hD hS => ?_)
  exact k_vret C hr hlocks hP hD hS (fun _ => 0) [0, 1] rfl rfl trivial (Nat.le_of_ble_eq_true rfl) (Nat.le_of_ble_eq_true rfl) dX12_say_21
set_option maxHeartbeats 4000000 in
set_option maxRecDepth 100000 in
theorem c_X12_toColumn (l : Launch) (D : va_G) (K : Nat → ClassId) (a0 : Nat) (a1 : Nat) (s0 : List Value) (n0 : s0.length = 94) (f1 : Nat → Int32) (e0_30 : s0[30]? = some (.int 4)) (e0_29 : s0[29]? = some (.ref a1)) : uMet l yX12_toColumn cX12_toColumn 2 none (rmD 1 0 0) D K X0 [.ref a0, .int 6] [(a0, .inr (11, s0)), (a1, .inl (K 2, 240, .inl f1))] (QV D K (fun (u : Nat → Nat) => True) (fun (u : Nat → Nat) => [(a0, .inr (11, (s0.set 30 (.int 5)))), (a1, .inl (K 2, 240, .inl (upd f1 4 32)))])) 0 0 := by
  refine k_met RX12 ⟨rfl, by decide +kernel⟩ (Nat.le_of_ble_eq_true rfl) ?_
  intro p e s m below meth c A ls C hX hr hlocks hin hA hP hD hS hl
  have hl : lv_has ls 2 [(0, .ref a0), (1, .int 6)] := hl
  refine lv_aload_n C.1 C.2.1 dX12_toColumn_0 rfl (lv_at hl 0 rfl) ?_
  refine k_get (v := .int 4) C hP 0 rfl rfl inlX12 30 (by decide) m_42_8 e0_30 dX12_toColumn_1 ?_
  refine lv_iload_n C.1 C.2.1 dX12_toColumn_4 rfl (lv_at hl 1 rfl) ?_
  refine lv_iconst (v := 1) C.1 C.2.1 dX12_toColumn_5 (by decide) ?_
  refine k_isub (v := 5) C (by decide) dX12_toColumn_6 ?_
  refine lv_icmp_ge (tgt := 19) C.1 C.2.1 dX12_toColumn_7 (by decide) (fun h => absurd h (by decide)) (fun _ => ?_)
  refine lv_aload_n C.1 C.2.1 dX12_toColumn_10 rfl (lv_at hl 0 rfl) ?_
  refine lv_bipush (v := 32) C.1 C.2.1 dX12_toColumn_11 (by decide) ?_
  refine k_Vv (As := [.int 32]) (rest := []) C hP hD hS hA (c_X12_say_5 l D K a0 a1 s0 n0 f1 e0_29 e0_30) X0_ok trivial (uwV m_42_13 m_42_14 m_42_15 m_1_5 m_42_16) (hdV 1 (by decide +kernel) rfl) ⟨Nat.le_of_ble_eq_true rfl, Nat.le_of_ble_eq_true rfl⟩ rfl rfl (ci := 11) rfl rfl (isC := [0, 1]) (isR := []) (wr := []) ⟨rfl, rfl, rfl, rfl, by decide⟩ rfl hl.1 (Nat.le_of_ble_eq_true rfl) dX12_toColumn_13 ⟨Nat.le_of_ble_eq_true rfl, Nat.le_of_ble_eq_true rfl⟩ (fun u_1 H locs hw hP hD hS => ?_)
  have hP : va_P D vwCl [(a0, .inr (11, (s0.set 30 (.int 5)))), (a1, .inl (K 2, 240, .inl (upd f1 4 32)))] H := hP
  have hD : va_D A [(a0, .inr (11, (s0.set 30 (.int 5)))), (a1, .inl (K 2, 240, .inl (upd f1 4 32)))] := hD
  refine lv_goto (tgt := 0) C.1 C.2.1 dX12_toColumn_16 (by decide) ?_
  refine lv_aload_n C.1 C.2.1 dX12_toColumn_0 rfl (lv_at hl 0 rfl) ?_
  refine k_get (v := .int 5) C hP 0 rfl rfl inlX12 30 (by decide) m_42_8 (ss (sk n0 (by decide))) dX12_toColumn_1 ?_
  refine lv_iload_n C.1 C.2.1 dX12_toColumn_4 rfl (lv_at hl 1 rfl) ?_
  refine lv_iconst (v := 1) C.1 C.2.1 dX12_toColumn_5 (by decide) ?_
  refine k_isub (v := 5) C (by decide) dX12_toColumn_6 ?_
  refine lv_icmp_ge (tgt := 19) C.1 C.2.1 dX12_toColumn_7 (by decide) (fun _ => ?_) (fun h => absurd (by decide) h)
  exact k_vret C hr hlocks hP hD hS (fun _ => 0) [0, 1] rfl rfl trivial (Nat.le_of_ble_eq_true rfl) (Nat.le_of_ble_eq_true rfl) dX12_toColumn_19
set_option maxHeartbeats 4000000 in
set_option maxRecDepth 100000 in
theorem c_X12_say_6 (l : Launch) (D : va_G) (K : Nat → ClassId) (a0 : Nat) (a1 : Nat) (s0 : List Value) (n0 : s0.length = 94) (f1 : Nat → Int32) (e0_29 : s0[29]? = some (.ref a1)) (e0_30 : s0[30]? = some (.int 5)) : uMet l yX12_say cX12_say 2 none (rmD 0 0 0) D K X0 [.ref a0, .int 55] [(a0, .inr (11, s0)), (a1, .inl (K 2, 240, .inl f1))] (QV D K (fun (u : Nat → Nat) => True) (fun (u : Nat → Nat) => [(a0, .inr (11, (s0.set 30 (.int 6)))), (a1, .inl (K 2, 240, .inl (upd f1 5 55)))])) 0 0 := by
  refine k_met RX12 ⟨rfl, by decide +kernel⟩ (Nat.le_of_ble_eq_true rfl) ?_
  intro p e s m below meth c A ls C hX hr hlocks hin hA hP hD hS hl
  have hl : lv_has ls 2 [(0, .ref a0), (1, .int 55)] := hl
  refine lv_aload_n C.1 C.2.1 dX12_say_0 rfl (lv_at hl 0 rfl) ?_
  refine k_get (v := .ref a1) C hP 0 rfl rfl inlX12 29 (by decide) m_7_21 e0_29 dX12_say_1 ?_
  refine lv_aload_n C.1 C.2.1 dX12_say_4 rfl (lv_at hl 0 rfl) ?_
  refine k_get (v := .int 5) C hP 0 rfl rfl inlX12 30 (by decide) m_42_8 e0_30 dX12_say_5 ?_
  refine lv_iload_n C.1 C.2.1 dX12_say_8 rfl (lv_at hl 1 rfl) ?_
  refine lv_i2b (v := 55) C.1 C.2.1 dX12_say_9 (by decide) ?_
  refine k_bst (ws' := [(a0, .inr (11, s0)), (a1, .inl (K 2, 240, .inl (upd f1 5 55)))]) (j := 5) (x' := 55) C hP hD hS 1 rfl (vin (by decide)) (by decide) (by decide) rfl dX12_say_10 (fun H locs hP hD hS => ?_)
  refine lv_aload_n C.1 C.2.1 dX12_say_11 rfl (lv_at hl 0 rfl) ?_
  refine lv_dup C.1 C.2.1 dX12_say_12 rfl ?_
  refine k_get (v := .int 5) C hP 0 rfl rfl inlX12 30 (by decide) m_42_8 e0_30 dX12_say_13 ?_
  refine lv_iconst (v := 1) C.1 C.2.1 dX12_say_16 (by decide) ?_
  refine k_iadd (v := 6) C (by decide) dX12_say_17 ?_
  refine k_put (ws' := [(a0, .inr (11, (s0.set 30 (.int 6)))), (a1, .inl (K 2, 240, .inl (upd f1 5 55)))]) (v := .int 6) C hP hD hS 0 rfl rfl inlX12 tyX12_ok nmX12 30 (by decide) m_42_8 rfl rfl rfl n0 rfl dX12_say_18 (fun H locs hP hD hS => ?_)
  exact k_vret C hr hlocks hP hD hS (fun _ => 0) [0, 1] rfl rfl trivial (Nat.le_of_ble_eq_true rfl) (Nat.le_of_ble_eq_true rfl) dX12_say_21
set_option maxHeartbeats 4000000 in
set_option maxRecDepth 100000 in
theorem c_X12_sayDigits_2 (l : Launch) (D : va_G) (K : Nat → ClassId) (a0 : Nat) (a1 : Nat) (s0 : List Value) (n0 : s0.length = 94) (f1 : Nat → Int32) (e0_29 : s0[29]? = some (.ref a1)) (e0_30 : s0[30]? = some (.int 5)) : uMet l yX12_sayDigits cX12_sayDigits 7 none (rmD 1 0 0) D K X0 [.ref a0, .long 7, .int 1] [(a0, .inr (11, s0)), (a1, .inl (K 2, 240, .inl f1))] (QV D K (fun (u : Nat → Nat) => True) (fun (u : Nat → Nat) => [(a0, .inr (11, (s0.set 30 (.int 6)))), (a1, .inl (K 2, 240, .inl (upd f1 5 55)))])) 0 0 := by
  refine k_met RX12 ⟨rfl, by decide +kernel⟩ (Nat.le_of_ble_eq_true rfl) ?_
  intro p e s m below meth c A ls C hX hr hlocks hin hA hP hD hS hl
  have hl : lv_has ls 7 [(0, .ref a0), (1, .long 7), (3, .int 1)] := hl
  refine lv_lconst (v := 1) C.1 C.2.1 dX12_sayDigits_0 (by decide) ?_
  refine lv_lstore (lv' := [(4, .long 1), (0, .ref a0), (1, .long 7), (3, .int 1)]) C.1 C.2.1 dX12_sayDigits_1 hl (by decide) rfl (fun ls hl => ?_)
  refine lv_iconst (v := 1) C.1 C.2.1 dX12_sayDigits_3 (by decide) ?_
  refine lv_istore (lv' := [(6, .int 1), (4, .long 1), (0, .ref a0), (1, .long 7), (3, .int 1)]) C.1 C.2.1 dX12_sayDigits_4 hl (by decide) rfl (fun ls hl => ?_)
  refine lv_iload C.1 C.2.1 dX12_sayDigits_6 (lv_at hl 0 rfl) ?_
  refine lv_iload_n C.1 C.2.1 dX12_sayDigits_8 rfl (lv_at hl 4 rfl) ?_
  refine lv_icmp_ge (tgt := 26) C.1 C.2.1 dX12_sayDigits_9 (by decide) (fun _ => ?_) (fun h => absurd (by decide) h)
  refine lv_iconst (v := 0) C.1 C.2.1 dX12_sayDigits_26 (by decide) ?_
  refine lv_istore (lv' := [(6, .int 0), (4, .long 1), (0, .ref a0), (1, .long 7), (3, .int 1)]) C.1 C.2.1 dX12_sayDigits_27 hl (by decide) rfl (fun ls hl => ?_)
  refine lv_iload C.1 C.2.1 dX12_sayDigits_29 (lv_at hl 0 rfl) ?_
  refine lv_iload_n C.1 C.2.1 dX12_sayDigits_31 rfl (lv_at hl 4 rfl) ?_
  refine lv_icmp_ge (tgt := 66) C.1 C.2.1 dX12_sayDigits_32 (by decide) (fun h => absurd h (by decide)) (fun _ => ?_)
  refine lv_aload_n C.1 C.2.1 dX12_sayDigits_35 rfl (lv_at hl 2 rfl) ?_
  refine lv_ldc2 (v := 48) C.1 C.2.1 C.2.2.2.1 (C.2.2.2.2.1 _ m_36_5) dX12_sayDigits_36 ?_
  refine lv_lload_n C.1 C.2.1 dX12_sayDigits_39 rfl (lv_at hl 3 rfl) ?_
  refine lv_lload C.1 C.2.1 dX12_sayDigits_40 (lv_at hl 1 rfl) ?_
  refine k_ldiv (v := 7) C (by decide) (by decide) dX12_sayDigits_42 ?_
  refine lv_ldc2 (v := 10) C.1 C.2.1 C.2.2.2.1 (C.2.2.2.2.1 _ m_36_4) dX12_sayDigits_43 ?_
  refine k_lrem (v := 7) C (by decide) (by decide) dX12_sayDigits_46 ?_
  refine k_ladd (v := 55) C (by decide) dX12_sayDigits_47 ?_
  refine lv_l2i (v := 55) C.1 C.2.1 dX12_sayDigits_48 (by decide) ?_
  refine k_Vv (As := [.int 55]) (rest := []) C hP hD hS hA (c_X12_say_6 l D K a0 a1 s0 n0 f1 e0_29 e0_30) X0_ok trivial (uwV m_42_13 m_42_14 m_42_15 m_1_5 m_42_16) (hdV 1 (by decide +kernel) rfl) ⟨Nat.le_of_ble_eq_true rfl, Nat.le_of_ble_eq_true rfl⟩ rfl rfl (ci := 11) rfl rfl (isC := [0, 1]) (isR := []) (wr := []) ⟨rfl, rfl, rfl, rfl, by decide⟩ rfl hl.1 (Nat.le_of_ble_eq_true rfl) dX12_sayDigits_49 ⟨Nat.le_of_ble_eq_true rfl, Nat.le_of_ble_eq_true rfl⟩ (fun u_1 H locs hw hP hD hS => ?_)
  have hP : va_P D vwCl [(a0, .inr (11, (s0.set 30 (.int 6)))), (a1, .inl (K 2, 240, .inl (upd f1 5 55)))] H := hP
  have hD : va_D A [(a0, .inr (11, (s0.set 30 (.int 6)))), (a1, .inl (K 2, 240, .inl (upd f1 5 55)))] := hD
  refine lv_lload C.1 C.2.1 dX12_sayDigits_52 (lv_at hl 1 rfl) ?_
  refine lv_ldc2 (v := 10) C.1 C.2.1 C.2.2.2.1 (C.2.2.2.2.1 _ m_36_4) dX12_sayDigits_54 ?_
  refine k_ldiv (v := 0) C (by decide) (by decide) dX12_sayDigits_57 ?_
  refine lv_lstore (lv' := [(4, .long 0), (6, .int 0), (0, .ref a0), (1, .long 7), (3, .int 1)]) C.1 C.2.1 dX12_sayDigits_58 hl (by decide) rfl (fun ls hl => ?_)
  refine lv_iinc (v := 1) (lv' := [(6, .int 1), (4, .long 0), (0, .ref a0), (1, .long 7), (3, .int 1)]) C.1 C.2.1 dX12_sayDigits_60 hl (k := 1) rfl (by decide) (by decide) rfl (fun ls hl => ?_)
  refine lv_goto (tgt := 29) C.1 C.2.1 dX12_sayDigits_63 (by decide) ?_
  refine lv_iload C.1 C.2.1 dX12_sayDigits_29 (lv_at hl 0 rfl) ?_
  refine lv_iload_n C.1 C.2.1 dX12_sayDigits_31 rfl (lv_at hl 4 rfl) ?_
  refine lv_icmp_ge (tgt := 66) C.1 C.2.1 dX12_sayDigits_32 (by decide) (fun _ => ?_) (fun h => absurd (by decide) h)
  exact k_vret C hr hlocks hP hD hS (fun _ => 0) [0, 1] rfl rfl trivial (Nat.le_of_ble_eq_true rfl) (Nat.le_of_ble_eq_true rfl) dX12_sayDigits_66
set_option maxHeartbeats 4000000 in
set_option maxRecDepth 100000 in
theorem c_X12_say_7 (l : Launch) (D : va_G) (K : Nat → ClassId) (a0 : Nat) (a1 : Nat) (s0 : List Value) (n0 : s0.length = 94) (f1 : Nat → Int32) (e0_29 : s0[29]? = some (.ref a1)) (e0_30 : s0[30]? = some (.int 6)) : uMet l yX12_say cX12_say 2 none (rmD 0 0 0) D K X0 [.ref a0, .int 32] [(a0, .inr (11, s0)), (a1, .inl (K 2, 240, .inl f1))] (QV D K (fun (u : Nat → Nat) => True) (fun (u : Nat → Nat) => [(a0, .inr (11, (s0.set 30 (.int 7)))), (a1, .inl (K 2, 240, .inl (upd f1 6 32)))])) 0 0 := by
  refine k_met RX12 ⟨rfl, by decide +kernel⟩ (Nat.le_of_ble_eq_true rfl) ?_
  intro p e s m below meth c A ls C hX hr hlocks hin hA hP hD hS hl
  have hl : lv_has ls 2 [(0, .ref a0), (1, .int 32)] := hl
  refine lv_aload_n C.1 C.2.1 dX12_say_0 rfl (lv_at hl 0 rfl) ?_
  refine k_get (v := .ref a1) C hP 0 rfl rfl inlX12 29 (by decide) m_7_21 e0_29 dX12_say_1 ?_
  refine lv_aload_n C.1 C.2.1 dX12_say_4 rfl (lv_at hl 0 rfl) ?_
  refine k_get (v := .int 6) C hP 0 rfl rfl inlX12 30 (by decide) m_42_8 e0_30 dX12_say_5 ?_
  refine lv_iload_n C.1 C.2.1 dX12_say_8 rfl (lv_at hl 1 rfl) ?_
  refine lv_i2b (v := 32) C.1 C.2.1 dX12_say_9 (by decide) ?_
  refine k_bst (ws' := [(a0, .inr (11, s0)), (a1, .inl (K 2, 240, .inl (upd f1 6 32)))]) (j := 6) (x' := 32) C hP hD hS 1 rfl (vin (by decide)) (by decide) (by decide) rfl dX12_say_10 (fun H locs hP hD hS => ?_)
  refine lv_aload_n C.1 C.2.1 dX12_say_11 rfl (lv_at hl 0 rfl) ?_
  refine lv_dup C.1 C.2.1 dX12_say_12 rfl ?_
  refine k_get (v := .int 6) C hP 0 rfl rfl inlX12 30 (by decide) m_42_8 e0_30 dX12_say_13 ?_
  refine lv_iconst (v := 1) C.1 C.2.1 dX12_say_16 (by decide) ?_
  refine k_iadd (v := 7) C (by decide) dX12_say_17 ?_
  refine k_put (ws' := [(a0, .inr (11, (s0.set 30 (.int 7)))), (a1, .inl (K 2, 240, .inl (upd f1 6 32)))]) (v := .int 7) C hP hD hS 0 rfl rfl inlX12 tyX12_ok nmX12 30 (by decide) m_42_8 rfl rfl rfl n0 rfl dX12_say_18 (fun H locs hP hD hS => ?_)
  exact k_vret C hr hlocks hP hD hS (fun _ => 0) [0, 1] rfl rfl trivial (Nat.le_of_ble_eq_true rfl) (Nat.le_of_ble_eq_true rfl) dX12_say_21
set_option maxHeartbeats 4000000 in
set_option maxRecDepth 100000 in
theorem c_X12_toColumn_2 (l : Launch) (D : va_G) (K : Nat → ClassId) (a0 : Nat) (a1 : Nat) (s0 : List Value) (n0 : s0.length = 94) (f1 : Nat → Int32) (e0_30 : s0[30]? = some (.int 6)) (e0_29 : s0[29]? = some (.ref a1)) : uMet l yX12_toColumn cX12_toColumn 2 none (rmD 1 0 0) D K X0 [.ref a0, .int 8] [(a0, .inr (11, s0)), (a1, .inl (K 2, 240, .inl f1))] (QV D K (fun (u : Nat → Nat) => True) (fun (u : Nat → Nat) => [(a0, .inr (11, (s0.set 30 (.int 7)))), (a1, .inl (K 2, 240, .inl (upd f1 6 32)))])) 0 0 := by
  refine k_met RX12 ⟨rfl, by decide +kernel⟩ (Nat.le_of_ble_eq_true rfl) ?_
  intro p e s m below meth c A ls C hX hr hlocks hin hA hP hD hS hl
  have hl : lv_has ls 2 [(0, .ref a0), (1, .int 8)] := hl
  refine lv_aload_n C.1 C.2.1 dX12_toColumn_0 rfl (lv_at hl 0 rfl) ?_
  refine k_get (v := .int 6) C hP 0 rfl rfl inlX12 30 (by decide) m_42_8 e0_30 dX12_toColumn_1 ?_
  refine lv_iload_n C.1 C.2.1 dX12_toColumn_4 rfl (lv_at hl 1 rfl) ?_
  refine lv_iconst (v := 1) C.1 C.2.1 dX12_toColumn_5 (by decide) ?_
  refine k_isub (v := 7) C (by decide) dX12_toColumn_6 ?_
  refine lv_icmp_ge (tgt := 19) C.1 C.2.1 dX12_toColumn_7 (by decide) (fun h => absurd h (by decide)) (fun _ => ?_)
  refine lv_aload_n C.1 C.2.1 dX12_toColumn_10 rfl (lv_at hl 0 rfl) ?_
  refine lv_bipush (v := 32) C.1 C.2.1 dX12_toColumn_11 (by decide) ?_
  refine k_Vv (As := [.int 32]) (rest := []) C hP hD hS hA (c_X12_say_7 l D K a0 a1 s0 n0 f1 e0_29 e0_30) X0_ok trivial (uwV m_42_13 m_42_14 m_42_15 m_1_5 m_42_16) (hdV 1 (by decide +kernel) rfl) ⟨Nat.le_of_ble_eq_true rfl, Nat.le_of_ble_eq_true rfl⟩ rfl rfl (ci := 11) rfl rfl (isC := [0, 1]) (isR := []) (wr := []) ⟨rfl, rfl, rfl, rfl, by decide⟩ rfl hl.1 (Nat.le_of_ble_eq_true rfl) dX12_toColumn_13 ⟨Nat.le_of_ble_eq_true rfl, Nat.le_of_ble_eq_true rfl⟩ (fun u_1 H locs hw hP hD hS => ?_)
  have hP : va_P D vwCl [(a0, .inr (11, (s0.set 30 (.int 7)))), (a1, .inl (K 2, 240, .inl (upd f1 6 32)))] H := hP
  have hD : va_D A [(a0, .inr (11, (s0.set 30 (.int 7)))), (a1, .inl (K 2, 240, .inl (upd f1 6 32)))] := hD
  refine lv_goto (tgt := 0) C.1 C.2.1 dX12_toColumn_16 (by decide) ?_
  refine lv_aload_n C.1 C.2.1 dX12_toColumn_0 rfl (lv_at hl 0 rfl) ?_
  refine k_get (v := .int 7) C hP 0 rfl rfl inlX12 30 (by decide) m_42_8 (ss (sk n0 (by decide))) dX12_toColumn_1 ?_
  refine lv_iload_n C.1 C.2.1 dX12_toColumn_4 rfl (lv_at hl 1 rfl) ?_
  refine lv_iconst (v := 1) C.1 C.2.1 dX12_toColumn_5 (by decide) ?_
  refine k_isub (v := 7) C (by decide) dX12_toColumn_6 ?_
  refine lv_icmp_ge (tgt := 19) C.1 C.2.1 dX12_toColumn_7 (by decide) (fun _ => ?_) (fun h => absurd (by decide) h)
  exact k_vret C hr hlocks hP hD hS (fun _ => 0) [0, 1] rfl rfl trivial (Nat.le_of_ble_eq_true rfl) (Nat.le_of_ble_eq_true rfl) dX12_toColumn_19
set_option maxHeartbeats 4000000 in
set_option maxRecDepth 100000 in
theorem c_X12_print (l : Launch) (D : va_G) (K : Nat → ClassId) (a0 : Nat) (a1 : Nat) (a2 : Nat) (a3 : Nat) (a4 : Nat) (s0 : List Value) (n0 : s0.length = 94) (f3 : Nat → Int32) (f4 : Nat → Int32) (e0_31 : s0[31]? = some (.int 0)) (e0_30 : s0[30]? = some (.int 7)) (e0_29 : s0[29]? = some (.ref a1)) (e0_28 : s0[28]? = some (.ref a2)) (e0_26 : s0[26]? = some (.ref a3)) (e0_27 : s0[27]? = some (.ref a4)) : uMet l yX12_print cX12_print 5 none (rmD 0 0 0) D K X0 [.ref a0, .int 18] [(a0, .inr (11, s0)), (a1, .inl (K 2, 240, .inl (upd (upd (upd (upd (upd (upd (upd (fun _ => 0) 0 48) 1 48) 2 48) 3 49) 4 32) 5 55) 6 32))), (a2, .inl (K 0, 3, .inl (fun _ => 0))), (a3, .inl (K 2, 108000, .inl f3)), (a4, .inl (K 0, 900, .inl f4))] (QV D K (fun (u : Nat → Nat) => True) (fun (u : Nat → Nat) => [(a0, .inr (11, (s0.set 30 (.int 6)))), (a1, .inl (K 2, 240, .inl (upd (upd (upd (upd (upd (upd (upd (fun _ => 0) 0 48) 1 48) 2 48) 3 49) 4 32) 5 55) 6 32))), (a2, .inl (K 0, 3, .inl (upd (fun _ => 0) 1 1))), (a3, .inl (K 2, 108000, .inl (upd (upd (upd (upd (upd (upd f3 36000 48) 36001 48) 36002 48) 36003 49) 36004 32) 36005 55))), (a4, .inl (K 0, 900, .inl (upd f4 300 6)))])) 0 0 := by
  refine k_met RX12 ⟨rfl, by decide +kernel⟩ (Nat.le_of_ble_eq_true rfl) ?_
  intro p e s m below meth c A ls C hX hr hlocks hin hA hP hD hS hl
  have hl : lv_has ls 5 [(0, .ref a0), (1, .int 18)] := hl
  refine lv_iload_n C.1 C.2.1 dX12_print_0 rfl (lv_at hl 1 rfl) ?_
  refine lv_bipush (v := 17) C.1 C.2.1 dX12_print_1 (by decide) ?_
  refine k_isub (v := 1) C (by decide) dX12_print_3 ?_
  refine lv_istore_n (lv' := [(2, .int 1), (0, .ref a0), (1, .int 18)]) C.1 C.2.1 dX12_print_4 rfl hl (by decide) rfl (fun ls hl => ?_)
  refine lv_aload_n C.1 C.2.1 dX12_print_5 rfl (lv_at hl 1 rfl) ?_
  refine k_get (v := .int 0) C hP 0 rfl rfl inlX12 31 (by decide) m_43_1 e0_31 dX12_print_6 ?_
  refine lv_if_eq (tgt := 84) C.1 C.2.1 dX12_print_9 (by decide) (fun _ => ?_) (fun h => absurd (by decide) h)
  refine lv_aload_n C.1 C.2.1 dX12_print_84 rfl (lv_at hl 1 rfl) ?_
  refine k_get (v := .int 7) C hP 0 rfl rfl inlX12 30 (by decide) m_42_8 e0_30 dX12_print_85 ?_
  refine lv_if_le (tgt := 120) C.1 C.2.1 dX12_print_88 (by decide) (fun h => absurd h (by decide)) (fun _ => ?_)
  refine lv_aload_n C.1 C.2.1 dX12_print_91 rfl (lv_at hl 1 rfl) ?_
  refine k_get (v := .ref a1) C hP 0 rfl rfl inlX12 29 (by decide) m_7_21 e0_29 dX12_print_92 ?_
  refine lv_aload_n C.1 C.2.1 dX12_print_95 rfl (lv_at hl 1 rfl) ?_
  refine k_get (v := .int 7) C hP 0 rfl rfl inlX12 30 (by decide) m_42_8 e0_30 dX12_print_96 ?_
  refine lv_iconst (v := 1) C.1 C.2.1 dX12_print_99 (by decide) ?_
  refine k_isub (v := 6) C (by decide) dX12_print_100 ?_
  refine k_bld (v := 32) C hP 1 rfl (vin (by decide)) rfl dX12_print_101 ?_
  refine lv_bipush (v := 32) C.1 C.2.1 dX12_print_102 (by decide) ?_
  refine lv_icmp_ne (tgt := 120) C.1 C.2.1 dX12_print_104 (by decide) (fun h => absurd h (by decide)) (fun _ => ?_)
  refine lv_aload_n C.1 C.2.1 dX12_print_107 rfl (lv_at hl 1 rfl) ?_
  refine lv_dup C.1 C.2.1 dX12_print_108 rfl ?_
  refine k_get (v := .int 7) C hP 0 rfl rfl inlX12 30 (by decide) m_42_8 e0_30 dX12_print_109 ?_
  refine lv_iconst (v := 1) C.1 C.2.1 dX12_print_112 (by decide) ?_
  refine k_isub (v := 6) C (by decide) dX12_print_113 ?_
  refine k_put (ws' := [(a0, .inr (11, (s0.set 30 (.int 6)))), (a1, .inl (K 2, 240, .inl (upd (upd (upd (upd (upd (upd (upd (fun _ => 0) 0 48) 1 48) 2 48) 3 49) 4 32) 5 55) 6 32))), (a2, .inl (K 0, 3, .inl (fun _ => 0))), (a3, .inl (K 2, 108000, .inl f3)), (a4, .inl (K 0, 900, .inl f4))]) (v := .int 6) C hP hD hS 0 rfl rfl inlX12 tyX12_ok nmX12 30 (by decide) m_42_8 rfl rfl rfl n0 rfl dX12_print_114 (fun H locs hP hD hS => ?_)
  refine lv_goto (tgt := 84) C.1 C.2.1 dX12_print_117 (by decide) ?_
  refine lv_aload_n C.1 C.2.1 dX12_print_84 rfl (lv_at hl 1 rfl) ?_
  refine k_get (v := .int 6) C hP 0 rfl rfl inlX12 30 (by decide) m_42_8 (ss (sk n0 (by decide))) dX12_print_85 ?_
  refine lv_if_le (tgt := 120) C.1 C.2.1 dX12_print_88 (by decide) (fun h => absurd h (by decide)) (fun _ => ?_)
  refine lv_aload_n C.1 C.2.1 dX12_print_91 rfl (lv_at hl 1 rfl) ?_
  refine k_get (v := .ref a1) C hP 0 rfl rfl inlX12 29 (by decide) m_7_21 (sn (by decide) e0_29) dX12_print_92 ?_
  refine lv_aload_n C.1 C.2.1 dX12_print_95 rfl (lv_at hl 1 rfl) ?_
  refine k_get (v := .int 6) C hP 0 rfl rfl inlX12 30 (by decide) m_42_8 (ss (sk n0 (by decide))) dX12_print_96 ?_
  refine lv_iconst (v := 1) C.1 C.2.1 dX12_print_99 (by decide) ?_
  refine k_isub (v := 5) C (by decide) dX12_print_100 ?_
  refine k_bld (v := 55) C hP 1 rfl (vin (by decide)) rfl dX12_print_101 ?_
  refine lv_bipush (v := 32) C.1 C.2.1 dX12_print_102 (by decide) ?_
  refine lv_icmp_ne (tgt := 120) C.1 C.2.1 dX12_print_104 (by decide) (fun _ => ?_) (fun h => absurd h (by decide))
  refine lv_aload_n C.1 C.2.1 dX12_print_120 rfl (lv_at hl 1 rfl) ?_
  refine k_get (v := .ref a2) C hP 0 rfl rfl inlX12 28 (by decide) m_7_20 (sn (by decide) e0_28) dX12_print_121 ?_
  refine lv_iload_n C.1 C.2.1 dX12_print_124 rfl (lv_at hl 0 rfl) ?_
  refine k_ild (v := 0) C hP 2 rfl (vin (by decide)) rfl dX12_print_125 ?_
  refine lv_sipush (v := 300) C.1 C.2.1 dX12_print_126 (by decide) ?_
  refine lv_icmp_ne (tgt := 133) C.1 C.2.1 dX12_print_129 (by decide) (fun _ => ?_) (fun h => absurd h (by decide))
  refine lv_sipush (v := 300) C.1 C.2.1 dX12_print_133 (by decide) ?_
  refine lv_iload_n C.1 C.2.1 dX12_print_136 rfl (lv_at hl 0 rfl) ?_
  refine k_imul (v := 300) C (by decide) dX12_print_137 ?_
  refine lv_aload_n C.1 C.2.1 dX12_print_138 rfl (lv_at hl 1 rfl) ?_
  refine k_get (v := .ref a2) C hP 0 rfl rfl inlX12 28 (by decide) m_7_20 (sn (by decide) e0_28) dX12_print_139 ?_
  refine lv_iload_n C.1 C.2.1 dX12_print_142 rfl (lv_at hl 0 rfl) ?_
  refine k_ild (v := 0) C hP 2 rfl (vin (by decide)) rfl dX12_print_143 ?_
  refine k_iadd (v := 300) C (by decide) dX12_print_144 ?_
  refine lv_istore_n (lv' := [(3, .int 300), (2, .int 1), (0, .ref a0), (1, .int 18)]) C.1 C.2.1 dX12_print_145 rfl hl (by decide) rfl (fun ls hl => ?_)
  refine lv_iconst (v := 0) C.1 C.2.1 dX12_print_146 (by decide) ?_
  refine lv_istore (lv' := [(4, .int 0), (3, .int 300), (2, .int 1), (0, .ref a0), (1, .int 18)]) C.1 C.2.1 dX12_print_147 hl (by decide) rfl (fun ls hl => ?_)
  refine lv_iload C.1 C.2.1 dX12_print_149 (lv_at hl 0 rfl) ?_
  refine lv_aload_n C.1 C.2.1 dX12_print_151 rfl (lv_at hl 3 rfl) ?_
  refine k_get (v := .int 6) C hP 0 rfl rfl inlX12 30 (by decide) m_42_8 (ss (sk n0 (by decide))) dX12_print_152 ?_
  refine lv_icmp_ge (tgt := 183) C.1 C.2.1 dX12_print_155 (by decide) (fun h => absurd h (by decide)) (fun _ => ?_)
  refine lv_aload_n C.1 C.2.1 dX12_print_158 rfl (lv_at hl 3 rfl) ?_
  refine k_get (v := .ref a3) C hP 0 rfl rfl inlX12 26 (by decide) m_7_18 (sn (by decide) e0_26) dX12_print_159 ?_
  refine lv_bipush (v := 120) C.1 C.2.1 dX12_print_162 (by decide) ?_
  refine lv_iload_n C.1 C.2.1 dX12_print_164 rfl (lv_at hl 1 rfl) ?_
  refine k_imul (v := 36000) C (by decide) dX12_print_165 ?_
  refine lv_iload C.1 C.2.1 dX12_print_166 (lv_at hl 0 rfl) ?_
  refine k_iadd (v := 36000) C (by decide) dX12_print_168 ?_
  refine lv_aload_n C.1 C.2.1 dX12_print_169 rfl (lv_at hl 3 rfl) ?_
  refine k_get (v := .ref a1) C hP 0 rfl rfl inlX12 29 (by decide) m_7_21 (sn (by decide) e0_29) dX12_print_170 ?_
  refine lv_iload C.1 C.2.1 dX12_print_173 (lv_at hl 0 rfl) ?_
  refine k_bld (v := 48) C hP 1 rfl (vin (by decide)) rfl dX12_print_175 ?_
  refine k_bst (ws' := [(a0, .inr (11, (s0.set 30 (.int 6)))), (a1, .inl (K 2, 240, .inl (upd (upd (upd (upd (upd (upd (upd (fun _ => 0) 0 48) 1 48) 2 48) 3 49) 4 32) 5 55) 6 32))), (a2, .inl (K 0, 3, .inl (fun _ => 0))), (a3, .inl (K 2, 108000, .inl (upd f3 36000 48))), (a4, .inl (K 0, 900, .inl f4))]) (j := 36000) (x' := 48) C hP hD hS 3 rfl (vin (by decide)) (by decide) (by decide) rfl dX12_print_176 (fun H locs hP hD hS => ?_)
  refine lv_iinc (v := 1) (lv' := [(4, .int 1), (3, .int 300), (2, .int 1), (0, .ref a0), (1, .int 18)]) C.1 C.2.1 dX12_print_177 hl (k := 0) rfl (by decide) (by decide) rfl (fun ls hl => ?_)
  refine lv_goto (tgt := 149) C.1 C.2.1 dX12_print_180 (by decide) ?_
  refine lv_iload C.1 C.2.1 dX12_print_149 (lv_at hl 0 rfl) ?_
  refine lv_aload_n C.1 C.2.1 dX12_print_151 rfl (lv_at hl 3 rfl) ?_
  refine k_get (v := .int 6) C hP 0 rfl rfl inlX12 30 (by decide) m_42_8 (ss (sk n0 (by decide))) dX12_print_152 ?_
  refine lv_icmp_ge (tgt := 183) C.1 C.2.1 dX12_print_155 (by decide) (fun h => absurd h (by decide)) (fun _ => ?_)
  refine lv_aload_n C.1 C.2.1 dX12_print_158 rfl (lv_at hl 3 rfl) ?_
  refine k_get (v := .ref a3) C hP 0 rfl rfl inlX12 26 (by decide) m_7_18 (sn (by decide) e0_26) dX12_print_159 ?_
  refine lv_bipush (v := 120) C.1 C.2.1 dX12_print_162 (by decide) ?_
  refine lv_iload_n C.1 C.2.1 dX12_print_164 rfl (lv_at hl 1 rfl) ?_
  refine k_imul (v := 36000) C (by decide) dX12_print_165 ?_
  refine lv_iload C.1 C.2.1 dX12_print_166 (lv_at hl 0 rfl) ?_
  refine k_iadd (v := 36001) C (by decide) dX12_print_168 ?_
  refine lv_aload_n C.1 C.2.1 dX12_print_169 rfl (lv_at hl 3 rfl) ?_
  refine k_get (v := .ref a1) C hP 0 rfl rfl inlX12 29 (by decide) m_7_21 (sn (by decide) e0_29) dX12_print_170 ?_
  refine lv_iload C.1 C.2.1 dX12_print_173 (lv_at hl 0 rfl) ?_
  refine k_bld (v := 48) C hP 1 rfl (vin (by decide)) rfl dX12_print_175 ?_
  refine k_bst (ws' := [(a0, .inr (11, (s0.set 30 (.int 6)))), (a1, .inl (K 2, 240, .inl (upd (upd (upd (upd (upd (upd (upd (fun _ => 0) 0 48) 1 48) 2 48) 3 49) 4 32) 5 55) 6 32))), (a2, .inl (K 0, 3, .inl (fun _ => 0))), (a3, .inl (K 2, 108000, .inl (upd (upd f3 36000 48) 36001 48))), (a4, .inl (K 0, 900, .inl f4))]) (j := 36001) (x' := 48) C hP hD hS 3 rfl (vin (by decide)) (by decide) (by decide) rfl dX12_print_176 (fun H locs hP hD hS => ?_)
  refine lv_iinc (v := 2) (lv' := [(4, .int 2), (3, .int 300), (2, .int 1), (0, .ref a0), (1, .int 18)]) C.1 C.2.1 dX12_print_177 hl (k := 0) rfl (by decide) (by decide) rfl (fun ls hl => ?_)
  refine lv_goto (tgt := 149) C.1 C.2.1 dX12_print_180 (by decide) ?_
  refine lv_iload C.1 C.2.1 dX12_print_149 (lv_at hl 0 rfl) ?_
  refine lv_aload_n C.1 C.2.1 dX12_print_151 rfl (lv_at hl 3 rfl) ?_
  refine k_get (v := .int 6) C hP 0 rfl rfl inlX12 30 (by decide) m_42_8 (ss (sk n0 (by decide))) dX12_print_152 ?_
  refine lv_icmp_ge (tgt := 183) C.1 C.2.1 dX12_print_155 (by decide) (fun h => absurd h (by decide)) (fun _ => ?_)
  refine lv_aload_n C.1 C.2.1 dX12_print_158 rfl (lv_at hl 3 rfl) ?_
  refine k_get (v := .ref a3) C hP 0 rfl rfl inlX12 26 (by decide) m_7_18 (sn (by decide) e0_26) dX12_print_159 ?_
  refine lv_bipush (v := 120) C.1 C.2.1 dX12_print_162 (by decide) ?_
  refine lv_iload_n C.1 C.2.1 dX12_print_164 rfl (lv_at hl 1 rfl) ?_
  refine k_imul (v := 36000) C (by decide) dX12_print_165 ?_
  refine lv_iload C.1 C.2.1 dX12_print_166 (lv_at hl 0 rfl) ?_
  refine k_iadd (v := 36002) C (by decide) dX12_print_168 ?_
  refine lv_aload_n C.1 C.2.1 dX12_print_169 rfl (lv_at hl 3 rfl) ?_
  refine k_get (v := .ref a1) C hP 0 rfl rfl inlX12 29 (by decide) m_7_21 (sn (by decide) e0_29) dX12_print_170 ?_
  refine lv_iload C.1 C.2.1 dX12_print_173 (lv_at hl 0 rfl) ?_
  refine k_bld (v := 48) C hP 1 rfl (vin (by decide)) rfl dX12_print_175 ?_
  refine k_bst (ws' := [(a0, .inr (11, (s0.set 30 (.int 6)))), (a1, .inl (K 2, 240, .inl (upd (upd (upd (upd (upd (upd (upd (fun _ => 0) 0 48) 1 48) 2 48) 3 49) 4 32) 5 55) 6 32))), (a2, .inl (K 0, 3, .inl (fun _ => 0))), (a3, .inl (K 2, 108000, .inl (upd (upd (upd f3 36000 48) 36001 48) 36002 48))), (a4, .inl (K 0, 900, .inl f4))]) (j := 36002) (x' := 48) C hP hD hS 3 rfl (vin (by decide)) (by decide) (by decide) rfl dX12_print_176 (fun H locs hP hD hS => ?_)
  refine lv_iinc (v := 3) (lv' := [(4, .int 3), (3, .int 300), (2, .int 1), (0, .ref a0), (1, .int 18)]) C.1 C.2.1 dX12_print_177 hl (k := 0) rfl (by decide) (by decide) rfl (fun ls hl => ?_)
  refine lv_goto (tgt := 149) C.1 C.2.1 dX12_print_180 (by decide) ?_
  refine lv_iload C.1 C.2.1 dX12_print_149 (lv_at hl 0 rfl) ?_
  refine lv_aload_n C.1 C.2.1 dX12_print_151 rfl (lv_at hl 3 rfl) ?_
  refine k_get (v := .int 6) C hP 0 rfl rfl inlX12 30 (by decide) m_42_8 (ss (sk n0 (by decide))) dX12_print_152 ?_
  refine lv_icmp_ge (tgt := 183) C.1 C.2.1 dX12_print_155 (by decide) (fun h => absurd h (by decide)) (fun _ => ?_)
  refine lv_aload_n C.1 C.2.1 dX12_print_158 rfl (lv_at hl 3 rfl) ?_
  refine k_get (v := .ref a3) C hP 0 rfl rfl inlX12 26 (by decide) m_7_18 (sn (by decide) e0_26) dX12_print_159 ?_
  refine lv_bipush (v := 120) C.1 C.2.1 dX12_print_162 (by decide) ?_
  refine lv_iload_n C.1 C.2.1 dX12_print_164 rfl (lv_at hl 1 rfl) ?_
  refine k_imul (v := 36000) C (by decide) dX12_print_165 ?_
  refine lv_iload C.1 C.2.1 dX12_print_166 (lv_at hl 0 rfl) ?_
  refine k_iadd (v := 36003) C (by decide) dX12_print_168 ?_
  refine lv_aload_n C.1 C.2.1 dX12_print_169 rfl (lv_at hl 3 rfl) ?_
  refine k_get (v := .ref a1) C hP 0 rfl rfl inlX12 29 (by decide) m_7_21 (sn (by decide) e0_29) dX12_print_170 ?_
  refine lv_iload C.1 C.2.1 dX12_print_173 (lv_at hl 0 rfl) ?_
  refine k_bld (v := 49) C hP 1 rfl (vin (by decide)) rfl dX12_print_175 ?_
  refine k_bst (ws' := [(a0, .inr (11, (s0.set 30 (.int 6)))), (a1, .inl (K 2, 240, .inl (upd (upd (upd (upd (upd (upd (upd (fun _ => 0) 0 48) 1 48) 2 48) 3 49) 4 32) 5 55) 6 32))), (a2, .inl (K 0, 3, .inl (fun _ => 0))), (a3, .inl (K 2, 108000, .inl (upd (upd (upd (upd f3 36000 48) 36001 48) 36002 48) 36003 49))), (a4, .inl (K 0, 900, .inl f4))]) (j := 36003) (x' := 49) C hP hD hS 3 rfl (vin (by decide)) (by decide) (by decide) rfl dX12_print_176 (fun H locs hP hD hS => ?_)
  refine lv_iinc (v := 4) (lv' := [(4, .int 4), (3, .int 300), (2, .int 1), (0, .ref a0), (1, .int 18)]) C.1 C.2.1 dX12_print_177 hl (k := 0) rfl (by decide) (by decide) rfl (fun ls hl => ?_)
  refine lv_goto (tgt := 149) C.1 C.2.1 dX12_print_180 (by decide) ?_
  refine lv_iload C.1 C.2.1 dX12_print_149 (lv_at hl 0 rfl) ?_
  refine lv_aload_n C.1 C.2.1 dX12_print_151 rfl (lv_at hl 3 rfl) ?_
  refine k_get (v := .int 6) C hP 0 rfl rfl inlX12 30 (by decide) m_42_8 (ss (sk n0 (by decide))) dX12_print_152 ?_
  refine lv_icmp_ge (tgt := 183) C.1 C.2.1 dX12_print_155 (by decide) (fun h => absurd h (by decide)) (fun _ => ?_)
  refine lv_aload_n C.1 C.2.1 dX12_print_158 rfl (lv_at hl 3 rfl) ?_
  refine k_get (v := .ref a3) C hP 0 rfl rfl inlX12 26 (by decide) m_7_18 (sn (by decide) e0_26) dX12_print_159 ?_
  refine lv_bipush (v := 120) C.1 C.2.1 dX12_print_162 (by decide) ?_
  refine lv_iload_n C.1 C.2.1 dX12_print_164 rfl (lv_at hl 1 rfl) ?_
  refine k_imul (v := 36000) C (by decide) dX12_print_165 ?_
  refine lv_iload C.1 C.2.1 dX12_print_166 (lv_at hl 0 rfl) ?_
  refine k_iadd (v := 36004) C (by decide) dX12_print_168 ?_
  refine lv_aload_n C.1 C.2.1 dX12_print_169 rfl (lv_at hl 3 rfl) ?_
  refine k_get (v := .ref a1) C hP 0 rfl rfl inlX12 29 (by decide) m_7_21 (sn (by decide) e0_29) dX12_print_170 ?_
  refine lv_iload C.1 C.2.1 dX12_print_173 (lv_at hl 0 rfl) ?_
  refine k_bld (v := 32) C hP 1 rfl (vin (by decide)) rfl dX12_print_175 ?_
  refine k_bst (ws' := [(a0, .inr (11, (s0.set 30 (.int 6)))), (a1, .inl (K 2, 240, .inl (upd (upd (upd (upd (upd (upd (upd (fun _ => 0) 0 48) 1 48) 2 48) 3 49) 4 32) 5 55) 6 32))), (a2, .inl (K 0, 3, .inl (fun _ => 0))), (a3, .inl (K 2, 108000, .inl (upd (upd (upd (upd (upd f3 36000 48) 36001 48) 36002 48) 36003 49) 36004 32))), (a4, .inl (K 0, 900, .inl f4))]) (j := 36004) (x' := 32) C hP hD hS 3 rfl (vin (by decide)) (by decide) (by decide) rfl dX12_print_176 (fun H locs hP hD hS => ?_)
  refine lv_iinc (v := 5) (lv' := [(4, .int 5), (3, .int 300), (2, .int 1), (0, .ref a0), (1, .int 18)]) C.1 C.2.1 dX12_print_177 hl (k := 0) rfl (by decide) (by decide) rfl (fun ls hl => ?_)
  refine lv_goto (tgt := 149) C.1 C.2.1 dX12_print_180 (by decide) ?_
  refine lv_iload C.1 C.2.1 dX12_print_149 (lv_at hl 0 rfl) ?_
  refine lv_aload_n C.1 C.2.1 dX12_print_151 rfl (lv_at hl 3 rfl) ?_
  refine k_get (v := .int 6) C hP 0 rfl rfl inlX12 30 (by decide) m_42_8 (ss (sk n0 (by decide))) dX12_print_152 ?_
  refine lv_icmp_ge (tgt := 183) C.1 C.2.1 dX12_print_155 (by decide) (fun h => absurd h (by decide)) (fun _ => ?_)
  refine lv_aload_n C.1 C.2.1 dX12_print_158 rfl (lv_at hl 3 rfl) ?_
  refine k_get (v := .ref a3) C hP 0 rfl rfl inlX12 26 (by decide) m_7_18 (sn (by decide) e0_26) dX12_print_159 ?_
  refine lv_bipush (v := 120) C.1 C.2.1 dX12_print_162 (by decide) ?_
  refine lv_iload_n C.1 C.2.1 dX12_print_164 rfl (lv_at hl 1 rfl) ?_
  refine k_imul (v := 36000) C (by decide) dX12_print_165 ?_
  refine lv_iload C.1 C.2.1 dX12_print_166 (lv_at hl 0 rfl) ?_
  refine k_iadd (v := 36005) C (by decide) dX12_print_168 ?_
  refine lv_aload_n C.1 C.2.1 dX12_print_169 rfl (lv_at hl 3 rfl) ?_
  refine k_get (v := .ref a1) C hP 0 rfl rfl inlX12 29 (by decide) m_7_21 (sn (by decide) e0_29) dX12_print_170 ?_
  refine lv_iload C.1 C.2.1 dX12_print_173 (lv_at hl 0 rfl) ?_
  refine k_bld (v := 55) C hP 1 rfl (vin (by decide)) rfl dX12_print_175 ?_
  refine k_bst (ws' := [(a0, .inr (11, (s0.set 30 (.int 6)))), (a1, .inl (K 2, 240, .inl (upd (upd (upd (upd (upd (upd (upd (fun _ => 0) 0 48) 1 48) 2 48) 3 49) 4 32) 5 55) 6 32))), (a2, .inl (K 0, 3, .inl (fun _ => 0))), (a3, .inl (K 2, 108000, .inl (upd (upd (upd (upd (upd (upd f3 36000 48) 36001 48) 36002 48) 36003 49) 36004 32) 36005 55))), (a4, .inl (K 0, 900, .inl f4))]) (j := 36005) (x' := 55) C hP hD hS 3 rfl (vin (by decide)) (by decide) (by decide) rfl dX12_print_176 (fun H locs hP hD hS => ?_)
  refine lv_iinc (v := 6) (lv' := [(4, .int 6), (3, .int 300), (2, .int 1), (0, .ref a0), (1, .int 18)]) C.1 C.2.1 dX12_print_177 hl (k := 0) rfl (by decide) (by decide) rfl (fun ls hl => ?_)
  refine lv_goto (tgt := 149) C.1 C.2.1 dX12_print_180 (by decide) ?_
  refine lv_iload C.1 C.2.1 dX12_print_149 (lv_at hl 0 rfl) ?_
  refine lv_aload_n C.1 C.2.1 dX12_print_151 rfl (lv_at hl 3 rfl) ?_
  refine k_get (v := .int 6) C hP 0 rfl rfl inlX12 30 (by decide) m_42_8 (ss (sk n0 (by decide))) dX12_print_152 ?_
  refine lv_icmp_ge (tgt := 183) C.1 C.2.1 dX12_print_155 (by decide) (fun _ => ?_) (fun h => absurd (by decide) h)
  refine lv_aload_n C.1 C.2.1 dX12_print_183 rfl (lv_at hl 3 rfl) ?_
  refine k_get (v := .ref a4) C hP 0 rfl rfl inlX12 27 (by decide) m_7_19 (sn (by decide) e0_27) dX12_print_184 ?_
  refine lv_iload_n C.1 C.2.1 dX12_print_187 rfl (lv_at hl 1 rfl) ?_
  refine lv_aload_n C.1 C.2.1 dX12_print_188 rfl (lv_at hl 3 rfl) ?_
  refine k_get (v := .int 6) C hP 0 rfl rfl inlX12 30 (by decide) m_42_8 (ss (sk n0 (by decide))) dX12_print_189 ?_
  refine k_ist (ws' := [(a0, .inr (11, (s0.set 30 (.int 6)))), (a1, .inl (K 2, 240, .inl (upd (upd (upd (upd (upd (upd (upd (fun _ => 0) 0 48) 1 48) 2 48) 3 49) 4 32) 5 55) 6 32))), (a2, .inl (K 0, 3, .inl (fun _ => 0))), (a3, .inl (K 2, 108000, .inl (upd (upd (upd (upd (upd (upd f3 36000 48) 36001 48) 36002 48) 36003 49) 36004 32) 36005 55))), (a4, .inl (K 0, 900, .inl (upd f4 300 6)))]) (j := 300) (x' := 6) C hP hD hS 4 rfl (vin (by decide)) (by decide) rfl rfl dX12_print_192 (fun H locs hP hD hS => ?_)
  refine lv_aload_n C.1 C.2.1 dX12_print_193 rfl (lv_at hl 3 rfl) ?_
  refine k_get (v := .ref a2) C hP 0 rfl rfl inlX12 28 (by decide) m_7_20 (sn (by decide) e0_28) dX12_print_194 ?_
  refine lv_iload_n C.1 C.2.1 dX12_print_197 rfl (lv_at hl 2 rfl) ?_
  refine lv_dup2_11 C.1 C.2.1 dX12_print_198 rfl rfl ?_
  refine k_ild (v := 0) C hP 2 rfl (vin (by decide)) rfl dX12_print_199 ?_
  refine lv_iconst (v := 1) C.1 C.2.1 dX12_print_200 (by decide) ?_
  refine k_iadd (v := 1) C (by decide) dX12_print_201 ?_
  refine k_ist (ws' := [(a0, .inr (11, (s0.set 30 (.int 6)))), (a1, .inl (K 2, 240, .inl (upd (upd (upd (upd (upd (upd (upd (fun _ => 0) 0 48) 1 48) 2 48) 3 49) 4 32) 5 55) 6 32))), (a2, .inl (K 0, 3, .inl (upd (fun _ => 0) 1 1))), (a3, .inl (K 2, 108000, .inl (upd (upd (upd (upd (upd (upd f3 36000 48) 36001 48) 36002 48) 36003 49) 36004 32) 36005 55))), (a4, .inl (K 0, 900, .inl (upd f4 300 6)))]) (j := 1) (x' := 1) C hP hD hS 2 rfl (vin (by decide)) (by decide) rfl rfl dX12_print_202 (fun H locs hP hD hS => ?_)
  exact k_vret C hr hlocks hP hD hS (fun _ => 0) [0, 1, 2, 3, 4] rfl rfl trivial (Nat.le_of_ble_eq_true rfl) (Nat.le_of_ble_eq_true rfl) dX12_print_203
set_option maxHeartbeats 4000000 in
set_option maxRecDepth 100000 in
theorem c_X12_sayError (l : Launch) (D : va_G) (K : Nat → ClassId) (a0 : Nat) (a1 : Nat) (a2 : Nat) (a3 : Nat) (a4 : Nat) (s0 : List Value) (n0 : s0.length = 94) (f3 : Nat → Int32) (f4 : Nat → Int32) (e0_67 : s0[67]? = some (.int 0)) (e0_29 : s0[29]? = some (.ref a1)) (e0_70 : s0[70]? = some (.int 7)) (e0_31 : s0[31]? = some (.int 0)) (e0_28 : s0[28]? = some (.ref a2)) (e0_26 : s0[26]? = some (.ref a3)) (e0_27 : s0[27]? = some (.ref a4)) : uMet l yX12_sayError cX12_sayError 2 none (rmD 2 0 0) D K X0 [.ref a0] [(a0, .inr (11, s0)), (a1, .inl (K 2, 240, .inl (fun _ => 0))), (a2, .inl (K 0, 3, .inl (fun _ => 0))), (a3, .inl (K 2, 108000, .inl f3)), (a4, .inl (K 0, 900, .inl f4))] (QV D K (fun (u : Nat → Nat) => True) (fun (u : Nat → Nat) => [(a0, .inr (11, (((((((((s0.set 30 (.int 0)).set 30 (.int 1)).set 30 (.int 2)).set 30 (.int 3)).set 30 (.int 4)).set 30 (.int 5)).set 30 (.int 6)).set 30 (.int 7)).set 30 (.int 6)))), (a1, .inl (K 2, 240, .inl (upd (upd (upd (upd (upd (upd (upd (fun _ => 0) 0 48) 1 48) 2 48) 3 49) 4 32) 5 55) 6 32))), (a2, .inl (K 0, 3, .inl (upd (fun _ => 0) 1 1))), (a3, .inl (K 2, 108000, .inl (upd (upd (upd (upd (upd (upd f3 36000 48) 36001 48) 36002 48) 36003 49) 36004 32) 36005 55))), (a4, .inl (K 0, 900, .inl (upd f4 300 6)))])) 0 0 := by
  refine k_met RX12 ⟨rfl, by decide +kernel⟩ (Nat.le_of_ble_eq_true rfl) ?_
  intro p e s m below meth c A ls C hX hr hlocks hin hA hP hD hS hl
  have hl : lv_has ls 2 [(0, .ref a0)] := hl
  refine lv_aload_n C.1 C.2.1 dX12_sayError_0 rfl (lv_at hl 0 rfl) ?_
  refine k_Vv (As := []) (rest := []) C hP hD hS hA (c_X12_begin l D K a0 s0 n0) X0_ok trivial (uwV m_42_4 m_42_5 m_42_6 m_1_5 m_42_7) (hdV 0 (by decide +kernel) rfl) ⟨Nat.le_of_ble_eq_true rfl, Nat.le_of_ble_eq_true rfl⟩ rfl rfl (ci := 11) rfl rfl (isC := [0]) (isR := [1, 2, 3, 4]) (wr := [(a1, .inl (K 2, 240, .inl (fun _ => 0))), (a2, .inl (K 0, 3, .inl (fun _ => 0))), (a3, .inl (K 2, 108000, .inl f3)), (a4, .inl (K 0, 900, .inl f4))]) ⟨rfl, rfl, rfl, rfl, by decide⟩ rfl hl.1 (Nat.le_of_ble_eq_true rfl) dX12_sayError_1 ⟨Nat.le_of_ble_eq_true rfl, Nat.le_of_ble_eq_true rfl⟩ (fun u_1 H locs hw hP hD hS => ?_)
  have hP : va_P D vwCl [(a1, .inl (K 2, 240, .inl (fun _ => 0))), (a2, .inl (K 0, 3, .inl (fun _ => 0))), (a3, .inl (K 2, 108000, .inl f3)), (a4, .inl (K 0, 900, .inl f4)), (a0, .inr (11, (s0.set 30 (.int 0))))] H := hP
  have hD : va_D A [(a1, .inl (K 2, 240, .inl (fun _ => 0))), (a2, .inl (K 0, 3, .inl (fun _ => 0))), (a3, .inl (K 2, 108000, .inl f3)), (a4, .inl (K 0, 900, .inl f4)), (a0, .inr (11, (s0.set 30 (.int 0))))] := hD
  refine lv_aload_n C.1 C.2.1 dX12_sayError_4 rfl (lv_at hl 0 rfl) ?_
  refine lv_aload_n C.1 C.2.1 dX12_sayError_5 rfl (lv_at hl 0 rfl) ?_
  refine k_get (v := .int 0) C hP 4 rfl rfl inlX12 67 (by decide) m_29_11 (sn (by decide) e0_67) dX12_sayError_6 ?_
  refine lv_iconst (v := 1) C.1 C.2.1 dX12_sayError_9 (by decide) ?_
  refine k_iadd (v := 1) C (by decide) dX12_sayError_10 ?_
  refine lv_i2l (v := 1) C.1 C.2.1 dX12_sayError_11 (by decide) ?_
  refine lv_iconst (v := 4) C.1 C.2.1 dX12_sayError_12 (by decide) ?_
  refine k_Vv (As := [.long 1, .int 4]) (rest := []) C hP hD hS hA (c_X12_sayDigits l D K a0 a1 ((s0.set 30 (.int 0))) (sl n0) (fun _ => 0) (sn (by decide) e0_29) (ss (sk n0 (by decide)))) X0_ok trivial (uwV m_42_9 m_42_10 m_42_11 m_1_5 m_42_12) (hdV 2 (by decide +kernel) rfl) ⟨Nat.le_of_ble_eq_true rfl, Nat.le_of_ble_eq_true rfl⟩ rfl rfl (ci := 11) rfl rfl (isC := [4, 0]) (isR := [1, 2, 3]) (wr := [(a2, .inl (K 0, 3, .inl (fun _ => 0))), (a3, .inl (K 2, 108000, .inl f3)), (a4, .inl (K 0, 900, .inl f4))]) ⟨rfl, rfl, rfl, rfl, by decide⟩ rfl hl.1 (Nat.le_of_ble_eq_true rfl) dX12_sayError_13 ⟨Nat.le_of_ble_eq_true rfl, Nat.le_of_ble_eq_true rfl⟩ (fun u_3 H locs hw hP hD hS => ?_)
  have hP : va_P D vwCl [(a2, .inl (K 0, 3, .inl (fun _ => 0))), (a3, .inl (K 2, 108000, .inl f3)), (a4, .inl (K 0, 900, .inl f4)), (a0, .inr (11, (((((s0.set 30 (.int 0)).set 30 (.int 1)).set 30 (.int 2)).set 30 (.int 3)).set 30 (.int 4)))), (a1, .inl (K 2, 240, .inl (upd (upd (upd (upd (fun _ => 0) 0 48) 1 48) 2 48) 3 49)))] H := hP
  have hD : va_D A [(a2, .inl (K 0, 3, .inl (fun _ => 0))), (a3, .inl (K 2, 108000, .inl f3)), (a4, .inl (K 0, 900, .inl f4)), (a0, .inr (11, (((((s0.set 30 (.int 0)).set 30 (.int 1)).set 30 (.int 2)).set 30 (.int 3)).set 30 (.int 4)))), (a1, .inl (K 2, 240, .inl (upd (upd (upd (upd (fun _ => 0) 0 48) 1 48) 2 48) 3 49)))] := hD
  refine lv_aload_n C.1 C.2.1 dX12_sayError_16 rfl (lv_at hl 0 rfl) ?_
  refine lv_bipush (v := 6) C.1 C.2.1 dX12_sayError_17 (by decide) ?_
  refine k_Vv (As := [.int 6]) (rest := []) C hP hD hS hA (c_X12_toColumn l D K a0 a1 ((((((s0.set 30 (.int 0)).set 30 (.int 1)).set 30 (.int 2)).set 30 (.int 3)).set 30 (.int 4))) (sl (sl (sl (sl (sl n0))))) (upd (upd (upd (upd (fun _ => 0) 0 48) 1 48) 2 48) 3 49) (ss (sk (sl (sl (sl (sl n0)))) (by decide))) (sn (by decide) (sn (by decide) (sn (by decide) (sn (by decide) (sn (by decide) e0_29)))))) X0_ok trivial (uwV m_42_17 m_42_18 m_42_19 m_1_5 m_42_20) (hdV 1 (by decide +kernel) rfl) ⟨Nat.le_of_ble_eq_true rfl, Nat.le_of_ble_eq_true rfl⟩ rfl rfl (ci := 11) rfl rfl (isC := [3, 4]) (isR := [0, 1, 2]) (wr := [(a2, .inl (K 0, 3, .inl (fun _ => 0))), (a3, .inl (K 2, 108000, .inl f3)), (a4, .inl (K 0, 900, .inl f4))]) ⟨rfl, rfl, rfl, rfl, by decide⟩ rfl hl.1 (Nat.le_of_ble_eq_true rfl) dX12_sayError_19 ⟨Nat.le_of_ble_eq_true rfl, Nat.le_of_ble_eq_true rfl⟩ (fun u_5 H locs hw hP hD hS => ?_)
  have hP : va_P D vwCl [(a2, .inl (K 0, 3, .inl (fun _ => 0))), (a3, .inl (K 2, 108000, .inl f3)), (a4, .inl (K 0, 900, .inl f4)), (a0, .inr (11, ((((((s0.set 30 (.int 0)).set 30 (.int 1)).set 30 (.int 2)).set 30 (.int 3)).set 30 (.int 4)).set 30 (.int 5)))), (a1, .inl (K 2, 240, .inl (upd (upd (upd (upd (upd (fun _ => 0) 0 48) 1 48) 2 48) 3 49) 4 32)))] H := hP
  have hD : va_D A [(a2, .inl (K 0, 3, .inl (fun _ => 0))), (a3, .inl (K 2, 108000, .inl f3)), (a4, .inl (K 0, 900, .inl f4)), (a0, .inr (11, ((((((s0.set 30 (.int 0)).set 30 (.int 1)).set 30 (.int 2)).set 30 (.int 3)).set 30 (.int 4)).set 30 (.int 5)))), (a1, .inl (K 2, 240, .inl (upd (upd (upd (upd (upd (fun _ => 0) 0 48) 1 48) 2 48) 3 49) 4 32)))] := hD
  refine lv_aload_n C.1 C.2.1 dX12_sayError_22 rfl (lv_at hl 0 rfl) ?_
  refine lv_aload_n C.1 C.2.1 dX12_sayError_23 rfl (lv_at hl 0 rfl) ?_
  refine k_get (v := .int 7) C hP 3 rfl rfl inlX12 70 (by decide) m_29_13 (sn (by decide) (sn (by decide) (sn (by decide) (sn (by decide) (sn (by decide) (sn (by decide) e0_70)))))) dX12_sayError_24 ?_
  refine lv_i2l (v := 7) C.1 C.2.1 dX12_sayError_27 (by decide) ?_
  refine lv_iconst (v := 1) C.1 C.2.1 dX12_sayError_28 (by decide) ?_
  refine k_Vv (As := [.long 7, .int 1]) (rest := []) C hP hD hS hA (c_X12_sayDigits_2 l D K a0 a1 (((((((s0.set 30 (.int 0)).set 30 (.int 1)).set 30 (.int 2)).set 30 (.int 3)).set 30 (.int 4)).set 30 (.int 5))) (sl (sl (sl (sl (sl (sl n0)))))) (upd (upd (upd (upd (upd (fun _ => 0) 0 48) 1 48) 2 48) 3 49) 4 32) (sn (by decide) (sn (by decide) (sn (by decide) (sn (by decide) (sn (by decide) (sn (by decide) e0_29)))))) (ss (sk (sl (sl (sl (sl (sl n0))))) (by decide)))) X0_ok trivial (uwV m_42_9 m_42_10 m_42_11 m_1_5 m_42_12) (hdV 2 (by decide +kernel) rfl) ⟨Nat.le_of_ble_eq_true rfl, Nat.le_of_ble_eq_true rfl⟩ rfl rfl (ci := 11) rfl rfl (isC := [3, 4]) (isR := [0, 1, 2]) (wr := [(a2, .inl (K 0, 3, .inl (fun _ => 0))), (a3, .inl (K 2, 108000, .inl f3)), (a4, .inl (K 0, 900, .inl f4))]) ⟨rfl, rfl, rfl, rfl, by decide⟩ rfl hl.1 (Nat.le_of_ble_eq_true rfl) dX12_sayError_29 ⟨Nat.le_of_ble_eq_true rfl, Nat.le_of_ble_eq_true rfl⟩ (fun u_7 H locs hw hP hD hS => ?_)
  have hP : va_P D vwCl [(a2, .inl (K 0, 3, .inl (fun _ => 0))), (a3, .inl (K 2, 108000, .inl f3)), (a4, .inl (K 0, 900, .inl f4)), (a0, .inr (11, (((((((s0.set 30 (.int 0)).set 30 (.int 1)).set 30 (.int 2)).set 30 (.int 3)).set 30 (.int 4)).set 30 (.int 5)).set 30 (.int 6)))), (a1, .inl (K 2, 240, .inl (upd (upd (upd (upd (upd (upd (fun _ => 0) 0 48) 1 48) 2 48) 3 49) 4 32) 5 55)))] H := hP
  have hD : va_D A [(a2, .inl (K 0, 3, .inl (fun _ => 0))), (a3, .inl (K 2, 108000, .inl f3)), (a4, .inl (K 0, 900, .inl f4)), (a0, .inr (11, (((((((s0.set 30 (.int 0)).set 30 (.int 1)).set 30 (.int 2)).set 30 (.int 3)).set 30 (.int 4)).set 30 (.int 5)).set 30 (.int 6)))), (a1, .inl (K 2, 240, .inl (upd (upd (upd (upd (upd (upd (fun _ => 0) 0 48) 1 48) 2 48) 3 49) 4 32) 5 55)))] := hD
  refine lv_aload_n C.1 C.2.1 dX12_sayError_32 rfl (lv_at hl 0 rfl) ?_
  refine lv_bipush (v := 8) C.1 C.2.1 dX12_sayError_33 (by decide) ?_
  refine k_Vv (As := [.int 8]) (rest := []) C hP hD hS hA (c_X12_toColumn_2 l D K a0 a1 ((((((((s0.set 30 (.int 0)).set 30 (.int 1)).set 30 (.int 2)).set 30 (.int 3)).set 30 (.int 4)).set 30 (.int 5)).set 30 (.int 6))) (sl (sl (sl (sl (sl (sl (sl n0))))))) (upd (upd (upd (upd (upd (upd (fun _ => 0) 0 48) 1 48) 2 48) 3 49) 4 32) 5 55) (ss (sk (sl (sl (sl (sl (sl (sl n0)))))) (by decide))) (sn (by decide) (sn (by decide) (sn (by decide) (sn (by decide) (sn (by decide) (sn (by decide) (sn (by decide) e0_29)))))))) X0_ok trivial (uwV m_42_17 m_42_18 m_42_19 m_1_5 m_42_20) (hdV 1 (by decide +kernel) rfl) ⟨Nat.le_of_ble_eq_true rfl, Nat.le_of_ble_eq_true rfl⟩ rfl rfl (ci := 11) rfl rfl (isC := [3, 4]) (isR := [0, 1, 2]) (wr := [(a2, .inl (K 0, 3, .inl (fun _ => 0))), (a3, .inl (K 2, 108000, .inl f3)), (a4, .inl (K 0, 900, .inl f4))]) ⟨rfl, rfl, rfl, rfl, by decide⟩ rfl hl.1 (Nat.le_of_ble_eq_true rfl) dX12_sayError_35 ⟨Nat.le_of_ble_eq_true rfl, Nat.le_of_ble_eq_true rfl⟩ (fun u_9 H locs hw hP hD hS => ?_)
  have hP : va_P D vwCl [(a2, .inl (K 0, 3, .inl (fun _ => 0))), (a3, .inl (K 2, 108000, .inl f3)), (a4, .inl (K 0, 900, .inl f4)), (a0, .inr (11, ((((((((s0.set 30 (.int 0)).set 30 (.int 1)).set 30 (.int 2)).set 30 (.int 3)).set 30 (.int 4)).set 30 (.int 5)).set 30 (.int 6)).set 30 (.int 7)))), (a1, .inl (K 2, 240, .inl (upd (upd (upd (upd (upd (upd (upd (fun _ => 0) 0 48) 1 48) 2 48) 3 49) 4 32) 5 55) 6 32)))] H := hP
  have hD : va_D A [(a2, .inl (K 0, 3, .inl (fun _ => 0))), (a3, .inl (K 2, 108000, .inl f3)), (a4, .inl (K 0, 900, .inl f4)), (a0, .inr (11, ((((((((s0.set 30 (.int 0)).set 30 (.int 1)).set 30 (.int 2)).set 30 (.int 3)).set 30 (.int 4)).set 30 (.int 5)).set 30 (.int 6)).set 30 (.int 7)))), (a1, .inl (K 2, 240, .inl (upd (upd (upd (upd (upd (upd (upd (fun _ => 0) 0 48) 1 48) 2 48) 3 49) 4 32) 5 55) 6 32)))] := hD
  refine lv_iconst (v := 1) C.1 C.2.1 dX12_sayError_38 (by decide) ?_
  refine lv_istore_n (lv' := [(1, .int 1), (0, .ref a0)]) C.1 C.2.1 dX12_sayError_39 rfl hl (by decide) rfl (fun ls hl => ?_)
  refine lv_iload_n C.1 C.2.1 dX12_sayError_40 rfl (lv_at hl 0 rfl) ?_
  refine lv_bipush (v := 81) C.1 C.2.1 dX12_sayError_41 (by decide) ?_
  refine lv_icmp_ge (tgt := 70) C.1 C.2.1 dX12_sayError_43 (by decide) (fun h => absurd h (by decide)) (fun _ => ?_)
  refine lv_aload_n C.1 C.2.1 dX12_sayError_46 rfl (lv_at hl 1 rfl) ?_
  refine k_get (v := .int 7) C hP 3 rfl rfl inlX12 70 (by decide) m_29_13 (sn (by decide) (sn (by decide) (sn (by decide) (sn (by decide) (sn (by decide) (sn (by decide) (sn (by decide) (sn (by decide) e0_70)))))))) dX12_sayError_47 ?_
  refine lv_bipush (v := 7) C.1 C.2.1 dX12_sayError_50 (by decide) ?_
  refine lv_icmp_eq (tgt := 70) C.1 C.2.1 dX12_sayError_52 (by decide) (fun _ => ?_) (fun h => absurd (by decide) h)
  refine lv_aload_n C.1 C.2.1 dX12_sayError_70 rfl (lv_at hl 1 rfl) ?_
  refine lv_bipush (v := 18) C.1 C.2.1 dX12_sayError_71 (by decide) ?_
  refine k_Vv (As := [.int 18]) (rest := []) C hP hD hS hA (c_X12_print l D K a0 a1 a2 a3 a4 (((((((((s0.set 30 (.int 0)).set 30 (.int 1)).set 30 (.int 2)).set 30 (.int 3)).set 30 (.int 4)).set 30 (.int 5)).set 30 (.int 6)).set 30 (.int 7))) (sl (sl (sl (sl (sl (sl (sl (sl n0)))))))) f3 f4 (sn (by decide) (sn (by decide) (sn (by decide) (sn (by decide) (sn (by decide) (sn (by decide) (sn (by decide) (sn (by decide) e0_31)))))))) (ss (sk (sl (sl (sl (sl (sl (sl (sl n0))))))) (by decide))) (sn (by decide) (sn (by decide) (sn (by decide) (sn (by decide) (sn (by decide) (sn (by decide) (sn (by decide) (sn (by decide) e0_29)))))))) (sn (by decide) (sn (by decide) (sn (by decide) (sn (by decide) (sn (by decide) (sn (by decide) (sn (by decide) (sn (by decide) e0_28)))))))) (sn (by decide) (sn (by decide) (sn (by decide) (sn (by decide) (sn (by decide) (sn (by decide) (sn (by decide) (sn (by decide) e0_26)))))))) (sn (by decide) (sn (by decide) (sn (by decide) (sn (by decide) (sn (by decide) (sn (by decide) (sn (by decide) (sn (by decide) e0_27))))))))) X0_ok trivial (uwV m_42_21 m_42_22 m_42_23 m_1_5 m_43_0) (hdV 1 (by decide +kernel) rfl) ⟨Nat.le_of_ble_eq_true rfl, Nat.le_of_ble_eq_true rfl⟩ rfl rfl (ci := 11) rfl rfl (isC := [3, 4, 0, 1, 2]) (isR := []) (wr := []) ⟨rfl, rfl, rfl, rfl, by decide⟩ rfl hl.1 (Nat.le_of_ble_eq_true rfl) dX12_sayError_73 ⟨Nat.le_of_ble_eq_true rfl, Nat.le_of_ble_eq_true rfl⟩ (fun u_11 H locs hw hP hD hS => ?_)
  have hP : va_P D vwCl [(a0, .inr (11, (((((((((s0.set 30 (.int 0)).set 30 (.int 1)).set 30 (.int 2)).set 30 (.int 3)).set 30 (.int 4)).set 30 (.int 5)).set 30 (.int 6)).set 30 (.int 7)).set 30 (.int 6)))), (a1, .inl (K 2, 240, .inl (upd (upd (upd (upd (upd (upd (upd (fun _ => 0) 0 48) 1 48) 2 48) 3 49) 4 32) 5 55) 6 32))), (a2, .inl (K 0, 3, .inl (upd (fun _ => 0) 1 1))), (a3, .inl (K 2, 108000, .inl (upd (upd (upd (upd (upd (upd f3 36000 48) 36001 48) 36002 48) 36003 49) 36004 32) 36005 55))), (a4, .inl (K 0, 900, .inl (upd f4 300 6)))] H := hP
  have hD : va_D A [(a0, .inr (11, (((((((((s0.set 30 (.int 0)).set 30 (.int 1)).set 30 (.int 2)).set 30 (.int 3)).set 30 (.int 4)).set 30 (.int 5)).set 30 (.int 6)).set 30 (.int 7)).set 30 (.int 6)))), (a1, .inl (K 2, 240, .inl (upd (upd (upd (upd (upd (upd (upd (fun _ => 0) 0 48) 1 48) 2 48) 3 49) 4 32) 5 55) 6 32))), (a2, .inl (K 0, 3, .inl (upd (fun _ => 0) 1 1))), (a3, .inl (K 2, 108000, .inl (upd (upd (upd (upd (upd (upd f3 36000 48) 36001 48) 36002 48) 36003 49) 36004 32) 36005 55))), (a4, .inl (K 0, 900, .inl (upd f4 300 6)))] := hD
  exact k_vret C hr hlocks hP hD hS (fun _ => 0) [0, 1, 2, 3, 4] rfl rfl trivial (Nat.le_of_ble_eq_true rfl) (Nat.le_of_ble_eq_true rfl) dX12_sayError_76
set_option maxHeartbeats 4000000 in
set_option maxRecDepth 100000 in
theorem c_X12_goOver (l : Launch) (D : va_G) (K : Nat → ClassId) (a0 : Nat) (a1 : Nat) (a2 : Nat) (a3 : Nat) (a4 : Nat) (a5 : Nat) (a6 : Nat) (a7 : Nat) (a8 : Nat) (a9 : Nat) (a10 : Nat) (s0 : List Value) (n0 : s0.length = 94) (f1 : Nat → Int32) (f2 : Nat → Int32) (f3 : Nat → Int64) (f4 : Nat → Int32) (f5 : Nat → Int32) (f6 : Nat → Int32) (f9 : Nat → Int32) (f10 : Nat → Int32) (e0_3 : s0[3]? = some (.ref a1)) (e0_4 : s0[4]? = some (.ref a2)) (e0_19 : s0[19]? = some (.ref a3)) (e0_20 : s0[20]? = some (.ref a4)) (e0_49 : s0[49]? = some (.ref a5)) (e0_59 : s0[59]? = some (.ref a6)) (e0_38 : s0[38]? = some (.int 0)) (e0_29 : s0[29]? = some (.ref a7)) (e0_31 : s0[31]? = some (.int 0)) (e0_28 : s0[28]? = some (.ref a8)) (e0_26 : s0[26]? = some (.ref a9)) (e0_27 : s0[27]? = some (.ref a10)) : uMet l yX12_goOver cX12_goOver 3 (some .int) (rmD 3 0 0) D K X0 [.ref a0] [(a0, .inr (11, s0)), (a1, .inl (K 0, 7999, .inl f1)), (a2, .inl (K 0, 9, .inl f2)), (a3, .inl (K 1, 20, .inr (.inl f3))), (a4, .inl (K 3, 20, .inl f4)), (a5, .inl (K 3, 7999, .inl f5)), (a6, .inl (K 3, 10, .inl f6)), (a7, .inl (K 2, 240, .inl (fun _ => 0))), (a8, .inl (K 0, 3, .inl (fun _ => 0))), (a9, .inl (K 2, 108000, .inl f9)), (a10, .inl (K 0, 900, .inl f10))] (QI D K (fun (r : Int32) (u : Nat → Nat) => r = 1) (fun (u : Nat → Nat) => [(a0, .inr (11, (((((((((((((((((((((((((((((((s0.set 5 (.int 0)).set 6 (.int 1)).set 7 (.int 0)).set 8 (.long 0)).set 9 (.int 9)).set 10 (.int 0)).set 11 (.int 0)).set 12 (.int 0)).set 91 (.int 0)).set 42 (.int 0)).set 70 (.int 0)).set 47 (.int 0)).set 48 (.int 0)).set 45 (.int 0)).set 52 (.int 0)).set 60 (.int 0)).set 41 (.int 0)).set 43 (.int 0)).set 67 (.int 0)).set 70 (.int 7)).set 43 (.int 7)).set 30 (.int 0)).set 30 (.int 1)).set 30 (.int 2)).set 30 (.int 3)).set 30 (.int 4)).set 30 (.int 5)).set 30 (.int 6)).set 30 (.int 7)).set 30 (.int 6)).set 67 (.int 1)))), (a1, .inl (K 0, 7999, .inl (fun _ => 0))), (a2, .inl (K 0, 9, .inl (fun _ => 0))), (a3, .inl (K 1, 20, .inr (.inl (vp_updL (vp_updL (vp_updL (vp_updL (vp_updL (vp_updL (vp_updL (vp_updL (vp_updL (vp_updL (vp_updL (vp_updL (vp_updL (vp_updL (vp_updL (vp_updL (vp_updL (vp_updL (vp_updL (vp_updL f3 0 0) 1 0) 2 0) 3 0) 4 0) 5 0) 6 0) 7 0) 8 0) 9 0) 10 0) 11 0) 12 0) 13 0) 14 0) 15 0) 16 0) 17 0) 18 0) 19 0)))), (a4, .inl (K 3, 20, .inl (upd (upd (upd (upd (upd (upd (upd (upd (upd (upd (upd (upd (upd (upd (upd (upd (upd (upd (upd (upd f4 0 0) 1 0) 2 0) 3 0) 4 0) 5 0) 6 0) 7 0) 8 0) 9 0) 10 0) 11 0) 12 0) 13 0) 14 0) 15 0) 16 0) 17 0) 18 0) 19 0))), (a5, .inl (K 3, 7999, .inl (fun _ => 0))), (a6, .inl (K 3, 10, .inl (fun _ => 0))), (a7, .inl (K 2, 240, .inl (upd (upd (upd (upd (upd (upd (upd (fun _ => 0) 0 48) 1 48) 2 48) 3 49) 4 32) 5 55) 6 32))), (a8, .inl (K 0, 3, .inl (upd (fun _ => 0) 1 1))), (a9, .inl (K 2, 108000, .inl (upd (upd (upd (upd (upd (upd f9 36000 48) 36001 48) 36002 48) 36003 49) 36004 32) 36005 55))), (a10, .inl (K 0, 900, .inl (upd f10 300 6)))])) 0 0 := by
  refine k_met RX12 ⟨rfl, by decide +kernel⟩ (Nat.le_of_ble_eq_true rfl) ?_
  intro p e s m below meth c A ls C hX hr hlocks hin hA hP hD hS hl
  have hl : lv_has ls 3 [(0, .ref a0)] := hl
  refine lv_aload_n C.1 C.2.1 dX12_goOver_0 rfl (lv_at hl 0 rfl) ?_
  refine k_Vv (As := []) (rest := []) C hP hD hS hA (c_X12_clearMachine l D K a0 a1 a2 a3 a4 s0 n0 f1 f2 f3 f4 e0_3 e0_4 e0_19 e0_20) X0_ok trivial (uwV m_29_17 m_29_18 m_29_19 m_1_5 m_29_20) (hdV 0 (by decide +kernel) rfl) ⟨Nat.le_of_ble_eq_true rfl, Nat.le_of_ble_eq_true rfl⟩ rfl rfl (ci := 11) rfl rfl (isC := [0, 1, 2, 3, 4]) (isR := [5, 6, 7, 8, 9, 10]) (wr := [(a5, .inl (K 3, 7999, .inl f5)), (a6, .inl (K 3, 10, .inl f6)), (a7, .inl (K 2, 240, .inl (fun _ => 0))), (a8, .inl (K 0, 3, .inl (fun _ => 0))), (a9, .inl (K 2, 108000, .inl f9)), (a10, .inl (K 0, 900, .inl f10))]) ⟨rfl, rfl, rfl, rfl, by decide⟩ rfl hl.1 (Nat.le_of_ble_eq_true rfl) dX12_goOver_1 ⟨Nat.le_of_ble_eq_true rfl, Nat.le_of_ble_eq_true rfl⟩ (fun u_1 H locs hw hP hD hS => ?_)
  have hP : va_P D vwCl [(a5, .inl (K 3, 7999, .inl f5)), (a6, .inl (K 3, 10, .inl f6)), (a7, .inl (K 2, 240, .inl (fun _ => 0))), (a8, .inl (K 0, 3, .inl (fun _ => 0))), (a9, .inl (K 2, 108000, .inl f9)), (a10, .inl (K 0, 900, .inl f10)), (a0, .inr (11, (((((((((s0.set 5 (.int 0)).set 6 (.int 1)).set 7 (.int 0)).set 8 (.long 0)).set 9 (.int 9)).set 10 (.int 0)).set 11 (.int 0)).set 12 (.int 0)).set 91 (.int 0)))), (a1, .inl (K 0, 7999, .inl (fun _ => 0))), (a2, .inl (K 0, 9, .inl (fun _ => 0))), (a3, .inl (K 1, 20, .inr (.inl (vp_updL (vp_updL (vp_updL (vp_updL (vp_updL (vp_updL (vp_updL (vp_updL (vp_updL (vp_updL (vp_updL (vp_updL (vp_updL (vp_updL (vp_updL (vp_updL (vp_updL (vp_updL (vp_updL (vp_updL f3 0 0) 1 0) 2 0) 3 0) 4 0) 5 0) 6 0) 7 0) 8 0) 9 0) 10 0) 11 0) 12 0) 13 0) 14 0) 15 0) 16 0) 17 0) 18 0) 19 0)))), (a4, .inl (K 3, 20, .inl (upd (upd (upd (upd (upd (upd (upd (upd (upd (upd (upd (upd (upd (upd (upd (upd (upd (upd (upd (upd f4 0 0) 1 0) 2 0) 3 0) 4 0) 5 0) 6 0) 7 0) 8 0) 9 0) 10 0) 11 0) 12 0) 13 0) 14 0) 15 0) 16 0) 17 0) 18 0) 19 0)))] H := hP
  have hD : va_D A [(a5, .inl (K 3, 7999, .inl f5)), (a6, .inl (K 3, 10, .inl f6)), (a7, .inl (K 2, 240, .inl (fun _ => 0))), (a8, .inl (K 0, 3, .inl (fun _ => 0))), (a9, .inl (K 2, 108000, .inl f9)), (a10, .inl (K 0, 900, .inl f10)), (a0, .inr (11, (((((((((s0.set 5 (.int 0)).set 6 (.int 1)).set 7 (.int 0)).set 8 (.long 0)).set 9 (.int 9)).set 10 (.int 0)).set 11 (.int 0)).set 12 (.int 0)).set 91 (.int 0)))), (a1, .inl (K 0, 7999, .inl (fun _ => 0))), (a2, .inl (K 0, 9, .inl (fun _ => 0))), (a3, .inl (K 1, 20, .inr (.inl (vp_updL (vp_updL (vp_updL (vp_updL (vp_updL (vp_updL (vp_updL (vp_updL (vp_updL (vp_updL (vp_updL (vp_updL (vp_updL (vp_updL (vp_updL (vp_updL (vp_updL (vp_updL (vp_updL (vp_updL f3 0 0) 1 0) 2 0) 3 0) 4 0) 5 0) 6 0) 7 0) 8 0) 9 0) 10 0) 11 0) 12 0) 13 0) 14 0) 15 0) 16 0) 17 0) 18 0) 19 0)))), (a4, .inl (K 3, 20, .inl (upd (upd (upd (upd (upd (upd (upd (upd (upd (upd (upd (upd (upd (upd (upd (upd (upd (upd (upd (upd f4 0 0) 1 0) 2 0) 3 0) 4 0) 5 0) 6 0) 7 0) 8 0) 9 0) 10 0) 11 0) 12 0) 13 0) 14 0) 15 0) 16 0) 17 0) 18 0) 19 0)))] := hD
  refine lv_aload_n C.1 C.2.1 dX12_goOver_4 rfl (lv_at hl 0 rfl) ?_
  refine k_Vv (As := []) (rest := []) C hP hD hS hA (c_X12_clearAssembling l D K a0 a5 a6 ((((((((((s0.set 5 (.int 0)).set 6 (.int 1)).set 7 (.int 0)).set 8 (.long 0)).set 9 (.int 9)).set 10 (.int 0)).set 11 (.int 0)).set 12 (.int 0)).set 91 (.int 0))) (sl (sl (sl (sl (sl (sl (sl (sl (sl n0))))))))) f5 f6 (sn (by decide) (sn (by decide) (sn (by decide) (sn (by decide) (sn (by decide) (sn (by decide) (sn (by decide) (sn (by decide) (sn (by decide) e0_49))))))))) (sn (by decide) (sn (by decide) (sn (by decide) (sn (by decide) (sn (by decide) (sn (by decide) (sn (by decide) (sn (by decide) (sn (by decide) e0_59))))))))) (sn (by decide) (sn (by decide) (sn (by decide) (sn (by decide) (sn (by decide) (sn (by decide) (sn (by decide) (sn (by decide) (sn (by decide) e0_38)))))))))) X0_ok trivial (uwV m_30_12 m_30_13 m_30_14 m_1_5 m_30_15) (hdV 0 (by decide +kernel) rfl) ⟨Nat.le_of_ble_eq_true rfl, Nat.le_of_ble_eq_true rfl⟩ rfl rfl (ci := 11) rfl rfl (isC := [6, 0, 1]) (isR := [2, 3, 4, 5, 7, 8, 9, 10]) (wr := [(a7, .inl (K 2, 240, .inl (fun _ => 0))), (a8, .inl (K 0, 3, .inl (fun _ => 0))), (a9, .inl (K 2, 108000, .inl f9)), (a10, .inl (K 0, 900, .inl f10)), (a1, .inl (K 0, 7999, .inl (fun _ => 0))), (a2, .inl (K 0, 9, .inl (fun _ => 0))), (a3, .inl (K 1, 20, .inr (.inl (vp_updL (vp_updL (vp_updL (vp_updL (vp_updL (vp_updL (vp_updL (vp_updL (vp_updL (vp_updL (vp_updL (vp_updL (vp_updL (vp_updL (vp_updL (vp_updL (vp_updL (vp_updL (vp_updL (vp_updL f3 0 0) 1 0) 2 0) 3 0) 4 0) 5 0) 6 0) 7 0) 8 0) 9 0) 10 0) 11 0) 12 0) 13 0) 14 0) 15 0) 16 0) 17 0) 18 0) 19 0)))), (a4, .inl (K 3, 20, .inl (upd (upd (upd (upd (upd (upd (upd (upd (upd (upd (upd (upd (upd (upd (upd (upd (upd (upd (upd (upd f4 0 0) 1 0) 2 0) 3 0) 4 0) 5 0) 6 0) 7 0) 8 0) 9 0) 10 0) 11 0) 12 0) 13 0) 14 0) 15 0) 16 0) 17 0) 18 0) 19 0)))]) ⟨rfl, rfl, rfl, rfl, by decide⟩ rfl hl.1 (Nat.le_of_ble_eq_true rfl) dX12_goOver_5 ⟨Nat.le_of_ble_eq_true rfl, Nat.le_of_ble_eq_true rfl⟩ (fun u_3 H locs hw hP hD hS => ?_)
  have hP : va_P D vwCl [(a7, .inl (K 2, 240, .inl (fun _ => 0))), (a8, .inl (K 0, 3, .inl (fun _ => 0))), (a9, .inl (K 2, 108000, .inl f9)), (a10, .inl (K 0, 900, .inl f10)), (a1, .inl (K 0, 7999, .inl (fun _ => 0))), (a2, .inl (K 0, 9, .inl (fun _ => 0))), (a3, .inl (K 1, 20, .inr (.inl (vp_updL (vp_updL (vp_updL (vp_updL (vp_updL (vp_updL (vp_updL (vp_updL (vp_updL (vp_updL (vp_updL (vp_updL (vp_updL (vp_updL (vp_updL (vp_updL (vp_updL (vp_updL (vp_updL (vp_updL f3 0 0) 1 0) 2 0) 3 0) 4 0) 5 0) 6 0) 7 0) 8 0) 9 0) 10 0) 11 0) 12 0) 13 0) 14 0) 15 0) 16 0) 17 0) 18 0) 19 0)))), (a4, .inl (K 3, 20, .inl (upd (upd (upd (upd (upd (upd (upd (upd (upd (upd (upd (upd (upd (upd (upd (upd (upd (upd (upd (upd f4 0 0) 1 0) 2 0) 3 0) 4 0) 5 0) 6 0) 7 0) 8 0) 9 0) 10 0) 11 0) 12 0) 13 0) 14 0) 15 0) 16 0) 17 0) 18 0) 19 0))), (a0, .inr (11, (((((((((((((((((s0.set 5 (.int 0)).set 6 (.int 1)).set 7 (.int 0)).set 8 (.long 0)).set 9 (.int 9)).set 10 (.int 0)).set 11 (.int 0)).set 12 (.int 0)).set 91 (.int 0)).set 42 (.int 0)).set 70 (.int 0)).set 47 (.int 0)).set 48 (.int 0)).set 45 (.int 0)).set 52 (.int 0)).set 60 (.int 0)).set 41 (.int 0)))), (a5, .inl (K 3, 7999, .inl (fun _ => 0))), (a6, .inl (K 3, 10, .inl (fun _ => 0)))] H := hP
  have hD : va_D A [(a7, .inl (K 2, 240, .inl (fun _ => 0))), (a8, .inl (K 0, 3, .inl (fun _ => 0))), (a9, .inl (K 2, 108000, .inl f9)), (a10, .inl (K 0, 900, .inl f10)), (a1, .inl (K 0, 7999, .inl (fun _ => 0))), (a2, .inl (K 0, 9, .inl (fun _ => 0))), (a3, .inl (K 1, 20, .inr (.inl (vp_updL (vp_updL (vp_updL (vp_updL (vp_updL (vp_updL (vp_updL (vp_updL (vp_updL (vp_updL (vp_updL (vp_updL (vp_updL (vp_updL (vp_updL (vp_updL (vp_updL (vp_updL (vp_updL (vp_updL f3 0 0) 1 0) 2 0) 3 0) 4 0) 5 0) 6 0) 7 0) 8 0) 9 0) 10 0) 11 0) 12 0) 13 0) 14 0) 15 0) 16 0) 17 0) 18 0) 19 0)))), (a4, .inl (K 3, 20, .inl (upd (upd (upd (upd (upd (upd (upd (upd (upd (upd (upd (upd (upd (upd (upd (upd (upd (upd (upd (upd f4 0 0) 1 0) 2 0) 3 0) 4 0) 5 0) 6 0) 7 0) 8 0) 9 0) 10 0) 11 0) 12 0) 13 0) 14 0) 15 0) 16 0) 17 0) 18 0) 19 0))), (a0, .inr (11, (((((((((((((((((s0.set 5 (.int 0)).set 6 (.int 1)).set 7 (.int 0)).set 8 (.long 0)).set 9 (.int 9)).set 10 (.int 0)).set 11 (.int 0)).set 12 (.int 0)).set 91 (.int 0)).set 42 (.int 0)).set 70 (.int 0)).set 47 (.int 0)).set 48 (.int 0)).set 45 (.int 0)).set 52 (.int 0)).set 60 (.int 0)).set 41 (.int 0)))), (a5, .inl (K 3, 7999, .inl (fun _ => 0))), (a6, .inl (K 3, 10, .inl (fun _ => 0)))] := hD
  refine lv_iconst (v := 0) C.1 C.2.1 dX12_goOver_8 (by decide) ?_
  refine lv_istore_n (lv' := [(1, .int 0), (0, .ref a0)]) C.1 C.2.1 dX12_goOver_9 rfl hl (by decide) rfl (fun ls hl => ?_)
  refine lv_iconst (v := 0) C.1 C.2.1 dX12_goOver_10 (by decide) ?_
  refine lv_istore_n (lv' := [(2, .int 0), (1, .int 0), (0, .ref a0)]) C.1 C.2.1 dX12_goOver_11 rfl hl (by decide) rfl (fun ls hl => ?_)
  refine lv_aload_n C.1 C.2.1 dX12_goOver_12 rfl (lv_at hl 2 rfl) ?_
  refine lv_iconst (v := 0) C.1 C.2.1 dX12_goOver_13 (by decide) ?_
  refine k_put (ws' := [(a7, .inl (K 2, 240, .inl (fun _ => 0))), (a8, .inl (K 0, 3, .inl (fun _ => 0))), (a9, .inl (K 2, 108000, .inl f9)), (a10, .inl (K 0, 900, .inl f10)), (a1, .inl (K 0, 7999, .inl (fun _ => 0))), (a2, .inl (K 0, 9, .inl (fun _ => 0))), (a3, .inl (K 1, 20, .inr (.inl (vp_updL (vp_updL (vp_updL (vp_updL (vp_updL (vp_updL (vp_updL (vp_updL (vp_updL (vp_updL (vp_updL (vp_updL (vp_updL (vp_updL (vp_updL (vp_updL (vp_updL (vp_updL (vp_updL (vp_updL f3 0 0) 1 0) 2 0) 3 0) 4 0) 5 0) 6 0) 7 0) 8 0) 9 0) 10 0) 11 0) 12 0) 13 0) 14 0) 15 0) 16 0) 17 0) 18 0) 19 0)))), (a4, .inl (K 3, 20, .inl (upd (upd (upd (upd (upd (upd (upd (upd (upd (upd (upd (upd (upd (upd (upd (upd (upd (upd (upd (upd f4 0 0) 1 0) 2 0) 3 0) 4 0) 5 0) 6 0) 7 0) 8 0) 9 0) 10 0) 11 0) 12 0) 13 0) 14 0) 15 0) 16 0) 17 0) 18 0) 19 0))), (a0, .inr (11, ((((((((((((((((((s0.set 5 (.int 0)).set 6 (.int 1)).set 7 (.int 0)).set 8 (.long 0)).set 9 (.int 9)).set 10 (.int 0)).set 11 (.int 0)).set 12 (.int 0)).set 91 (.int 0)).set 42 (.int 0)).set 70 (.int 0)).set 47 (.int 0)).set 48 (.int 0)).set 45 (.int 0)).set 52 (.int 0)).set 60 (.int 0)).set 41 (.int 0)).set 43 (.int 0)))), (a5, .inl (K 3, 7999, .inl (fun _ => 0))), (a6, .inl (K 3, 10, .inl (fun _ => 0)))]) (v := .int 0) C hP hD hS 8 rfl rfl inlX12 tyX12_ok nmX12 43 (by decide) m_29_14 rfl rfl rfl (sl (sl (sl (sl (sl (sl (sl (sl (sl (sl (sl (sl (sl (sl (sl (sl (sl n0))))))))))))))))) rfl dX12_goOver_14 (fun H locs hP hD hS => ?_)
  refine lv_aload_n C.1 C.2.1 dX12_goOver_17 rfl (lv_at hl 2 rfl) ?_
  refine lv_iconst (v := 0) C.1 C.2.1 dX12_goOver_18 (by decide) ?_
  refine k_put (ws' := [(a7, .inl (K 2, 240, .inl (fun _ => 0))), (a8, .inl (K 0, 3, .inl (fun _ => 0))), (a9, .inl (K 2, 108000, .inl f9)), (a10, .inl (K 0, 900, .inl f10)), (a1, .inl (K 0, 7999, .inl (fun _ => 0))), (a2, .inl (K 0, 9, .inl (fun _ => 0))), (a3, .inl (K 1, 20, .inr (.inl (vp_updL (vp_updL (vp_updL (vp_updL (vp_updL (vp_updL (vp_updL (vp_updL (vp_updL (vp_updL (vp_updL (vp_updL (vp_updL (vp_updL (vp_updL (vp_updL (vp_updL (vp_updL (vp_updL (vp_updL f3 0 0) 1 0) 2 0) 3 0) 4 0) 5 0) 6 0) 7 0) 8 0) 9 0) 10 0) 11 0) 12 0) 13 0) 14 0) 15 0) 16 0) 17 0) 18 0) 19 0)))), (a4, .inl (K 3, 20, .inl (upd (upd (upd (upd (upd (upd (upd (upd (upd (upd (upd (upd (upd (upd (upd (upd (upd (upd (upd (upd f4 0 0) 1 0) 2 0) 3 0) 4 0) 5 0) 6 0) 7 0) 8 0) 9 0) 10 0) 11 0) 12 0) 13 0) 14 0) 15 0) 16 0) 17 0) 18 0) 19 0))), (a0, .inr (11, (((((((((((((((((((s0.set 5 (.int 0)).set 6 (.int 1)).set 7 (.int 0)).set 8 (.long 0)).set 9 (.int 9)).set 10 (.int 0)).set 11 (.int 0)).set 12 (.int 0)).set 91 (.int 0)).set 42 (.int 0)).set 70 (.int 0)).set 47 (.int 0)).set 48 (.int 0)).set 45 (.int 0)).set 52 (.int 0)).set 60 (.int 0)).set 41 (.int 0)).set 43 (.int 0)).set 67 (.int 0)))), (a5, .inl (K 3, 7999, .inl (fun _ => 0))), (a6, .inl (K 3, 10, .inl (fun _ => 0)))]) (v := .int 0) C hP hD hS 8 rfl rfl inlX12 tyX12_ok nmX12 67 (by decide) m_29_11 rfl rfl rfl (sl (sl (sl (sl (sl (sl (sl (sl (sl (sl (sl (sl (sl (sl (sl (sl (sl (sl n0)))))))))))))))))) rfl dX12_goOver_19 (fun H locs hP hD hS => ?_)
  refine lv_aload_n C.1 C.2.1 dX12_goOver_22 rfl (lv_at hl 2 rfl) ?_
  refine k_get (v := .int 0) C hP 8 rfl rfl inlX12 67 (by decide) m_29_11 (ss (sk (sl (sl (sl (sl (sl (sl (sl (sl (sl (sl (sl (sl (sl (sl (sl (sl (sl (sl n0)))))))))))))))))) (by decide))) dX12_goOver_23 ?_
  refine lv_aload_n C.1 C.2.1 dX12_goOver_26 rfl (lv_at hl 2 rfl) ?_
  refine k_get (v := .int 0) C hP 8 rfl rfl inlX12 41 (by decide) m_29_12 (sn (by decide) (sn (by decide) (ss (sk (sl (sl (sl (sl (sl (sl (sl (sl (sl (sl (sl (sl (sl (sl (sl (sl n0)))))))))))))))) (by decide))))) dX12_goOver_27 ?_
  refine lv_icmp_gt (tgt := 130) C.1 C.2.1 dX12_goOver_30 (by decide) (fun h => absurd h (by decide)) (fun _ => ?_)
  refine lv_iload_n C.1 C.2.1 dX12_goOver_33 rfl (lv_at hl 1 rfl) ?_
  refine lv_if_ne (tgt := 130) C.1 C.2.1 dX12_goOver_34 (by decide) (fun h => absurd h (by decide)) (fun _ => ?_)
  refine lv_aload_n C.1 C.2.1 dX12_goOver_37 rfl (lv_at hl 2 rfl) ?_
  refine k_get (v := .int 0) C hP 8 rfl rfl inlX12 67 (by decide) m_29_11 (ss (sk (sl (sl (sl (sl (sl (sl (sl (sl (sl (sl (sl (sl (sl (sl (sl (sl (sl (sl n0)))))))))))))))))) (by decide))) dX12_goOver_38 ?_
  refine lv_aload_n C.1 C.2.1 dX12_goOver_41 rfl (lv_at hl 2 rfl) ?_
  refine k_get (v := .int 0) C hP 8 rfl rfl inlX12 41 (by decide) m_29_12 (sn (by decide) (sn (by decide) (ss (sk (sl (sl (sl (sl (sl (sl (sl (sl (sl (sl (sl (sl (sl (sl (sl (sl n0)))))))))))))))) (by decide))))) dX12_goOver_42 ?_
  refine lv_icmp_ge (tgt := 59) C.1 C.2.1 dX12_goOver_45 (by decide) (fun _ => ?_) (fun h => absurd (by decide) h)
  refine lv_iconst (v := 0) C.1 C.2.1 dX12_goOver_59 (by decide) ?_
  refine lv_istore_n (lv' := [(1, .int 0), (2, .int 0), (0, .ref a0)]) C.1 C.2.1 dX12_goOver_60 rfl hl (by decide) rfl (fun ls hl => ?_)
  refine lv_aload_n C.1 C.2.1 dX12_goOver_61 rfl (lv_at hl 2 rfl) ?_
  refine k_get (v := .int 0) C hP 8 rfl rfl inlX12 67 (by decide) m_29_11 (ss (sk (sl (sl (sl (sl (sl (sl (sl (sl (sl (sl (sl (sl (sl (sl (sl (sl (sl (sl n0)))))))))))))))))) (by decide))) dX12_goOver_62 ?_
  refine lv_aload_n C.1 C.2.1 dX12_goOver_65 rfl (lv_at hl 2 rfl) ?_
  refine k_get (v := .int 0) C hP 8 rfl rfl inlX12 41 (by decide) m_29_12 (sn (by decide) (sn (by decide) (ss (sk (sl (sl (sl (sl (sl (sl (sl (sl (sl (sl (sl (sl (sl (sl (sl (sl n0)))))))))))))))) (by decide))))) dX12_goOver_66 ?_
  refine lv_icmp_ne (tgt := 78) C.1 C.2.1 dX12_goOver_69 (by decide) (fun h => absurd h (by decide)) (fun _ => ?_)
  refine lv_aload_n C.1 C.2.1 dX12_goOver_72 rfl (lv_at hl 2 rfl) ?_
  refine lv_bipush (v := 7) C.1 C.2.1 dX12_goOver_73 (by decide) ?_
  refine k_put (ws' := [(a7, .inl (K 2, 240, .inl (fun _ => 0))), (a8, .inl (K 0, 3, .inl (fun _ => 0))), (a9, .inl (K 2, 108000, .inl f9)), (a10, .inl (K 0, 900, .inl f10)), (a1, .inl (K 0, 7999, .inl (fun _ => 0))), (a2, .inl (K 0, 9, .inl (fun _ => 0))), (a3, .inl (K 1, 20, .inr (.inl (vp_updL (vp_updL (vp_updL (vp_updL (vp_updL (vp_updL (vp_updL (vp_updL (vp_updL (vp_updL (vp_updL (vp_updL (vp_updL (vp_updL (vp_updL (vp_updL (vp_updL (vp_updL (vp_updL (vp_updL f3 0 0) 1 0) 2 0) 3 0) 4 0) 5 0) 6 0) 7 0) 8 0) 9 0) 10 0) 11 0) 12 0) 13 0) 14 0) 15 0) 16 0) 17 0) 18 0) 19 0)))), (a4, .inl (K 3, 20, .inl (upd (upd (upd (upd (upd (upd (upd (upd (upd (upd (upd (upd (upd (upd (upd (upd (upd (upd (upd (upd f4 0 0) 1 0) 2 0) 3 0) 4 0) 5 0) 6 0) 7 0) 8 0) 9 0) 10 0) 11 0) 12 0) 13 0) 14 0) 15 0) 16 0) 17 0) 18 0) 19 0))), (a0, .inr (11, ((((((((((((((((((((s0.set 5 (.int 0)).set 6 (.int 1)).set 7 (.int 0)).set 8 (.long 0)).set 9 (.int 9)).set 10 (.int 0)).set 11 (.int 0)).set 12 (.int 0)).set 91 (.int 0)).set 42 (.int 0)).set 70 (.int 0)).set 47 (.int 0)).set 48 (.int 0)).set 45 (.int 0)).set 52 (.int 0)).set 60 (.int 0)).set 41 (.int 0)).set 43 (.int 0)).set 67 (.int 0)).set 70 (.int 7)))), (a5, .inl (K 3, 7999, .inl (fun _ => 0))), (a6, .inl (K 3, 10, .inl (fun _ => 0)))]) (v := .int 7) C hP hD hS 8 rfl rfl inlX12 tyX12_ok nmX12 70 (by decide) m_29_13 rfl rfl rfl (sl (sl (sl (sl (sl (sl (sl (sl (sl (sl (sl (sl (sl (sl (sl (sl (sl (sl (sl n0))))))))))))))))))) rfl dX12_goOver_75 (fun H locs hP hD hS => ?_)
  refine lv_aload_n C.1 C.2.1 dX12_goOver_78 rfl (lv_at hl 2 rfl) ?_
  refine k_get (v := .int 7) C hP 8 rfl rfl inlX12 70 (by decide) m_29_13 (ss (sk (sl (sl (sl (sl (sl (sl (sl (sl (sl (sl (sl (sl (sl (sl (sl (sl (sl (sl (sl n0))))))))))))))))))) (by decide))) dX12_goOver_79 ?_
  refine lv_if_ne (tgt := 88) C.1 C.2.1 dX12_goOver_82 (by decide) (fun _ => ?_) (fun h => absurd h (by decide))
  refine lv_aload_n C.1 C.2.1 dX12_goOver_88 rfl (lv_at hl 2 rfl) ?_
  refine lv_aload_n C.1 C.2.1 dX12_goOver_89 rfl (lv_at hl 2 rfl) ?_
  refine k_get (v := .int 0) C hP 8 rfl rfl inlX12 43 (by decide) m_29_14 (sn (by decide) (sn (by decide) (ss (sk (sl (sl (sl (sl (sl (sl (sl (sl (sl (sl (sl (sl (sl (sl (sl (sl (sl n0))))))))))))))))) (by decide))))) dX12_goOver_90 ?_
  refine lv_if_ne (tgt := 103) C.1 C.2.1 dX12_goOver_93 (by decide) (fun h => absurd h (by decide)) (fun _ => ?_)
  refine lv_aload_n C.1 C.2.1 dX12_goOver_96 rfl (lv_at hl 2 rfl) ?_
  refine k_get (v := .int 7) C hP 8 rfl rfl inlX12 70 (by decide) m_29_13 (ss (sk (sl (sl (sl (sl (sl (sl (sl (sl (sl (sl (sl (sl (sl (sl (sl (sl (sl (sl (sl n0))))))))))))))))))) (by decide))) dX12_goOver_97 ?_
  refine lv_goto (tgt := 107) C.1 C.2.1 dX12_goOver_100 (by decide) ?_
  refine k_put (ws' := [(a7, .inl (K 2, 240, .inl (fun _ => 0))), (a8, .inl (K 0, 3, .inl (fun _ => 0))), (a9, .inl (K 2, 108000, .inl f9)), (a10, .inl (K 0, 900, .inl f10)), (a1, .inl (K 0, 7999, .inl (fun _ => 0))), (a2, .inl (K 0, 9, .inl (fun _ => 0))), (a3, .inl (K 1, 20, .inr (.inl (vp_updL (vp_updL (vp_updL (vp_updL (vp_updL (vp_updL (vp_updL (vp_updL (vp_updL (vp_updL (vp_updL (vp_updL (vp_updL (vp_updL (vp_updL (vp_updL (vp_updL (vp_updL (vp_updL (vp_updL f3 0 0) 1 0) 2 0) 3 0) 4 0) 5 0) 6 0) 7 0) 8 0) 9 0) 10 0) 11 0) 12 0) 13 0) 14 0) 15 0) 16 0) 17 0) 18 0) 19 0)))), (a4, .inl (K 3, 20, .inl (upd (upd (upd (upd (upd (upd (upd (upd (upd (upd (upd (upd (upd (upd (upd (upd (upd (upd (upd (upd f4 0 0) 1 0) 2 0) 3 0) 4 0) 5 0) 6 0) 7 0) 8 0) 9 0) 10 0) 11 0) 12 0) 13 0) 14 0) 15 0) 16 0) 17 0) 18 0) 19 0))), (a0, .inr (11, (((((((((((((((((((((s0.set 5 (.int 0)).set 6 (.int 1)).set 7 (.int 0)).set 8 (.long 0)).set 9 (.int 9)).set 10 (.int 0)).set 11 (.int 0)).set 12 (.int 0)).set 91 (.int 0)).set 42 (.int 0)).set 70 (.int 0)).set 47 (.int 0)).set 48 (.int 0)).set 45 (.int 0)).set 52 (.int 0)).set 60 (.int 0)).set 41 (.int 0)).set 43 (.int 0)).set 67 (.int 0)).set 70 (.int 7)).set 43 (.int 7)))), (a5, .inl (K 3, 7999, .inl (fun _ => 0))), (a6, .inl (K 3, 10, .inl (fun _ => 0)))]) (v := .int 7) C hP hD hS 8 rfl rfl inlX12 tyX12_ok nmX12 43 (by decide) m_29_14 rfl rfl rfl (sl (sl (sl (sl (sl (sl (sl (sl (sl (sl (sl (sl (sl (sl (sl (sl (sl (sl (sl (sl n0)))))))))))))))))))) rfl dX12_goOver_107 (fun H locs hP hD hS => ?_)
  refine lv_iinc (v := 1) (lv' := [(2, .int 1), (1, .int 0), (0, .ref a0)]) C.1 C.2.1 dX12_goOver_110 hl (k := 1) rfl (by decide) (by decide) rfl (fun ls hl => ?_)
  refine lv_aload_n C.1 C.2.1 dX12_goOver_113 rfl (lv_at hl 2 rfl) ?_
  refine k_Vv (As := []) (rest := []) C hP hD hS hA (c_X12_sayError l D K a0 a7 a8 a9 a10 ((((((((((((((((((((((s0.set 5 (.int 0)).set 6 (.int 1)).set 7 (.int 0)).set 8 (.long 0)).set 9 (.int 9)).set 10 (.int 0)).set 11 (.int 0)).set 12 (.int 0)).set 91 (.int 0)).set 42 (.int 0)).set 70 (.int 0)).set 47 (.int 0)).set 48 (.int 0)).set 45 (.int 0)).set 52 (.int 0)).set 60 (.int 0)).set 41 (.int 0)).set 43 (.int 0)).set 67 (.int 0)).set 70 (.int 7)).set 43 (.int 7))) (sl (sl (sl (sl (sl (sl (sl (sl (sl (sl (sl (sl (sl (sl (sl (sl (sl (sl (sl (sl (sl n0))))))))))))))))))))) f9 f10 (sn (by decide) (sn (by decide) (ss (sk (sl (sl (sl (sl (sl (sl (sl (sl (sl (sl (sl (sl (sl (sl (sl (sl (sl (sl n0)))))))))))))))))) (by decide))))) (sn (by decide) (sn (by decide) (sn (by decide) (sn (by decide) (sn (by decide) (sn (by decide) (sn (by decide) (sn (by decide) (sn (by decide) (sn (by decide) (sn (by decide) (sn (by decide) (sn (by decide) (sn (by decide) (sn (by decide) (sn (by decide) (sn (by decide) (sn (by decide) (sn (by decide) (sn (by decide) (sn (by decide) e0_29))))))))))))))))))))) (sn (by decide) (ss (sk (sl (sl (sl (sl (sl (sl (sl (sl (sl (sl (sl (sl (sl (sl (sl (sl (sl (sl (sl n0))))))))))))))))))) (by decide)))) (sn (by decide) (sn (by decide) (sn (by decide) (sn (by decide) (sn (by decide) (sn (by decide) (sn (by decide) (sn (by decide) (sn (by decide) (sn (by decide) (sn (by decide) (sn (by decide) (sn (by decide) (sn (by decide) (sn (by decide) (sn (by decide) (sn (by decide) (sn (by decide) (sn (by decide) (sn (by decide) (sn (by decide) e0_31))))))))))))))))))))) (sn (by decide) (sn (by decide) (sn (by decide) (sn (by decide) (sn (by decide) (sn (by decide) (sn (by decide) (sn (by decide) (sn (by decide) (sn (by decide) (sn (by decide) (sn (by decide) (sn (by decide) (sn (by decide) (sn (by decide) (sn (by decide) (sn (by decide) (sn (by decide) (sn (by decide) (sn (by decide) (sn (by decide) e0_28))))))))))))))))))))) (sn (by decide) (sn (by decide) (sn (by decide) (sn (by decide) (sn (by decide) (sn (by decide) (sn (by decide) (sn (by decide) (sn (by decide) (sn (by decide) (sn (by decide) (sn (by decide) (sn (by decide) (sn (by decide) (sn (by decide) (sn (by decide) (sn (by decide) (sn (by decide) (sn (by decide) (sn (by decide) (sn (by decide) e0_26))))))))))))))))))))) (sn (by decide) (sn (by decide) (sn (by decide) (sn (by decide) (sn (by decide) (sn (by decide) (sn (by decide) (sn (by decide) (sn (by decide) (sn (by decide) (sn (by decide) (sn (by decide) (sn (by decide) (sn (by decide) (sn (by decide) (sn (by decide) (sn (by decide) (sn (by decide) (sn (by decide) (sn (by decide) (sn (by decide) e0_27)))))))))))))))))))))) X0_ok trivial (uwV m_42_0 m_42_1 m_42_2 m_1_5 m_42_3) (hdV 0 (by decide +kernel) rfl) ⟨Nat.le_of_ble_eq_true rfl, Nat.le_of_ble_eq_true rfl⟩ rfl rfl (ci := 11) rfl rfl (isC := [8, 0, 1, 2, 3]) (isR := [4, 5, 6, 7, 9, 10]) (wr := [(a1, .inl (K 0, 7999, .inl (fun _ => 0))), (a2, .inl (K 0, 9, .inl (fun _ => 0))), (a3, .inl (K 1, 20, .inr (.inl (vp_updL (vp_updL (vp_updL (vp_updL (vp_updL (vp_updL (vp_updL (vp_updL (vp_updL (vp_updL (vp_updL (vp_updL (vp_updL (vp_updL (vp_updL (vp_updL (vp_updL (vp_updL (vp_updL (vp_updL f3 0 0) 1 0) 2 0) 3 0) 4 0) 5 0) 6 0) 7 0) 8 0) 9 0) 10 0) 11 0) 12 0) 13 0) 14 0) 15 0) 16 0) 17 0) 18 0) 19 0)))), (a4, .inl (K 3, 20, .inl (upd (upd (upd (upd (upd (upd (upd (upd (upd (upd (upd (upd (upd (upd (upd (upd (upd (upd (upd (upd f4 0 0) 1 0) 2 0) 3 0) 4 0) 5 0) 6 0) 7 0) 8 0) 9 0) 10 0) 11 0) 12 0) 13 0) 14 0) 15 0) 16 0) 17 0) 18 0) 19 0))), (a5, .inl (K 3, 7999, .inl (fun _ => 0))), (a6, .inl (K 3, 10, .inl (fun _ => 0)))]) ⟨rfl, rfl, rfl, rfl, by decide⟩ rfl hl.1 (Nat.le_of_ble_eq_true rfl) dX12_goOver_114 ⟨Nat.le_of_ble_eq_true rfl, Nat.le_of_ble_eq_true rfl⟩ (fun u_5 H locs hw hP hD hS => ?_)
  have hP : va_P D vwCl [(a1, .inl (K 0, 7999, .inl (fun _ => 0))), (a2, .inl (K 0, 9, .inl (fun _ => 0))), (a3, .inl (K 1, 20, .inr (.inl (vp_updL (vp_updL (vp_updL (vp_updL (vp_updL (vp_updL (vp_updL (vp_updL (vp_updL (vp_updL (vp_updL (vp_updL (vp_updL (vp_updL (vp_updL (vp_updL (vp_updL (vp_updL (vp_updL (vp_updL f3 0 0) 1 0) 2 0) 3 0) 4 0) 5 0) 6 0) 7 0) 8 0) 9 0) 10 0) 11 0) 12 0) 13 0) 14 0) 15 0) 16 0) 17 0) 18 0) 19 0)))), (a4, .inl (K 3, 20, .inl (upd (upd (upd (upd (upd (upd (upd (upd (upd (upd (upd (upd (upd (upd (upd (upd (upd (upd (upd (upd f4 0 0) 1 0) 2 0) 3 0) 4 0) 5 0) 6 0) 7 0) 8 0) 9 0) 10 0) 11 0) 12 0) 13 0) 14 0) 15 0) 16 0) 17 0) 18 0) 19 0))), (a5, .inl (K 3, 7999, .inl (fun _ => 0))), (a6, .inl (K 3, 10, .inl (fun _ => 0))), (a0, .inr (11, ((((((((((((((((((((((((((((((s0.set 5 (.int 0)).set 6 (.int 1)).set 7 (.int 0)).set 8 (.long 0)).set 9 (.int 9)).set 10 (.int 0)).set 11 (.int 0)).set 12 (.int 0)).set 91 (.int 0)).set 42 (.int 0)).set 70 (.int 0)).set 47 (.int 0)).set 48 (.int 0)).set 45 (.int 0)).set 52 (.int 0)).set 60 (.int 0)).set 41 (.int 0)).set 43 (.int 0)).set 67 (.int 0)).set 70 (.int 7)).set 43 (.int 7)).set 30 (.int 0)).set 30 (.int 1)).set 30 (.int 2)).set 30 (.int 3)).set 30 (.int 4)).set 30 (.int 5)).set 30 (.int 6)).set 30 (.int 7)).set 30 (.int 6)))), (a7, .inl (K 2, 240, .inl (upd (upd (upd (upd (upd (upd (upd (fun _ => 0) 0 48) 1 48) 2 48) 3 49) 4 32) 5 55) 6 32))), (a8, .inl (K 0, 3, .inl (upd (fun _ => 0) 1 1))), (a9, .inl (K 2, 108000, .inl (upd (upd (upd (upd (upd (upd f9 36000 48) 36001 48) 36002 48) 36003 49) 36004 32) 36005 55))), (a10, .inl (K 0, 900, .inl (upd f10 300 6)))] H := hP
  have hD : va_D A [(a1, .inl (K 0, 7999, .inl (fun _ => 0))), (a2, .inl (K 0, 9, .inl (fun _ => 0))), (a3, .inl (K 1, 20, .inr (.inl (vp_updL (vp_updL (vp_updL (vp_updL (vp_updL (vp_updL (vp_updL (vp_updL (vp_updL (vp_updL (vp_updL (vp_updL (vp_updL (vp_updL (vp_updL (vp_updL (vp_updL (vp_updL (vp_updL (vp_updL f3 0 0) 1 0) 2 0) 3 0) 4 0) 5 0) 6 0) 7 0) 8 0) 9 0) 10 0) 11 0) 12 0) 13 0) 14 0) 15 0) 16 0) 17 0) 18 0) 19 0)))), (a4, .inl (K 3, 20, .inl (upd (upd (upd (upd (upd (upd (upd (upd (upd (upd (upd (upd (upd (upd (upd (upd (upd (upd (upd (upd f4 0 0) 1 0) 2 0) 3 0) 4 0) 5 0) 6 0) 7 0) 8 0) 9 0) 10 0) 11 0) 12 0) 13 0) 14 0) 15 0) 16 0) 17 0) 18 0) 19 0))), (a5, .inl (K 3, 7999, .inl (fun _ => 0))), (a6, .inl (K 3, 10, .inl (fun _ => 0))), (a0, .inr (11, ((((((((((((((((((((((((((((((s0.set 5 (.int 0)).set 6 (.int 1)).set 7 (.int 0)).set 8 (.long 0)).set 9 (.int 9)).set 10 (.int 0)).set 11 (.int 0)).set 12 (.int 0)).set 91 (.int 0)).set 42 (.int 0)).set 70 (.int 0)).set 47 (.int 0)).set 48 (.int 0)).set 45 (.int 0)).set 52 (.int 0)).set 60 (.int 0)).set 41 (.int 0)).set 43 (.int 0)).set 67 (.int 0)).set 70 (.int 7)).set 43 (.int 7)).set 30 (.int 0)).set 30 (.int 1)).set 30 (.int 2)).set 30 (.int 3)).set 30 (.int 4)).set 30 (.int 5)).set 30 (.int 6)).set 30 (.int 7)).set 30 (.int 6)))), (a7, .inl (K 2, 240, .inl (upd (upd (upd (upd (upd (upd (upd (fun _ => 0) 0 48) 1 48) 2 48) 3 49) 4 32) 5 55) 6 32))), (a8, .inl (K 0, 3, .inl (upd (fun _ => 0) 1 1))), (a9, .inl (K 2, 108000, .inl (upd (upd (upd (upd (upd (upd f9 36000 48) 36001 48) 36002 48) 36003 49) 36004 32) 36005 55))), (a10, .inl (K 0, 900, .inl (upd f10 300 6)))] := hD
  refine lv_aload_n C.1 C.2.1 dX12_goOver_117 rfl (lv_at hl 2 rfl) ?_
  refine lv_dup C.1 C.2.1 dX12_goOver_118 rfl ?_
  refine k_get (v := .int 0) C hP 6 rfl rfl inlX12 67 (by decide) m_29_11 (sn (by decide) (sn (by decide) (sn (by decide) (sn (by decide) (sn (by decide) (sn (by decide) (sn (by decide) (sn (by decide) (sn (by decide) (sn (by decide) (sn (by decide) (ss (sk (sl (sl (sl (sl (sl (sl (sl (sl (sl (sl (sl (sl (sl (sl (sl (sl (sl (sl n0)))))))))))))))))) (by decide)))))))))))))) dX12_goOver_119 ?_
  refine lv_iconst (v := 1) C.1 C.2.1 dX12_goOver_122 (by decide) ?_
  refine k_iadd (v := 1) C (by decide) dX12_goOver_123 ?_
  refine k_put (ws' := [(a1, .inl (K 0, 7999, .inl (fun _ => 0))), (a2, .inl (K 0, 9, .inl (fun _ => 0))), (a3, .inl (K 1, 20, .inr (.inl (vp_updL (vp_updL (vp_updL (vp_updL (vp_updL (vp_updL (vp_updL (vp_updL (vp_updL (vp_updL (vp_updL (vp_updL (vp_updL (vp_updL (vp_updL (vp_updL (vp_updL (vp_updL (vp_updL (vp_updL f3 0 0) 1 0) 2 0) 3 0) 4 0) 5 0) 6 0) 7 0) 8 0) 9 0) 10 0) 11 0) 12 0) 13 0) 14 0) 15 0) 16 0) 17 0) 18 0) 19 0)))), (a4, .inl (K 3, 20, .inl (upd (upd (upd (upd (upd (upd (upd (upd (upd (upd (upd (upd (upd (upd (upd (upd (upd (upd (upd (upd f4 0 0) 1 0) 2 0) 3 0) 4 0) 5 0) 6 0) 7 0) 8 0) 9 0) 10 0) 11 0) 12 0) 13 0) 14 0) 15 0) 16 0) 17 0) 18 0) 19 0))), (a5, .inl (K 3, 7999, .inl (fun _ => 0))), (a6, .inl (K 3, 10, .inl (fun _ => 0))), (a0, .inr (11, (((((((((((((((((((((((((((((((s0.set 5 (.int 0)).set 6 (.int 1)).set 7 (.int 0)).set 8 (.long 0)).set 9 (.int 9)).set 10 (.int 0)).set 11 (.int 0)).set 12 (.int 0)).set 91 (.int 0)).set 42 (.int 0)).set 70 (.int 0)).set 47 (.int 0)).set 48 (.int 0)).set 45 (.int 0)).set 52 (.int 0)).set 60 (.int 0)).set 41 (.int 0)).set 43 (.int 0)).set 67 (.int 0)).set 70 (.int 7)).set 43 (.int 7)).set 30 (.int 0)).set 30 (.int 1)).set 30 (.int 2)).set 30 (.int 3)).set 30 (.int 4)).set 30 (.int 5)).set 30 (.int 6)).set 30 (.int 7)).set 30 (.int 6)).set 67 (.int 1)))), (a7, .inl (K 2, 240, .inl (upd (upd (upd (upd (upd (upd (upd (fun _ => 0) 0 48) 1 48) 2 48) 3 49) 4 32) 5 55) 6 32))), (a8, .inl (K 0, 3, .inl (upd (fun _ => 0) 1 1))), (a9, .inl (K 2, 108000, .inl (upd (upd (upd (upd (upd (upd f9 36000 48) 36001 48) 36002 48) 36003 49) 36004 32) 36005 55))), (a10, .inl (K 0, 900, .inl (upd f10 300 6)))]) (v := .int 1) C hP hD hS 6 rfl rfl inlX12 tyX12_ok nmX12 67 (by decide) m_29_11 rfl rfl rfl (sl (sl (sl (sl (sl (sl (sl (sl (sl (sl (sl (sl (sl (sl (sl (sl (sl (sl (sl (sl (sl (sl (sl (sl (sl (sl (sl (sl (sl (sl n0)))))))))))))))))))))))))))))) rfl dX12_goOver_124 (fun H locs hP hD hS => ?_)
  refine lv_goto (tgt := 22) C.1 C.2.1 dX12_goOver_127 (by decide) ?_
  refine lv_aload_n C.1 C.2.1 dX12_goOver_22 rfl (lv_at hl 2 rfl) ?_
  refine k_get (v := .int 1) C hP 6 rfl rfl inlX12 67 (by decide) m_29_11 (ss (sk (sl (sl (sl (sl (sl (sl (sl (sl (sl (sl (sl (sl (sl (sl (sl (sl (sl (sl (sl (sl (sl (sl (sl (sl (sl (sl (sl (sl (sl (sl n0)))))))))))))))))))))))))))))) (by decide))) dX12_goOver_23 ?_
  refine lv_aload_n C.1 C.2.1 dX12_goOver_26 rfl (lv_at hl 2 rfl) ?_
  refine k_get (v := .int 0) C hP 6 rfl rfl inlX12 41 (by decide) m_29_12 (sn (by decide) (sn (by decide) (sn (by decide) (sn (by decide) (sn (by decide) (sn (by decide) (sn (by decide) (sn (by decide) (sn (by decide) (sn (by decide) (sn (by decide) (sn (by decide) (sn (by decide) (sn (by decide) (ss (sk (sl (sl (sl (sl (sl (sl (sl (sl (sl (sl (sl (sl (sl (sl (sl (sl n0)))))))))))))))) (by decide))))))))))))))))) dX12_goOver_27 ?_
  refine lv_icmp_gt (tgt := 130) C.1 C.2.1 dX12_goOver_30 (by decide) (fun _ => ?_) (fun h => absurd (by decide) h)
  refine lv_aload_n C.1 C.2.1 dX12_goOver_130 rfl (lv_at hl 2 rfl) ?_
  refine k_Vv (As := []) (rest := []) C hP hD hS hA (c_X12_clearMemory l D K a0 a1 ((((((((((((((((((((((((((((((((s0.set 5 (.int 0)).set 6 (.int 1)).set 7 (.int 0)).set 8 (.long 0)).set 9 (.int 9)).set 10 (.int 0)).set 11 (.int 0)).set 12 (.int 0)).set 91 (.int 0)).set 42 (.int 0)).set 70 (.int 0)).set 47 (.int 0)).set 48 (.int 0)).set 45 (.int 0)).set 52 (.int 0)).set 60 (.int 0)).set 41 (.int 0)).set 43 (.int 0)).set 67 (.int 0)).set 70 (.int 7)).set 43 (.int 7)).set 30 (.int 0)).set 30 (.int 1)).set 30 (.int 2)).set 30 (.int 3)).set 30 (.int 4)).set 30 (.int 5)).set 30 (.int 6)).set 30 (.int 7)).set 30 (.int 6)).set 67 (.int 1))) (sl (sl (sl (sl (sl (sl (sl (sl (sl (sl (sl (sl (sl (sl (sl (sl (sl (sl (sl (sl (sl (sl (sl (sl (sl (sl (sl (sl (sl (sl (sl n0))))))))))))))))))))))))))))))) (fun _ => 0) (sn (by decide) (sn (by decide) (sn (by decide) (sn (by decide) (sn (by decide) (sn (by decide) (sn (by decide) (sn (by decide) (sn (by decide) (sn (by decide) (sn (by decide) (sn (by decide) (sn (by decide) (sn (by decide) (sn (by decide) (sn (by decide) (sn (by decide) (sn (by decide) (sn (by decide) (sn (by decide) (sn (by decide) (sn (by decide) (sn (by decide) (sn (by decide) (sn (by decide) (sn (by decide) (sn (by decide) (sn (by decide) (sn (by decide) (sn (by decide) (sn (by decide) e0_3)))))))))))))))))))))))))))))))) X0_ok trivial (uwV m_30_4 m_30_5 m_30_6 m_1_5 m_30_7) (hdV 0 (by decide +kernel) rfl) ⟨Nat.le_of_ble_eq_true rfl, Nat.le_of_ble_eq_true rfl⟩ rfl rfl (ci := 11) rfl rfl (isC := [6, 0]) (isR := [1, 2, 3, 4, 5, 7, 8, 9, 10]) (wr := [(a2, .inl (K 0, 9, .inl (fun _ => 0))), (a3, .inl (K 1, 20, .inr (.inl (vp_updL (vp_updL (vp_updL (vp_updL (vp_updL (vp_updL (vp_updL (vp_updL (vp_updL (vp_updL (vp_updL (vp_updL (vp_updL (vp_updL (vp_updL (vp_updL (vp_updL (vp_updL (vp_updL (vp_updL f3 0 0) 1 0) 2 0) 3 0) 4 0) 5 0) 6 0) 7 0) 8 0) 9 0) 10 0) 11 0) 12 0) 13 0) 14 0) 15 0) 16 0) 17 0) 18 0) 19 0)))), (a4, .inl (K 3, 20, .inl (upd (upd (upd (upd (upd (upd (upd (upd (upd (upd (upd (upd (upd (upd (upd (upd (upd (upd (upd (upd f4 0 0) 1 0) 2 0) 3 0) 4 0) 5 0) 6 0) 7 0) 8 0) 9 0) 10 0) 11 0) 12 0) 13 0) 14 0) 15 0) 16 0) 17 0) 18 0) 19 0))), (a5, .inl (K 3, 7999, .inl (fun _ => 0))), (a6, .inl (K 3, 10, .inl (fun _ => 0))), (a7, .inl (K 2, 240, .inl (upd (upd (upd (upd (upd (upd (upd (fun _ => 0) 0 48) 1 48) 2 48) 3 49) 4 32) 5 55) 6 32))), (a8, .inl (K 0, 3, .inl (upd (fun _ => 0) 1 1))), (a9, .inl (K 2, 108000, .inl (upd (upd (upd (upd (upd (upd f9 36000 48) 36001 48) 36002 48) 36003 49) 36004 32) 36005 55))), (a10, .inl (K 0, 900, .inl (upd f10 300 6)))]) ⟨rfl, rfl, rfl, rfl, by decide⟩ rfl hl.1 (Nat.le_of_ble_eq_true rfl) dX12_goOver_131 ⟨Nat.le_of_ble_eq_true rfl, Nat.le_of_ble_eq_true rfl⟩ (fun u_7 H locs hw hP hD hS => ?_)
  have hP : va_P D vwCl [(a2, .inl (K 0, 9, .inl (fun _ => 0))), (a3, .inl (K 1, 20, .inr (.inl (vp_updL (vp_updL (vp_updL (vp_updL (vp_updL (vp_updL (vp_updL (vp_updL (vp_updL (vp_updL (vp_updL (vp_updL (vp_updL (vp_updL (vp_updL (vp_updL (vp_updL (vp_updL (vp_updL (vp_updL f3 0 0) 1 0) 2 0) 3 0) 4 0) 5 0) 6 0) 7 0) 8 0) 9 0) 10 0) 11 0) 12 0) 13 0) 14 0) 15 0) 16 0) 17 0) 18 0) 19 0)))), (a4, .inl (K 3, 20, .inl (upd (upd (upd (upd (upd (upd (upd (upd (upd (upd (upd (upd (upd (upd (upd (upd (upd (upd (upd (upd f4 0 0) 1 0) 2 0) 3 0) 4 0) 5 0) 6 0) 7 0) 8 0) 9 0) 10 0) 11 0) 12 0) 13 0) 14 0) 15 0) 16 0) 17 0) 18 0) 19 0))), (a5, .inl (K 3, 7999, .inl (fun _ => 0))), (a6, .inl (K 3, 10, .inl (fun _ => 0))), (a7, .inl (K 2, 240, .inl (upd (upd (upd (upd (upd (upd (upd (fun _ => 0) 0 48) 1 48) 2 48) 3 49) 4 32) 5 55) 6 32))), (a8, .inl (K 0, 3, .inl (upd (fun _ => 0) 1 1))), (a9, .inl (K 2, 108000, .inl (upd (upd (upd (upd (upd (upd f9 36000 48) 36001 48) 36002 48) 36003 49) 36004 32) 36005 55))), (a10, .inl (K 0, 900, .inl (upd f10 300 6))), (a0, .inr (11, (((((((((((((((((((((((((((((((s0.set 5 (.int 0)).set 6 (.int 1)).set 7 (.int 0)).set 8 (.long 0)).set 9 (.int 9)).set 10 (.int 0)).set 11 (.int 0)).set 12 (.int 0)).set 91 (.int 0)).set 42 (.int 0)).set 70 (.int 0)).set 47 (.int 0)).set 48 (.int 0)).set 45 (.int 0)).set 52 (.int 0)).set 60 (.int 0)).set 41 (.int 0)).set 43 (.int 0)).set 67 (.int 0)).set 70 (.int 7)).set 43 (.int 7)).set 30 (.int 0)).set 30 (.int 1)).set 30 (.int 2)).set 30 (.int 3)).set 30 (.int 4)).set 30 (.int 5)).set 30 (.int 6)).set 30 (.int 7)).set 30 (.int 6)).set 67 (.int 1)))), (a1, .inl (K 0, 7999, .inl (fun _ => 0)))] H := hP
  have hD : va_D A [(a2, .inl (K 0, 9, .inl (fun _ => 0))), (a3, .inl (K 1, 20, .inr (.inl (vp_updL (vp_updL (vp_updL (vp_updL (vp_updL (vp_updL (vp_updL (vp_updL (vp_updL (vp_updL (vp_updL (vp_updL (vp_updL (vp_updL (vp_updL (vp_updL (vp_updL (vp_updL (vp_updL (vp_updL f3 0 0) 1 0) 2 0) 3 0) 4 0) 5 0) 6 0) 7 0) 8 0) 9 0) 10 0) 11 0) 12 0) 13 0) 14 0) 15 0) 16 0) 17 0) 18 0) 19 0)))), (a4, .inl (K 3, 20, .inl (upd (upd (upd (upd (upd (upd (upd (upd (upd (upd (upd (upd (upd (upd (upd (upd (upd (upd (upd (upd f4 0 0) 1 0) 2 0) 3 0) 4 0) 5 0) 6 0) 7 0) 8 0) 9 0) 10 0) 11 0) 12 0) 13 0) 14 0) 15 0) 16 0) 17 0) 18 0) 19 0))), (a5, .inl (K 3, 7999, .inl (fun _ => 0))), (a6, .inl (K 3, 10, .inl (fun _ => 0))), (a7, .inl (K 2, 240, .inl (upd (upd (upd (upd (upd (upd (upd (fun _ => 0) 0 48) 1 48) 2 48) 3 49) 4 32) 5 55) 6 32))), (a8, .inl (K 0, 3, .inl (upd (fun _ => 0) 1 1))), (a9, .inl (K 2, 108000, .inl (upd (upd (upd (upd (upd (upd f9 36000 48) 36001 48) 36002 48) 36003 49) 36004 32) 36005 55))), (a10, .inl (K 0, 900, .inl (upd f10 300 6))), (a0, .inr (11, (((((((((((((((((((((((((((((((s0.set 5 (.int 0)).set 6 (.int 1)).set 7 (.int 0)).set 8 (.long 0)).set 9 (.int 9)).set 10 (.int 0)).set 11 (.int 0)).set 12 (.int 0)).set 91 (.int 0)).set 42 (.int 0)).set 70 (.int 0)).set 47 (.int 0)).set 48 (.int 0)).set 45 (.int 0)).set 52 (.int 0)).set 60 (.int 0)).set 41 (.int 0)).set 43 (.int 0)).set 67 (.int 0)).set 70 (.int 7)).set 43 (.int 7)).set 30 (.int 0)).set 30 (.int 1)).set 30 (.int 2)).set 30 (.int 3)).set 30 (.int 4)).set 30 (.int 5)).set 30 (.int 6)).set 30 (.int 7)).set 30 (.int 6)).set 67 (.int 1)))), (a1, .inl (K 0, 7999, .inl (fun _ => 0)))] := hD
  refine lv_iload_n C.1 C.2.1 dX12_goOver_134 rfl (lv_at hl 0 rfl) ?_
  exact k_iret C hr hlocks hP hD hS rfl (fun _ => 0) [9, 10, 0, 1, 2, 3, 4, 5, 6, 7, 8] rfl rfl rfl (Nat.le_of_ble_eq_true rfl) (Nat.le_of_ble_eq_true rfl) dX12_goOver_135
set_option maxHeartbeats 4000000 in
set_option maxRecDepth 100000 in
theorem t_X12_errors (l : Launch) (D : va_G) (K : Nat → ClassId) (a0 : Nat) (a1 : Nat) (a2 : Nat) (a3 : Nat) (a4 : Nat) (a5 : Nat) (a6 : Nat) (a7 : Nat) (a8 : Nat) (a9 : Nat) (a10 : Nat) (a11 : Nat) (s0 : List Value) (n0 : s0.length = 94) (f1 : Nat → Int32) (f2 : Nat → Int32) (f3 : Nat → Int64) (f4 : Nat → Int32) (f5 : Nat → Int32) (f6 : Nat → Int32) (f9 : Nat → Int32) (f10 : Nat → Int32) (e0_1 : s0[1]? = some (.ref a1)) (e0_2 : s0[2]? = some (.int 0)) (e0_3 : s0[3]? = some (.ref a2)) (e0_4 : s0[4]? = some (.ref a3)) (e0_19 : s0[19]? = some (.ref a4)) (e0_20 : s0[20]? = some (.ref a5)) (e0_49 : s0[49]? = some (.ref a6)) (e0_59 : s0[59]? = some (.ref a7)) (e0_29 : s0[29]? = some (.ref a8)) (e0_31 : s0[31]? = some (.int 0)) (e0_28 : s0[28]? = some (.ref a9)) (e0_26 : s0[26]? = some (.ref a10)) (e0_27 : s0[27]? = some (.ref a11)) : uMet l yX12_errors cX12_errors 1 (some .int) (rmD 4 0 0) D K X0 [.ref a0] [(a0, .inr (11, s0)), (a2, .inl (K 0, 7999, .inl f1)), (a3, .inl (K 0, 9, .inl f2)), (a4, .inl (K 1, 20, .inr (.inl f3))), (a5, .inl (K 3, 20, .inl f4)), (a6, .inl (K 3, 7999, .inl f5)), (a7, .inl (K 3, 10, .inl f6)), (a8, .inl (K 2, 240, .inl (fun _ => 0))), (a9, .inl (K 0, 3, .inl (fun _ => 0))), (a10, .inl (K 2, 108000, .inl f9)), (a11, .inl (K 0, 900, .inl f10))] (QI D K (fun (r : Int32) (u : Nat → Nat) => r = 1) (fun (u : Nat → Nat) => [])) 0 0 := by
  refine k_met RX12 ⟨rfl, by decide +kernel⟩ (Nat.le_of_ble_eq_true rfl) ?_
  intro p e s m below meth c A ls C hX hr hlocks hin hA hP hD hS hl
  have hl : lv_has ls 1 [(0, .ref a0)] := hl
  refine lv_aload_n C.1 C.2.1 dX12_errors_0 rfl (lv_at hl 0 rfl) ?_
  refine lv_iconst (v := 0) C.1 C.2.1 dX12_errors_1 (by decide) ?_
  refine k_put (ws' := [(a0, .inr (11, (s0.set 0 (.int 0)))), (a2, .inl (K 0, 7999, .inl f1)), (a3, .inl (K 0, 9, .inl f2)), (a4, .inl (K 1, 20, .inr (.inl f3))), (a5, .inl (K 3, 20, .inl f4)), (a6, .inl (K 3, 7999, .inl f5)), (a7, .inl (K 3, 10, .inl f6)), (a8, .inl (K 2, 240, .inl (fun _ => 0))), (a9, .inl (K 0, 3, .inl (fun _ => 0))), (a10, .inl (K 2, 108000, .inl f9)), (a11, .inl (K 0, 900, .inl f10))]) (v := .int 0) C hP hD hS 0 rfl rfl inlX12 tyX12_ok nmX12 0 (by decide) m_9_18 rfl rfl rfl n0 rfl dX12_errors_2 (fun H locs hP hD hS => ?_)
  refine lv_aload_n C.1 C.2.1 dX12_errors_5 rfl (lv_at hl 0 rfl) ?_
  refine lv_aload_n C.1 C.2.1 dX12_errors_6 rfl (lv_at hl 0 rfl) ?_
  refine k_get (v := .ref a1) C hP 0 rfl rfl inlX12 1 (by decide) m_7_4 (sn (by decide) e0_1) dX12_errors_7 ?_
  refine lv_aload_n C.1 C.2.1 dX12_errors_10 rfl (lv_at hl 0 rfl) ?_
  refine k_get (v := .int 0) C hP 0 rfl rfl inlX12 2 (by decide) m_9_19 (sn (by decide) e0_2) dX12_errors_11 ?_
  refine k_Vv (As := [.ref a1, .int 0]) (rest := []) C hP hD hS hA (c_X12_copyText l D K a0 a1 ((s0.set 0 (.int 0))) (sl n0)) X0_ok trivial (uwV m_29_2 m_29_3 m_29_4 m_1_5 m_29_5) (hdV 2 (by decide +kernel) rfl) ⟨Nat.le_of_ble_eq_true rfl, Nat.le_of_ble_eq_true rfl⟩ rfl rfl (ci := 11) rfl rfl (isC := [0]) (isR := [1, 2, 3, 4, 5, 6, 7, 8, 9, 10]) (wr := [(a2, .inl (K 0, 7999, .inl f1)), (a3, .inl (K 0, 9, .inl f2)), (a4, .inl (K 1, 20, .inr (.inl f3))), (a5, .inl (K 3, 20, .inl f4)), (a6, .inl (K 3, 7999, .inl f5)), (a7, .inl (K 3, 10, .inl f6)), (a8, .inl (K 2, 240, .inl (fun _ => 0))), (a9, .inl (K 0, 3, .inl (fun _ => 0))), (a10, .inl (K 2, 108000, .inl f9)), (a11, .inl (K 0, 900, .inl f10))]) ⟨rfl, rfl, rfl, rfl, by decide⟩ rfl hl.1 (Nat.le_of_ble_eq_true rfl) dX12_errors_14 ⟨Nat.le_of_ble_eq_true rfl, Nat.le_of_ble_eq_true rfl⟩ (fun u_1 H locs hw hP hD hS => ?_)
  have hP : va_P D vwCl [(a2, .inl (K 0, 7999, .inl f1)), (a3, .inl (K 0, 9, .inl f2)), (a4, .inl (K 1, 20, .inr (.inl f3))), (a5, .inl (K 3, 20, .inl f4)), (a6, .inl (K 3, 7999, .inl f5)), (a7, .inl (K 3, 10, .inl f6)), (a8, .inl (K 2, 240, .inl (fun _ => 0))), (a9, .inl (K 0, 3, .inl (fun _ => 0))), (a10, .inl (K 2, 108000, .inl f9)), (a11, .inl (K 0, 900, .inl f10)), (a0, .inr (11, ((s0.set 0 (.int 0)).set 38 (.int 0))))] H := hP
  have hD : va_D A [(a2, .inl (K 0, 7999, .inl f1)), (a3, .inl (K 0, 9, .inl f2)), (a4, .inl (K 1, 20, .inr (.inl f3))), (a5, .inl (K 3, 20, .inl f4)), (a6, .inl (K 3, 7999, .inl f5)), (a7, .inl (K 3, 10, .inl f6)), (a8, .inl (K 2, 240, .inl (fun _ => 0))), (a9, .inl (K 0, 3, .inl (fun _ => 0))), (a10, .inl (K 2, 108000, .inl f9)), (a11, .inl (K 0, 900, .inl f10)), (a0, .inr (11, ((s0.set 0 (.int 0)).set 38 (.int 0))))] := hD
  refine lv_aload_n C.1 C.2.1 dX12_errors_17 rfl (lv_at hl 0 rfl) ?_
  refine lv_iconst (v := 0) C.1 C.2.1 dX12_errors_18 (by decide) ?_
  refine k_put (ws' := [(a2, .inl (K 0, 7999, .inl f1)), (a3, .inl (K 0, 9, .inl f2)), (a4, .inl (K 1, 20, .inr (.inl f3))), (a5, .inl (K 3, 20, .inl f4)), (a6, .inl (K 3, 7999, .inl f5)), (a7, .inl (K 3, 10, .inl f6)), (a8, .inl (K 2, 240, .inl (fun _ => 0))), (a9, .inl (K 0, 3, .inl (fun _ => 0))), (a10, .inl (K 2, 108000, .inl f9)), (a11, .inl (K 0, 900, .inl f10)), (a0, .inr (11, (((s0.set 0 (.int 0)).set 38 (.int 0)).set 2 (.int 0))))]) (v := .int 0) C hP hD hS 10 rfl rfl inlX12 tyX12_ok nmX12 2 (by decide) m_9_19 rfl rfl rfl (sl (sl n0)) rfl dX12_errors_19 (fun H locs hP hD hS => ?_)
  refine lv_aload_n C.1 C.2.1 dX12_errors_22 rfl (lv_at hl 0 rfl) ?_
  refine lv_iconst (v := 0) C.1 C.2.1 dX12_errors_23 (by decide) ?_
  refine k_put (ws' := [(a2, .inl (K 0, 7999, .inl f1)), (a3, .inl (K 0, 9, .inl f2)), (a4, .inl (K 1, 20, .inr (.inl f3))), (a5, .inl (K 3, 20, .inl f4)), (a6, .inl (K 3, 7999, .inl f5)), (a7, .inl (K 3, 10, .inl f6)), (a8, .inl (K 2, 240, .inl (fun _ => 0))), (a9, .inl (K 0, 3, .inl (fun _ => 0))), (a10, .inl (K 2, 108000, .inl f9)), (a11, .inl (K 0, 900, .inl f10)), (a0, .inr (11, ((((s0.set 0 (.int 0)).set 38 (.int 0)).set 2 (.int 0)).set 46 (.int 0))))]) (v := .int 0) C hP hD hS 10 rfl rfl inlX12 tyX12_ok nmX12 46 (by decide) m_28_22 rfl (by decide) (by decide) (sl (sl (sl n0))) rfl dX12_errors_24 (fun H locs hP hD hS => ?_)
  refine lv_aload_n C.1 C.2.1 dX12_errors_27 rfl (lv_at hl 0 rfl) ?_
  refine k_Vi (As := []) (rest := []) C hP hD hS hA (c_X12_goOver l D K a0 a2 a3 a4 a5 a6 a7 a8 a9 a10 a11 (((((s0.set 0 (.int 0)).set 38 (.int 0)).set 2 (.int 0)).set 46 (.int 0))) (sl (sl (sl (sl n0)))) f1 f2 f3 f4 f5 f6 f9 f10 (sn (by decide) (sn (by decide) (sn (by decide) (sn (by decide) e0_3)))) (sn (by decide) (sn (by decide) (sn (by decide) (sn (by decide) e0_4)))) (sn (by decide) (sn (by decide) (sn (by decide) (sn (by decide) e0_19)))) (sn (by decide) (sn (by decide) (sn (by decide) (sn (by decide) e0_20)))) (sn (by decide) (sn (by decide) (sn (by decide) (sn (by decide) e0_49)))) (sn (by decide) (sn (by decide) (sn (by decide) (sn (by decide) e0_59)))) (sn (by decide) (sn (by decide) (ss (sk (sl n0) (by decide))))) (sn (by decide) (sn (by decide) (sn (by decide) (sn (by decide) e0_29)))) (sn (by decide) (sn (by decide) (sn (by decide) (sn (by decide) e0_31)))) (sn (by decide) (sn (by decide) (sn (by decide) (sn (by decide) e0_28)))) (sn (by decide) (sn (by decide) (sn (by decide) (sn (by decide) e0_26)))) (sn (by decide) (sn (by decide) (sn (by decide) (sn (by decide) e0_27))))) X0_ok trivial (uwV m_41_20 m_41_21 m_41_22 m_1_5 m_41_23) (hdV 0 (by decide +kernel) rfl) ⟨Nat.le_of_ble_eq_true rfl, Nat.le_of_ble_eq_true rfl⟩ rfl rfl (ci := 11) rfl rfl (isC := [10, 0, 1, 2, 3, 4, 5, 6, 7, 8, 9]) (isR := []) (wr := []) ⟨rfl, rfl, rfl, rfl, by decide⟩ rfl hl.1 (Nat.le_of_ble_eq_true rfl) dX12_errors_28 ⟨Nat.le_of_ble_eq_true rfl, Nat.le_of_ble_eq_true rfl⟩ (fun r_4 u_3 H locs hw hP hD hS => ?_)
  obtain rfl := hw
  have hP : va_P D vwCl [(a0, .inr (11, (((((((((((((((((((((((((((((((((((s0.set 0 (.int 0)).set 38 (.int 0)).set 2 (.int 0)).set 46 (.int 0)).set 5 (.int 0)).set 6 (.int 1)).set 7 (.int 0)).set 8 (.long 0)).set 9 (.int 9)).set 10 (.int 0)).set 11 (.int 0)).set 12 (.int 0)).set 91 (.int 0)).set 42 (.int 0)).set 70 (.int 0)).set 47 (.int 0)).set 48 (.int 0)).set 45 (.int 0)).set 52 (.int 0)).set 60 (.int 0)).set 41 (.int 0)).set 43 (.int 0)).set 67 (.int 0)).set 70 (.int 7)).set 43 (.int 7)).set 30 (.int 0)).set 30 (.int 1)).set 30 (.int 2)).set 30 (.int 3)).set 30 (.int 4)).set 30 (.int 5)).set 30 (.int 6)).set 30 (.int 7)).set 30 (.int 6)).set 67 (.int 1)))), (a2, .inl (K 0, 7999, .inl (fun _ => 0))), (a3, .inl (K 0, 9, .inl (fun _ => 0))), (a4, .inl (K 1, 20, .inr (.inl (vp_updL (vp_updL (vp_updL (vp_updL (vp_updL (vp_updL (vp_updL (vp_updL (vp_updL (vp_updL (vp_updL (vp_updL (vp_updL (vp_updL (vp_updL (vp_updL (vp_updL (vp_updL (vp_updL (vp_updL f3 0 0) 1 0) 2 0) 3 0) 4 0) 5 0) 6 0) 7 0) 8 0) 9 0) 10 0) 11 0) 12 0) 13 0) 14 0) 15 0) 16 0) 17 0) 18 0) 19 0)))), (a5, .inl (K 3, 20, .inl (upd (upd (upd (upd (upd (upd (upd (upd (upd (upd (upd (upd (upd (upd (upd (upd (upd (upd (upd (upd f4 0 0) 1 0) 2 0) 3 0) 4 0) 5 0) 6 0) 7 0) 8 0) 9 0) 10 0) 11 0) 12 0) 13 0) 14 0) 15 0) 16 0) 17 0) 18 0) 19 0))), (a6, .inl (K 3, 7999, .inl (fun _ => 0))), (a7, .inl (K 3, 10, .inl (fun _ => 0))), (a8, .inl (K 2, 240, .inl (upd (upd (upd (upd (upd (upd (upd (fun _ => 0) 0 48) 1 48) 2 48) 3 49) 4 32) 5 55) 6 32))), (a9, .inl (K 0, 3, .inl (upd (fun _ => 0) 1 1))), (a10, .inl (K 2, 108000, .inl (upd (upd (upd (upd (upd (upd f9 36000 48) 36001 48) 36002 48) 36003 49) 36004 32) 36005 55))), (a11, .inl (K 0, 900, .inl (upd f10 300 6)))] H := hP
  have hD : va_D A [(a0, .inr (11, (((((((((((((((((((((((((((((((((((s0.set 0 (.int 0)).set 38 (.int 0)).set 2 (.int 0)).set 46 (.int 0)).set 5 (.int 0)).set 6 (.int 1)).set 7 (.int 0)).set 8 (.long 0)).set 9 (.int 9)).set 10 (.int 0)).set 11 (.int 0)).set 12 (.int 0)).set 91 (.int 0)).set 42 (.int 0)).set 70 (.int 0)).set 47 (.int 0)).set 48 (.int 0)).set 45 (.int 0)).set 52 (.int 0)).set 60 (.int 0)).set 41 (.int 0)).set 43 (.int 0)).set 67 (.int 0)).set 70 (.int 7)).set 43 (.int 7)).set 30 (.int 0)).set 30 (.int 1)).set 30 (.int 2)).set 30 (.int 3)).set 30 (.int 4)).set 30 (.int 5)).set 30 (.int 6)).set 30 (.int 7)).set 30 (.int 6)).set 67 (.int 1)))), (a2, .inl (K 0, 7999, .inl (fun _ => 0))), (a3, .inl (K 0, 9, .inl (fun _ => 0))), (a4, .inl (K 1, 20, .inr (.inl (vp_updL (vp_updL (vp_updL (vp_updL (vp_updL (vp_updL (vp_updL (vp_updL (vp_updL (vp_updL (vp_updL (vp_updL (vp_updL (vp_updL (vp_updL (vp_updL (vp_updL (vp_updL (vp_updL (vp_updL f3 0 0) 1 0) 2 0) 3 0) 4 0) 5 0) 6 0) 7 0) 8 0) 9 0) 10 0) 11 0) 12 0) 13 0) 14 0) 15 0) 16 0) 17 0) 18 0) 19 0)))), (a5, .inl (K 3, 20, .inl (upd (upd (upd (upd (upd (upd (upd (upd (upd (upd (upd (upd (upd (upd (upd (upd (upd (upd (upd (upd f4 0 0) 1 0) 2 0) 3 0) 4 0) 5 0) 6 0) 7 0) 8 0) 9 0) 10 0) 11 0) 12 0) 13 0) 14 0) 15 0) 16 0) 17 0) 18 0) 19 0))), (a6, .inl (K 3, 7999, .inl (fun _ => 0))), (a7, .inl (K 3, 10, .inl (fun _ => 0))), (a8, .inl (K 2, 240, .inl (upd (upd (upd (upd (upd (upd (upd (fun _ => 0) 0 48) 1 48) 2 48) 3 49) 4 32) 5 55) 6 32))), (a9, .inl (K 0, 3, .inl (upd (fun _ => 0) 1 1))), (a10, .inl (K 2, 108000, .inl (upd (upd (upd (upd (upd (upd f9 36000 48) 36001 48) 36002 48) 36003 49) 36004 32) 36005 55))), (a11, .inl (K 0, 900, .inl (upd f10 300 6)))] := hD
  exact k_iret C hr hlocks hP hD hS rfl (fun _ => 0) [] rfl rfl rfl (Nat.le_of_ble_eq_true rfl) (Nat.le_of_ble_eq_true rfl) dX12_errors_31
