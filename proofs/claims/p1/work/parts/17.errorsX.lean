theorem dX4_mark_0 : decode cX4_mark 0 = .ok (.iload_n 1, 1) := by decide +kernel
theorem dX4_mark_1 : decode cX4_mark 1 = .ok (.iconst 1, 1) := by decide +kernel
theorem dX4_mark_11 : decode cX4_mark 11 = .ok (.aload_n 0, 1) := by decide +kernel
theorem dX4_mark_12 : decode cX4_mark 12 = .ok (.getfield 21, 3) := by decide +kernel
theorem dX4_mark_15 : decode cX4_mark 15 = .ok (.iload_n 1, 1) := by decide +kernel
theorem dX4_mark_16 : decode cX4_mark 16 = .ok (.iconst 1, 1) := by decide +kernel
theorem dX4_mark_17 : decode cX4_mark 17 = .ok (.isub, 1) := by decide +kernel
theorem dX4_mark_18 : decode cX4_mark 18 = .ok (.iload_n 2, 1) := by decide +kernel
theorem dX4_mark_19 : decode cX4_mark 19 = .ok (.i2b, 1) := by decide +kernel
theorem dX4_mark_2 : decode cX4_mark 2 = .ok (.if_icmp .lt 19, 3) := by decide +kernel
theorem dX4_mark_20 : decode cX4_mark 20 = .ok (.bastore, 1) := by decide +kernel
theorem dX4_mark_21 : decode cX4_mark 21 = .ok (.return_, 1) := by decide +kernel
theorem dX4_mark_5 : decode cX4_mark 5 = .ok (.iload_n 1, 1) := by decide +kernel
theorem dX4_mark_6 : decode cX4_mark 6 = .ok (.bipush 120, 2) := by decide +kernel
theorem dX4_mark_8 : decode cX4_mark 8 = .ok (.if_icmp .gt 13, 3) := by decide +kernel
theorem dX4_digits_0 : decode cX4_digits 0 = .ok (.lload_n 3, 1) := by decide +kernel
theorem dX4_digits_1 : decode cX4_digits 1 = .ok (.lstore 5, 2) := by decide +kernel
theorem dX4_digits_10 : decode cX4_digits 10 = .ok (.iload 7, 2) := by decide +kernel
theorem dX4_digits_12 : decode cX4_digits 12 = .ok (.iload_n 1, 1) := by decide +kernel
theorem dX4_digits_13 : decode cX4_digits 13 = .ok (.if_icmp .lt 33, 3) := by decide +kernel
theorem dX4_digits_16 : decode cX4_digits 16 = .ok (.aload_n 0, 1) := by decide +kernel
theorem dX4_digits_17 : decode cX4_digits 17 = .ok (.iload 7, 2) := by decide +kernel
theorem dX4_digits_19 : decode cX4_digits 19 = .ok (.bipush 48, 2) := by decide +kernel
theorem dX4_digits_21 : decode cX4_digits 21 = .ok (.lload 5, 2) := by decide +kernel
theorem dX4_digits_23 : decode cX4_digits 23 = .ok (.ldc2_w 38, 3) := by decide +kernel
theorem dX4_digits_26 : decode cX4_digits 26 = .ok (.lrem, 1) := by decide +kernel
theorem dX4_digits_27 : decode cX4_digits 27 = .ok (.l2i, 1) := by decide +kernel
theorem dX4_digits_28 : decode cX4_digits 28 = .ok (.iadd, 1) := by decide +kernel
theorem dX4_digits_29 : decode cX4_digits 29 = .ok (.invokevirtual 34, 3) := by decide +kernel
theorem dX4_digits_3 : decode cX4_digits 3 = .ok (.iload_n 1, 1) := by decide +kernel
theorem dX4_digits_32 : decode cX4_digits 32 = .ok (.lload 5, 2) := by decide +kernel
theorem dX4_digits_34 : decode cX4_digits 34 = .ok (.ldc2_w 38, 3) := by decide +kernel
theorem dX4_digits_37 : decode cX4_digits 37 = .ok (.ldiv, 1) := by decide +kernel
theorem dX4_digits_38 : decode cX4_digits 38 = .ok (.lstore 5, 2) := by decide +kernel
theorem dX4_digits_4 : decode cX4_digits 4 = .ok (.iload_n 2, 1) := by decide +kernel
theorem dX4_digits_40 : decode cX4_digits 40 = .ok (.iinc 7 (-1), 3) := by decide +kernel
theorem dX4_digits_43 : decode cX4_digits 43 = .ok (.goto (-33), 3) := by decide +kernel
theorem dX4_digits_46 : decode cX4_digits 46 = .ok (.return_, 1) := by decide +kernel
theorem dX4_digits_5 : decode cX4_digits 5 = .ok (.iadd, 1) := by decide +kernel
theorem dX4_digits_6 : decode cX4_digits 6 = .ok (.iconst 1, 1) := by decide +kernel
theorem dX4_digits_7 : decode cX4_digits 7 = .ok (.isub, 1) := by decide +kernel
theorem dX4_digits_8 : decode cX4_digits 8 = .ok (.istore 7, 2) := by decide +kernel
theorem dX4_finish_0 : decode cX4_finish 0 = .ok (.iconst 0, 1) := by decide +kernel
theorem dX4_finish_1 : decode cX4_finish 1 = .ok (.istore_n 3, 1) := by decide +kernel
theorem dX4_finish_100 : decode cX4_finish 100 = .ok (.aastore, 1) := by decide +kernel
theorem dX4_finish_101 : decode cX4_finish 101 = .ok (.aload_n 0, 1) := by decide +kernel
theorem dX4_finish_102 : decode cX4_finish 102 = .ok (.getfield 21, 3) := by decide +kernel
theorem dX4_finish_105 : decode cX4_finish 105 = .ok (.iconst 0, 1) := by decide +kernel
theorem dX4_finish_106 : decode cX4_finish 106 = .ok (.aload_n 0, 1) := by decide +kernel
theorem dX4_finish_107 : decode cX4_finish 107 = .ok (.getfield 13, 3) := by decide +kernel
theorem dX4_finish_110 : decode cX4_finish 110 = .ok (.aload_n 0, 1) := by decide +kernel
theorem dX4_finish_111 : decode cX4_finish 111 = .ok (.getfield 64, 3) := by decide +kernel
theorem dX4_finish_114 : decode cX4_finish 114 = .ok (.aaload, 1) := by decide +kernel
theorem dX4_finish_115 : decode cX4_finish 115 = .ok (.iconst 0, 1) := by decide +kernel
theorem dX4_finish_116 : decode cX4_finish 116 = .ok (.iload_n 3, 1) := by decide +kernel
theorem dX4_finish_117 : decode cX4_finish 117 = .ok (.invokestatic 68, 3) := by decide +kernel
theorem dX4_finish_12 : decode cX4_finish 12 = .ok (.iload 4, 2) := by decide +kernel
theorem dX4_finish_120 : decode cX4_finish 120 = .ok (.aload_n 0, 1) := by decide +kernel
theorem dX4_finish_121 : decode cX4_finish 121 = .ok (.getfield 17, 3) := by decide +kernel
theorem dX4_finish_124 : decode cX4_finish 124 = .ok (.aload_n 0, 1) := by decide +kernel
theorem dX4_finish_125 : decode cX4_finish 125 = .ok (.getfield 64, 3) := by decide +kernel
theorem dX4_finish_128 : decode cX4_finish 128 = .ok (.iload_n 3, 1) := by decide +kernel
theorem dX4_finish_129 : decode cX4_finish 129 = .ok (.iastore, 1) := by decide +kernel
theorem dX4_finish_130 : decode cX4_finish 130 = .ok (.aload_n 0, 1) := by decide +kernel
theorem dX4_finish_131 : decode cX4_finish 131 = .ok (.dup, 1) := by decide +kernel
theorem dX4_finish_132 : decode cX4_finish 132 = .ok (.getfield 64, 3) := by decide +kernel
theorem dX4_finish_135 : decode cX4_finish 135 = .ok (.iconst 1, 1) := by decide +kernel
theorem dX4_finish_136 : decode cX4_finish 136 = .ok (.iadd, 1) := by decide +kernel
theorem dX4_finish_137 : decode cX4_finish 137 = .ok (.putfield 64, 3) := by decide +kernel
theorem dX4_finish_14 : decode cX4_finish 14 = .ok (.iload_n 1, 1) := by decide +kernel
theorem dX4_finish_140 : decode cX4_finish 140 = .ok (.aload_n 0, 1) := by decide +kernel
theorem dX4_finish_141 : decode cX4_finish 141 = .ok (.getfield 21, 3) := by decide +kernel
theorem dX4_finish_144 : decode cX4_finish 144 = .ok (.bipush 32, 2) := by decide +kernel
theorem dX4_finish_146 : decode cX4_finish 146 = .ok (.invokestatic 74, 3) := by decide +kernel
theorem dX4_finish_149 : decode cX4_finish 149 = .ok (.return_, 1) := by decide +kernel
theorem dX4_finish_15 : decode cX4_finish 15 = .ok (.if_icmp .ge 51, 3) := by decide +kernel
theorem dX4_finish_18 : decode cX4_finish 18 = .ok (.iload_n 2, 1) := by decide +kernel
theorem dX4_finish_19 : decode cX4_finish 19 = .ok (.ifCond .eq 24, 3) := by decide +kernel
theorem dX4_finish_2 : decode cX4_finish 2 = .ok (.iconst 0, 1) := by decide +kernel
theorem dX4_finish_3 : decode cX4_finish 3 = .ok (.istore 4, 2) := by decide +kernel
theorem dX4_finish_43 : decode cX4_finish 43 = .ok (.aload_n 0, 1) := by decide +kernel
theorem dX4_finish_44 : decode cX4_finish 44 = .ok (.getfield 21, 3) := by decide +kernel
theorem dX4_finish_47 : decode cX4_finish 47 = .ok (.iload 4, 2) := by decide +kernel
theorem dX4_finish_49 : decode cX4_finish 49 = .ok (.baload, 1) := by decide +kernel
theorem dX4_finish_5 : decode cX4_finish 5 = .ok (.iload 4, 2) := by decide +kernel
theorem dX4_finish_50 : decode cX4_finish 50 = .ok (.bipush 32, 2) := by decide +kernel
theorem dX4_finish_52 : decode cX4_finish 52 = .ok (.if_icmp .eq 8, 3) := by decide +kernel
theorem dX4_finish_55 : decode cX4_finish 55 = .ok (.iload 4, 2) := by decide +kernel
theorem dX4_finish_57 : decode cX4_finish 57 = .ok (.iconst 1, 1) := by decide +kernel
theorem dX4_finish_58 : decode cX4_finish 58 = .ok (.iadd, 1) := by decide +kernel
theorem dX4_finish_59 : decode cX4_finish 59 = .ok (.istore_n 3, 1) := by decide +kernel
theorem dX4_finish_60 : decode cX4_finish 60 = .ok (.iinc 4 1, 3) := by decide +kernel
theorem dX4_finish_63 : decode cX4_finish 63 = .ok (.goto (-58), 3) := by decide +kernel
theorem dX4_finish_66 : decode cX4_finish 66 = .ok (.aload_n 0, 1) := by decide +kernel
theorem dX4_finish_67 : decode cX4_finish 67 = .ok (.getfield 64, 3) := by decide +kernel
theorem dX4_finish_7 : decode cX4_finish 7 = .ok (.bipush 120, 2) := by decide +kernel
theorem dX4_finish_70 : decode cX4_finish 70 = .ok (.sipush 300, 3) := by decide +kernel
theorem dX4_finish_73 : decode cX4_finish 73 = .ok (.if_icmp .ge 67, 3) := by decide +kernel
theorem dX4_finish_76 : decode cX4_finish 76 = .ok (.aload_n 0, 1) := by decide +kernel
theorem dX4_finish_77 : decode cX4_finish 77 = .ok (.getfield 13, 3) := by decide +kernel
theorem dX4_finish_80 : decode cX4_finish 80 = .ok (.aload_n 0, 1) := by decide +kernel
theorem dX4_finish_81 : decode cX4_finish 81 = .ok (.getfield 64, 3) := by decide +kernel
theorem dX4_finish_84 : decode cX4_finish 84 = .ok (.aaload, 1) := by decide +kernel
theorem dX4_finish_85 : decode cX4_finish 85 = .ok (.ifnonnull 16, 3) := by decide +kernel
theorem dX4_finish_88 : decode cX4_finish 88 = .ok (.aload_n 0, 1) := by decide +kernel
theorem dX4_finish_89 : decode cX4_finish 89 = .ok (.getfield 13, 3) := by decide +kernel
theorem dX4_finish_9 : decode cX4_finish 9 = .ok (.if_icmp .ge 57, 3) := by decide +kernel
theorem dX4_finish_92 : decode cX4_finish 92 = .ok (.aload_n 0, 1) := by decide +kernel
theorem dX4_finish_93 : decode cX4_finish 93 = .ok (.getfield 64, 3) := by decide +kernel
theorem dX4_finish_96 : decode cX4_finish 96 = .ok (.bipush 120, 2) := by decide +kernel
theorem dX4_finish_98 : decode cX4_finish 98 = .ok (.newarray .byte, 2) := by decide +kernel
theorem dX0_nextWrong_107 : decode cX0_nextWrong 107 = .ok (.iconst 0, 1) := by decide +kernel
theorem dX0_nextWrong_108 : decode cX0_nextWrong 108 = .ok (.ireturn, 1) := by decide +kernel
theorem dX7_printWrongs_0 : decode cX7_printWrongs 0 = .ok (.iconst 0, 1) := by decide +kernel
theorem dX7_printWrongs_1 : decode cX7_printWrongs 1 = .ok (.istore_n 3, 1) := by decide +kernel
theorem dX7_printWrongs_10 : decode cX7_printWrongs 10 = .ok (.sipush 8193, 3) := by decide +kernel
theorem dX7_printWrongs_106 : decode cX7_printWrongs 106 = .ok (.aload_n 0, 1) := by decide +kernel
theorem dX7_printWrongs_107 : decode cX7_printWrongs 107 = .ok (.getfield 25, 3) := by decide +kernel
theorem dX7_printWrongs_110 : decode cX7_printWrongs 110 = .ok (.iload_n 1, 1) := by decide +kernel
theorem dX7_printWrongs_111 : decode cX7_printWrongs 111 = .ok (.iload_n 2, 1) := by decide +kernel
theorem dX7_printWrongs_112 : decode cX7_printWrongs 112 = .ok (.invokevirtual 56, 3) := by decide +kernel
theorem dX7_printWrongs_115 : decode cX7_printWrongs 115 = .ok (.iinc 3 1, 3) := by decide +kernel
theorem dX7_printWrongs_118 : decode cX7_printWrongs 118 = .ok (.iinc 5 1, 3) := by decide +kernel
theorem dX7_printWrongs_121 : decode cX7_printWrongs 121 = .ok (.goto (-113), 3) := by decide +kernel
theorem dX7_printWrongs_124 : decode cX7_printWrongs 124 = .ok (.aload_n 0, 1) := by decide +kernel
theorem dX7_printWrongs_125 : decode cX7_printWrongs 125 = .ok (.getfield 15, 3) := by decide +kernel
theorem dX7_printWrongs_128 : decode cX7_printWrongs 128 = .ok (.iload 4, 2) := by decide +kernel
theorem dX7_printWrongs_13 : decode cX7_printWrongs 13 = .ok (.if_icmp .gt 111, 3) := by decide +kernel
theorem dX7_printWrongs_130 : decode cX7_printWrongs 130 = .ok (.putfield 157, 3) := by decide +kernel
theorem dX7_printWrongs_133 : decode cX7_printWrongs 133 = .ok (.iload_n 3, 1) := by decide +kernel
theorem dX7_printWrongs_134 : decode cX7_printWrongs 134 = .ok (.ireturn, 1) := by decide +kernel
theorem dX7_printWrongs_16 : decode cX7_printWrongs 16 = .ok (.aload_n 0, 1) := by decide +kernel
theorem dX7_printWrongs_17 : decode cX7_printWrongs 17 = .ok (.getfield 15, 3) := by decide +kernel
theorem dX7_printWrongs_2 : decode cX7_printWrongs 2 = .ok (.iconst 0, 1) := by decide +kernel
theorem dX7_printWrongs_20 : decode cX7_printWrongs 20 = .ok (.invokevirtual 153, 3) := by decide +kernel
theorem dX7_printWrongs_23 : decode cX7_printWrongs 23 = .ok (.istore 6, 2) := by decide +kernel
theorem dX7_printWrongs_25 : decode cX7_printWrongs 25 = .ok (.iload 6, 2) := by decide +kernel
theorem dX7_printWrongs_27 : decode cX7_printWrongs 27 = .ok (.ifCond .ne 6, 3) := by decide +kernel
theorem dX7_printWrongs_3 : decode cX7_printWrongs 3 = .ok (.istore 4, 2) := by decide +kernel
theorem dX7_printWrongs_30 : decode cX7_printWrongs 30 = .ok (.goto 94, 3) := by decide +kernel
theorem dX7_printWrongs_33 : decode cX7_printWrongs 33 = .ok (.iload 4, 2) := by decide +kernel
theorem dX7_printWrongs_35 : decode cX7_printWrongs 35 = .ok (.ifCond .ne 8, 3) := by decide +kernel
theorem dX7_printWrongs_38 : decode cX7_printWrongs 38 = .ok (.iload 6, 2) := by decide +kernel
theorem dX7_printWrongs_40 : decode cX7_printWrongs 40 = .ok (.goto 5, 3) := by decide +kernel
theorem dX7_printWrongs_45 : decode cX7_printWrongs 45 = .ok (.istore 4, 2) := by decide +kernel
theorem dX7_printWrongs_47 : decode cX7_printWrongs 47 = .ok (.aload_n 0, 1) := by decide +kernel
theorem dX7_printWrongs_48 : decode cX7_printWrongs 48 = .ok (.getfield 25, 3) := by decide +kernel
theorem dX7_printWrongs_5 : decode cX7_printWrongs 5 = .ok (.iconst 0, 1) := by decide +kernel
theorem dX7_printWrongs_51 : decode cX7_printWrongs 51 = .ok (.iconst 1, 1) := by decide +kernel
theorem dX7_printWrongs_52 : decode cX7_printWrongs 52 = .ok (.iconst 4, 1) := by decide +kernel
theorem dX7_printWrongs_53 : decode cX7_printWrongs 53 = .ok (.aload_n 0, 1) := by decide +kernel
theorem dX7_printWrongs_54 : decode cX7_printWrongs 54 = .ok (.getfield 15, 3) := by decide +kernel
theorem dX7_printWrongs_57 : decode cX7_printWrongs 57 = .ok (.getfield 90, 3) := by decide +kernel
theorem dX7_printWrongs_6 : decode cX7_printWrongs 6 = .ok (.istore 5, 2) := by decide +kernel
theorem dX7_printWrongs_60 : decode cX7_printWrongs 60 = .ok (.getfield 106, 3) := by decide +kernel
theorem dX7_printWrongs_63 : decode cX7_printWrongs 63 = .ok (.i2l, 1) := by decide +kernel
theorem dX7_printWrongs_64 : decode cX7_printWrongs 64 = .ok (.invokevirtual 42, 3) := by decide +kernel
theorem dX7_printWrongs_67 : decode cX7_printWrongs 67 = .ok (.aload_n 0, 1) := by decide +kernel
theorem dX7_printWrongs_68 : decode cX7_printWrongs 68 = .ok (.getfield 25, 3) := by decide +kernel
theorem dX7_printWrongs_71 : decode cX7_printWrongs 71 = .ok (.bipush 6, 2) := by decide +kernel
theorem dX7_printWrongs_73 : decode cX7_printWrongs 73 = .ok (.iconst 1, 1) := by decide +kernel
theorem dX7_printWrongs_74 : decode cX7_printWrongs 74 = .ok (.iload 6, 2) := by decide +kernel
theorem dX7_printWrongs_76 : decode cX7_printWrongs 76 = .ok (.i2l, 1) := by decide +kernel
theorem dX7_printWrongs_77 : decode cX7_printWrongs 77 = .ok (.invokevirtual 42, 3) := by decide +kernel
theorem dX7_printWrongs_8 : decode cX7_printWrongs 8 = .ok (.iload 5, 2) := by decide +kernel
theorem dX7_printWrongs_80 : decode cX7_printWrongs 80 = .ok (.iload 6, 2) := by decide +kernel
theorem dX7_printWrongs_82 : decode cX7_printWrongs 82 = .ok (.bipush 7, 2) := by decide +kernel
theorem dX7_printWrongs_84 : decode cX7_printWrongs 84 = .ok (.if_icmp .eq 22, 3) := by decide +kernel
theorem dX11_errors_0 : decode cX11_errors 0 = .ok (.aload_n 0, 1) := by decide +kernel
theorem dX11_errors_1 : decode cX11_errors 1 = .ok (.invokevirtual 78, 3) := by decide +kernel
theorem dX11_errors_10 : decode cX11_errors 10 = .ok (.aload_n 0, 1) := by decide +kernel
theorem dX11_errors_11 : decode cX11_errors 11 = .ok (.getfield 36, 3) := by decide +kernel
theorem dX11_errors_14 : decode cX11_errors 14 = .ok (.getfield 82, 3) := by decide +kernel
theorem dX11_errors_17 : decode cX11_errors 17 = .ok (.iconst 0, 1) := by decide +kernel
theorem dX11_errors_18 : decode cX11_errors 18 = .ok (.iload_n 1, 1) := by decide +kernel
theorem dX11_errors_19 : decode cX11_errors 19 = .ok (.invokestatic 85, 3) := by decide +kernel
theorem dX11_errors_22 : decode cX11_errors 22 = .ok (.aload_n 0, 1) := by decide +kernel
theorem dX11_errors_23 : decode cX11_errors 23 = .ok (.getfield 44, 3) := by decide +kernel
theorem dX11_errors_26 : decode cX11_errors 26 = .ok (.invokevirtual 91, 3) := by decide +kernel
theorem dX11_errors_29 : decode cX11_errors 29 = .ok (.aload_n 0, 1) := by decide +kernel
theorem dX11_errors_30 : decode cX11_errors 30 = .ok (.getfield 48, 3) := by decide +kernel
theorem dX11_errors_33 : decode cX11_errors 33 = .ok (.iconst 0, 1) := by decide +kernel
theorem dX11_errors_34 : decode cX11_errors 34 = .ok (.iload_n 1, 1) := by decide +kernel
theorem dX11_errors_35 : decode cX11_errors 35 = .ok (.iconst 0, 1) := by decide +kernel
theorem dX11_errors_36 : decode cX11_errors 36 = .ok (.invokevirtual 94, 3) := by decide +kernel
theorem dX11_errors_39 : decode cX11_errors 39 = .ok (.aload_n 0, 1) := by decide +kernel
theorem dX11_errors_4 : decode cX11_errors 4 = .ok (.istore_n 1, 1) := by decide +kernel
theorem dX11_errors_40 : decode cX11_errors 40 = .ok (.getfield 57, 3) := by decide +kernel
theorem dX11_errors_43 : decode cX11_errors 43 = .ok (.bipush 120, 2) := by decide +kernel
theorem dX11_errors_45 : decode cX11_errors 45 = .ok (.iconst 0, 1) := by decide +kernel
theorem dX11_errors_46 : decode cX11_errors 46 = .ok (.invokevirtual 117, 3) := by decide +kernel
theorem dX11_errors_49 : decode cX11_errors 49 = .ok (.istore_n 2, 1) := by decide +kernel
theorem dX11_errors_5 : decode cX11_errors 5 = .ok (.aload_n 0, 1) := by decide +kernel
theorem dX11_errors_50 : decode cX11_errors 50 = .ok (.aload_n 0, 1) := by decide +kernel
theorem dX11_errors_51 : decode cX11_errors 51 = .ok (.getfield 44, 3) := by decide +kernel
theorem dX11_errors_54 : decode cX11_errors 54 = .ok (.invokevirtual 91, 3) := by decide +kernel
theorem dX11_errors_57 : decode cX11_errors 57 = .ok (.iload_n 2, 1) := by decide +kernel
theorem dX11_errors_58 : decode cX11_errors 58 = .ok (.ireturn, 1) := by decide +kernel
theorem dX11_errors_6 : decode cX11_errors 6 = .ok (.getfield 32, 3) := by decide +kernel
theorem dX11_errors_9 : decode cX11_errors 9 = .ok (.iconst 0, 1) := by decide +kernel
set_option maxHeartbeats 4000000 in
set_option maxRecDepth 100000 in
theorem c_X4_mark (l : Launch) (D : va_G) (K : Nat → ClassId) (a0 : Nat) (a1 : Nat) (s0 : List Value) (n0 : s0.length = 4) (f1 : Nat → Int32) (e0_2 : s0[2]? = some (.ref a1)) : uMet l yX4_mark cX4_mark 3 none (rmD 0 0 0) D K X0 [.ref a0, .int 4, .int 49] [(a0, .inr (3, s0)), (a1, .inl (K 2, 120, .inl f1))] (QV D K (fun (u : Nat → Nat) => True) (fun (u : Nat → Nat) => [(a0, .inr (3, s0)), (a1, .inl (K 2, 120, .inl (upd f1 3 49)))])) 0 0 := by
  refine k_met RX4 ⟨rfl, by decide +kernel⟩ (Nat.le_of_ble_eq_true rfl) ?_
  intro p e s m below meth c A ls C hX hr hlocks hin hA hP hD hS hl
  have hl : lv_has ls 3 [(0, .ref a0), (1, .int 4), (2, .int 49)] := hl
  refine lv_iload_n C.1 C.2.1 dX4_mark_0 rfl (lv_at hl 1 rfl) ?_
  refine lv_iconst (v := 1) C.1 C.2.1 dX4_mark_1 (by decide) ?_
  refine lv_icmp_lt (tgt := 21) C.1 C.2.1 dX4_mark_2 (by decide) (fun h => absurd h (by decide)) (fun _ => ?_)
  refine lv_iload_n C.1 C.2.1 dX4_mark_5 rfl (lv_at hl 1 rfl) ?_
  refine lv_bipush (v := 120) C.1 C.2.1 dX4_mark_6 (by decide) ?_
  refine lv_icmp_gt (tgt := 21) C.1 C.2.1 dX4_mark_8 (by decide) (fun h => absurd h (by decide)) (fun _ => ?_)
  refine lv_aload_n C.1 C.2.1 dX4_mark_11 rfl (lv_at hl 0 rfl) ?_
  refine k_get (v := .ref a1) C hP 0 rfl rfl inlX4 2 (by decide) m_4_11 e0_2 dX4_mark_12 ?_
  refine lv_iload_n C.1 C.2.1 dX4_mark_15 rfl (lv_at hl 1 rfl) ?_
  refine lv_iconst (v := 1) C.1 C.2.1 dX4_mark_16 (by decide) ?_
  refine k_isub (v := 3) C (by decide) dX4_mark_17 ?_
  refine lv_iload_n C.1 C.2.1 dX4_mark_18 rfl (lv_at hl 2 rfl) ?_
  refine lv_i2b (v := 49) C.1 C.2.1 dX4_mark_19 (by decide) ?_
  refine k_bst (ws' := [(a0, .inr (3, s0)), (a1, .inl (K 2, 120, .inl (upd f1 3 49)))]) (j := 3) (x' := 49) C hP hD hS 1 rfl (vin (by decide)) (by decide) (by decide) rfl dX4_mark_20 (fun H locs hP hD hS => ?_)
  exact k_vret C hr hlocks hP hD hS (fun _ => 0) [0, 1] rfl rfl trivial (Nat.le_of_ble_eq_true rfl) (Nat.le_of_ble_eq_true rfl) dX4_mark_21
set_option maxHeartbeats 4000000 in
set_option maxRecDepth 100000 in
theorem c_X4_mark_2 (l : Launch) (D : va_G) (K : Nat → ClassId) (a0 : Nat) (a1 : Nat) (s0 : List Value) (n0 : s0.length = 4) (f1 : Nat → Int32) (e0_2 : s0[2]? = some (.ref a1)) : uMet l yX4_mark cX4_mark 3 none (rmD 0 0 0) D K X0 [.ref a0, .int 3, .int 48] [(a0, .inr (3, s0)), (a1, .inl (K 2, 120, .inl f1))] (QV D K (fun (u : Nat → Nat) => True) (fun (u : Nat → Nat) => [(a0, .inr (3, s0)), (a1, .inl (K 2, 120, .inl (upd f1 2 48)))])) 0 0 := by
  refine k_met RX4 ⟨rfl, by decide +kernel⟩ (Nat.le_of_ble_eq_true rfl) ?_
  intro p e s m below meth c A ls C hX hr hlocks hin hA hP hD hS hl
  have hl : lv_has ls 3 [(0, .ref a0), (1, .int 3), (2, .int 48)] := hl
  refine lv_iload_n C.1 C.2.1 dX4_mark_0 rfl (lv_at hl 1 rfl) ?_
  refine lv_iconst (v := 1) C.1 C.2.1 dX4_mark_1 (by decide) ?_
  refine lv_icmp_lt (tgt := 21) C.1 C.2.1 dX4_mark_2 (by decide) (fun h => absurd h (by decide)) (fun _ => ?_)
  refine lv_iload_n C.1 C.2.1 dX4_mark_5 rfl (lv_at hl 1 rfl) ?_
  refine lv_bipush (v := 120) C.1 C.2.1 dX4_mark_6 (by decide) ?_
  refine lv_icmp_gt (tgt := 21) C.1 C.2.1 dX4_mark_8 (by decide) (fun h => absurd h (by decide)) (fun _ => ?_)
  refine lv_aload_n C.1 C.2.1 dX4_mark_11 rfl (lv_at hl 0 rfl) ?_
  refine k_get (v := .ref a1) C hP 0 rfl rfl inlX4 2 (by decide) m_4_11 e0_2 dX4_mark_12 ?_
  refine lv_iload_n C.1 C.2.1 dX4_mark_15 rfl (lv_at hl 1 rfl) ?_
  refine lv_iconst (v := 1) C.1 C.2.1 dX4_mark_16 (by decide) ?_
  refine k_isub (v := 2) C (by decide) dX4_mark_17 ?_
  refine lv_iload_n C.1 C.2.1 dX4_mark_18 rfl (lv_at hl 2 rfl) ?_
  refine lv_i2b (v := 48) C.1 C.2.1 dX4_mark_19 (by decide) ?_
  refine k_bst (ws' := [(a0, .inr (3, s0)), (a1, .inl (K 2, 120, .inl (upd f1 2 48)))]) (j := 2) (x' := 48) C hP hD hS 1 rfl (vin (by decide)) (by decide) (by decide) rfl dX4_mark_20 (fun H locs hP hD hS => ?_)
  exact k_vret C hr hlocks hP hD hS (fun _ => 0) [0, 1] rfl rfl trivial (Nat.le_of_ble_eq_true rfl) (Nat.le_of_ble_eq_true rfl) dX4_mark_21
set_option maxHeartbeats 4000000 in
set_option maxRecDepth 100000 in
theorem c_X4_mark_3 (l : Launch) (D : va_G) (K : Nat → ClassId) (a0 : Nat) (a1 : Nat) (s0 : List Value) (n0 : s0.length = 4) (f1 : Nat → Int32) (e0_2 : s0[2]? = some (.ref a1)) : uMet l yX4_mark cX4_mark 3 none (rmD 0 0 0) D K X0 [.ref a0, .int 2, .int 48] [(a0, .inr (3, s0)), (a1, .inl (K 2, 120, .inl f1))] (QV D K (fun (u : Nat → Nat) => True) (fun (u : Nat → Nat) => [(a0, .inr (3, s0)), (a1, .inl (K 2, 120, .inl (upd f1 1 48)))])) 0 0 := by
  refine k_met RX4 ⟨rfl, by decide +kernel⟩ (Nat.le_of_ble_eq_true rfl) ?_
  intro p e s m below meth c A ls C hX hr hlocks hin hA hP hD hS hl
  have hl : lv_has ls 3 [(0, .ref a0), (1, .int 2), (2, .int 48)] := hl
  refine lv_iload_n C.1 C.2.1 dX4_mark_0 rfl (lv_at hl 1 rfl) ?_
  refine lv_iconst (v := 1) C.1 C.2.1 dX4_mark_1 (by decide) ?_
  refine lv_icmp_lt (tgt := 21) C.1 C.2.1 dX4_mark_2 (by decide) (fun h => absurd h (by decide)) (fun _ => ?_)
  refine lv_iload_n C.1 C.2.1 dX4_mark_5 rfl (lv_at hl 1 rfl) ?_
  refine lv_bipush (v := 120) C.1 C.2.1 dX4_mark_6 (by decide) ?_
  refine lv_icmp_gt (tgt := 21) C.1 C.2.1 dX4_mark_8 (by decide) (fun h => absurd h (by decide)) (fun _ => ?_)
  refine lv_aload_n C.1 C.2.1 dX4_mark_11 rfl (lv_at hl 0 rfl) ?_
  refine k_get (v := .ref a1) C hP 0 rfl rfl inlX4 2 (by decide) m_4_11 e0_2 dX4_mark_12 ?_
  refine lv_iload_n C.1 C.2.1 dX4_mark_15 rfl (lv_at hl 1 rfl) ?_
  refine lv_iconst (v := 1) C.1 C.2.1 dX4_mark_16 (by decide) ?_
  refine k_isub (v := 1) C (by decide) dX4_mark_17 ?_
  refine lv_iload_n C.1 C.2.1 dX4_mark_18 rfl (lv_at hl 2 rfl) ?_
  refine lv_i2b (v := 48) C.1 C.2.1 dX4_mark_19 (by decide) ?_
  refine k_bst (ws' := [(a0, .inr (3, s0)), (a1, .inl (K 2, 120, .inl (upd f1 1 48)))]) (j := 1) (x' := 48) C hP hD hS 1 rfl (vin (by decide)) (by decide) (by decide) rfl dX4_mark_20 (fun H locs hP hD hS => ?_)
  exact k_vret C hr hlocks hP hD hS (fun _ => 0) [0, 1] rfl rfl trivial (Nat.le_of_ble_eq_true rfl) (Nat.le_of_ble_eq_true rfl) dX4_mark_21
set_option maxHeartbeats 4000000 in
set_option maxRecDepth 100000 in
theorem c_X4_mark_4 (l : Launch) (D : va_G) (K : Nat → ClassId) (a0 : Nat) (a1 : Nat) (s0 : List Value) (n0 : s0.length = 4) (f1 : Nat → Int32) (e0_2 : s0[2]? = some (.ref a1)) : uMet l yX4_mark cX4_mark 3 none (rmD 0 0 0) D K X0 [.ref a0, .int 1, .int 48] [(a0, .inr (3, s0)), (a1, .inl (K 2, 120, .inl f1))] (QV D K (fun (u : Nat → Nat) => True) (fun (u : Nat → Nat) => [(a0, .inr (3, s0)), (a1, .inl (K 2, 120, .inl (upd f1 0 48)))])) 0 0 := by
  refine k_met RX4 ⟨rfl, by decide +kernel⟩ (Nat.le_of_ble_eq_true rfl) ?_
  intro p e s m below meth c A ls C hX hr hlocks hin hA hP hD hS hl
  have hl : lv_has ls 3 [(0, .ref a0), (1, .int 1), (2, .int 48)] := hl
  refine lv_iload_n C.1 C.2.1 dX4_mark_0 rfl (lv_at hl 1 rfl) ?_
  refine lv_iconst (v := 1) C.1 C.2.1 dX4_mark_1 (by decide) ?_
  refine lv_icmp_lt (tgt := 21) C.1 C.2.1 dX4_mark_2 (by decide) (fun h => absurd h (by decide)) (fun _ => ?_)
  refine lv_iload_n C.1 C.2.1 dX4_mark_5 rfl (lv_at hl 1 rfl) ?_
  refine lv_bipush (v := 120) C.1 C.2.1 dX4_mark_6 (by decide) ?_
  refine lv_icmp_gt (tgt := 21) C.1 C.2.1 dX4_mark_8 (by decide) (fun h => absurd h (by decide)) (fun _ => ?_)
  refine lv_aload_n C.1 C.2.1 dX4_mark_11 rfl (lv_at hl 0 rfl) ?_
  refine k_get (v := .ref a1) C hP 0 rfl rfl inlX4 2 (by decide) m_4_11 e0_2 dX4_mark_12 ?_
  refine lv_iload_n C.1 C.2.1 dX4_mark_15 rfl (lv_at hl 1 rfl) ?_
  refine lv_iconst (v := 1) C.1 C.2.1 dX4_mark_16 (by decide) ?_
  refine k_isub (v := 0) C (by decide) dX4_mark_17 ?_
  refine lv_iload_n C.1 C.2.1 dX4_mark_18 rfl (lv_at hl 2 rfl) ?_
  refine lv_i2b (v := 48) C.1 C.2.1 dX4_mark_19 (by decide) ?_
  refine k_bst (ws' := [(a0, .inr (3, s0)), (a1, .inl (K 2, 120, .inl (upd f1 0 48)))]) (j := 0) (x' := 48) C hP hD hS 1 rfl (vin (by decide)) (by decide) (by decide) rfl dX4_mark_20 (fun H locs hP hD hS => ?_)
  exact k_vret C hr hlocks hP hD hS (fun _ => 0) [0, 1] rfl rfl trivial (Nat.le_of_ble_eq_true rfl) (Nat.le_of_ble_eq_true rfl) dX4_mark_21
set_option maxHeartbeats 4000000 in
set_option maxRecDepth 100000 in
theorem c_X4_digits (l : Launch) (D : va_G) (K : Nat → ClassId) (a0 : Nat) (a1 : Nat) (s0 : List Value) (n0 : s0.length = 4) (f1 : Nat → Int32) (e0_2 : s0[2]? = some (.ref a1)) : uMet l yX4_digits cX4_digits 8 none (rmD 1 0 0) D K X0 [.ref a0, .int 1, .int 4, .long 1] [(a0, .inr (3, s0)), (a1, .inl (K 2, 120, .inl f1))] (QV D K (fun (u : Nat → Nat) => True) (fun (u : Nat → Nat) => [(a0, .inr (3, s0)), (a1, .inl (K 2, 120, .inl (upd (upd (upd (upd f1 3 49) 2 48) 1 48) 0 48)))])) 0 0 := by
  refine k_met RX4 ⟨rfl, by decide +kernel⟩ (Nat.le_of_ble_eq_true rfl) ?_
  intro p e s m below meth c A ls C hX hr hlocks hin hA hP hD hS hl
  have hl : lv_has ls 8 [(0, .ref a0), (1, .int 1), (2, .int 4), (3, .long 1)] := hl
  refine lv_lload_n C.1 C.2.1 dX4_digits_0 rfl (lv_at hl 3 rfl) ?_
  refine lv_lstore (lv' := [(5, .long 1), (0, .ref a0), (1, .int 1), (2, .int 4), (3, .long 1)]) C.1 C.2.1 dX4_digits_1 hl (by decide) rfl (fun ls hl => ?_)
  refine lv_iload_n C.1 C.2.1 dX4_digits_3 rfl (lv_at hl 2 rfl) ?_
  refine lv_iload_n C.1 C.2.1 dX4_digits_4 rfl (lv_at hl 3 rfl) ?_
  refine k_iadd (v := 5) C (by decide) dX4_digits_5 ?_
  refine lv_iconst (v := 1) C.1 C.2.1 dX4_digits_6 (by decide) ?_
  refine k_isub (v := 4) C (by decide) dX4_digits_7 ?_
  refine lv_istore (lv' := [(7, .int 4), (5, .long 1), (0, .ref a0), (1, .int 1), (2, .int 4), (3, .long 1)]) C.1 C.2.1 dX4_digits_8 hl (by decide) rfl (fun ls hl => ?_)
  refine lv_iload C.1 C.2.1 dX4_digits_10 (lv_at hl 0 rfl) ?_
  refine lv_iload_n C.1 C.2.1 dX4_digits_12 rfl (lv_at hl 3 rfl) ?_
  refine lv_icmp_lt (tgt := 46) C.1 C.2.1 dX4_digits_13 (by decide) (fun h => absurd h (by decide)) (fun _ => ?_)
  refine lv_aload_n C.1 C.2.1 dX4_digits_16 rfl (lv_at hl 2 rfl) ?_
  refine lv_iload C.1 C.2.1 dX4_digits_17 (lv_at hl 0 rfl) ?_
  refine lv_bipush (v := 48) C.1 C.2.1 dX4_digits_19 (by decide) ?_
  refine lv_lload C.1 C.2.1 dX4_digits_21 (lv_at hl 1 rfl) ?_
  refine lv_ldc2 (v := 10) C.1 C.2.1 C.2.2.2.1 (C.2.2.2.2.1 _ m_40_22) dX4_digits_23 ?_
  refine k_lrem (v := 1) C (by decide) (by decide) dX4_digits_26 ?_
  refine lv_l2i (v := 1) C.1 C.2.1 dX4_digits_27 (by decide) ?_
  refine k_iadd (v := 49) C (by decide) dX4_digits_28 ?_
  refine k_Vv (As := [.int 4, .int 49]) (rest := []) C hP hD hS hA (c_X4_mark l D K a0 a1 s0 n0 f1 e0_2) X0_ok trivial (uwV m_40_23 m_41_0 m_41_1 m_3_20 m_41_2) (hdV 2 (by decide +kernel) rfl) ⟨Nat.le_of_ble_eq_true rfl, Nat.le_of_ble_eq_true rfl⟩ rfl rfl (ci := 3) rfl rfl (isC := [0, 1]) (isR := []) (wr := []) ⟨rfl, rfl, rfl, rfl, by decide⟩ rfl hl.1 (Nat.le_of_ble_eq_true rfl) dX4_digits_29 ⟨Nat.le_of_ble_eq_true rfl, Nat.le_of_ble_eq_true rfl⟩ (fun u_1 H locs hw hP hD hS => ?_)
  have hP : va_P D vwCl [(a0, .inr (3, s0)), (a1, .inl (K 2, 120, .inl (upd f1 3 49)))] H := hP
  have hD : va_D A [(a0, .inr (3, s0)), (a1, .inl (K 2, 120, .inl (upd f1 3 49)))] := hD
  refine lv_lload C.1 C.2.1 dX4_digits_32 (lv_at hl 1 rfl) ?_
  refine lv_ldc2 (v := 10) C.1 C.2.1 C.2.2.2.1 (C.2.2.2.2.1 _ m_40_22) dX4_digits_34 ?_
  refine k_ldiv (v := 0) C (by decide) (by decide) dX4_digits_37 ?_
  refine lv_lstore (lv' := [(5, .long 0), (7, .int 4), (0, .ref a0), (1, .int 1), (2, .int 4), (3, .long 1)]) C.1 C.2.1 dX4_digits_38 hl (by decide) rfl (fun ls hl => ?_)
  refine lv_iinc (v := 3) (lv' := [(7, .int 3), (5, .long 0), (0, .ref a0), (1, .int 1), (2, .int 4), (3, .long 1)]) C.1 C.2.1 dX4_digits_40 hl (k := 1) rfl (by decide) (by decide) rfl (fun ls hl => ?_)
  refine lv_goto (tgt := 10) C.1 C.2.1 dX4_digits_43 (by decide) ?_
  refine lv_iload C.1 C.2.1 dX4_digits_10 (lv_at hl 0 rfl) ?_
  refine lv_iload_n C.1 C.2.1 dX4_digits_12 rfl (lv_at hl 3 rfl) ?_
  refine lv_icmp_lt (tgt := 46) C.1 C.2.1 dX4_digits_13 (by decide) (fun h => absurd h (by decide)) (fun _ => ?_)
  refine lv_aload_n C.1 C.2.1 dX4_digits_16 rfl (lv_at hl 2 rfl) ?_
  refine lv_iload C.1 C.2.1 dX4_digits_17 (lv_at hl 0 rfl) ?_
  refine lv_bipush (v := 48) C.1 C.2.1 dX4_digits_19 (by decide) ?_
  refine lv_lload C.1 C.2.1 dX4_digits_21 (lv_at hl 1 rfl) ?_
  refine lv_ldc2 (v := 10) C.1 C.2.1 C.2.2.2.1 (C.2.2.2.2.1 _ m_40_22) dX4_digits_23 ?_
  refine k_lrem (v := 0) C (by decide) (by decide) dX4_digits_26 ?_
  refine lv_l2i (v := 0) C.1 C.2.1 dX4_digits_27 (by decide) ?_
  refine k_iadd (v := 48) C (by decide) dX4_digits_28 ?_
  refine k_Vv (As := [.int 3, .int 48]) (rest := []) C hP hD hS hA (c_X4_mark_2 l D K a0 a1 s0 n0 (upd f1 3 49) e0_2) X0_ok trivial (uwV m_40_23 m_41_0 m_41_1 m_3_20 m_41_2) (hdV 2 (by decide +kernel) rfl) ⟨Nat.le_of_ble_eq_true rfl, Nat.le_of_ble_eq_true rfl⟩ rfl rfl (ci := 3) rfl rfl (isC := [0, 1]) (isR := []) (wr := []) ⟨rfl, rfl, rfl, rfl, by decide⟩ rfl hl.1 (Nat.le_of_ble_eq_true rfl) dX4_digits_29 ⟨Nat.le_of_ble_eq_true rfl, Nat.le_of_ble_eq_true rfl⟩ (fun u_3 H locs hw hP hD hS => ?_)
  have hP : va_P D vwCl [(a0, .inr (3, s0)), (a1, .inl (K 2, 120, .inl (upd (upd f1 3 49) 2 48)))] H := hP
  have hD : va_D A [(a0, .inr (3, s0)), (a1, .inl (K 2, 120, .inl (upd (upd f1 3 49) 2 48)))] := hD
  refine lv_lload C.1 C.2.1 dX4_digits_32 (lv_at hl 1 rfl) ?_
  refine lv_ldc2 (v := 10) C.1 C.2.1 C.2.2.2.1 (C.2.2.2.2.1 _ m_40_22) dX4_digits_34 ?_
  refine k_ldiv (v := 0) C (by decide) (by decide) dX4_digits_37 ?_
  refine lv_lstore (lv' := [(5, .long 0), (7, .int 3), (0, .ref a0), (1, .int 1), (2, .int 4), (3, .long 1)]) C.1 C.2.1 dX4_digits_38 hl (by decide) rfl (fun ls hl => ?_)
  refine lv_iinc (v := 2) (lv' := [(7, .int 2), (5, .long 0), (0, .ref a0), (1, .int 1), (2, .int 4), (3, .long 1)]) C.1 C.2.1 dX4_digits_40 hl (k := 1) rfl (by decide) (by decide) rfl (fun ls hl => ?_)
  refine lv_goto (tgt := 10) C.1 C.2.1 dX4_digits_43 (by decide) ?_
  refine lv_iload C.1 C.2.1 dX4_digits_10 (lv_at hl 0 rfl) ?_
  refine lv_iload_n C.1 C.2.1 dX4_digits_12 rfl (lv_at hl 3 rfl) ?_
  refine lv_icmp_lt (tgt := 46) C.1 C.2.1 dX4_digits_13 (by decide) (fun h => absurd h (by decide)) (fun _ => ?_)
  refine lv_aload_n C.1 C.2.1 dX4_digits_16 rfl (lv_at hl 2 rfl) ?_
  refine lv_iload C.1 C.2.1 dX4_digits_17 (lv_at hl 0 rfl) ?_
  refine lv_bipush (v := 48) C.1 C.2.1 dX4_digits_19 (by decide) ?_
  refine lv_lload C.1 C.2.1 dX4_digits_21 (lv_at hl 1 rfl) ?_
  refine lv_ldc2 (v := 10) C.1 C.2.1 C.2.2.2.1 (C.2.2.2.2.1 _ m_40_22) dX4_digits_23 ?_
  refine k_lrem (v := 0) C (by decide) (by decide) dX4_digits_26 ?_
  refine lv_l2i (v := 0) C.1 C.2.1 dX4_digits_27 (by decide) ?_
  refine k_iadd (v := 48) C (by decide) dX4_digits_28 ?_
  refine k_Vv (As := [.int 2, .int 48]) (rest := []) C hP hD hS hA (c_X4_mark_3 l D K a0 a1 s0 n0 (upd (upd f1 3 49) 2 48) e0_2) X0_ok trivial (uwV m_40_23 m_41_0 m_41_1 m_3_20 m_41_2) (hdV 2 (by decide +kernel) rfl) ⟨Nat.le_of_ble_eq_true rfl, Nat.le_of_ble_eq_true rfl⟩ rfl rfl (ci := 3) rfl rfl (isC := [0, 1]) (isR := []) (wr := []) ⟨rfl, rfl, rfl, rfl, by decide⟩ rfl hl.1 (Nat.le_of_ble_eq_true rfl) dX4_digits_29 ⟨Nat.le_of_ble_eq_true rfl, Nat.le_of_ble_eq_true rfl⟩ (fun u_5 H locs hw hP hD hS => ?_)
  have hP : va_P D vwCl [(a0, .inr (3, s0)), (a1, .inl (K 2, 120, .inl (upd (upd (upd f1 3 49) 2 48) 1 48)))] H := hP
  have hD : va_D A [(a0, .inr (3, s0)), (a1, .inl (K 2, 120, .inl (upd (upd (upd f1 3 49) 2 48) 1 48)))] := hD
  refine lv_lload C.1 C.2.1 dX4_digits_32 (lv_at hl 1 rfl) ?_
  refine lv_ldc2 (v := 10) C.1 C.2.1 C.2.2.2.1 (C.2.2.2.2.1 _ m_40_22) dX4_digits_34 ?_
  refine k_ldiv (v := 0) C (by decide) (by decide) dX4_digits_37 ?_
  refine lv_lstore (lv' := [(5, .long 0), (7, .int 2), (0, .ref a0), (1, .int 1), (2, .int 4), (3, .long 1)]) C.1 C.2.1 dX4_digits_38 hl (by decide) rfl (fun ls hl => ?_)
  refine lv_iinc (v := 1) (lv' := [(7, .int 1), (5, .long 0), (0, .ref a0), (1, .int 1), (2, .int 4), (3, .long 1)]) C.1 C.2.1 dX4_digits_40 hl (k := 1) rfl (by decide) (by decide) rfl (fun ls hl => ?_)
  refine lv_goto (tgt := 10) C.1 C.2.1 dX4_digits_43 (by decide) ?_
  refine lv_iload C.1 C.2.1 dX4_digits_10 (lv_at hl 0 rfl) ?_
  refine lv_iload_n C.1 C.2.1 dX4_digits_12 rfl (lv_at hl 3 rfl) ?_
  refine lv_icmp_lt (tgt := 46) C.1 C.2.1 dX4_digits_13 (by decide) (fun h => absurd h (by decide)) (fun _ => ?_)
  refine lv_aload_n C.1 C.2.1 dX4_digits_16 rfl (lv_at hl 2 rfl) ?_
  refine lv_iload C.1 C.2.1 dX4_digits_17 (lv_at hl 0 rfl) ?_
  refine lv_bipush (v := 48) C.1 C.2.1 dX4_digits_19 (by decide) ?_
  refine lv_lload C.1 C.2.1 dX4_digits_21 (lv_at hl 1 rfl) ?_
  refine lv_ldc2 (v := 10) C.1 C.2.1 C.2.2.2.1 (C.2.2.2.2.1 _ m_40_22) dX4_digits_23 ?_
  refine k_lrem (v := 0) C (by decide) (by decide) dX4_digits_26 ?_
  refine lv_l2i (v := 0) C.1 C.2.1 dX4_digits_27 (by decide) ?_
  refine k_iadd (v := 48) C (by decide) dX4_digits_28 ?_
  refine k_Vv (As := [.int 1, .int 48]) (rest := []) C hP hD hS hA (c_X4_mark_4 l D K a0 a1 s0 n0 (upd (upd (upd f1 3 49) 2 48) 1 48) e0_2) X0_ok trivial (uwV m_40_23 m_41_0 m_41_1 m_3_20 m_41_2) (hdV 2 (by decide +kernel) rfl) ⟨Nat.le_of_ble_eq_true rfl, Nat.le_of_ble_eq_true rfl⟩ rfl rfl (ci := 3) rfl rfl (isC := [0, 1]) (isR := []) (wr := []) ⟨rfl, rfl, rfl, rfl, by decide⟩ rfl hl.1 (Nat.le_of_ble_eq_true rfl) dX4_digits_29 ⟨Nat.le_of_ble_eq_true rfl, Nat.le_of_ble_eq_true rfl⟩ (fun u_7 H locs hw hP hD hS => ?_)
  have hP : va_P D vwCl [(a0, .inr (3, s0)), (a1, .inl (K 2, 120, .inl (upd (upd (upd (upd f1 3 49) 2 48) 1 48) 0 48)))] H := hP
  have hD : va_D A [(a0, .inr (3, s0)), (a1, .inl (K 2, 120, .inl (upd (upd (upd (upd f1 3 49) 2 48) 1 48) 0 48)))] := hD
  refine lv_lload C.1 C.2.1 dX4_digits_32 (lv_at hl 1 rfl) ?_
  refine lv_ldc2 (v := 10) C.1 C.2.1 C.2.2.2.1 (C.2.2.2.2.1 _ m_40_22) dX4_digits_34 ?_
  refine k_ldiv (v := 0) C (by decide) (by decide) dX4_digits_37 ?_
  refine lv_lstore (lv' := [(5, .long 0), (7, .int 1), (0, .ref a0), (1, .int 1), (2, .int 4), (3, .long 1)]) C.1 C.2.1 dX4_digits_38 hl (by decide) rfl (fun ls hl => ?_)
  refine lv_iinc (v := 0) (lv' := [(7, .int 0), (5, .long 0), (0, .ref a0), (1, .int 1), (2, .int 4), (3, .long 1)]) C.1 C.2.1 dX4_digits_40 hl (k := 1) rfl (by decide) (by decide) rfl (fun ls hl => ?_)
  refine lv_goto (tgt := 10) C.1 C.2.1 dX4_digits_43 (by decide) ?_
  refine lv_iload C.1 C.2.1 dX4_digits_10 (lv_at hl 0 rfl) ?_
  refine lv_iload_n C.1 C.2.1 dX4_digits_12 rfl (lv_at hl 3 rfl) ?_
  refine lv_icmp_lt (tgt := 46) C.1 C.2.1 dX4_digits_13 (by decide) (fun _ => ?_) (fun h => absurd (by decide) h)
  exact k_vret C hr hlocks hP hD hS (fun _ => 0) [0, 1] rfl rfl trivial (Nat.le_of_ble_eq_true rfl) (Nat.le_of_ble_eq_true rfl) dX4_digits_46
set_option maxHeartbeats 4000000 in
set_option maxRecDepth 100000 in
theorem c_X4_mark_5 (l : Launch) (D : va_G) (K : Nat → ClassId) (a0 : Nat) (a1 : Nat) (s0 : List Value) (n0 : s0.length = 4) (f1 : Nat → Int32) (e0_2 : s0[2]? = some (.ref a1)) : uMet l yX4_mark cX4_mark 3 none (rmD 0 0 0) D K X0 [.ref a0, .int 6, .int 55] [(a0, .inr (3, s0)), (a1, .inl (K 2, 120, .inl f1))] (QV D K (fun (u : Nat → Nat) => True) (fun (u : Nat → Nat) => [(a0, .inr (3, s0)), (a1, .inl (K 2, 120, .inl (upd f1 5 55)))])) 0 0 := by
  refine k_met RX4 ⟨rfl, by decide +kernel⟩ (Nat.le_of_ble_eq_true rfl) ?_
  intro p e s m below meth c A ls C hX hr hlocks hin hA hP hD hS hl
  have hl : lv_has ls 3 [(0, .ref a0), (1, .int 6), (2, .int 55)] := hl
  refine lv_iload_n C.1 C.2.1 dX4_mark_0 rfl (lv_at hl 1 rfl) ?_
  refine lv_iconst (v := 1) C.1 C.2.1 dX4_mark_1 (by decide) ?_
  refine lv_icmp_lt (tgt := 21) C.1 C.2.1 dX4_mark_2 (by decide) (fun h => absurd h (by decide)) (fun _ => ?_)
  refine lv_iload_n C.1 C.2.1 dX4_mark_5 rfl (lv_at hl 1 rfl) ?_
  refine lv_bipush (v := 120) C.1 C.2.1 dX4_mark_6 (by decide) ?_
  refine lv_icmp_gt (tgt := 21) C.1 C.2.1 dX4_mark_8 (by decide) (fun h => absurd h (by decide)) (fun _ => ?_)
  refine lv_aload_n C.1 C.2.1 dX4_mark_11 rfl (lv_at hl 0 rfl) ?_
  refine k_get (v := .ref a1) C hP 0 rfl rfl inlX4 2 (by decide) m_4_11 e0_2 dX4_mark_12 ?_
  refine lv_iload_n C.1 C.2.1 dX4_mark_15 rfl (lv_at hl 1 rfl) ?_
  refine lv_iconst (v := 1) C.1 C.2.1 dX4_mark_16 (by decide) ?_
  refine k_isub (v := 5) C (by decide) dX4_mark_17 ?_
  refine lv_iload_n C.1 C.2.1 dX4_mark_18 rfl (lv_at hl 2 rfl) ?_
  refine lv_i2b (v := 55) C.1 C.2.1 dX4_mark_19 (by decide) ?_
  refine k_bst (ws' := [(a0, .inr (3, s0)), (a1, .inl (K 2, 120, .inl (upd f1 5 55)))]) (j := 5) (x' := 55) C hP hD hS 1 rfl (vin (by decide)) (by decide) (by decide) rfl dX4_mark_20 (fun H locs hP hD hS => ?_)
  exact k_vret C hr hlocks hP hD hS (fun _ => 0) [0, 1] rfl rfl trivial (Nat.le_of_ble_eq_true rfl) (Nat.le_of_ble_eq_true rfl) dX4_mark_21
set_option maxHeartbeats 4000000 in
set_option maxRecDepth 100000 in
theorem c_X4_digits_2 (l : Launch) (D : va_G) (K : Nat → ClassId) (a0 : Nat) (a1 : Nat) (s0 : List Value) (n0 : s0.length = 4) (f1 : Nat → Int32) (e0_2 : s0[2]? = some (.ref a1)) : uMet l yX4_digits cX4_digits 8 none (rmD 1 0 0) D K X0 [.ref a0, .int 6, .int 1, .long 7] [(a0, .inr (3, s0)), (a1, .inl (K 2, 120, .inl f1))] (QV D K (fun (u : Nat → Nat) => True) (fun (u : Nat → Nat) => [(a0, .inr (3, s0)), (a1, .inl (K 2, 120, .inl (upd f1 5 55)))])) 0 0 := by
  refine k_met RX4 ⟨rfl, by decide +kernel⟩ (Nat.le_of_ble_eq_true rfl) ?_
  intro p e s m below meth c A ls C hX hr hlocks hin hA hP hD hS hl
  have hl : lv_has ls 8 [(0, .ref a0), (1, .int 6), (2, .int 1), (3, .long 7)] := hl
  refine lv_lload_n C.1 C.2.1 dX4_digits_0 rfl (lv_at hl 3 rfl) ?_
  refine lv_lstore (lv' := [(5, .long 7), (0, .ref a0), (1, .int 6), (2, .int 1), (3, .long 7)]) C.1 C.2.1 dX4_digits_1 hl (by decide) rfl (fun ls hl => ?_)
  refine lv_iload_n C.1 C.2.1 dX4_digits_3 rfl (lv_at hl 2 rfl) ?_
  refine lv_iload_n C.1 C.2.1 dX4_digits_4 rfl (lv_at hl 3 rfl) ?_
  refine k_iadd (v := 7) C (by decide) dX4_digits_5 ?_
  refine lv_iconst (v := 1) C.1 C.2.1 dX4_digits_6 (by decide) ?_
  refine k_isub (v := 6) C (by decide) dX4_digits_7 ?_
  refine lv_istore (lv' := [(7, .int 6), (5, .long 7), (0, .ref a0), (1, .int 6), (2, .int 1), (3, .long 7)]) C.1 C.2.1 dX4_digits_8 hl (by decide) rfl (fun ls hl => ?_)
  refine lv_iload C.1 C.2.1 dX4_digits_10 (lv_at hl 0 rfl) ?_
  refine lv_iload_n C.1 C.2.1 dX4_digits_12 rfl (lv_at hl 3 rfl) ?_
  refine lv_icmp_lt (tgt := 46) C.1 C.2.1 dX4_digits_13 (by decide) (fun h => absurd h (by decide)) (fun _ => ?_)
  refine lv_aload_n C.1 C.2.1 dX4_digits_16 rfl (lv_at hl 2 rfl) ?_
  refine lv_iload C.1 C.2.1 dX4_digits_17 (lv_at hl 0 rfl) ?_
  refine lv_bipush (v := 48) C.1 C.2.1 dX4_digits_19 (by decide) ?_
  refine lv_lload C.1 C.2.1 dX4_digits_21 (lv_at hl 1 rfl) ?_
  refine lv_ldc2 (v := 10) C.1 C.2.1 C.2.2.2.1 (C.2.2.2.2.1 _ m_40_22) dX4_digits_23 ?_
  refine k_lrem (v := 7) C (by decide) (by decide) dX4_digits_26 ?_
  refine lv_l2i (v := 7) C.1 C.2.1 dX4_digits_27 (by decide) ?_
  refine k_iadd (v := 55) C (by decide) dX4_digits_28 ?_
  refine k_Vv (As := [.int 6, .int 55]) (rest := []) C hP hD hS hA (c_X4_mark_5 l D K a0 a1 s0 n0 f1 e0_2) X0_ok trivial (uwV m_40_23 m_41_0 m_41_1 m_3_20 m_41_2) (hdV 2 (by decide +kernel) rfl) ⟨Nat.le_of_ble_eq_true rfl, Nat.le_of_ble_eq_true rfl⟩ rfl rfl (ci := 3) rfl rfl (isC := [0, 1]) (isR := []) (wr := []) ⟨rfl, rfl, rfl, rfl, by decide⟩ rfl hl.1 (Nat.le_of_ble_eq_true rfl) dX4_digits_29 ⟨Nat.le_of_ble_eq_true rfl, Nat.le_of_ble_eq_true rfl⟩ (fun u_1 H locs hw hP hD hS => ?_)
  have hP : va_P D vwCl [(a0, .inr (3, s0)), (a1, .inl (K 2, 120, .inl (upd f1 5 55)))] H := hP
  have hD : va_D A [(a0, .inr (3, s0)), (a1, .inl (K 2, 120, .inl (upd f1 5 55)))] := hD
  refine lv_lload C.1 C.2.1 dX4_digits_32 (lv_at hl 1 rfl) ?_
  refine lv_ldc2 (v := 10) C.1 C.2.1 C.2.2.2.1 (C.2.2.2.2.1 _ m_40_22) dX4_digits_34 ?_
  refine k_ldiv (v := 0) C (by decide) (by decide) dX4_digits_37 ?_
  refine lv_lstore (lv' := [(5, .long 0), (7, .int 6), (0, .ref a0), (1, .int 6), (2, .int 1), (3, .long 7)]) C.1 C.2.1 dX4_digits_38 hl (by decide) rfl (fun ls hl => ?_)
  refine lv_iinc (v := 5) (lv' := [(7, .int 5), (5, .long 0), (0, .ref a0), (1, .int 6), (2, .int 1), (3, .long 7)]) C.1 C.2.1 dX4_digits_40 hl (k := 1) rfl (by decide) (by decide) rfl (fun ls hl => ?_)
  refine lv_goto (tgt := 10) C.1 C.2.1 dX4_digits_43 (by decide) ?_
  refine lv_iload C.1 C.2.1 dX4_digits_10 (lv_at hl 0 rfl) ?_
  refine lv_iload_n C.1 C.2.1 dX4_digits_12 rfl (lv_at hl 3 rfl) ?_
  refine lv_icmp_lt (tgt := 46) C.1 C.2.1 dX4_digits_13 (by decide) (fun _ => ?_) (fun h => absurd (by decide) h)
  exact k_vret C hr hlocks hP hD hS (fun _ => 0) [0, 1] rfl rfl trivial (Nat.le_of_ble_eq_true rfl) (Nat.le_of_ble_eq_true rfl) dX4_digits_46
set_option maxHeartbeats 4000000 in
set_option maxRecDepth 100000 in
theorem c_X4_finish (l : Launch) (D : va_G) (K : Nat → ClassId) (a0 : Nat) (a1 : Nat) (a2 : Nat) (a3 : Nat) (s0 : List Value) (n0 : s0.length = 4) (f3 : Nat → Int32) (e0_2 : s0[2]? = some (.ref a1)) (e0_3 : s0[3]? = some (.int 0)) (e0_0 : s0[0]? = some (.ref a2)) (e0_1 : s0[1]? = some (.ref a3)) : uMet l yX4_finish cX4_finish 5 none (rmD 2 1 120) D K XX [.ref a0, .int 120, .int 0] [(a0, .inr (3, s0)), (a1, .inl (K 2, 120, .inl (upd (upd (upd (upd (upd (fun _ => 32) 3 49) 2 48) 1 48) 0 48) 5 55))), (a2, .inl (K 4, 300, .inr (.inr (.inr (.inr (fun _ => none)))))), (a3, .inl (K 0, 300, .inl f3))] (QV D K (fun (u : Nat → Nat) => True) (fun (u : Nat → Nat) => [(a0, .inr (3, (s0.set 3 (.int 1)))), (a1, .inl (K 2, 120, .inl (fun _ => 32))), (a2, .inl (K 4, 300, .inr (.inr (.inr (.inr (va_up (fun _ => none) 0 (some (u 0)))))))), (a3, .inl (K 0, 300, .inl (upd f3 0 6))), ((u 0), .inl (K 2, 120, .inl (va_cpy (upd (upd (upd (upd (upd (fun _ => 32) 3 49) 2 48) 1 48) 0 48) 5 55) (fun _ => 0) 0 0 6)))])) 1 120 := by
  refine k_met RX4 ⟨rfl, by decide +kernel⟩ (Nat.le_of_ble_eq_true rfl) ?_
  intro p e s m below meth c A ls C hX hr hlocks hin hA hP hD hS hl
  have hl : lv_has ls 5 [(0, .ref a0), (1, .int 120), (2, .int 0)] := hl
  refine lv_iconst (v := 0) C.1 C.2.1 dX4_finish_0 (by decide) ?_
  refine lv_istore_n (lv' := [(3, .int 0), (0, .ref a0), (1, .int 120), (2, .int 0)]) C.1 C.2.1 dX4_finish_1 rfl hl (by decide) rfl (fun ls hl => ?_)
  refine lv_iconst (v := 0) C.1 C.2.1 dX4_finish_2 (by decide) ?_
  refine lv_istore (lv' := [(4, .int 0), (3, .int 0), (0, .ref a0), (1, .int 120), (2, .int 0)]) C.1 C.2.1 dX4_finish_3 hl (by decide) rfl (fun ls hl => ?_)
  refine lv_iload C.1 C.2.1 dX4_finish_5 (lv_at hl 0 rfl) ?_
  refine lv_bipush (v := 120) C.1 C.2.1 dX4_finish_7 (by decide) ?_
  refine lv_icmp_ge (tgt := 66) C.1 C.2.1 dX4_finish_9 (by decide) (fun h => absurd h (by decide)) (fun _ => ?_)
  refine lv_iload C.1 C.2.1 dX4_finish_12 (lv_at hl 0 rfl) ?_
  refine lv_iload_n C.1 C.2.1 dX4_finish_14 rfl (lv_at hl 3 rfl) ?_
  refine lv_icmp_ge (tgt := 66) C.1 C.2.1 dX4_finish_15 (by decide) (fun h => absurd h (by decide)) (fun _ => ?_)
  refine lv_iload_n C.1 C.2.1 dX4_finish_18 rfl (lv_at hl 4 rfl) ?_
  refine lv_if_eq (tgt := 43) C.1 C.2.1 dX4_finish_19 (by decide) (fun _ => ?_) (fun h => absurd (by decide) h)
  refine lv_aload_n C.1 C.2.1 dX4_finish_43 rfl (lv_at hl 2 rfl) ?_
  refine k_get (v := .ref a1) C hP 0 rfl rfl inlX4 2 (by decide) m_4_11 e0_2 dX4_finish_44 ?_
  refine lv_iload C.1 C.2.1 dX4_finish_47 (lv_at hl 0 rfl) ?_
  refine k_bld (v := 48) C hP 1 rfl (vin (by decide)) rfl dX4_finish_49 ?_
  refine lv_bipush (v := 32) C.1 C.2.1 dX4_finish_50 (by decide) ?_
  refine lv_icmp_eq (tgt := 60) C.1 C.2.1 dX4_finish_52 (by decide) (fun h => absurd h (by decide)) (fun _ => ?_)
  refine lv_iload C.1 C.2.1 dX4_finish_55 (lv_at hl 0 rfl) ?_
  refine lv_iconst (v := 1) C.1 C.2.1 dX4_finish_57 (by decide) ?_
  refine k_iadd (v := 1) C (by decide) dX4_finish_58 ?_
  refine lv_istore_n (lv' := [(3, .int 1), (4, .int 0), (0, .ref a0), (1, .int 120), (2, .int 0)]) C.1 C.2.1 dX4_finish_59 rfl hl (by decide) rfl (fun ls hl => ?_)
  refine lv_iinc (v := 1) (lv' := [(4, .int 1), (3, .int 1), (0, .ref a0), (1, .int 120), (2, .int 0)]) C.1 C.2.1 dX4_finish_60 hl (k := 1) rfl (by decide) (by decide) rfl (fun ls hl => ?_)
  refine lv_goto (tgt := 5) C.1 C.2.1 dX4_finish_63 (by decide) ?_
  refine lv_iload C.1 C.2.1 dX4_finish_5 (lv_at hl 0 rfl) ?_
  refine lv_bipush (v := 120) C.1 C.2.1 dX4_finish_7 (by decide) ?_
  refine lv_icmp_ge (tgt := 66) C.1 C.2.1 dX4_finish_9 (by decide) (fun h => absurd h (by decide)) (fun _ => ?_)
  refine lv_iload C.1 C.2.1 dX4_finish_12 (lv_at hl 0 rfl) ?_
  refine lv_iload_n C.1 C.2.1 dX4_finish_14 rfl (lv_at hl 3 rfl) ?_
  refine lv_icmp_ge (tgt := 66) C.1 C.2.1 dX4_finish_15 (by decide) (fun h => absurd h (by decide)) (fun _ => ?_)
  refine lv_iload_n C.1 C.2.1 dX4_finish_18 rfl (lv_at hl 4 rfl) ?_
  refine lv_if_eq (tgt := 43) C.1 C.2.1 dX4_finish_19 (by decide) (fun _ => ?_) (fun h => absurd (by decide) h)
  refine lv_aload_n C.1 C.2.1 dX4_finish_43 rfl (lv_at hl 2 rfl) ?_
  refine k_get (v := .ref a1) C hP 0 rfl rfl inlX4 2 (by decide) m_4_11 e0_2 dX4_finish_44 ?_
  refine lv_iload C.1 C.2.1 dX4_finish_47 (lv_at hl 0 rfl) ?_
  refine k_bld (v := 48) C hP 1 rfl (vin (by decide)) rfl dX4_finish_49 ?_
  refine lv_bipush (v := 32) C.1 C.2.1 dX4_finish_50 (by decide) ?_
  refine lv_icmp_eq (tgt := 60) C.1 C.2.1 dX4_finish_52 (by decide) (fun h => absurd h (by decide)) (fun _ => ?_)
  refine lv_iload C.1 C.2.1 dX4_finish_55 (lv_at hl 0 rfl) ?_
  refine lv_iconst (v := 1) C.1 C.2.1 dX4_finish_57 (by decide) ?_
  refine k_iadd (v := 2) C (by decide) dX4_finish_58 ?_
  refine lv_istore_n (lv' := [(3, .int 2), (4, .int 1), (0, .ref a0), (1, .int 120), (2, .int 0)]) C.1 C.2.1 dX4_finish_59 rfl hl (by decide) rfl (fun ls hl => ?_)
  refine lv_iinc (v := 2) (lv' := [(4, .int 2), (3, .int 2), (0, .ref a0), (1, .int 120), (2, .int 0)]) C.1 C.2.1 dX4_finish_60 hl (k := 1) rfl (by decide) (by decide) rfl (fun ls hl => ?_)
  refine lv_goto (tgt := 5) C.1 C.2.1 dX4_finish_63 (by decide) ?_
  refine lv_iload C.1 C.2.1 dX4_finish_5 (lv_at hl 0 rfl) ?_
  refine lv_bipush (v := 120) C.1 C.2.1 dX4_finish_7 (by decide) ?_
  refine lv_icmp_ge (tgt := 66) C.1 C.2.1 dX4_finish_9 (by decide) (fun h => absurd h (by decide)) (fun _ => ?_)
  refine lv_iload C.1 C.2.1 dX4_finish_12 (lv_at hl 0 rfl) ?_
  refine lv_iload_n C.1 C.2.1 dX4_finish_14 rfl (lv_at hl 3 rfl) ?_
  refine lv_icmp_ge (tgt := 66) C.1 C.2.1 dX4_finish_15 (by decide) (fun h => absurd h (by decide)) (fun _ => ?_)
  refine lv_iload_n C.1 C.2.1 dX4_finish_18 rfl (lv_at hl 4 rfl) ?_
  refine lv_if_eq (tgt := 43) C.1 C.2.1 dX4_finish_19 (by decide) (fun _ => ?_) (fun h => absurd (by decide) h)
  refine lv_aload_n C.1 C.2.1 dX4_finish_43 rfl (lv_at hl 2 rfl) ?_
  refine k_get (v := .ref a1) C hP 0 rfl rfl inlX4 2 (by decide) m_4_11 e0_2 dX4_finish_44 ?_
  refine lv_iload C.1 C.2.1 dX4_finish_47 (lv_at hl 0 rfl) ?_
  refine k_bld (v := 48) C hP 1 rfl (vin (by decide)) rfl dX4_finish_49 ?_
  refine lv_bipush (v := 32) C.1 C.2.1 dX4_finish_50 (by decide) ?_
  refine lv_icmp_eq (tgt := 60) C.1 C.2.1 dX4_finish_52 (by decide) (fun h => absurd h (by decide)) (fun _ => ?_)
  refine lv_iload C.1 C.2.1 dX4_finish_55 (lv_at hl 0 rfl) ?_
  refine lv_iconst (v := 1) C.1 C.2.1 dX4_finish_57 (by decide) ?_
  refine k_iadd (v := 3) C (by decide) dX4_finish_58 ?_
  refine lv_istore_n (lv' := [(3, .int 3), (4, .int 2), (0, .ref a0), (1, .int 120), (2, .int 0)]) C.1 C.2.1 dX4_finish_59 rfl hl (by decide) rfl (fun ls hl => ?_)
  refine lv_iinc (v := 3) (lv' := [(4, .int 3), (3, .int 3), (0, .ref a0), (1, .int 120), (2, .int 0)]) C.1 C.2.1 dX4_finish_60 hl (k := 1) rfl (by decide) (by decide) rfl (fun ls hl => ?_)
  refine lv_goto (tgt := 5) C.1 C.2.1 dX4_finish_63 (by decide) ?_
  refine lv_iload C.1 C.2.1 dX4_finish_5 (lv_at hl 0 rfl) ?_
  refine lv_bipush (v := 120) C.1 C.2.1 dX4_finish_7 (by decide) ?_
  refine lv_icmp_ge (tgt := 66) C.1 C.2.1 dX4_finish_9 (by decide) (fun h => absurd h (by decide)) (fun _ => ?_)
  refine lv_iload C.1 C.2.1 dX4_finish_12 (lv_at hl 0 rfl) ?_
  refine lv_iload_n C.1 C.2.1 dX4_finish_14 rfl (lv_at hl 3 rfl) ?_
  refine lv_icmp_ge (tgt := 66) C.1 C.2.1 dX4_finish_15 (by decide) (fun h => absurd h (by decide)) (fun _ => ?_)
  refine lv_iload_n C.1 C.2.1 dX4_finish_18 rfl (lv_at hl 4 rfl) ?_
  refine lv_if_eq (tgt := 43) C.1 C.2.1 dX4_finish_19 (by decide) (fun _ => ?_) (fun h => absurd (by decide) h)
  refine lv_aload_n C.1 C.2.1 dX4_finish_43 rfl (lv_at hl 2 rfl) ?_
  refine k_get (v := .ref a1) C hP 0 rfl rfl inlX4 2 (by decide) m_4_11 e0_2 dX4_finish_44 ?_
  refine lv_iload C.1 C.2.1 dX4_finish_47 (lv_at hl 0 rfl) ?_
  refine k_bld (v := 49) C hP 1 rfl (vin (by decide)) rfl dX4_finish_49 ?_
  refine lv_bipush (v := 32) C.1 C.2.1 dX4_finish_50 (by decide) ?_
  refine lv_icmp_eq (tgt := 60) C.1 C.2.1 dX4_finish_52 (by decide) (fun h => absurd h (by decide)) (fun _ => ?_)
  refine lv_iload C.1 C.2.1 dX4_finish_55 (lv_at hl 0 rfl) ?_
  refine lv_iconst (v := 1) C.1 C.2.1 dX4_finish_57 (by decide) ?_
  refine k_iadd (v := 4) C (by decide) dX4_finish_58 ?_
  refine lv_istore_n (lv' := [(3, .int 4), (4, .int 3), (0, .ref a0), (1, .int 120), (2, .int 0)]) C.1 C.2.1 dX4_finish_59 rfl hl (by decide) rfl (fun ls hl => ?_)
  refine lv_iinc (v := 4) (lv' := [(4, .int 4), (3, .int 4), (0, .ref a0), (1, .int 120), (2, .int 0)]) C.1 C.2.1 dX4_finish_60 hl (k := 1) rfl (by decide) (by decide) rfl (fun ls hl => ?_)
  refine lv_goto (tgt := 5) C.1 C.2.1 dX4_finish_63 (by decide) ?_
  refine lv_iload C.1 C.2.1 dX4_finish_5 (lv_at hl 0 rfl) ?_
  refine lv_bipush (v := 120) C.1 C.2.1 dX4_finish_7 (by decide) ?_
  refine lv_icmp_ge (tgt := 66) C.1 C.2.1 dX4_finish_9 (by decide) (fun h => absurd h (by decide)) (fun _ => ?_)
  refine lv_iload C.1 C.2.1 dX4_finish_12 (lv_at hl 0 rfl) ?_
  refine lv_iload_n C.1 C.2.1 dX4_finish_14 rfl (lv_at hl 3 rfl) ?_
  refine lv_icmp_ge (tgt := 66) C.1 C.2.1 dX4_finish_15 (by decide) (fun h => absurd h (by decide)) (fun _ => ?_)
  refine lv_iload_n C.1 C.2.1 dX4_finish_18 rfl (lv_at hl 4 rfl) ?_
  refine lv_if_eq (tgt := 43) C.1 C.2.1 dX4_finish_19 (by decide) (fun _ => ?_) (fun h => absurd (by decide) h)
  refine lv_aload_n C.1 C.2.1 dX4_finish_43 rfl (lv_at hl 2 rfl) ?_
  refine k_get (v := .ref a1) C hP 0 rfl rfl inlX4 2 (by decide) m_4_11 e0_2 dX4_finish_44 ?_
  refine lv_iload C.1 C.2.1 dX4_finish_47 (lv_at hl 0 rfl) ?_
  refine k_bld (v := 32) C hP 1 rfl (vin (by decide)) rfl dX4_finish_49 ?_
  refine lv_bipush (v := 32) C.1 C.2.1 dX4_finish_50 (by decide) ?_
  refine lv_icmp_eq (tgt := 60) C.1 C.2.1 dX4_finish_52 (by decide) (fun _ => ?_) (fun h => absurd (by decide) h)
  refine lv_iinc (v := 5) (lv' := [(4, .int 5), (3, .int 4), (0, .ref a0), (1, .int 120), (2, .int 0)]) C.1 C.2.1 dX4_finish_60 hl (k := 0) rfl (by decide) (by decide) rfl (fun ls hl => ?_)
  refine lv_goto (tgt := 5) C.1 C.2.1 dX4_finish_63 (by decide) ?_
  refine lv_iload C.1 C.2.1 dX4_finish_5 (lv_at hl 0 rfl) ?_
  refine lv_bipush (v := 120) C.1 C.2.1 dX4_finish_7 (by decide) ?_
  refine lv_icmp_ge (tgt := 66) C.1 C.2.1 dX4_finish_9 (by decide) (fun h => absurd h (by decide)) (fun _ => ?_)
  refine lv_iload C.1 C.2.1 dX4_finish_12 (lv_at hl 0 rfl) ?_
  refine lv_iload_n C.1 C.2.1 dX4_finish_14 rfl (lv_at hl 3 rfl) ?_
  refine lv_icmp_ge (tgt := 66) C.1 C.2.1 dX4_finish_15 (by decide) (fun h => absurd h (by decide)) (fun _ => ?_)
  refine lv_iload_n C.1 C.2.1 dX4_finish_18 rfl (lv_at hl 4 rfl) ?_
  refine lv_if_eq (tgt := 43) C.1 C.2.1 dX4_finish_19 (by decide) (fun _ => ?_) (fun h => absurd (by decide) h)
  refine lv_aload_n C.1 C.2.1 dX4_finish_43 rfl (lv_at hl 2 rfl) ?_
  refine k_get (v := .ref a1) C hP 0 rfl rfl inlX4 2 (by decide) m_4_11 e0_2 dX4_finish_44 ?_
  refine lv_iload C.1 C.2.1 dX4_finish_47 (lv_at hl 0 rfl) ?_
  refine k_bld (v := 55) C hP 1 rfl (vin (by decide)) rfl dX4_finish_49 ?_
  refine lv_bipush (v := 32) C.1 C.2.1 dX4_finish_50 (by decide) ?_
  refine lv_icmp_eq (tgt := 60) C.1 C.2.1 dX4_finish_52 (by decide) (fun h => absurd h (by decide)) (fun _ => ?_)
  refine lv_iload C.1 C.2.1 dX4_finish_55 (lv_at hl 0 rfl) ?_
  refine lv_iconst (v := 1) C.1 C.2.1 dX4_finish_57 (by decide) ?_
  refine k_iadd (v := 6) C (by decide) dX4_finish_58 ?_
  refine lv_istore_n (lv' := [(3, .int 6), (4, .int 5), (0, .ref a0), (1, .int 120), (2, .int 0)]) C.1 C.2.1 dX4_finish_59 rfl hl (by decide) rfl (fun ls hl => ?_)
  refine lv_iinc (v := 6) (lv' := [(4, .int 6), (3, .int 6), (0, .ref a0), (1, .int 120), (2, .int 0)]) C.1 C.2.1 dX4_finish_60 hl (k := 1) rfl (by decide) (by decide) rfl (fun ls hl => ?_)
  refine lv_goto (tgt := 5) C.1 C.2.1 dX4_finish_63 (by decide) ?_
  refine lv_iload C.1 C.2.1 dX4_finish_5 (lv_at hl 0 rfl) ?_
  refine lv_bipush (v := 120) C.1 C.2.1 dX4_finish_7 (by decide) ?_
  refine lv_icmp_ge (tgt := 66) C.1 C.2.1 dX4_finish_9 (by decide) (fun h => absurd h (by decide)) (fun _ => ?_)
  refine lv_iload C.1 C.2.1 dX4_finish_12 (lv_at hl 0 rfl) ?_
  refine lv_iload_n C.1 C.2.1 dX4_finish_14 rfl (lv_at hl 3 rfl) ?_
  refine lv_icmp_ge (tgt := 66) C.1 C.2.1 dX4_finish_15 (by decide) (fun h => absurd h (by decide)) (fun _ => ?_)
  refine lv_iload_n C.1 C.2.1 dX4_finish_18 rfl (lv_at hl 4 rfl) ?_
  refine lv_if_eq (tgt := 43) C.1 C.2.1 dX4_finish_19 (by decide) (fun _ => ?_) (fun h => absurd (by decide) h)
  refine lv_aload_n C.1 C.2.1 dX4_finish_43 rfl (lv_at hl 2 rfl) ?_
  refine k_get (v := .ref a1) C hP 0 rfl rfl inlX4 2 (by decide) m_4_11 e0_2 dX4_finish_44 ?_
  refine lv_iload C.1 C.2.1 dX4_finish_47 (lv_at hl 0 rfl) ?_
  refine k_bld (v := 32) C hP 1 rfl (vin (by decide)) rfl dX4_finish_49 ?_
  refine lv_bipush (v := 32) C.1 C.2.1 dX4_finish_50 (by decide) ?_
  refine lv_icmp_eq (tgt := 60) C.1 C.2.1 dX4_finish_52 (by decide) (fun _ => ?_) (fun h => absurd (by decide) h)
  refine lv_iinc (v := 7) (lv' := [(4, .int 7), (3, .int 6), (0, .ref a0), (1, .int 120), (2, .int 0)]) C.1 C.2.1 dX4_finish_60 hl (k := 0) rfl (by decide) (by decide) rfl (fun ls hl => ?_)
  refine lv_goto (tgt := 5) C.1 C.2.1 dX4_finish_63 (by decide) ?_
  refine lv_iload C.1 C.2.1 dX4_finish_5 (lv_at hl 0 rfl) ?_
  refine lv_bipush (v := 120) C.1 C.2.1 dX4_finish_7 (by decide) ?_
  refine lv_icmp_ge (tgt := 66) C.1 C.2.1 dX4_finish_9 (by decide) (fun h => absurd h (by decide)) (fun _ => ?_)
  refine lv_iload C.1 C.2.1 dX4_finish_12 (lv_at hl 0 rfl) ?_
  refine lv_iload_n C.1 C.2.1 dX4_finish_14 rfl (lv_at hl 3 rfl) ?_
  refine lv_icmp_ge (tgt := 66) C.1 C.2.1 dX4_finish_15 (by decide) (fun h => absurd h (by decide)) (fun _ => ?_)
  refine lv_iload_n C.1 C.2.1 dX4_finish_18 rfl (lv_at hl 4 rfl) ?_
  refine lv_if_eq (tgt := 43) C.1 C.2.1 dX4_finish_19 (by decide) (fun _ => ?_) (fun h => absurd (by decide) h)
  refine lv_aload_n C.1 C.2.1 dX4_finish_43 rfl (lv_at hl 2 rfl) ?_
  refine k_get (v := .ref a1) C hP 0 rfl rfl inlX4 2 (by decide) m_4_11 e0_2 dX4_finish_44 ?_
  refine lv_iload C.1 C.2.1 dX4_finish_47 (lv_at hl 0 rfl) ?_
  refine k_bld (v := 32) C hP 1 rfl (vin (by decide)) rfl dX4_finish_49 ?_
  refine lv_bipush (v := 32) C.1 C.2.1 dX4_finish_50 (by decide) ?_
  refine lv_icmp_eq (tgt := 60) C.1 C.2.1 dX4_finish_52 (by decide) (fun _ => ?_) (fun h => absurd (by decide) h)
  refine lv_iinc (v := 8) (lv' := [(4, .int 8), (3, .int 6), (0, .ref a0), (1, .int 120), (2, .int 0)]) C.1 C.2.1 dX4_finish_60 hl (k := 0) rfl (by decide) (by decide) rfl (fun ls hl => ?_)
  refine lv_goto (tgt := 5) C.1 C.2.1 dX4_finish_63 (by decide) ?_
  refine lv_iload C.1 C.2.1 dX4_finish_5 (lv_at hl 0 rfl) ?_
  refine lv_bipush (v := 120) C.1 C.2.1 dX4_finish_7 (by decide) ?_
  refine lv_icmp_ge (tgt := 66) C.1 C.2.1 dX4_finish_9 (by decide) (fun h => absurd h (by decide)) (fun _ => ?_)
  refine lv_iload C.1 C.2.1 dX4_finish_12 (lv_at hl 0 rfl) ?_
  refine lv_iload_n C.1 C.2.1 dX4_finish_14 rfl (lv_at hl 3 rfl) ?_
  refine lv_icmp_ge (tgt := 66) C.1 C.2.1 dX4_finish_15 (by decide) (fun h => absurd h (by decide)) (fun _ => ?_)
  refine lv_iload_n C.1 C.2.1 dX4_finish_18 rfl (lv_at hl 4 rfl) ?_
  refine lv_if_eq (tgt := 43) C.1 C.2.1 dX4_finish_19 (by decide) (fun _ => ?_) (fun h => absurd (by decide) h)
  refine lv_aload_n C.1 C.2.1 dX4_finish_43 rfl (lv_at hl 2 rfl) ?_
  refine k_get (v := .ref a1) C hP 0 rfl rfl inlX4 2 (by decide) m_4_11 e0_2 dX4_finish_44 ?_
  refine lv_iload C.1 C.2.1 dX4_finish_47 (lv_at hl 0 rfl) ?_
  refine k_bld (v := 32) C hP 1 rfl (vin (by decide)) rfl dX4_finish_49 ?_
  refine lv_bipush (v := 32) C.1 C.2.1 dX4_finish_50 (by decide) ?_
  refine lv_icmp_eq (tgt := 60) C.1 C.2.1 dX4_finish_52 (by decide) (fun _ => ?_) (fun h => absurd (by decide) h)
  refine lv_iinc (v := 9) (lv' := [(4, .int 9), (3, .int 6), (0, .ref a0), (1, .int 120), (2, .int 0)]) C.1 C.2.1 dX4_finish_60 hl (k := 0) rfl (by decide) (by decide) rfl (fun ls hl => ?_)
  refine lv_goto (tgt := 5) C.1 C.2.1 dX4_finish_63 (by decide) ?_
  refine lv_iload C.1 C.2.1 dX4_finish_5 (lv_at hl 0 rfl) ?_
  refine lv_bipush (v := 120) C.1 C.2.1 dX4_finish_7 (by decide) ?_
  refine lv_icmp_ge (tgt := 66) C.1 C.2.1 dX4_finish_9 (by decide) (fun h => absurd h (by decide)) (fun _ => ?_)
  refine lv_iload C.1 C.2.1 dX4_finish_12 (lv_at hl 0 rfl) ?_
  refine lv_iload_n C.1 C.2.1 dX4_finish_14 rfl (lv_at hl 3 rfl) ?_
  refine lv_icmp_ge (tgt := 66) C.1 C.2.1 dX4_finish_15 (by decide) (fun h => absurd h (by decide)) (fun _ => ?_)
  refine lv_iload_n C.1 C.2.1 dX4_finish_18 rfl (lv_at hl 4 rfl) ?_
  refine lv_if_eq (tgt := 43) C.1 C.2.1 dX4_finish_19 (by decide) (fun _ => ?_) (fun h => absurd (by decide) h)
  refine lv_aload_n C.1 C.2.1 dX4_finish_43 rfl (lv_at hl 2 rfl) ?_
  refine k_get (v := .ref a1) C hP 0 rfl rfl inlX4 2 (by decide) m_4_11 e0_2 dX4_finish_44 ?_
  refine lv_iload C.1 C.2.1 dX4_finish_47 (lv_at hl 0 rfl) ?_
  refine k_bld (v := 32) C hP 1 rfl (vin (by decide)) rfl dX4_finish_49 ?_
  refine lv_bipush (v := 32) C.1 C.2.1 dX4_finish_50 (by decide) ?_
  refine lv_icmp_eq (tgt := 60) C.1 C.2.1 dX4_finish_52 (by decide) (fun _ => ?_) (fun h => absurd (by decide) h)
  refine lv_iinc (v := 10) (lv' := [(4, .int 10), (3, .int 6), (0, .ref a0), (1, .int 120), (2, .int 0)]) C.1 C.2.1 dX4_finish_60 hl (k := 0) rfl (by decide) (by decide) rfl (fun ls hl => ?_)
  refine lv_goto (tgt := 5) C.1 C.2.1 dX4_finish_63 (by decide) ?_
  refine lv_iload C.1 C.2.1 dX4_finish_5 (lv_at hl 0 rfl) ?_
  refine lv_bipush (v := 120) C.1 C.2.1 dX4_finish_7 (by decide) ?_
  refine lv_icmp_ge (tgt := 66) C.1 C.2.1 dX4_finish_9 (by decide) (fun h => absurd h (by decide)) (fun _ => ?_)
  refine lv_iload C.1 C.2.1 dX4_finish_12 (lv_at hl 0 rfl) ?_
  refine lv_iload_n C.1 C.2.1 dX4_finish_14 rfl (lv_at hl 3 rfl) ?_
  refine lv_icmp_ge (tgt := 66) C.1 C.2.1 dX4_finish_15 (by decide) (fun h => absurd h (by decide)) (fun _ => ?_)
  refine lv_iload_n C.1 C.2.1 dX4_finish_18 rfl (lv_at hl 4 rfl) ?_
  refine lv_if_eq (tgt := 43) C.1 C.2.1 dX4_finish_19 (by decide) (fun _ => ?_) (fun h => absurd (by decide) h)
  refine lv_aload_n C.1 C.2.1 dX4_finish_43 rfl (lv_at hl 2 rfl) ?_
  refine k_get (v := .ref a1) C hP 0 rfl rfl inlX4 2 (by decide) m_4_11 e0_2 dX4_finish_44 ?_
  refine lv_iload C.1 C.2.1 dX4_finish_47 (lv_at hl 0 rfl) ?_
  refine k_bld (v := 32) C hP 1 rfl (vin (by decide)) rfl dX4_finish_49 ?_
  refine lv_bipush (v := 32) C.1 C.2.1 dX4_finish_50 (by decide) ?_
  refine lv_icmp_eq (tgt := 60) C.1 C.2.1 dX4_finish_52 (by decide) (fun _ => ?_) (fun h => absurd (by decide) h)
  refine lv_iinc (v := 11) (lv' := [(4, .int 11), (3, .int 6), (0, .ref a0), (1, .int 120), (2, .int 0)]) C.1 C.2.1 dX4_finish_60 hl (k := 0) rfl (by decide) (by decide) rfl (fun ls hl => ?_)
  refine lv_goto (tgt := 5) C.1 C.2.1 dX4_finish_63 (by decide) ?_
  refine lv_iload C.1 C.2.1 dX4_finish_5 (lv_at hl 0 rfl) ?_
  refine lv_bipush (v := 120) C.1 C.2.1 dX4_finish_7 (by decide) ?_
  refine lv_icmp_ge (tgt := 66) C.1 C.2.1 dX4_finish_9 (by decide) (fun h => absurd h (by decide)) (fun _ => ?_)
  refine lv_iload C.1 C.2.1 dX4_finish_12 (lv_at hl 0 rfl) ?_
  refine lv_iload_n C.1 C.2.1 dX4_finish_14 rfl (lv_at hl 3 rfl) ?_
  refine lv_icmp_ge (tgt := 66) C.1 C.2.1 dX4_finish_15 (by decide) (fun h => absurd h (by decide)) (fun _ => ?_)
  refine lv_iload_n C.1 C.2.1 dX4_finish_18 rfl (lv_at hl 4 rfl) ?_
  refine lv_if_eq (tgt := 43) C.1 C.2.1 dX4_finish_19 (by decide) (fun _ => ?_) (fun h => absurd (by decide) h)
  refine lv_aload_n C.1 C.2.1 dX4_finish_43 rfl (lv_at hl 2 rfl) ?_
  refine k_get (v := .ref a1) C hP 0 rfl rfl inlX4 2 (by decide) m_4_11 e0_2 dX4_finish_44 ?_
  refine lv_iload C.1 C.2.1 dX4_finish_47 (lv_at hl 0 rfl) ?_
  refine k_bld (v := 32) C hP 1 rfl (vin (by decide)) rfl dX4_finish_49 ?_
  refine lv_bipush (v := 32) C.1 C.2.1 dX4_finish_50 (by decide) ?_
  refine lv_icmp_eq (tgt := 60) C.1 C.2.1 dX4_finish_52 (by decide) (fun _ => ?_) (fun h => absurd (by decide) h)
  refine lv_iinc (v := 12) (lv' := [(4, .int 12), (3, .int 6), (0, .ref a0), (1, .int 120), (2, .int 0)]) C.1 C.2.1 dX4_finish_60 hl (k := 0) rfl (by decide) (by decide) rfl (fun ls hl => ?_)
  refine lv_goto (tgt := 5) C.1 C.2.1 dX4_finish_63 (by decide) ?_
  refine lv_iload C.1 C.2.1 dX4_finish_5 (lv_at hl 0 rfl) ?_
  refine lv_bipush (v := 120) C.1 C.2.1 dX4_finish_7 (by decide) ?_
  refine lv_icmp_ge (tgt := 66) C.1 C.2.1 dX4_finish_9 (by decide) (fun h => absurd h (by decide)) (fun _ => ?_)
  refine lv_iload C.1 C.2.1 dX4_finish_12 (lv_at hl 0 rfl) ?_
  refine lv_iload_n C.1 C.2.1 dX4_finish_14 rfl (lv_at hl 3 rfl) ?_
  refine lv_icmp_ge (tgt := 66) C.1 C.2.1 dX4_finish_15 (by decide) (fun h => absurd h (by decide)) (fun _ => ?_)
  refine lv_iload_n C.1 C.2.1 dX4_finish_18 rfl (lv_at hl 4 rfl) ?_
  refine lv_if_eq (tgt := 43) C.1 C.2.1 dX4_finish_19 (by decide) (fun _ => ?_) (fun h => absurd (by decide) h)
  refine lv_aload_n C.1 C.2.1 dX4_finish_43 rfl (lv_at hl 2 rfl) ?_
  refine k_get (v := .ref a1) C hP 0 rfl rfl inlX4 2 (by decide) m_4_11 e0_2 dX4_finish_44 ?_
  refine lv_iload C.1 C.2.1 dX4_finish_47 (lv_at hl 0 rfl) ?_
  refine k_bld (v := 32) C hP 1 rfl (vin (by decide)) rfl dX4_finish_49 ?_
  refine lv_bipush (v := 32) C.1 C.2.1 dX4_finish_50 (by decide) ?_
  refine lv_icmp_eq (tgt := 60) C.1 C.2.1 dX4_finish_52 (by decide) (fun _ => ?_) (fun h => absurd (by decide) h)
  refine lv_iinc (v := 13) (lv' := [(4, .int 13), (3, .int 6), (0, .ref a0), (1, .int 120), (2, .int 0)]) C.1 C.2.1 dX4_finish_60 hl (k := 0) rfl (by decide) (by decide) rfl (fun ls hl => ?_)
  refine lv_goto (tgt := 5) C.1 C.2.1 dX4_finish_63 (by decide) ?_
  refine lv_iload C.1 C.2.1 dX4_finish_5 (lv_at hl 0 rfl) ?_
  refine lv_bipush (v := 120) C.1 C.2.1 dX4_finish_7 (by decide) ?_
  refine lv_icmp_ge (tgt := 66) C.1 C.2.1 dX4_finish_9 (by decide) (fun h => absurd h (by decide)) (fun _ => ?_)
  refine lv_iload C.1 C.2.1 dX4_finish_12 (lv_at hl 0 rfl) ?_
  refine lv_iload_n C.1 C.2.1 dX4_finish_14 rfl (lv_at hl 3 rfl) ?_
  refine lv_icmp_ge (tgt := 66) C.1 C.2.1 dX4_finish_15 (by decide) (fun h => absurd h (by decide)) (fun _ => ?_)
  refine lv_iload_n C.1 C.2.1 dX4_finish_18 rfl (lv_at hl 4 rfl) ?_
  refine lv_if_eq (tgt := 43) C.1 C.2.1 dX4_finish_19 (by decide) (fun _ => ?_) (fun h => absurd (by decide) h)
  refine lv_aload_n C.1 C.2.1 dX4_finish_43 rfl (lv_at hl 2 rfl) ?_
  refine k_get (v := .ref a1) C hP 0 rfl rfl inlX4 2 (by decide) m_4_11 e0_2 dX4_finish_44 ?_
  refine lv_iload C.1 C.2.1 dX4_finish_47 (lv_at hl 0 rfl) ?_
  refine k_bld (v := 32) C hP 1 rfl (vin (by decide)) rfl dX4_finish_49 ?_
  refine lv_bipush (v := 32) C.1 C.2.1 dX4_finish_50 (by decide) ?_
  refine lv_icmp_eq (tgt := 60) C.1 C.2.1 dX4_finish_52 (by decide) (fun _ => ?_) (fun h => absurd (by decide) h)
  refine lv_iinc (v := 14) (lv' := [(4, .int 14), (3, .int 6), (0, .ref a0), (1, .int 120), (2, .int 0)]) C.1 C.2.1 dX4_finish_60 hl (k := 0) rfl (by decide) (by decide) rfl (fun ls hl => ?_)
  refine lv_goto (tgt := 5) C.1 C.2.1 dX4_finish_63 (by decide) ?_
  refine lv_iload C.1 C.2.1 dX4_finish_5 (lv_at hl 0 rfl) ?_
  refine lv_bipush (v := 120) C.1 C.2.1 dX4_finish_7 (by decide) ?_
  refine lv_icmp_ge (tgt := 66) C.1 C.2.1 dX4_finish_9 (by decide) (fun h => absurd h (by decide)) (fun _ => ?_)
  refine lv_iload C.1 C.2.1 dX4_finish_12 (lv_at hl 0 rfl) ?_
  refine lv_iload_n C.1 C.2.1 dX4_finish_14 rfl (lv_at hl 3 rfl) ?_
  refine lv_icmp_ge (tgt := 66) C.1 C.2.1 dX4_finish_15 (by decide) (fun h => absurd h (by decide)) (fun _ => ?_)
  refine lv_iload_n C.1 C.2.1 dX4_finish_18 rfl (lv_at hl 4 rfl) ?_
  refine lv_if_eq (tgt := 43) C.1 C.2.1 dX4_finish_19 (by decide) (fun _ => ?_) (fun h => absurd (by decide) h)
  refine lv_aload_n C.1 C.2.1 dX4_finish_43 rfl (lv_at hl 2 rfl) ?_
  refine k_get (v := .ref a1) C hP 0 rfl rfl inlX4 2 (by decide) m_4_11 e0_2 dX4_finish_44 ?_
  refine lv_iload C.1 C.2.1 dX4_finish_47 (lv_at hl 0 rfl) ?_
  refine k_bld (v := 32) C hP 1 rfl (vin (by decide)) rfl dX4_finish_49 ?_
  refine lv_bipush (v := 32) C.1 C.2.1 dX4_finish_50 (by decide) ?_
  refine lv_icmp_eq (tgt := 60) C.1 C.2.1 dX4_finish_52 (by decide) (fun _ => ?_) (fun h => absurd (by decide) h)
  refine lv_iinc (v := 15) (lv' := [(4, .int 15), (3, .int 6), (0, .ref a0), (1, .int 120), (2, .int 0)]) C.1 C.2.1 dX4_finish_60 hl (k := 0) rfl (by decide) (by decide) rfl (fun ls hl => ?_)
  refine lv_goto (tgt := 5) C.1 C.2.1 dX4_finish_63 (by decide) ?_
  refine lv_iload C.1 C.2.1 dX4_finish_5 (lv_at hl 0 rfl) ?_
  refine lv_bipush (v := 120) C.1 C.2.1 dX4_finish_7 (by decide) ?_
  refine lv_icmp_ge (tgt := 66) C.1 C.2.1 dX4_finish_9 (by decide) (fun h => absurd h (by decide)) (fun _ => ?_)
  refine lv_iload C.1 C.2.1 dX4_finish_12 (lv_at hl 0 rfl) ?_
  refine lv_iload_n C.1 C.2.1 dX4_finish_14 rfl (lv_at hl 3 rfl) ?_
  refine lv_icmp_ge (tgt := 66) C.1 C.2.1 dX4_finish_15 (by decide) (fun h => absurd h (by decide)) (fun _ => ?_)
  refine lv_iload_n C.1 C.2.1 dX4_finish_18 rfl (lv_at hl 4 rfl) ?_
  refine lv_if_eq (tgt := 43) C.1 C.2.1 dX4_finish_19 (by decide) (fun _ => ?_) (fun h => absurd (by decide) h)
  refine lv_aload_n C.1 C.2.1 dX4_finish_43 rfl (lv_at hl 2 rfl) ?_
  refine k_get (v := .ref a1) C hP 0 rfl rfl inlX4 2 (by decide) m_4_11 e0_2 dX4_finish_44 ?_
  refine lv_iload C.1 C.2.1 dX4_finish_47 (lv_at hl 0 rfl) ?_
  refine k_bld (v := 32) C hP 1 rfl (vin (by decide)) rfl dX4_finish_49 ?_
  refine lv_bipush (v := 32) C.1 C.2.1 dX4_finish_50 (by decide) ?_
  refine lv_icmp_eq (tgt := 60) C.1 C.2.1 dX4_finish_52 (by decide) (fun _ => ?_) (fun h => absurd (by decide) h)
  refine lv_iinc (v := 16) (lv' := [(4, .int 16), (3, .int 6), (0, .ref a0), (1, .int 120), (2, .int 0)]) C.1 C.2.1 dX4_finish_60 hl (k := 0) rfl (by decide) (by decide) rfl (fun ls hl => ?_)
  refine lv_goto (tgt := 5) C.1 C.2.1 dX4_finish_63 (by decide) ?_
  refine lv_iload C.1 C.2.1 dX4_finish_5 (lv_at hl 0 rfl) ?_
  refine lv_bipush (v := 120) C.1 C.2.1 dX4_finish_7 (by decide) ?_
  refine lv_icmp_ge (tgt := 66) C.1 C.2.1 dX4_finish_9 (by decide) (fun h => absurd h (by decide)) (fun _ => ?_)
  refine lv_iload C.1 C.2.1 dX4_finish_12 (lv_at hl 0 rfl) ?_
  refine lv_iload_n C.1 C.2.1 dX4_finish_14 rfl (lv_at hl 3 rfl) ?_
  refine lv_icmp_ge (tgt := 66) C.1 C.2.1 dX4_finish_15 (by decide) (fun h => absurd h (by decide)) (fun _ => ?_)
  refine lv_iload_n C.1 C.2.1 dX4_finish_18 rfl (lv_at hl 4 rfl) ?_
  refine lv_if_eq (tgt := 43) C.1 C.2.1 dX4_finish_19 (by decide) (fun _ => ?_) (fun h => absurd (by decide) h)
  refine lv_aload_n C.1 C.2.1 dX4_finish_43 rfl (lv_at hl 2 rfl) ?_
  refine k_get (v := .ref a1) C hP 0 rfl rfl inlX4 2 (by decide) m_4_11 e0_2 dX4_finish_44 ?_
  refine lv_iload C.1 C.2.1 dX4_finish_47 (lv_at hl 0 rfl) ?_
  refine k_bld (v := 32) C hP 1 rfl (vin (by decide)) rfl dX4_finish_49 ?_
  refine lv_bipush (v := 32) C.1 C.2.1 dX4_finish_50 (by decide) ?_
  refine lv_icmp_eq (tgt := 60) C.1 C.2.1 dX4_finish_52 (by decide) (fun _ => ?_) (fun h => absurd (by decide) h)
  refine lv_iinc (v := 17) (lv' := [(4, .int 17), (3, .int 6), (0, .ref a0), (1, .int 120), (2, .int 0)]) C.1 C.2.1 dX4_finish_60 hl (k := 0) rfl (by decide) (by decide) rfl (fun ls hl => ?_)
  refine lv_goto (tgt := 5) C.1 C.2.1 dX4_finish_63 (by decide) ?_
  refine lv_iload C.1 C.2.1 dX4_finish_5 (lv_at hl 0 rfl) ?_
  refine lv_bipush (v := 120) C.1 C.2.1 dX4_finish_7 (by decide) ?_
  refine lv_icmp_ge (tgt := 66) C.1 C.2.1 dX4_finish_9 (by decide) (fun h => absurd h (by decide)) (fun _ => ?_)
  refine lv_iload C.1 C.2.1 dX4_finish_12 (lv_at hl 0 rfl) ?_
  refine lv_iload_n C.1 C.2.1 dX4_finish_14 rfl (lv_at hl 3 rfl) ?_
  refine lv_icmp_ge (tgt := 66) C.1 C.2.1 dX4_finish_15 (by decide) (fun h => absurd h (by decide)) (fun _ => ?_)
  refine lv_iload_n C.1 C.2.1 dX4_finish_18 rfl (lv_at hl 4 rfl) ?_
  refine lv_if_eq (tgt := 43) C.1 C.2.1 dX4_finish_19 (by decide) (fun _ => ?_) (fun h => absurd (by decide) h)
  refine lv_aload_n C.1 C.2.1 dX4_finish_43 rfl (lv_at hl 2 rfl) ?_
  refine k_get (v := .ref a1) C hP 0 rfl rfl inlX4 2 (by decide) m_4_11 e0_2 dX4_finish_44 ?_
  refine lv_iload C.1 C.2.1 dX4_finish_47 (lv_at hl 0 rfl) ?_
  refine k_bld (v := 32) C hP 1 rfl (vin (by decide)) rfl dX4_finish_49 ?_
  refine lv_bipush (v := 32) C.1 C.2.1 dX4_finish_50 (by decide) ?_
  refine lv_icmp_eq (tgt := 60) C.1 C.2.1 dX4_finish_52 (by decide) (fun _ => ?_) (fun h => absurd (by decide) h)
  refine lv_iinc (v := 18) (lv' := [(4, .int 18), (3, .int 6), (0, .ref a0), (1, .int 120), (2, .int 0)]) C.1 C.2.1 dX4_finish_60 hl (k := 0) rfl (by decide) (by decide) rfl (fun ls hl => ?_)
  refine lv_goto (tgt := 5) C.1 C.2.1 dX4_finish_63 (by decide) ?_
  refine lv_iload C.1 C.2.1 dX4_finish_5 (lv_at hl 0 rfl) ?_
  refine lv_bipush (v := 120) C.1 C.2.1 dX4_finish_7 (by decide) ?_
  refine lv_icmp_ge (tgt := 66) C.1 C.2.1 dX4_finish_9 (by decide) (fun h => absurd h (by decide)) (fun _ => ?_)
  refine lv_iload C.1 C.2.1 dX4_finish_12 (lv_at hl 0 rfl) ?_
  refine lv_iload_n C.1 C.2.1 dX4_finish_14 rfl (lv_at hl 3 rfl) ?_
  refine lv_icmp_ge (tgt := 66) C.1 C.2.1 dX4_finish_15 (by decide) (fun h => absurd h (by decide)) (fun _ => ?_)
  refine lv_iload_n C.1 C.2.1 dX4_finish_18 rfl (lv_at hl 4 rfl) ?_
  refine lv_if_eq (tgt := 43) C.1 C.2.1 dX4_finish_19 (by decide) (fun _ => ?_) (fun h => absurd (by decide) h)
  refine lv_aload_n C.1 C.2.1 dX4_finish_43 rfl (lv_at hl 2 rfl) ?_
  refine k_get (v := .ref a1) C hP 0 rfl rfl inlX4 2 (by decide) m_4_11 e0_2 dX4_finish_44 ?_
  refine lv_iload C.1 C.2.1 dX4_finish_47 (lv_at hl 0 rfl) ?_
  refine k_bld (v := 32) C hP 1 rfl (vin (by decide)) rfl dX4_finish_49 ?_
  refine lv_bipush (v := 32) C.1 C.2.1 dX4_finish_50 (by decide) ?_
  refine lv_icmp_eq (tgt := 60) C.1 C.2.1 dX4_finish_52 (by decide) (fun _ => ?_) (fun h => absurd (by decide) h)
  refine lv_iinc (v := 19) (lv' := [(4, .int 19), (3, .int 6), (0, .ref a0), (1, .int 120), (2, .int 0)]) C.1 C.2.1 dX4_finish_60 hl (k := 0) rfl (by decide) (by decide) rfl (fun ls hl => ?_)
  refine lv_goto (tgt := 5) C.1 C.2.1 dX4_finish_63 (by decide) ?_
  refine lv_iload C.1 C.2.1 dX4_finish_5 (lv_at hl 0 rfl) ?_
  refine lv_bipush (v := 120) C.1 C.2.1 dX4_finish_7 (by decide) ?_
  refine lv_icmp_ge (tgt := 66) C.1 C.2.1 dX4_finish_9 (by decide) (fun h => absurd h (by decide)) (fun _ => ?_)
  refine lv_iload C.1 C.2.1 dX4_finish_12 (lv_at hl 0 rfl) ?_
  refine lv_iload_n C.1 C.2.1 dX4_finish_14 rfl (lv_at hl 3 rfl) ?_
  refine lv_icmp_ge (tgt := 66) C.1 C.2.1 dX4_finish_15 (by decide) (fun h => absurd h (by decide)) (fun _ => ?_)
  refine lv_iload_n C.1 C.2.1 dX4_finish_18 rfl (lv_at hl 4 rfl) ?_
  refine lv_if_eq (tgt := 43) C.1 C.2.1 dX4_finish_19 (by decide) (fun _ => ?_) (fun h => absurd (by decide) h)
  refine lv_aload_n C.1 C.2.1 dX4_finish_43 rfl (lv_at hl 2 rfl) ?_
  refine k_get (v := .ref a1) C hP 0 rfl rfl inlX4 2 (by decide) m_4_11 e0_2 dX4_finish_44 ?_
  refine lv_iload C.1 C.2.1 dX4_finish_47 (lv_at hl 0 rfl) ?_
  refine k_bld (v := 32) C hP 1 rfl (vin (by decide)) rfl dX4_finish_49 ?_
  refine lv_bipush (v := 32) C.1 C.2.1 dX4_finish_50 (by decide) ?_
  refine lv_icmp_eq (tgt := 60) C.1 C.2.1 dX4_finish_52 (by decide) (fun _ => ?_) (fun h => absurd (by decide) h)
  refine lv_iinc (v := 20) (lv' := [(4, .int 20), (3, .int 6), (0, .ref a0), (1, .int 120), (2, .int 0)]) C.1 C.2.1 dX4_finish_60 hl (k := 0) rfl (by decide) (by decide) rfl (fun ls hl => ?_)
  refine lv_goto (tgt := 5) C.1 C.2.1 dX4_finish_63 (by decide) ?_
  refine lv_iload C.1 C.2.1 dX4_finish_5 (lv_at hl 0 rfl) ?_
  refine lv_bipush (v := 120) C.1 C.2.1 dX4_finish_7 (by decide) ?_
  refine lv_icmp_ge (tgt := 66) C.1 C.2.1 dX4_finish_9 (by decide) (fun h => absurd h (by decide)) (fun _ => ?_)
  refine lv_iload C.1 C.2.1 dX4_finish_12 (lv_at hl 0 rfl) ?_
  refine lv_iload_n C.1 C.2.1 dX4_finish_14 rfl (lv_at hl 3 rfl) ?_
  refine lv_icmp_ge (tgt := 66) C.1 C.2.1 dX4_finish_15 (by decide) (fun h => absurd h (by decide)) (fun _ => ?_)
  refine lv_iload_n C.1 C.2.1 dX4_finish_18 rfl (lv_at hl 4 rfl) ?_
  refine lv_if_eq (tgt := 43) C.1 C.2.1 dX4_finish_19 (by decide) (fun _ => ?_) (fun h => absurd (by decide) h)
  refine lv_aload_n C.1 C.2.1 dX4_finish_43 rfl (lv_at hl 2 rfl) ?_
  refine k_get (v := .ref a1) C hP 0 rfl rfl inlX4 2 (by decide) m_4_11 e0_2 dX4_finish_44 ?_
  refine lv_iload C.1 C.2.1 dX4_finish_47 (lv_at hl 0 rfl) ?_
  refine k_bld (v := 32) C hP 1 rfl (vin (by decide)) rfl dX4_finish_49 ?_
  refine lv_bipush (v := 32) C.1 C.2.1 dX4_finish_50 (by decide) ?_
  refine lv_icmp_eq (tgt := 60) C.1 C.2.1 dX4_finish_52 (by decide) (fun _ => ?_) (fun h => absurd (by decide) h)
  refine lv_iinc (v := 21) (lv' := [(4, .int 21), (3, .int 6), (0, .ref a0), (1, .int 120), (2, .int 0)]) C.1 C.2.1 dX4_finish_60 hl (k := 0) rfl (by decide) (by decide) rfl (fun ls hl => ?_)
  refine lv_goto (tgt := 5) C.1 C.2.1 dX4_finish_63 (by decide) ?_
  refine lv_iload C.1 C.2.1 dX4_finish_5 (lv_at hl 0 rfl) ?_
  refine lv_bipush (v := 120) C.1 C.2.1 dX4_finish_7 (by decide) ?_
  refine lv_icmp_ge (tgt := 66) C.1 C.2.1 dX4_finish_9 (by decide) (fun h => absurd h (by decide)) (fun _ => ?_)
  refine lv_iload C.1 C.2.1 dX4_finish_12 (lv_at hl 0 rfl) ?_
  refine lv_iload_n C.1 C.2.1 dX4_finish_14 rfl (lv_at hl 3 rfl) ?_
  refine lv_icmp_ge (tgt := 66) C.1 C.2.1 dX4_finish_15 (by decide) (fun h => absurd h (by decide)) (fun _ => ?_)
  refine lv_iload_n C.1 C.2.1 dX4_finish_18 rfl (lv_at hl 4 rfl) ?_
  refine lv_if_eq (tgt := 43) C.1 C.2.1 dX4_finish_19 (by decide) (fun _ => ?_) (fun h => absurd (by decide) h)
  refine lv_aload_n C.1 C.2.1 dX4_finish_43 rfl (lv_at hl 2 rfl) ?_
  refine k_get (v := .ref a1) C hP 0 rfl rfl inlX4 2 (by decide) m_4_11 e0_2 dX4_finish_44 ?_
  refine lv_iload C.1 C.2.1 dX4_finish_47 (lv_at hl 0 rfl) ?_
  refine k_bld (v := 32) C hP 1 rfl (vin (by decide)) rfl dX4_finish_49 ?_
  refine lv_bipush (v := 32) C.1 C.2.1 dX4_finish_50 (by decide) ?_
  refine lv_icmp_eq (tgt := 60) C.1 C.2.1 dX4_finish_52 (by decide) (fun _ => ?_) (fun h => absurd (by decide) h)
  refine lv_iinc (v := 22) (lv' := [(4, .int 22), (3, .int 6), (0, .ref a0), (1, .int 120), (2, .int 0)]) C.1 C.2.1 dX4_finish_60 hl (k := 0) rfl (by decide) (by decide) rfl (fun ls hl => ?_)
  refine lv_goto (tgt := 5) C.1 C.2.1 dX4_finish_63 (by decide) ?_
  refine lv_iload C.1 C.2.1 dX4_finish_5 (lv_at hl 0 rfl) ?_
  refine lv_bipush (v := 120) C.1 C.2.1 dX4_finish_7 (by decide) ?_
  refine lv_icmp_ge (tgt := 66) C.1 C.2.1 dX4_finish_9 (by decide) (fun h => absurd h (by decide)) (fun _ => ?_)
  refine lv_iload C.1 C.2.1 dX4_finish_12 (lv_at hl 0 rfl) ?_
  refine lv_iload_n C.1 C.2.1 dX4_finish_14 rfl (lv_at hl 3 rfl) ?_
  refine lv_icmp_ge (tgt := 66) C.1 C.2.1 dX4_finish_15 (by decide) (fun h => absurd h (by decide)) (fun _ => ?_)
  refine lv_iload_n C.1 C.2.1 dX4_finish_18 rfl (lv_at hl 4 rfl) ?_
  refine lv_if_eq (tgt := 43) C.1 C.2.1 dX4_finish_19 (by decide) (fun _ => ?_) (fun h => absurd (by decide) h)
  refine lv_aload_n C.1 C.2.1 dX4_finish_43 rfl (lv_at hl 2 rfl) ?_
  refine k_get (v := .ref a1) C hP 0 rfl rfl inlX4 2 (by decide) m_4_11 e0_2 dX4_finish_44 ?_
  refine lv_iload C.1 C.2.1 dX4_finish_47 (lv_at hl 0 rfl) ?_
  refine k_bld (v := 32) C hP 1 rfl (vin (by decide)) rfl dX4_finish_49 ?_
  refine lv_bipush (v := 32) C.1 C.2.1 dX4_finish_50 (by decide) ?_
  refine lv_icmp_eq (tgt := 60) C.1 C.2.1 dX4_finish_52 (by decide) (fun _ => ?_) (fun h => absurd (by decide) h)
  refine lv_iinc (v := 23) (lv' := [(4, .int 23), (3, .int 6), (0, .ref a0), (1, .int 120), (2, .int 0)]) C.1 C.2.1 dX4_finish_60 hl (k := 0) rfl (by decide) (by decide) rfl (fun ls hl => ?_)
  refine lv_goto (tgt := 5) C.1 C.2.1 dX4_finish_63 (by decide) ?_
  refine lv_iload C.1 C.2.1 dX4_finish_5 (lv_at hl 0 rfl) ?_
  refine lv_bipush (v := 120) C.1 C.2.1 dX4_finish_7 (by decide) ?_
  refine lv_icmp_ge (tgt := 66) C.1 C.2.1 dX4_finish_9 (by decide) (fun h => absurd h (by decide)) (fun _ => ?_)
  refine lv_iload C.1 C.2.1 dX4_finish_12 (lv_at hl 0 rfl) ?_
  refine lv_iload_n C.1 C.2.1 dX4_finish_14 rfl (lv_at hl 3 rfl) ?_
  refine lv_icmp_ge (tgt := 66) C.1 C.2.1 dX4_finish_15 (by decide) (fun h => absurd h (by decide)) (fun _ => ?_)
  refine lv_iload_n C.1 C.2.1 dX4_finish_18 rfl (lv_at hl 4 rfl) ?_
  refine lv_if_eq (tgt := 43) C.1 C.2.1 dX4_finish_19 (by decide) (fun _ => ?_) (fun h => absurd (by decide) h)
  refine lv_aload_n C.1 C.2.1 dX4_finish_43 rfl (lv_at hl 2 rfl) ?_
  refine k_get (v := .ref a1) C hP 0 rfl rfl inlX4 2 (by decide) m_4_11 e0_2 dX4_finish_44 ?_
  refine lv_iload C.1 C.2.1 dX4_finish_47 (lv_at hl 0 rfl) ?_
  refine k_bld (v := 32) C hP 1 rfl (vin (by decide)) rfl dX4_finish_49 ?_
  refine lv_bipush (v := 32) C.1 C.2.1 dX4_finish_50 (by decide) ?_
  refine lv_icmp_eq (tgt := 60) C.1 C.2.1 dX4_finish_52 (by decide) (fun _ => ?_) (fun h => absurd (by decide) h)
  refine lv_iinc (v := 24) (lv' := [(4, .int 24), (3, .int 6), (0, .ref a0), (1, .int 120), (2, .int 0)]) C.1 C.2.1 dX4_finish_60 hl (k := 0) rfl (by decide) (by decide) rfl (fun ls hl => ?_)
  refine lv_goto (tgt := 5) C.1 C.2.1 dX4_finish_63 (by decide) ?_
  refine lv_iload C.1 C.2.1 dX4_finish_5 (lv_at hl 0 rfl) ?_
  refine lv_bipush (v := 120) C.1 C.2.1 dX4_finish_7 (by decide) ?_
  refine lv_icmp_ge (tgt := 66) C.1 C.2.1 dX4_finish_9 (by decide) (fun h => absurd h (by decide)) (fun _ => ?_)
  refine lv_iload C.1 C.2.1 dX4_finish_12 (lv_at hl 0 rfl) ?_
  refine lv_iload_n C.1 C.2.1 dX4_finish_14 rfl (lv_at hl 3 rfl) ?_
  refine lv_icmp_ge (tgt := 66) C.1 C.2.1 dX4_finish_15 (by decide) (fun h => absurd h (by decide)) (fun _ => ?_)
  refine lv_iload_n C.1 C.2.1 dX4_finish_18 rfl (lv_at hl 4 rfl) ?_
  refine lv_if_eq (tgt := 43) C.1 C.2.1 dX4_finish_19 (by decide) (fun _ => ?_) (fun h => absurd (by decide) h)
  refine lv_aload_n C.1 C.2.1 dX4_finish_43 rfl (lv_at hl 2 rfl) ?_
  refine k_get (v := .ref a1) C hP 0 rfl rfl inlX4 2 (by decide) m_4_11 e0_2 dX4_finish_44 ?_
  refine lv_iload C.1 C.2.1 dX4_finish_47 (lv_at hl 0 rfl) ?_
  refine k_bld (v := 32) C hP 1 rfl (vin (by decide)) rfl dX4_finish_49 ?_
  refine lv_bipush (v := 32) C.1 C.2.1 dX4_finish_50 (by decide) ?_
  refine lv_icmp_eq (tgt := 60) C.1 C.2.1 dX4_finish_52 (by decide) (fun _ => ?_) (fun h => absurd (by decide) h)
  refine lv_iinc (v := 25) (lv' := [(4, .int 25), (3, .int 6), (0, .ref a0), (1, .int 120), (2, .int 0)]) C.1 C.2.1 dX4_finish_60 hl (k := 0) rfl (by decide) (by decide) rfl (fun ls hl => ?_)
  refine lv_goto (tgt := 5) C.1 C.2.1 dX4_finish_63 (by decide) ?_
  refine lv_iload C.1 C.2.1 dX4_finish_5 (lv_at hl 0 rfl) ?_
  refine lv_bipush (v := 120) C.1 C.2.1 dX4_finish_7 (by decide) ?_
  refine lv_icmp_ge (tgt := 66) C.1 C.2.1 dX4_finish_9 (by decide) (fun h => absurd h (by decide)) (fun _ => ?_)
  refine lv_iload C.1 C.2.1 dX4_finish_12 (lv_at hl 0 rfl) ?_
  refine lv_iload_n C.1 C.2.1 dX4_finish_14 rfl (lv_at hl 3 rfl) ?_
  refine lv_icmp_ge (tgt := 66) C.1 C.2.1 dX4_finish_15 (by decide) (fun h => absurd h (by decide)) (fun _ => ?_)
  refine lv_iload_n C.1 C.2.1 dX4_finish_18 rfl (lv_at hl 4 rfl) ?_
  refine lv_if_eq (tgt := 43) C.1 C.2.1 dX4_finish_19 (by decide) (fun _ => ?_) (fun h => absurd (by decide) h)
  refine lv_aload_n C.1 C.2.1 dX4_finish_43 rfl (lv_at hl 2 rfl) ?_
  refine k_get (v := .ref a1) C hP 0 rfl rfl inlX4 2 (by decide) m_4_11 e0_2 dX4_finish_44 ?_
  refine lv_iload C.1 C.2.1 dX4_finish_47 (lv_at hl 0 rfl) ?_
  refine k_bld (v := 32) C hP 1 rfl (vin (by decide)) rfl dX4_finish_49 ?_
  refine lv_bipush (v := 32) C.1 C.2.1 dX4_finish_50 (by decide) ?_
  refine lv_icmp_eq (tgt := 60) C.1 C.2.1 dX4_finish_52 (by decide) (fun _ => ?_) (fun h => absurd (by decide) h)
  refine lv_iinc (v := 26) (lv' := [(4, .int 26), (3, .int 6), (0, .ref a0), (1, .int 120), (2, .int 0)]) C.1 C.2.1 dX4_finish_60 hl (k := 0) rfl (by decide) (by decide) rfl (fun ls hl => ?_)
  refine lv_goto (tgt := 5) C.1 C.2.1 dX4_finish_63 (by decide) ?_
  refine lv_iload C.1 C.2.1 dX4_finish_5 (lv_at hl 0 rfl) ?_
  refine lv_bipush (v := 120) C.1 C.2.1 dX4_finish_7 (by decide) ?_
  refine lv_icmp_ge (tgt := 66) C.1 C.2.1 dX4_finish_9 (by decide) (fun h => absurd h (by decide)) (fun _ => ?_)
  refine lv_iload C.1 C.2.1 dX4_finish_12 (lv_at hl 0 rfl) ?_
  refine lv_iload_n C.1 C.2.1 dX4_finish_14 rfl (lv_at hl 3 rfl) ?_
  refine lv_icmp_ge (tgt := 66) C.1 C.2.1 dX4_finish_15 (by decide) (fun h => absurd h (by decide)) (fun _ => ?_)
  refine lv_iload_n C.1 C.2.1 dX4_finish_18 rfl (lv_at hl 4 rfl) ?_
  refine lv_if_eq (tgt := 43) C.1 C.2.1 dX4_finish_19 (by decide) (fun _ => ?_) (fun h => absurd (by decide) h)
  refine lv_aload_n C.1 C.2.1 dX4_finish_43 rfl (lv_at hl 2 rfl) ?_
  refine k_get (v := .ref a1) C hP 0 rfl rfl inlX4 2 (by decide) m_4_11 e0_2 dX4_finish_44 ?_
  refine lv_iload C.1 C.2.1 dX4_finish_47 (lv_at hl 0 rfl) ?_
  refine k_bld (v := 32) C hP 1 rfl (vin (by decide)) rfl dX4_finish_49 ?_
  refine lv_bipush (v := 32) C.1 C.2.1 dX4_finish_50 (by decide) ?_
  refine lv_icmp_eq (tgt := 60) C.1 C.2.1 dX4_finish_52 (by decide) (fun _ => ?_) (fun h => absurd (by decide) h)
  refine lv_iinc (v := 27) (lv' := [(4, .int 27), (3, .int 6), (0, .ref a0), (1, .int 120), (2, .int 0)]) C.1 C.2.1 dX4_finish_60 hl (k := 0) rfl (by decide) (by decide) rfl (fun ls hl => ?_)
  refine lv_goto (tgt := 5) C.1 C.2.1 dX4_finish_63 (by decide) ?_
  refine lv_iload C.1 C.2.1 dX4_finish_5 (lv_at hl 0 rfl) ?_
  refine lv_bipush (v := 120) C.1 C.2.1 dX4_finish_7 (by decide) ?_
  refine lv_icmp_ge (tgt := 66) C.1 C.2.1 dX4_finish_9 (by decide) (fun h => absurd h (by decide)) (fun _ => ?_)
  refine lv_iload C.1 C.2.1 dX4_finish_12 (lv_at hl 0 rfl) ?_
  refine lv_iload_n C.1 C.2.1 dX4_finish_14 rfl (lv_at hl 3 rfl) ?_
  refine lv_icmp_ge (tgt := 66) C.1 C.2.1 dX4_finish_15 (by decide) (fun h => absurd h (by decide)) (fun _ => ?_)
  refine lv_iload_n C.1 C.2.1 dX4_finish_18 rfl (lv_at hl 4 rfl) ?_
  refine lv_if_eq (tgt := 43) C.1 C.2.1 dX4_finish_19 (by decide) (fun _ => ?_) (fun h => absurd (by decide) h)
  refine lv_aload_n C.1 C.2.1 dX4_finish_43 rfl (lv_at hl 2 rfl) ?_
  refine k_get (v := .ref a1) C hP 0 rfl rfl inlX4 2 (by decide) m_4_11 e0_2 dX4_finish_44 ?_
  refine lv_iload C.1 C.2.1 dX4_finish_47 (lv_at hl 0 rfl) ?_
  refine k_bld (v := 32) C hP 1 rfl (vin (by decide)) rfl dX4_finish_49 ?_
  refine lv_bipush (v := 32) C.1 C.2.1 dX4_finish_50 (by decide) ?_
  refine lv_icmp_eq (tgt := 60) C.1 C.2.1 dX4_finish_52 (by decide) (fun _ => ?_) (fun h => absurd (by decide) h)
  refine lv_iinc (v := 28) (lv' := [(4, .int 28), (3, .int 6), (0, .ref a0), (1, .int 120), (2, .int 0)]) C.1 C.2.1 dX4_finish_60 hl (k := 0) rfl (by decide) (by decide) rfl (fun ls hl => ?_)
  refine lv_goto (tgt := 5) C.1 C.2.1 dX4_finish_63 (by decide) ?_
  refine lv_iload C.1 C.2.1 dX4_finish_5 (lv_at hl 0 rfl) ?_
  refine lv_bipush (v := 120) C.1 C.2.1 dX4_finish_7 (by decide) ?_
  refine lv_icmp_ge (tgt := 66) C.1 C.2.1 dX4_finish_9 (by decide) (fun h => absurd h (by decide)) (fun _ => ?_)
  refine lv_iload C.1 C.2.1 dX4_finish_12 (lv_at hl 0 rfl) ?_
  refine lv_iload_n C.1 C.2.1 dX4_finish_14 rfl (lv_at hl 3 rfl) ?_
  refine lv_icmp_ge (tgt := 66) C.1 C.2.1 dX4_finish_15 (by decide) (fun h => absurd h (by decide)) (fun _ => ?_)
  refine lv_iload_n C.1 C.2.1 dX4_finish_18 rfl (lv_at hl 4 rfl) ?_
  refine lv_if_eq (tgt := 43) C.1 C.2.1 dX4_finish_19 (by decide) (fun _ => ?_) (fun h => absurd (by decide) h)
  refine lv_aload_n C.1 C.2.1 dX4_finish_43 rfl (lv_at hl 2 rfl) ?_
  refine k_get (v := .ref a1) C hP 0 rfl rfl inlX4 2 (by decide) m_4_11 e0_2 dX4_finish_44 ?_
  refine lv_iload C.1 C.2.1 dX4_finish_47 (lv_at hl 0 rfl) ?_
  refine k_bld (v := 32) C hP 1 rfl (vin (by decide)) rfl dX4_finish_49 ?_
  refine lv_bipush (v := 32) C.1 C.2.1 dX4_finish_50 (by decide) ?_
  refine lv_icmp_eq (tgt := 60) C.1 C.2.1 dX4_finish_52 (by decide) (fun _ => ?_) (fun h => absurd (by decide) h)
  refine lv_iinc (v := 29) (lv' := [(4, .int 29), (3, .int 6), (0, .ref a0), (1, .int 120), (2, .int 0)]) C.1 C.2.1 dX4_finish_60 hl (k := 0) rfl (by decide) (by decide) rfl (fun ls hl => ?_)
  refine lv_goto (tgt := 5) C.1 C.2.1 dX4_finish_63 (by decide) ?_
  refine lv_iload C.1 C.2.1 dX4_finish_5 (lv_at hl 0 rfl) ?_
  refine lv_bipush (v := 120) C.1 C.2.1 dX4_finish_7 (by decide) ?_
  refine lv_icmp_ge (tgt := 66) C.1 C.2.1 dX4_finish_9 (by decide) (fun h => absurd h (by decide)) (fun _ => ?_)
  refine lv_iload C.1 C.2.1 dX4_finish_12 (lv_at hl 0 rfl) ?_
  refine lv_iload_n C.1 C.2.1 dX4_finish_14 rfl (lv_at hl 3 rfl) ?_
  refine lv_icmp_ge (tgt := 66) C.1 C.2.1 dX4_finish_15 (by decide) (fun h => absurd h (by decide)) (fun _ => ?_)
  refine lv_iload_n C.1 C.2.1 dX4_finish_18 rfl (lv_at hl 4 rfl) ?_
  refine lv_if_eq (tgt := 43) C.1 C.2.1 dX4_finish_19 (by decide) (fun _ => ?_) (fun h => absurd (by decide) h)
  refine lv_aload_n C.1 C.2.1 dX4_finish_43 rfl (lv_at hl 2 rfl) ?_
  refine k_get (v := .ref a1) C hP 0 rfl rfl inlX4 2 (by decide) m_4_11 e0_2 dX4_finish_44 ?_
  refine lv_iload C.1 C.2.1 dX4_finish_47 (lv_at hl 0 rfl) ?_
  refine k_bld (v := 32) C hP 1 rfl (vin (by decide)) rfl dX4_finish_49 ?_
  refine lv_bipush (v := 32) C.1 C.2.1 dX4_finish_50 (by decide) ?_
  refine lv_icmp_eq (tgt := 60) C.1 C.2.1 dX4_finish_52 (by decide) (fun _ => ?_) (fun h => absurd (by decide) h)
  refine lv_iinc (v := 30) (lv' := [(4, .int 30), (3, .int 6), (0, .ref a0), (1, .int 120), (2, .int 0)]) C.1 C.2.1 dX4_finish_60 hl (k := 0) rfl (by decide) (by decide) rfl (fun ls hl => ?_)
  refine lv_goto (tgt := 5) C.1 C.2.1 dX4_finish_63 (by decide) ?_
  refine lv_iload C.1 C.2.1 dX4_finish_5 (lv_at hl 0 rfl) ?_
  refine lv_bipush (v := 120) C.1 C.2.1 dX4_finish_7 (by decide) ?_
  refine lv_icmp_ge (tgt := 66) C.1 C.2.1 dX4_finish_9 (by decide) (fun h => absurd h (by decide)) (fun _ => ?_)
  refine lv_iload C.1 C.2.1 dX4_finish_12 (lv_at hl 0 rfl) ?_
  refine lv_iload_n C.1 C.2.1 dX4_finish_14 rfl (lv_at hl 3 rfl) ?_
  refine lv_icmp_ge (tgt := 66) C.1 C.2.1 dX4_finish_15 (by decide) (fun h => absurd h (by decide)) (fun _ => ?_)
  refine lv_iload_n C.1 C.2.1 dX4_finish_18 rfl (lv_at hl 4 rfl) ?_
  refine lv_if_eq (tgt := 43) C.1 C.2.1 dX4_finish_19 (by decide) (fun _ => ?_) (fun h => absurd (by decide) h)
  refine lv_aload_n C.1 C.2.1 dX4_finish_43 rfl (lv_at hl 2 rfl) ?_
  refine k_get (v := .ref a1) C hP 0 rfl rfl inlX4 2 (by decide) m_4_11 e0_2 dX4_finish_44 ?_
  refine lv_iload C.1 C.2.1 dX4_finish_47 (lv_at hl 0 rfl) ?_
  refine k_bld (v := 32) C hP 1 rfl (vin (by decide)) rfl dX4_finish_49 ?_
  refine lv_bipush (v := 32) C.1 C.2.1 dX4_finish_50 (by decide) ?_
  refine lv_icmp_eq (tgt := 60) C.1 C.2.1 dX4_finish_52 (by decide) (fun _ => ?_) (fun h => absurd (by decide) h)
  refine lv_iinc (v := 31) (lv' := [(4, .int 31), (3, .int 6), (0, .ref a0), (1, .int 120), (2, .int 0)]) C.1 C.2.1 dX4_finish_60 hl (k := 0) rfl (by decide) (by decide) rfl (fun ls hl => ?_)
  refine lv_goto (tgt := 5) C.1 C.2.1 dX4_finish_63 (by decide) ?_
  refine lv_iload C.1 C.2.1 dX4_finish_5 (lv_at hl 0 rfl) ?_
  refine lv_bipush (v := 120) C.1 C.2.1 dX4_finish_7 (by decide) ?_
  refine lv_icmp_ge (tgt := 66) C.1 C.2.1 dX4_finish_9 (by decide) (fun h => absurd h (by decide)) (fun _ => ?_)
  refine lv_iload C.1 C.2.1 dX4_finish_12 (lv_at hl 0 rfl) ?_
  refine lv_iload_n C.1 C.2.1 dX4_finish_14 rfl (lv_at hl 3 rfl) ?_
  refine lv_icmp_ge (tgt := 66) C.1 C.2.1 dX4_finish_15 (by decide) (fun h => absurd h (by decide)) (fun _ => ?_)
  refine lv_iload_n C.1 C.2.1 dX4_finish_18 rfl (lv_at hl 4 rfl) ?_
  refine lv_if_eq (tgt := 43) C.1 C.2.1 dX4_finish_19 (by decide) (fun _ => ?_) (fun h => absurd (by decide) h)
  refine lv_aload_n C.1 C.2.1 dX4_finish_43 rfl (lv_at hl 2 rfl) ?_
  refine k_get (v := .ref a1) C hP 0 rfl rfl inlX4 2 (by decide) m_4_11 e0_2 dX4_finish_44 ?_
  refine lv_iload C.1 C.2.1 dX4_finish_47 (lv_at hl 0 rfl) ?_
  refine k_bld (v := 32) C hP 1 rfl (vin (by decide)) rfl dX4_finish_49 ?_
  refine lv_bipush (v := 32) C.1 C.2.1 dX4_finish_50 (by decide) ?_
  refine lv_icmp_eq (tgt := 60) C.1 C.2.1 dX4_finish_52 (by decide) (fun _ => ?_) (fun h => absurd (by decide) h)
  refine lv_iinc (v := 32) (lv' := [(4, .int 32), (3, .int 6), (0, .ref a0), (1, .int 120), (2, .int 0)]) C.1 C.2.1 dX4_finish_60 hl (k := 0) rfl (by decide) (by decide) rfl (fun ls hl => ?_)
  refine lv_goto (tgt := 5) C.1 C.2.1 dX4_finish_63 (by decide) ?_
  refine lv_iload C.1 C.2.1 dX4_finish_5 (lv_at hl 0 rfl) ?_
  refine lv_bipush (v := 120) C.1 C.2.1 dX4_finish_7 (by decide) ?_
  refine lv_icmp_ge (tgt := 66) C.1 C.2.1 dX4_finish_9 (by decide) (fun h => absurd h (by decide)) (fun _ => ?_)
  refine lv_iload C.1 C.2.1 dX4_finish_12 (lv_at hl 0 rfl) ?_
  refine lv_iload_n C.1 C.2.1 dX4_finish_14 rfl (lv_at hl 3 rfl) ?_
  refine lv_icmp_ge (tgt := 66) C.1 C.2.1 dX4_finish_15 (by decide) (fun h => absurd h (by decide)) (fun _ => ?_)
  refine lv_iload_n C.1 C.2.1 dX4_finish_18 rfl (lv_at hl 4 rfl) ?_
  refine lv_if_eq (tgt := 43) C.1 C.2.1 dX4_finish_19 (by decide) (fun _ => ?_) (fun h => absurd (by decide) h)
  refine lv_aload_n C.1 C.2.1 dX4_finish_43 rfl (lv_at hl 2 rfl) ?_
  refine k_get (v := .ref a1) C hP 0 rfl rfl inlX4 2 (by decide) m_4_11 e0_2 dX4_finish_44 ?_
  refine lv_iload C.1 C.2.1 dX4_finish_47 (lv_at hl 0 rfl) ?_
  refine k_bld (v := 32) C hP 1 rfl (vin (by decide)) rfl dX4_finish_49 ?_
  refine lv_bipush (v := 32) C.1 C.2.1 dX4_finish_50 (by decide) ?_
  refine lv_icmp_eq (tgt := 60) C.1 C.2.1 dX4_finish_52 (by decide) (fun _ => ?_) (fun h => absurd (by decide) h)
  refine lv_iinc (v := 33) (lv' := [(4, .int 33), (3, .int 6), (0, .ref a0), (1, .int 120), (2, .int 0)]) C.1 C.2.1 dX4_finish_60 hl (k := 0) rfl (by decide) (by decide) rfl (fun ls hl => ?_)
  refine lv_goto (tgt := 5) C.1 C.2.1 dX4_finish_63 (by decide) ?_
  refine lv_iload C.1 C.2.1 dX4_finish_5 (lv_at hl 0 rfl) ?_
  refine lv_bipush (v := 120) C.1 C.2.1 dX4_finish_7 (by decide) ?_
  refine lv_icmp_ge (tgt := 66) C.1 C.2.1 dX4_finish_9 (by decide) (fun h => absurd h (by decide)) (fun _ => ?_)
  refine lv_iload C.1 C.2.1 dX4_finish_12 (lv_at hl 0 rfl) ?_
  refine lv_iload_n C.1 C.2.1 dX4_finish_14 rfl (lv_at hl 3 rfl) ?_
  refine lv_icmp_ge (tgt := 66) C.1 C.2.1 dX4_finish_15 (by decide) (fun h => absurd h (by decide)) (fun _ => ?_)
  refine lv_iload_n C.1 C.2.1 dX4_finish_18 rfl (lv_at hl 4 rfl) ?_
  refine lv_if_eq (tgt := 43) C.1 C.2.1 dX4_finish_19 (by decide) (fun _ => ?_) (fun h => absurd (by decide) h)
  refine lv_aload_n C.1 C.2.1 dX4_finish_43 rfl (lv_at hl 2 rfl) ?_
  refine k_get (v := .ref a1) C hP 0 rfl rfl inlX4 2 (by decide) m_4_11 e0_2 dX4_finish_44 ?_
  refine lv_iload C.1 C.2.1 dX4_finish_47 (lv_at hl 0 rfl) ?_
  refine k_bld (v := 32) C hP 1 rfl (vin (by decide)) rfl dX4_finish_49 ?_
  refine lv_bipush (v := 32) C.1 C.2.1 dX4_finish_50 (by decide) ?_
  refine lv_icmp_eq (tgt := 60) C.1 C.2.1 dX4_finish_52 (by decide) (fun _ => ?_) (fun h => absurd (by decide) h)
  refine lv_iinc (v := 34) (lv' := [(4, .int 34), (3, .int 6), (0, .ref a0), (1, .int 120), (2, .int 0)]) C.1 C.2.1 dX4_finish_60 hl (k := 0) rfl (by decide) (by decide) rfl (fun ls hl => ?_)
  refine lv_goto (tgt := 5) C.1 C.2.1 dX4_finish_63 (by decide) ?_
  refine lv_iload C.1 C.2.1 dX4_finish_5 (lv_at hl 0 rfl) ?_
  refine lv_bipush (v := 120) C.1 C.2.1 dX4_finish_7 (by decide) ?_
  refine lv_icmp_ge (tgt := 66) C.1 C.2.1 dX4_finish_9 (by decide) (fun h => absurd h (by decide)) (fun _ => ?_)
  refine lv_iload C.1 C.2.1 dX4_finish_12 (lv_at hl 0 rfl) ?_
  refine lv_iload_n C.1 C.2.1 dX4_finish_14 rfl (lv_at hl 3 rfl) ?_
  refine lv_icmp_ge (tgt := 66) C.1 C.2.1 dX4_finish_15 (by decide) (fun h => absurd h (by decide)) (fun _ => ?_)
  refine lv_iload_n C.1 C.2.1 dX4_finish_18 rfl (lv_at hl 4 rfl) ?_
  refine lv_if_eq (tgt := 43) C.1 C.2.1 dX4_finish_19 (by decide) (fun _ => ?_) (fun h => absurd (by decide) h)
  refine lv_aload_n C.1 C.2.1 dX4_finish_43 rfl (lv_at hl 2 rfl) ?_
  refine k_get (v := .ref a1) C hP 0 rfl rfl inlX4 2 (by decide) m_4_11 e0_2 dX4_finish_44 ?_
  refine lv_iload C.1 C.2.1 dX4_finish_47 (lv_at hl 0 rfl) ?_
  refine k_bld (v := 32) C hP 1 rfl (vin (by decide)) rfl dX4_finish_49 ?_
  refine lv_bipush (v := 32) C.1 C.2.1 dX4_finish_50 (by decide) ?_
  refine lv_icmp_eq (tgt := 60) C.1 C.2.1 dX4_finish_52 (by decide) (fun _ => ?_) (fun h => absurd (by decide) h)
  refine lv_iinc (v := 35) (lv' := [(4, .int 35), (3, .int 6), (0, .ref a0), (1, .int 120), (2, .int 0)]) C.1 C.2.1 dX4_finish_60 hl (k := 0) rfl (by decide) (by decide) rfl (fun ls hl => ?_)
  refine lv_goto (tgt := 5) C.1 C.2.1 dX4_finish_63 (by decide) ?_
  refine lv_iload C.1 C.2.1 dX4_finish_5 (lv_at hl 0 rfl) ?_
  refine lv_bipush (v := 120) C.1 C.2.1 dX4_finish_7 (by decide) ?_
  refine lv_icmp_ge (tgt := 66) C.1 C.2.1 dX4_finish_9 (by decide) (fun h => absurd h (by decide)) (fun _ => ?_)
  refine lv_iload C.1 C.2.1 dX4_finish_12 (lv_at hl 0 rfl) ?_
  refine lv_iload_n C.1 C.2.1 dX4_finish_14 rfl (lv_at hl 3 rfl) ?_
  refine lv_icmp_ge (tgt := 66) C.1 C.2.1 dX4_finish_15 (by decide) (fun h => absurd h (by decide)) (fun _ => ?_)
  refine lv_iload_n C.1 C.2.1 dX4_finish_18 rfl (lv_at hl 4 rfl) ?_
  refine lv_if_eq (tgt := 43) C.1 C.2.1 dX4_finish_19 (by decide) (fun _ => ?_) (fun h => absurd (by decide) h)
  refine lv_aload_n C.1 C.2.1 dX4_finish_43 rfl (lv_at hl 2 rfl) ?_
  refine k_get (v := .ref a1) C hP 0 rfl rfl inlX4 2 (by decide) m_4_11 e0_2 dX4_finish_44 ?_
  refine lv_iload C.1 C.2.1 dX4_finish_47 (lv_at hl 0 rfl) ?_
  refine k_bld (v := 32) C hP 1 rfl (vin (by decide)) rfl dX4_finish_49 ?_
  refine lv_bipush (v := 32) C.1 C.2.1 dX4_finish_50 (by decide) ?_
  refine lv_icmp_eq (tgt := 60) C.1 C.2.1 dX4_finish_52 (by decide) (fun _ => ?_) (fun h => absurd (by decide) h)
  refine lv_iinc (v := 36) (lv' := [(4, .int 36), (3, .int 6), (0, .ref a0), (1, .int 120), (2, .int 0)]) C.1 C.2.1 dX4_finish_60 hl (k := 0) rfl (by decide) (by decide) rfl (fun ls hl => ?_)
  refine lv_goto (tgt := 5) C.1 C.2.1 dX4_finish_63 (by decide) ?_
  refine lv_iload C.1 C.2.1 dX4_finish_5 (lv_at hl 0 rfl) ?_
  refine lv_bipush (v := 120) C.1 C.2.1 dX4_finish_7 (by decide) ?_
  refine lv_icmp_ge (tgt := 66) C.1 C.2.1 dX4_finish_9 (by decide) (fun h => absurd h (by decide)) (fun _ => ?_)
  refine lv_iload C.1 C.2.1 dX4_finish_12 (lv_at hl 0 rfl) ?_
  refine lv_iload_n C.1 C.2.1 dX4_finish_14 rfl (lv_at hl 3 rfl) ?_
  refine lv_icmp_ge (tgt := 66) C.1 C.2.1 dX4_finish_15 (by decide) (fun h => absurd h (by decide)) (fun _ => ?_)
  refine lv_iload_n C.1 C.2.1 dX4_finish_18 rfl (lv_at hl 4 rfl) ?_
  refine lv_if_eq (tgt := 43) C.1 C.2.1 dX4_finish_19 (by decide) (fun _ => ?_) (fun h => absurd (by decide) h)
  refine lv_aload_n C.1 C.2.1 dX4_finish_43 rfl (lv_at hl 2 rfl) ?_
  refine k_get (v := .ref a1) C hP 0 rfl rfl inlX4 2 (by decide) m_4_11 e0_2 dX4_finish_44 ?_
  refine lv_iload C.1 C.2.1 dX4_finish_47 (lv_at hl 0 rfl) ?_
  refine k_bld (v := 32) C hP 1 rfl (vin (by decide)) rfl dX4_finish_49 ?_
  refine lv_bipush (v := 32) C.1 C.2.1 dX4_finish_50 (by decide) ?_
  refine lv_icmp_eq (tgt := 60) C.1 C.2.1 dX4_finish_52 (by decide) (fun _ => ?_) (fun h => absurd (by decide) h)
  refine lv_iinc (v := 37) (lv' := [(4, .int 37), (3, .int 6), (0, .ref a0), (1, .int 120), (2, .int 0)]) C.1 C.2.1 dX4_finish_60 hl (k := 0) rfl (by decide) (by decide) rfl (fun ls hl => ?_)
  refine lv_goto (tgt := 5) C.1 C.2.1 dX4_finish_63 (by decide) ?_
  refine lv_iload C.1 C.2.1 dX4_finish_5 (lv_at hl 0 rfl) ?_
  refine lv_bipush (v := 120) C.1 C.2.1 dX4_finish_7 (by decide) ?_
  refine lv_icmp_ge (tgt := 66) C.1 C.2.1 dX4_finish_9 (by decide) (fun h => absurd h (by decide)) (fun _ => ?_)
  refine lv_iload C.1 C.2.1 dX4_finish_12 (lv_at hl 0 rfl) ?_
  refine lv_iload_n C.1 C.2.1 dX4_finish_14 rfl (lv_at hl 3 rfl) ?_
  refine lv_icmp_ge (tgt := 66) C.1 C.2.1 dX4_finish_15 (by decide) (fun h => absurd h (by decide)) (fun _ => ?_)
  refine lv_iload_n C.1 C.2.1 dX4_finish_18 rfl (lv_at hl 4 rfl) ?_
  refine lv_if_eq (tgt := 43) C.1 C.2.1 dX4_finish_19 (by decide) (fun _ => ?_) (fun h => absurd (by decide) h)
  refine lv_aload_n C.1 C.2.1 dX4_finish_43 rfl (lv_at hl 2 rfl) ?_
  refine k_get (v := .ref a1) C hP 0 rfl rfl inlX4 2 (by decide) m_4_11 e0_2 dX4_finish_44 ?_
  refine lv_iload C.1 C.2.1 dX4_finish_47 (lv_at hl 0 rfl) ?_
  refine k_bld (v := 32) C hP 1 rfl (vin (by decide)) rfl dX4_finish_49 ?_
  refine lv_bipush (v := 32) C.1 C.2.1 dX4_finish_50 (by decide) ?_
  refine lv_icmp_eq (tgt := 60) C.1 C.2.1 dX4_finish_52 (by decide) (fun _ => ?_) (fun h => absurd (by decide) h)
  refine lv_iinc (v := 38) (lv' := [(4, .int 38), (3, .int 6), (0, .ref a0), (1, .int 120), (2, .int 0)]) C.1 C.2.1 dX4_finish_60 hl (k := 0) rfl (by decide) (by decide) rfl (fun ls hl => ?_)
  refine lv_goto (tgt := 5) C.1 C.2.1 dX4_finish_63 (by decide) ?_
  refine lv_iload C.1 C.2.1 dX4_finish_5 (lv_at hl 0 rfl) ?_
  refine lv_bipush (v := 120) C.1 C.2.1 dX4_finish_7 (by decide) ?_
  refine lv_icmp_ge (tgt := 66) C.1 C.2.1 dX4_finish_9 (by decide) (fun h => absurd h (by decide)) (fun _ => ?_)
  refine lv_iload C.1 C.2.1 dX4_finish_12 (lv_at hl 0 rfl) ?_
  refine lv_iload_n C.1 C.2.1 dX4_finish_14 rfl (lv_at hl 3 rfl) ?_
  refine lv_icmp_ge (tgt := 66) C.1 C.2.1 dX4_finish_15 (by decide) (fun h => absurd h (by decide)) (fun _ => ?_)
  refine lv_iload_n C.1 C.2.1 dX4_finish_18 rfl (lv_at hl 4 rfl) ?_
  refine lv_if_eq (tgt := 43) C.1 C.2.1 dX4_finish_19 (by decide) (fun _ => ?_) (fun h => absurd (by decide) h)
  refine lv_aload_n C.1 C.2.1 dX4_finish_43 rfl (lv_at hl 2 rfl) ?_
  refine k_get (v := .ref a1) C hP 0 rfl rfl inlX4 2 (by decide) m_4_11 e0_2 dX4_finish_44 ?_
  refine lv_iload C.1 C.2.1 dX4_finish_47 (lv_at hl 0 rfl) ?_
  refine k_bld (v := 32) C hP 1 rfl (vin (by decide)) rfl dX4_finish_49 ?_
  refine lv_bipush (v := 32) C.1 C.2.1 dX4_finish_50 (by decide) ?_
  refine lv_icmp_eq (tgt := 60) C.1 C.2.1 dX4_finish_52 (by decide) (fun _ => ?_) (fun h => absurd (by decide) h)
  refine lv_iinc (v := 39) (lv' := [(4, .int 39), (3, .int 6), (0, .ref a0), (1, .int 120), (2, .int 0)]) C.1 C.2.1 dX4_finish_60 hl (k := 0) rfl (by decide) (by decide) rfl (fun ls hl => ?_)
  refine lv_goto (tgt := 5) C.1 C.2.1 dX4_finish_63 (by decide) ?_
  refine lv_iload C.1 C.2.1 dX4_finish_5 (lv_at hl 0 rfl) ?_
  refine lv_bipush (v := 120) C.1 C.2.1 dX4_finish_7 (by decide) ?_
  refine lv_icmp_ge (tgt := 66) C.1 C.2.1 dX4_finish_9 (by decide) (fun h => absurd h (by decide)) (fun _ => ?_)
  refine lv_iload C.1 C.2.1 dX4_finish_12 (lv_at hl 0 rfl) ?_
  refine lv_iload_n C.1 C.2.1 dX4_finish_14 rfl (lv_at hl 3 rfl) ?_
  refine lv_icmp_ge (tgt := 66) C.1 C.2.1 dX4_finish_15 (by decide) (fun h => absurd h (by decide)) (fun _ => ?_)
  refine lv_iload_n C.1 C.2.1 dX4_finish_18 rfl (lv_at hl 4 rfl) ?_
  refine lv_if_eq (tgt := 43) C.1 C.2.1 dX4_finish_19 (by decide) (fun _ => ?_) (fun h => absurd (by decide) h)
  refine lv_aload_n C.1 C.2.1 dX4_finish_43 rfl (lv_at hl 2 rfl) ?_
  refine k_get (v := .ref a1) C hP 0 rfl rfl inlX4 2 (by decide) m_4_11 e0_2 dX4_finish_44 ?_
  refine lv_iload C.1 C.2.1 dX4_finish_47 (lv_at hl 0 rfl) ?_
  refine k_bld (v := 32) C hP 1 rfl (vin (by decide)) rfl dX4_finish_49 ?_
  refine lv_bipush (v := 32) C.1 C.2.1 dX4_finish_50 (by decide) ?_
  refine lv_icmp_eq (tgt := 60) C.1 C.2.1 dX4_finish_52 (by decide) (fun _ => ?_) (fun h => absurd (by decide) h)
  refine lv_iinc (v := 40) (lv' := [(4, .int 40), (3, .int 6), (0, .ref a0), (1, .int 120), (2, .int 0)]) C.1 C.2.1 dX4_finish_60 hl (k := 0) rfl (by decide) (by decide) rfl (fun ls hl => ?_)
  refine lv_goto (tgt := 5) C.1 C.2.1 dX4_finish_63 (by decide) ?_
  refine lv_iload C.1 C.2.1 dX4_finish_5 (lv_at hl 0 rfl) ?_
  refine lv_bipush (v := 120) C.1 C.2.1 dX4_finish_7 (by decide) ?_
  refine lv_icmp_ge (tgt := 66) C.1 C.2.1 dX4_finish_9 (by decide) (fun h => absurd h (by decide)) (fun _ => ?_)
  refine lv_iload C.1 C.2.1 dX4_finish_12 (lv_at hl 0 rfl) ?_
  refine lv_iload_n C.1 C.2.1 dX4_finish_14 rfl (lv_at hl 3 rfl) ?_
  refine lv_icmp_ge (tgt := 66) C.1 C.2.1 dX4_finish_15 (by decide) (fun h => absurd h (by decide)) (fun _ => ?_)
  refine lv_iload_n C.1 C.2.1 dX4_finish_18 rfl (lv_at hl 4 rfl) ?_
  refine lv_if_eq (tgt := 43) C.1 C.2.1 dX4_finish_19 (by decide) (fun _ => ?_) (fun h => absurd (by decide) h)
  refine lv_aload_n C.1 C.2.1 dX4_finish_43 rfl (lv_at hl 2 rfl) ?_
  refine k_get (v := .ref a1) C hP 0 rfl rfl inlX4 2 (by decide) m_4_11 e0_2 dX4_finish_44 ?_
  refine lv_iload C.1 C.2.1 dX4_finish_47 (lv_at hl 0 rfl) ?_
  refine k_bld (v := 32) C hP 1 rfl (vin (by decide)) rfl dX4_finish_49 ?_
  refine lv_bipush (v := 32) C.1 C.2.1 dX4_finish_50 (by decide) ?_
  refine lv_icmp_eq (tgt := 60) C.1 C.2.1 dX4_finish_52 (by decide) (fun _ => ?_) (fun h => absurd (by decide) h)
  refine lv_iinc (v := 41) (lv' := [(4, .int 41), (3, .int 6), (0, .ref a0), (1, .int 120), (2, .int 0)]) C.1 C.2.1 dX4_finish_60 hl (k := 0) rfl (by decide) (by decide) rfl (fun ls hl => ?_)
  refine lv_goto (tgt := 5) C.1 C.2.1 dX4_finish_63 (by decide) ?_
  refine lv_iload C.1 C.2.1 dX4_finish_5 (lv_at hl 0 rfl) ?_
  refine lv_bipush (v := 120) C.1 C.2.1 dX4_finish_7 (by decide) ?_
  refine lv_icmp_ge (tgt := 66) C.1 C.2.1 dX4_finish_9 (by decide) (fun h => absurd h (by decide)) (fun _ => ?_)
  refine lv_iload C.1 C.2.1 dX4_finish_12 (lv_at hl 0 rfl) ?_
  refine lv_iload_n C.1 C.2.1 dX4_finish_14 rfl (lv_at hl 3 rfl) ?_
  refine lv_icmp_ge (tgt := 66) C.1 C.2.1 dX4_finish_15 (by decide) (fun h => absurd h (by decide)) (fun _ => ?_)
  refine lv_iload_n C.1 C.2.1 dX4_finish_18 rfl (lv_at hl 4 rfl) ?_
  refine lv_if_eq (tgt := 43) C.1 C.2.1 dX4_finish_19 (by decide) (fun _ => ?_) (fun h => absurd (by decide) h)
  refine lv_aload_n C.1 C.2.1 dX4_finish_43 rfl (lv_at hl 2 rfl) ?_
  refine k_get (v := .ref a1) C hP 0 rfl rfl inlX4 2 (by decide) m_4_11 e0_2 dX4_finish_44 ?_
  refine lv_iload C.1 C.2.1 dX4_finish_47 (lv_at hl 0 rfl) ?_
  refine k_bld (v := 32) C hP 1 rfl (vin (by decide)) rfl dX4_finish_49 ?_
  refine lv_bipush (v := 32) C.1 C.2.1 dX4_finish_50 (by decide) ?_
  refine lv_icmp_eq (tgt := 60) C.1 C.2.1 dX4_finish_52 (by decide) (fun _ => ?_) (fun h => absurd (by decide) h)
  refine lv_iinc (v := 42) (lv' := [(4, .int 42), (3, .int 6), (0, .ref a0), (1, .int 120), (2, .int 0)]) C.1 C.2.1 dX4_finish_60 hl (k := 0) rfl (by decide) (by decide) rfl (fun ls hl => ?_)
  refine lv_goto (tgt := 5) C.1 C.2.1 dX4_finish_63 (by decide) ?_
  refine lv_iload C.1 C.2.1 dX4_finish_5 (lv_at hl 0 rfl) ?_
  refine lv_bipush (v := 120) C.1 C.2.1 dX4_finish_7 (by decide) ?_
  refine lv_icmp_ge (tgt := 66) C.1 C.2.1 dX4_finish_9 (by decide) (fun h => absurd h (by decide)) (fun _ => ?_)
  refine lv_iload C.1 C.2.1 dX4_finish_12 (lv_at hl 0 rfl) ?_
  refine lv_iload_n C.1 C.2.1 dX4_finish_14 rfl (lv_at hl 3 rfl) ?_
  refine lv_icmp_ge (tgt := 66) C.1 C.2.1 dX4_finish_15 (by decide) (fun h => absurd h (by decide)) (fun _ => ?_)
  refine lv_iload_n C.1 C.2.1 dX4_finish_18 rfl (lv_at hl 4 rfl) ?_
  refine lv_if_eq (tgt := 43) C.1 C.2.1 dX4_finish_19 (by decide) (fun _ => ?_) (fun h => absurd (by decide) h)
  refine lv_aload_n C.1 C.2.1 dX4_finish_43 rfl (lv_at hl 2 rfl) ?_
  refine k_get (v := .ref a1) C hP 0 rfl rfl inlX4 2 (by decide) m_4_11 e0_2 dX4_finish_44 ?_
  refine lv_iload C.1 C.2.1 dX4_finish_47 (lv_at hl 0 rfl) ?_
  refine k_bld (v := 32) C hP 1 rfl (vin (by decide)) rfl dX4_finish_49 ?_
  refine lv_bipush (v := 32) C.1 C.2.1 dX4_finish_50 (by decide) ?_
  refine lv_icmp_eq (tgt := 60) C.1 C.2.1 dX4_finish_52 (by decide) (fun _ => ?_) (fun h => absurd (by decide) h)
  refine lv_iinc (v := 43) (lv' := [(4, .int 43), (3, .int 6), (0, .ref a0), (1, .int 120), (2, .int 0)]) C.1 C.2.1 dX4_finish_60 hl (k := 0) rfl (by decide) (by decide) rfl (fun ls hl => ?_)
  refine lv_goto (tgt := 5) C.1 C.2.1 dX4_finish_63 (by decide) ?_
  refine lv_iload C.1 C.2.1 dX4_finish_5 (lv_at hl 0 rfl) ?_
  refine lv_bipush (v := 120) C.1 C.2.1 dX4_finish_7 (by decide) ?_
  refine lv_icmp_ge (tgt := 66) C.1 C.2.1 dX4_finish_9 (by decide) (fun h => absurd h (by decide)) (fun _ => ?_)
  refine lv_iload C.1 C.2.1 dX4_finish_12 (lv_at hl 0 rfl) ?_
  refine lv_iload_n C.1 C.2.1 dX4_finish_14 rfl (lv_at hl 3 rfl) ?_
  refine lv_icmp_ge (tgt := 66) C.1 C.2.1 dX4_finish_15 (by decide) (fun h => absurd h (by decide)) (fun _ => ?_)
  refine lv_iload_n C.1 C.2.1 dX4_finish_18 rfl (lv_at hl 4 rfl) ?_
  refine lv_if_eq (tgt := 43) C.1 C.2.1 dX4_finish_19 (by decide) (fun _ => ?_) (fun h => absurd (by decide) h)
  refine lv_aload_n C.1 C.2.1 dX4_finish_43 rfl (lv_at hl 2 rfl) ?_
  refine k_get (v := .ref a1) C hP 0 rfl rfl inlX4 2 (by decide) m_4_11 e0_2 dX4_finish_44 ?_
  refine lv_iload C.1 C.2.1 dX4_finish_47 (lv_at hl 0 rfl) ?_
  refine k_bld (v := 32) C hP 1 rfl (vin (by decide)) rfl dX4_finish_49 ?_
  refine lv_bipush (v := 32) C.1 C.2.1 dX4_finish_50 (by decide) ?_
  refine lv_icmp_eq (tgt := 60) C.1 C.2.1 dX4_finish_52 (by decide) (fun _ => ?_) (fun h => absurd (by decide) h)
  refine lv_iinc (v := 44) (lv' := [(4, .int 44), (3, .int 6), (0, .ref a0), (1, .int 120), (2, .int 0)]) C.1 C.2.1 dX4_finish_60 hl (k := 0) rfl (by decide) (by decide) rfl (fun ls hl => ?_)
  refine lv_goto (tgt := 5) C.1 C.2.1 dX4_finish_63 (by decide) ?_
  refine lv_iload C.1 C.2.1 dX4_finish_5 (lv_at hl 0 rfl) ?_
  refine lv_bipush (v := 120) C.1 C.2.1 dX4_finish_7 (by decide) ?_
  refine lv_icmp_ge (tgt := 66) C.1 C.2.1 dX4_finish_9 (by decide) (fun h => absurd h (by decide)) (fun _ => ?_)
  refine lv_iload C.1 C.2.1 dX4_finish_12 (lv_at hl 0 rfl) ?_
  refine lv_iload_n C.1 C.2.1 dX4_finish_14 rfl (lv_at hl 3 rfl) ?_
  refine lv_icmp_ge (tgt := 66) C.1 C.2.1 dX4_finish_15 (by decide) (fun h => absurd h (by decide)) (fun _ => ?_)
  refine lv_iload_n C.1 C.2.1 dX4_finish_18 rfl (lv_at hl 4 rfl) ?_
  refine lv_if_eq (tgt := 43) C.1 C.2.1 dX4_finish_19 (by decide) (fun _ => ?_) (fun h => absurd (by decide) h)
  refine lv_aload_n C.1 C.2.1 dX4_finish_43 rfl (lv_at hl 2 rfl) ?_
  refine k_get (v := .ref a1) C hP 0 rfl rfl inlX4 2 (by decide) m_4_11 e0_2 dX4_finish_44 ?_
  refine lv_iload C.1 C.2.1 dX4_finish_47 (lv_at hl 0 rfl) ?_
  refine k_bld (v := 32) C hP 1 rfl (vin (by decide)) rfl dX4_finish_49 ?_
  refine lv_bipush (v := 32) C.1 C.2.1 dX4_finish_50 (by decide) ?_
  refine lv_icmp_eq (tgt := 60) C.1 C.2.1 dX4_finish_52 (by decide) (fun _ => ?_) (fun h => absurd (by decide) h)
  refine lv_iinc (v := 45) (lv' := [(4, .int 45), (3, .int 6), (0, .ref a0), (1, .int 120), (2, .int 0)]) C.1 C.2.1 dX4_finish_60 hl (k := 0) rfl (by decide) (by decide) rfl (fun ls hl => ?_)
  refine lv_goto (tgt := 5) C.1 C.2.1 dX4_finish_63 (by decide) ?_
  refine lv_iload C.1 C.2.1 dX4_finish_5 (lv_at hl 0 rfl) ?_
  refine lv_bipush (v := 120) C.1 C.2.1 dX4_finish_7 (by decide) ?_
  refine lv_icmp_ge (tgt := 66) C.1 C.2.1 dX4_finish_9 (by decide) (fun h => absurd h (by decide)) (fun _ => ?_)
  refine lv_iload C.1 C.2.1 dX4_finish_12 (lv_at hl 0 rfl) ?_
  refine lv_iload_n C.1 C.2.1 dX4_finish_14 rfl (lv_at hl 3 rfl) ?_
  refine lv_icmp_ge (tgt := 66) C.1 C.2.1 dX4_finish_15 (by decide) (fun h => absurd h (by decide)) (fun _ => ?_)
  refine lv_iload_n C.1 C.2.1 dX4_finish_18 rfl (lv_at hl 4 rfl) ?_
  refine lv_if_eq (tgt := 43) C.1 C.2.1 dX4_finish_19 (by decide) (fun _ => ?_) (fun h => absurd (by decide) h)
  refine lv_aload_n C.1 C.2.1 dX4_finish_43 rfl (lv_at hl 2 rfl) ?_
  refine k_get (v := .ref a1) C hP 0 rfl rfl inlX4 2 (by decide) m_4_11 e0_2 dX4_finish_44 ?_
  refine lv_iload C.1 C.2.1 dX4_finish_47 (lv_at hl 0 rfl) ?_
  refine k_bld (v := 32) C hP 1 rfl (vin (by decide)) rfl dX4_finish_49 ?_
  refine lv_bipush (v := 32) C.1 C.2.1 dX4_finish_50 (by decide) ?_
  refine lv_icmp_eq (tgt := 60) C.1 C.2.1 dX4_finish_52 (by decide) (fun _ => ?_) (fun h => absurd (by decide) h)
  refine lv_iinc (v := 46) (lv' := [(4, .int 46), (3, .int 6), (0, .ref a0), (1, .int 120), (2, .int 0)]) C.1 C.2.1 dX4_finish_60 hl (k := 0) rfl (by decide) (by decide) rfl (fun ls hl => ?_)
  refine lv_goto (tgt := 5) C.1 C.2.1 dX4_finish_63 (by decide) ?_
  refine lv_iload C.1 C.2.1 dX4_finish_5 (lv_at hl 0 rfl) ?_
  refine lv_bipush (v := 120) C.1 C.2.1 dX4_finish_7 (by decide) ?_
  refine lv_icmp_ge (tgt := 66) C.1 C.2.1 dX4_finish_9 (by decide) (fun h => absurd h (by decide)) (fun _ => ?_)
  refine lv_iload C.1 C.2.1 dX4_finish_12 (lv_at hl 0 rfl) ?_
  refine lv_iload_n C.1 C.2.1 dX4_finish_14 rfl (lv_at hl 3 rfl) ?_
  refine lv_icmp_ge (tgt := 66) C.1 C.2.1 dX4_finish_15 (by decide) (fun h => absurd h (by decide)) (fun _ => ?_)
  refine lv_iload_n C.1 C.2.1 dX4_finish_18 rfl (lv_at hl 4 rfl) ?_
  refine lv_if_eq (tgt := 43) C.1 C.2.1 dX4_finish_19 (by decide) (fun _ => ?_) (fun h => absurd (by decide) h)
  refine lv_aload_n C.1 C.2.1 dX4_finish_43 rfl (lv_at hl 2 rfl) ?_
  refine k_get (v := .ref a1) C hP 0 rfl rfl inlX4 2 (by decide) m_4_11 e0_2 dX4_finish_44 ?_
  refine lv_iload C.1 C.2.1 dX4_finish_47 (lv_at hl 0 rfl) ?_
  refine k_bld (v := 32) C hP 1 rfl (vin (by decide)) rfl dX4_finish_49 ?_
  refine lv_bipush (v := 32) C.1 C.2.1 dX4_finish_50 (by decide) ?_
  refine lv_icmp_eq (tgt := 60) C.1 C.2.1 dX4_finish_52 (by decide) (fun _ => ?_) (fun h => absurd (by decide) h)
  refine lv_iinc (v := 47) (lv' := [(4, .int 47), (3, .int 6), (0, .ref a0), (1, .int 120), (2, .int 0)]) C.1 C.2.1 dX4_finish_60 hl (k := 0) rfl (by decide) (by decide) rfl (fun ls hl => ?_)
  refine lv_goto (tgt := 5) C.1 C.2.1 dX4_finish_63 (by decide) ?_
  refine lv_iload C.1 C.2.1 dX4_finish_5 (lv_at hl 0 rfl) ?_
  refine lv_bipush (v := 120) C.1 C.2.1 dX4_finish_7 (by decide) ?_
  refine lv_icmp_ge (tgt := 66) C.1 C.2.1 dX4_finish_9 (by decide) (fun h => absurd h (by decide)) (fun _ => ?_)
  refine lv_iload C.1 C.2.1 dX4_finish_12 (lv_at hl 0 rfl) ?_
  refine lv_iload_n C.1 C.2.1 dX4_finish_14 rfl (lv_at hl 3 rfl) ?_
  refine lv_icmp_ge (tgt := 66) C.1 C.2.1 dX4_finish_15 (by decide) (fun h => absurd h (by decide)) (fun _ => ?_)
  refine lv_iload_n C.1 C.2.1 dX4_finish_18 rfl (lv_at hl 4 rfl) ?_
  refine lv_if_eq (tgt := 43) C.1 C.2.1 dX4_finish_19 (by decide) (fun _ => ?_) (fun h => absurd (by decide) h)
  refine lv_aload_n C.1 C.2.1 dX4_finish_43 rfl (lv_at hl 2 rfl) ?_
  refine k_get (v := .ref a1) C hP 0 rfl rfl inlX4 2 (by decide) m_4_11 e0_2 dX4_finish_44 ?_
  refine lv_iload C.1 C.2.1 dX4_finish_47 (lv_at hl 0 rfl) ?_
  refine k_bld (v := 32) C hP 1 rfl (vin (by decide)) rfl dX4_finish_49 ?_
  refine lv_bipush (v := 32) C.1 C.2.1 dX4_finish_50 (by decide) ?_
  refine lv_icmp_eq (tgt := 60) C.1 C.2.1 dX4_finish_52 (by decide) (fun _ => ?_) (fun h => absurd (by decide) h)
  refine lv_iinc (v := 48) (lv' := [(4, .int 48), (3, .int 6), (0, .ref a0), (1, .int 120), (2, .int 0)]) C.1 C.2.1 dX4_finish_60 hl (k := 0) rfl (by decide) (by decide) rfl (fun ls hl => ?_)
  refine lv_goto (tgt := 5) C.1 C.2.1 dX4_finish_63 (by decide) ?_
  refine lv_iload C.1 C.2.1 dX4_finish_5 (lv_at hl 0 rfl) ?_
  refine lv_bipush (v := 120) C.1 C.2.1 dX4_finish_7 (by decide) ?_
  refine lv_icmp_ge (tgt := 66) C.1 C.2.1 dX4_finish_9 (by decide) (fun h => absurd h (by decide)) (fun _ => ?_)
  refine lv_iload C.1 C.2.1 dX4_finish_12 (lv_at hl 0 rfl) ?_
  refine lv_iload_n C.1 C.2.1 dX4_finish_14 rfl (lv_at hl 3 rfl) ?_
  refine lv_icmp_ge (tgt := 66) C.1 C.2.1 dX4_finish_15 (by decide) (fun h => absurd h (by decide)) (fun _ => ?_)
  refine lv_iload_n C.1 C.2.1 dX4_finish_18 rfl (lv_at hl 4 rfl) ?_
  refine lv_if_eq (tgt := 43) C.1 C.2.1 dX4_finish_19 (by decide) (fun _ => ?_) (fun h => absurd (by decide) h)
  refine lv_aload_n C.1 C.2.1 dX4_finish_43 rfl (lv_at hl 2 rfl) ?_
  refine k_get (v := .ref a1) C hP 0 rfl rfl inlX4 2 (by decide) m_4_11 e0_2 dX4_finish_44 ?_
  refine lv_iload C.1 C.2.1 dX4_finish_47 (lv_at hl 0 rfl) ?_
  refine k_bld (v := 32) C hP 1 rfl (vin (by decide)) rfl dX4_finish_49 ?_
  refine lv_bipush (v := 32) C.1 C.2.1 dX4_finish_50 (by decide) ?_
  refine lv_icmp_eq (tgt := 60) C.1 C.2.1 dX4_finish_52 (by decide) (fun _ => ?_) (fun h => absurd (by decide) h)
  refine lv_iinc (v := 49) (lv' := [(4, .int 49), (3, .int 6), (0, .ref a0), (1, .int 120), (2, .int 0)]) C.1 C.2.1 dX4_finish_60 hl (k := 0) rfl (by decide) (by decide) rfl (fun ls hl => ?_)
  refine lv_goto (tgt := 5) C.1 C.2.1 dX4_finish_63 (by decide) ?_
  refine lv_iload C.1 C.2.1 dX4_finish_5 (lv_at hl 0 rfl) ?_
  refine lv_bipush (v := 120) C.1 C.2.1 dX4_finish_7 (by decide) ?_
  refine lv_icmp_ge (tgt := 66) C.1 C.2.1 dX4_finish_9 (by decide) (fun h => absurd h (by decide)) (fun _ => ?_)
  refine lv_iload C.1 C.2.1 dX4_finish_12 (lv_at hl 0 rfl) ?_
  refine lv_iload_n C.1 C.2.1 dX4_finish_14 rfl (lv_at hl 3 rfl) ?_
  refine lv_icmp_ge (tgt := 66) C.1 C.2.1 dX4_finish_15 (by decide) (fun h => absurd h (by decide)) (fun _ => ?_)
  refine lv_iload_n C.1 C.2.1 dX4_finish_18 rfl (lv_at hl 4 rfl) ?_
  refine lv_if_eq (tgt := 43) C.1 C.2.1 dX4_finish_19 (by decide) (fun _ => ?_) (fun h => absurd (by decide) h)
  refine lv_aload_n C.1 C.2.1 dX4_finish_43 rfl (lv_at hl 2 rfl) ?_
  refine k_get (v := .ref a1) C hP 0 rfl rfl inlX4 2 (by decide) m_4_11 e0_2 dX4_finish_44 ?_
  refine lv_iload C.1 C.2.1 dX4_finish_47 (lv_at hl 0 rfl) ?_
  refine k_bld (v := 32) C hP 1 rfl (vin (by decide)) rfl dX4_finish_49 ?_
  refine lv_bipush (v := 32) C.1 C.2.1 dX4_finish_50 (by decide) ?_
  refine lv_icmp_eq (tgt := 60) C.1 C.2.1 dX4_finish_52 (by decide) (fun _ => ?_) (fun h => absurd (by decide) h)
  refine lv_iinc (v := 50) (lv' := [(4, .int 50), (3, .int 6), (0, .ref a0), (1, .int 120), (2, .int 0)]) C.1 C.2.1 dX4_finish_60 hl (k := 0) rfl (by decide) (by decide) rfl (fun ls hl => ?_)
  refine lv_goto (tgt := 5) C.1 C.2.1 dX4_finish_63 (by decide) ?_
  refine lv_iload C.1 C.2.1 dX4_finish_5 (lv_at hl 0 rfl) ?_
  refine lv_bipush (v := 120) C.1 C.2.1 dX4_finish_7 (by decide) ?_
  refine lv_icmp_ge (tgt := 66) C.1 C.2.1 dX4_finish_9 (by decide) (fun h => absurd h (by decide)) (fun _ => ?_)
  refine lv_iload C.1 C.2.1 dX4_finish_12 (lv_at hl 0 rfl) ?_
  refine lv_iload_n C.1 C.2.1 dX4_finish_14 rfl (lv_at hl 3 rfl) ?_
  refine lv_icmp_ge (tgt := 66) C.1 C.2.1 dX4_finish_15 (by decide) (fun h => absurd h (by decide)) (fun _ => ?_)
  refine lv_iload_n C.1 C.2.1 dX4_finish_18 rfl (lv_at hl 4 rfl) ?_
  refine lv_if_eq (tgt := 43) C.1 C.2.1 dX4_finish_19 (by decide) (fun _ => ?_) (fun h => absurd (by decide) h)
  refine lv_aload_n C.1 C.2.1 dX4_finish_43 rfl (lv_at hl 2 rfl) ?_
  refine k_get (v := .ref a1) C hP 0 rfl rfl inlX4 2 (by decide) m_4_11 e0_2 dX4_finish_44 ?_
  refine lv_iload C.1 C.2.1 dX4_finish_47 (lv_at hl 0 rfl) ?_
  refine k_bld (v := 32) C hP 1 rfl (vin (by decide)) rfl dX4_finish_49 ?_
  refine lv_bipush (v := 32) C.1 C.2.1 dX4_finish_50 (by decide) ?_
  refine lv_icmp_eq (tgt := 60) C.1 C.2.1 dX4_finish_52 (by decide) (fun _ => ?_) (fun h => absurd (by decide) h)
  refine lv_iinc (v := 51) (lv' := [(4, .int 51), (3, .int 6), (0, .ref a0), (1, .int 120), (2, .int 0)]) C.1 C.2.1 dX4_finish_60 hl (k := 0) rfl (by decide) (by decide) rfl (fun ls hl => ?_)
  refine lv_goto (tgt := 5) C.1 C.2.1 dX4_finish_63 (by decide) ?_
  refine lv_iload C.1 C.2.1 dX4_finish_5 (lv_at hl 0 rfl) ?_
  refine lv_bipush (v := 120) C.1 C.2.1 dX4_finish_7 (by decide) ?_
  refine lv_icmp_ge (tgt := 66) C.1 C.2.1 dX4_finish_9 (by decide) (fun h => absurd h (by decide)) (fun _ => ?_)
  refine lv_iload C.1 C.2.1 dX4_finish_12 (lv_at hl 0 rfl) ?_
  refine lv_iload_n C.1 C.2.1 dX4_finish_14 rfl (lv_at hl 3 rfl) ?_
  refine lv_icmp_ge (tgt := 66) C.1 C.2.1 dX4_finish_15 (by decide) (fun h => absurd h (by decide)) (fun _ => ?_)
  refine lv_iload_n C.1 C.2.1 dX4_finish_18 rfl (lv_at hl 4 rfl) ?_
  refine lv_if_eq (tgt := 43) C.1 C.2.1 dX4_finish_19 (by decide) (fun _ => ?_) (fun h => absurd (by decide) h)
  refine lv_aload_n C.1 C.2.1 dX4_finish_43 rfl (lv_at hl 2 rfl) ?_
  refine k_get (v := .ref a1) C hP 0 rfl rfl inlX4 2 (by decide) m_4_11 e0_2 dX4_finish_44 ?_
  refine lv_iload C.1 C.2.1 dX4_finish_47 (lv_at hl 0 rfl) ?_
  refine k_bld (v := 32) C hP 1 rfl (vin (by decide)) rfl dX4_finish_49 ?_
  refine lv_bipush (v := 32) C.1 C.2.1 dX4_finish_50 (by decide) ?_
  refine lv_icmp_eq (tgt := 60) C.1 C.2.1 dX4_finish_52 (by decide) (fun _ => ?_) (fun h => absurd (by decide) h)
  refine lv_iinc (v := 52) (lv' := [(4, .int 52), (3, .int 6), (0, .ref a0), (1, .int 120), (2, .int 0)]) C.1 C.2.1 dX4_finish_60 hl (k := 0) rfl (by decide) (by decide) rfl (fun ls hl => ?_)
  refine lv_goto (tgt := 5) C.1 C.2.1 dX4_finish_63 (by decide) ?_
  refine lv_iload C.1 C.2.1 dX4_finish_5 (lv_at hl 0 rfl) ?_
  refine lv_bipush (v := 120) C.1 C.2.1 dX4_finish_7 (by decide) ?_
  refine lv_icmp_ge (tgt := 66) C.1 C.2.1 dX4_finish_9 (by decide) (fun h => absurd h (by decide)) (fun _ => ?_)
  refine lv_iload C.1 C.2.1 dX4_finish_12 (lv_at hl 0 rfl) ?_
  refine lv_iload_n C.1 C.2.1 dX4_finish_14 rfl (lv_at hl 3 rfl) ?_
  refine lv_icmp_ge (tgt := 66) C.1 C.2.1 dX4_finish_15 (by decide) (fun h => absurd h (by decide)) (fun _ => ?_)
  refine lv_iload_n C.1 C.2.1 dX4_finish_18 rfl (lv_at hl 4 rfl) ?_
  refine lv_if_eq (tgt := 43) C.1 C.2.1 dX4_finish_19 (by decide) (fun _ => ?_) (fun h => absurd (by decide) h)
  refine lv_aload_n C.1 C.2.1 dX4_finish_43 rfl (lv_at hl 2 rfl) ?_
  refine k_get (v := .ref a1) C hP 0 rfl rfl inlX4 2 (by decide) m_4_11 e0_2 dX4_finish_44 ?_
  refine lv_iload C.1 C.2.1 dX4_finish_47 (lv_at hl 0 rfl) ?_
  refine k_bld (v := 32) C hP 1 rfl (vin (by decide)) rfl dX4_finish_49 ?_
  refine lv_bipush (v := 32) C.1 C.2.1 dX4_finish_50 (by decide) ?_
  refine lv_icmp_eq (tgt := 60) C.1 C.2.1 dX4_finish_52 (by decide) (fun _ => ?_) (fun h => absurd (by decide) h)
  refine lv_iinc (v := 53) (lv' := [(4, .int 53), (3, .int 6), (0, .ref a0), (1, .int 120), (2, .int 0)]) C.1 C.2.1 dX4_finish_60 hl (k := 0) rfl (by decide) (by decide) rfl (fun ls hl => ?_)
  refine lv_goto (tgt := 5) C.1 C.2.1 dX4_finish_63 (by decide) ?_
  refine lv_iload C.1 C.2.1 dX4_finish_5 (lv_at hl 0 rfl) ?_
  refine lv_bipush (v := 120) C.1 C.2.1 dX4_finish_7 (by decide) ?_
  refine lv_icmp_ge (tgt := 66) C.1 C.2.1 dX4_finish_9 (by decide) (fun h => absurd h (by decide)) (fun _ => ?_)
  refine lv_iload C.1 C.2.1 dX4_finish_12 (lv_at hl 0 rfl) ?_
  refine lv_iload_n C.1 C.2.1 dX4_finish_14 rfl (lv_at hl 3 rfl) ?_
  refine lv_icmp_ge (tgt := 66) C.1 C.2.1 dX4_finish_15 (by decide) (fun h => absurd h (by decide)) (fun _ => ?_)
  refine lv_iload_n C.1 C.2.1 dX4_finish_18 rfl (lv_at hl 4 rfl) ?_
  refine lv_if_eq (tgt := 43) C.1 C.2.1 dX4_finish_19 (by decide) (fun _ => ?_) (fun h => absurd (by decide) h)
  refine lv_aload_n C.1 C.2.1 dX4_finish_43 rfl (lv_at hl 2 rfl) ?_
  refine k_get (v := .ref a1) C hP 0 rfl rfl inlX4 2 (by decide) m_4_11 e0_2 dX4_finish_44 ?_
  refine lv_iload C.1 C.2.1 dX4_finish_47 (lv_at hl 0 rfl) ?_
  refine k_bld (v := 32) C hP 1 rfl (vin (by decide)) rfl dX4_finish_49 ?_
  refine lv_bipush (v := 32) C.1 C.2.1 dX4_finish_50 (by decide) ?_
  refine lv_icmp_eq (tgt := 60) C.1 C.2.1 dX4_finish_52 (by decide) (fun _ => ?_) (fun h => absurd (by decide) h)
  refine lv_iinc (v := 54) (lv' := [(4, .int 54), (3, .int 6), (0, .ref a0), (1, .int 120), (2, .int 0)]) C.1 C.2.1 dX4_finish_60 hl (k := 0) rfl (by decide) (by decide) rfl (fun ls hl => ?_)
  refine lv_goto (tgt := 5) C.1 C.2.1 dX4_finish_63 (by decide) ?_
  refine lv_iload C.1 C.2.1 dX4_finish_5 (lv_at hl 0 rfl) ?_
  refine lv_bipush (v := 120) C.1 C.2.1 dX4_finish_7 (by decide) ?_
  refine lv_icmp_ge (tgt := 66) C.1 C.2.1 dX4_finish_9 (by decide) (fun h => absurd h (by decide)) (fun _ => ?_)
  refine lv_iload C.1 C.2.1 dX4_finish_12 (lv_at hl 0 rfl) ?_
  refine lv_iload_n C.1 C.2.1 dX4_finish_14 rfl (lv_at hl 3 rfl) ?_
  refine lv_icmp_ge (tgt := 66) C.1 C.2.1 dX4_finish_15 (by decide) (fun h => absurd h (by decide)) (fun _ => ?_)
  refine lv_iload_n C.1 C.2.1 dX4_finish_18 rfl (lv_at hl 4 rfl) ?_
  refine lv_if_eq (tgt := 43) C.1 C.2.1 dX4_finish_19 (by decide) (fun _ => ?_) (fun h => absurd (by decide) h)
  refine lv_aload_n C.1 C.2.1 dX4_finish_43 rfl (lv_at hl 2 rfl) ?_
  refine k_get (v := .ref a1) C hP 0 rfl rfl inlX4 2 (by decide) m_4_11 e0_2 dX4_finish_44 ?_
  refine lv_iload C.1 C.2.1 dX4_finish_47 (lv_at hl 0 rfl) ?_
  refine k_bld (v := 32) C hP 1 rfl (vin (by decide)) rfl dX4_finish_49 ?_
  refine lv_bipush (v := 32) C.1 C.2.1 dX4_finish_50 (by decide) ?_
  refine lv_icmp_eq (tgt := 60) C.1 C.2.1 dX4_finish_52 (by decide) (fun _ => ?_) (fun h => absurd (by decide) h)
  refine lv_iinc (v := 55) (lv' := [(4, .int 55), (3, .int 6), (0, .ref a0), (1, .int 120), (2, .int 0)]) C.1 C.2.1 dX4_finish_60 hl (k := 0) rfl (by decide) (by decide) rfl (fun ls hl => ?_)
  refine lv_goto (tgt := 5) C.1 C.2.1 dX4_finish_63 (by decide) ?_
  refine lv_iload C.1 C.2.1 dX4_finish_5 (lv_at hl 0 rfl) ?_
  refine lv_bipush (v := 120) C.1 C.2.1 dX4_finish_7 (by decide) ?_
  refine lv_icmp_ge (tgt := 66) C.1 C.2.1 dX4_finish_9 (by decide) (fun h => absurd h (by decide)) (fun _ => ?_)
  refine lv_iload C.1 C.2.1 dX4_finish_12 (lv_at hl 0 rfl) ?_
  refine lv_iload_n C.1 C.2.1 dX4_finish_14 rfl (lv_at hl 3 rfl) ?_
  refine lv_icmp_ge (tgt := 66) C.1 C.2.1 dX4_finish_15 (by decide) (fun h => absurd h (by decide)) (fun _ => ?_)
  refine lv_iload_n C.1 C.2.1 dX4_finish_18 rfl (lv_at hl 4 rfl) ?_
  refine lv_if_eq (tgt := 43) C.1 C.2.1 dX4_finish_19 (by decide) (fun _ => ?_) (fun h => absurd (by decide) h)
  refine lv_aload_n C.1 C.2.1 dX4_finish_43 rfl (lv_at hl 2 rfl) ?_
  refine k_get (v := .ref a1) C hP 0 rfl rfl inlX4 2 (by decide) m_4_11 e0_2 dX4_finish_44 ?_
  refine lv_iload C.1 C.2.1 dX4_finish_47 (lv_at hl 0 rfl) ?_
  refine k_bld (v := 32) C hP 1 rfl (vin (by decide)) rfl dX4_finish_49 ?_
  refine lv_bipush (v := 32) C.1 C.2.1 dX4_finish_50 (by decide) ?_
  refine lv_icmp_eq (tgt := 60) C.1 C.2.1 dX4_finish_52 (by decide) (fun _ => ?_) (fun h => absurd (by decide) h)
  refine lv_iinc (v := 56) (lv' := [(4, .int 56), (3, .int 6), (0, .ref a0), (1, .int 120), (2, .int 0)]) C.1 C.2.1 dX4_finish_60 hl (k := 0) rfl (by decide) (by decide) rfl (fun ls hl => ?_)
  refine lv_goto (tgt := 5) C.1 C.2.1 dX4_finish_63 (by decide) ?_
  refine lv_iload C.1 C.2.1 dX4_finish_5 (lv_at hl 0 rfl) ?_
  refine lv_bipush (v := 120) C.1 C.2.1 dX4_finish_7 (by decide) ?_
  refine lv_icmp_ge (tgt := 66) C.1 C.2.1 dX4_finish_9 (by decide) (fun h => absurd h (by decide)) (fun _ => ?_)
  refine lv_iload C.1 C.2.1 dX4_finish_12 (lv_at hl 0 rfl) ?_
  refine lv_iload_n C.1 C.2.1 dX4_finish_14 rfl (lv_at hl 3 rfl) ?_
  refine lv_icmp_ge (tgt := 66) C.1 C.2.1 dX4_finish_15 (by decide) (fun h => absurd h (by decide)) (fun _ => ?_)
  refine lv_iload_n C.1 C.2.1 dX4_finish_18 rfl (lv_at hl 4 rfl) ?_
  refine lv_if_eq (tgt := 43) C.1 C.2.1 dX4_finish_19 (by decide) (fun _ => ?_) (fun h => absurd (by decide) h)
  refine lv_aload_n C.1 C.2.1 dX4_finish_43 rfl (lv_at hl 2 rfl) ?_
  refine k_get (v := .ref a1) C hP 0 rfl rfl inlX4 2 (by decide) m_4_11 e0_2 dX4_finish_44 ?_
  refine lv_iload C.1 C.2.1 dX4_finish_47 (lv_at hl 0 rfl) ?_
  refine k_bld (v := 32) C hP 1 rfl (vin (by decide)) rfl dX4_finish_49 ?_
  refine lv_bipush (v := 32) C.1 C.2.1 dX4_finish_50 (by decide) ?_
  refine lv_icmp_eq (tgt := 60) C.1 C.2.1 dX4_finish_52 (by decide) (fun _ => ?_) (fun h => absurd (by decide) h)
  refine lv_iinc (v := 57) (lv' := [(4, .int 57), (3, .int 6), (0, .ref a0), (1, .int 120), (2, .int 0)]) C.1 C.2.1 dX4_finish_60 hl (k := 0) rfl (by decide) (by decide) rfl (fun ls hl => ?_)
  refine lv_goto (tgt := 5) C.1 C.2.1 dX4_finish_63 (by decide) ?_
  refine lv_iload C.1 C.2.1 dX4_finish_5 (lv_at hl 0 rfl) ?_
  refine lv_bipush (v := 120) C.1 C.2.1 dX4_finish_7 (by decide) ?_
  refine lv_icmp_ge (tgt := 66) C.1 C.2.1 dX4_finish_9 (by decide) (fun h => absurd h (by decide)) (fun _ => ?_)
  refine lv_iload C.1 C.2.1 dX4_finish_12 (lv_at hl 0 rfl) ?_
  refine lv_iload_n C.1 C.2.1 dX4_finish_14 rfl (lv_at hl 3 rfl) ?_
  refine lv_icmp_ge (tgt := 66) C.1 C.2.1 dX4_finish_15 (by decide) (fun h => absurd h (by decide)) (fun _ => ?_)
  refine lv_iload_n C.1 C.2.1 dX4_finish_18 rfl (lv_at hl 4 rfl) ?_
  refine lv_if_eq (tgt := 43) C.1 C.2.1 dX4_finish_19 (by decide) (fun _ => ?_) (fun h => absurd (by decide) h)
  refine lv_aload_n C.1 C.2.1 dX4_finish_43 rfl (lv_at hl 2 rfl) ?_
  refine k_get (v := .ref a1) C hP 0 rfl rfl inlX4 2 (by decide) m_4_11 e0_2 dX4_finish_44 ?_
  refine lv_iload C.1 C.2.1 dX4_finish_47 (lv_at hl 0 rfl) ?_
  refine k_bld (v := 32) C hP 1 rfl (vin (by decide)) rfl dX4_finish_49 ?_
  refine lv_bipush (v := 32) C.1 C.2.1 dX4_finish_50 (by decide) ?_
  refine lv_icmp_eq (tgt := 60) C.1 C.2.1 dX4_finish_52 (by decide) (fun _ => ?_) (fun h => absurd (by decide) h)
  refine lv_iinc (v := 58) (lv' := [(4, .int 58), (3, .int 6), (0, .ref a0), (1, .int 120), (2, .int 0)]) C.1 C.2.1 dX4_finish_60 hl (k := 0) rfl (by decide) (by decide) rfl (fun ls hl => ?_)
  refine lv_goto (tgt := 5) C.1 C.2.1 dX4_finish_63 (by decide) ?_
  refine lv_iload C.1 C.2.1 dX4_finish_5 (lv_at hl 0 rfl) ?_
  refine lv_bipush (v := 120) C.1 C.2.1 dX4_finish_7 (by decide) ?_
  refine lv_icmp_ge (tgt := 66) C.1 C.2.1 dX4_finish_9 (by decide) (fun h => absurd h (by decide)) (fun _ => ?_)
  refine lv_iload C.1 C.2.1 dX4_finish_12 (lv_at hl 0 rfl) ?_
  refine lv_iload_n C.1 C.2.1 dX4_finish_14 rfl (lv_at hl 3 rfl) ?_
  refine lv_icmp_ge (tgt := 66) C.1 C.2.1 dX4_finish_15 (by decide) (fun h => absurd h (by decide)) (fun _ => ?_)
  refine lv_iload_n C.1 C.2.1 dX4_finish_18 rfl (lv_at hl 4 rfl) ?_
  refine lv_if_eq (tgt := 43) C.1 C.2.1 dX4_finish_19 (by decide) (fun _ => ?_) (fun h => absurd (by decide) h)
  refine lv_aload_n C.1 C.2.1 dX4_finish_43 rfl (lv_at hl 2 rfl) ?_
  refine k_get (v := .ref a1) C hP 0 rfl rfl inlX4 2 (by decide) m_4_11 e0_2 dX4_finish_44 ?_
  refine lv_iload C.1 C.2.1 dX4_finish_47 (lv_at hl 0 rfl) ?_
  refine k_bld (v := 32) C hP 1 rfl (vin (by decide)) rfl dX4_finish_49 ?_
  refine lv_bipush (v := 32) C.1 C.2.1 dX4_finish_50 (by decide) ?_
  refine lv_icmp_eq (tgt := 60) C.1 C.2.1 dX4_finish_52 (by decide) (fun _ => ?_) (fun h => absurd (by decide) h)
  refine lv_iinc (v := 59) (lv' := [(4, .int 59), (3, .int 6), (0, .ref a0), (1, .int 120), (2, .int 0)]) C.1 C.2.1 dX4_finish_60 hl (k := 0) rfl (by decide) (by decide) rfl (fun ls hl => ?_)
  refine lv_goto (tgt := 5) C.1 C.2.1 dX4_finish_63 (by decide) ?_
  refine lv_iload C.1 C.2.1 dX4_finish_5 (lv_at hl 0 rfl) ?_
  refine lv_bipush (v := 120) C.1 C.2.1 dX4_finish_7 (by decide) ?_
  refine lv_icmp_ge (tgt := 66) C.1 C.2.1 dX4_finish_9 (by decide) (fun h => absurd h (by decide)) (fun _ => ?_)
  refine lv_iload C.1 C.2.1 dX4_finish_12 (lv_at hl 0 rfl) ?_
  refine lv_iload_n C.1 C.2.1 dX4_finish_14 rfl (lv_at hl 3 rfl) ?_
  refine lv_icmp_ge (tgt := 66) C.1 C.2.1 dX4_finish_15 (by decide) (fun h => absurd h (by decide)) (fun _ => ?_)
  refine lv_iload_n C.1 C.2.1 dX4_finish_18 rfl (lv_at hl 4 rfl) ?_
  refine lv_if_eq (tgt := 43) C.1 C.2.1 dX4_finish_19 (by decide) (fun _ => ?_) (fun h => absurd (by decide) h)
  refine lv_aload_n C.1 C.2.1 dX4_finish_43 rfl (lv_at hl 2 rfl) ?_
  refine k_get (v := .ref a1) C hP 0 rfl rfl inlX4 2 (by decide) m_4_11 e0_2 dX4_finish_44 ?_
  refine lv_iload C.1 C.2.1 dX4_finish_47 (lv_at hl 0 rfl) ?_
  refine k_bld (v := 32) C hP 1 rfl (vin (by decide)) rfl dX4_finish_49 ?_
  refine lv_bipush (v := 32) C.1 C.2.1 dX4_finish_50 (by decide) ?_
  refine lv_icmp_eq (tgt := 60) C.1 C.2.1 dX4_finish_52 (by decide) (fun _ => ?_) (fun h => absurd (by decide) h)
  refine lv_iinc (v := 60) (lv' := [(4, .int 60), (3, .int 6), (0, .ref a0), (1, .int 120), (2, .int 0)]) C.1 C.2.1 dX4_finish_60 hl (k := 0) rfl (by decide) (by decide) rfl (fun ls hl => ?_)
  refine lv_goto (tgt := 5) C.1 C.2.1 dX4_finish_63 (by decide) ?_
  refine lv_iload C.1 C.2.1 dX4_finish_5 (lv_at hl 0 rfl) ?_
  refine lv_bipush (v := 120) C.1 C.2.1 dX4_finish_7 (by decide) ?_
  refine lv_icmp_ge (tgt := 66) C.1 C.2.1 dX4_finish_9 (by decide) (fun h => absurd h (by decide)) (fun _ => ?_)
  refine lv_iload C.1 C.2.1 dX4_finish_12 (lv_at hl 0 rfl) ?_
  refine lv_iload_n C.1 C.2.1 dX4_finish_14 rfl (lv_at hl 3 rfl) ?_
  refine lv_icmp_ge (tgt := 66) C.1 C.2.1 dX4_finish_15 (by decide) (fun h => absurd h (by decide)) (fun _ => ?_)
  refine lv_iload_n C.1 C.2.1 dX4_finish_18 rfl (lv_at hl 4 rfl) ?_
  refine lv_if_eq (tgt := 43) C.1 C.2.1 dX4_finish_19 (by decide) (fun _ => ?_) (fun h => absurd (by decide) h)
  refine lv_aload_n C.1 C.2.1 dX4_finish_43 rfl (lv_at hl 2 rfl) ?_
  refine k_get (v := .ref a1) C hP 0 rfl rfl inlX4 2 (by decide) m_4_11 e0_2 dX4_finish_44 ?_
  refine lv_iload C.1 C.2.1 dX4_finish_47 (lv_at hl 0 rfl) ?_
  refine k_bld (v := 32) C hP 1 rfl (vin (by decide)) rfl dX4_finish_49 ?_
  refine lv_bipush (v := 32) C.1 C.2.1 dX4_finish_50 (by decide) ?_
  refine lv_icmp_eq (tgt := 60) C.1 C.2.1 dX4_finish_52 (by decide) (fun _ => ?_) (fun h => absurd (by decide) h)
  refine lv_iinc (v := 61) (lv' := [(4, .int 61), (3, .int 6), (0, .ref a0), (1, .int 120), (2, .int 0)]) C.1 C.2.1 dX4_finish_60 hl (k := 0) rfl (by decide) (by decide) rfl (fun ls hl => ?_)
  refine lv_goto (tgt := 5) C.1 C.2.1 dX4_finish_63 (by decide) ?_
  refine lv_iload C.1 C.2.1 dX4_finish_5 (lv_at hl 0 rfl) ?_
  refine lv_bipush (v := 120) C.1 C.2.1 dX4_finish_7 (by decide) ?_
  refine lv_icmp_ge (tgt := 66) C.1 C.2.1 dX4_finish_9 (by decide) (fun h => absurd h (by decide)) (fun _ => ?_)
  refine lv_iload C.1 C.2.1 dX4_finish_12 (lv_at hl 0 rfl) ?_
  refine lv_iload_n C.1 C.2.1 dX4_finish_14 rfl (lv_at hl 3 rfl) ?_
  refine lv_icmp_ge (tgt := 66) C.1 C.2.1 dX4_finish_15 (by decide) (fun h => absurd h (by decide)) (fun _ => ?_)
  refine lv_iload_n C.1 C.2.1 dX4_finish_18 rfl (lv_at hl 4 rfl) ?_
  refine lv_if_eq (tgt := 43) C.1 C.2.1 dX4_finish_19 (by decide) (fun _ => ?_) (fun h => absurd (by decide) h)
  refine lv_aload_n C.1 C.2.1 dX4_finish_43 rfl (lv_at hl 2 rfl) ?_
  refine k_get (v := .ref a1) C hP 0 rfl rfl inlX4 2 (by decide) m_4_11 e0_2 dX4_finish_44 ?_
  refine lv_iload C.1 C.2.1 dX4_finish_47 (lv_at hl 0 rfl) ?_
  refine k_bld (v := 32) C hP 1 rfl (vin (by decide)) rfl dX4_finish_49 ?_
  refine lv_bipush (v := 32) C.1 C.2.1 dX4_finish_50 (by decide) ?_
  refine lv_icmp_eq (tgt := 60) C.1 C.2.1 dX4_finish_52 (by decide) (fun _ => ?_) (fun h => absurd (by decide) h)
  refine lv_iinc (v := 62) (lv' := [(4, .int 62), (3, .int 6), (0, .ref a0), (1, .int 120), (2, .int 0)]) C.1 C.2.1 dX4_finish_60 hl (k := 0) rfl (by decide) (by decide) rfl (fun ls hl => ?_)
  refine lv_goto (tgt := 5) C.1 C.2.1 dX4_finish_63 (by decide) ?_
  refine lv_iload C.1 C.2.1 dX4_finish_5 (lv_at hl 0 rfl) ?_
  refine lv_bipush (v := 120) C.1 C.2.1 dX4_finish_7 (by decide) ?_
  refine lv_icmp_ge (tgt := 66) C.1 C.2.1 dX4_finish_9 (by decide) (fun h => absurd h (by decide)) (fun _ => ?_)
  refine lv_iload C.1 C.2.1 dX4_finish_12 (lv_at hl 0 rfl) ?_
  refine lv_iload_n C.1 C.2.1 dX4_finish_14 rfl (lv_at hl 3 rfl) ?_
  refine lv_icmp_ge (tgt := 66) C.1 C.2.1 dX4_finish_15 (by decide) (fun h => absurd h (by decide)) (fun _ => ?_)
  refine lv_iload_n C.1 C.2.1 dX4_finish_18 rfl (lv_at hl 4 rfl) ?_
  refine lv_if_eq (tgt := 43) C.1 C.2.1 dX4_finish_19 (by decide) (fun _ => ?_) (fun h => absurd (by decide) h)
  refine lv_aload_n C.1 C.2.1 dX4_finish_43 rfl (lv_at hl 2 rfl) ?_
  refine k_get (v := .ref a1) C hP 0 rfl rfl inlX4 2 (by decide) m_4_11 e0_2 dX4_finish_44 ?_
  refine lv_iload C.1 C.2.1 dX4_finish_47 (lv_at hl 0 rfl) ?_
  refine k_bld (v := 32) C hP 1 rfl (vin (by decide)) rfl dX4_finish_49 ?_
  refine lv_bipush (v := 32) C.1 C.2.1 dX4_finish_50 (by decide) ?_
  refine lv_icmp_eq (tgt := 60) C.1 C.2.1 dX4_finish_52 (by decide) (fun _ => ?_) (fun h => absurd (by decide) h)
  refine lv_iinc (v := 63) (lv' := [(4, .int 63), (3, .int 6), (0, .ref a0), (1, .int 120), (2, .int 0)]) C.1 C.2.1 dX4_finish_60 hl (k := 0) rfl (by decide) (by decide) rfl (fun ls hl => ?_)
  refine lv_goto (tgt := 5) C.1 C.2.1 dX4_finish_63 (by decide) ?_
  refine lv_iload C.1 C.2.1 dX4_finish_5 (lv_at hl 0 rfl) ?_
  refine lv_bipush (v := 120) C.1 C.2.1 dX4_finish_7 (by decide) ?_
  refine lv_icmp_ge (tgt := 66) C.1 C.2.1 dX4_finish_9 (by decide) (fun h => absurd h (by decide)) (fun _ => ?_)
  refine lv_iload C.1 C.2.1 dX4_finish_12 (lv_at hl 0 rfl) ?_
  refine lv_iload_n C.1 C.2.1 dX4_finish_14 rfl (lv_at hl 3 rfl) ?_
  refine lv_icmp_ge (tgt := 66) C.1 C.2.1 dX4_finish_15 (by decide) (fun h => absurd h (by decide)) (fun _ => ?_)
  refine lv_iload_n C.1 C.2.1 dX4_finish_18 rfl (lv_at hl 4 rfl) ?_
  refine lv_if_eq (tgt := 43) C.1 C.2.1 dX4_finish_19 (by decide) (fun _ => ?_) (fun h => absurd (by decide) h)
  refine lv_aload_n C.1 C.2.1 dX4_finish_43 rfl (lv_at hl 2 rfl) ?_
  refine k_get (v := .ref a1) C hP 0 rfl rfl inlX4 2 (by decide) m_4_11 e0_2 dX4_finish_44 ?_
  refine lv_iload C.1 C.2.1 dX4_finish_47 (lv_at hl 0 rfl) ?_
  refine k_bld (v := 32) C hP 1 rfl (vin (by decide)) rfl dX4_finish_49 ?_
  refine lv_bipush (v := 32) C.1 C.2.1 dX4_finish_50 (by decide) ?_
  refine lv_icmp_eq (tgt := 60) C.1 C.2.1 dX4_finish_52 (by decide) (fun _ => ?_) (fun h => absurd (by decide) h)
  refine lv_iinc (v := 64) (lv' := [(4, .int 64), (3, .int 6), (0, .ref a0), (1, .int 120), (2, .int 0)]) C.1 C.2.1 dX4_finish_60 hl (k := 0) rfl (by decide) (by decide) rfl (fun ls hl => ?_)
  refine lv_goto (tgt := 5) C.1 C.2.1 dX4_finish_63 (by decide) ?_
  refine lv_iload C.1 C.2.1 dX4_finish_5 (lv_at hl 0 rfl) ?_
  refine lv_bipush (v := 120) C.1 C.2.1 dX4_finish_7 (by decide) ?_
  refine lv_icmp_ge (tgt := 66) C.1 C.2.1 dX4_finish_9 (by decide) (fun h => absurd h (by decide)) (fun _ => ?_)
  refine lv_iload C.1 C.2.1 dX4_finish_12 (lv_at hl 0 rfl) ?_
  refine lv_iload_n C.1 C.2.1 dX4_finish_14 rfl (lv_at hl 3 rfl) ?_
  refine lv_icmp_ge (tgt := 66) C.1 C.2.1 dX4_finish_15 (by decide) (fun h => absurd h (by decide)) (fun _ => ?_)
  refine lv_iload_n C.1 C.2.1 dX4_finish_18 rfl (lv_at hl 4 rfl) ?_
  refine lv_if_eq (tgt := 43) C.1 C.2.1 dX4_finish_19 (by decide) (fun _ => ?_) (fun h => absurd (by decide) h)
  refine lv_aload_n C.1 C.2.1 dX4_finish_43 rfl (lv_at hl 2 rfl) ?_
  refine k_get (v := .ref a1) C hP 0 rfl rfl inlX4 2 (by decide) m_4_11 e0_2 dX4_finish_44 ?_
  refine lv_iload C.1 C.2.1 dX4_finish_47 (lv_at hl 0 rfl) ?_
  refine k_bld (v := 32) C hP 1 rfl (vin (by decide)) rfl dX4_finish_49 ?_
  refine lv_bipush (v := 32) C.1 C.2.1 dX4_finish_50 (by decide) ?_
  refine lv_icmp_eq (tgt := 60) C.1 C.2.1 dX4_finish_52 (by decide) (fun _ => ?_) (fun h => absurd (by decide) h)
  refine lv_iinc (v := 65) (lv' := [(4, .int 65), (3, .int 6), (0, .ref a0), (1, .int 120), (2, .int 0)]) C.1 C.2.1 dX4_finish_60 hl (k := 0) rfl (by decide) (by decide) rfl (fun ls hl => ?_)
  refine lv_goto (tgt := 5) C.1 C.2.1 dX4_finish_63 (by decide) ?_
  refine lv_iload C.1 C.2.1 dX4_finish_5 (lv_at hl 0 rfl) ?_
  refine lv_bipush (v := 120) C.1 C.2.1 dX4_finish_7 (by decide) ?_
  refine lv_icmp_ge (tgt := 66) C.1 C.2.1 dX4_finish_9 (by decide) (fun h => absurd h (by decide)) (fun _ => ?_)
  refine lv_iload C.1 C.2.1 dX4_finish_12 (lv_at hl 0 rfl) ?_
  refine lv_iload_n C.1 C.2.1 dX4_finish_14 rfl (lv_at hl 3 rfl) ?_
  refine lv_icmp_ge (tgt := 66) C.1 C.2.1 dX4_finish_15 (by decide) (fun h => absurd h (by decide)) (fun _ => ?_)
  refine lv_iload_n C.1 C.2.1 dX4_finish_18 rfl (lv_at hl 4 rfl) ?_
  refine lv_if_eq (tgt := 43) C.1 C.2.1 dX4_finish_19 (by decide) (fun _ => ?_) (fun h => absurd (by decide) h)
  refine lv_aload_n C.1 C.2.1 dX4_finish_43 rfl (lv_at hl 2 rfl) ?_
  refine k_get (v := .ref a1) C hP 0 rfl rfl inlX4 2 (by decide) m_4_11 e0_2 dX4_finish_44 ?_
  refine lv_iload C.1 C.2.1 dX4_finish_47 (lv_at hl 0 rfl) ?_
  refine k_bld (v := 32) C hP 1 rfl (vin (by decide)) rfl dX4_finish_49 ?_
  refine lv_bipush (v := 32) C.1 C.2.1 dX4_finish_50 (by decide) ?_
  refine lv_icmp_eq (tgt := 60) C.1 C.2.1 dX4_finish_52 (by decide) (fun _ => ?_) (fun h => absurd (by decide) h)
  refine lv_iinc (v := 66) (lv' := [(4, .int 66), (3, .int 6), (0, .ref a0), (1, .int 120), (2, .int 0)]) C.1 C.2.1 dX4_finish_60 hl (k := 0) rfl (by decide) (by decide) rfl (fun ls hl => ?_)
  refine lv_goto (tgt := 5) C.1 C.2.1 dX4_finish_63 (by decide) ?_
  refine lv_iload C.1 C.2.1 dX4_finish_5 (lv_at hl 0 rfl) ?_
  refine lv_bipush (v := 120) C.1 C.2.1 dX4_finish_7 (by decide) ?_
  refine lv_icmp_ge (tgt := 66) C.1 C.2.1 dX4_finish_9 (by decide) (fun h => absurd h (by decide)) (fun _ => ?_)
  refine lv_iload C.1 C.2.1 dX4_finish_12 (lv_at hl 0 rfl) ?_
  refine lv_iload_n C.1 C.2.1 dX4_finish_14 rfl (lv_at hl 3 rfl) ?_
  refine lv_icmp_ge (tgt := 66) C.1 C.2.1 dX4_finish_15 (by decide) (fun h => absurd h (by decide)) (fun _ => ?_)
  refine lv_iload_n C.1 C.2.1 dX4_finish_18 rfl (lv_at hl 4 rfl) ?_
  refine lv_if_eq (tgt := 43) C.1 C.2.1 dX4_finish_19 (by decide) (fun _ => ?_) (fun h => absurd (by decide) h)
  refine lv_aload_n C.1 C.2.1 dX4_finish_43 rfl (lv_at hl 2 rfl) ?_
  refine k_get (v := .ref a1) C hP 0 rfl rfl inlX4 2 (by decide) m_4_11 e0_2 dX4_finish_44 ?_
  refine lv_iload C.1 C.2.1 dX4_finish_47 (lv_at hl 0 rfl) ?_
  refine k_bld (v := 32) C hP 1 rfl (vin (by decide)) rfl dX4_finish_49 ?_
  refine lv_bipush (v := 32) C.1 C.2.1 dX4_finish_50 (by decide) ?_
  refine lv_icmp_eq (tgt := 60) C.1 C.2.1 dX4_finish_52 (by decide) (fun _ => ?_) (fun h => absurd (by decide) h)
  refine lv_iinc (v := 67) (lv' := [(4, .int 67), (3, .int 6), (0, .ref a0), (1, .int 120), (2, .int 0)]) C.1 C.2.1 dX4_finish_60 hl (k := 0) rfl (by decide) (by decide) rfl (fun ls hl => ?_)
  refine lv_goto (tgt := 5) C.1 C.2.1 dX4_finish_63 (by decide) ?_
  refine lv_iload C.1 C.2.1 dX4_finish_5 (lv_at hl 0 rfl) ?_
  refine lv_bipush (v := 120) C.1 C.2.1 dX4_finish_7 (by decide) ?_
  refine lv_icmp_ge (tgt := 66) C.1 C.2.1 dX4_finish_9 (by decide) (fun h => absurd h (by decide)) (fun _ => ?_)
  refine lv_iload C.1 C.2.1 dX4_finish_12 (lv_at hl 0 rfl) ?_
  refine lv_iload_n C.1 C.2.1 dX4_finish_14 rfl (lv_at hl 3 rfl) ?_
  refine lv_icmp_ge (tgt := 66) C.1 C.2.1 dX4_finish_15 (by decide) (fun h => absurd h (by decide)) (fun _ => ?_)
  refine lv_iload_n C.1 C.2.1 dX4_finish_18 rfl (lv_at hl 4 rfl) ?_
  refine lv_if_eq (tgt := 43) C.1 C.2.1 dX4_finish_19 (by decide) (fun _ => ?_) (fun h => absurd (by decide) h)
  refine lv_aload_n C.1 C.2.1 dX4_finish_43 rfl (lv_at hl 2 rfl) ?_
  refine k_get (v := .ref a1) C hP 0 rfl rfl inlX4 2 (by decide) m_4_11 e0_2 dX4_finish_44 ?_
  refine lv_iload C.1 C.2.1 dX4_finish_47 (lv_at hl 0 rfl) ?_
  refine k_bld (v := 32) C hP 1 rfl (vin (by decide)) rfl dX4_finish_49 ?_
  refine lv_bipush (v := 32) C.1 C.2.1 dX4_finish_50 (by decide) ?_
  refine lv_icmp_eq (tgt := 60) C.1 C.2.1 dX4_finish_52 (by decide) (fun _ => ?_) (fun h => absurd (by decide) h)
  refine lv_iinc (v := 68) (lv' := [(4, .int 68), (3, .int 6), (0, .ref a0), (1, .int 120), (2, .int 0)]) C.1 C.2.1 dX4_finish_60 hl (k := 0) rfl (by decide) (by decide) rfl (fun ls hl => ?_)
  refine lv_goto (tgt := 5) C.1 C.2.1 dX4_finish_63 (by decide) ?_
  refine lv_iload C.1 C.2.1 dX4_finish_5 (lv_at hl 0 rfl) ?_
  refine lv_bipush (v := 120) C.1 C.2.1 dX4_finish_7 (by decide) ?_
  refine lv_icmp_ge (tgt := 66) C.1 C.2.1 dX4_finish_9 (by decide) (fun h => absurd h (by decide)) (fun _ => ?_)
  refine lv_iload C.1 C.2.1 dX4_finish_12 (lv_at hl 0 rfl) ?_
  refine lv_iload_n C.1 C.2.1 dX4_finish_14 rfl (lv_at hl 3 rfl) ?_
  refine lv_icmp_ge (tgt := 66) C.1 C.2.1 dX4_finish_15 (by decide) (fun h => absurd h (by decide)) (fun _ => ?_)
  refine lv_iload_n C.1 C.2.1 dX4_finish_18 rfl (lv_at hl 4 rfl) ?_
  refine lv_if_eq (tgt := 43) C.1 C.2.1 dX4_finish_19 (by decide) (fun _ => ?_) (fun h => absurd (by decide) h)
  refine lv_aload_n C.1 C.2.1 dX4_finish_43 rfl (lv_at hl 2 rfl) ?_
  refine k_get (v := .ref a1) C hP 0 rfl rfl inlX4 2 (by decide) m_4_11 e0_2 dX4_finish_44 ?_
  refine lv_iload C.1 C.2.1 dX4_finish_47 (lv_at hl 0 rfl) ?_
  refine k_bld (v := 32) C hP 1 rfl (vin (by decide)) rfl dX4_finish_49 ?_
  refine lv_bipush (v := 32) C.1 C.2.1 dX4_finish_50 (by decide) ?_
  refine lv_icmp_eq (tgt := 60) C.1 C.2.1 dX4_finish_52 (by decide) (fun _ => ?_) (fun h => absurd (by decide) h)
  refine lv_iinc (v := 69) (lv' := [(4, .int 69), (3, .int 6), (0, .ref a0), (1, .int 120), (2, .int 0)]) C.1 C.2.1 dX4_finish_60 hl (k := 0) rfl (by decide) (by decide) rfl (fun ls hl => ?_)
  refine lv_goto (tgt := 5) C.1 C.2.1 dX4_finish_63 (by decide) ?_
  refine lv_iload C.1 C.2.1 dX4_finish_5 (lv_at hl 0 rfl) ?_
  refine lv_bipush (v := 120) C.1 C.2.1 dX4_finish_7 (by decide) ?_
  refine lv_icmp_ge (tgt := 66) C.1 C.2.1 dX4_finish_9 (by decide) (fun h => absurd h (by decide)) (fun _ => ?_)
  refine lv_iload C.1 C.2.1 dX4_finish_12 (lv_at hl 0 rfl) ?_
  refine lv_iload_n C.1 C.2.1 dX4_finish_14 rfl (lv_at hl 3 rfl) ?_
  refine lv_icmp_ge (tgt := 66) C.1 C.2.1 dX4_finish_15 (by decide) (fun h => absurd h (by decide)) (fun _ => ?_)
  refine lv_iload_n C.1 C.2.1 dX4_finish_18 rfl (lv_at hl 4 rfl) ?_
  refine lv_if_eq (tgt := 43) C.1 C.2.1 dX4_finish_19 (by decide) (fun _ => ?_) (fun h => absurd (by decide) h)
  refine lv_aload_n C.1 C.2.1 dX4_finish_43 rfl (lv_at hl 2 rfl) ?_
  refine k_get (v := .ref a1) C hP 0 rfl rfl inlX4 2 (by decide) m_4_11 e0_2 dX4_finish_44 ?_
  refine lv_iload C.1 C.2.1 dX4_finish_47 (lv_at hl 0 rfl) ?_
  refine k_bld (v := 32) C hP 1 rfl (vin (by decide)) rfl dX4_finish_49 ?_
  refine lv_bipush (v := 32) C.1 C.2.1 dX4_finish_50 (by decide) ?_
  refine lv_icmp_eq (tgt := 60) C.1 C.2.1 dX4_finish_52 (by decide) (fun _ => ?_) (fun h => absurd (by decide) h)
  refine lv_iinc (v := 70) (lv' := [(4, .int 70), (3, .int 6), (0, .ref a0), (1, .int 120), (2, .int 0)]) C.1 C.2.1 dX4_finish_60 hl (k := 0) rfl (by decide) (by decide) rfl (fun ls hl => ?_)
  refine lv_goto (tgt := 5) C.1 C.2.1 dX4_finish_63 (by decide) ?_
  refine lv_iload C.1 C.2.1 dX4_finish_5 (lv_at hl 0 rfl) ?_
  refine lv_bipush (v := 120) C.1 C.2.1 dX4_finish_7 (by decide) ?_
  refine lv_icmp_ge (tgt := 66) C.1 C.2.1 dX4_finish_9 (by decide) (fun h => absurd h (by decide)) (fun _ => ?_)
  refine lv_iload C.1 C.2.1 dX4_finish_12 (lv_at hl 0 rfl) ?_
  refine lv_iload_n C.1 C.2.1 dX4_finish_14 rfl (lv_at hl 3 rfl) ?_
  refine lv_icmp_ge (tgt := 66) C.1 C.2.1 dX4_finish_15 (by decide) (fun h => absurd h (by decide)) (fun _ => ?_)
  refine lv_iload_n C.1 C.2.1 dX4_finish_18 rfl (lv_at hl 4 rfl) ?_
  refine lv_if_eq (tgt := 43) C.1 C.2.1 dX4_finish_19 (by decide) (fun _ => ?_) (fun h => absurd (by decide) h)
  refine lv_aload_n C.1 C.2.1 dX4_finish_43 rfl (lv_at hl 2 rfl) ?_
  refine k_get (v := .ref a1) C hP 0 rfl rfl inlX4 2 (by decide) m_4_11 e0_2 dX4_finish_44 ?_
  refine lv_iload C.1 C.2.1 dX4_finish_47 (lv_at hl 0 rfl) ?_
  refine k_bld (v := 32) C hP 1 rfl (vin (by decide)) rfl dX4_finish_49 ?_
  refine lv_bipush (v := 32) C.1 C.2.1 dX4_finish_50 (by decide) ?_
  refine lv_icmp_eq (tgt := 60) C.1 C.2.1 dX4_finish_52 (by decide) (fun _ => ?_) (fun h => absurd (by decide) h)
  refine lv_iinc (v := 71) (lv' := [(4, .int 71), (3, .int 6), (0, .ref a0), (1, .int 120), (2, .int 0)]) C.1 C.2.1 dX4_finish_60 hl (k := 0) rfl (by decide) (by decide) rfl (fun ls hl => ?_)
  refine lv_goto (tgt := 5) C.1 C.2.1 dX4_finish_63 (by decide) ?_
  refine lv_iload C.1 C.2.1 dX4_finish_5 (lv_at hl 0 rfl) ?_
  refine lv_bipush (v := 120) C.1 C.2.1 dX4_finish_7 (by decide) ?_
  refine lv_icmp_ge (tgt := 66) C.1 C.2.1 dX4_finish_9 (by decide) (fun h => absurd h (by decide)) (fun _ => ?_)
  refine lv_iload C.1 C.2.1 dX4_finish_12 (lv_at hl 0 rfl) ?_
  refine lv_iload_n C.1 C.2.1 dX4_finish_14 rfl (lv_at hl 3 rfl) ?_
  refine lv_icmp_ge (tgt := 66) C.1 C.2.1 dX4_finish_15 (by decide) (fun h => absurd h (by decide)) (fun _ => ?_)
  refine lv_iload_n C.1 C.2.1 dX4_finish_18 rfl (lv_at hl 4 rfl) ?_
  refine lv_if_eq (tgt := 43) C.1 C.2.1 dX4_finish_19 (by decide) (fun _ => ?_) (fun h => absurd (by decide) h)
  refine lv_aload_n C.1 C.2.1 dX4_finish_43 rfl (lv_at hl 2 rfl) ?_
  refine k_get (v := .ref a1) C hP 0 rfl rfl inlX4 2 (by decide) m_4_11 e0_2 dX4_finish_44 ?_
  refine lv_iload C.1 C.2.1 dX4_finish_47 (lv_at hl 0 rfl) ?_
  refine k_bld (v := 32) C hP 1 rfl (vin (by decide)) rfl dX4_finish_49 ?_
  refine lv_bipush (v := 32) C.1 C.2.1 dX4_finish_50 (by decide) ?_
  refine lv_icmp_eq (tgt := 60) C.1 C.2.1 dX4_finish_52 (by decide) (fun _ => ?_) (fun h => absurd (by decide) h)
  refine lv_iinc (v := 72) (lv' := [(4, .int 72), (3, .int 6), (0, .ref a0), (1, .int 120), (2, .int 0)]) C.1 C.2.1 dX4_finish_60 hl (k := 0) rfl (by decide) (by decide) rfl (fun ls hl => ?_)
  refine lv_goto (tgt := 5) C.1 C.2.1 dX4_finish_63 (by decide) ?_
  refine lv_iload C.1 C.2.1 dX4_finish_5 (lv_at hl 0 rfl) ?_
  refine lv_bipush (v := 120) C.1 C.2.1 dX4_finish_7 (by decide) ?_
  refine lv_icmp_ge (tgt := 66) C.1 C.2.1 dX4_finish_9 (by decide) (fun h => absurd h (by decide)) (fun _ => ?_)
  refine lv_iload C.1 C.2.1 dX4_finish_12 (lv_at hl 0 rfl) ?_
  refine lv_iload_n C.1 C.2.1 dX4_finish_14 rfl (lv_at hl 3 rfl) ?_
  refine lv_icmp_ge (tgt := 66) C.1 C.2.1 dX4_finish_15 (by decide) (fun h => absurd h (by decide)) (fun _ => ?_)
  refine lv_iload_n C.1 C.2.1 dX4_finish_18 rfl (lv_at hl 4 rfl) ?_
  refine lv_if_eq (tgt := 43) C.1 C.2.1 dX4_finish_19 (by decide) (fun _ => ?_) (fun h => absurd (by decide) h)
  refine lv_aload_n C.1 C.2.1 dX4_finish_43 rfl (lv_at hl 2 rfl) ?_
  refine k_get (v := .ref a1) C hP 0 rfl rfl inlX4 2 (by decide) m_4_11 e0_2 dX4_finish_44 ?_
  refine lv_iload C.1 C.2.1 dX4_finish_47 (lv_at hl 0 rfl) ?_
  refine k_bld (v := 32) C hP 1 rfl (vin (by decide)) rfl dX4_finish_49 ?_
  refine lv_bipush (v := 32) C.1 C.2.1 dX4_finish_50 (by decide) ?_
  refine lv_icmp_eq (tgt := 60) C.1 C.2.1 dX4_finish_52 (by decide) (fun _ => ?_) (fun h => absurd (by decide) h)
  refine lv_iinc (v := 73) (lv' := [(4, .int 73), (3, .int 6), (0, .ref a0), (1, .int 120), (2, .int 0)]) C.1 C.2.1 dX4_finish_60 hl (k := 0) rfl (by decide) (by decide) rfl (fun ls hl => ?_)
  refine lv_goto (tgt := 5) C.1 C.2.1 dX4_finish_63 (by decide) ?_
  refine lv_iload C.1 C.2.1 dX4_finish_5 (lv_at hl 0 rfl) ?_
  refine lv_bipush (v := 120) C.1 C.2.1 dX4_finish_7 (by decide) ?_
  refine lv_icmp_ge (tgt := 66) C.1 C.2.1 dX4_finish_9 (by decide) (fun h => absurd h (by decide)) (fun _ => ?_)
  refine lv_iload C.1 C.2.1 dX4_finish_12 (lv_at hl 0 rfl) ?_
  refine lv_iload_n C.1 C.2.1 dX4_finish_14 rfl (lv_at hl 3 rfl) ?_
  refine lv_icmp_ge (tgt := 66) C.1 C.2.1 dX4_finish_15 (by decide) (fun h => absurd h (by decide)) (fun _ => ?_)
  refine lv_iload_n C.1 C.2.1 dX4_finish_18 rfl (lv_at hl 4 rfl) ?_
  refine lv_if_eq (tgt := 43) C.1 C.2.1 dX4_finish_19 (by decide) (fun _ => ?_) (fun h => absurd (by decide) h)
  refine lv_aload_n C.1 C.2.1 dX4_finish_43 rfl (lv_at hl 2 rfl) ?_
  refine k_get (v := .ref a1) C hP 0 rfl rfl inlX4 2 (by decide) m_4_11 e0_2 dX4_finish_44 ?_
  refine lv_iload C.1 C.2.1 dX4_finish_47 (lv_at hl 0 rfl) ?_
  refine k_bld (v := 32) C hP 1 rfl (vin (by decide)) rfl dX4_finish_49 ?_
  refine lv_bipush (v := 32) C.1 C.2.1 dX4_finish_50 (by decide) ?_
  refine lv_icmp_eq (tgt := 60) C.1 C.2.1 dX4_finish_52 (by decide) (fun _ => ?_) (fun h => absurd (by decide) h)
  refine lv_iinc (v := 74) (lv' := [(4, .int 74), (3, .int 6), (0, .ref a0), (1, .int 120), (2, .int 0)]) C.1 C.2.1 dX4_finish_60 hl (k := 0) rfl (by decide) (by decide) rfl (fun ls hl => ?_)
  refine lv_goto (tgt := 5) C.1 C.2.1 dX4_finish_63 (by decide) ?_
  refine lv_iload C.1 C.2.1 dX4_finish_5 (lv_at hl 0 rfl) ?_
  refine lv_bipush (v := 120) C.1 C.2.1 dX4_finish_7 (by decide) ?_
  refine lv_icmp_ge (tgt := 66) C.1 C.2.1 dX4_finish_9 (by decide) (fun h => absurd h (by decide)) (fun _ => ?_)
  refine lv_iload C.1 C.2.1 dX4_finish_12 (lv_at hl 0 rfl) ?_
  refine lv_iload_n C.1 C.2.1 dX4_finish_14 rfl (lv_at hl 3 rfl) ?_
  refine lv_icmp_ge (tgt := 66) C.1 C.2.1 dX4_finish_15 (by decide) (fun h => absurd h (by decide)) (fun _ => ?_)
  refine lv_iload_n C.1 C.2.1 dX4_finish_18 rfl (lv_at hl 4 rfl) ?_
  refine lv_if_eq (tgt := 43) C.1 C.2.1 dX4_finish_19 (by decide) (fun _ => ?_) (fun h => absurd (by decide) h)
  refine lv_aload_n C.1 C.2.1 dX4_finish_43 rfl (lv_at hl 2 rfl) ?_
  refine k_get (v := .ref a1) C hP 0 rfl rfl inlX4 2 (by decide) m_4_11 e0_2 dX4_finish_44 ?_
  refine lv_iload C.1 C.2.1 dX4_finish_47 (lv_at hl 0 rfl) ?_
  refine k_bld (v := 32) C hP 1 rfl (vin (by decide)) rfl dX4_finish_49 ?_
  refine lv_bipush (v := 32) C.1 C.2.1 dX4_finish_50 (by decide) ?_
  refine lv_icmp_eq (tgt := 60) C.1 C.2.1 dX4_finish_52 (by decide) (fun _ => ?_) (fun h => absurd (by decide) h)
  refine lv_iinc (v := 75) (lv' := [(4, .int 75), (3, .int 6), (0, .ref a0), (1, .int 120), (2, .int 0)]) C.1 C.2.1 dX4_finish_60 hl (k := 0) rfl (by decide) (by decide) rfl (fun ls hl => ?_)
  refine lv_goto (tgt := 5) C.1 C.2.1 dX4_finish_63 (by decide) ?_
  refine lv_iload C.1 C.2.1 dX4_finish_5 (lv_at hl 0 rfl) ?_
  refine lv_bipush (v := 120) C.1 C.2.1 dX4_finish_7 (by decide) ?_
  refine lv_icmp_ge (tgt := 66) C.1 C.2.1 dX4_finish_9 (by decide) (fun h => absurd h (by decide)) (fun _ => ?_)
  refine lv_iload C.1 C.2.1 dX4_finish_12 (lv_at hl 0 rfl) ?_
  refine lv_iload_n C.1 C.2.1 dX4_finish_14 rfl (lv_at hl 3 rfl) ?_
  refine lv_icmp_ge (tgt := 66) C.1 C.2.1 dX4_finish_15 (by decide) (fun h => absurd h (by decide)) (fun _ => ?_)
  refine lv_iload_n C.1 C.2.1 dX4_finish_18 rfl (lv_at hl 4 rfl) ?_
  refine lv_if_eq (tgt := 43) C.1 C.2.1 dX4_finish_19 (by decide) (fun _ => ?_) (fun h => absurd (by decide) h)
  refine lv_aload_n C.1 C.2.1 dX4_finish_43 rfl (lv_at hl 2 rfl) ?_
  refine k_get (v := .ref a1) C hP 0 rfl rfl inlX4 2 (by decide) m_4_11 e0_2 dX4_finish_44 ?_
  refine lv_iload C.1 C.2.1 dX4_finish_47 (lv_at hl 0 rfl) ?_
  refine k_bld (v := 32) C hP 1 rfl (vin (by decide)) rfl dX4_finish_49 ?_
  refine lv_bipush (v := 32) C.1 C.2.1 dX4_finish_50 (by decide) ?_
  refine lv_icmp_eq (tgt := 60) C.1 C.2.1 dX4_finish_52 (by decide) (fun _ => ?_) (fun h => absurd (by decide) h)
  refine lv_iinc (v := 76) (lv' := [(4, .int 76), (3, .int 6), (0, .ref a0), (1, .int 120), (2, .int 0)]) C.1 C.2.1 dX4_finish_60 hl (k := 0) rfl (by decide) (by decide) rfl (fun ls hl => ?_)
  refine lv_goto (tgt := 5) C.1 C.2.1 dX4_finish_63 (by decide) ?_
  refine lv_iload C.1 C.2.1 dX4_finish_5 (lv_at hl 0 rfl) ?_
  refine lv_bipush (v := 120) C.1 C.2.1 dX4_finish_7 (by decide) ?_
  refine lv_icmp_ge (tgt := 66) C.1 C.2.1 dX4_finish_9 (by decide) (fun h => absurd h (by decide)) (fun _ => ?_)
  refine lv_iload C.1 C.2.1 dX4_finish_12 (lv_at hl 0 rfl) ?_
  refine lv_iload_n C.1 C.2.1 dX4_finish_14 rfl (lv_at hl 3 rfl) ?_
  refine lv_icmp_ge (tgt := 66) C.1 C.2.1 dX4_finish_15 (by decide) (fun h => absurd h (by decide)) (fun _ => ?_)
  refine lv_iload_n C.1 C.2.1 dX4_finish_18 rfl (lv_at hl 4 rfl) ?_
  refine lv_if_eq (tgt := 43) C.1 C.2.1 dX4_finish_19 (by decide) (fun _ => ?_) (fun h => absurd (by decide) h)
  refine lv_aload_n C.1 C.2.1 dX4_finish_43 rfl (lv_at hl 2 rfl) ?_
  refine k_get (v := .ref a1) C hP 0 rfl rfl inlX4 2 (by decide) m_4_11 e0_2 dX4_finish_44 ?_
  refine lv_iload C.1 C.2.1 dX4_finish_47 (lv_at hl 0 rfl) ?_
  refine k_bld (v := 32) C hP 1 rfl (vin (by decide)) rfl dX4_finish_49 ?_
  refine lv_bipush (v := 32) C.1 C.2.1 dX4_finish_50 (by decide) ?_
  refine lv_icmp_eq (tgt := 60) C.1 C.2.1 dX4_finish_52 (by decide) (fun _ => ?_) (fun h => absurd (by decide) h)
  refine lv_iinc (v := 77) (lv' := [(4, .int 77), (3, .int 6), (0, .ref a0), (1, .int 120), (2, .int 0)]) C.1 C.2.1 dX4_finish_60 hl (k := 0) rfl (by decide) (by decide) rfl (fun ls hl => ?_)
  refine lv_goto (tgt := 5) C.1 C.2.1 dX4_finish_63 (by decide) ?_
  refine lv_iload C.1 C.2.1 dX4_finish_5 (lv_at hl 0 rfl) ?_
  refine lv_bipush (v := 120) C.1 C.2.1 dX4_finish_7 (by decide) ?_
  refine lv_icmp_ge (tgt := 66) C.1 C.2.1 dX4_finish_9 (by decide) (fun h => absurd h (by decide)) (fun _ => ?_)
  refine lv_iload C.1 C.2.1 dX4_finish_12 (lv_at hl 0 rfl) ?_
  refine lv_iload_n C.1 C.2.1 dX4_finish_14 rfl (lv_at hl 3 rfl) ?_
  refine lv_icmp_ge (tgt := 66) C.1 C.2.1 dX4_finish_15 (by decide) (fun h => absurd h (by decide)) (fun _ => ?_)
  refine lv_iload_n C.1 C.2.1 dX4_finish_18 rfl (lv_at hl 4 rfl) ?_
  refine lv_if_eq (tgt := 43) C.1 C.2.1 dX4_finish_19 (by decide) (fun _ => ?_) (fun h => absurd (by decide) h)
  refine lv_aload_n C.1 C.2.1 dX4_finish_43 rfl (lv_at hl 2 rfl) ?_
  refine k_get (v := .ref a1) C hP 0 rfl rfl inlX4 2 (by decide) m_4_11 e0_2 dX4_finish_44 ?_
  refine lv_iload C.1 C.2.1 dX4_finish_47 (lv_at hl 0 rfl) ?_
  refine k_bld (v := 32) C hP 1 rfl (vin (by decide)) rfl dX4_finish_49 ?_
  refine lv_bipush (v := 32) C.1 C.2.1 dX4_finish_50 (by decide) ?_
  refine lv_icmp_eq (tgt := 60) C.1 C.2.1 dX4_finish_52 (by decide) (fun _ => ?_) (fun h => absurd (by decide) h)
  refine lv_iinc (v := 78) (lv' := [(4, .int 78), (3, .int 6), (0, .ref a0), (1, .int 120), (2, .int 0)]) C.1 C.2.1 dX4_finish_60 hl (k := 0) rfl (by decide) (by decide) rfl (fun ls hl => ?_)
  refine lv_goto (tgt := 5) C.1 C.2.1 dX4_finish_63 (by decide) ?_
  refine lv_iload C.1 C.2.1 dX4_finish_5 (lv_at hl 0 rfl) ?_
  refine lv_bipush (v := 120) C.1 C.2.1 dX4_finish_7 (by decide) ?_
  refine lv_icmp_ge (tgt := 66) C.1 C.2.1 dX4_finish_9 (by decide) (fun h => absurd h (by decide)) (fun _ => ?_)
  refine lv_iload C.1 C.2.1 dX4_finish_12 (lv_at hl 0 rfl) ?_
  refine lv_iload_n C.1 C.2.1 dX4_finish_14 rfl (lv_at hl 3 rfl) ?_
  refine lv_icmp_ge (tgt := 66) C.1 C.2.1 dX4_finish_15 (by decide) (fun h => absurd h (by decide)) (fun _ => ?_)
  refine lv_iload_n C.1 C.2.1 dX4_finish_18 rfl (lv_at hl 4 rfl) ?_
  refine lv_if_eq (tgt := 43) C.1 C.2.1 dX4_finish_19 (by decide) (fun _ => ?_) (fun h => absurd (by decide) h)
  refine lv_aload_n C.1 C.2.1 dX4_finish_43 rfl (lv_at hl 2 rfl) ?_
  refine k_get (v := .ref a1) C hP 0 rfl rfl inlX4 2 (by decide) m_4_11 e0_2 dX4_finish_44 ?_
  refine lv_iload C.1 C.2.1 dX4_finish_47 (lv_at hl 0 rfl) ?_
  refine k_bld (v := 32) C hP 1 rfl (vin (by decide)) rfl dX4_finish_49 ?_
  refine lv_bipush (v := 32) C.1 C.2.1 dX4_finish_50 (by decide) ?_
  refine lv_icmp_eq (tgt := 60) C.1 C.2.1 dX4_finish_52 (by decide) (fun _ => ?_) (fun h => absurd (by decide) h)
  refine lv_iinc (v := 79) (lv' := [(4, .int 79), (3, .int 6), (0, .ref a0), (1, .int 120), (2, .int 0)]) C.1 C.2.1 dX4_finish_60 hl (k := 0) rfl (by decide) (by decide) rfl (fun ls hl => ?_)
  refine lv_goto (tgt := 5) C.1 C.2.1 dX4_finish_63 (by decide) ?_
  refine lv_iload C.1 C.2.1 dX4_finish_5 (lv_at hl 0 rfl) ?_
  refine lv_bipush (v := 120) C.1 C.2.1 dX4_finish_7 (by decide) ?_
  refine lv_icmp_ge (tgt := 66) C.1 C.2.1 dX4_finish_9 (by decide) (fun h => absurd h (by decide)) (fun _ => ?_)
  refine lv_iload C.1 C.2.1 dX4_finish_12 (lv_at hl 0 rfl) ?_
  refine lv_iload_n C.1 C.2.1 dX4_finish_14 rfl (lv_at hl 3 rfl) ?_
  refine lv_icmp_ge (tgt := 66) C.1 C.2.1 dX4_finish_15 (by decide) (fun h => absurd h (by decide)) (fun _ => ?_)
  refine lv_iload_n C.1 C.2.1 dX4_finish_18 rfl (lv_at hl 4 rfl) ?_
  refine lv_if_eq (tgt := 43) C.1 C.2.1 dX4_finish_19 (by decide) (fun _ => ?_) (fun h => absurd (by decide) h)
  refine lv_aload_n C.1 C.2.1 dX4_finish_43 rfl (lv_at hl 2 rfl) ?_
  refine k_get (v := .ref a1) C hP 0 rfl rfl inlX4 2 (by decide) m_4_11 e0_2 dX4_finish_44 ?_
  refine lv_iload C.1 C.2.1 dX4_finish_47 (lv_at hl 0 rfl) ?_
  refine k_bld (v := 32) C hP 1 rfl (vin (by decide)) rfl dX4_finish_49 ?_
  refine lv_bipush (v := 32) C.1 C.2.1 dX4_finish_50 (by decide) ?_
  refine lv_icmp_eq (tgt := 60) C.1 C.2.1 dX4_finish_52 (by decide) (fun _ => ?_) (fun h => absurd (by decide) h)
  refine lv_iinc (v := 80) (lv' := [(4, .int 80), (3, .int 6), (0, .ref a0), (1, .int 120), (2, .int 0)]) C.1 C.2.1 dX4_finish_60 hl (k := 0) rfl (by decide) (by decide) rfl (fun ls hl => ?_)
  refine lv_goto (tgt := 5) C.1 C.2.1 dX4_finish_63 (by decide) ?_
  refine lv_iload C.1 C.2.1 dX4_finish_5 (lv_at hl 0 rfl) ?_
  refine lv_bipush (v := 120) C.1 C.2.1 dX4_finish_7 (by decide) ?_
  refine lv_icmp_ge (tgt := 66) C.1 C.2.1 dX4_finish_9 (by decide) (fun h => absurd h (by decide)) (fun _ => ?_)
  refine lv_iload C.1 C.2.1 dX4_finish_12 (lv_at hl 0 rfl) ?_
  refine lv_iload_n C.1 C.2.1 dX4_finish_14 rfl (lv_at hl 3 rfl) ?_
  refine lv_icmp_ge (tgt := 66) C.1 C.2.1 dX4_finish_15 (by decide) (fun h => absurd h (by decide)) (fun _ => ?_)
  refine lv_iload_n C.1 C.2.1 dX4_finish_18 rfl (lv_at hl 4 rfl) ?_
  refine lv_if_eq (tgt := 43) C.1 C.2.1 dX4_finish_19 (by decide) (fun _ => ?_) (fun h => absurd (by decide) h)
  refine lv_aload_n C.1 C.2.1 dX4_finish_43 rfl (lv_at hl 2 rfl) ?_
  refine k_get (v := .ref a1) C hP 0 rfl rfl inlX4 2 (by decide) m_4_11 e0_2 dX4_finish_44 ?_
  refine lv_iload C.1 C.2.1 dX4_finish_47 (lv_at hl 0 rfl) ?_
  refine k_bld (v := 32) C hP 1 rfl (vin (by decide)) rfl dX4_finish_49 ?_
  refine lv_bipush (v := 32) C.1 C.2.1 dX4_finish_50 (by decide) ?_
  refine lv_icmp_eq (tgt := 60) C.1 C.2.1 dX4_finish_52 (by decide) (fun _ => ?_) (fun h => absurd (by decide) h)
  refine lv_iinc (v := 81) (lv' := [(4, .int 81), (3, .int 6), (0, .ref a0), (1, .int 120), (2, .int 0)]) C.1 C.2.1 dX4_finish_60 hl (k := 0) rfl (by decide) (by decide) rfl (fun ls hl => ?_)
  refine lv_goto (tgt := 5) C.1 C.2.1 dX4_finish_63 (by decide) ?_
  refine lv_iload C.1 C.2.1 dX4_finish_5 (lv_at hl 0 rfl) ?_
  refine lv_bipush (v := 120) C.1 C.2.1 dX4_finish_7 (by decide) ?_
  refine lv_icmp_ge (tgt := 66) C.1 C.2.1 dX4_finish_9 (by decide) (fun h => absurd h (by decide)) (fun _ => ?_)
  refine lv_iload C.1 C.2.1 dX4_finish_12 (lv_at hl 0 rfl) ?_
  refine lv_iload_n C.1 C.2.1 dX4_finish_14 rfl (lv_at hl 3 rfl) ?_
  refine lv_icmp_ge (tgt := 66) C.1 C.2.1 dX4_finish_15 (by decide) (fun h => absurd h (by decide)) (fun _ => ?_)
  refine lv_iload_n C.1 C.2.1 dX4_finish_18 rfl (lv_at hl 4 rfl) ?_
  refine lv_if_eq (tgt := 43) C.1 C.2.1 dX4_finish_19 (by decide) (fun _ => ?_) (fun h => absurd (by decide) h)
  refine lv_aload_n C.1 C.2.1 dX4_finish_43 rfl (lv_at hl 2 rfl) ?_
  refine k_get (v := .ref a1) C hP 0 rfl rfl inlX4 2 (by decide) m_4_11 e0_2 dX4_finish_44 ?_
  refine lv_iload C.1 C.2.1 dX4_finish_47 (lv_at hl 0 rfl) ?_
  refine k_bld (v := 32) C hP 1 rfl (vin (by decide)) rfl dX4_finish_49 ?_
  refine lv_bipush (v := 32) C.1 C.2.1 dX4_finish_50 (by decide) ?_
  refine lv_icmp_eq (tgt := 60) C.1 C.2.1 dX4_finish_52 (by decide) (fun _ => ?_) (fun h => absurd (by decide) h)
  refine lv_iinc (v := 82) (lv' := [(4, .int 82), (3, .int 6), (0, .ref a0), (1, .int 120), (2, .int 0)]) C.1 C.2.1 dX4_finish_60 hl (k := 0) rfl (by decide) (by decide) rfl (fun ls hl => ?_)
  refine lv_goto (tgt := 5) C.1 C.2.1 dX4_finish_63 (by decide) ?_
  refine lv_iload C.1 C.2.1 dX4_finish_5 (lv_at hl 0 rfl) ?_
  refine lv_bipush (v := 120) C.1 C.2.1 dX4_finish_7 (by decide) ?_
  refine lv_icmp_ge (tgt := 66) C.1 C.2.1 dX4_finish_9 (by decide) (fun h => absurd h (by decide)) (fun _ => ?_)
  refine lv_iload C.1 C.2.1 dX4_finish_12 (lv_at hl 0 rfl) ?_
  refine lv_iload_n C.1 C.2.1 dX4_finish_14 rfl (lv_at hl 3 rfl) ?_
  refine lv_icmp_ge (tgt := 66) C.1 C.2.1 dX4_finish_15 (by decide) (fun h => absurd h (by decide)) (fun _ => ?_)
  refine lv_iload_n C.1 C.2.1 dX4_finish_18 rfl (lv_at hl 4 rfl) ?_
  refine lv_if_eq (tgt := 43) C.1 C.2.1 dX4_finish_19 (by decide) (fun _ => ?_) (fun h => absurd (by decide) h)
  refine lv_aload_n C.1 C.2.1 dX4_finish_43 rfl (lv_at hl 2 rfl) ?_
  refine k_get (v := .ref a1) C hP 0 rfl rfl inlX4 2 (by decide) m_4_11 e0_2 dX4_finish_44 ?_
  refine lv_iload C.1 C.2.1 dX4_finish_47 (lv_at hl 0 rfl) ?_
  refine k_bld (v := 32) C hP 1 rfl (vin (by decide)) rfl dX4_finish_49 ?_
  refine lv_bipush (v := 32) C.1 C.2.1 dX4_finish_50 (by decide) ?_
  refine lv_icmp_eq (tgt := 60) C.1 C.2.1 dX4_finish_52 (by decide) (fun _ => ?_) (fun h => absurd (by decide) h)
  refine lv_iinc (v := 83) (lv' := [(4, .int 83), (3, .int 6), (0, .ref a0), (1, .int 120), (2, .int 0)]) C.1 C.2.1 dX4_finish_60 hl (k := 0) rfl (by decide) (by decide) rfl (fun ls hl => ?_)
  refine lv_goto (tgt := 5) C.1 C.2.1 dX4_finish_63 (by decide) ?_
  refine lv_iload C.1 C.2.1 dX4_finish_5 (lv_at hl 0 rfl) ?_
  refine lv_bipush (v := 120) C.1 C.2.1 dX4_finish_7 (by decide) ?_
  refine lv_icmp_ge (tgt := 66) C.1 C.2.1 dX4_finish_9 (by decide) (fun h => absurd h (by decide)) (fun _ => ?_)
  refine lv_iload C.1 C.2.1 dX4_finish_12 (lv_at hl 0 rfl) ?_
  refine lv_iload_n C.1 C.2.1 dX4_finish_14 rfl (lv_at hl 3 rfl) ?_
  refine lv_icmp_ge (tgt := 66) C.1 C.2.1 dX4_finish_15 (by decide) (fun h => absurd h (by decide)) (fun _ => ?_)
  refine lv_iload_n C.1 C.2.1 dX4_finish_18 rfl (lv_at hl 4 rfl) ?_
  refine lv_if_eq (tgt := 43) C.1 C.2.1 dX4_finish_19 (by decide) (fun _ => ?_) (fun h => absurd (by decide) h)
  refine lv_aload_n C.1 C.2.1 dX4_finish_43 rfl (lv_at hl 2 rfl) ?_
  refine k_get (v := .ref a1) C hP 0 rfl rfl inlX4 2 (by decide) m_4_11 e0_2 dX4_finish_44 ?_
  refine lv_iload C.1 C.2.1 dX4_finish_47 (lv_at hl 0 rfl) ?_
  refine k_bld (v := 32) C hP 1 rfl (vin (by decide)) rfl dX4_finish_49 ?_
  refine lv_bipush (v := 32) C.1 C.2.1 dX4_finish_50 (by decide) ?_
  refine lv_icmp_eq (tgt := 60) C.1 C.2.1 dX4_finish_52 (by decide) (fun _ => ?_) (fun h => absurd (by decide) h)
  refine lv_iinc (v := 84) (lv' := [(4, .int 84), (3, .int 6), (0, .ref a0), (1, .int 120), (2, .int 0)]) C.1 C.2.1 dX4_finish_60 hl (k := 0) rfl (by decide) (by decide) rfl (fun ls hl => ?_)
  refine lv_goto (tgt := 5) C.1 C.2.1 dX4_finish_63 (by decide) ?_
  refine lv_iload C.1 C.2.1 dX4_finish_5 (lv_at hl 0 rfl) ?_
  refine lv_bipush (v := 120) C.1 C.2.1 dX4_finish_7 (by decide) ?_
  refine lv_icmp_ge (tgt := 66) C.1 C.2.1 dX4_finish_9 (by decide) (fun h => absurd h (by decide)) (fun _ => ?_)
  refine lv_iload C.1 C.2.1 dX4_finish_12 (lv_at hl 0 rfl) ?_
  refine lv_iload_n C.1 C.2.1 dX4_finish_14 rfl (lv_at hl 3 rfl) ?_
  refine lv_icmp_ge (tgt := 66) C.1 C.2.1 dX4_finish_15 (by decide) (fun h => absurd h (by decide)) (fun _ => ?_)
  refine lv_iload_n C.1 C.2.1 dX4_finish_18 rfl (lv_at hl 4 rfl) ?_
  refine lv_if_eq (tgt := 43) C.1 C.2.1 dX4_finish_19 (by decide) (fun _ => ?_) (fun h => absurd (by decide) h)
  refine lv_aload_n C.1 C.2.1 dX4_finish_43 rfl (lv_at hl 2 rfl) ?_
  refine k_get (v := .ref a1) C hP 0 rfl rfl inlX4 2 (by decide) m_4_11 e0_2 dX4_finish_44 ?_
  refine lv_iload C.1 C.2.1 dX4_finish_47 (lv_at hl 0 rfl) ?_
  refine k_bld (v := 32) C hP 1 rfl (vin (by decide)) rfl dX4_finish_49 ?_
  refine lv_bipush (v := 32) C.1 C.2.1 dX4_finish_50 (by decide) ?_
  refine lv_icmp_eq (tgt := 60) C.1 C.2.1 dX4_finish_52 (by decide) (fun _ => ?_) (fun h => absurd (by decide) h)
  refine lv_iinc (v := 85) (lv' := [(4, .int 85), (3, .int 6), (0, .ref a0), (1, .int 120), (2, .int 0)]) C.1 C.2.1 dX4_finish_60 hl (k := 0) rfl (by decide) (by decide) rfl (fun ls hl => ?_)
  refine lv_goto (tgt := 5) C.1 C.2.1 dX4_finish_63 (by decide) ?_
  refine lv_iload C.1 C.2.1 dX4_finish_5 (lv_at hl 0 rfl) ?_
  refine lv_bipush (v := 120) C.1 C.2.1 dX4_finish_7 (by decide) ?_
  refine lv_icmp_ge (tgt := 66) C.1 C.2.1 dX4_finish_9 (by decide) (fun h => absurd h (by decide)) (fun _ => ?_)
  refine lv_iload C.1 C.2.1 dX4_finish_12 (lv_at hl 0 rfl) ?_
  refine lv_iload_n C.1 C.2.1 dX4_finish_14 rfl (lv_at hl 3 rfl) ?_
  refine lv_icmp_ge (tgt := 66) C.1 C.2.1 dX4_finish_15 (by decide) (fun h => absurd h (by decide)) (fun _ => ?_)
  refine lv_iload_n C.1 C.2.1 dX4_finish_18 rfl (lv_at hl 4 rfl) ?_
  refine lv_if_eq (tgt := 43) C.1 C.2.1 dX4_finish_19 (by decide) (fun _ => ?_) (fun h => absurd (by decide) h)
  refine lv_aload_n C.1 C.2.1 dX4_finish_43 rfl (lv_at hl 2 rfl) ?_
  refine k_get (v := .ref a1) C hP 0 rfl rfl inlX4 2 (by decide) m_4_11 e0_2 dX4_finish_44 ?_
  refine lv_iload C.1 C.2.1 dX4_finish_47 (lv_at hl 0 rfl) ?_
  refine k_bld (v := 32) C hP 1 rfl (vin (by decide)) rfl dX4_finish_49 ?_
  refine lv_bipush (v := 32) C.1 C.2.1 dX4_finish_50 (by decide) ?_
  refine lv_icmp_eq (tgt := 60) C.1 C.2.1 dX4_finish_52 (by decide) (fun _ => ?_) (fun h => absurd (by decide) h)
  refine lv_iinc (v := 86) (lv' := [(4, .int 86), (3, .int 6), (0, .ref a0), (1, .int 120), (2, .int 0)]) C.1 C.2.1 dX4_finish_60 hl (k := 0) rfl (by decide) (by decide) rfl (fun ls hl => ?_)
  refine lv_goto (tgt := 5) C.1 C.2.1 dX4_finish_63 (by decide) ?_
  refine lv_iload C.1 C.2.1 dX4_finish_5 (lv_at hl 0 rfl) ?_
  refine lv_bipush (v := 120) C.1 C.2.1 dX4_finish_7 (by decide) ?_
  refine lv_icmp_ge (tgt := 66) C.1 C.2.1 dX4_finish_9 (by decide) (fun h => absurd h (by decide)) (fun _ => ?_)
  refine lv_iload C.1 C.2.1 dX4_finish_12 (lv_at hl 0 rfl) ?_
  refine lv_iload_n C.1 C.2.1 dX4_finish_14 rfl (lv_at hl 3 rfl) ?_
  refine lv_icmp_ge (tgt := 66) C.1 C.2.1 dX4_finish_15 (by decide) (fun h => absurd h (by decide)) (fun _ => ?_)
  refine lv_iload_n C.1 C.2.1 dX4_finish_18 rfl (lv_at hl 4 rfl) ?_
  refine lv_if_eq (tgt := 43) C.1 C.2.1 dX4_finish_19 (by decide) (fun _ => ?_) (fun h => absurd (by decide) h)
  refine lv_aload_n C.1 C.2.1 dX4_finish_43 rfl (lv_at hl 2 rfl) ?_
  refine k_get (v := .ref a1) C hP 0 rfl rfl inlX4 2 (by decide) m_4_11 e0_2 dX4_finish_44 ?_
  refine lv_iload C.1 C.2.1 dX4_finish_47 (lv_at hl 0 rfl) ?_
  refine k_bld (v := 32) C hP 1 rfl (vin (by decide)) rfl dX4_finish_49 ?_
  refine lv_bipush (v := 32) C.1 C.2.1 dX4_finish_50 (by decide) ?_
  refine lv_icmp_eq (tgt := 60) C.1 C.2.1 dX4_finish_52 (by decide) (fun _ => ?_) (fun h => absurd (by decide) h)
  refine lv_iinc (v := 87) (lv' := [(4, .int 87), (3, .int 6), (0, .ref a0), (1, .int 120), (2, .int 0)]) C.1 C.2.1 dX4_finish_60 hl (k := 0) rfl (by decide) (by decide) rfl (fun ls hl => ?_)
  refine lv_goto (tgt := 5) C.1 C.2.1 dX4_finish_63 (by decide) ?_
  refine lv_iload C.1 C.2.1 dX4_finish_5 (lv_at hl 0 rfl) ?_
  refine lv_bipush (v := 120) C.1 C.2.1 dX4_finish_7 (by decide) ?_
  refine lv_icmp_ge (tgt := 66) C.1 C.2.1 dX4_finish_9 (by decide) (fun h => absurd h (by decide)) (fun _ => ?_)
  refine lv_iload C.1 C.2.1 dX4_finish_12 (lv_at hl 0 rfl) ?_
  refine lv_iload_n C.1 C.2.1 dX4_finish_14 rfl (lv_at hl 3 rfl) ?_
  refine lv_icmp_ge (tgt := 66) C.1 C.2.1 dX4_finish_15 (by decide) (fun h => absurd h (by decide)) (fun _ => ?_)
  refine lv_iload_n C.1 C.2.1 dX4_finish_18 rfl (lv_at hl 4 rfl) ?_
  refine lv_if_eq (tgt := 43) C.1 C.2.1 dX4_finish_19 (by decide) (fun _ => ?_) (fun h => absurd (by decide) h)
  refine lv_aload_n C.1 C.2.1 dX4_finish_43 rfl (lv_at hl 2 rfl) ?_
  refine k_get (v := .ref a1) C hP 0 rfl rfl inlX4 2 (by decide) m_4_11 e0_2 dX4_finish_44 ?_
  refine lv_iload C.1 C.2.1 dX4_finish_47 (lv_at hl 0 rfl) ?_
  refine k_bld (v := 32) C hP 1 rfl (vin (by decide)) rfl dX4_finish_49 ?_
  refine lv_bipush (v := 32) C.1 C.2.1 dX4_finish_50 (by decide) ?_
  refine lv_icmp_eq (tgt := 60) C.1 C.2.1 dX4_finish_52 (by decide) (fun _ => ?_) (fun h => absurd (by decide) h)
  refine lv_iinc (v := 88) (lv' := [(4, .int 88), (3, .int 6), (0, .ref a0), (1, .int 120), (2, .int 0)]) C.1 C.2.1 dX4_finish_60 hl (k := 0) rfl (by decide) (by decide) rfl (fun ls hl => ?_)
  refine lv_goto (tgt := 5) C.1 C.2.1 dX4_finish_63 (by decide) ?_
  refine lv_iload C.1 C.2.1 dX4_finish_5 (lv_at hl 0 rfl) ?_
  refine lv_bipush (v := 120) C.1 C.2.1 dX4_finish_7 (by decide) ?_
  refine lv_icmp_ge (tgt := 66) C.1 C.2.1 dX4_finish_9 (by decide) (fun h => absurd h (by decide)) (fun _ => ?_)
  refine lv_iload C.1 C.2.1 dX4_finish_12 (lv_at hl 0 rfl) ?_
  refine lv_iload_n C.1 C.2.1 dX4_finish_14 rfl (lv_at hl 3 rfl) ?_
  refine lv_icmp_ge (tgt := 66) C.1 C.2.1 dX4_finish_15 (by decide) (fun h => absurd h (by decide)) (fun _ => ?_)
  refine lv_iload_n C.1 C.2.1 dX4_finish_18 rfl (lv_at hl 4 rfl) ?_
  refine lv_if_eq (tgt := 43) C.1 C.2.1 dX4_finish_19 (by decide) (fun _ => ?_) (fun h => absurd (by decide) h)
  refine lv_aload_n C.1 C.2.1 dX4_finish_43 rfl (lv_at hl 2 rfl) ?_
  refine k_get (v := .ref a1) C hP 0 rfl rfl inlX4 2 (by decide) m_4_11 e0_2 dX4_finish_44 ?_
  refine lv_iload C.1 C.2.1 dX4_finish_47 (lv_at hl 0 rfl) ?_
  refine k_bld (v := 32) C hP 1 rfl (vin (by decide)) rfl dX4_finish_49 ?_
  refine lv_bipush (v := 32) C.1 C.2.1 dX4_finish_50 (by decide) ?_
  refine lv_icmp_eq (tgt := 60) C.1 C.2.1 dX4_finish_52 (by decide) (fun _ => ?_) (fun h => absurd (by decide) h)
  refine lv_iinc (v := 89) (lv' := [(4, .int 89), (3, .int 6), (0, .ref a0), (1, .int 120), (2, .int 0)]) C.1 C.2.1 dX4_finish_60 hl (k := 0) rfl (by decide) (by decide) rfl (fun ls hl => ?_)
  refine lv_goto (tgt := 5) C.1 C.2.1 dX4_finish_63 (by decide) ?_
  refine lv_iload C.1 C.2.1 dX4_finish_5 (lv_at hl 0 rfl) ?_
  refine lv_bipush (v := 120) C.1 C.2.1 dX4_finish_7 (by decide) ?_
  refine lv_icmp_ge (tgt := 66) C.1 C.2.1 dX4_finish_9 (by decide) (fun h => absurd h (by decide)) (fun _ => ?_)
  refine lv_iload C.1 C.2.1 dX4_finish_12 (lv_at hl 0 rfl) ?_
  refine lv_iload_n C.1 C.2.1 dX4_finish_14 rfl (lv_at hl 3 rfl) ?_
  refine lv_icmp_ge (tgt := 66) C.1 C.2.1 dX4_finish_15 (by decide) (fun h => absurd h (by decide)) (fun _ => ?_)
  refine lv_iload_n C.1 C.2.1 dX4_finish_18 rfl (lv_at hl 4 rfl) ?_
  refine lv_if_eq (tgt := 43) C.1 C.2.1 dX4_finish_19 (by decide) (fun _ => ?_) (fun h => absurd (by decide) h)
  refine lv_aload_n C.1 C.2.1 dX4_finish_43 rfl (lv_at hl 2 rfl) ?_
  refine k_get (v := .ref a1) C hP 0 rfl rfl inlX4 2 (by decide) m_4_11 e0_2 dX4_finish_44 ?_
  refine lv_iload C.1 C.2.1 dX4_finish_47 (lv_at hl 0 rfl) ?_
  refine k_bld (v := 32) C hP 1 rfl (vin (by decide)) rfl dX4_finish_49 ?_
  refine lv_bipush (v := 32) C.1 C.2.1 dX4_finish_50 (by decide) ?_
  refine lv_icmp_eq (tgt := 60) C.1 C.2.1 dX4_finish_52 (by decide) (fun _ => ?_) (fun h => absurd (by decide) h)
  refine lv_iinc (v := 90) (lv' := [(4, .int 90), (3, .int 6), (0, .ref a0), (1, .int 120), (2, .int 0)]) C.1 C.2.1 dX4_finish_60 hl (k := 0) rfl (by decide) (by decide) rfl (fun ls hl => ?_)
  refine lv_goto (tgt := 5) C.1 C.2.1 dX4_finish_63 (by decide) ?_
  refine lv_iload C.1 C.2.1 dX4_finish_5 (lv_at hl 0 rfl) ?_
  refine lv_bipush (v := 120) C.1 C.2.1 dX4_finish_7 (by decide) ?_
  refine lv_icmp_ge (tgt := 66) C.1 C.2.1 dX4_finish_9 (by decide) (fun h => absurd h (by decide)) (fun _ => ?_)
  refine lv_iload C.1 C.2.1 dX4_finish_12 (lv_at hl 0 rfl) ?_
  refine lv_iload_n C.1 C.2.1 dX4_finish_14 rfl (lv_at hl 3 rfl) ?_
  refine lv_icmp_ge (tgt := 66) C.1 C.2.1 dX4_finish_15 (by decide) (fun h => absurd h (by decide)) (fun _ => ?_)
  refine lv_iload_n C.1 C.2.1 dX4_finish_18 rfl (lv_at hl 4 rfl) ?_
  refine lv_if_eq (tgt := 43) C.1 C.2.1 dX4_finish_19 (by decide) (fun _ => ?_) (fun h => absurd (by decide) h)
  refine lv_aload_n C.1 C.2.1 dX4_finish_43 rfl (lv_at hl 2 rfl) ?_
  refine k_get (v := .ref a1) C hP 0 rfl rfl inlX4 2 (by decide) m_4_11 e0_2 dX4_finish_44 ?_
  refine lv_iload C.1 C.2.1 dX4_finish_47 (lv_at hl 0 rfl) ?_
  refine k_bld (v := 32) C hP 1 rfl (vin (by decide)) rfl dX4_finish_49 ?_
  refine lv_bipush (v := 32) C.1 C.2.1 dX4_finish_50 (by decide) ?_
  refine lv_icmp_eq (tgt := 60) C.1 C.2.1 dX4_finish_52 (by decide) (fun _ => ?_) (fun h => absurd (by decide) h)
  refine lv_iinc (v := 91) (lv' := [(4, .int 91), (3, .int 6), (0, .ref a0), (1, .int 120), (2, .int 0)]) C.1 C.2.1 dX4_finish_60 hl (k := 0) rfl (by decide) (by decide) rfl (fun ls hl => ?_)
  refine lv_goto (tgt := 5) C.1 C.2.1 dX4_finish_63 (by decide) ?_
  refine lv_iload C.1 C.2.1 dX4_finish_5 (lv_at hl 0 rfl) ?_
  refine lv_bipush (v := 120) C.1 C.2.1 dX4_finish_7 (by decide) ?_
  refine lv_icmp_ge (tgt := 66) C.1 C.2.1 dX4_finish_9 (by decide) (fun h => absurd h (by decide)) (fun _ => ?_)
  refine lv_iload C.1 C.2.1 dX4_finish_12 (lv_at hl 0 rfl) ?_
  refine lv_iload_n C.1 C.2.1 dX4_finish_14 rfl (lv_at hl 3 rfl) ?_
  refine lv_icmp_ge (tgt := 66) C.1 C.2.1 dX4_finish_15 (by decide) (fun h => absurd h (by decide)) (fun _ => ?_)
  refine lv_iload_n C.1 C.2.1 dX4_finish_18 rfl (lv_at hl 4 rfl) ?_
  refine lv_if_eq (tgt := 43) C.1 C.2.1 dX4_finish_19 (by decide) (fun _ => ?_) (fun h => absurd (by decide) h)
  refine lv_aload_n C.1 C.2.1 dX4_finish_43 rfl (lv_at hl 2 rfl) ?_
  refine k_get (v := .ref a1) C hP 0 rfl rfl inlX4 2 (by decide) m_4_11 e0_2 dX4_finish_44 ?_
  refine lv_iload C.1 C.2.1 dX4_finish_47 (lv_at hl 0 rfl) ?_
  refine k_bld (v := 32) C hP 1 rfl (vin (by decide)) rfl dX4_finish_49 ?_
  refine lv_bipush (v := 32) C.1 C.2.1 dX4_finish_50 (by decide) ?_
  refine lv_icmp_eq (tgt := 60) C.1 C.2.1 dX4_finish_52 (by decide) (fun _ => ?_) (fun h => absurd (by decide) h)
  refine lv_iinc (v := 92) (lv' := [(4, .int 92), (3, .int 6), (0, .ref a0), (1, .int 120), (2, .int 0)]) C.1 C.2.1 dX4_finish_60 hl (k := 0) rfl (by decide) (by decide) rfl (fun ls hl => ?_)
  refine lv_goto (tgt := 5) C.1 C.2.1 dX4_finish_63 (by decide) ?_
  refine lv_iload C.1 C.2.1 dX4_finish_5 (lv_at hl 0 rfl) ?_
  refine lv_bipush (v := 120) C.1 C.2.1 dX4_finish_7 (by decide) ?_
  refine lv_icmp_ge (tgt := 66) C.1 C.2.1 dX4_finish_9 (by decide) (fun h => absurd h (by decide)) (fun _ => ?_)
  refine lv_iload C.1 C.2.1 dX4_finish_12 (lv_at hl 0 rfl) ?_
  refine lv_iload_n C.1 C.2.1 dX4_finish_14 rfl (lv_at hl 3 rfl) ?_
  refine lv_icmp_ge (tgt := 66) C.1 C.2.1 dX4_finish_15 (by decide) (fun h => absurd h (by decide)) (fun _ => ?_)
  refine lv_iload_n C.1 C.2.1 dX4_finish_18 rfl (lv_at hl 4 rfl) ?_
  refine lv_if_eq (tgt := 43) C.1 C.2.1 dX4_finish_19 (by decide) (fun _ => ?_) (fun h => absurd (by decide) h)
  refine lv_aload_n C.1 C.2.1 dX4_finish_43 rfl (lv_at hl 2 rfl) ?_
  refine k_get (v := .ref a1) C hP 0 rfl rfl inlX4 2 (by decide) m_4_11 e0_2 dX4_finish_44 ?_
  refine lv_iload C.1 C.2.1 dX4_finish_47 (lv_at hl 0 rfl) ?_
  refine k_bld (v := 32) C hP 1 rfl (vin (by decide)) rfl dX4_finish_49 ?_
  refine lv_bipush (v := 32) C.1 C.2.1 dX4_finish_50 (by decide) ?_
  refine lv_icmp_eq (tgt := 60) C.1 C.2.1 dX4_finish_52 (by decide) (fun _ => ?_) (fun h => absurd (by decide) h)
  refine lv_iinc (v := 93) (lv' := [(4, .int 93), (3, .int 6), (0, .ref a0), (1, .int 120), (2, .int 0)]) C.1 C.2.1 dX4_finish_60 hl (k := 0) rfl (by decide) (by decide) rfl (fun ls hl => ?_)
  refine lv_goto (tgt := 5) C.1 C.2.1 dX4_finish_63 (by decide) ?_
  refine lv_iload C.1 C.2.1 dX4_finish_5 (lv_at hl 0 rfl) ?_
  refine lv_bipush (v := 120) C.1 C.2.1 dX4_finish_7 (by decide) ?_
  refine lv_icmp_ge (tgt := 66) C.1 C.2.1 dX4_finish_9 (by decide) (fun h => absurd h (by decide)) (fun _ => ?_)
  refine lv_iload C.1 C.2.1 dX4_finish_12 (lv_at hl 0 rfl) ?_
  refine lv_iload_n C.1 C.2.1 dX4_finish_14 rfl (lv_at hl 3 rfl) ?_
  refine lv_icmp_ge (tgt := 66) C.1 C.2.1 dX4_finish_15 (by decide) (fun h => absurd h (by decide)) (fun _ => ?_)
  refine lv_iload_n C.1 C.2.1 dX4_finish_18 rfl (lv_at hl 4 rfl) ?_
  refine lv_if_eq (tgt := 43) C.1 C.2.1 dX4_finish_19 (by decide) (fun _ => ?_) (fun h => absurd (by decide) h)
  refine lv_aload_n C.1 C.2.1 dX4_finish_43 rfl (lv_at hl 2 rfl) ?_
  refine k_get (v := .ref a1) C hP 0 rfl rfl inlX4 2 (by decide) m_4_11 e0_2 dX4_finish_44 ?_
  refine lv_iload C.1 C.2.1 dX4_finish_47 (lv_at hl 0 rfl) ?_
  refine k_bld (v := 32) C hP 1 rfl (vin (by decide)) rfl dX4_finish_49 ?_
  refine lv_bipush (v := 32) C.1 C.2.1 dX4_finish_50 (by decide) ?_
  refine lv_icmp_eq (tgt := 60) C.1 C.2.1 dX4_finish_52 (by decide) (fun _ => ?_) (fun h => absurd (by decide) h)
  refine lv_iinc (v := 94) (lv' := [(4, .int 94), (3, .int 6), (0, .ref a0), (1, .int 120), (2, .int 0)]) C.1 C.2.1 dX4_finish_60 hl (k := 0) rfl (by decide) (by decide) rfl (fun ls hl => ?_)
  refine lv_goto (tgt := 5) C.1 C.2.1 dX4_finish_63 (by decide) ?_
  refine lv_iload C.1 C.2.1 dX4_finish_5 (lv_at hl 0 rfl) ?_
  refine lv_bipush (v := 120) C.1 C.2.1 dX4_finish_7 (by decide) ?_
  refine lv_icmp_ge (tgt := 66) C.1 C.2.1 dX4_finish_9 (by decide) (fun h => absurd h (by decide)) (fun _ => ?_)
  refine lv_iload C.1 C.2.1 dX4_finish_12 (lv_at hl 0 rfl) ?_
  refine lv_iload_n C.1 C.2.1 dX4_finish_14 rfl (lv_at hl 3 rfl) ?_
  refine lv_icmp_ge (tgt := 66) C.1 C.2.1 dX4_finish_15 (by decide) (fun h => absurd h (by decide)) (fun _ => ?_)
  refine lv_iload_n C.1 C.2.1 dX4_finish_18 rfl (lv_at hl 4 rfl) ?_
  refine lv_if_eq (tgt := 43) C.1 C.2.1 dX4_finish_19 (by decide) (fun _ => ?_) (fun h => absurd (by decide) h)
  refine lv_aload_n C.1 C.2.1 dX4_finish_43 rfl (lv_at hl 2 rfl) ?_
  refine k_get (v := .ref a1) C hP 0 rfl rfl inlX4 2 (by decide) m_4_11 e0_2 dX4_finish_44 ?_
  refine lv_iload C.1 C.2.1 dX4_finish_47 (lv_at hl 0 rfl) ?_
  refine k_bld (v := 32) C hP 1 rfl (vin (by decide)) rfl dX4_finish_49 ?_
  refine lv_bipush (v := 32) C.1 C.2.1 dX4_finish_50 (by decide) ?_
  refine lv_icmp_eq (tgt := 60) C.1 C.2.1 dX4_finish_52 (by decide) (fun _ => ?_) (fun h => absurd (by decide) h)
  refine lv_iinc (v := 95) (lv' := [(4, .int 95), (3, .int 6), (0, .ref a0), (1, .int 120), (2, .int 0)]) C.1 C.2.1 dX4_finish_60 hl (k := 0) rfl (by decide) (by decide) rfl (fun ls hl => ?_)
  refine lv_goto (tgt := 5) C.1 C.2.1 dX4_finish_63 (by decide) ?_
  refine lv_iload C.1 C.2.1 dX4_finish_5 (lv_at hl 0 rfl) ?_
  refine lv_bipush (v := 120) C.1 C.2.1 dX4_finish_7 (by decide) ?_
  refine lv_icmp_ge (tgt := 66) C.1 C.2.1 dX4_finish_9 (by decide) (fun h => absurd h (by decide)) (fun _ => ?_)
  refine lv_iload C.1 C.2.1 dX4_finish_12 (lv_at hl 0 rfl) ?_
  refine lv_iload_n C.1 C.2.1 dX4_finish_14 rfl (lv_at hl 3 rfl) ?_
  refine lv_icmp_ge (tgt := 66) C.1 C.2.1 dX4_finish_15 (by decide) (fun h => absurd h (by decide)) (fun _ => ?_)
  refine lv_iload_n C.1 C.2.1 dX4_finish_18 rfl (lv_at hl 4 rfl) ?_
  refine lv_if_eq (tgt := 43) C.1 C.2.1 dX4_finish_19 (by decide) (fun _ => ?_) (fun h => absurd (by decide) h)
  refine lv_aload_n C.1 C.2.1 dX4_finish_43 rfl (lv_at hl 2 rfl) ?_
  refine k_get (v := .ref a1) C hP 0 rfl rfl inlX4 2 (by decide) m_4_11 e0_2 dX4_finish_44 ?_
  refine lv_iload C.1 C.2.1 dX4_finish_47 (lv_at hl 0 rfl) ?_
  refine k_bld (v := 32) C hP 1 rfl (vin (by decide)) rfl dX4_finish_49 ?_
  refine lv_bipush (v := 32) C.1 C.2.1 dX4_finish_50 (by decide) ?_
  refine lv_icmp_eq (tgt := 60) C.1 C.2.1 dX4_finish_52 (by decide) (fun _ => ?_) (fun h => absurd (by decide) h)
  refine lv_iinc (v := 96) (lv' := [(4, .int 96), (3, .int 6), (0, .ref a0), (1, .int 120), (2, .int 0)]) C.1 C.2.1 dX4_finish_60 hl (k := 0) rfl (by decide) (by decide) rfl (fun ls hl => ?_)
  refine lv_goto (tgt := 5) C.1 C.2.1 dX4_finish_63 (by decide) ?_
  refine lv_iload C.1 C.2.1 dX4_finish_5 (lv_at hl 0 rfl) ?_
  refine lv_bipush (v := 120) C.1 C.2.1 dX4_finish_7 (by decide) ?_
  refine lv_icmp_ge (tgt := 66) C.1 C.2.1 dX4_finish_9 (by decide) (fun h => absurd h (by decide)) (fun _ => ?_)
  refine lv_iload C.1 C.2.1 dX4_finish_12 (lv_at hl 0 rfl) ?_
  refine lv_iload_n C.1 C.2.1 dX4_finish_14 rfl (lv_at hl 3 rfl) ?_
  refine lv_icmp_ge (tgt := 66) C.1 C.2.1 dX4_finish_15 (by decide) (fun h => absurd h (by decide)) (fun _ => ?_)
  refine lv_iload_n C.1 C.2.1 dX4_finish_18 rfl (lv_at hl 4 rfl) ?_
  refine lv_if_eq (tgt := 43) C.1 C.2.1 dX4_finish_19 (by decide) (fun _ => ?_) (fun h => absurd (by decide) h)
  refine lv_aload_n C.1 C.2.1 dX4_finish_43 rfl (lv_at hl 2 rfl) ?_
  refine k_get (v := .ref a1) C hP 0 rfl rfl inlX4 2 (by decide) m_4_11 e0_2 dX4_finish_44 ?_
  refine lv_iload C.1 C.2.1 dX4_finish_47 (lv_at hl 0 rfl) ?_
  refine k_bld (v := 32) C hP 1 rfl (vin (by decide)) rfl dX4_finish_49 ?_
  refine lv_bipush (v := 32) C.1 C.2.1 dX4_finish_50 (by decide) ?_
  refine lv_icmp_eq (tgt := 60) C.1 C.2.1 dX4_finish_52 (by decide) (fun _ => ?_) (fun h => absurd (by decide) h)
  refine lv_iinc (v := 97) (lv' := [(4, .int 97), (3, .int 6), (0, .ref a0), (1, .int 120), (2, .int 0)]) C.1 C.2.1 dX4_finish_60 hl (k := 0) rfl (by decide) (by decide) rfl (fun ls hl => ?_)
  refine lv_goto (tgt := 5) C.1 C.2.1 dX4_finish_63 (by decide) ?_
  refine lv_iload C.1 C.2.1 dX4_finish_5 (lv_at hl 0 rfl) ?_
  refine lv_bipush (v := 120) C.1 C.2.1 dX4_finish_7 (by decide) ?_
  refine lv_icmp_ge (tgt := 66) C.1 C.2.1 dX4_finish_9 (by decide) (fun h => absurd h (by decide)) (fun _ => ?_)
  refine lv_iload C.1 C.2.1 dX4_finish_12 (lv_at hl 0 rfl) ?_
  refine lv_iload_n C.1 C.2.1 dX4_finish_14 rfl (lv_at hl 3 rfl) ?_
  refine lv_icmp_ge (tgt := 66) C.1 C.2.1 dX4_finish_15 (by decide) (fun h => absurd h (by decide)) (fun _ => ?_)
  refine lv_iload_n C.1 C.2.1 dX4_finish_18 rfl (lv_at hl 4 rfl) ?_
  refine lv_if_eq (tgt := 43) C.1 C.2.1 dX4_finish_19 (by decide) (fun _ => ?_) (fun h => absurd (by decide) h)
  refine lv_aload_n C.1 C.2.1 dX4_finish_43 rfl (lv_at hl 2 rfl) ?_
  refine k_get (v := .ref a1) C hP 0 rfl rfl inlX4 2 (by decide) m_4_11 e0_2 dX4_finish_44 ?_
  refine lv_iload C.1 C.2.1 dX4_finish_47 (lv_at hl 0 rfl) ?_
  refine k_bld (v := 32) C hP 1 rfl (vin (by decide)) rfl dX4_finish_49 ?_
  refine lv_bipush (v := 32) C.1 C.2.1 dX4_finish_50 (by decide) ?_
  refine lv_icmp_eq (tgt := 60) C.1 C.2.1 dX4_finish_52 (by decide) (fun _ => ?_) (fun h => absurd (by decide) h)
  refine lv_iinc (v := 98) (lv' := [(4, .int 98), (3, .int 6), (0, .ref a0), (1, .int 120), (2, .int 0)]) C.1 C.2.1 dX4_finish_60 hl (k := 0) rfl (by decide) (by decide) rfl (fun ls hl => ?_)
  refine lv_goto (tgt := 5) C.1 C.2.1 dX4_finish_63 (by decide) ?_
  refine lv_iload C.1 C.2.1 dX4_finish_5 (lv_at hl 0 rfl) ?_
  refine lv_bipush (v := 120) C.1 C.2.1 dX4_finish_7 (by decide) ?_
  refine lv_icmp_ge (tgt := 66) C.1 C.2.1 dX4_finish_9 (by decide) (fun h => absurd h (by decide)) (fun _ => ?_)
  refine lv_iload C.1 C.2.1 dX4_finish_12 (lv_at hl 0 rfl) ?_
  refine lv_iload_n C.1 C.2.1 dX4_finish_14 rfl (lv_at hl 3 rfl) ?_
  refine lv_icmp_ge (tgt := 66) C.1 C.2.1 dX4_finish_15 (by decide) (fun h => absurd h (by decide)) (fun _ => ?_)
  refine lv_iload_n C.1 C.2.1 dX4_finish_18 rfl (lv_at hl 4 rfl) ?_
  refine lv_if_eq (tgt := 43) C.1 C.2.1 dX4_finish_19 (by decide) (fun _ => ?_) (fun h => absurd (by decide) h)
  refine lv_aload_n C.1 C.2.1 dX4_finish_43 rfl (lv_at hl 2 rfl) ?_
  refine k_get (v := .ref a1) C hP 0 rfl rfl inlX4 2 (by decide) m_4_11 e0_2 dX4_finish_44 ?_
  refine lv_iload C.1 C.2.1 dX4_finish_47 (lv_at hl 0 rfl) ?_
  refine k_bld (v := 32) C hP 1 rfl (vin (by decide)) rfl dX4_finish_49 ?_
  refine lv_bipush (v := 32) C.1 C.2.1 dX4_finish_50 (by decide) ?_
  refine lv_icmp_eq (tgt := 60) C.1 C.2.1 dX4_finish_52 (by decide) (fun _ => ?_) (fun h => absurd (by decide) h)
  refine lv_iinc (v := 99) (lv' := [(4, .int 99), (3, .int 6), (0, .ref a0), (1, .int 120), (2, .int 0)]) C.1 C.2.1 dX4_finish_60 hl (k := 0) rfl (by decide) (by decide) rfl (fun ls hl => ?_)
  refine lv_goto (tgt := 5) C.1 C.2.1 dX4_finish_63 (by decide) ?_
  refine lv_iload C.1 C.2.1 dX4_finish_5 (lv_at hl 0 rfl) ?_
  refine lv_bipush (v := 120) C.1 C.2.1 dX4_finish_7 (by decide) ?_
  refine lv_icmp_ge (tgt := 66) C.1 C.2.1 dX4_finish_9 (by decide) (fun h => absurd h (by decide)) (fun _ => ?_)
  refine lv_iload C.1 C.2.1 dX4_finish_12 (lv_at hl 0 rfl) ?_
  refine lv_iload_n C.1 C.2.1 dX4_finish_14 rfl (lv_at hl 3 rfl) ?_
  refine lv_icmp_ge (tgt := 66) C.1 C.2.1 dX4_finish_15 (by decide) (fun h => absurd h (by decide)) (fun _ => ?_)
  refine lv_iload_n C.1 C.2.1 dX4_finish_18 rfl (lv_at hl 4 rfl) ?_
  refine lv_if_eq (tgt := 43) C.1 C.2.1 dX4_finish_19 (by decide) (fun _ => ?_) (fun h => absurd (by decide) h)
  refine lv_aload_n C.1 C.2.1 dX4_finish_43 rfl (lv_at hl 2 rfl) ?_
  refine k_get (v := .ref a1) C hP 0 rfl rfl inlX4 2 (by decide) m_4_11 e0_2 dX4_finish_44 ?_
  refine lv_iload C.1 C.2.1 dX4_finish_47 (lv_at hl 0 rfl) ?_
  refine k_bld (v := 32) C hP 1 rfl (vin (by decide)) rfl dX4_finish_49 ?_
  refine lv_bipush (v := 32) C.1 C.2.1 dX4_finish_50 (by decide) ?_
  refine lv_icmp_eq (tgt := 60) C.1 C.2.1 dX4_finish_52 (by decide) (fun _ => ?_) (fun h => absurd (by decide) h)
  refine lv_iinc (v := 100) (lv' := [(4, .int 100), (3, .int 6), (0, .ref a0), (1, .int 120), (2, .int 0)]) C.1 C.2.1 dX4_finish_60 hl (k := 0) rfl (by decide) (by decide) rfl (fun ls hl => ?_)
  refine lv_goto (tgt := 5) C.1 C.2.1 dX4_finish_63 (by decide) ?_
  refine lv_iload C.1 C.2.1 dX4_finish_5 (lv_at hl 0 rfl) ?_
  refine lv_bipush (v := 120) C.1 C.2.1 dX4_finish_7 (by decide) ?_
  refine lv_icmp_ge (tgt := 66) C.1 C.2.1 dX4_finish_9 (by decide) (fun h => absurd h (by decide)) (fun _ => ?_)
  refine lv_iload C.1 C.2.1 dX4_finish_12 (lv_at hl 0 rfl) ?_
  refine lv_iload_n C.1 C.2.1 dX4_finish_14 rfl (lv_at hl 3 rfl) ?_
  refine lv_icmp_ge (tgt := 66) C.1 C.2.1 dX4_finish_15 (by decide) (fun h => absurd h (by decide)) (fun _ => ?_)
  refine lv_iload_n C.1 C.2.1 dX4_finish_18 rfl (lv_at hl 4 rfl) ?_
  refine lv_if_eq (tgt := 43) C.1 C.2.1 dX4_finish_19 (by decide) (fun _ => ?_) (fun h => absurd (by decide) h)
  refine lv_aload_n C.1 C.2.1 dX4_finish_43 rfl (lv_at hl 2 rfl) ?_
  refine k_get (v := .ref a1) C hP 0 rfl rfl inlX4 2 (by decide) m_4_11 e0_2 dX4_finish_44 ?_
  refine lv_iload C.1 C.2.1 dX4_finish_47 (lv_at hl 0 rfl) ?_
  refine k_bld (v := 32) C hP 1 rfl (vin (by decide)) rfl dX4_finish_49 ?_
  refine lv_bipush (v := 32) C.1 C.2.1 dX4_finish_50 (by decide) ?_
  refine lv_icmp_eq (tgt := 60) C.1 C.2.1 dX4_finish_52 (by decide) (fun _ => ?_) (fun h => absurd (by decide) h)
  refine lv_iinc (v := 101) (lv' := [(4, .int 101), (3, .int 6), (0, .ref a0), (1, .int 120), (2, .int 0)]) C.1 C.2.1 dX4_finish_60 hl (k := 0) rfl (by decide) (by decide) rfl (fun ls hl => ?_)
  refine lv_goto (tgt := 5) C.1 C.2.1 dX4_finish_63 (by decide) ?_
  refine lv_iload C.1 C.2.1 dX4_finish_5 (lv_at hl 0 rfl) ?_
  refine lv_bipush (v := 120) C.1 C.2.1 dX4_finish_7 (by decide) ?_
  refine lv_icmp_ge (tgt := 66) C.1 C.2.1 dX4_finish_9 (by decide) (fun h => absurd h (by decide)) (fun _ => ?_)
  refine lv_iload C.1 C.2.1 dX4_finish_12 (lv_at hl 0 rfl) ?_
  refine lv_iload_n C.1 C.2.1 dX4_finish_14 rfl (lv_at hl 3 rfl) ?_
  refine lv_icmp_ge (tgt := 66) C.1 C.2.1 dX4_finish_15 (by decide) (fun h => absurd h (by decide)) (fun _ => ?_)
  refine lv_iload_n C.1 C.2.1 dX4_finish_18 rfl (lv_at hl 4 rfl) ?_
  refine lv_if_eq (tgt := 43) C.1 C.2.1 dX4_finish_19 (by decide) (fun _ => ?_) (fun h => absurd (by decide) h)
  refine lv_aload_n C.1 C.2.1 dX4_finish_43 rfl (lv_at hl 2 rfl) ?_
  refine k_get (v := .ref a1) C hP 0 rfl rfl inlX4 2 (by decide) m_4_11 e0_2 dX4_finish_44 ?_
  refine lv_iload C.1 C.2.1 dX4_finish_47 (lv_at hl 0 rfl) ?_
  refine k_bld (v := 32) C hP 1 rfl (vin (by decide)) rfl dX4_finish_49 ?_
  refine lv_bipush (v := 32) C.1 C.2.1 dX4_finish_50 (by decide) ?_
  refine lv_icmp_eq (tgt := 60) C.1 C.2.1 dX4_finish_52 (by decide) (fun _ => ?_) (fun h => absurd (by decide) h)
  refine lv_iinc (v := 102) (lv' := [(4, .int 102), (3, .int 6), (0, .ref a0), (1, .int 120), (2, .int 0)]) C.1 C.2.1 dX4_finish_60 hl (k := 0) rfl (by decide) (by decide) rfl (fun ls hl => ?_)
  refine lv_goto (tgt := 5) C.1 C.2.1 dX4_finish_63 (by decide) ?_
  refine lv_iload C.1 C.2.1 dX4_finish_5 (lv_at hl 0 rfl) ?_
  refine lv_bipush (v := 120) C.1 C.2.1 dX4_finish_7 (by decide) ?_
  refine lv_icmp_ge (tgt := 66) C.1 C.2.1 dX4_finish_9 (by decide) (fun h => absurd h (by decide)) (fun _ => ?_)
  refine lv_iload C.1 C.2.1 dX4_finish_12 (lv_at hl 0 rfl) ?_
  refine lv_iload_n C.1 C.2.1 dX4_finish_14 rfl (lv_at hl 3 rfl) ?_
  refine lv_icmp_ge (tgt := 66) C.1 C.2.1 dX4_finish_15 (by decide) (fun h => absurd h (by decide)) (fun _ => ?_)
  refine lv_iload_n C.1 C.2.1 dX4_finish_18 rfl (lv_at hl 4 rfl) ?_
  refine lv_if_eq (tgt := 43) C.1 C.2.1 dX4_finish_19 (by decide) (fun _ => ?_) (fun h => absurd (by decide) h)
  refine lv_aload_n C.1 C.2.1 dX4_finish_43 rfl (lv_at hl 2 rfl) ?_
  refine k_get (v := .ref a1) C hP 0 rfl rfl inlX4 2 (by decide) m_4_11 e0_2 dX4_finish_44 ?_
  refine lv_iload C.1 C.2.1 dX4_finish_47 (lv_at hl 0 rfl) ?_
  refine k_bld (v := 32) C hP 1 rfl (vin (by decide)) rfl dX4_finish_49 ?_
  refine lv_bipush (v := 32) C.1 C.2.1 dX4_finish_50 (by decide) ?_
  refine lv_icmp_eq (tgt := 60) C.1 C.2.1 dX4_finish_52 (by decide) (fun _ => ?_) (fun h => absurd (by decide) h)
  refine lv_iinc (v := 103) (lv' := [(4, .int 103), (3, .int 6), (0, .ref a0), (1, .int 120), (2, .int 0)]) C.1 C.2.1 dX4_finish_60 hl (k := 0) rfl (by decide) (by decide) rfl (fun ls hl => ?_)
  refine lv_goto (tgt := 5) C.1 C.2.1 dX4_finish_63 (by decide) ?_
  refine lv_iload C.1 C.2.1 dX4_finish_5 (lv_at hl 0 rfl) ?_
  refine lv_bipush (v := 120) C.1 C.2.1 dX4_finish_7 (by decide) ?_
  refine lv_icmp_ge (tgt := 66) C.1 C.2.1 dX4_finish_9 (by decide) (fun h => absurd h (by decide)) (fun _ => ?_)
  refine lv_iload C.1 C.2.1 dX4_finish_12 (lv_at hl 0 rfl) ?_
  refine lv_iload_n C.1 C.2.1 dX4_finish_14 rfl (lv_at hl 3 rfl) ?_
  refine lv_icmp_ge (tgt := 66) C.1 C.2.1 dX4_finish_15 (by decide) (fun h => absurd h (by decide)) (fun _ => ?_)
  refine lv_iload_n C.1 C.2.1 dX4_finish_18 rfl (lv_at hl 4 rfl) ?_
  refine lv_if_eq (tgt := 43) C.1 C.2.1 dX4_finish_19 (by decide) (fun _ => ?_) (fun h => absurd (by decide) h)
  refine lv_aload_n C.1 C.2.1 dX4_finish_43 rfl (lv_at hl 2 rfl) ?_
  refine k_get (v := .ref a1) C hP 0 rfl rfl inlX4 2 (by decide) m_4_11 e0_2 dX4_finish_44 ?_
  refine lv_iload C.1 C.2.1 dX4_finish_47 (lv_at hl 0 rfl) ?_
  refine k_bld (v := 32) C hP 1 rfl (vin (by decide)) rfl dX4_finish_49 ?_
  refine lv_bipush (v := 32) C.1 C.2.1 dX4_finish_50 (by decide) ?_
  refine lv_icmp_eq (tgt := 60) C.1 C.2.1 dX4_finish_52 (by decide) (fun _ => ?_) (fun h => absurd (by decide) h)
  refine lv_iinc (v := 104) (lv' := [(4, .int 104), (3, .int 6), (0, .ref a0), (1, .int 120), (2, .int 0)]) C.1 C.2.1 dX4_finish_60 hl (k := 0) rfl (by decide) (by decide) rfl (fun ls hl => ?_)
  refine lv_goto (tgt := 5) C.1 C.2.1 dX4_finish_63 (by decide) ?_
  refine lv_iload C.1 C.2.1 dX4_finish_5 (lv_at hl 0 rfl) ?_
  refine lv_bipush (v := 120) C.1 C.2.1 dX4_finish_7 (by decide) ?_
  refine lv_icmp_ge (tgt := 66) C.1 C.2.1 dX4_finish_9 (by decide) (fun h => absurd h (by decide)) (fun _ => ?_)
  refine lv_iload C.1 C.2.1 dX4_finish_12 (lv_at hl 0 rfl) ?_
  refine lv_iload_n C.1 C.2.1 dX4_finish_14 rfl (lv_at hl 3 rfl) ?_
  refine lv_icmp_ge (tgt := 66) C.1 C.2.1 dX4_finish_15 (by decide) (fun h => absurd h (by decide)) (fun _ => ?_)
  refine lv_iload_n C.1 C.2.1 dX4_finish_18 rfl (lv_at hl 4 rfl) ?_
  refine lv_if_eq (tgt := 43) C.1 C.2.1 dX4_finish_19 (by decide) (fun _ => ?_) (fun h => absurd (by decide) h)
  refine lv_aload_n C.1 C.2.1 dX4_finish_43 rfl (lv_at hl 2 rfl) ?_
  refine k_get (v := .ref a1) C hP 0 rfl rfl inlX4 2 (by decide) m_4_11 e0_2 dX4_finish_44 ?_
  refine lv_iload C.1 C.2.1 dX4_finish_47 (lv_at hl 0 rfl) ?_
  refine k_bld (v := 32) C hP 1 rfl (vin (by decide)) rfl dX4_finish_49 ?_
  refine lv_bipush (v := 32) C.1 C.2.1 dX4_finish_50 (by decide) ?_
  refine lv_icmp_eq (tgt := 60) C.1 C.2.1 dX4_finish_52 (by decide) (fun _ => ?_) (fun h => absurd (by decide) h)
  refine lv_iinc (v := 105) (lv' := [(4, .int 105), (3, .int 6), (0, .ref a0), (1, .int 120), (2, .int 0)]) C.1 C.2.1 dX4_finish_60 hl (k := 0) rfl (by decide) (by decide) rfl (fun ls hl => ?_)
  refine lv_goto (tgt := 5) C.1 C.2.1 dX4_finish_63 (by decide) ?_
  refine lv_iload C.1 C.2.1 dX4_finish_5 (lv_at hl 0 rfl) ?_
  refine lv_bipush (v := 120) C.1 C.2.1 dX4_finish_7 (by decide) ?_
  refine lv_icmp_ge (tgt := 66) C.1 C.2.1 dX4_finish_9 (by decide) (fun h => absurd h (by decide)) (fun _ => ?_)
  refine lv_iload C.1 C.2.1 dX4_finish_12 (lv_at hl 0 rfl) ?_
  refine lv_iload_n C.1 C.2.1 dX4_finish_14 rfl (lv_at hl 3 rfl) ?_
  refine lv_icmp_ge (tgt := 66) C.1 C.2.1 dX4_finish_15 (by decide) (fun h => absurd h (by decide)) (fun _ => ?_)
  refine lv_iload_n C.1 C.2.1 dX4_finish_18 rfl (lv_at hl 4 rfl) ?_
  refine lv_if_eq (tgt := 43) C.1 C.2.1 dX4_finish_19 (by decide) (fun _ => ?_) (fun h => absurd (by decide) h)
  refine lv_aload_n C.1 C.2.1 dX4_finish_43 rfl (lv_at hl 2 rfl) ?_
  refine k_get (v := .ref a1) C hP 0 rfl rfl inlX4 2 (by decide) m_4_11 e0_2 dX4_finish_44 ?_
  refine lv_iload C.1 C.2.1 dX4_finish_47 (lv_at hl 0 rfl) ?_
  refine k_bld (v := 32) C hP 1 rfl (vin (by decide)) rfl dX4_finish_49 ?_
  refine lv_bipush (v := 32) C.1 C.2.1 dX4_finish_50 (by decide) ?_
  refine lv_icmp_eq (tgt := 60) C.1 C.2.1 dX4_finish_52 (by decide) (fun _ => ?_) (fun h => absurd (by decide) h)
  refine lv_iinc (v := 106) (lv' := [(4, .int 106), (3, .int 6), (0, .ref a0), (1, .int 120), (2, .int 0)]) C.1 C.2.1 dX4_finish_60 hl (k := 0) rfl (by decide) (by decide) rfl (fun ls hl => ?_)
  refine lv_goto (tgt := 5) C.1 C.2.1 dX4_finish_63 (by decide) ?_
  refine lv_iload C.1 C.2.1 dX4_finish_5 (lv_at hl 0 rfl) ?_
  refine lv_bipush (v := 120) C.1 C.2.1 dX4_finish_7 (by decide) ?_
  refine lv_icmp_ge (tgt := 66) C.1 C.2.1 dX4_finish_9 (by decide) (fun h => absurd h (by decide)) (fun _ => ?_)
  refine lv_iload C.1 C.2.1 dX4_finish_12 (lv_at hl 0 rfl) ?_
  refine lv_iload_n C.1 C.2.1 dX4_finish_14 rfl (lv_at hl 3 rfl) ?_
  refine lv_icmp_ge (tgt := 66) C.1 C.2.1 dX4_finish_15 (by decide) (fun h => absurd h (by decide)) (fun _ => ?_)
  refine lv_iload_n C.1 C.2.1 dX4_finish_18 rfl (lv_at hl 4 rfl) ?_
  refine lv_if_eq (tgt := 43) C.1 C.2.1 dX4_finish_19 (by decide) (fun _ => ?_) (fun h => absurd (by decide) h)
  refine lv_aload_n C.1 C.2.1 dX4_finish_43 rfl (lv_at hl 2 rfl) ?_
  refine k_get (v := .ref a1) C hP 0 rfl rfl inlX4 2 (by decide) m_4_11 e0_2 dX4_finish_44 ?_
  refine lv_iload C.1 C.2.1 dX4_finish_47 (lv_at hl 0 rfl) ?_
  refine k_bld (v := 32) C hP 1 rfl (vin (by decide)) rfl dX4_finish_49 ?_
  refine lv_bipush (v := 32) C.1 C.2.1 dX4_finish_50 (by decide) ?_
  refine lv_icmp_eq (tgt := 60) C.1 C.2.1 dX4_finish_52 (by decide) (fun _ => ?_) (fun h => absurd (by decide) h)
  refine lv_iinc (v := 107) (lv' := [(4, .int 107), (3, .int 6), (0, .ref a0), (1, .int 120), (2, .int 0)]) C.1 C.2.1 dX4_finish_60 hl (k := 0) rfl (by decide) (by decide) rfl (fun ls hl => ?_)
  refine lv_goto (tgt := 5) C.1 C.2.1 dX4_finish_63 (by decide) ?_
  refine lv_iload C.1 C.2.1 dX4_finish_5 (lv_at hl 0 rfl) ?_
  refine lv_bipush (v := 120) C.1 C.2.1 dX4_finish_7 (by decide) ?_
  refine lv_icmp_ge (tgt := 66) C.1 C.2.1 dX4_finish_9 (by decide) (fun h => absurd h (by decide)) (fun _ => ?_)
  refine lv_iload C.1 C.2.1 dX4_finish_12 (lv_at hl 0 rfl) ?_
  refine lv_iload_n C.1 C.2.1 dX4_finish_14 rfl (lv_at hl 3 rfl) ?_
  refine lv_icmp_ge (tgt := 66) C.1 C.2.1 dX4_finish_15 (by decide) (fun h => absurd h (by decide)) (fun _ => ?_)
  refine lv_iload_n C.1 C.2.1 dX4_finish_18 rfl (lv_at hl 4 rfl) ?_
  refine lv_if_eq (tgt := 43) C.1 C.2.1 dX4_finish_19 (by decide) (fun _ => ?_) (fun h => absurd (by decide) h)
  refine lv_aload_n C.1 C.2.1 dX4_finish_43 rfl (lv_at hl 2 rfl) ?_
  refine k_get (v := .ref a1) C hP 0 rfl rfl inlX4 2 (by decide) m_4_11 e0_2 dX4_finish_44 ?_
  refine lv_iload C.1 C.2.1 dX4_finish_47 (lv_at hl 0 rfl) ?_
  refine k_bld (v := 32) C hP 1 rfl (vin (by decide)) rfl dX4_finish_49 ?_
  refine lv_bipush (v := 32) C.1 C.2.1 dX4_finish_50 (by decide) ?_
  refine lv_icmp_eq (tgt := 60) C.1 C.2.1 dX4_finish_52 (by decide) (fun _ => ?_) (fun h => absurd (by decide) h)
  refine lv_iinc (v := 108) (lv' := [(4, .int 108), (3, .int 6), (0, .ref a0), (1, .int 120), (2, .int 0)]) C.1 C.2.1 dX4_finish_60 hl (k := 0) rfl (by decide) (by decide) rfl (fun ls hl => ?_)
  refine lv_goto (tgt := 5) C.1 C.2.1 dX4_finish_63 (by decide) ?_
  refine lv_iload C.1 C.2.1 dX4_finish_5 (lv_at hl 0 rfl) ?_
  refine lv_bipush (v := 120) C.1 C.2.1 dX4_finish_7 (by decide) ?_
  refine lv_icmp_ge (tgt := 66) C.1 C.2.1 dX4_finish_9 (by decide) (fun h => absurd h (by decide)) (fun _ => ?_)
  refine lv_iload C.1 C.2.1 dX4_finish_12 (lv_at hl 0 rfl) ?_
  refine lv_iload_n C.1 C.2.1 dX4_finish_14 rfl (lv_at hl 3 rfl) ?_
  refine lv_icmp_ge (tgt := 66) C.1 C.2.1 dX4_finish_15 (by decide) (fun h => absurd h (by decide)) (fun _ => ?_)
  refine lv_iload_n C.1 C.2.1 dX4_finish_18 rfl (lv_at hl 4 rfl) ?_
  refine lv_if_eq (tgt := 43) C.1 C.2.1 dX4_finish_19 (by decide) (fun _ => ?_) (fun h => absurd (by decide) h)
  refine lv_aload_n C.1 C.2.1 dX4_finish_43 rfl (lv_at hl 2 rfl) ?_
  refine k_get (v := .ref a1) C hP 0 rfl rfl inlX4 2 (by decide) m_4_11 e0_2 dX4_finish_44 ?_
  refine lv_iload C.1 C.2.1 dX4_finish_47 (lv_at hl 0 rfl) ?_
  refine k_bld (v := 32) C hP 1 rfl (vin (by decide)) rfl dX4_finish_49 ?_
  refine lv_bipush (v := 32) C.1 C.2.1 dX4_finish_50 (by decide) ?_
  refine lv_icmp_eq (tgt := 60) C.1 C.2.1 dX4_finish_52 (by decide) (fun _ => ?_) (fun h => absurd (by decide) h)
  refine lv_iinc (v := 109) (lv' := [(4, .int 109), (3, .int 6), (0, .ref a0), (1, .int 120), (2, .int 0)]) C.1 C.2.1 dX4_finish_60 hl (k := 0) rfl (by decide) (by decide) rfl (fun ls hl => ?_)
  refine lv_goto (tgt := 5) C.1 C.2.1 dX4_finish_63 (by decide) ?_
  refine lv_iload C.1 C.2.1 dX4_finish_5 (lv_at hl 0 rfl) ?_
  refine lv_bipush (v := 120) C.1 C.2.1 dX4_finish_7 (by decide) ?_
  refine lv_icmp_ge (tgt := 66) C.1 C.2.1 dX4_finish_9 (by decide) (fun h => absurd h (by decide)) (fun _ => ?_)
  refine lv_iload C.1 C.2.1 dX4_finish_12 (lv_at hl 0 rfl) ?_
  refine lv_iload_n C.1 C.2.1 dX4_finish_14 rfl (lv_at hl 3 rfl) ?_
  refine lv_icmp_ge (tgt := 66) C.1 C.2.1 dX4_finish_15 (by decide) (fun h => absurd h (by decide)) (fun _ => ?_)
  refine lv_iload_n C.1 C.2.1 dX4_finish_18 rfl (lv_at hl 4 rfl) ?_
  refine lv_if_eq (tgt := 43) C.1 C.2.1 dX4_finish_19 (by decide) (fun _ => ?_) (fun h => absurd (by decide) h)
  refine lv_aload_n C.1 C.2.1 dX4_finish_43 rfl (lv_at hl 2 rfl) ?_
  refine k_get (v := .ref a1) C hP 0 rfl rfl inlX4 2 (by decide) m_4_11 e0_2 dX4_finish_44 ?_
  refine lv_iload C.1 C.2.1 dX4_finish_47 (lv_at hl 0 rfl) ?_
  refine k_bld (v := 32) C hP 1 rfl (vin (by decide)) rfl dX4_finish_49 ?_
  refine lv_bipush (v := 32) C.1 C.2.1 dX4_finish_50 (by decide) ?_
  refine lv_icmp_eq (tgt := 60) C.1 C.2.1 dX4_finish_52 (by decide) (fun _ => ?_) (fun h => absurd (by decide) h)
  refine lv_iinc (v := 110) (lv' := [(4, .int 110), (3, .int 6), (0, .ref a0), (1, .int 120), (2, .int 0)]) C.1 C.2.1 dX4_finish_60 hl (k := 0) rfl (by decide) (by decide) rfl (fun ls hl => ?_)
  refine lv_goto (tgt := 5) C.1 C.2.1 dX4_finish_63 (by decide) ?_
  refine lv_iload C.1 C.2.1 dX4_finish_5 (lv_at hl 0 rfl) ?_
  refine lv_bipush (v := 120) C.1 C.2.1 dX4_finish_7 (by decide) ?_
  refine lv_icmp_ge (tgt := 66) C.1 C.2.1 dX4_finish_9 (by decide) (fun h => absurd h (by decide)) (fun _ => ?_)
  refine lv_iload C.1 C.2.1 dX4_finish_12 (lv_at hl 0 rfl) ?_
  refine lv_iload_n C.1 C.2.1 dX4_finish_14 rfl (lv_at hl 3 rfl) ?_
  refine lv_icmp_ge (tgt := 66) C.1 C.2.1 dX4_finish_15 (by decide) (fun h => absurd h (by decide)) (fun _ => ?_)
  refine lv_iload_n C.1 C.2.1 dX4_finish_18 rfl (lv_at hl 4 rfl) ?_
  refine lv_if_eq (tgt := 43) C.1 C.2.1 dX4_finish_19 (by decide) (fun _ => ?_) (fun h => absurd (by decide) h)
  refine lv_aload_n C.1 C.2.1 dX4_finish_43 rfl (lv_at hl 2 rfl) ?_
  refine k_get (v := .ref a1) C hP 0 rfl rfl inlX4 2 (by decide) m_4_11 e0_2 dX4_finish_44 ?_
  refine lv_iload C.1 C.2.1 dX4_finish_47 (lv_at hl 0 rfl) ?_
  refine k_bld (v := 32) C hP 1 rfl (vin (by decide)) rfl dX4_finish_49 ?_
  refine lv_bipush (v := 32) C.1 C.2.1 dX4_finish_50 (by decide) ?_
  refine lv_icmp_eq (tgt := 60) C.1 C.2.1 dX4_finish_52 (by decide) (fun _ => ?_) (fun h => absurd (by decide) h)
  refine lv_iinc (v := 111) (lv' := [(4, .int 111), (3, .int 6), (0, .ref a0), (1, .int 120), (2, .int 0)]) C.1 C.2.1 dX4_finish_60 hl (k := 0) rfl (by decide) (by decide) rfl (fun ls hl => ?_)
  refine lv_goto (tgt := 5) C.1 C.2.1 dX4_finish_63 (by decide) ?_
  refine lv_iload C.1 C.2.1 dX4_finish_5 (lv_at hl 0 rfl) ?_
  refine lv_bipush (v := 120) C.1 C.2.1 dX4_finish_7 (by decide) ?_
  refine lv_icmp_ge (tgt := 66) C.1 C.2.1 dX4_finish_9 (by decide) (fun h => absurd h (by decide)) (fun _ => ?_)
  refine lv_iload C.1 C.2.1 dX4_finish_12 (lv_at hl 0 rfl) ?_
  refine lv_iload_n C.1 C.2.1 dX4_finish_14 rfl (lv_at hl 3 rfl) ?_
  refine lv_icmp_ge (tgt := 66) C.1 C.2.1 dX4_finish_15 (by decide) (fun h => absurd h (by decide)) (fun _ => ?_)
  refine lv_iload_n C.1 C.2.1 dX4_finish_18 rfl (lv_at hl 4 rfl) ?_
  refine lv_if_eq (tgt := 43) C.1 C.2.1 dX4_finish_19 (by decide) (fun _ => ?_) (fun h => absurd (by decide) h)
  refine lv_aload_n C.1 C.2.1 dX4_finish_43 rfl (lv_at hl 2 rfl) ?_
  refine k_get (v := .ref a1) C hP 0 rfl rfl inlX4 2 (by decide) m_4_11 e0_2 dX4_finish_44 ?_
  refine lv_iload C.1 C.2.1 dX4_finish_47 (lv_at hl 0 rfl) ?_
  refine k_bld (v := 32) C hP 1 rfl (vin (by decide)) rfl dX4_finish_49 ?_
  refine lv_bipush (v := 32) C.1 C.2.1 dX4_finish_50 (by decide) ?_
  refine lv_icmp_eq (tgt := 60) C.1 C.2.1 dX4_finish_52 (by decide) (fun _ => ?_) (fun h => absurd (by decide) h)
  refine lv_iinc (v := 112) (lv' := [(4, .int 112), (3, .int 6), (0, .ref a0), (1, .int 120), (2, .int 0)]) C.1 C.2.1 dX4_finish_60 hl (k := 0) rfl (by decide) (by decide) rfl (fun ls hl => ?_)
  refine lv_goto (tgt := 5) C.1 C.2.1 dX4_finish_63 (by decide) ?_
  refine lv_iload C.1 C.2.1 dX4_finish_5 (lv_at hl 0 rfl) ?_
  refine lv_bipush (v := 120) C.1 C.2.1 dX4_finish_7 (by decide) ?_
  refine lv_icmp_ge (tgt := 66) C.1 C.2.1 dX4_finish_9 (by decide) (fun h => absurd h (by decide)) (fun _ => ?_)
  refine lv_iload C.1 C.2.1 dX4_finish_12 (lv_at hl 0 rfl) ?_
  refine lv_iload_n C.1 C.2.1 dX4_finish_14 rfl (lv_at hl 3 rfl) ?_
  refine lv_icmp_ge (tgt := 66) C.1 C.2.1 dX4_finish_15 (by decide) (fun h => absurd h (by decide)) (fun _ => ?_)
  refine lv_iload_n C.1 C.2.1 dX4_finish_18 rfl (lv_at hl 4 rfl) ?_
  refine lv_if_eq (tgt := 43) C.1 C.2.1 dX4_finish_19 (by decide) (fun _ => ?_) (fun h => absurd (by decide) h)
  refine lv_aload_n C.1 C.2.1 dX4_finish_43 rfl (lv_at hl 2 rfl) ?_
  refine k_get (v := .ref a1) C hP 0 rfl rfl inlX4 2 (by decide) m_4_11 e0_2 dX4_finish_44 ?_
  refine lv_iload C.1 C.2.1 dX4_finish_47 (lv_at hl 0 rfl) ?_
  refine k_bld (v := 32) C hP 1 rfl (vin (by decide)) rfl dX4_finish_49 ?_
  refine lv_bipush (v := 32) C.1 C.2.1 dX4_finish_50 (by decide) ?_
  refine lv_icmp_eq (tgt := 60) C.1 C.2.1 dX4_finish_52 (by decide) (fun _ => ?_) (fun h => absurd (by decide) h)
  refine lv_iinc (v := 113) (lv' := [(4, .int 113), (3, .int 6), (0, .ref a0), (1, .int 120), (2, .int 0)]) C.1 C.2.1 dX4_finish_60 hl (k := 0) rfl (by decide) (by decide) rfl (fun ls hl => ?_)
  refine lv_goto (tgt := 5) C.1 C.2.1 dX4_finish_63 (by decide) ?_
  refine lv_iload C.1 C.2.1 dX4_finish_5 (lv_at hl 0 rfl) ?_
  refine lv_bipush (v := 120) C.1 C.2.1 dX4_finish_7 (by decide) ?_
  refine lv_icmp_ge (tgt := 66) C.1 C.2.1 dX4_finish_9 (by decide) (fun h => absurd h (by decide)) (fun _ => ?_)
  refine lv_iload C.1 C.2.1 dX4_finish_12 (lv_at hl 0 rfl) ?_
  refine lv_iload_n C.1 C.2.1 dX4_finish_14 rfl (lv_at hl 3 rfl) ?_
  refine lv_icmp_ge (tgt := 66) C.1 C.2.1 dX4_finish_15 (by decide) (fun h => absurd h (by decide)) (fun _ => ?_)
  refine lv_iload_n C.1 C.2.1 dX4_finish_18 rfl (lv_at hl 4 rfl) ?_
  refine lv_if_eq (tgt := 43) C.1 C.2.1 dX4_finish_19 (by decide) (fun _ => ?_) (fun h => absurd (by decide) h)
  refine lv_aload_n C.1 C.2.1 dX4_finish_43 rfl (lv_at hl 2 rfl) ?_
  refine k_get (v := .ref a1) C hP 0 rfl rfl inlX4 2 (by decide) m_4_11 e0_2 dX4_finish_44 ?_
  refine lv_iload C.1 C.2.1 dX4_finish_47 (lv_at hl 0 rfl) ?_
  refine k_bld (v := 32) C hP 1 rfl (vin (by decide)) rfl dX4_finish_49 ?_
  refine lv_bipush (v := 32) C.1 C.2.1 dX4_finish_50 (by decide) ?_
  refine lv_icmp_eq (tgt := 60) C.1 C.2.1 dX4_finish_52 (by decide) (fun _ => ?_) (fun h => absurd (by decide) h)
  refine lv_iinc (v := 114) (lv' := [(4, .int 114), (3, .int 6), (0, .ref a0), (1, .int 120), (2, .int 0)]) C.1 C.2.1 dX4_finish_60 hl (k := 0) rfl (by decide) (by decide) rfl (fun ls hl => ?_)
  refine lv_goto (tgt := 5) C.1 C.2.1 dX4_finish_63 (by decide) ?_
  refine lv_iload C.1 C.2.1 dX4_finish_5 (lv_at hl 0 rfl) ?_
  refine lv_bipush (v := 120) C.1 C.2.1 dX4_finish_7 (by decide) ?_
  refine lv_icmp_ge (tgt := 66) C.1 C.2.1 dX4_finish_9 (by decide) (fun h => absurd h (by decide)) (fun _ => ?_)
  refine lv_iload C.1 C.2.1 dX4_finish_12 (lv_at hl 0 rfl) ?_
  refine lv_iload_n C.1 C.2.1 dX4_finish_14 rfl (lv_at hl 3 rfl) ?_
  refine lv_icmp_ge (tgt := 66) C.1 C.2.1 dX4_finish_15 (by decide) (fun h => absurd h (by decide)) (fun _ => ?_)
  refine lv_iload_n C.1 C.2.1 dX4_finish_18 rfl (lv_at hl 4 rfl) ?_
  refine lv_if_eq (tgt := 43) C.1 C.2.1 dX4_finish_19 (by decide) (fun _ => ?_) (fun h => absurd (by decide) h)
  refine lv_aload_n C.1 C.2.1 dX4_finish_43 rfl (lv_at hl 2 rfl) ?_
  refine k_get (v := .ref a1) C hP 0 rfl rfl inlX4 2 (by decide) m_4_11 e0_2 dX4_finish_44 ?_
  refine lv_iload C.1 C.2.1 dX4_finish_47 (lv_at hl 0 rfl) ?_
  refine k_bld (v := 32) C hP 1 rfl (vin (by decide)) rfl dX4_finish_49 ?_
  refine lv_bipush (v := 32) C.1 C.2.1 dX4_finish_50 (by decide) ?_
  refine lv_icmp_eq (tgt := 60) C.1 C.2.1 dX4_finish_52 (by decide) (fun _ => ?_) (fun h => absurd (by decide) h)
  refine lv_iinc (v := 115) (lv' := [(4, .int 115), (3, .int 6), (0, .ref a0), (1, .int 120), (2, .int 0)]) C.1 C.2.1 dX4_finish_60 hl (k := 0) rfl (by decide) (by decide) rfl (fun ls hl => ?_)
  refine lv_goto (tgt := 5) C.1 C.2.1 dX4_finish_63 (by decide) ?_
  refine lv_iload C.1 C.2.1 dX4_finish_5 (lv_at hl 0 rfl) ?_
  refine lv_bipush (v := 120) C.1 C.2.1 dX4_finish_7 (by decide) ?_
  refine lv_icmp_ge (tgt := 66) C.1 C.2.1 dX4_finish_9 (by decide) (fun h => absurd h (by decide)) (fun _ => ?_)
  refine lv_iload C.1 C.2.1 dX4_finish_12 (lv_at hl 0 rfl) ?_
  refine lv_iload_n C.1 C.2.1 dX4_finish_14 rfl (lv_at hl 3 rfl) ?_
  refine lv_icmp_ge (tgt := 66) C.1 C.2.1 dX4_finish_15 (by decide) (fun h => absurd h (by decide)) (fun _ => ?_)
  refine lv_iload_n C.1 C.2.1 dX4_finish_18 rfl (lv_at hl 4 rfl) ?_
  refine lv_if_eq (tgt := 43) C.1 C.2.1 dX4_finish_19 (by decide) (fun _ => ?_) (fun h => absurd (by decide) h)
  refine lv_aload_n C.1 C.2.1 dX4_finish_43 rfl (lv_at hl 2 rfl) ?_
  refine k_get (v := .ref a1) C hP 0 rfl rfl inlX4 2 (by decide) m_4_11 e0_2 dX4_finish_44 ?_
  refine lv_iload C.1 C.2.1 dX4_finish_47 (lv_at hl 0 rfl) ?_
  refine k_bld (v := 32) C hP 1 rfl (vin (by decide)) rfl dX4_finish_49 ?_
  refine lv_bipush (v := 32) C.1 C.2.1 dX4_finish_50 (by decide) ?_
  refine lv_icmp_eq (tgt := 60) C.1 C.2.1 dX4_finish_52 (by decide) (fun _ => ?_) (fun h => absurd (by decide) h)
  refine lv_iinc (v := 116) (lv' := [(4, .int 116), (3, .int 6), (0, .ref a0), (1, .int 120), (2, .int 0)]) C.1 C.2.1 dX4_finish_60 hl (k := 0) rfl (by decide) (by decide) rfl (fun ls hl => ?_)
  refine lv_goto (tgt := 5) C.1 C.2.1 dX4_finish_63 (by decide) ?_
  refine lv_iload C.1 C.2.1 dX4_finish_5 (lv_at hl 0 rfl) ?_
  refine lv_bipush (v := 120) C.1 C.2.1 dX4_finish_7 (by decide) ?_
  refine lv_icmp_ge (tgt := 66) C.1 C.2.1 dX4_finish_9 (by decide) (fun h => absurd h (by decide)) (fun _ => ?_)
  refine lv_iload C.1 C.2.1 dX4_finish_12 (lv_at hl 0 rfl) ?_
  refine lv_iload_n C.1 C.2.1 dX4_finish_14 rfl (lv_at hl 3 rfl) ?_
  refine lv_icmp_ge (tgt := 66) C.1 C.2.1 dX4_finish_15 (by decide) (fun h => absurd h (by decide)) (fun _ => ?_)
  refine lv_iload_n C.1 C.2.1 dX4_finish_18 rfl (lv_at hl 4 rfl) ?_
  refine lv_if_eq (tgt := 43) C.1 C.2.1 dX4_finish_19 (by decide) (fun _ => ?_) (fun h => absurd (by decide) h)
  refine lv_aload_n C.1 C.2.1 dX4_finish_43 rfl (lv_at hl 2 rfl) ?_
  refine k_get (v := .ref a1) C hP 0 rfl rfl inlX4 2 (by decide) m_4_11 e0_2 dX4_finish_44 ?_
  refine lv_iload C.1 C.2.1 dX4_finish_47 (lv_at hl 0 rfl) ?_
  refine k_bld (v := 32) C hP 1 rfl (vin (by decide)) rfl dX4_finish_49 ?_
  refine lv_bipush (v := 32) C.1 C.2.1 dX4_finish_50 (by decide) ?_
  refine lv_icmp_eq (tgt := 60) C.1 C.2.1 dX4_finish_52 (by decide) (fun _ => ?_) (fun h => absurd (by decide) h)
  refine lv_iinc (v := 117) (lv' := [(4, .int 117), (3, .int 6), (0, .ref a0), (1, .int 120), (2, .int 0)]) C.1 C.2.1 dX4_finish_60 hl (k := 0) rfl (by decide) (by decide) rfl (fun ls hl => ?_)
  refine lv_goto (tgt := 5) C.1 C.2.1 dX4_finish_63 (by decide) ?_
  refine lv_iload C.1 C.2.1 dX4_finish_5 (lv_at hl 0 rfl) ?_
  refine lv_bipush (v := 120) C.1 C.2.1 dX4_finish_7 (by decide) ?_
  refine lv_icmp_ge (tgt := 66) C.1 C.2.1 dX4_finish_9 (by decide) (fun h => absurd h (by decide)) (fun _ => ?_)
  refine lv_iload C.1 C.2.1 dX4_finish_12 (lv_at hl 0 rfl) ?_
  refine lv_iload_n C.1 C.2.1 dX4_finish_14 rfl (lv_at hl 3 rfl) ?_
  refine lv_icmp_ge (tgt := 66) C.1 C.2.1 dX4_finish_15 (by decide) (fun h => absurd h (by decide)) (fun _ => ?_)
  refine lv_iload_n C.1 C.2.1 dX4_finish_18 rfl (lv_at hl 4 rfl) ?_
  refine lv_if_eq (tgt := 43) C.1 C.2.1 dX4_finish_19 (by decide) (fun _ => ?_) (fun h => absurd (by decide) h)
  refine lv_aload_n C.1 C.2.1 dX4_finish_43 rfl (lv_at hl 2 rfl) ?_
  refine k_get (v := .ref a1) C hP 0 rfl rfl inlX4 2 (by decide) m_4_11 e0_2 dX4_finish_44 ?_
  refine lv_iload C.1 C.2.1 dX4_finish_47 (lv_at hl 0 rfl) ?_
  refine k_bld (v := 32) C hP 1 rfl (vin (by decide)) rfl dX4_finish_49 ?_
  refine lv_bipush (v := 32) C.1 C.2.1 dX4_finish_50 (by decide) ?_
  refine lv_icmp_eq (tgt := 60) C.1 C.2.1 dX4_finish_52 (by decide) (fun _ => ?_) (fun h => absurd (by decide) h)
  refine lv_iinc (v := 118) (lv' := [(4, .int 118), (3, .int 6), (0, .ref a0), (1, .int 120), (2, .int 0)]) C.1 C.2.1 dX4_finish_60 hl (k := 0) rfl (by decide) (by decide) rfl (fun ls hl => ?_)
  refine lv_goto (tgt := 5) C.1 C.2.1 dX4_finish_63 (by decide) ?_
  refine lv_iload C.1 C.2.1 dX4_finish_5 (lv_at hl 0 rfl) ?_
  refine lv_bipush (v := 120) C.1 C.2.1 dX4_finish_7 (by decide) ?_
  refine lv_icmp_ge (tgt := 66) C.1 C.2.1 dX4_finish_9 (by decide) (fun h => absurd h (by decide)) (fun _ => ?_)
  refine lv_iload C.1 C.2.1 dX4_finish_12 (lv_at hl 0 rfl) ?_
  refine lv_iload_n C.1 C.2.1 dX4_finish_14 rfl (lv_at hl 3 rfl) ?_
  refine lv_icmp_ge (tgt := 66) C.1 C.2.1 dX4_finish_15 (by decide) (fun h => absurd h (by decide)) (fun _ => ?_)
  refine lv_iload_n C.1 C.2.1 dX4_finish_18 rfl (lv_at hl 4 rfl) ?_
  refine lv_if_eq (tgt := 43) C.1 C.2.1 dX4_finish_19 (by decide) (fun _ => ?_) (fun h => absurd (by decide) h)
  refine lv_aload_n C.1 C.2.1 dX4_finish_43 rfl (lv_at hl 2 rfl) ?_
  refine k_get (v := .ref a1) C hP 0 rfl rfl inlX4 2 (by decide) m_4_11 e0_2 dX4_finish_44 ?_
  refine lv_iload C.1 C.2.1 dX4_finish_47 (lv_at hl 0 rfl) ?_
  refine k_bld (v := 32) C hP 1 rfl (vin (by decide)) rfl dX4_finish_49 ?_
  refine lv_bipush (v := 32) C.1 C.2.1 dX4_finish_50 (by decide) ?_
  refine lv_icmp_eq (tgt := 60) C.1 C.2.1 dX4_finish_52 (by decide) (fun _ => ?_) (fun h => absurd (by decide) h)
  refine lv_iinc (v := 119) (lv' := [(4, .int 119), (3, .int 6), (0, .ref a0), (1, .int 120), (2, .int 0)]) C.1 C.2.1 dX4_finish_60 hl (k := 0) rfl (by decide) (by decide) rfl (fun ls hl => ?_)
  refine lv_goto (tgt := 5) C.1 C.2.1 dX4_finish_63 (by decide) ?_
  refine lv_iload C.1 C.2.1 dX4_finish_5 (lv_at hl 0 rfl) ?_
  refine lv_bipush (v := 120) C.1 C.2.1 dX4_finish_7 (by decide) ?_
  refine lv_icmp_ge (tgt := 66) C.1 C.2.1 dX4_finish_9 (by decide) (fun h => absurd h (by decide)) (fun _ => ?_)
  refine lv_iload C.1 C.2.1 dX4_finish_12 (lv_at hl 0 rfl) ?_
  refine lv_iload_n C.1 C.2.1 dX4_finish_14 rfl (lv_at hl 3 rfl) ?_
  refine lv_icmp_ge (tgt := 66) C.1 C.2.1 dX4_finish_15 (by decide) (fun h => absurd h (by decide)) (fun _ => ?_)
  refine lv_iload_n C.1 C.2.1 dX4_finish_18 rfl (lv_at hl 4 rfl) ?_
  refine lv_if_eq (tgt := 43) C.1 C.2.1 dX4_finish_19 (by decide) (fun _ => ?_) (fun h => absurd (by decide) h)
  refine lv_aload_n C.1 C.2.1 dX4_finish_43 rfl (lv_at hl 2 rfl) ?_
  refine k_get (v := .ref a1) C hP 0 rfl rfl inlX4 2 (by decide) m_4_11 e0_2 dX4_finish_44 ?_
  refine lv_iload C.1 C.2.1 dX4_finish_47 (lv_at hl 0 rfl) ?_
  refine k_bld (v := 32) C hP 1 rfl (vin (by decide)) rfl dX4_finish_49 ?_
  refine lv_bipush (v := 32) C.1 C.2.1 dX4_finish_50 (by decide) ?_
  refine lv_icmp_eq (tgt := 60) C.1 C.2.1 dX4_finish_52 (by decide) (fun _ => ?_) (fun h => absurd (by decide) h)
  refine lv_iinc (v := 120) (lv' := [(4, .int 120), (3, .int 6), (0, .ref a0), (1, .int 120), (2, .int 0)]) C.1 C.2.1 dX4_finish_60 hl (k := 0) rfl (by decide) (by decide) rfl (fun ls hl => ?_)
  refine lv_goto (tgt := 5) C.1 C.2.1 dX4_finish_63 (by decide) ?_
  refine lv_iload C.1 C.2.1 dX4_finish_5 (lv_at hl 0 rfl) ?_
  refine lv_bipush (v := 120) C.1 C.2.1 dX4_finish_7 (by decide) ?_
  refine lv_icmp_ge (tgt := 66) C.1 C.2.1 dX4_finish_9 (by decide) (fun _ => ?_) (fun h => absurd (by decide) h)
  refine lv_aload_n C.1 C.2.1 dX4_finish_66 rfl (lv_at hl 2 rfl) ?_
  refine k_get (v := .int 0) C hP 0 rfl rfl inlX4 3 (by decide) m_41_11 e0_3 dX4_finish_67 ?_
  refine lv_sipush (v := 300) C.1 C.2.1 dX4_finish_70 (by decide) ?_
  refine lv_icmp_ge (tgt := 140) C.1 C.2.1 dX4_finish_73 (by decide) (fun h => absurd h (by decide)) (fun _ => ?_)
  refine lv_aload_n C.1 C.2.1 dX4_finish_76 rfl (lv_at hl 2 rfl) ?_
  refine k_get (v := .ref a2) C hP 0 rfl rfl inlX4 0 (by decide) m_4_9 e0_0 dX4_finish_77 ?_
  refine lv_aload_n C.1 C.2.1 dX4_finish_80 rfl (lv_at hl 2 rfl) ?_
  refine k_get (v := .int 0) C hP 0 rfl rfl inlX4 3 (by decide) m_41_11 e0_3 dX4_finish_81 ?_
  refine k_ald (w := .null) C hP 2 4 rfl rfl (vin (by decide)) rfl dX4_finish_84 ?_
  refine lv_ifnonnullN C.1 C.2.1 dX4_finish_85 ?_
  refine lv_aload_n C.1 C.2.1 dX4_finish_88 rfl (lv_at hl 2 rfl) ?_
  refine k_get (v := .ref a2) C hP 0 rfl rfl inlX4 0 (by decide) m_4_9 e0_0 dX4_finish_89 ?_
  refine lv_aload_n C.1 C.2.1 dX4_finish_92 rfl (lv_at hl 2 rfl) ?_
  refine k_get (v := .int 0) C hP 0 rfl rfl inlX4 3 (by decide) m_41_11 e0_3 dX4_finish_93 ?_
  refine lv_bipush (v := 120) C.1 C.2.1 dX4_finish_96 (by decide) ?_
  refine k_newa (atype := .byte) (ty := .byte) (a0 := (120, .inl (fun _ => 0))) C hP hD hS hA 2 rfl rfl (fun _ => rfl) m_1_14 (fun _ => rfl) (by decide) (by decide) (Nat.le_of_ble_eq_true rfl) (Nat.le_of_ble_eq_true rfl) (Nat.le_of_ble_eq_true rfl) dX4_finish_98 (fun q_1 H hP hD hS => ?_)
  have hP : va_P D vwCl [(a0, .inr (3, s0)), (a1, .inl (K 2, 120, .inl (upd (upd (upd (upd (upd (fun _ => 32) 3 49) 2 48) 1 48) 0 48) 5 55))), (a2, .inl (K 4, 300, .inr (.inr (.inr (.inr (fun _ => none)))))), (a3, .inl (K 0, 300, .inl f3)), (q_1, .inl (K 2, 120, .inl (fun _ => 0)))] H := hP
  have hD : va_D A [(a0, .inr (3, s0)), (a1, .inl (K 2, 120, .inl (upd (upd (upd (upd (upd (fun _ => 32) 3 49) 2 48) 1 48) 0 48) 5 55))), (a2, .inl (K 4, 300, .inr (.inr (.inr (.inr (fun _ => none)))))), (a3, .inl (K 0, 300, .inl f3)), (q_1, .inl (K 2, 120, .inl (fun _ => 0)))] := hD
  refine k_ast (ws' := [(a0, .inr (3, s0)), (a1, .inl (K 2, 120, .inl (upd (upd (upd (upd (upd (fun _ => 32) 3 49) 2 48) 1 48) 0 48) 5 55))), (a2, .inl (K 4, 300, .inr (.inr (.inr (.inr (va_up (fun _ => none) 0 (some q_1))))))), (a3, .inl (K 0, 300, .inl f3)), (q_1, .inl (K 2, 120, .inl (fun _ => 0)))]) (j := 0) C hP hD hS 2 4 4 2 rfl rfl rfl rfl rfl hX.2.2.1 (vin (by decide)) (by decide) rfl dX4_finish_100 (fun H locs hP hD hS => ?_)
  refine lv_aload_n C.1 C.2.1 dX4_finish_101 rfl (lv_at hl 2 rfl) ?_
  refine k_get (v := .ref a1) C hP 0 rfl rfl inlX4 2 (by decide) m_4_11 e0_2 dX4_finish_102 ?_
  refine lv_iconst (v := 0) C.1 C.2.1 dX4_finish_105 (by decide) ?_
  refine lv_aload_n C.1 C.2.1 dX4_finish_106 rfl (lv_at hl 2 rfl) ?_
  refine k_get (v := .ref a2) C hP 0 rfl rfl inlX4 0 (by decide) m_4_9 e0_0 dX4_finish_107 ?_
  refine lv_aload_n C.1 C.2.1 dX4_finish_110 rfl (lv_at hl 2 rfl) ?_
  refine k_get (v := .int 0) C hP 0 rfl rfl inlX4 3 (by decide) m_41_11 e0_3 dX4_finish_111 ?_
  refine k_ald (w := .ref q_1) C hP 2 4 rfl rfl (vin (by decide)) rfl dX4_finish_114 ?_
  refine lv_iconst (v := 0) C.1 C.2.1 dX4_finish_115 (by decide) ?_
  refine lv_iload_n C.1 C.2.1 dX4_finish_116 rfl (lv_at hl 1 rfl) ?_
  refine k_copy (ws' := [(a0, .inr (3, s0)), (a1, .inl (K 2, 120, .inl (upd (upd (upd (upd (upd (fun _ => 32) 3 49) 2 48) 1 48) 0 48) 5 55))), (a2, .inl (K 4, 300, .inr (.inr (.inr (.inr (va_up (fun _ => none) 0 (some q_1))))))), (a3, .inl (K 0, 300, .inl f3)), (q_1, .inl (K 2, 120, .inl (va_cpy (upd (upd (upd (upd (upd (fun _ => 32) 3 49) 2 48) 1 48) 0 48) 5 55) (fun _ => 0) 0 0 6)))]) C hl.1 hP hD hS 1 4 2 rfl rfl rfl rfl (sp := 0) (dp := 0) (n := 6) (by decide) (by decide) (by decide) (by decide) (by decide) (by decide) (Nat.le_of_ble_eq_true rfl) (Nat.le_of_ble_eq_true rfl) (by decide) m_41_12 m_10_14 m_10_15 m_10_16 (Nat.le_of_ble_eq_true rfl) (Nat.le_of_ble_eq_true rfl) rfl dX4_finish_117 (fun H locs hP hD hS => ?_)
  refine lv_aload_n C.1 C.2.1 dX4_finish_120 rfl (lv_at hl 2 rfl) ?_
  refine k_get (v := .ref a3) C hP 0 rfl rfl inlX4 1 (by decide) m_4_10 e0_1 dX4_finish_121 ?_
  refine lv_aload_n C.1 C.2.1 dX4_finish_124 rfl (lv_at hl 2 rfl) ?_
  refine k_get (v := .int 0) C hP 0 rfl rfl inlX4 3 (by decide) m_41_11 e0_3 dX4_finish_125 ?_
  refine lv_iload_n C.1 C.2.1 dX4_finish_128 rfl (lv_at hl 1 rfl) ?_
  refine k_ist (ws' := [(a0, .inr (3, s0)), (a1, .inl (K 2, 120, .inl (upd (upd (upd (upd (upd (fun _ => 32) 3 49) 2 48) 1 48) 0 48) 5 55))), (a2, .inl (K 4, 300, .inr (.inr (.inr (.inr (va_up (fun _ => none) 0 (some q_1))))))), (a3, .inl (K 0, 300, .inl (upd f3 0 6))), (q_1, .inl (K 2, 120, .inl (va_cpy (upd (upd (upd (upd (upd (fun _ => 32) 3 49) 2 48) 1 48) 0 48) 5 55) (fun _ => 0) 0 0 6)))]) (j := 0) (x' := 6) C hP hD hS 3 rfl (vin (by decide)) (by decide) rfl rfl dX4_finish_129 (fun H locs hP hD hS => ?_)
  refine lv_aload_n C.1 C.2.1 dX4_finish_130 rfl (lv_at hl 2 rfl) ?_
  refine lv_dup C.1 C.2.1 dX4_finish_131 rfl ?_
  refine k_get (v := .int 0) C hP 0 rfl rfl inlX4 3 (by decide) m_41_11 e0_3 dX4_finish_132 ?_
  refine lv_iconst (v := 1) C.1 C.2.1 dX4_finish_135 (by decide) ?_
  refine k_iadd (v := 1) C (by decide) dX4_finish_136 ?_
  refine k_put (ws' := [(a0, .inr (3, (s0.set 3 (.int 1)))), (a1, .inl (K 2, 120, .inl (upd (upd (upd (upd (upd (fun _ => 32) 3 49) 2 48) 1 48) 0 48) 5 55))), (a2, .inl (K 4, 300, .inr (.inr (.inr (.inr (va_up (fun _ => none) 0 (some q_1))))))), (a3, .inl (K 0, 300, .inl (upd f3 0 6))), (q_1, .inl (K 2, 120, .inl (va_cpy (upd (upd (upd (upd (upd (fun _ => 32) 3 49) 2 48) 1 48) 0 48) 5 55) (fun _ => 0) 0 0 6)))]) (v := .int 1) C hP hD hS 0 rfl rfl inlX4 tyX4_ok nmX4 3 (by decide) m_41_11 rfl rfl rfl n0 rfl dX4_finish_137 (fun H locs hP hD hS => ?_)
  refine lv_aload_n C.1 C.2.1 dX4_finish_140 rfl (lv_at hl 2 rfl) ?_
  refine k_get (v := .ref a1) C hP 0 rfl rfl inlX4 2 (by decide) m_4_11 (sn (by decide) e0_2) dX4_finish_141 ?_
  refine lv_bipush (v := 32) C.1 C.2.1 dX4_finish_144 (by decide) ?_
  refine k_Sv (As := [.ref a1, .int 32]) (rest := []) C hP hD hS hA (c_fillB l D K a1 120 (by decide) (upd (upd (upd (upd (upd (fun _ => 32) 3 49) 2 48) 1 48) 0 48) 5 55) 32 32 (by decide)) X0_ok trivial (uwS m_41_13 m_41_14 m_11_12 m_41_15) (hdS 2 (by decide +kernel) rfl) ⟨Nat.le_of_ble_eq_true rfl, Nat.le_of_ble_eq_true rfl⟩ rfl rfl (isC := [1]) (isR := [0, 2, 3, 4]) (wr := [(a0, .inr (3, (s0.set 3 (.int 1)))), (a2, .inl (K 4, 300, .inr (.inr (.inr (.inr (va_up (fun _ => none) 0 (some q_1))))))), (a3, .inl (K 0, 300, .inl (upd f3 0 6))), (q_1, .inl (K 2, 120, .inl (va_cpy (upd (upd (upd (upd (upd (fun _ => 32) 3 49) 2 48) 1 48) 0 48) 5 55) (fun _ => 0) 0 0 6)))]) ⟨rfl, rfl, rfl, rfl, by decide⟩ rfl hl.1 (Nat.le_of_ble_eq_true rfl) dX4_finish_146 ⟨Nat.le_of_ble_eq_true rfl, Nat.le_of_ble_eq_true rfl⟩ (fun u_2 H locs hw hP hD hS => ?_)
  have hP : va_P D vwCl [(a0, .inr (3, (s0.set 3 (.int 1)))), (a2, .inl (K 4, 300, .inr (.inr (.inr (.inr (va_up (fun _ => none) 0 (some q_1))))))), (a3, .inl (K 0, 300, .inl (upd f3 0 6))), (q_1, .inl (K 2, 120, .inl (va_cpy (upd (upd (upd (upd (upd (fun _ => 32) 3 49) 2 48) 1 48) 0 48) 5 55) (fun _ => 0) 0 0 6))), (a1, .inl (K 2, 120, .inl (fun _ => 32)))] H := hP
  have hD : va_D A [(a0, .inr (3, (s0.set 3 (.int 1)))), (a2, .inl (K 4, 300, .inr (.inr (.inr (.inr (va_up (fun _ => none) 0 (some q_1))))))), (a3, .inl (K 0, 300, .inl (upd f3 0 6))), (q_1, .inl (K 2, 120, .inl (va_cpy (upd (upd (upd (upd (upd (fun _ => 32) 3 49) 2 48) 1 48) 0 48) 5 55) (fun _ => 0) 0 0 6))), (a1, .inl (K 2, 120, .inl (fun _ => 32)))] := hD
  exact k_vret C hr hlocks hP hD hS (fun k => [q_1].getD k 0) [0, 4, 1, 2, 3] rfl rfl trivial (Nat.le_of_ble_eq_true rfl) (Nat.le_of_ble_eq_true rfl) dX4_finish_149
set_option maxHeartbeats 4000000 in
set_option maxRecDepth 100000 in
theorem c_X0_nextWrong_2 (l : Launch) (D : va_G) (K : Nat → ClassId) (a0 : Nat) (s0 : List Value) (n0 : s0.length = 20) (e0_15 : s0[15]? = some (.int 1)) : uMet l yX0_nextWrong cX0_nextWrong 3 (some .int) (rmD 0 0 0) D K X0 [.ref a0] [(a0, .inr (0, s0))] (QI D K (fun (r : Int32) (u : Nat → Nat) => r = 0) (fun (u : Nat → Nat) => [(a0, .inr (0, s0))])) 0 0 := by
  refine k_met RX0 ⟨rfl, by decide +kernel⟩ (Nat.le_of_ble_eq_true rfl) ?_
  intro p e s m below meth c A ls C hX hr hlocks hin hA hP hD hS hl
  have hl : lv_has ls 3 [(0, .ref a0)] := hl
  refine lv_iconst (v := 0) C.1 C.2.1 dX0_nextWrong_0 (by decide) ?_
  refine lv_istore_n (lv' := [(1, .int 0), (0, .ref a0)]) C.1 C.2.1 dX0_nextWrong_1 rfl hl (by decide) rfl (fun ls hl => ?_)
  refine lv_iload_n C.1 C.2.1 dX0_nextWrong_2 rfl (lv_at hl 0 rfl) ?_
  refine lv_sipush (v := 8192) C.1 C.2.1 dX0_nextWrong_3 (by decide) ?_
  refine lv_icmp_gt (tgt := 107) C.1 C.2.1 dX0_nextWrong_6 (by decide) (fun h => absurd h (by decide)) (fun _ => ?_)
  refine lv_aload_n C.1 C.2.1 dX0_nextWrong_9 rfl (lv_at hl 1 rfl) ?_
  refine k_get (v := .int 1) C hP 0 rfl rfl inlX0 15 (by decide) m_12_5 e0_15 dX0_nextWrong_10 ?_
  refine lv_if_ne (tgt := 107) C.1 C.2.1 dX0_nextWrong_13 (by decide) (fun _ => ?_) (fun h => absurd h (by decide))
  refine lv_iconst (v := 0) C.1 C.2.1 dX0_nextWrong_107 (by decide) ?_
  exact k_iret C hr hlocks hP hD hS rfl (fun _ => 0) [0] rfl rfl rfl (Nat.le_of_ble_eq_true rfl) (Nat.le_of_ble_eq_true rfl) dX0_nextWrong_108
set_option maxHeartbeats 4000000 in
set_option maxRecDepth 100000 in
theorem c_X7_printWrongs (l : Launch) (D : va_G) (K : Nat → ClassId) (a0 : Nat) (a1 : Nat) (a2 : Nat) (a3 : Nat) (a4 : Nat) (a5 : Nat) (a6 : Nat) (s0 : List Value) (n0 : s0.length = 4) (s1 : List Value) (n1 : s1.length = 20) (s2 : List Value) (n2 : s2.length = 8) (s3 : List Value) (n3 : s3.length = 4) (f6 : Nat → Int32) (e0_1 : s0[1]? = some (.ref a1)) (e1_15 : s1[15]? = some (.int 0)) (e1_0 : s1[0]? = some (.ref a2)) (e2_5 : s2[5]? = some (.int 0)) (e2_4 : s2[4]? = some (.int 0)) (e2_7 : s2[7]? = some (.int 0)) (e0_2 : s0[2]? = some (.ref a3)) (e3_2 : s3[2]? = some (.ref a4)) (e3_3 : s3[3]? = some (.int 0)) (e3_0 : s3[0]? = some (.ref a5)) (e3_1 : s3[1]? = some (.ref a6)) : uMet l yX7_printWrongs cX7_printWrongs 7 (some .int) (rmD 3 1 120) D K XX [.ref a0, .int 120, .int 0] [(a0, .inr (6, s0)), (a1, .inr (0, s1)), (a2, .inr (8, s2)), (a3, .inr (3, s3)), (a4, .inl (K 2, 120, .inl (fun _ => 32))), (a5, .inl (K 4, 300, .inr (.inr (.inr (.inr (fun _ => none)))))), (a6, .inl (K 0, 300, .inl f6))] (QI D K (fun (r : Int32) (u : Nat → Nat) => r = 1) (fun (u : Nat → Nat) => [(a0, .inr (6, s0)), (a1, .inr (0, ((s1.set 15 (.int 1)).set 18 (.int 7)))), (a2, .inr (8, (s2.set 5 (.int 1)))), (a3, .inr (3, (s3.set 3 (.int 1)))), (a4, .inl (K 2, 120, .inl (fun _ => 32))), (a5, .inl (K 4, 300, .inr (.inr (.inr (.inr (va_up (fun _ => none) 0 (some (u 0)))))))), (a6, .inl (K 0, 300, .inl (upd f6 0 6))), ((u 0), .inl (K 2, 120, .inl (va_cpy (upd (upd (upd (upd (upd (fun _ => 32) 3 49) 2 48) 1 48) 0 48) 5 55) (fun _ => 0) 0 0 6)))])) 1 120 := by
  refine k_met RX7 ⟨rfl, by decide +kernel⟩ (Nat.le_of_ble_eq_true rfl) ?_
  intro p e s m below meth c A ls C hX hr hlocks hin hA hP hD hS hl
  have hl : lv_has ls 7 [(0, .ref a0), (1, .int 120), (2, .int 0)] := hl
  refine lv_iconst (v := 0) C.1 C.2.1 dX7_printWrongs_0 (by decide) ?_
  refine lv_istore_n (lv' := [(3, .int 0), (0, .ref a0), (1, .int 120), (2, .int 0)]) C.1 C.2.1 dX7_printWrongs_1 rfl hl (by decide) rfl (fun ls hl => ?_)
  refine lv_iconst (v := 0) C.1 C.2.1 dX7_printWrongs_2 (by decide) ?_
  refine lv_istore (lv' := [(4, .int 0), (3, .int 0), (0, .ref a0), (1, .int 120), (2, .int 0)]) C.1 C.2.1 dX7_printWrongs_3 hl (by decide) rfl (fun ls hl => ?_)
  refine lv_iconst (v := 0) C.1 C.2.1 dX7_printWrongs_5 (by decide) ?_
  refine lv_istore (lv' := [(5, .int 0), (4, .int 0), (3, .int 0), (0, .ref a0), (1, .int 120), (2, .int 0)]) C.1 C.2.1 dX7_printWrongs_6 hl (by decide) rfl (fun ls hl => ?_)
  refine lv_iload C.1 C.2.1 dX7_printWrongs_8 (lv_at hl 0 rfl) ?_
  refine lv_sipush (v := 8193) C.1 C.2.1 dX7_printWrongs_10 (by decide) ?_
  refine lv_icmp_gt (tgt := 124) C.1 C.2.1 dX7_printWrongs_13 (by decide) (fun h => absurd h (by decide)) (fun _ => ?_)
  refine lv_aload_n C.1 C.2.1 dX7_printWrongs_16 rfl (lv_at hl 3 rfl) ?_
  refine k_get (v := .ref a1) C hP 0 rfl rfl inlX7 1 (by decide) m_6_12 e0_1 dX7_printWrongs_17 ?_
  refine k_Vi (As := []) (rest := []) C hP hD hS hA (c_X0_nextWrong l D K a1 a2 s1 n1 s2 n2 e1_15 e1_0 e2_5 e2_4 e2_7) X0_ok trivial (uwV m_40_17 m_13_13 m_13_14 m_2_2 m_13_15) (hdV 0 (by decide +kernel) rfl) ⟨Nat.le_of_ble_eq_true rfl, Nat.le_of_ble_eq_true rfl⟩ rfl rfl (ci := 0) rfl rfl (isC := [1, 2]) (isR := [0, 3, 4, 5, 6]) (wr := [(a0, .inr (6, s0)), (a3, .inr (3, s3)), (a4, .inl (K 2, 120, .inl (fun _ => 32))), (a5, .inl (K 4, 300, .inr (.inr (.inr (.inr (fun _ => none)))))), (a6, .inl (K 0, 300, .inl f6))]) ⟨rfl, rfl, rfl, rfl, by decide⟩ rfl hl.1 (Nat.le_of_ble_eq_true rfl) dX7_printWrongs_20 ⟨Nat.le_of_ble_eq_true rfl, Nat.le_of_ble_eq_true rfl⟩ (fun r_2 u_1 H locs hw hP hD hS => ?_)
  obtain rfl := hw
  have hP : va_P D vwCl [(a0, .inr (6, s0)), (a3, .inr (3, s3)), (a4, .inl (K 2, 120, .inl (fun _ => 32))), (a5, .inl (K 4, 300, .inr (.inr (.inr (.inr (fun _ => none)))))), (a6, .inl (K 0, 300, .inl f6)), (a1, .inr (0, (s1.set 15 (.int 1)))), (a2, .inr (8, (s2.set 5 (.int 1))))] H := hP
  have hD : va_D A [(a0, .inr (6, s0)), (a3, .inr (3, s3)), (a4, .inl (K 2, 120, .inl (fun _ => 32))), (a5, .inl (K 4, 300, .inr (.inr (.inr (.inr (fun _ => none)))))), (a6, .inl (K 0, 300, .inl f6)), (a1, .inr (0, (s1.set 15 (.int 1)))), (a2, .inr (8, (s2.set 5 (.int 1))))] := hD
  refine lv_istore (lv' := [(6, .int 7), (5, .int 0), (4, .int 0), (3, .int 0), (0, .ref a0), (1, .int 120), (2, .int 0)]) C.1 C.2.1 dX7_printWrongs_23 hl (by decide) rfl (fun ls hl => ?_)
  refine lv_iload C.1 C.2.1 dX7_printWrongs_25 (lv_at hl 0 rfl) ?_
  refine lv_if_ne (tgt := 33) C.1 C.2.1 dX7_printWrongs_27 (by decide) (fun _ => ?_) (fun h => absurd h (by decide))
  refine lv_iload C.1 C.2.1 dX7_printWrongs_33 (lv_at hl 2 rfl) ?_
  refine lv_if_ne (tgt := 43) C.1 C.2.1 dX7_printWrongs_35 (by decide) (fun h => absurd h (by decide)) (fun _ => ?_)
  refine lv_iload C.1 C.2.1 dX7_printWrongs_38 (lv_at hl 0 rfl) ?_
  refine lv_goto (tgt := 45) C.1 C.2.1 dX7_printWrongs_40 (by decide) ?_
  refine lv_istore (lv' := [(4, .int 7), (6, .int 7), (5, .int 0), (3, .int 0), (0, .ref a0), (1, .int 120), (2, .int 0)]) C.1 C.2.1 dX7_printWrongs_45 hl (by decide) rfl (fun ls hl => ?_)
  refine lv_aload_n C.1 C.2.1 dX7_printWrongs_47 rfl (lv_at hl 4 rfl) ?_
  refine k_get (v := .ref a3) C hP 0 rfl rfl inlX7 2 (by decide) m_6_14 e0_2 dX7_printWrongs_48 ?_
  refine lv_iconst (v := 1) C.1 C.2.1 dX7_printWrongs_51 (by decide) ?_
  refine lv_iconst (v := 4) C.1 C.2.1 dX7_printWrongs_52 (by decide) ?_
  refine lv_aload_n C.1 C.2.1 dX7_printWrongs_53 rfl (lv_at hl 4 rfl) ?_
  refine k_get (v := .ref a1) C hP 0 rfl rfl inlX7 1 (by decide) m_6_12 e0_1 dX7_printWrongs_54 ?_
  refine k_get (v := .ref a2) C hP 5 rfl rfl inlX0 0 (by decide) m_40_13 (sn (by decide) e1_0) dX7_printWrongs_57 ?_
  refine k_get (v := .int 1) C hP 6 rfl rfl inlX9 5 (by decide) m_40_14 (ss (sk n2 (by decide))) dX7_printWrongs_60 ?_
  refine lv_i2l (v := 1) C.1 C.2.1 dX7_printWrongs_63 (by decide) ?_
  refine k_Vv (As := [.int 1, .int 4, .long 1]) (rest := []) C hP hD hS hA (c_X4_digits l D K a3 a4 s3 n3 (fun _ => 32) e3_2) X0_ok trivial (uwV m_40_18 m_40_19 m_40_20 m_3_20 m_40_21) (hdV 3 (by decide +kernel) rfl) ⟨Nat.le_of_ble_eq_true rfl, Nat.le_of_ble_eq_true rfl⟩ rfl rfl (ci := 3) rfl rfl (isC := [1, 2]) (isR := [0, 3, 4, 5, 6]) (wr := [(a0, .inr (6, s0)), (a5, .inl (K 4, 300, .inr (.inr (.inr (.inr (fun _ => none)))))), (a6, .inl (K 0, 300, .inl f6)), (a1, .inr (0, (s1.set 15 (.int 1)))), (a2, .inr (8, (s2.set 5 (.int 1))))]) ⟨rfl, rfl, rfl, rfl, by decide⟩ rfl hl.1 (Nat.le_of_ble_eq_true rfl) dX7_printWrongs_64 ⟨Nat.le_of_ble_eq_true rfl, Nat.le_of_ble_eq_true rfl⟩ (fun u_3 H locs hw hP hD hS => ?_)
  have hP : va_P D vwCl [(a0, .inr (6, s0)), (a5, .inl (K 4, 300, .inr (.inr (.inr (.inr (fun _ => none)))))), (a6, .inl (K 0, 300, .inl f6)), (a1, .inr (0, (s1.set 15 (.int 1)))), (a2, .inr (8, (s2.set 5 (.int 1)))), (a3, .inr (3, s3)), (a4, .inl (K 2, 120, .inl (upd (upd (upd (upd (fun _ => 32) 3 49) 2 48) 1 48) 0 48)))] H := hP
  have hD : va_D A [(a0, .inr (6, s0)), (a5, .inl (K 4, 300, .inr (.inr (.inr (.inr (fun _ => none)))))), (a6, .inl (K 0, 300, .inl f6)), (a1, .inr (0, (s1.set 15 (.int 1)))), (a2, .inr (8, (s2.set 5 (.int 1)))), (a3, .inr (3, s3)), (a4, .inl (K 2, 120, .inl (upd (upd (upd (upd (fun _ => 32) 3 49) 2 48) 1 48) 0 48)))] := hD
  refine lv_aload_n C.1 C.2.1 dX7_printWrongs_67 rfl (lv_at hl 4 rfl) ?_
  refine k_get (v := .ref a3) C hP 0 rfl rfl inlX7 2 (by decide) m_6_14 e0_2 dX7_printWrongs_68 ?_
  refine lv_bipush (v := 6) C.1 C.2.1 dX7_printWrongs_71 (by decide) ?_
  refine lv_iconst (v := 1) C.1 C.2.1 dX7_printWrongs_73 (by decide) ?_
  refine lv_iload C.1 C.2.1 dX7_printWrongs_74 (lv_at hl 1 rfl) ?_
  refine lv_i2l (v := 7) C.1 C.2.1 dX7_printWrongs_76 (by decide) ?_
  refine k_Vv (As := [.int 6, .int 1, .long 7]) (rest := []) C hP hD hS hA (c_X4_digits_2 l D K a3 a4 s3 n3 (upd (upd (upd (upd (fun _ => 32) 3 49) 2 48) 1 48) 0 48) e3_2) X0_ok trivial (uwV m_40_18 m_40_19 m_40_20 m_3_20 m_40_21) (hdV 3 (by decide +kernel) rfl) ⟨Nat.le_of_ble_eq_true rfl, Nat.le_of_ble_eq_true rfl⟩ rfl rfl (ci := 3) rfl rfl (isC := [5, 6]) (isR := [0, 1, 2, 3, 4]) (wr := [(a0, .inr (6, s0)), (a5, .inl (K 4, 300, .inr (.inr (.inr (.inr (fun _ => none)))))), (a6, .inl (K 0, 300, .inl f6)), (a1, .inr (0, (s1.set 15 (.int 1)))), (a2, .inr (8, (s2.set 5 (.int 1))))]) ⟨rfl, rfl, rfl, rfl, by decide⟩ rfl hl.1 (Nat.le_of_ble_eq_true rfl) dX7_printWrongs_77 ⟨Nat.le_of_ble_eq_true rfl, Nat.le_of_ble_eq_true rfl⟩ (fun u_5 H locs hw hP hD hS => ?_)
  have hP : va_P D vwCl [(a0, .inr (6, s0)), (a5, .inl (K 4, 300, .inr (.inr (.inr (.inr (fun _ => none)))))), (a6, .inl (K 0, 300, .inl f6)), (a1, .inr (0, (s1.set 15 (.int 1)))), (a2, .inr (8, (s2.set 5 (.int 1)))), (a3, .inr (3, s3)), (a4, .inl (K 2, 120, .inl (upd (upd (upd (upd (upd (fun _ => 32) 3 49) 2 48) 1 48) 0 48) 5 55)))] H := hP
  have hD : va_D A [(a0, .inr (6, s0)), (a5, .inl (K 4, 300, .inr (.inr (.inr (.inr (fun _ => none)))))), (a6, .inl (K 0, 300, .inl f6)), (a1, .inr (0, (s1.set 15 (.int 1)))), (a2, .inr (8, (s2.set 5 (.int 1)))), (a3, .inr (3, s3)), (a4, .inl (K 2, 120, .inl (upd (upd (upd (upd (upd (fun _ => 32) 3 49) 2 48) 1 48) 0 48) 5 55)))] := hD
  refine lv_iload C.1 C.2.1 dX7_printWrongs_80 (lv_at hl 1 rfl) ?_
  refine lv_bipush (v := 7) C.1 C.2.1 dX7_printWrongs_82 (by decide) ?_
  refine lv_icmp_eq (tgt := 106) C.1 C.2.1 dX7_printWrongs_84 (by decide) (fun _ => ?_) (fun h => absurd (by decide) h)
  refine lv_aload_n C.1 C.2.1 dX7_printWrongs_106 rfl (lv_at hl 4 rfl) ?_
  refine k_get (v := .ref a3) C hP 0 rfl rfl inlX7 2 (by decide) m_6_14 e0_2 dX7_printWrongs_107 ?_
  refine lv_iload_n C.1 C.2.1 dX7_printWrongs_110 rfl (lv_at hl 5 rfl) ?_
  refine lv_iload_n C.1 C.2.1 dX7_printWrongs_111 rfl (lv_at hl 6 rfl) ?_
  refine k_Vv (As := [.int 120, .int 0]) (rest := []) C hP hD hS hA (c_X4_finish l D K a3 a4 a5 a6 s3 n3 f6 e3_2 e3_3 e3_0 e3_1) XX_ok hX (uwV m_41_7 m_41_8 m_41_9 m_3_20 m_41_10) (hdV 2 (by decide +kernel) rfl) ⟨Nat.le_of_ble_eq_true rfl, Nat.le_of_ble_eq_true rfl⟩ rfl rfl (ci := 3) rfl rfl (isC := [5, 6, 1, 2]) (isR := [0, 3, 4]) (wr := [(a0, .inr (6, s0)), (a1, .inr (0, (s1.set 15 (.int 1)))), (a2, .inr (8, (s2.set 5 (.int 1))))]) ⟨rfl, rfl, rfl, rfl, by decide⟩ rfl hl.1 (Nat.le_of_ble_eq_true rfl) dX7_printWrongs_112 ⟨Nat.le_of_ble_eq_true rfl, Nat.le_of_ble_eq_true rfl⟩ (fun u_7 H locs hw hP hD hS => ?_)
  have hP : va_P D vwCl [(a0, .inr (6, s0)), (a1, .inr (0, (s1.set 15 (.int 1)))), (a2, .inr (8, (s2.set 5 (.int 1)))), (a3, .inr (3, (s3.set 3 (.int 1)))), (a4, .inl (K 2, 120, .inl (fun _ => 32))), (a5, .inl (K 4, 300, .inr (.inr (.inr (.inr (va_up (fun _ => none) 0 (some (u_7 0)))))))), (a6, .inl (K 0, 300, .inl (upd f6 0 6))), ((u_7 0), .inl (K 2, 120, .inl (va_cpy (upd (upd (upd (upd (upd (fun _ => 32) 3 49) 2 48) 1 48) 0 48) 5 55) (fun _ => 0) 0 0 6)))] H := hP
  have hD : va_D A [(a0, .inr (6, s0)), (a1, .inr (0, (s1.set 15 (.int 1)))), (a2, .inr (8, (s2.set 5 (.int 1)))), (a3, .inr (3, (s3.set 3 (.int 1)))), (a4, .inl (K 2, 120, .inl (fun _ => 32))), (a5, .inl (K 4, 300, .inr (.inr (.inr (.inr (va_up (fun _ => none) 0 (some (u_7 0)))))))), (a6, .inl (K 0, 300, .inl (upd f6 0 6))), ((u_7 0), .inl (K 2, 120, .inl (va_cpy (upd (upd (upd (upd (upd (fun _ => 32) 3 49) 2 48) 1 48) 0 48) 5 55) (fun _ => 0) 0 0 6)))] := hD
  refine lv_iinc (v := 1) (lv' := [(3, .int 1), (4, .int 7), (6, .int 7), (5, .int 0), (0, .ref a0), (1, .int 120), (2, .int 0)]) C.1 C.2.1 dX7_printWrongs_115 hl (k := 3) rfl (by decide) (by decide) rfl (fun ls hl => ?_)
  refine lv_iinc (v := 1) (lv' := [(5, .int 1), (3, .int 1), (4, .int 7), (6, .int 7), (0, .ref a0), (1, .int 120), (2, .int 0)]) C.1 C.2.1 dX7_printWrongs_118 hl (k := 3) rfl (by decide) (by decide) rfl (fun ls hl => ?_)
  refine lv_goto (tgt := 8) C.1 C.2.1 dX7_printWrongs_121 (by decide) ?_
  refine lv_iload C.1 C.2.1 dX7_printWrongs_8 (lv_at hl 0 rfl) ?_
  refine lv_sipush (v := 8193) C.1 C.2.1 dX7_printWrongs_10 (by decide) ?_
  refine lv_icmp_gt (tgt := 124) C.1 C.2.1 dX7_printWrongs_13 (by decide) (fun h => absurd h (by decide)) (fun _ => ?_)
  refine lv_aload_n C.1 C.2.1 dX7_printWrongs_16 rfl (lv_at hl 4 rfl) ?_
  refine k_get (v := .ref a1) C hP 0 rfl rfl inlX7 1 (by decide) m_6_12 e0_1 dX7_printWrongs_17 ?_
  refine k_Vi (As := []) (rest := []) C hP hD hS hA (c_X0_nextWrong_2 l D K a1 ((s1.set 15 (.int 1))) (sl n1) (ss (sk n1 (by decide)))) X0_ok trivial (uwV m_40_17 m_13_13 m_13_14 m_2_2 m_13_15) (hdV 0 (by decide +kernel) rfl) ⟨Nat.le_of_ble_eq_true rfl, Nat.le_of_ble_eq_true rfl⟩ rfl rfl (ci := 0) rfl rfl (isC := [1]) (isR := [0, 2, 3, 4, 5, 6, 7]) (wr := [(a0, .inr (6, s0)), (a2, .inr (8, (s2.set 5 (.int 1)))), (a3, .inr (3, (s3.set 3 (.int 1)))), (a4, .inl (K 2, 120, .inl (fun _ => 32))), (a5, .inl (K 4, 300, .inr (.inr (.inr (.inr (va_up (fun _ => none) 0 (some (u_7 0)))))))), (a6, .inl (K 0, 300, .inl (upd f6 0 6))), ((u_7 0), .inl (K 2, 120, .inl (va_cpy (upd (upd (upd (upd (upd (fun _ => 32) 3 49) 2 48) 1 48) 0 48) 5 55) (fun _ => 0) 0 0 6)))]) ⟨rfl, rfl, rfl, rfl, by decide⟩ rfl hl.1 (Nat.le_of_ble_eq_true rfl) dX7_printWrongs_20 ⟨Nat.le_of_ble_eq_true rfl, Nat.le_of_ble_eq_true rfl⟩ (fun r_10 u_9 H locs hw hP hD hS => ?_)
  obtain rfl := hw
  have hP : va_P D vwCl [(a0, .inr (6, s0)), (a2, .inr (8, (s2.set 5 (.int 1)))), (a3, .inr (3, (s3.set 3 (.int 1)))), (a4, .inl (K 2, 120, .inl (fun _ => 32))), (a5, .inl (K 4, 300, .inr (.inr (.inr (.inr (va_up (fun _ => none) 0 (some (u_7 0)))))))), (a6, .inl (K 0, 300, .inl (upd f6 0 6))), ((u_7 0), .inl (K 2, 120, .inl (va_cpy (upd (upd (upd (upd (upd (fun _ => 32) 3 49) 2 48) 1 48) 0 48) 5 55) (fun _ => 0) 0 0 6))), (a1, .inr (0, (s1.set 15 (.int 1))))] H := hP
  have hD : va_D A [(a0, .inr (6, s0)), (a2, .inr (8, (s2.set 5 (.int 1)))), (a3, .inr (3, (s3.set 3 (.int 1)))), (a4, .inl (K 2, 120, .inl (fun _ => 32))), (a5, .inl (K 4, 300, .inr (.inr (.inr (.inr (va_up (fun _ => none) 0 (some (u_7 0)))))))), (a6, .inl (K 0, 300, .inl (upd f6 0 6))), ((u_7 0), .inl (K 2, 120, .inl (va_cpy (upd (upd (upd (upd (upd (fun _ => 32) 3 49) 2 48) 1 48) 0 48) 5 55) (fun _ => 0) 0 0 6))), (a1, .inr (0, (s1.set 15 (.int 1))))] := hD
  refine lv_istore (lv' := [(6, .int 0), (5, .int 1), (3, .int 1), (4, .int 7), (0, .ref a0), (1, .int 120), (2, .int 0)]) C.1 C.2.1 dX7_printWrongs_23 hl (by decide) rfl (fun ls hl => ?_)
  refine lv_iload C.1 C.2.1 dX7_printWrongs_25 (lv_at hl 0 rfl) ?_
  refine lv_if_ne (tgt := 33) C.1 C.2.1 dX7_printWrongs_27 (by decide) (fun h => absurd h (by decide)) (fun _ => ?_)
  refine lv_goto (tgt := 124) C.1 C.2.1 dX7_printWrongs_30 (by decide) ?_
  refine lv_aload_n C.1 C.2.1 dX7_printWrongs_124 rfl (lv_at hl 4 rfl) ?_
  refine k_get (v := .ref a1) C hP 0 rfl rfl inlX7 1 (by decide) m_6_12 e0_1 dX7_printWrongs_125 ?_
  refine lv_iload C.1 C.2.1 dX7_printWrongs_128 (lv_at hl 3 rfl) ?_
  refine k_put (ws' := [(a0, .inr (6, s0)), (a2, .inr (8, (s2.set 5 (.int 1)))), (a3, .inr (3, (s3.set 3 (.int 1)))), (a4, .inl (K 2, 120, .inl (fun _ => 32))), (a5, .inl (K 4, 300, .inr (.inr (.inr (.inr (va_up (fun _ => none) 0 (some (u_7 0)))))))), (a6, .inl (K 0, 300, .inl (upd f6 0 6))), ((u_7 0), .inl (K 2, 120, .inl (va_cpy (upd (upd (upd (upd (upd (fun _ => 32) 3 49) 2 48) 1 48) 0 48) 5 55) (fun _ => 0) 0 0 6))), (a1, .inr (0, ((s1.set 15 (.int 1)).set 18 (.int 7))))]) (v := .int 7) C hP hD hS 7 rfl rfl inlX0 tyX0_ok nmX0 18 (by decide) m_40_16 rfl rfl rfl (sl n1) rfl dX7_printWrongs_130 (fun H locs hP hD hS => ?_)
  refine lv_iload_n C.1 C.2.1 dX7_printWrongs_133 rfl (lv_at hl 2 rfl) ?_
  exact k_iret C hr hlocks hP hD hS rfl (fun k => [(u_7 0)].getD k 0) [0, 7, 1, 2, 3, 4, 5, 6] rfl rfl rfl (Nat.le_of_ble_eq_true rfl) (Nat.le_of_ble_eq_true rfl) dX7_printWrongs_134
set_option maxHeartbeats 4000000 in
set_option maxRecDepth 100000 in
theorem t_X11_errors (l : Launch) (D : va_G) (K : Nat → ClassId) (a0 : Nat) (a1 : Nat) (a2 : Nat) (a3 : Nat) (a4 : Nat) (a5 : Nat) (a6 : Nat) (a7 : Nat) (a8 : Nat) (a9 : Nat) (a10 : Nat) (a11 : Nat) (a12 : Nat) (a13 : Nat) (a14 : Nat) (a15 : Nat) (a16 : Nat) (a17 : Nat) (a18 : Nat) (s0 : List Value) (n0 : s0.length = 8) (s1 : List Value) (n1 : s1.length = 8) (f2 : Nat → Int32) (f3 : Nat → Int32) (s4 : List Value) (n4 : s4.length = 16) (f5 : Nat → Int32) (f6 : Nat → Int32) (s7 : List Value) (n7 : s7.length = 13) (f8 : Nat → Int64) (f9 : Nat → Int32) (s10 : List Value) (n10 : s10.length = 20) (s11 : List Value) (n11 : s11.length = 13) (f12 : Nat → Int32) (f13 : Nat → Int64) (s14 : List Value) (n14 : s14.length = 4) (s15 : List Value) (n15 : s15.length = 4) (f18 : Nat → Int32) (e0_1 : s0[1]? = some (.int 0)) (e0_0 : s0[0]? = some (.ref a1)) (e0_2 : s0[2]? = some (.ref a2)) (e1_0 : s1[0]? = some (.ref a3)) (e0_4 : s0[4]? = some (.ref a4)) (e4_0 : s4[0]? = some (.ref a5)) (e4_1 : s4[1]? = some (.ref a6)) (e4_2 : s4[2]? = some (.ref a7)) (e7_3 : s7[3]? = some (.ref a8)) (e7_5 : s7[5]? = some (.ref a9)) (e0_5 : s0[5]? = some (.ref a10)) (e10_0 : s10[0]? = some (.ref a2)) (e10_2 : s10[2]? = some (.ref a11)) (e11_8 : s11[8]? = some (.ref a12)) (e10_4 : s10[4]? = some (.ref a13)) (e0_6 : s0[6]? = some (.ref a14)) (e14_1 : s14[1]? = some (.ref a10)) (e14_2 : s14[2]? = some (.ref a15)) (e15_2 : s15[2]? = some (.ref a16)) (e15_3 : s15[3]? = some (.int 0)) (e15_0 : s15[0]? = some (.ref a17)) (e15_1 : s15[1]? = some (.ref a18)) : uMet l yX11_errors cX11_errors 3 (some .int) (rmD 4 1 120) D K XX [.ref a0] [(a0, .inr (10, s0)), (a2, .inr (8, s1)), (a1, .inl (K 2, 8192, .inl f2)), (a3, .inl (K 2, 8192, .inl f3)), (a4, .inr (1, s4)), (a5, .inl (K 0, 7999, .inl f5)), (a6, .inl (K 0, 9, .inl f6)), (a7, .inr (9, s7)), (a8, .inl (K 1, 20, .inr (.inl f8))), (a9, .inl (K 3, 17, .inl f9)), (a10, .inr (0, s10)), (a11, .inr (7, s11)), (a12, .inl (K 3, 10, .inl f12)), (a13, .inl (K 1, 63, .inr (.inl f13))), (a14, .inr (6, s14)), (a15, .inr (3, s15)), (a16, .inl (K 2, 120, .inl (fun _ => 32))), (a17, .inl (K 4, 300, .inr (.inr (.inr (.inr (fun _ => none)))))), (a18, .inl (K 0, 300, .inl f18))] (QI D K (fun (r : Int32) (u : Nat → Nat) => r = 1) (fun (u : Nat → Nat) => [])) 1 120 := by
  refine k_met RX11 ⟨rfl, by decide +kernel⟩ (Nat.le_of_ble_eq_true rfl) ?_
  intro p e s m below meth c A ls C hX hr hlocks hin hA hP hD hS hl
  have hl : lv_has ls 3 [(0, .ref a0)] := hl
  refine lv_aload_n C.1 C.2.1 dX11_errors_0 rfl (lv_at hl 0 rfl) ?_
  refine k_Vi (As := []) (rest := []) C hP hD hS hA (c_X11_useUpTape l D K a0 s0 n0 e0_1) X0_ok trivial (uwV m_10_20 m_10_21 m_10_22 m_1_2 m_10_23) (hdV 0 (by decide +kernel) rfl) ⟨Nat.le_of_ble_eq_true rfl, Nat.le_of_ble_eq_true rfl⟩ rfl rfl (ci := 10) rfl rfl (isC := [0]) (isR := [1, 2, 3, 4, 5, 6, 7, 8, 9, 10, 11, 12, 13, 14, 15, 16, 17, 18]) (wr := [(a2, .inr (8, s1)), (a1, .inl (K 2, 8192, .inl f2)), (a3, .inl (K 2, 8192, .inl f3)), (a4, .inr (1, s4)), (a5, .inl (K 0, 7999, .inl f5)), (a6, .inl (K 0, 9, .inl f6)), (a7, .inr (9, s7)), (a8, .inl (K 1, 20, .inr (.inl f8))), (a9, .inl (K 3, 17, .inl f9)), (a10, .inr (0, s10)), (a11, .inr (7, s11)), (a12, .inl (K 3, 10, .inl f12)), (a13, .inl (K 1, 63, .inr (.inl f13))), (a14, .inr (6, s14)), (a15, .inr (3, s15)), (a16, .inl (K 2, 120, .inl (fun _ => 32))), (a17, .inl (K 4, 300, .inr (.inr (.inr (.inr (fun _ => none)))))), (a18, .inl (K 0, 300, .inl f18))]) ⟨rfl, rfl, rfl, rfl, by decide⟩ rfl hl.1 (Nat.le_of_ble_eq_true rfl) dX11_errors_1 ⟨Nat.le_of_ble_eq_true rfl, Nat.le_of_ble_eq_true rfl⟩ (fun r_2 u_1 H locs hw hP hD hS => ?_)
  obtain rfl := hw
  have hP : va_P D vwCl [(a2, .inr (8, s1)), (a1, .inl (K 2, 8192, .inl f2)), (a3, .inl (K 2, 8192, .inl f3)), (a4, .inr (1, s4)), (a5, .inl (K 0, 7999, .inl f5)), (a6, .inl (K 0, 9, .inl f6)), (a7, .inr (9, s7)), (a8, .inl (K 1, 20, .inr (.inl f8))), (a9, .inl (K 3, 17, .inl f9)), (a10, .inr (0, s10)), (a11, .inr (7, s11)), (a12, .inl (K 3, 10, .inl f12)), (a13, .inl (K 1, 63, .inr (.inl f13))), (a14, .inr (6, s14)), (a15, .inr (3, s15)), (a16, .inl (K 2, 120, .inl (fun _ => 32))), (a17, .inl (K 4, 300, .inr (.inr (.inr (.inr (fun _ => none)))))), (a18, .inl (K 0, 300, .inl f18)), (a0, .inr (10, (s0.set 1 (.int 0))))] H := hP
  have hD : va_D A [(a2, .inr (8, s1)), (a1, .inl (K 2, 8192, .inl f2)), (a3, .inl (K 2, 8192, .inl f3)), (a4, .inr (1, s4)), (a5, .inl (K 0, 7999, .inl f5)), (a6, .inl (K 0, 9, .inl f6)), (a7, .inr (9, s7)), (a8, .inl (K 1, 20, .inr (.inl f8))), (a9, .inl (K 3, 17, .inl f9)), (a10, .inr (0, s10)), (a11, .inr (7, s11)), (a12, .inl (K 3, 10, .inl f12)), (a13, .inl (K 1, 63, .inr (.inl f13))), (a14, .inr (6, s14)), (a15, .inr (3, s15)), (a16, .inl (K 2, 120, .inl (fun _ => 32))), (a17, .inl (K 4, 300, .inr (.inr (.inr (.inr (fun _ => none)))))), (a18, .inl (K 0, 300, .inl f18)), (a0, .inr (10, (s0.set 1 (.int 0))))] := hD
  refine lv_istore_n (lv' := [(1, .int 0), (0, .ref a0)]) C.1 C.2.1 dX11_errors_4 rfl hl (by decide) rfl (fun ls hl => ?_)
  refine lv_aload_n C.1 C.2.1 dX11_errors_5 rfl (lv_at hl 1 rfl) ?_
  refine k_get (v := .ref a1) C hP 18 rfl rfl inlX11 0 (by decide) m_2_6 (sn (by decide) e0_0) dX11_errors_6 ?_
  refine lv_iconst (v := 0) C.1 C.2.1 dX11_errors_9 (by decide) ?_
  refine lv_aload_n C.1 C.2.1 dX11_errors_10 rfl (lv_at hl 1 rfl) ?_
  refine k_get (v := .ref a2) C hP 18 rfl rfl inlX11 2 (by decide) m_2_7 (sn (by decide) e0_2) dX11_errors_11 ?_
  refine k_get (v := .ref a3) C hP 0 rfl rfl inlX9 0 (by decide) m_10_12 e1_0 dX11_errors_14 ?_
  refine lv_iconst (v := 0) C.1 C.2.1 dX11_errors_17 (by decide) ?_
  refine lv_iload_n C.1 C.2.1 dX11_errors_18 rfl (lv_at hl 0 rfl) ?_
  refine k_copy (ws' := [(a2, .inr (8, s1)), (a1, .inl (K 2, 8192, .inl f2)), (a3, .inl (K 2, 8192, .inl (va_cpy f2 f3 0 0 0))), (a4, .inr (1, s4)), (a5, .inl (K 0, 7999, .inl f5)), (a6, .inl (K 0, 9, .inl f6)), (a7, .inr (9, s7)), (a8, .inl (K 1, 20, .inr (.inl f8))), (a9, .inl (K 3, 17, .inl f9)), (a10, .inr (0, s10)), (a11, .inr (7, s11)), (a12, .inl (K 3, 10, .inl f12)), (a13, .inl (K 1, 63, .inr (.inl f13))), (a14, .inr (6, s14)), (a15, .inr (3, s15)), (a16, .inl (K 2, 120, .inl (fun _ => 32))), (a17, .inl (K 4, 300, .inr (.inr (.inr (.inr (fun _ => none)))))), (a18, .inl (K 0, 300, .inl f18)), (a0, .inr (10, (s0.set 1 (.int 0))))]) C hl.1 hP hD hS 1 2 2 rfl rfl rfl rfl (sp := 0) (dp := 0) (n := 0) (by decide) (by decide) (by decide) (by decide) (by decide) (by decide) (Nat.le_of_ble_eq_true rfl) (Nat.le_of_ble_eq_true rfl) (fun i h => absurd h (Nat.not_lt_zero i)) m_10_13 m_10_14 m_10_15 m_10_16 (Nat.le_of_ble_eq_true rfl) (Nat.le_of_ble_eq_true rfl) rfl dX11_errors_19 (fun H locs hP hD hS => ?_)
  refine lv_aload_n C.1 C.2.1 dX11_errors_22 rfl (lv_at hl 1 rfl) ?_
  refine k_get (v := .ref a4) C hP 18 rfl rfl inlX11 4 (by decide) m_2_9 (sn (by decide) e0_4) dX11_errors_23 ?_
  refine k_Vv (As := []) (rest := []) C hP hD hS hA (c_X2_clear l D K a4 a5 a6 a7 a8 a9 s4 n4 f5 f6 s7 n7 f8 f9 e4_0 e4_1 e4_2 e7_3 e7_5) X0_ok trivial (uwV m_11_0 m_11_1 m_11_2 m_1_23 m_11_3) (hdV 0 (by decide +kernel) rfl) ⟨Nat.le_of_ble_eq_true rfl, Nat.le_of_ble_eq_true rfl⟩ rfl rfl (ci := 1) rfl rfl (isC := [3, 4, 5, 6, 7, 8]) (isR := [0, 1, 2, 9, 10, 11, 12, 13, 14, 15, 16, 17, 18]) (wr := [(a2, .inr (8, s1)), (a1, .inl (K 2, 8192, .inl f2)), (a3, .inl (K 2, 8192, .inl (va_cpy f2 f3 0 0 0))), (a10, .inr (0, s10)), (a11, .inr (7, s11)), (a12, .inl (K 3, 10, .inl f12)), (a13, .inl (K 1, 63, .inr (.inl f13))), (a14, .inr (6, s14)), (a15, .inr (3, s15)), (a16, .inl (K 2, 120, .inl (fun _ => 32))), (a17, .inl (K 4, 300, .inr (.inr (.inr (.inr (fun _ => none)))))), (a18, .inl (K 0, 300, .inl f18)), (a0, .inr (10, (s0.set 1 (.int 0))))]) ⟨rfl, rfl, rfl, rfl, by decide⟩ rfl hl.1 (Nat.le_of_ble_eq_true rfl) dX11_errors_26 ⟨Nat.le_of_ble_eq_true rfl, Nat.le_of_ble_eq_true rfl⟩ (fun u_3 H locs hw hP hD hS => ?_)
  have hP : va_P D vwCl [(a2, .inr (8, s1)), (a1, .inl (K 2, 8192, .inl f2)), (a3, .inl (K 2, 8192, .inl (va_cpy f2 f3 0 0 0))), (a10, .inr (0, s10)), (a11, .inr (7, s11)), (a12, .inl (K 3, 10, .inl f12)), (a13, .inl (K 1, 63, .inr (.inl f13))), (a14, .inr (6, s14)), (a15, .inr (3, s15)), (a16, .inl (K 2, 120, .inl (fun _ => 32))), (a17, .inl (K 4, 300, .inr (.inr (.inr (.inr (fun _ => none)))))), (a18, .inl (K 0, 300, .inl f18)), (a0, .inr (10, (s0.set 1 (.int 0)))), (a4, .inr (1, (((((((s4.set 3 (.int 0)).set 4 (.int 0)).set 5 (.int 0)).set 6 (.long 0)).set 8 (.int 9)).set 9 (.int 0)).set 10 (.int 0)))), (a5, .inl (K 0, 7999, .inl (fun _ => 0))), (a6, .inl (K 0, 9, .inl (fun _ => 0))), (a7, .inr (9, (s7.set 8 (.int 0)))), (a8, .inl (K 1, 20, .inr (.inl (fun _ => 0)))), (a9, .inl (K 3, 17, .inl (upd (upd (upd (upd (upd (upd (upd (upd (upd (upd (upd (upd (upd (upd (upd (upd (upd f9 0 0) 1 0) 2 0) 3 0) 4 0) 5 0) 6 0) 7 0) 8 0) 9 0) 10 0) 11 0) 12 0) 13 0) 14 0) 15 0) 16 0)))] H := hP
  have hD : va_D A [(a2, .inr (8, s1)), (a1, .inl (K 2, 8192, .inl f2)), (a3, .inl (K 2, 8192, .inl (va_cpy f2 f3 0 0 0))), (a10, .inr (0, s10)), (a11, .inr (7, s11)), (a12, .inl (K 3, 10, .inl f12)), (a13, .inl (K 1, 63, .inr (.inl f13))), (a14, .inr (6, s14)), (a15, .inr (3, s15)), (a16, .inl (K 2, 120, .inl (fun _ => 32))), (a17, .inl (K 4, 300, .inr (.inr (.inr (.inr (fun _ => none)))))), (a18, .inl (K 0, 300, .inl f18)), (a0, .inr (10, (s0.set 1 (.int 0)))), (a4, .inr (1, (((((((s4.set 3 (.int 0)).set 4 (.int 0)).set 5 (.int 0)).set 6 (.long 0)).set 8 (.int 9)).set 9 (.int 0)).set 10 (.int 0)))), (a5, .inl (K 0, 7999, .inl (fun _ => 0))), (a6, .inl (K 0, 9, .inl (fun _ => 0))), (a7, .inr (9, (s7.set 8 (.int 0)))), (a8, .inl (K 1, 20, .inr (.inl (fun _ => 0)))), (a9, .inl (K 3, 17, .inl (upd (upd (upd (upd (upd (upd (upd (upd (upd (upd (upd (upd (upd (upd (upd (upd (upd f9 0 0) 1 0) 2 0) 3 0) 4 0) 5 0) 6 0) 7 0) 8 0) 9 0) 10 0) 11 0) 12 0) 13 0) 14 0) 15 0) 16 0)))] := hD
  refine lv_aload_n C.1 C.2.1 dX11_errors_29 rfl (lv_at hl 1 rfl) ?_
  refine k_get (v := .ref a10) C hP 12 rfl rfl inlX11 5 (by decide) m_2_10 (sn (by decide) e0_5) dX11_errors_30 ?_
  refine lv_iconst (v := 0) C.1 C.2.1 dX11_errors_33 (by decide) ?_
  refine lv_iload_n C.1 C.2.1 dX11_errors_34 rfl (lv_at hl 0 rfl) ?_
  refine lv_iconst (v := 0) C.1 C.2.1 dX11_errors_35 (by decide) ?_
  refine k_Vv (As := [.int 0, .int 0, .int 0]) (rest := []) C hP hD hS hA (c_X0_open l D K a10 a2 a3 a11 a12 a13 s10 n10 s1 n1 (va_cpy f2 f3 0 0 0) s11 n11 f12 f13 e10_0 e1_0 e10_2 e11_8 e10_4) X0_ok trivial (uwV m_11_22 m_11_23 m_12_0 m_2_2 m_12_1) (hdV 3 (by decide +kernel) rfl) ⟨Nat.le_of_ble_eq_true rfl, Nat.le_of_ble_eq_true rfl⟩ rfl rfl (ci := 0) rfl rfl (isC := [3, 0, 2, 4, 5, 6]) (isR := [1, 7, 8, 9, 10, 11, 12, 13, 14, 15, 16, 17, 18]) (wr := [(a1, .inl (K 2, 8192, .inl f2)), (a14, .inr (6, s14)), (a15, .inr (3, s15)), (a16, .inl (K 2, 120, .inl (fun _ => 32))), (a17, .inl (K 4, 300, .inr (.inr (.inr (.inr (fun _ => none)))))), (a18, .inl (K 0, 300, .inl f18)), (a0, .inr (10, (s0.set 1 (.int 0)))), (a4, .inr (1, (((((((s4.set 3 (.int 0)).set 4 (.int 0)).set 5 (.int 0)).set 6 (.long 0)).set 8 (.int 9)).set 9 (.int 0)).set 10 (.int 0)))), (a5, .inl (K 0, 7999, .inl (fun _ => 0))), (a6, .inl (K 0, 9, .inl (fun _ => 0))), (a7, .inr (9, (s7.set 8 (.int 0)))), (a8, .inl (K 1, 20, .inr (.inl (fun _ => 0)))), (a9, .inl (K 3, 17, .inl (upd (upd (upd (upd (upd (upd (upd (upd (upd (upd (upd (upd (upd (upd (upd (upd (upd f9 0 0) 1 0) 2 0) 3 0) 4 0) 5 0) 6 0) 7 0) 8 0) 9 0) 10 0) 11 0) 12 0) 13 0) 14 0) 15 0) 16 0)))]) ⟨rfl, rfl, rfl, rfl, by decide⟩ rfl hl.1 (Nat.le_of_ble_eq_true rfl) dX11_errors_36 ⟨Nat.le_of_ble_eq_true rfl, Nat.le_of_ble_eq_true rfl⟩ (fun u_5 H locs hw hP hD hS => ?_)
  have hP : va_P D vwCl [(a1, .inl (K 2, 8192, .inl f2)), (a14, .inr (6, s14)), (a15, .inr (3, s15)), (a16, .inl (K 2, 120, .inl (fun _ => 32))), (a17, .inl (K 4, 300, .inr (.inr (.inr (.inr (fun _ => none)))))), (a18, .inl (K 0, 300, .inl f18)), (a0, .inr (10, (s0.set 1 (.int 0)))), (a4, .inr (1, (((((((s4.set 3 (.int 0)).set 4 (.int 0)).set 5 (.int 0)).set 6 (.long 0)).set 8 (.int 9)).set 9 (.int 0)).set 10 (.int 0)))), (a5, .inl (K 0, 7999, .inl (fun _ => 0))), (a6, .inl (K 0, 9, .inl (fun _ => 0))), (a7, .inr (9, (s7.set 8 (.int 0)))), (a8, .inl (K 1, 20, .inr (.inl (fun _ => 0)))), (a9, .inl (K 3, 17, .inl (upd (upd (upd (upd (upd (upd (upd (upd (upd (upd (upd (upd (upd (upd (upd (upd (upd f9 0 0) 1 0) 2 0) 3 0) 4 0) 5 0) 6 0) 7 0) 8 0) 9 0) 10 0) 11 0) 12 0) 13 0) 14 0) 15 0) 16 0))), (a10, .inr (0, (((((((s10.set 7 (.int 0)).set 9 (.int 0)).set 10 (.int (-3999))).set 15 (.int 0)).set 16 (.int 0)).set 17 (.int 0)).set 19 (.int 0)))), (a2, .inr (8, ((((s1.set 6 (.int 0)).set 7 (.int 0)).set 4 (.int 0)).set 5 (.int 0)))), (a3, .inl (K 2, 8192, .inl (va_cpy f2 f3 0 0 0))), (a11, .inr (7, (((s11.set 3 (.int 0)).set 6 (.int 0)).set 12 (.int 0)))), (a12, .inl (K 3, 10, .inl (fun _ => 0))), (a13, .inl (K 1, 63, .inr (.inl (fun _ => 0))))] H := hP
  have hD : va_D A [(a1, .inl (K 2, 8192, .inl f2)), (a14, .inr (6, s14)), (a15, .inr (3, s15)), (a16, .inl (K 2, 120, .inl (fun _ => 32))), (a17, .inl (K 4, 300, .inr (.inr (.inr (.inr (fun _ => none)))))), (a18, .inl (K 0, 300, .inl f18)), (a0, .inr (10, (s0.set 1 (.int 0)))), (a4, .inr (1, (((((((s4.set 3 (.int 0)).set 4 (.int 0)).set 5 (.int 0)).set 6 (.long 0)).set 8 (.int 9)).set 9 (.int 0)).set 10 (.int 0)))), (a5, .inl (K 0, 7999, .inl (fun _ => 0))), (a6, .inl (K 0, 9, .inl (fun _ => 0))), (a7, .inr (9, (s7.set 8 (.int 0)))), (a8, .inl (K 1, 20, .inr (.inl (fun _ => 0)))), (a9, .inl (K 3, 17, .inl (upd (upd (upd (upd (upd (upd (upd (upd (upd (upd (upd (upd (upd (upd (upd (upd (upd f9 0 0) 1 0) 2 0) 3 0) 4 0) 5 0) 6 0) 7 0) 8 0) 9 0) 10 0) 11 0) 12 0) 13 0) 14 0) 15 0) 16 0))), (a10, .inr (0, (((((((s10.set 7 (.int 0)).set 9 (.int 0)).set 10 (.int (-3999))).set 15 (.int 0)).set 16 (.int 0)).set 17 (.int 0)).set 19 (.int 0)))), (a2, .inr (8, ((((s1.set 6 (.int 0)).set 7 (.int 0)).set 4 (.int 0)).set 5 (.int 0)))), (a3, .inl (K 2, 8192, .inl (va_cpy f2 f3 0 0 0))), (a11, .inr (7, (((s11.set 3 (.int 0)).set 6 (.int 0)).set 12 (.int 0)))), (a12, .inl (K 3, 10, .inl (fun _ => 0))), (a13, .inl (K 1, 63, .inr (.inl (fun _ => 0))))] := hD
  refine lv_aload_n C.1 C.2.1 dX11_errors_39 rfl (lv_at hl 1 rfl) ?_
  refine k_get (v := .ref a14) C hP 6 rfl rfl inlX11 6 (by decide) m_2_14 (sn (by decide) e0_6) dX11_errors_40 ?_
  refine lv_bipush (v := 120) C.1 C.2.1 dX11_errors_43 (by decide) ?_
  refine lv_iconst (v := 0) C.1 C.2.1 dX11_errors_45 (by decide) ?_
  refine k_Vi (As := [.int 120, .int 0]) (rest := []) C hP hD hS hA (c_X7_printWrongs l D K a14 a10 a2 a15 a16 a17 a18 s14 n14 ((((((((s10.set 7 (.int 0)).set 9 (.int 0)).set 10 (.int (-3999))).set 15 (.int 0)).set 16 (.int 0)).set 17 (.int 0)).set 19 (.int 0))) (sl (sl (sl (sl (sl (sl (sl n10))))))) (((((s1.set 6 (.int 0)).set 7 (.int 0)).set 4 (.int 0)).set 5 (.int 0))) (sl (sl (sl (sl n1)))) s15 n15 f18 e14_1 (sn (by decide) (sn (by decide) (sn (by decide) (ss (sk (sl (sl (sl n10))) (by decide)))))) (sn (by decide) (sn (by decide) (sn (by decide) (sn (by decide) (sn (by decide) (sn (by decide) (sn (by decide) e10_0))))))) (ss (sk (sl (sl (sl n1))) (by decide))) (sn (by decide) (ss (sk (sl (sl n1)) (by decide)))) (sn (by decide) (sn (by decide) (ss (sk (sl n1) (by decide))))) e14_2 e15_2 e15_3 e15_0 e15_1) XX_ok hX (uwV m_40_9 m_40_10 m_40_11 m_2_13 m_40_12) (hdV 2 (by decide +kernel) rfl) ⟨Nat.le_of_ble_eq_true rfl, Nat.le_of_ble_eq_true rfl⟩ rfl rfl (ci := 6) rfl rfl (isC := [1, 13, 14, 2, 3, 4, 5]) (isR := [0, 6, 7, 8, 9, 10, 11, 12, 15, 16, 17, 18]) (wr := [(a1, .inl (K 2, 8192, .inl f2)), (a0, .inr (10, (s0.set 1 (.int 0)))), (a4, .inr (1, (((((((s4.set 3 (.int 0)).set 4 (.int 0)).set 5 (.int 0)).set 6 (.long 0)).set 8 (.int 9)).set 9 (.int 0)).set 10 (.int 0)))), (a5, .inl (K 0, 7999, .inl (fun _ => 0))), (a6, .inl (K 0, 9, .inl (fun _ => 0))), (a7, .inr (9, (s7.set 8 (.int 0)))), (a8, .inl (K 1, 20, .inr (.inl (fun _ => 0)))), (a9, .inl (K 3, 17, .inl (upd (upd (upd (upd (upd (upd (upd (upd (upd (upd (upd (upd (upd (upd (upd (upd (upd f9 0 0) 1 0) 2 0) 3 0) 4 0) 5 0) 6 0) 7 0) 8 0) 9 0) 10 0) 11 0) 12 0) 13 0) 14 0) 15 0) 16 0))), (a3, .inl (K 2, 8192, .inl (va_cpy f2 f3 0 0 0))), (a11, .inr (7, (((s11.set 3 (.int 0)).set 6 (.int 0)).set 12 (.int 0)))), (a12, .inl (K 3, 10, .inl (fun _ => 0))), (a13, .inl (K 1, 63, .inr (.inl (fun _ => 0))))]) ⟨rfl, rfl, rfl, rfl, by decide⟩ rfl hl.1 (Nat.le_of_ble_eq_true rfl) dX11_errors_46 ⟨Nat.le_of_ble_eq_true rfl, Nat.le_of_ble_eq_true rfl⟩ (fun r_8 u_7 H locs hw hP hD hS => ?_)
  obtain rfl := hw
  have hP : va_P D vwCl [(a1, .inl (K 2, 8192, .inl f2)), (a0, .inr (10, (s0.set 1 (.int 0)))), (a4, .inr (1, (((((((s4.set 3 (.int 0)).set 4 (.int 0)).set 5 (.int 0)).set 6 (.long 0)).set 8 (.int 9)).set 9 (.int 0)).set 10 (.int 0)))), (a5, .inl (K 0, 7999, .inl (fun _ => 0))), (a6, .inl (K 0, 9, .inl (fun _ => 0))), (a7, .inr (9, (s7.set 8 (.int 0)))), (a8, .inl (K 1, 20, .inr (.inl (fun _ => 0)))), (a9, .inl (K 3, 17, .inl (upd (upd (upd (upd (upd (upd (upd (upd (upd (upd (upd (upd (upd (upd (upd (upd (upd f9 0 0) 1 0) 2 0) 3 0) 4 0) 5 0) 6 0) 7 0) 8 0) 9 0) 10 0) 11 0) 12 0) 13 0) 14 0) 15 0) 16 0))), (a3, .inl (K 2, 8192, .inl (va_cpy f2 f3 0 0 0))), (a11, .inr (7, (((s11.set 3 (.int 0)).set 6 (.int 0)).set 12 (.int 0)))), (a12, .inl (K 3, 10, .inl (fun _ => 0))), (a13, .inl (K 1, 63, .inr (.inl (fun _ => 0)))), (a14, .inr (6, s14)), (a10, .inr (0, (((((((((s10.set 7 (.int 0)).set 9 (.int 0)).set 10 (.int (-3999))).set 15 (.int 0)).set 16 (.int 0)).set 17 (.int 0)).set 19 (.int 0)).set 15 (.int 1)).set 18 (.int 7)))), (a2, .inr (8, (((((s1.set 6 (.int 0)).set 7 (.int 0)).set 4 (.int 0)).set 5 (.int 0)).set 5 (.int 1)))), (a15, .inr (3, (s15.set 3 (.int 1)))), (a16, .inl (K 2, 120, .inl (fun _ => 32))), (a17, .inl (K 4, 300, .inr (.inr (.inr (.inr (va_up (fun _ => none) 0 (some (u_7 0)))))))), (a18, .inl (K 0, 300, .inl (upd f18 0 6))), ((u_7 0), .inl (K 2, 120, .inl (va_cpy (upd (upd (upd (upd (upd (fun _ => 32) 3 49) 2 48) 1 48) 0 48) 5 55) (fun _ => 0) 0 0 6)))] H := hP
  have hD : va_D A [(a1, .inl (K 2, 8192, .inl f2)), (a0, .inr (10, (s0.set 1 (.int 0)))), (a4, .inr (1, (((((((s4.set 3 (.int 0)).set 4 (.int 0)).set 5 (.int 0)).set 6 (.long 0)).set 8 (.int 9)).set 9 (.int 0)).set 10 (.int 0)))), (a5, .inl (K 0, 7999, .inl (fun _ => 0))), (a6, .inl (K 0, 9, .inl (fun _ => 0))), (a7, .inr (9, (s7.set 8 (.int 0)))), (a8, .inl (K 1, 20, .inr (.inl (fun _ => 0)))), (a9, .inl (K 3, 17, .inl (upd (upd (upd (upd (upd (upd (upd (upd (upd (upd (upd (upd (upd (upd (upd (upd (upd f9 0 0) 1 0) 2 0) 3 0) 4 0) 5 0) 6 0) 7 0) 8 0) 9 0) 10 0) 11 0) 12 0) 13 0) 14 0) 15 0) 16 0))), (a3, .inl (K 2, 8192, .inl (va_cpy f2 f3 0 0 0))), (a11, .inr (7, (((s11.set 3 (.int 0)).set 6 (.int 0)).set 12 (.int 0)))), (a12, .inl (K 3, 10, .inl (fun _ => 0))), (a13, .inl (K 1, 63, .inr (.inl (fun _ => 0)))), (a14, .inr (6, s14)), (a10, .inr (0, (((((((((s10.set 7 (.int 0)).set 9 (.int 0)).set 10 (.int (-3999))).set 15 (.int 0)).set 16 (.int 0)).set 17 (.int 0)).set 19 (.int 0)).set 15 (.int 1)).set 18 (.int 7)))), (a2, .inr (8, (((((s1.set 6 (.int 0)).set 7 (.int 0)).set 4 (.int 0)).set 5 (.int 0)).set 5 (.int 1)))), (a15, .inr (3, (s15.set 3 (.int 1)))), (a16, .inl (K 2, 120, .inl (fun _ => 32))), (a17, .inl (K 4, 300, .inr (.inr (.inr (.inr (va_up (fun _ => none) 0 (some (u_7 0)))))))), (a18, .inl (K 0, 300, .inl (upd f18 0 6))), ((u_7 0), .inl (K 2, 120, .inl (va_cpy (upd (upd (upd (upd (upd (fun _ => 32) 3 49) 2 48) 1 48) 0 48) 5 55) (fun _ => 0) 0 0 6)))] := hD
  refine lv_istore_n (lv' := [(2, .int 1), (1, .int 0), (0, .ref a0)]) C.1 C.2.1 dX11_errors_49 rfl hl (by decide) rfl (fun ls hl => ?_)
  refine lv_aload_n C.1 C.2.1 dX11_errors_50 rfl (lv_at hl 2 rfl) ?_
  refine k_get (v := .ref a4) C hP 1 rfl rfl inlX11 4 (by decide) m_2_9 (sn (by decide) e0_4) dX11_errors_51 ?_
  refine k_Vv (As := []) (rest := []) C hP hD hS hA (c_X2_clear l D K a4 a5 a6 a7 a8 a9 ((((((((s4.set 3 (.int 0)).set 4 (.int 0)).set 5 (.int 0)).set 6 (.long 0)).set 8 (.int 9)).set 9 (.int 0)).set 10 (.int 0))) (sl (sl (sl (sl (sl (sl (sl n4))))))) (fun _ => 0) (fun _ => 0) ((s7.set 8 (.int 0))) (sl n7) (fun _ => 0) (upd (upd (upd (upd (upd (upd (upd (upd (upd (upd (upd (upd (upd (upd (upd (upd (upd f9 0 0) 1 0) 2 0) 3 0) 4 0) 5 0) 6 0) 7 0) 8 0) 9 0) 10 0) 11 0) 12 0) 13 0) 14 0) 15 0) 16 0) (sn (by decide) (sn (by decide) (sn (by decide) (sn (by decide) (sn (by decide) (sn (by decide) (sn (by decide) e4_0))))))) (sn (by decide) (sn (by decide) (sn (by decide) (sn (by decide) (sn (by decide) (sn (by decide) (sn (by decide) e4_1))))))) (sn (by decide) (sn (by decide) (sn (by decide) (sn (by decide) (sn (by decide) (sn (by decide) (sn (by decide) e4_2))))))) (sn (by decide) e7_3) (sn (by decide) e7_5)) X0_ok trivial (uwV m_11_0 m_11_1 m_11_2 m_1_23 m_11_3) (hdV 0 (by decide +kernel) rfl) ⟨Nat.le_of_ble_eq_true rfl, Nat.le_of_ble_eq_true rfl⟩ rfl rfl (ci := 1) rfl rfl (isC := [2, 3, 4, 5, 6, 7]) (isR := [0, 1, 8, 9, 10, 11, 12, 13, 14, 15, 16, 17, 18, 19]) (wr := [(a1, .inl (K 2, 8192, .inl f2)), (a0, .inr (10, (s0.set 1 (.int 0)))), (a3, .inl (K 2, 8192, .inl (va_cpy f2 f3 0 0 0))), (a11, .inr (7, (((s11.set 3 (.int 0)).set 6 (.int 0)).set 12 (.int 0)))), (a12, .inl (K 3, 10, .inl (fun _ => 0))), (a13, .inl (K 1, 63, .inr (.inl (fun _ => 0)))), (a14, .inr (6, s14)), (a10, .inr (0, (((((((((s10.set 7 (.int 0)).set 9 (.int 0)).set 10 (.int (-3999))).set 15 (.int 0)).set 16 (.int 0)).set 17 (.int 0)).set 19 (.int 0)).set 15 (.int 1)).set 18 (.int 7)))), (a2, .inr (8, (((((s1.set 6 (.int 0)).set 7 (.int 0)).set 4 (.int 0)).set 5 (.int 0)).set 5 (.int 1)))), (a15, .inr (3, (s15.set 3 (.int 1)))), (a16, .inl (K 2, 120, .inl (fun _ => 32))), (a17, .inl (K 4, 300, .inr (.inr (.inr (.inr (va_up (fun _ => none) 0 (some (u_7 0)))))))), (a18, .inl (K 0, 300, .inl (upd f18 0 6))), ((u_7 0), .inl (K 2, 120, .inl (va_cpy (upd (upd (upd (upd (upd (fun _ => 32) 3 49) 2 48) 1 48) 0 48) 5 55) (fun _ => 0) 0 0 6)))]) ⟨rfl, rfl, rfl, rfl, by decide⟩ rfl hl.1 (Nat.le_of_ble_eq_true rfl) dX11_errors_54 ⟨Nat.le_of_ble_eq_true rfl, Nat.le_of_ble_eq_true rfl⟩ (fun u_9 H locs hw hP hD hS => ?_)
  have hP : va_P D vwCl [(a1, .inl (K 2, 8192, .inl f2)), (a0, .inr (10, (s0.set 1 (.int 0)))), (a3, .inl (K 2, 8192, .inl (va_cpy f2 f3 0 0 0))), (a11, .inr (7, (((s11.set 3 (.int 0)).set 6 (.int 0)).set 12 (.int 0)))), (a12, .inl (K 3, 10, .inl (fun _ => 0))), (a13, .inl (K 1, 63, .inr (.inl (fun _ => 0)))), (a14, .inr (6, s14)), (a10, .inr (0, (((((((((s10.set 7 (.int 0)).set 9 (.int 0)).set 10 (.int (-3999))).set 15 (.int 0)).set 16 (.int 0)).set 17 (.int 0)).set 19 (.int 0)).set 15 (.int 1)).set 18 (.int 7)))), (a2, .inr (8, (((((s1.set 6 (.int 0)).set 7 (.int 0)).set 4 (.int 0)).set 5 (.int 0)).set 5 (.int 1)))), (a15, .inr (3, (s15.set 3 (.int 1)))), (a16, .inl (K 2, 120, .inl (fun _ => 32))), (a17, .inl (K 4, 300, .inr (.inr (.inr (.inr (va_up (fun _ => none) 0 (some (u_7 0)))))))), (a18, .inl (K 0, 300, .inl (upd f18 0 6))), ((u_7 0), .inl (K 2, 120, .inl (va_cpy (upd (upd (upd (upd (upd (fun _ => 32) 3 49) 2 48) 1 48) 0 48) 5 55) (fun _ => 0) 0 0 6))), (a4, .inr (1, ((((((((((((((s4.set 3 (.int 0)).set 4 (.int 0)).set 5 (.int 0)).set 6 (.long 0)).set 8 (.int 9)).set 9 (.int 0)).set 10 (.int 0)).set 3 (.int 0)).set 4 (.int 0)).set 5 (.int 0)).set 6 (.long 0)).set 8 (.int 9)).set 9 (.int 0)).set 10 (.int 0)))), (a5, .inl (K 0, 7999, .inl (fun _ => 0))), (a6, .inl (K 0, 9, .inl (fun _ => 0))), (a7, .inr (9, ((s7.set 8 (.int 0)).set 8 (.int 0)))), (a8, .inl (K 1, 20, .inr (.inl (fun _ => 0)))), (a9, .inl (K 3, 17, .inl (upd (upd (upd (upd (upd (upd (upd (upd (upd (upd (upd (upd (upd (upd (upd (upd (upd (upd (upd (upd (upd (upd (upd (upd (upd (upd (upd (upd (upd (upd (upd (upd (upd (upd f9 0 0) 1 0) 2 0) 3 0) 4 0) 5 0) 6 0) 7 0) 8 0) 9 0) 10 0) 11 0) 12 0) 13 0) 14 0) 15 0) 16 0) 0 0) 1 0) 2 0) 3 0) 4 0) 5 0) 6 0) 7 0) 8 0) 9 0) 10 0) 11 0) 12 0) 13 0) 14 0) 15 0) 16 0)))] H := hP
  have hD : va_D A [(a1, .inl (K 2, 8192, .inl f2)), (a0, .inr (10, (s0.set 1 (.int 0)))), (a3, .inl (K 2, 8192, .inl (va_cpy f2 f3 0 0 0))), (a11, .inr (7, (((s11.set 3 (.int 0)).set 6 (.int 0)).set 12 (.int 0)))), (a12, .inl (K 3, 10, .inl (fun _ => 0))), (a13, .inl (K 1, 63, .inr (.inl (fun _ => 0)))), (a14, .inr (6, s14)), (a10, .inr (0, (((((((((s10.set 7 (.int 0)).set 9 (.int 0)).set 10 (.int (-3999))).set 15 (.int 0)).set 16 (.int 0)).set 17 (.int 0)).set 19 (.int 0)).set 15 (.int 1)).set 18 (.int 7)))), (a2, .inr (8, (((((s1.set 6 (.int 0)).set 7 (.int 0)).set 4 (.int 0)).set 5 (.int 0)).set 5 (.int 1)))), (a15, .inr (3, (s15.set 3 (.int 1)))), (a16, .inl (K 2, 120, .inl (fun _ => 32))), (a17, .inl (K 4, 300, .inr (.inr (.inr (.inr (va_up (fun _ => none) 0 (some (u_7 0)))))))), (a18, .inl (K 0, 300, .inl (upd f18 0 6))), ((u_7 0), .inl (K 2, 120, .inl (va_cpy (upd (upd (upd (upd (upd (fun _ => 32) 3 49) 2 48) 1 48) 0 48) 5 55) (fun _ => 0) 0 0 6))), (a4, .inr (1, ((((((((((((((s4.set 3 (.int 0)).set 4 (.int 0)).set 5 (.int 0)).set 6 (.long 0)).set 8 (.int 9)).set 9 (.int 0)).set 10 (.int 0)).set 3 (.int 0)).set 4 (.int 0)).set 5 (.int 0)).set 6 (.long 0)).set 8 (.int 9)).set 9 (.int 0)).set 10 (.int 0)))), (a5, .inl (K 0, 7999, .inl (fun _ => 0))), (a6, .inl (K 0, 9, .inl (fun _ => 0))), (a7, .inr (9, ((s7.set 8 (.int 0)).set 8 (.int 0)))), (a8, .inl (K 1, 20, .inr (.inl (fun _ => 0)))), (a9, .inl (K 3, 17, .inl (upd (upd (upd (upd (upd (upd (upd (upd (upd (upd (upd (upd (upd (upd (upd (upd (upd (upd (upd (upd (upd (upd (upd (upd (upd (upd (upd (upd (upd (upd (upd (upd (upd (upd f9 0 0) 1 0) 2 0) 3 0) 4 0) 5 0) 6 0) 7 0) 8 0) 9 0) 10 0) 11 0) 12 0) 13 0) 14 0) 15 0) 16 0) 0 0) 1 0) 2 0) 3 0) 4 0) 5 0) 6 0) 7 0) 8 0) 9 0) 10 0) 11 0) 12 0) 13 0) 14 0) 15 0) 16 0)))] := hD
  refine lv_iload_n C.1 C.2.1 dX11_errors_57 rfl (lv_at hl 0 rfl) ?_
  exact k_iret C hr hlocks hP hD hS rfl (fun _ => 0) [] rfl rfl rfl (Nat.le_of_ble_eq_true rfl) (Nat.le_of_ble_eq_true rfl) dX11_errors_58
