theorem dX12_account_0 : decode cX12_account 0 = .ok (.aload_n 0, 1) := by decide +kernel
theorem dX12_account_1 : decode cX12_account 1 = .ok (.iconst 0, 1) := by decide +kernel
theorem dX12_account_10 : decode cX12_account 10 = .ok (.aload_n 0, 1) := by decide +kernel
theorem dX12_account_11 : decode cX12_account 11 = .ok (.getfield 849, 3) := by decide +kernel
theorem dX12_account_14 : decode cX12_account 14 = .ok (.if_icmp .ge 12, 3) := by decide +kernel
theorem dX12_account_17 : decode cX12_account 17 = .ok (.iload_n 2, 1) := by decide +kernel
theorem dX12_account_18 : decode cX12_account 18 = .ok (.ifCond .lt 8, 3) := by decide +kernel
theorem dX12_account_2 : decode cX12_account 2 = .ok (.putfield 155, 3) := by decide +kernel
theorem dX12_account_21 : decode cX12_account 21 = .ok (.iload_n 2, 1) := by decide +kernel
theorem dX12_account_22 : decode cX12_account 22 = .ok (.iconst 3, 1) := by decide +kernel
theorem dX12_account_23 : decode cX12_account 23 = .ok (.if_icmp .le 5, 3) := by decide +kernel
theorem dX12_account_26 : decode cX12_account 26 = .ok (.iconst (-1), 1) := by decide +kernel
theorem dX12_account_27 : decode cX12_account 27 = .ok (.ireturn, 1) := by decide +kernel
theorem dX12_account_28 : decode cX12_account 28 = .ok (.iload_n 2, 1) := by decide +kernel
theorem dX12_account_29 : decode cX12_account 29 = .ok (.ifCond .ne 12, 3) := by decide +kernel
theorem dX12_account_32 : decode cX12_account 32 = .ok (.aload_n 0, 1) := by decide +kernel
theorem dX12_account_33 : decode cX12_account 33 = .ok (.getfield 137, 3) := by decide +kernel
theorem dX12_account_36 : decode cX12_account 36 = .ok (.iload_n 1, 1) := by decide +kernel
theorem dX12_account_37 : decode cX12_account 37 = .ok (.iaload, 1) := by decide +kernel
theorem dX12_account_38 : decode cX12_account 38 = .ok (.goto 37, 3) := by decide +kernel
theorem dX12_account_41 : decode cX12_account 41 = .ok (.iload_n 2, 1) := by decide +kernel
theorem dX12_account_42 : decode cX12_account 42 = .ok (.iconst 1, 1) := by decide +kernel
theorem dX12_account_43 : decode cX12_account 43 = .ok (.if_icmp .ne 12, 3) := by decide +kernel
theorem dX12_account_46 : decode cX12_account 46 = .ok (.aload_n 0, 1) := by decide +kernel
theorem dX12_account_47 : decode cX12_account 47 = .ok (.getfield 140, 3) := by decide +kernel
theorem dX12_account_5 : decode cX12_account 5 = .ok (.iload_n 1, 1) := by decide +kernel
theorem dX12_account_50 : decode cX12_account 50 = .ok (.iload_n 1, 1) := by decide +kernel
theorem dX12_account_51 : decode cX12_account 51 = .ok (.iaload, 1) := by decide +kernel
theorem dX12_account_52 : decode cX12_account 52 = .ok (.goto 23, 3) := by decide +kernel
theorem dX12_account_55 : decode cX12_account 55 = .ok (.iload_n 2, 1) := by decide +kernel
theorem dX12_account_56 : decode cX12_account 56 = .ok (.iconst 2, 1) := by decide +kernel
theorem dX12_account_57 : decode cX12_account 57 = .ok (.if_icmp .ne 12, 3) := by decide +kernel
theorem dX12_account_6 : decode cX12_account 6 = .ok (.ifCond .lt 20, 3) := by decide +kernel
theorem dX12_account_60 : decode cX12_account 60 = .ok (.aload_n 0, 1) := by decide +kernel
theorem dX12_account_61 : decode cX12_account 61 = .ok (.getfield 143, 3) := by decide +kernel
theorem dX12_account_64 : decode cX12_account 64 = .ok (.iload_n 1, 1) := by decide +kernel
theorem dX12_account_65 : decode cX12_account 65 = .ok (.iaload, 1) := by decide +kernel
theorem dX12_account_66 : decode cX12_account 66 = .ok (.goto 9, 3) := by decide +kernel
theorem dX12_account_69 : decode cX12_account 69 = .ok (.aload_n 0, 1) := by decide +kernel
theorem dX12_account_70 : decode cX12_account 70 = .ok (.getfield 146, 3) := by decide +kernel
theorem dX12_account_73 : decode cX12_account 73 = .ok (.iload_n 1, 1) := by decide +kernel
theorem dX12_account_74 : decode cX12_account 74 = .ok (.iaload, 1) := by decide +kernel
theorem dX12_account_75 : decode cX12_account 75 = .ok (.ireturn, 1) := by decide +kernel
theorem dX12_account_9 : decode cX12_account 9 = .ok (.iload_n 1, 1) := by decide +kernel
theorem dX12_addTo_0 : decode cX12_addTo 0 = .ok (.aload_n 0, 1) := by decide +kernel
theorem dX12_addTo_1 : decode cX12_addTo 1 = .ok (.getfield 17, 3) := by decide +kernel
theorem dX12_addTo_10 : decode cX12_addTo 10 = .ok (.lload_n 2, 1) := by decide +kernel
theorem dX12_addTo_11 : decode cX12_addTo 11 = .ok (.ladd, 1) := by decide +kernel
theorem dX12_addTo_12 : decode cX12_addTo 12 = .ok (.lstore 4, 2) := by decide +kernel
theorem dX12_addTo_14 : decode cX12_addTo 14 = .ok (.lload 4, 2) := by decide +kernel
theorem dX12_addTo_16 : decode cX12_addTo 16 = .ok (.lconst 0, 1) := by decide +kernel
theorem dX12_addTo_17 : decode cX12_addTo 17 = .ok (.lcmp, 1) := by decide +kernel
theorem dX12_addTo_18 : decode cX12_addTo 18 = .ok (.ifCond .ne 19, 3) := by decide +kernel
theorem dX12_addTo_21 : decode cX12_addTo 21 = .ok (.aload_n 0, 1) := by decide +kernel
theorem dX12_addTo_22 : decode cX12_addTo 22 = .ok (.getfield 17, 3) := by decide +kernel
theorem dX12_addTo_25 : decode cX12_addTo 25 = .ok (.iload_n 1, 1) := by decide +kernel
theorem dX12_addTo_26 : decode cX12_addTo 26 = .ok (.aload_n 0, 1) := by decide +kernel
theorem dX12_addTo_27 : decode cX12_addTo 27 = .ok (.getfield 17, 3) := by decide +kernel
theorem dX12_addTo_30 : decode cX12_addTo 30 = .ok (.iload_n 1, 1) := by decide +kernel
theorem dX12_addTo_31 : decode cX12_addTo 31 = .ok (.iaload, 1) := by decide +kernel
theorem dX12_addTo_32 : decode cX12_addTo 32 = .ok (.ldc 158, 2) := by decide +kernel
theorem dX12_addTo_34 : decode cX12_addTo 34 = .ok (.iand, 1) := by decide +kernel
theorem dX12_addTo_35 : decode cX12_addTo 35 = .ok (.iastore, 1) := by decide +kernel
theorem dX12_addTo_36 : decode cX12_addTo 36 = .ok (.return_, 1) := by decide +kernel
theorem dX12_addTo_37 : decode cX12_addTo 37 = .ok (.lload 4, 2) := by decide +kernel
theorem dX12_addTo_39 : decode cX12_addTo 39 = .ok (.lconst 0, 1) := by decide +kernel
theorem dX12_addTo_4 : decode cX12_addTo 4 = .ok (.iload_n 1, 1) := by decide +kernel
theorem dX12_addTo_40 : decode cX12_addTo 40 = .ok (.lcmp, 1) := by decide +kernel
theorem dX12_addTo_41 : decode cX12_addTo 41 = .ok (.ifCond .ge 9, 3) := by decide +kernel
theorem dX12_addTo_44 : decode cX12_addTo 44 = .ok (.lload 4, 2) := by decide +kernel
theorem dX12_addTo_46 : decode cX12_addTo 46 = .ok (.lneg, 1) := by decide +kernel
theorem dX12_addTo_47 : decode cX12_addTo 47 = .ok (.goto 5, 3) := by decide +kernel
theorem dX12_addTo_5 : decode cX12_addTo 5 = .ok (.iaload, 1) := by decide +kernel
theorem dX12_addTo_50 : decode cX12_addTo 50 = .ok (.lload 4, 2) := by decide +kernel
theorem dX12_addTo_52 : decode cX12_addTo 52 = .ok (.lstore 6, 2) := by decide +kernel
theorem dX12_addTo_54 : decode cX12_addTo 54 = .ok (.lload 6, 2) := by decide +kernel
theorem dX12_addTo_56 : decode cX12_addTo 56 = .ok (.ldc2_w 335, 3) := by decide +kernel
theorem dX12_addTo_59 : decode cX12_addTo 59 = .ok (.lcmp, 1) := by decide +kernel
theorem dX12_addTo_6 : decode cX12_addTo 6 = .ok (.invokestatic 161, 3) := by decide +kernel
theorem dX12_addTo_60 : decode cX12_addTo 60 = .ok (.ifCond .le 8, 3) := by decide +kernel
theorem dX12_addTo_63 : decode cX12_addTo 63 = .ok (.aload_n 0, 1) := by decide +kernel
theorem dX12_addTo_64 : decode cX12_addTo 64 = .ok (.iconst 1, 1) := by decide +kernel
theorem dX12_addTo_65 : decode cX12_addTo 65 = .ok (.putfield 314, 3) := by decide +kernel
theorem dX12_addTo_68 : decode cX12_addTo 68 = .ok (.aload_n 0, 1) := by decide +kernel
theorem dX12_addTo_69 : decode cX12_addTo 69 = .ok (.getfield 17, 3) := by decide +kernel
theorem dX12_addTo_72 : decode cX12_addTo 72 = .ok (.iload_n 1, 1) := by decide +kernel
theorem dX12_addTo_73 : decode cX12_addTo 73 = .ok (.lload 4, 2) := by decide +kernel
theorem dX12_addTo_75 : decode cX12_addTo 75 = .ok (.lconst 0, 1) := by decide +kernel
theorem dX12_addTo_76 : decode cX12_addTo 76 = .ok (.lcmp, 1) := by decide +kernel
theorem dX12_addTo_77 : decode cX12_addTo 77 = .ok (.ifCond .ge 8, 3) := by decide +kernel
theorem dX12_addTo_80 : decode cX12_addTo 80 = .ok (.ldc 158, 2) := by decide +kernel
theorem dX12_addTo_82 : decode cX12_addTo 82 = .ok (.goto 4, 3) := by decide +kernel
theorem dX12_addTo_85 : decode cX12_addTo 85 = .ok (.iconst 0, 1) := by decide +kernel
theorem dX12_addTo_86 : decode cX12_addTo 86 = .ok (.lload 6, 2) := by decide +kernel
theorem dX12_addTo_88 : decode cX12_addTo 88 = .ok (.ldc2_w 335, 3) := by decide +kernel
theorem dX12_addTo_9 : decode cX12_addTo 9 = .ok (.i2l, 1) := by decide +kernel
theorem dX12_addTo_91 : decode cX12_addTo 91 = .ok (.land, 1) := by decide +kernel
theorem dX12_addTo_92 : decode cX12_addTo 92 = .ok (.l2i, 1) := by decide +kernel
theorem dX12_addTo_93 : decode cX12_addTo 93 = .ok (.ior, 1) := by decide +kernel
theorem dX12_addTo_94 : decode cX12_addTo 94 = .ok (.iastore, 1) := by decide +kernel
theorem dX12_addTo_95 : decode cX12_addTo 95 = .ok (.return_, 1) := by decide +kernel
theorem dX12_addressFault_0 : decode cX12_addressFault 0 = .ok (.aload_n 0, 1) := by decide +kernel
theorem dX12_addressFault_1 : decode cX12_addressFault 1 = .ok (.getfield 282, 3) := by decide +kernel
theorem dX12_addressFault_10 : decode cX12_addressFault 10 = .ok (.getfield 251, 3) := by decide +kernel
theorem dX12_addressFault_100 : decode cX12_addressFault 100 = .ok (.bipush 34, 2) := by decide +kernel
theorem dX12_addressFault_102 : decode cX12_addressFault 102 = .ok (.if_icmp .lt 12, 3) := by decide +kernel
theorem dX12_addressFault_105 : decode cX12_addressFault 105 = .ok (.aload_n 0, 1) := by decide +kernel
theorem dX12_addressFault_106 : decode cX12_addressFault 106 = .ok (.getfield 282, 3) := by decide +kernel
theorem dX12_addressFault_109 : decode cX12_addressFault 109 = .ok (.bipush 55, 2) := by decide +kernel
theorem dX12_addressFault_111 : decode cX12_addressFault 111 = .ok (.if_icmp .le 7, 3) := by decide +kernel
theorem dX12_addressFault_114 : decode cX12_addressFault 114 = .ok (.iconst 1, 1) := by decide +kernel
theorem dX12_addressFault_115 : decode cX12_addressFault 115 = .ok (.goto 4, 3) := by decide +kernel
theorem dX12_addressFault_118 : decode cX12_addressFault 118 = .ok (.iconst 0, 1) := by decide +kernel
theorem dX12_addressFault_119 : decode cX12_addressFault 119 = .ok (.istore_n 1, 1) := by decide +kernel
theorem dX12_addressFault_120 : decode cX12_addressFault 120 = .ok (.iload_n 1, 1) := by decide +kernel
theorem dX12_addressFault_121 : decode cX12_addressFault 121 = .ok (.ifCond .eq 20, 3) := by decide +kernel
theorem dX12_addressFault_124 : decode cX12_addressFault 124 = .ok (.aload_n 0, 1) := by decide +kernel
theorem dX12_addressFault_125 : decode cX12_addressFault 125 = .ok (.aload_n 0, 1) := by decide +kernel
theorem dX12_addressFault_126 : decode cX12_addressFault 126 = .ok (.getfield 251, 3) := by decide +kernel
theorem dX12_addressFault_129 : decode cX12_addressFault 129 = .ok (.invokevirtual 295, 3) := by decide +kernel
theorem dX12_addressFault_13 : decode cX12_addressFault 13 = .ok (.ifCond .ge 7, 3) := by decide +kernel
theorem dX12_addressFault_132 : decode cX12_addressFault 132 = .ok (.ifCond .eq 7, 3) := by decide +kernel
theorem dX12_addressFault_135 : decode cX12_addressFault 135 = .ok (.iconst 0, 1) := by decide +kernel
theorem dX12_addressFault_136 : decode cX12_addressFault 136 = .ok (.goto 4, 3) := by decide +kernel
theorem dX12_addressFault_139 : decode cX12_addressFault 139 = .ok (.iconst 2, 1) := by decide +kernel
theorem dX12_addressFault_140 : decode cX12_addressFault 140 = .ok (.ireturn, 1) := by decide +kernel
theorem dX12_addressFault_141 : decode cX12_addressFault 141 = .ok (.aload_n 0, 1) := by decide +kernel
theorem dX12_addressFault_142 : decode cX12_addressFault 142 = .ok (.getfield 282, 3) := by decide +kernel
theorem dX12_addressFault_145 : decode cX12_addressFault 145 = .ok (.bipush 36, 2) := by decide +kernel
theorem dX12_addressFault_147 : decode cX12_addressFault 147 = .ok (.if_icmp .eq 14, 3) := by decide +kernel
theorem dX12_addressFault_150 : decode cX12_addressFault 150 = .ok (.aload_n 0, 1) := by decide +kernel
theorem dX12_addressFault_151 : decode cX12_addressFault 151 = .ok (.getfield 282, 3) := by decide +kernel
theorem dX12_addressFault_154 : decode cX12_addressFault 154 = .ok (.bipush 37, 2) := by decide +kernel
theorem dX12_addressFault_156 : decode cX12_addressFault 156 = .ok (.if_icmp .eq 5, 3) := by decide +kernel
theorem dX12_addressFault_159 : decode cX12_addressFault 159 = .ok (.iconst 0, 1) := by decide +kernel
theorem dX12_addressFault_16 : decode cX12_addressFault 16 = .ok (.iconst 2, 1) := by decide +kernel
theorem dX12_addressFault_160 : decode cX12_addressFault 160 = .ok (.ireturn, 1) := by decide +kernel
theorem dX12_addressFault_161 : decode cX12_addressFault 161 = .ok (.aload_n 0, 1) := by decide +kernel
theorem dX12_addressFault_162 : decode cX12_addressFault 162 = .ok (.aload_n 0, 1) := by decide +kernel
theorem dX12_addressFault_163 : decode cX12_addressFault 163 = .ok (.getfield 251, 3) := by decide +kernel
theorem dX12_addressFault_166 : decode cX12_addressFault 166 = .ok (.aload_n 0, 1) := by decide +kernel
theorem dX12_addressFault_167 : decode cX12_addressFault 167 = .ok (.getfield 289, 3) := by decide +kernel
theorem dX12_addressFault_17 : decode cX12_addressFault 17 = .ok (.goto 4, 3) := by decide +kernel
theorem dX12_addressFault_170 : decode cX12_addressFault 170 = .ok (.bipush 20, 2) := by decide +kernel
theorem dX12_addressFault_172 : decode cX12_addressFault 172 = .ok (.if_icmp .ge 13, 3) := by decide +kernel
theorem dX12_addressFault_175 : decode cX12_addressFault 175 = .ok (.aload_n 0, 1) := by decide +kernel
theorem dX12_addressFault_176 : decode cX12_addressFault 176 = .ok (.getfield 289, 3) := by decide +kernel
theorem dX12_addressFault_179 : decode cX12_addressFault 179 = .ok (.invokestatic 211, 3) := by decide +kernel
theorem dX12_addressFault_182 : decode cX12_addressFault 182 = .ok (.goto 4, 3) := by decide +kernel
theorem dX12_addressFault_185 : decode cX12_addressFault 185 = .ok (.iconst 1, 1) := by decide +kernel
theorem dX12_addressFault_186 : decode cX12_addressFault 186 = .ok (.invokevirtual 299, 3) := by decide +kernel
theorem dX12_addressFault_189 : decode cX12_addressFault 189 = .ok (.ifCond .eq 7, 3) := by decide +kernel
theorem dX12_addressFault_192 : decode cX12_addressFault 192 = .ok (.iconst 0, 1) := by decide +kernel
theorem dX12_addressFault_193 : decode cX12_addressFault 193 = .ok (.goto 4, 3) := by decide +kernel
theorem dX12_addressFault_196 : decode cX12_addressFault 196 = .ok (.iconst 2, 1) := by decide +kernel
theorem dX12_addressFault_197 : decode cX12_addressFault 197 = .ok (.ireturn, 1) := by decide +kernel
theorem dX12_addressFault_20 : decode cX12_addressFault 20 = .ok (.iconst 0, 1) := by decide +kernel
theorem dX12_addressFault_21 : decode cX12_addressFault 21 = .ok (.ireturn, 1) := by decide +kernel
theorem dX12_addressFault_22 : decode cX12_addressFault 22 = .ok (.aload_n 0, 1) := by decide +kernel
theorem dX12_addressFault_23 : decode cX12_addressFault 23 = .ok (.getfield 282, 3) := by decide +kernel
theorem dX12_addressFault_26 : decode cX12_addressFault 26 = .ok (.bipush 7, 2) := by decide +kernel
theorem dX12_addressFault_28 : decode cX12_addressFault 28 = .ok (.if_icmp .ne 44, 3) := by decide +kernel
theorem dX12_addressFault_31 : decode cX12_addressFault 31 = .ok (.aload_n 0, 1) := by decide +kernel
theorem dX12_addressFault_32 : decode cX12_addressFault 32 = .ok (.aload_n 0, 1) := by decide +kernel
theorem dX12_addressFault_33 : decode cX12_addressFault 33 = .ok (.getfield 251, 3) := by decide +kernel
theorem dX12_addressFault_36 : decode cX12_addressFault 36 = .ok (.aload_n 0, 1) := by decide +kernel
theorem dX12_addressFault_37 : decode cX12_addressFault 37 = .ok (.getfield 289, 3) := by decide +kernel
theorem dX12_addressFault_4 : decode cX12_addressFault 4 = .ok (.bipush 6, 2) := by decide +kernel
theorem dX12_addressFault_40 : decode cX12_addressFault 40 = .ok (.invokevirtual 299, 3) := by decide +kernel
theorem dX12_addressFault_43 : decode cX12_addressFault 43 = .ok (.ifCond .eq 27, 3) := by decide +kernel
theorem dX12_addressFault_46 : decode cX12_addressFault 46 = .ok (.aload_n 0, 1) := by decide +kernel
theorem dX12_addressFault_47 : decode cX12_addressFault 47 = .ok (.aload_n 0, 1) := by decide +kernel
theorem dX12_addressFault_48 : decode cX12_addressFault 48 = .ok (.getfield 17, 3) := by decide +kernel
theorem dX12_addressFault_51 : decode cX12_addressFault 51 = .ok (.iconst 1, 1) := by decide +kernel
theorem dX12_addressFault_52 : decode cX12_addressFault 52 = .ok (.iaload, 1) := by decide +kernel
theorem dX12_addressFault_53 : decode cX12_addressFault 53 = .ok (.invokestatic 161, 3) := by decide +kernel
theorem dX12_addressFault_56 : decode cX12_addressFault 56 = .ok (.aload_n 0, 1) := by decide +kernel
theorem dX12_addressFault_57 : decode cX12_addressFault 57 = .ok (.getfield 289, 3) := by decide +kernel
theorem dX12_addressFault_6 : decode cX12_addressFault 6 = .ok (.if_icmp .ne 16, 3) := by decide +kernel
theorem dX12_addressFault_60 : decode cX12_addressFault 60 = .ok (.invokevirtual 299, 3) := by decide +kernel
theorem dX12_addressFault_63 : decode cX12_addressFault 63 = .ok (.ifCond .eq 7, 3) := by decide +kernel
theorem dX12_addressFault_66 : decode cX12_addressFault 66 = .ok (.iconst 0, 1) := by decide +kernel
theorem dX12_addressFault_67 : decode cX12_addressFault 67 = .ok (.goto 4, 3) := by decide +kernel
theorem dX12_addressFault_70 : decode cX12_addressFault 70 = .ok (.iconst 2, 1) := by decide +kernel
theorem dX12_addressFault_71 : decode cX12_addressFault 71 = .ok (.ireturn, 1) := by decide +kernel
theorem dX12_addressFault_72 : decode cX12_addressFault 72 = .ok (.aload_n 0, 1) := by decide +kernel
theorem dX12_addressFault_73 : decode cX12_addressFault 73 = .ok (.getfield 282, 3) := by decide +kernel
theorem dX12_addressFault_76 : decode cX12_addressFault 76 = .ok (.ifCond .le 11, 3) := by decide +kernel
theorem dX12_addressFault_79 : decode cX12_addressFault 79 = .ok (.aload_n 0, 1) := by decide +kernel
theorem dX12_addressFault_80 : decode cX12_addressFault 80 = .ok (.getfield 282, 3) := by decide +kernel
theorem dX12_addressFault_83 : decode cX12_addressFault 83 = .ok (.iconst 5, 1) := by decide +kernel
theorem dX12_addressFault_84 : decode cX12_addressFault 84 = .ok (.if_icmp .lt 30, 3) := by decide +kernel
theorem dX12_addressFault_87 : decode cX12_addressFault 87 = .ok (.aload_n 0, 1) := by decide +kernel
theorem dX12_addressFault_88 : decode cX12_addressFault 88 = .ok (.getfield 282, 3) := by decide +kernel
theorem dX12_addressFault_9 : decode cX12_addressFault 9 = .ok (.aload_n 0, 1) := by decide +kernel
theorem dX12_addressFault_91 : decode cX12_addressFault 91 = .ok (.bipush 7, 2) := by decide +kernel
theorem dX12_addressFault_93 : decode cX12_addressFault 93 = .ok (.if_icmp .le 12, 3) := by decide +kernel
theorem dX12_addressFault_96 : decode cX12_addressFault 96 = .ok (.aload_n 0, 1) := by decide +kernel
theorem dX12_addressFault_97 : decode cX12_addressFault 97 = .ok (.getfield 282, 3) := by decide +kernel
theorem dX12_areHere_0 : decode cX12_areHere 0 = .ok (.iload_n 2, 1) := by decide +kernel
theorem dX12_areHere_1 : decode cX12_areHere 1 = .ok (.iconst 1, 1) := by decide +kernel
theorem dX12_areHere_10 : decode cX12_areHere 10 = .ok (.ifCond .eq 19, 3) := by decide +kernel
theorem dX12_areHere_13 : decode cX12_areHere 13 = .ok (.aload_n 0, 1) := by decide +kernel
theorem dX12_areHere_14 : decode cX12_areHere 14 = .ok (.iload_n 1, 1) := by decide +kernel
theorem dX12_areHere_15 : decode cX12_areHere 15 = .ok (.iload_n 2, 1) := by decide +kernel
theorem dX12_areHere_16 : decode cX12_areHere 16 = .ok (.iadd, 1) := by decide +kernel
theorem dX12_areHere_17 : decode cX12_areHere 17 = .ok (.iconst 1, 1) := by decide +kernel
theorem dX12_areHere_18 : decode cX12_areHere 18 = .ok (.isub, 1) := by decide +kernel
theorem dX12_areHere_19 : decode cX12_areHere 19 = .ok (.invokevirtual 295, 3) := by decide +kernel
theorem dX12_areHere_2 : decode cX12_areHere 2 = .ok (.if_icmp .lt 23, 3) := by decide +kernel
theorem dX12_areHere_22 : decode cX12_areHere 22 = .ok (.ifCond .eq 7, 3) := by decide +kernel
theorem dX12_areHere_25 : decode cX12_areHere 25 = .ok (.iconst 1, 1) := by decide +kernel
theorem dX12_areHere_26 : decode cX12_areHere 26 = .ok (.goto 4, 3) := by decide +kernel
theorem dX12_areHere_29 : decode cX12_areHere 29 = .ok (.iconst 0, 1) := by decide +kernel
theorem dX12_areHere_30 : decode cX12_areHere 30 = .ok (.ireturn, 1) := by decide +kernel
theorem dX12_areHere_5 : decode cX12_areHere 5 = .ok (.aload_n 0, 1) := by decide +kernel
theorem dX12_areHere_6 : decode cX12_areHere 6 = .ok (.iload_n 1, 1) := by decide +kernel
theorem dX12_areHere_7 : decode cX12_areHere 7 = .ok (.invokevirtual 295, 3) := by decide +kernel
theorem dX12_begin_0 : decode cX12_begin 0 = .ok (.aload_n 0, 1) := by decide +kernel
theorem dX12_begin_1 : decode cX12_begin 1 = .ok (.iconst 0, 1) := by decide +kernel
theorem dX12_begin_2 : decode cX12_begin 2 = .ok (.putfield 186, 3) := by decide +kernel
theorem dX12_begin_5 : decode cX12_begin 5 = .ok (.return_, 1) := by decide +kernel
theorem dX12_blockNow_0 : decode cX12_blockNow 0 = .ok (.iload_n 1, 1) := by decide +kernel
theorem dX12_blockNow_1 : decode cX12_blockNow 1 = .ok (.bipush 8, 2) := by decide +kernel
theorem dX12_blockNow_10 : decode cX12_blockNow 10 = .ok (.iload_n 1, 1) := by decide +kernel
theorem dX12_blockNow_11 : decode cX12_blockNow 11 = .ok (.iaload, 1) := by decide +kernel
theorem dX12_blockNow_12 : decode cX12_blockNow 12 = .ok (.goto 13, 3) := by decide +kernel
theorem dX12_blockNow_15 : decode cX12_blockNow 15 = .ok (.aload_n 0, 1) := by decide +kernel
theorem dX12_blockNow_16 : decode cX12_blockNow 16 = .ok (.getfield 17, 3) := by decide +kernel
theorem dX12_blockNow_19 : decode cX12_blockNow 19 = .ok (.bipush 7, 2) := by decide +kernel
theorem dX12_blockNow_21 : decode cX12_blockNow 21 = .ok (.iaload, 1) := by decide +kernel
theorem dX12_blockNow_22 : decode cX12_blockNow 22 = .ok (.invokestatic 161, 3) := by decide +kernel
theorem dX12_blockNow_25 : decode cX12_blockNow 25 = .ok (.ireturn, 1) := by decide +kernel
theorem dX12_blockNow_3 : decode cX12_blockNow 3 = .ok (.if_icmp .ge 12, 3) := by decide +kernel
theorem dX12_blockNow_6 : decode cX12_blockNow 6 = .ok (.aload_n 0, 1) := by decide +kernel
theorem dX12_blockNow_7 : decode cX12_blockNow 7 = .ok (.getfield 44, 3) := by decide +kernel
theorem dX12_byteAt_0 : decode cX12_byteAt 0 = .ok (.iload_n 1, 1) := by decide +kernel
theorem dX12_byteAt_1 : decode cX12_byteAt 1 = .ok (.bipush 6, 2) := by decide +kernel
theorem dX12_byteAt_10 : decode cX12_byteAt 10 = .ok (.iconst 0, 1) := by decide +kernel
theorem dX12_byteAt_11 : decode cX12_byteAt 11 = .ok (.iaload, 1) := by decide +kernel
theorem dX12_byteAt_12 : decode cX12_byteAt 12 = .ok (.bipush 6, 2) := by decide +kernel
theorem dX12_byteAt_14 : decode cX12_byteAt 14 = .ok (.iconst 5, 1) := by decide +kernel
theorem dX12_byteAt_15 : decode cX12_byteAt 15 = .ok (.iload_n 1, 1) := by decide +kernel
theorem dX12_byteAt_16 : decode cX12_byteAt 16 = .ok (.isub, 1) := by decide +kernel
theorem dX12_byteAt_17 : decode cX12_byteAt 17 = .ok (.imul, 1) := by decide +kernel
theorem dX12_byteAt_18 : decode cX12_byteAt 18 = .ok (.ishr, 1) := by decide +kernel
theorem dX12_byteAt_19 : decode cX12_byteAt 19 = .ok (.bipush 63, 2) := by decide +kernel
theorem dX12_byteAt_21 : decode cX12_byteAt 21 = .ok (.iand, 1) := by decide +kernel
theorem dX12_byteAt_22 : decode cX12_byteAt 22 = .ok (.goto 21, 3) := by decide +kernel
theorem dX12_byteAt_25 : decode cX12_byteAt 25 = .ok (.aload_n 0, 1) := by decide +kernel
theorem dX12_byteAt_26 : decode cX12_byteAt 26 = .ok (.getfield 17, 3) := by decide +kernel
theorem dX12_byteAt_29 : decode cX12_byteAt 29 = .ok (.bipush 7, 2) := by decide +kernel
theorem dX12_byteAt_3 : decode cX12_byteAt 3 = .ok (.if_icmp .ge 22, 3) := by decide +kernel
theorem dX12_byteAt_31 : decode cX12_byteAt 31 = .ok (.iaload, 1) := by decide +kernel
theorem dX12_byteAt_32 : decode cX12_byteAt 32 = .ok (.bipush 6, 2) := by decide +kernel
theorem dX12_byteAt_34 : decode cX12_byteAt 34 = .ok (.bipush 10, 2) := by decide +kernel
theorem dX12_byteAt_36 : decode cX12_byteAt 36 = .ok (.iload_n 1, 1) := by decide +kernel
theorem dX12_byteAt_37 : decode cX12_byteAt 37 = .ok (.isub, 1) := by decide +kernel
theorem dX12_byteAt_38 : decode cX12_byteAt 38 = .ok (.imul, 1) := by decide +kernel
theorem dX12_byteAt_39 : decode cX12_byteAt 39 = .ok (.ishr, 1) := by decide +kernel
theorem dX12_byteAt_40 : decode cX12_byteAt 40 = .ok (.bipush 63, 2) := by decide +kernel
theorem dX12_byteAt_42 : decode cX12_byteAt 42 = .ok (.iand, 1) := by decide +kernel
theorem dX12_byteAt_43 : decode cX12_byteAt 43 = .ok (.ireturn, 1) := by decide +kernel
theorem dX12_byteAt_6 : decode cX12_byteAt 6 = .ok (.aload_n 0, 1) := by decide +kernel
theorem dX12_byteAt_7 : decode cX12_byteAt 7 = .ok (.getfield 17, 3) := by decide +kernel
theorem dX12_cardsLeft_0 : decode cX12_cardsLeft 0 = .ok (.aload_n 0, 1) := by decide +kernel
theorem dX12_cardsLeft_1 : decode cX12_cardsLeft 1 = .ok (.getfield 226, 3) := by decide +kernel
theorem dX12_cardsLeft_4 : decode cX12_cardsLeft 4 = .ok (.aload_n 0, 1) := by decide +kernel
theorem dX12_cardsLeft_5 : decode cX12_cardsLeft 5 = .ok (.getfield 229, 3) := by decide +kernel
theorem dX12_cardsLeft_8 : decode cX12_cardsLeft 8 = .ok (.isub, 1) := by decide +kernel
theorem dX12_cardsLeft_9 : decode cX12_cardsLeft 9 = .ok (.ireturn, 1) := by decide +kernel
theorem dX12_change_0 : decode cX12_change 0 = .ok (.aload_n 0, 1) := by decide +kernel
theorem dX12_change_1 : decode cX12_change 1 = .ok (.getfield 289, 3) := by decide +kernel
theorem dX12_change_12 : decode cX12_change 12 = .ok (.ldc 158, 2) := by decide +kernel
theorem dX12_change_14 : decode cX12_change 14 = .ok (.iand, 1) := by decide +kernel
theorem dX12_change_15 : decode cX12_change 15 = .ok (.istore_n 2, 1) := by decide +kernel
theorem dX12_change_16 : decode cX12_change 16 = .ok (.aload_n 0, 1) := by decide +kernel
theorem dX12_change_17 : decode cX12_change 17 = .ok (.getfield 251, 3) := by decide +kernel
theorem dX12_change_20 : decode cX12_change 20 = .ok (.ifCond .ne 7, 3) := by decide +kernel
theorem dX12_change_23 : decode cX12_change 23 = .ok (.iload_n 2, 1) := by decide +kernel
theorem dX12_change_24 : decode cX12_change 24 = .ok (.goto 11, 3) := by decide +kernel
theorem dX12_change_27 : decode cX12_change 27 = .ok (.aload_n 0, 1) := by decide +kernel
theorem dX12_change_28 : decode cX12_change 28 = .ok (.getfield 251, 3) := by decide +kernel
theorem dX12_change_31 : decode cX12_change 31 = .ok (.i2l, 1) := by decide +kernel
theorem dX12_change_32 : decode cX12_change 32 = .ok (.invokestatic 342, 3) := by decide +kernel
theorem dX12_change_35 : decode cX12_change 35 = .ok (.istore_n 3, 1) := by decide +kernel
theorem dX12_change_36 : decode cX12_change 36 = .ok (.aload_n 0, 1) := by decide +kernel
theorem dX12_change_37 : decode cX12_change 37 = .ok (.getfield 17, 3) := by decide +kernel
theorem dX12_change_4 : decode cX12_change 4 = .ok (.iconst 1, 1) := by decide +kernel
theorem dX12_change_40 : decode cX12_change 40 = .ok (.iload_n 1, 1) := by decide +kernel
theorem dX12_change_41 : decode cX12_change 41 = .ok (.aload_n 0, 1) := by decide +kernel
theorem dX12_change_42 : decode cX12_change 42 = .ok (.getfield 289, 3) := by decide +kernel
theorem dX12_change_45 : decode cX12_change 45 = .ok (.iconst 2, 1) := by decide +kernel
theorem dX12_change_46 : decode cX12_change 46 = .ok (.if_icmp .ne 7, 3) := by decide +kernel
theorem dX12_change_49 : decode cX12_change 49 = .ok (.iload_n 3, 1) := by decide +kernel
theorem dX12_change_5 : decode cX12_change 5 = .ok (.if_icmp .le 56, 3) := by decide +kernel
theorem dX12_change_50 : decode cX12_change 50 = .ok (.goto 7, 3) := by decide +kernel
theorem dX12_change_53 : decode cX12_change 53 = .ok (.iload_n 3, 1) := by decide +kernel
theorem dX12_change_54 : decode cX12_change 54 = .ok (.ldc 158, 2) := by decide +kernel
theorem dX12_change_56 : decode cX12_change 56 = .ok (.ixor, 1) := by decide +kernel
theorem dX12_change_57 : decode cX12_change 57 = .ok (.iastore, 1) := by decide +kernel
theorem dX12_change_58 : decode cX12_change 58 = .ok (.goto 29, 3) := by decide +kernel
theorem dX12_change_61 : decode cX12_change 61 = .ok (.aload_n 0, 1) := by decide +kernel
theorem dX12_change_62 : decode cX12_change 62 = .ok (.iload_n 1, 1) := by decide +kernel
theorem dX12_change_63 : decode cX12_change 63 = .ok (.aload_n 0, 1) := by decide +kernel
theorem dX12_change_64 : decode cX12_change 64 = .ok (.getfield 289, 3) := by decide +kernel
theorem dX12_change_67 : decode cX12_change 67 = .ok (.ifCond .ne 11, 3) := by decide +kernel
theorem dX12_change_70 : decode cX12_change 70 = .ok (.aload_n 0, 1) := by decide +kernel
theorem dX12_change_71 : decode cX12_change 71 = .ok (.getfield 251, 3) := by decide +kernel
theorem dX12_change_74 : decode cX12_change 74 = .ok (.i2l, 1) := by decide +kernel
theorem dX12_change_75 : decode cX12_change 75 = .ok (.goto 9, 3) := by decide +kernel
theorem dX12_change_78 : decode cX12_change 78 = .ok (.aload_n 0, 1) := by decide +kernel
theorem dX12_change_79 : decode cX12_change 79 = .ok (.getfield 251, 3) := by decide +kernel
theorem dX12_change_8 : decode cX12_change 8 = .ok (.aload_n 0, 1) := by decide +kernel
theorem dX12_change_82 : decode cX12_change 82 = .ok (.ineg, 1) := by decide +kernel
theorem dX12_change_83 : decode cX12_change 83 = .ok (.i2l, 1) := by decide +kernel
theorem dX12_change_84 : decode cX12_change 84 = .ok (.invokevirtual 346, 3) := by decide +kernel
theorem dX12_change_87 : decode cX12_change 87 = .ok (.return_, 1) := by decide +kernel
theorem dX12_change_9 : decode cX12_change 9 = .ok (.getfield 292, 3) := by decide +kernel
theorem dX12_clearMachine_0 : decode cX12_clearMachine 0 = .ok (.aload_n 0, 1) := by decide +kernel
theorem dX12_clearMachine_1 : decode cX12_clearMachine 1 = .ok (.invokevirtual 627, 3) := by decide +kernel
theorem dX12_clearMachine_12 : decode cX12_clearMachine 12 = .ok (.aload_n 0, 1) := by decide +kernel
theorem dX12_clearMachine_13 : decode cX12_clearMachine 13 = .ok (.getfield 17, 3) := by decide +kernel
theorem dX12_clearMachine_16 : decode cX12_clearMachine 16 = .ok (.iload_n 1, 1) := by decide +kernel
theorem dX12_clearMachine_17 : decode cX12_clearMachine 17 = .ok (.iconst 0, 1) := by decide +kernel
theorem dX12_clearMachine_18 : decode cX12_clearMachine 18 = .ok (.iastore, 1) := by decide +kernel
theorem dX12_clearMachine_19 : decode cX12_clearMachine 19 = .ok (.iinc 1 1, 3) := by decide +kernel
theorem dX12_clearMachine_22 : decode cX12_clearMachine 22 = .ok (.goto (-16), 3) := by decide +kernel
theorem dX12_clearMachine_25 : decode cX12_clearMachine 25 = .ok (.aload_n 0, 1) := by decide +kernel
theorem dX12_clearMachine_26 : decode cX12_clearMachine 26 = .ok (.iconst 0, 1) := by decide +kernel
theorem dX12_clearMachine_27 : decode cX12_clearMachine 27 = .ok (.putfield 314, 3) := by decide +kernel
theorem dX12_clearMachine_30 : decode cX12_clearMachine 30 = .ok (.aload_n 0, 1) := by decide +kernel
theorem dX12_clearMachine_31 : decode cX12_clearMachine 31 = .ok (.iconst 1, 1) := by decide +kernel
theorem dX12_clearMachine_32 : decode cX12_clearMachine 32 = .ok (.putfield 20, 3) := by decide +kernel
theorem dX12_clearMachine_35 : decode cX12_clearMachine 35 = .ok (.aload_n 0, 1) := by decide +kernel
theorem dX12_clearMachine_36 : decode cX12_clearMachine 36 = .ok (.iconst 0, 1) := by decide +kernel
theorem dX12_clearMachine_37 : decode cX12_clearMachine 37 = .ok (.putfield 378, 3) := by decide +kernel
theorem dX12_clearMachine_4 : decode cX12_clearMachine 4 = .ok (.iconst 0, 1) := by decide +kernel
theorem dX12_clearMachine_40 : decode cX12_clearMachine 40 = .ok (.aload_n 0, 1) := by decide +kernel
theorem dX12_clearMachine_41 : decode cX12_clearMachine 41 = .ok (.lconst 0, 1) := by decide +kernel
theorem dX12_clearMachine_42 : decode cX12_clearMachine 42 = .ok (.putfield 272, 3) := by decide +kernel
theorem dX12_clearMachine_45 : decode cX12_clearMachine 45 = .ok (.aload_n 0, 1) := by decide +kernel
theorem dX12_clearMachine_46 : decode cX12_clearMachine 46 = .ok (.bipush 9, 2) := by decide +kernel
theorem dX12_clearMachine_48 : decode cX12_clearMachine 48 = .ok (.putfield 24, 3) := by decide +kernel
theorem dX12_clearMachine_5 : decode cX12_clearMachine 5 = .ok (.istore_n 1, 1) := by decide +kernel
theorem dX12_clearMachine_51 : decode cX12_clearMachine 51 = .ok (.aload_n 0, 1) := by decide +kernel
theorem dX12_clearMachine_52 : decode cX12_clearMachine 52 = .ok (.iconst 0, 1) := by decide +kernel
theorem dX12_clearMachine_53 : decode cX12_clearMachine 53 = .ok (.putfield 241, 3) := by decide +kernel
theorem dX12_clearMachine_56 : decode cX12_clearMachine 56 = .ok (.aload_n 0, 1) := by decide +kernel
theorem dX12_clearMachine_57 : decode cX12_clearMachine 57 = .ok (.iconst 0, 1) := by decide +kernel
theorem dX12_clearMachine_58 : decode cX12_clearMachine 58 = .ok (.putfield 238, 3) := by decide +kernel
theorem dX12_clearMachine_6 : decode cX12_clearMachine 6 = .ok (.iload_n 1, 1) := by decide +kernel
theorem dX12_clearMachine_61 : decode cX12_clearMachine 61 = .ok (.aload_n 0, 1) := by decide +kernel
theorem dX12_clearMachine_62 : decode cX12_clearMachine 62 = .ok (.iconst 0, 1) := by decide +kernel
theorem dX12_clearMachine_63 : decode cX12_clearMachine 63 = .ok (.putfield 235, 3) := by decide +kernel
theorem dX12_clearMachine_66 : decode cX12_clearMachine 66 = .ok (.aload_n 0, 1) := by decide +kernel
theorem dX12_clearMachine_67 : decode cX12_clearMachine 67 = .ok (.iconst 0, 1) := by decide +kernel
theorem dX12_clearMachine_68 : decode cX12_clearMachine 68 = .ok (.putfield 415, 3) := by decide +kernel
theorem dX12_clearMachine_7 : decode cX12_clearMachine 7 = .ok (.bipush 9, 2) := by decide +kernel
theorem dX12_clearMachine_71 : decode cX12_clearMachine 71 = .ok (.aload_n 0, 1) := by decide +kernel
theorem dX12_clearMachine_72 : decode cX12_clearMachine 72 = .ok (.invokevirtual 630, 3) := by decide +kernel
theorem dX12_clearMachine_75 : decode cX12_clearMachine 75 = .ok (.return_, 1) := by decide +kernel
theorem dX12_clearMachine_9 : decode cX12_clearMachine 9 = .ok (.if_icmp .ge 16, 3) := by decide +kernel
theorem dX12_clearMemory_0 : decode cX12_clearMemory 0 = .ok (.iconst 0, 1) := by decide +kernel
theorem dX12_clearMemory_1 : decode cX12_clearMemory 1 = .ok (.istore_n 1, 1) := by decide +kernel
theorem dX12_clearMemory_10 : decode cX12_clearMemory 10 = .ok (.getfield 13, 3) := by decide +kernel
theorem dX12_clearMemory_13 : decode cX12_clearMemory 13 = .ok (.iload_n 1, 1) := by decide +kernel
theorem dX12_clearMemory_14 : decode cX12_clearMemory 14 = .ok (.iconst 0, 1) := by decide +kernel
theorem dX12_clearMemory_15 : decode cX12_clearMemory 15 = .ok (.iastore, 1) := by decide +kernel
theorem dX12_clearMemory_16 : decode cX12_clearMemory 16 = .ok (.iinc 1 1, 3) := by decide +kernel
theorem dX12_clearMemory_19 : decode cX12_clearMemory 19 = .ok (.goto (-17), 3) := by decide +kernel
theorem dX12_clearMemory_2 : decode cX12_clearMemory 2 = .ok (.iload_n 1, 1) := by decide +kernel
theorem dX12_clearMemory_22 : decode cX12_clearMemory 22 = .ok (.return_, 1) := by decide +kernel
theorem dX12_clearMemory_3 : decode cX12_clearMemory 3 = .ok (.sipush 7999, 3) := by decide +kernel
theorem dX12_clearMemory_6 : decode cX12_clearMemory 6 = .ok (.if_icmp .ge 16, 3) := by decide +kernel
theorem dX12_clearMemory_9 : decode cX12_clearMemory 9 = .ok (.aload_n 0, 1) := by decide +kernel
theorem dX12_convert_0 : decode cX12_convert 0 = .ok (.aload_n 0, 1) := by decide +kernel
theorem dX12_convert_1 : decode cX12_convert 1 = .ok (.getfield 289, 3) := by decide +kernel
theorem dX12_convert_10 : decode cX12_convert 10 = .ok (.istore_n 3, 1) := by decide +kernel
theorem dX12_convert_100 : decode cX12_convert 100 = .ok (.iload 4, 2) := by decide +kernel
theorem dX12_convert_102 : decode cX12_convert 102 = .ok (.iconst 5, 1) := by decide +kernel
theorem dX12_convert_103 : decode cX12_convert 103 = .ok (.if_icmp .ge 17, 3) := by decide +kernel
theorem dX12_convert_106 : decode cX12_convert 106 = .ok (.iload_n 3, 1) := by decide +kernel
theorem dX12_convert_107 : decode cX12_convert 107 = .ok (.iload 5, 2) := by decide +kernel
theorem dX12_convert_109 : decode cX12_convert 109 = .ok (.bipush 6, 2) := by decide +kernel
theorem dX12_convert_11 : decode cX12_convert 11 = .ok (.iload_n 3, 1) := by decide +kernel
theorem dX12_convert_111 : decode cX12_convert 111 = .ok (.iload 4, 2) := by decide +kernel
theorem dX12_convert_113 : decode cX12_convert 113 = .ok (.imul, 1) := by decide +kernel
theorem dX12_convert_114 : decode cX12_convert 114 = .ok (.ishl, 1) := by decide +kernel
theorem dX12_convert_115 : decode cX12_convert 115 = .ok (.ior, 1) := by decide +kernel
theorem dX12_convert_116 : decode cX12_convert 116 = .ok (.istore_n 3, 1) := by decide +kernel
theorem dX12_convert_117 : decode cX12_convert 117 = .ok (.goto 16, 3) := by decide +kernel
theorem dX12_convert_12 : decode cX12_convert 12 = .ok (.bipush 11, 2) := by decide +kernel
theorem dX12_convert_120 : decode cX12_convert 120 = .ok (.iload_n 2, 1) := by decide +kernel
theorem dX12_convert_121 : decode cX12_convert 121 = .ok (.iload 5, 2) := by decide +kernel
theorem dX12_convert_123 : decode cX12_convert 123 = .ok (.bipush 6, 2) := by decide +kernel
theorem dX12_convert_125 : decode cX12_convert 125 = .ok (.iload 4, 2) := by decide +kernel
theorem dX12_convert_127 : decode cX12_convert 127 = .ok (.iconst 5, 1) := by decide +kernel
theorem dX12_convert_128 : decode cX12_convert 128 = .ok (.isub, 1) := by decide +kernel
theorem dX12_convert_129 : decode cX12_convert 129 = .ok (.imul, 1) := by decide +kernel
theorem dX12_convert_130 : decode cX12_convert 130 = .ok (.ishl, 1) := by decide +kernel
theorem dX12_convert_131 : decode cX12_convert 131 = .ok (.ior, 1) := by decide +kernel
theorem dX12_convert_132 : decode cX12_convert 132 = .ok (.istore_n 2, 1) := by decide +kernel
theorem dX12_convert_133 : decode cX12_convert 133 = .ok (.iinc 4 1, 3) := by decide +kernel
theorem dX12_convert_136 : decode cX12_convert 136 = .ok (.goto (-57), 3) := by decide +kernel
theorem dX12_convert_139 : decode cX12_convert 139 = .ok (.aload_n 0, 1) := by decide +kernel
theorem dX12_convert_14 : decode cX12_convert 14 = .ok (.if_icmp .ge 25, 3) := by decide +kernel
theorem dX12_convert_140 : decode cX12_convert 140 = .ok (.getfield 17, 3) := by decide +kernel
theorem dX12_convert_143 : decode cX12_convert 143 = .ok (.iconst 0, 1) := by decide +kernel
theorem dX12_convert_144 : decode cX12_convert 144 = .ok (.aload_n 0, 1) := by decide +kernel
theorem dX12_convert_145 : decode cX12_convert 145 = .ok (.getfield 17, 3) := by decide +kernel
theorem dX12_convert_148 : decode cX12_convert 148 = .ok (.iconst 0, 1) := by decide +kernel
theorem dX12_convert_149 : decode cX12_convert 149 = .ok (.iaload, 1) := by decide +kernel
theorem dX12_convert_150 : decode cX12_convert 150 = .ok (.ldc 158, 2) := by decide +kernel
theorem dX12_convert_152 : decode cX12_convert 152 = .ok (.iand, 1) := by decide +kernel
theorem dX12_convert_153 : decode cX12_convert 153 = .ok (.iload_n 2, 1) := by decide +kernel
theorem dX12_convert_154 : decode cX12_convert 154 = .ok (.ior, 1) := by decide +kernel
theorem dX12_convert_155 : decode cX12_convert 155 = .ok (.iastore, 1) := by decide +kernel
theorem dX12_convert_156 : decode cX12_convert 156 = .ok (.aload_n 0, 1) := by decide +kernel
theorem dX12_convert_157 : decode cX12_convert 157 = .ok (.getfield 17, 3) := by decide +kernel
theorem dX12_convert_160 : decode cX12_convert 160 = .ok (.bipush 7, 2) := by decide +kernel
theorem dX12_convert_162 : decode cX12_convert 162 = .ok (.aload_n 0, 1) := by decide +kernel
theorem dX12_convert_163 : decode cX12_convert 163 = .ok (.getfield 17, 3) := by decide +kernel
theorem dX12_convert_166 : decode cX12_convert 166 = .ok (.bipush 7, 2) := by decide +kernel
theorem dX12_convert_168 : decode cX12_convert 168 = .ok (.iaload, 1) := by decide +kernel
theorem dX12_convert_169 : decode cX12_convert 169 = .ok (.ldc 158, 2) := by decide +kernel
theorem dX12_convert_17 : decode cX12_convert 17 = .ok (.ldc2_w 192, 3) := by decide +kernel
theorem dX12_convert_171 : decode cX12_convert 171 = .ok (.iand, 1) := by decide +kernel
theorem dX12_convert_172 : decode cX12_convert 172 = .ok (.iload_n 3, 1) := by decide +kernel
theorem dX12_convert_173 : decode cX12_convert 173 = .ok (.ior, 1) := by decide +kernel
theorem dX12_convert_174 : decode cX12_convert 174 = .ok (.iastore, 1) := by decide +kernel
theorem dX12_convert_175 : decode cX12_convert 175 = .ok (.return_, 1) := by decide +kernel
theorem dX12_convert_20 : decode cX12_convert 20 = .ok (.lload_n 1, 1) := by decide +kernel
theorem dX12_convert_21 : decode cX12_convert 21 = .ok (.lmul, 1) := by decide +kernel
theorem dX12_convert_22 : decode cX12_convert 22 = .ok (.aload_n 0, 1) := by decide +kernel
theorem dX12_convert_23 : decode cX12_convert 23 = .ok (.iload_n 3, 1) := by decide +kernel
theorem dX12_convert_24 : decode cX12_convert 24 = .ok (.invokevirtual 337, 3) := by decide +kernel
theorem dX12_convert_27 : decode cX12_convert 27 = .ok (.bipush 10, 2) := by decide +kernel
theorem dX12_convert_29 : decode cX12_convert 29 = .ok (.irem, 1) := by decide +kernel
theorem dX12_convert_30 : decode cX12_convert 30 = .ok (.i2l, 1) := by decide +kernel
theorem dX12_convert_31 : decode cX12_convert 31 = .ok (.ladd, 1) := by decide +kernel
theorem dX12_convert_32 : decode cX12_convert 32 = .ok (.lstore_n 1, 1) := by decide +kernel
theorem dX12_convert_33 : decode cX12_convert 33 = .ok (.iinc 3 1, 3) := by decide +kernel
theorem dX12_convert_36 : decode cX12_convert 36 = .ok (.goto (-25), 3) := by decide +kernel
theorem dX12_convert_39 : decode cX12_convert 39 = .ok (.aload_n 0, 1) := by decide +kernel
theorem dX12_convert_4 : decode cX12_convert 4 = .ok (.ifCond .ne 58, 3) := by decide +kernel
theorem dX12_convert_40 : decode cX12_convert 40 = .ok (.getfield 17, 3) := by decide +kernel
theorem dX12_convert_43 : decode cX12_convert 43 = .ok (.iconst 0, 1) := by decide +kernel
theorem dX12_convert_44 : decode cX12_convert 44 = .ok (.aload_n 0, 1) := by decide +kernel
theorem dX12_convert_45 : decode cX12_convert 45 = .ok (.getfield 17, 3) := by decide +kernel
theorem dX12_convert_48 : decode cX12_convert 48 = .ok (.iconst 0, 1) := by decide +kernel
theorem dX12_convert_49 : decode cX12_convert 49 = .ok (.iaload, 1) := by decide +kernel
theorem dX12_convert_50 : decode cX12_convert 50 = .ok (.ldc 158, 2) := by decide +kernel
theorem dX12_convert_52 : decode cX12_convert 52 = .ok (.iand, 1) := by decide +kernel
theorem dX12_convert_53 : decode cX12_convert 53 = .ok (.lload_n 1, 1) := by decide +kernel
theorem dX12_convert_54 : decode cX12_convert 54 = .ok (.ldc2_w 335, 3) := by decide +kernel
theorem dX12_convert_57 : decode cX12_convert 57 = .ok (.land, 1) := by decide +kernel
theorem dX12_convert_58 : decode cX12_convert 58 = .ok (.l2i, 1) := by decide +kernel
theorem dX12_convert_59 : decode cX12_convert 59 = .ok (.ior, 1) := by decide +kernel
theorem dX12_convert_60 : decode cX12_convert 60 = .ok (.iastore, 1) := by decide +kernel
theorem dX12_convert_61 : decode cX12_convert 61 = .ok (.return_, 1) := by decide +kernel
theorem dX12_convert_62 : decode cX12_convert 62 = .ok (.aload_n 0, 1) := by decide +kernel
theorem dX12_convert_63 : decode cX12_convert 63 = .ok (.getfield 17, 3) := by decide +kernel
theorem dX12_convert_66 : decode cX12_convert 66 = .ok (.iconst 0, 1) := by decide +kernel
theorem dX12_convert_67 : decode cX12_convert 67 = .ok (.iaload, 1) := by decide +kernel
theorem dX12_convert_68 : decode cX12_convert 68 = .ok (.ldc 159, 2) := by decide +kernel
theorem dX12_convert_7 : decode cX12_convert 7 = .ok (.lconst 0, 1) := by decide +kernel
theorem dX12_convert_70 : decode cX12_convert 70 = .ok (.iand, 1) := by decide +kernel
theorem dX12_convert_71 : decode cX12_convert 71 = .ok (.istore_n 1, 1) := by decide +kernel
theorem dX12_convert_72 : decode cX12_convert 72 = .ok (.iconst 0, 1) := by decide +kernel
theorem dX12_convert_73 : decode cX12_convert 73 = .ok (.istore_n 2, 1) := by decide +kernel
theorem dX12_convert_74 : decode cX12_convert 74 = .ok (.iconst 0, 1) := by decide +kernel
theorem dX12_convert_75 : decode cX12_convert 75 = .ok (.istore_n 3, 1) := by decide +kernel
theorem dX12_convert_76 : decode cX12_convert 76 = .ok (.iconst 0, 1) := by decide +kernel
theorem dX12_convert_77 : decode cX12_convert 77 = .ok (.istore 4, 2) := by decide +kernel
theorem dX12_convert_79 : decode cX12_convert 79 = .ok (.iload 4, 2) := by decide +kernel
theorem dX12_convert_8 : decode cX12_convert 8 = .ok (.lstore_n 1, 1) := by decide +kernel
theorem dX12_convert_81 : decode cX12_convert 81 = .ok (.bipush 10, 2) := by decide +kernel
theorem dX12_convert_83 : decode cX12_convert 83 = .ok (.if_icmp .ge 56, 3) := by decide +kernel
theorem dX12_convert_86 : decode cX12_convert 86 = .ok (.bipush 30, 2) := by decide +kernel
theorem dX12_convert_88 : decode cX12_convert 88 = .ok (.iload_n 1, 1) := by decide +kernel
theorem dX12_convert_89 : decode cX12_convert 89 = .ok (.bipush 10, 2) := by decide +kernel
theorem dX12_convert_9 : decode cX12_convert 9 = .ok (.iconst 1, 1) := by decide +kernel
theorem dX12_convert_91 : decode cX12_convert 91 = .ok (.irem, 1) := by decide +kernel
theorem dX12_convert_92 : decode cX12_convert 92 = .ok (.iadd, 1) := by decide +kernel
theorem dX12_convert_93 : decode cX12_convert 93 = .ok (.istore 5, 2) := by decide +kernel
theorem dX12_convert_95 : decode cX12_convert 95 = .ok (.iload_n 1, 1) := by decide +kernel
theorem dX12_convert_96 : decode cX12_convert 96 = .ok (.bipush 10, 2) := by decide +kernel
theorem dX12_convert_98 : decode cX12_convert 98 = .ok (.idiv, 1) := by decide +kernel
theorem dX12_convert_99 : decode cX12_convert 99 = .ok (.istore_n 1, 1) := by decide +kernel
theorem dX12_copyText_0 : decode cX12_copyText 0 = .ok (.iconst 0, 1) := by decide +kernel
theorem dX12_copyText_1 : decode cX12_copyText 1 = .ok (.istore_n 3, 1) := by decide +kernel
theorem dX12_copyText_11 : decode cX12_copyText 11 = .ok (.iload_n 3, 1) := by decide +kernel
theorem dX12_copyText_12 : decode cX12_copyText 12 = .ok (.aload_n 1, 1) := by decide +kernel
theorem dX12_copyText_13 : decode cX12_copyText 13 = .ok (.iload_n 3, 1) := by decide +kernel
theorem dX12_copyText_14 : decode cX12_copyText 14 = .ok (.baload, 1) := by decide +kernel
theorem dX12_copyText_15 : decode cX12_copyText 15 = .ok (.bastore, 1) := by decide +kernel
theorem dX12_copyText_16 : decode cX12_copyText 16 = .ok (.iinc 3 1, 3) := by decide +kernel
theorem dX12_copyText_19 : decode cX12_copyText 19 = .ok (.goto (-17), 3) := by decide +kernel
theorem dX12_copyText_2 : decode cX12_copyText 2 = .ok (.iload_n 3, 1) := by decide +kernel
theorem dX12_copyText_22 : decode cX12_copyText 22 = .ok (.aload_n 0, 1) := by decide +kernel
theorem dX12_copyText_23 : decode cX12_copyText 23 = .ok (.iload_n 2, 1) := by decide +kernel
theorem dX12_copyText_24 : decode cX12_copyText 24 = .ok (.putfield 433, 3) := by decide +kernel
theorem dX12_copyText_27 : decode cX12_copyText 27 = .ok (.return_, 1) := by decide +kernel
theorem dX12_copyText_3 : decode cX12_copyText 3 = .ok (.iload_n 2, 1) := by decide +kernel
theorem dX12_copyText_4 : decode cX12_copyText 4 = .ok (.if_icmp .ge 18, 3) := by decide +kernel
theorem dX12_copyText_7 : decode cX12_copyText 7 = .ok (.aload_n 0, 1) := by decide +kernel
theorem dX12_copyText_8 : decode cX12_copyText 8 = .ok (.getfield 74, 3) := by decide +kernel
theorem dX12_cost_0 : decode cX12_cost 0 = .ok (.aload_n 0, 1) := by decide +kernel
theorem dX12_cost_1 : decode cX12_cost 1 = .ok (.getfield 282, 3) := by decide +kernel
theorem dX12_cost_10 : decode cX12_cost 10 = .ok (.getfield 282, 3) := by decide +kernel
theorem dX12_cost_101 : decode cX12_cost 101 = .ok (.i2l, 1) := by decide +kernel
theorem dX12_cost_102 : decode cX12_cost 102 = .ok (.lmul, 1) := by decide +kernel
theorem dX12_cost_103 : decode cX12_cost 103 = .ok (.ladd, 1) := by decide +kernel
theorem dX12_cost_104 : decode cX12_cost 104 = .ok (.lreturn, 1) := by decide +kernel
theorem dX12_cost_105 : decode cX12_cost 105 = .ok (.aload_n 0, 1) := by decide +kernel
theorem dX12_cost_106 : decode cX12_cost 106 = .ok (.getfield 282, 3) := by decide +kernel
theorem dX12_cost_109 : decode cX12_cost 109 = .ok (.bipush 34, 2) := by decide +kernel
theorem dX12_cost_111 : decode cX12_cost 111 = .ok (.if_icmp .ge 7, 3) := by decide +kernel
theorem dX12_cost_114 : decode cX12_cost 114 = .ok (.ldc2_w 285, 3) := by decide +kernel
theorem dX12_cost_117 : decode cX12_cost 117 = .ok (.lreturn, 1) := by decide +kernel
theorem dX12_cost_118 : decode cX12_cost 118 = .ok (.aload_n 0, 1) := by decide +kernel
theorem dX12_cost_119 : decode cX12_cost 119 = .ok (.getfield 282, 3) := by decide +kernel
theorem dX12_cost_122 : decode cX12_cost 122 = .ok (.bipush 55, 2) := by decide +kernel
theorem dX12_cost_124 : decode cX12_cost 124 = .ok (.if_icmp .le 7, 3) := by decide +kernel
theorem dX12_cost_127 : decode cX12_cost 127 = .ok (.ldc2_w 285, 3) := by decide +kernel
theorem dX12_cost_13 : decode cX12_cost 13 = .ok (.iconst 3, 1) := by decide +kernel
theorem dX12_cost_130 : decode cX12_cost 130 = .ok (.lreturn, 1) := by decide +kernel
theorem dX12_cost_131 : decode cX12_cost 131 = .ok (.aload_n 0, 1) := by decide +kernel
theorem dX12_cost_132 : decode cX12_cost 132 = .ok (.getfield 282, 3) := by decide +kernel
theorem dX12_cost_135 : decode cX12_cost 135 = .ok (.bipush 34, 2) := by decide +kernel
theorem dX12_cost_137 : decode cX12_cost 137 = .ok (.if_icmp .le 55, 3) := by decide +kernel
theorem dX12_cost_14 : decode cX12_cost 14 = .ok (.if_icmp .ge 7, 3) := by decide +kernel
theorem dX12_cost_140 : decode cX12_cost 140 = .ok (.aload_n 0, 1) := by decide +kernel
theorem dX12_cost_141 : decode cX12_cost 141 = .ok (.getfield 282, 3) := by decide +kernel
theorem dX12_cost_144 : decode cX12_cost 144 = .ok (.bipush 38, 2) := by decide +kernel
theorem dX12_cost_146 : decode cX12_cost 146 = .ok (.if_icmp .ge 46, 3) := by decide +kernel
theorem dX12_cost_149 : decode cX12_cost 149 = .ok (.aload_n 0, 1) := by decide +kernel
theorem dX12_cost_150 : decode cX12_cost 150 = .ok (.getfield 289, 3) := by decide +kernel
theorem dX12_cost_153 : decode cX12_cost 153 = .ok (.bipush 20, 2) := by decide +kernel
theorem dX12_cost_155 : decode cX12_cost 155 = .ok (.if_icmp .ge 37, 3) := by decide +kernel
theorem dX12_cost_158 : decode cX12_cost 158 = .ok (.aload_n 0, 1) := by decide +kernel
theorem dX12_cost_159 : decode cX12_cost 159 = .ok (.getfield 27, 3) := by decide +kernel
theorem dX12_cost_162 : decode cX12_cost 162 = .ok (.aload_n 0, 1) := by decide +kernel
theorem dX12_cost_163 : decode cX12_cost 163 = .ok (.getfield 289, 3) := by decide +kernel
theorem dX12_cost_166 : decode cX12_cost 166 = .ok (.laload, 1) := by decide +kernel
theorem dX12_cost_167 : decode cX12_cost 167 = .ok (.aload_n 0, 1) := by decide +kernel
theorem dX12_cost_168 : decode cX12_cost 168 = .ok (.getfield 272, 3) := by decide +kernel
theorem dX12_cost_17 : decode cX12_cost 17 = .ok (.ldc2_w 285, 3) := by decide +kernel
theorem dX12_cost_171 : decode cX12_cost 171 = .ok (.lcmp, 1) := by decide +kernel
theorem dX12_cost_172 : decode cX12_cost 172 = .ok (.ifCond .le 20, 3) := by decide +kernel
theorem dX12_cost_175 : decode cX12_cost 175 = .ok (.aload_n 0, 1) := by decide +kernel
theorem dX12_cost_176 : decode cX12_cost 176 = .ok (.getfield 27, 3) := by decide +kernel
theorem dX12_cost_179 : decode cX12_cost 179 = .ok (.aload_n 0, 1) := by decide +kernel
theorem dX12_cost_180 : decode cX12_cost 180 = .ok (.getfield 289, 3) := by decide +kernel
theorem dX12_cost_183 : decode cX12_cost 183 = .ok (.laload, 1) := by decide +kernel
theorem dX12_cost_184 : decode cX12_cost 184 = .ok (.aload_n 0, 1) := by decide +kernel
theorem dX12_cost_185 : decode cX12_cost 185 = .ok (.getfield 272, 3) := by decide +kernel
theorem dX12_cost_188 : decode cX12_cost 188 = .ok (.lsub, 1) := by decide +kernel
theorem dX12_cost_189 : decode cX12_cost 189 = .ok (.goto 4, 3) := by decide +kernel
theorem dX12_cost_192 : decode cX12_cost 192 = .ok (.lconst 0, 1) := by decide +kernel
theorem dX12_cost_193 : decode cX12_cost 193 = .ok (.lstore_n 1, 1) := by decide +kernel
theorem dX12_cost_194 : decode cX12_cost 194 = .ok (.lconst 1, 1) := by decide +kernel
theorem dX12_cost_195 : decode cX12_cost 195 = .ok (.lload_n 1, 1) := by decide +kernel
theorem dX12_cost_196 : decode cX12_cost 196 = .ok (.ladd, 1) := by decide +kernel
theorem dX12_cost_197 : decode cX12_cost 197 = .ok (.lreturn, 1) := by decide +kernel
theorem dX12_cost_20 : decode cX12_cost 20 = .ok (.lreturn, 1) := by decide +kernel
theorem dX12_cost_21 : decode cX12_cost 21 = .ok (.aload_n 0, 1) := by decide +kernel
theorem dX12_cost_22 : decode cX12_cost 22 = .ok (.getfield 282, 3) := by decide +kernel
theorem dX12_cost_25 : decode cX12_cost 25 = .ok (.iconst 3, 1) := by decide +kernel
theorem dX12_cost_26 : decode cX12_cost 26 = .ok (.if_icmp .ne 7, 3) := by decide +kernel
theorem dX12_cost_29 : decode cX12_cost 29 = .ok (.ldc2_w 192, 3) := by decide +kernel
theorem dX12_cost_32 : decode cX12_cost 32 = .ok (.lreturn, 1) := by decide +kernel
theorem dX12_cost_33 : decode cX12_cost 33 = .ok (.aload_n 0, 1) := by decide +kernel
theorem dX12_cost_34 : decode cX12_cost 34 = .ok (.getfield 282, 3) := by decide +kernel
theorem dX12_cost_37 : decode cX12_cost 37 = .ok (.iconst 4, 1) := by decide +kernel
theorem dX12_cost_38 : decode cX12_cost 38 = .ok (.if_icmp .ne 7, 3) := by decide +kernel
theorem dX12_cost_4 : decode cX12_cost 4 = .ok (.ifCond .ne 5, 3) := by decide +kernel
theorem dX12_cost_41 : decode cX12_cost 41 = .ok (.ldc2_w 287, 3) := by decide +kernel
theorem dX12_cost_44 : decode cX12_cost 44 = .ok (.lreturn, 1) := by decide +kernel
theorem dX12_cost_45 : decode cX12_cost 45 = .ok (.aload_n 0, 1) := by decide +kernel
theorem dX12_cost_46 : decode cX12_cost 46 = .ok (.getfield 282, 3) := by decide +kernel
theorem dX12_cost_49 : decode cX12_cost 49 = .ok (.iconst 5, 1) := by decide +kernel
theorem dX12_cost_50 : decode cX12_cost 50 = .ok (.if_icmp .ne 21, 3) := by decide +kernel
theorem dX12_cost_53 : decode cX12_cost 53 = .ok (.aload_n 0, 1) := by decide +kernel
theorem dX12_cost_54 : decode cX12_cost 54 = .ok (.getfield 289, 3) := by decide +kernel
theorem dX12_cost_57 : decode cX12_cost 57 = .ok (.iconst 3, 1) := by decide +kernel
theorem dX12_cost_58 : decode cX12_cost 58 = .ok (.if_icmp .ge 9, 3) := by decide +kernel
theorem dX12_cost_61 : decode cX12_cost 61 = .ok (.ldc2_w 192, 3) := by decide +kernel
theorem dX12_cost_64 : decode cX12_cost 64 = .ok (.goto 6, 3) := by decide +kernel
theorem dX12_cost_67 : decode cX12_cost 67 = .ok (.ldc2_w 285, 3) := by decide +kernel
theorem dX12_cost_7 : decode cX12_cost 7 = .ok (.lconst 1, 1) := by decide +kernel
theorem dX12_cost_70 : decode cX12_cost 70 = .ok (.lreturn, 1) := by decide +kernel
theorem dX12_cost_71 : decode cX12_cost 71 = .ok (.aload_n 0, 1) := by decide +kernel
theorem dX12_cost_72 : decode cX12_cost 72 = .ok (.getfield 282, 3) := by decide +kernel
theorem dX12_cost_75 : decode cX12_cost 75 = .ok (.bipush 6, 2) := by decide +kernel
theorem dX12_cost_77 : decode cX12_cost 77 = .ok (.if_icmp .ne 7, 3) := by decide +kernel
theorem dX12_cost_8 : decode cX12_cost 8 = .ok (.lreturn, 1) := by decide +kernel
theorem dX12_cost_80 : decode cX12_cost 80 = .ok (.ldc2_w 285, 3) := by decide +kernel
theorem dX12_cost_83 : decode cX12_cost 83 = .ok (.lreturn, 1) := by decide +kernel
theorem dX12_cost_84 : decode cX12_cost 84 = .ok (.aload_n 0, 1) := by decide +kernel
theorem dX12_cost_85 : decode cX12_cost 85 = .ok (.getfield 282, 3) := by decide +kernel
theorem dX12_cost_88 : decode cX12_cost 88 = .ok (.bipush 7, 2) := by decide +kernel
theorem dX12_cost_9 : decode cX12_cost 9 = .ok (.aload_n 0, 1) := by decide +kernel
theorem dX12_cost_90 : decode cX12_cost 90 = .ok (.if_icmp .ne 15, 3) := by decide +kernel
theorem dX12_cost_93 : decode cX12_cost 93 = .ok (.lconst 1, 1) := by decide +kernel
theorem dX12_cost_94 : decode cX12_cost 94 = .ok (.ldc2_w 285, 3) := by decide +kernel
theorem dX12_cost_97 : decode cX12_cost 97 = .ok (.aload_n 0, 1) := by decide +kernel
theorem dX12_cost_98 : decode cX12_cost 98 = .ok (.getfield 289, 3) := by decide +kernel
theorem dX12_end_0 : decode cX12_end 0 = .ok (.aload_n 0, 1) := by decide +kernel
theorem dX12_end_1 : decode cX12_end 1 = .ok (.iconst 0, 1) := by decide +kernel
theorem dX12_end_10 : decode cX12_end 10 = .ok (.aload_n 0, 1) := by decide +kernel
theorem dX12_end_11 : decode cX12_end 11 = .ok (.getfield 176, 3) := by decide +kernel
theorem dX12_end_14 : decode cX12_end 14 = .ok (.if_icmp .le 5, 3) := by decide +kernel
theorem dX12_end_17 : decode cX12_end 17 = .ok (.iconst 0, 1) := by decide +kernel
theorem dX12_end_18 : decode cX12_end 18 = .ok (.ireturn, 1) := by decide +kernel
theorem dX12_end_19 : decode cX12_end 19 = .ok (.aload_n 0, 1) := by decide +kernel
theorem dX12_end_2 : decode cX12_end 2 = .ok (.putfield 155, 3) := by decide +kernel
theorem dX12_end_20 : decode cX12_end 20 = .ok (.iload_n 1, 1) := by decide +kernel
theorem dX12_end_21 : decode cX12_end 21 = .ok (.putfield 176, 3) := by decide +kernel
theorem dX12_end_24 : decode cX12_end 24 = .ok (.iconst 1, 1) := by decide +kernel
theorem dX12_end_25 : decode cX12_end 25 = .ok (.ireturn, 1) := by decide +kernel
theorem dX12_end_5 : decode cX12_end 5 = .ok (.iload_n 1, 1) := by decide +kernel
theorem dX12_end_6 : decode cX12_end 6 = .ok (.ifCond .lt 11, 3) := by decide +kernel
theorem dX12_end_9 : decode cX12_end 9 = .ok (.iload_n 1, 1) := by decide +kernel
theorem dX12_error_0 : decode cX12_error 0 = .ok (.aload_n 0, 1) := by decide +kernel
theorem dX12_error_1 : decode cX12_error 1 = .ok (.iconst 0, 1) := by decide +kernel
theorem dX12_error_2 : decode cX12_error 2 = .ok (.putfield 155, 3) := by decide +kernel
theorem dX12_error_5 : decode cX12_error 5 = .ok (.aload_n 0, 1) := by decide +kernel
theorem dX12_error_6 : decode cX12_error 6 = .ok (.getfield 648, 3) := by decide +kernel
theorem dX12_error_9 : decode cX12_error 9 = .ok (.ireturn, 1) := by decide +kernel
theorem dX12_fail_0 : decode cX12_fail 0 = .ok (.aload_n 0, 1) := by decide +kernel
theorem dX12_fail_1 : decode cX12_fail 1 = .ok (.getfield 469, 3) := by decide +kernel
theorem dX12_fail_12 : decode cX12_fail 12 = .ok (.return_, 1) := by decide +kernel
theorem dX12_fail_4 : decode cX12_fail 4 = .ok (.ifCond .ne 8, 3) := by decide +kernel
theorem dX12_fail_7 : decode cX12_fail 7 = .ok (.aload_n 0, 1) := by decide +kernel
theorem dX12_fail_8 : decode cX12_fail 8 = .ok (.iload_n 1, 1) := by decide +kernel
theorem dX12_fail_9 : decode cX12_fail 9 = .ok (.putfield 469, 3) := by decide +kernel
theorem dX12_fieldOf_0 : decode cX12_fieldOf 0 = .ok (.iload_n 1, 1) := by decide +kernel
theorem dX12_fieldOf_1 : decode cX12_fieldOf 1 = .ok (.bipush 8, 2) := by decide +kernel
theorem dX12_fieldOf_10 : decode cX12_fieldOf 10 = .ok (.iload_n 2, 1) := by decide +kernel
theorem dX12_fieldOf_11 : decode cX12_fieldOf 11 = .ok (.ifCond .ne 7, 3) := by decide +kernel
theorem dX12_fieldOf_14 : decode cX12_fieldOf 14 = .ok (.iconst 1, 1) := by decide +kernel
theorem dX12_fieldOf_15 : decode cX12_fieldOf 15 = .ok (.goto 4, 3) := by decide +kernel
theorem dX12_fieldOf_18 : decode cX12_fieldOf 18 = .ok (.iload_n 2, 1) := by decide +kernel
theorem dX12_fieldOf_19 : decode cX12_fieldOf 19 = .ok (.istore 4, 2) := by decide +kernel
theorem dX12_fieldOf_21 : decode cX12_fieldOf 21 = .ok (.iload_n 3, 1) := by decide +kernel
theorem dX12_fieldOf_22 : decode cX12_fieldOf 22 = .ok (.iload 4, 2) := by decide +kernel
theorem dX12_fieldOf_24 : decode cX12_fieldOf 24 = .ok (.if_icmp .ge 7, 3) := by decide +kernel
theorem dX12_fieldOf_27 : decode cX12_fieldOf 27 = .ok (.iconst 0, 1) := by decide +kernel
theorem dX12_fieldOf_28 : decode cX12_fieldOf 28 = .ok (.goto 9, 3) := by decide +kernel
theorem dX12_fieldOf_3 : decode cX12_fieldOf 3 = .ok (.idiv, 1) := by decide +kernel
theorem dX12_fieldOf_31 : decode cX12_fieldOf 31 = .ok (.iload_n 3, 1) := by decide +kernel
theorem dX12_fieldOf_32 : decode cX12_fieldOf 32 = .ok (.iload 4, 2) := by decide +kernel
theorem dX12_fieldOf_34 : decode cX12_fieldOf 34 = .ok (.isub, 1) := by decide +kernel
theorem dX12_fieldOf_35 : decode cX12_fieldOf 35 = .ok (.iconst 1, 1) := by decide +kernel
theorem dX12_fieldOf_36 : decode cX12_fieldOf 36 = .ok (.iadd, 1) := by decide +kernel
theorem dX12_fieldOf_37 : decode cX12_fieldOf 37 = .ok (.istore 5, 2) := by decide +kernel
theorem dX12_fieldOf_39 : decode cX12_fieldOf 39 = .ok (.iload 5, 2) := by decide +kernel
theorem dX12_fieldOf_4 : decode cX12_fieldOf 4 = .ok (.istore_n 2, 1) := by decide +kernel
theorem dX12_fieldOf_41 : decode cX12_fieldOf 41 = .ok (.ifCond .ne 7, 3) := by decide +kernel
theorem dX12_fieldOf_44 : decode cX12_fieldOf 44 = .ok (.iconst 0, 1) := by decide +kernel
theorem dX12_fieldOf_45 : decode cX12_fieldOf 45 = .ok (.goto 25, 3) := by decide +kernel
theorem dX12_fieldOf_48 : decode cX12_fieldOf 48 = .ok (.iload_n 0, 1) := by decide +kernel
theorem dX12_fieldOf_49 : decode cX12_fieldOf 49 = .ok (.ldc 159, 2) := by decide +kernel
theorem dX12_fieldOf_5 : decode cX12_fieldOf 5 = .ok (.iload_n 1, 1) := by decide +kernel
theorem dX12_fieldOf_51 : decode cX12_fieldOf 51 = .ok (.iand, 1) := by decide +kernel
theorem dX12_fieldOf_52 : decode cX12_fieldOf 52 = .ok (.bipush 6, 2) := by decide +kernel
theorem dX12_fieldOf_54 : decode cX12_fieldOf 54 = .ok (.iconst 5, 1) := by decide +kernel
theorem dX12_fieldOf_55 : decode cX12_fieldOf 55 = .ok (.iload_n 3, 1) := by decide +kernel
theorem dX12_fieldOf_56 : decode cX12_fieldOf 56 = .ok (.isub, 1) := by decide +kernel
theorem dX12_fieldOf_57 : decode cX12_fieldOf 57 = .ok (.imul, 1) := by decide +kernel
theorem dX12_fieldOf_58 : decode cX12_fieldOf 58 = .ok (.ishr, 1) := by decide +kernel
theorem dX12_fieldOf_59 : decode cX12_fieldOf 59 = .ok (.lconst 1, 1) := by decide +kernel
theorem dX12_fieldOf_6 : decode cX12_fieldOf 6 = .ok (.bipush 8, 2) := by decide +kernel
theorem dX12_fieldOf_60 : decode cX12_fieldOf 60 = .ok (.bipush 6, 2) := by decide +kernel
theorem dX12_fieldOf_62 : decode cX12_fieldOf 62 = .ok (.iload 5, 2) := by decide +kernel
theorem dX12_fieldOf_64 : decode cX12_fieldOf 64 = .ok (.imul, 1) := by decide +kernel
theorem dX12_fieldOf_65 : decode cX12_fieldOf 65 = .ok (.lshl, 1) := by decide +kernel
theorem dX12_fieldOf_66 : decode cX12_fieldOf 66 = .ok (.lconst 1, 1) := by decide +kernel
theorem dX12_fieldOf_67 : decode cX12_fieldOf 67 = .ok (.lsub, 1) := by decide +kernel
theorem dX12_fieldOf_68 : decode cX12_fieldOf 68 = .ok (.l2i, 1) := by decide +kernel
theorem dX12_fieldOf_69 : decode cX12_fieldOf 69 = .ok (.iand, 1) := by decide +kernel
theorem dX12_fieldOf_70 : decode cX12_fieldOf 70 = .ok (.istore 6, 2) := by decide +kernel
theorem dX12_fieldOf_72 : decode cX12_fieldOf 72 = .ok (.iload_n 2, 1) := by decide +kernel
theorem dX12_fieldOf_73 : decode cX12_fieldOf 73 = .ok (.ifCond .ne 13, 3) := by decide +kernel
theorem dX12_fieldOf_76 : decode cX12_fieldOf 76 = .ok (.iload_n 0, 1) := by decide +kernel
theorem dX12_fieldOf_77 : decode cX12_fieldOf 77 = .ok (.ldc 158, 2) := by decide +kernel
theorem dX12_fieldOf_79 : decode cX12_fieldOf 79 = .ok (.iand, 1) := by decide +kernel
theorem dX12_fieldOf_8 : decode cX12_fieldOf 8 = .ok (.irem, 1) := by decide +kernel
theorem dX12_fieldOf_80 : decode cX12_fieldOf 80 = .ok (.iload 6, 2) := by decide +kernel
theorem dX12_fieldOf_82 : decode cX12_fieldOf 82 = .ok (.ior, 1) := by decide +kernel
theorem dX12_fieldOf_83 : decode cX12_fieldOf 83 = .ok (.goto 5, 3) := by decide +kernel
theorem dX12_fieldOf_86 : decode cX12_fieldOf 86 = .ok (.iload 6, 2) := by decide +kernel
theorem dX12_fieldOf_88 : decode cX12_fieldOf 88 = .ok (.ireturn, 1) := by decide +kernel
theorem dX12_fieldOf_9 : decode cX12_fieldOf 9 = .ok (.istore_n 3, 1) := by decide +kernel
theorem dX12_find_0 : decode cX12_find 0 = .ok (.iconst 0, 1) := by decide +kernel
theorem dX12_find_1 : decode cX12_find 1 = .ok (.istore_n 3, 1) := by decide +kernel
theorem dX12_find_10 : decode cX12_find 10 = .ok (.aload_n 0, 1) := by decide +kernel
theorem dX12_find_11 : decode cX12_find 11 = .ok (.getfield 89, 3) := by decide +kernel
theorem dX12_find_14 : decode cX12_find 14 = .ok (.iload_n 3, 1) := by decide +kernel
theorem dX12_find_15 : decode cX12_find 15 = .ok (.laload, 1) := by decide +kernel
theorem dX12_find_16 : decode cX12_find 16 = .ok (.lload_n 1, 1) := by decide +kernel
theorem dX12_find_17 : decode cX12_find 17 = .ok (.lcmp, 1) := by decide +kernel
theorem dX12_find_18 : decode cX12_find 18 = .ok (.ifCond .ne 5, 3) := by decide +kernel
theorem dX12_find_2 : decode cX12_find 2 = .ok (.iload_n 3, 1) := by decide +kernel
theorem dX12_find_21 : decode cX12_find 21 = .ok (.iload_n 3, 1) := by decide +kernel
theorem dX12_find_22 : decode cX12_find 22 = .ok (.ireturn, 1) := by decide +kernel
theorem dX12_find_23 : decode cX12_find 23 = .ok (.iinc 3 1, 3) := by decide +kernel
theorem dX12_find_26 : decode cX12_find 26 = .ok (.goto (-24), 3) := by decide +kernel
theorem dX12_find_29 : decode cX12_find 29 = .ok (.iconst (-1), 1) := by decide +kernel
theorem dX12_find_3 : decode cX12_find 3 = .ok (.aload_n 0, 1) := by decide +kernel
theorem dX12_find_30 : decode cX12_find 30 = .ok (.ireturn, 1) := by decide +kernel
theorem dX12_find_4 : decode cX12_find 4 = .ok (.getfield 463, 3) := by decide +kernel
theorem dX12_find_7 : decode cX12_find 7 = .ok (.if_icmp .ge 22, 3) := by decide +kernel
theorem dX12_freeUnits_0 : decode cX12_freeUnits 0 = .ok (.iconst 0, 1) := by decide +kernel
theorem dX12_freeUnits_1 : decode cX12_freeUnits 1 = .ok (.istore_n 1, 1) := by decide +kernel
theorem dX12_freeUnits_12 : decode cX12_freeUnits 12 = .ok (.iload_n 1, 1) := by decide +kernel
theorem dX12_freeUnits_13 : decode cX12_freeUnits 13 = .ok (.lconst 0, 1) := by decide +kernel
theorem dX12_freeUnits_14 : decode cX12_freeUnits 14 = .ok (.lastore, 1) := by decide +kernel
theorem dX12_freeUnits_15 : decode cX12_freeUnits 15 = .ok (.aload_n 0, 1) := by decide +kernel
theorem dX12_freeUnits_16 : decode cX12_freeUnits 16 = .ok (.getfield 31, 3) := by decide +kernel
theorem dX12_freeUnits_19 : decode cX12_freeUnits 19 = .ok (.iload_n 1, 1) := by decide +kernel
theorem dX12_freeUnits_2 : decode cX12_freeUnits 2 = .ok (.iload_n 1, 1) := by decide +kernel
theorem dX12_freeUnits_20 : decode cX12_freeUnits 20 = .ok (.iconst 0, 1) := by decide +kernel
theorem dX12_freeUnits_21 : decode cX12_freeUnits 21 = .ok (.bastore, 1) := by decide +kernel
theorem dX12_freeUnits_22 : decode cX12_freeUnits 22 = .ok (.iinc 1 1, 3) := by decide +kernel
theorem dX12_freeUnits_25 : decode cX12_freeUnits 25 = .ok (.goto (-23), 3) := by decide +kernel
theorem dX12_freeUnits_28 : decode cX12_freeUnits 28 = .ok (.return_, 1) := by decide +kernel
theorem dX12_freeUnits_3 : decode cX12_freeUnits 3 = .ok (.bipush 20, 2) := by decide +kernel
theorem dX12_freeUnits_5 : decode cX12_freeUnits 5 = .ok (.if_icmp .ge 23, 3) := by decide +kernel
theorem dX12_freeUnits_8 : decode cX12_freeUnits 8 = .ok (.aload_n 0, 1) := by decide +kernel
theorem dX12_freeUnits_9 : decode cX12_freeUnits 9 = .ok (.getfield 27, 3) := by decide +kernel
theorem dX12_hasField_0 : decode cX12_hasField 0 = .ok (.aload_n 0, 1) := by decide +kernel
theorem dX12_hasField_1 : decode cX12_hasField 1 = .ok (.getfield 282, 3) := by decide +kernel
theorem dX12_hasField_11 : decode cX12_hasField 11 = .ok (.iconst 5, 1) := by decide +kernel
theorem dX12_hasField_12 : decode cX12_hasField 12 = .ok (.if_icmp .lt 30, 3) := by decide +kernel
theorem dX12_hasField_15 : decode cX12_hasField 15 = .ok (.aload_n 0, 1) := by decide +kernel
theorem dX12_hasField_16 : decode cX12_hasField 16 = .ok (.getfield 282, 3) := by decide +kernel
theorem dX12_hasField_19 : decode cX12_hasField 19 = .ok (.bipush 7, 2) := by decide +kernel
theorem dX12_hasField_21 : decode cX12_hasField 21 = .ok (.if_icmp .le 12, 3) := by decide +kernel
theorem dX12_hasField_24 : decode cX12_hasField 24 = .ok (.aload_n 0, 1) := by decide +kernel
theorem dX12_hasField_25 : decode cX12_hasField 25 = .ok (.getfield 282, 3) := by decide +kernel
theorem dX12_hasField_28 : decode cX12_hasField 28 = .ok (.bipush 34, 2) := by decide +kernel
theorem dX12_hasField_30 : decode cX12_hasField 30 = .ok (.if_icmp .lt 12, 3) := by decide +kernel
theorem dX12_hasField_33 : decode cX12_hasField 33 = .ok (.aload_n 0, 1) := by decide +kernel
theorem dX12_hasField_34 : decode cX12_hasField 34 = .ok (.getfield 282, 3) := by decide +kernel
theorem dX12_hasField_37 : decode cX12_hasField 37 = .ok (.bipush 55, 2) := by decide +kernel
theorem dX12_hasField_39 : decode cX12_hasField 39 = .ok (.if_icmp .le 7, 3) := by decide +kernel
theorem dX12_hasField_4 : decode cX12_hasField 4 = .ok (.ifCond .le 11, 3) := by decide +kernel
theorem dX12_hasField_42 : decode cX12_hasField 42 = .ok (.iconst 1, 1) := by decide +kernel
theorem dX12_hasField_43 : decode cX12_hasField 43 = .ok (.goto 4, 3) := by decide +kernel
theorem dX12_hasField_46 : decode cX12_hasField 46 = .ok (.iconst 0, 1) := by decide +kernel
theorem dX12_hasField_47 : decode cX12_hasField 47 = .ok (.ireturn, 1) := by decide +kernel
theorem dX12_hasField_7 : decode cX12_hasField 7 = .ok (.aload_n 0, 1) := by decide +kernel
theorem dX12_hasField_8 : decode cX12_hasField 8 = .ok (.getfield 282, 3) := by decide +kernel
theorem dX12_hasOption_0 : decode cX12_hasOption 0 = .ok (.aload_n 0, 1) := by decide +kernel
theorem dX12_hasOption_1 : decode cX12_hasOption 1 = .ok (.getfield 743, 3) := by decide +kernel
theorem dX12_hasOption_12 : decode cX12_hasOption 12 = .ok (.iconst 1, 1) := by decide +kernel
theorem dX12_hasOption_13 : decode cX12_hasOption 13 = .ok (.goto 4, 3) := by decide +kernel
theorem dX12_hasOption_16 : decode cX12_hasOption 16 = .ok (.iconst 0, 1) := by decide +kernel
theorem dX12_hasOption_17 : decode cX12_hasOption 17 = .ok (.ireturn, 1) := by decide +kernel
theorem dX12_hasOption_4 : decode cX12_hasOption 4 = .ok (.iload_n 1, 1) := by decide +kernel
theorem dX12_hasOption_5 : decode cX12_hasOption 5 = .ok (.ishr, 1) := by decide +kernel
theorem dX12_hasOption_6 : decode cX12_hasOption 6 = .ok (.iconst 1, 1) := by decide +kernel
theorem dX12_hasOption_7 : decode cX12_hasOption 7 = .ok (.iand, 1) := by decide +kernel
theorem dX12_hasOption_8 : decode cX12_hasOption 8 = .ok (.iconst 1, 1) := by decide +kernel
theorem dX12_hasOption_9 : decode cX12_hasOption 9 = .ok (.if_icmp .ne 7, 3) := by decide +kernel
theorem dX12_hasPut_0 : decode cX12_hasPut 0 = .ok (.iload_n 1, 1) := by decide +kernel
theorem dX12_hasPut_1 : decode cX12_hasPut 1 = .ok (.sipush 3999, 3) := by decide +kernel
theorem dX12_hasPut_11 : decode cX12_hasPut 11 = .ok (.iload_n 1, 1) := by decide +kernel
theorem dX12_hasPut_12 : decode cX12_hasPut 12 = .ok (.sipush (-3999), 3) := by decide +kernel
theorem dX12_hasPut_15 : decode cX12_hasPut 15 = .ok (.isub, 1) := by decide +kernel
theorem dX12_hasPut_16 : decode cX12_hasPut 16 = .ok (.baload, 1) := by decide +kernel
theorem dX12_hasPut_17 : decode cX12_hasPut 17 = .ok (.ifCond .eq 7, 3) := by decide +kernel
theorem dX12_hasPut_20 : decode cX12_hasPut 20 = .ok (.iconst 1, 1) := by decide +kernel
theorem dX12_hasPut_21 : decode cX12_hasPut 21 = .ok (.goto 4, 3) := by decide +kernel
theorem dX12_hasPut_24 : decode cX12_hasPut 24 = .ok (.iconst 0, 1) := by decide +kernel
theorem dX12_hasPut_25 : decode cX12_hasPut 25 = .ok (.ireturn, 1) := by decide +kernel
theorem dX12_hasPut_4 : decode cX12_hasPut 4 = .ok (.if_icmp .gt 20, 3) := by decide +kernel
theorem dX12_hasPut_7 : decode cX12_hasPut 7 = .ok (.aload_n 0, 1) := by decide +kernel
theorem dX12_hasPut_8 : decode cX12_hasPut 8 = .ok (.getfield 83, 3) := by decide +kernel
theorem dX12_interrupt_0 : decode cX12_interrupt 0 = .ok (.iconst 0, 1) := by decide +kernel
theorem dX12_interrupt_1 : decode cX12_interrupt 1 = .ok (.istore_n 2, 1) := by decide +kernel
theorem dX12_interrupt_10 : decode cX12_interrupt 10 = .ok (.bipush 9, 2) := by decide +kernel
theorem dX12_interrupt_12 : decode cX12_interrupt 12 = .ok (.isub, 1) := by decide +kernel
theorem dX12_interrupt_13 : decode cX12_interrupt 13 = .ok (.aload_n 0, 1) := by decide +kernel
theorem dX12_interrupt_14 : decode cX12_interrupt 14 = .ok (.getfield 17, 3) := by decide +kernel
theorem dX12_interrupt_17 : decode cX12_interrupt 17 = .ok (.iload_n 2, 1) := by decide +kernel
theorem dX12_interrupt_18 : decode cX12_interrupt 18 = .ok (.iaload, 1) := by decide +kernel
theorem dX12_interrupt_19 : decode cX12_interrupt 19 = .ok (.invokevirtual 214, 3) := by decide +kernel
theorem dX12_interrupt_2 : decode cX12_interrupt 2 = .ok (.iload_n 2, 1) := by decide +kernel
theorem dX12_interrupt_22 : decode cX12_interrupt 22 = .ok (.iinc 2 1, 3) := by decide +kernel
theorem dX12_interrupt_25 : decode cX12_interrupt 25 = .ok (.goto (-23), 3) := by decide +kernel
theorem dX12_interrupt_28 : decode cX12_interrupt 28 = .ok (.aload_n 0, 1) := by decide +kernel
theorem dX12_interrupt_29 : decode cX12_interrupt 29 = .ok (.getfield 20, 3) := by decide +kernel
theorem dX12_interrupt_3 : decode cX12_interrupt 3 = .ok (.bipush 8, 2) := by decide +kernel
theorem dX12_interrupt_32 : decode cX12_interrupt 32 = .ok (.aload_n 0, 1) := by decide +kernel
theorem dX12_interrupt_33 : decode cX12_interrupt 33 = .ok (.getfield 314, 3) := by decide +kernel
theorem dX12_interrupt_36 : decode cX12_interrupt 36 = .ok (.ifCond .eq 8, 3) := by decide +kernel
theorem dX12_interrupt_39 : decode cX12_interrupt 39 = .ok (.bipush 8, 2) := by decide +kernel
theorem dX12_interrupt_41 : decode cX12_interrupt 41 = .ok (.goto 4, 3) := by decide +kernel
theorem dX12_interrupt_44 : decode cX12_interrupt 44 = .ok (.iconst 0, 1) := by decide +kernel
theorem dX12_interrupt_45 : decode cX12_interrupt 45 = .ok (.iadd, 1) := by decide +kernel
theorem dX12_interrupt_46 : decode cX12_interrupt 46 = .ok (.istore_n 2, 1) := by decide +kernel
theorem dX12_interrupt_47 : decode cX12_interrupt 47 = .ok (.aload_n 0, 1) := by decide +kernel
theorem dX12_interrupt_48 : decode cX12_interrupt 48 = .ok (.iconst (-1), 1) := by decide +kernel
theorem dX12_interrupt_49 : decode cX12_interrupt 49 = .ok (.aload_n 0, 1) := by decide +kernel
theorem dX12_interrupt_5 : decode cX12_interrupt 5 = .ok (.if_icmp .ge 23, 3) := by decide +kernel
theorem dX12_interrupt_50 : decode cX12_interrupt 50 = .ok (.getfield 17, 3) := by decide +kernel
theorem dX12_interrupt_53 : decode cX12_interrupt 53 = .ok (.bipush 8, 2) := by decide +kernel
theorem dX12_interrupt_55 : decode cX12_interrupt 55 = .ok (.iaload, 1) := by decide +kernel
theorem dX12_interrupt_56 : decode cX12_interrupt 56 = .ok (.sipush 4095, 3) := by decide +kernel
theorem dX12_interrupt_59 : decode cX12_interrupt 59 = .ok (.iand, 1) := by decide +kernel
theorem dX12_interrupt_60 : decode cX12_interrupt 60 = .ok (.bipush 18, 2) := by decide +kernel
theorem dX12_interrupt_62 : decode cX12_interrupt 62 = .ok (.ishl, 1) := by decide +kernel
theorem dX12_interrupt_63 : decode cX12_interrupt 63 = .ok (.iload_n 2, 1) := by decide +kernel
theorem dX12_interrupt_64 : decode cX12_interrupt 64 = .ok (.bipush 12, 2) := by decide +kernel
theorem dX12_interrupt_66 : decode cX12_interrupt 66 = .ok (.ishl, 1) := by decide +kernel
theorem dX12_interrupt_67 : decode cX12_interrupt 67 = .ok (.ior, 1) := by decide +kernel
theorem dX12_interrupt_68 : decode cX12_interrupt 68 = .ok (.aload_n 0, 1) := by decide +kernel
theorem dX12_interrupt_69 : decode cX12_interrupt 69 = .ok (.getfield 378, 3) := by decide +kernel
theorem dX12_interrupt_72 : decode cX12_interrupt 72 = .ok (.ior, 1) := by decide +kernel
theorem dX12_interrupt_73 : decode cX12_interrupt 73 = .ok (.invokevirtual 214, 3) := by decide +kernel
theorem dX12_interrupt_76 : decode cX12_interrupt 76 = .ok (.aload_n 0, 1) := by decide +kernel
theorem dX12_interrupt_77 : decode cX12_interrupt 77 = .ok (.bipush (-11), 2) := by decide +kernel
theorem dX12_interrupt_79 : decode cX12_interrupt 79 = .ok (.iload_n 1, 1) := by decide +kernel
theorem dX12_interrupt_8 : decode cX12_interrupt 8 = .ok (.aload_n 0, 1) := by decide +kernel
theorem dX12_interrupt_80 : decode cX12_interrupt 80 = .ok (.invokevirtual 214, 3) := by decide +kernel
theorem dX12_interrupt_83 : decode cX12_interrupt 83 = .ok (.aload_n 0, 1) := by decide +kernel
theorem dX12_interrupt_84 : decode cX12_interrupt 84 = .ok (.iconst 1, 1) := by decide +kernel
theorem dX12_interrupt_85 : decode cX12_interrupt 85 = .ok (.putfield 241, 3) := by decide +kernel
theorem dX12_interrupt_88 : decode cX12_interrupt 88 = .ok (.aload_n 0, 1) := by decide +kernel
theorem dX12_interrupt_89 : decode cX12_interrupt 89 = .ok (.bipush (-12), 2) := by decide +kernel
theorem dX12_interrupt_9 : decode cX12_interrupt 9 = .ok (.iload_n 2, 1) := by decide +kernel
theorem dX12_interrupt_91 : decode cX12_interrupt 91 = .ok (.putfield 378, 3) := by decide +kernel
theorem dX12_interrupt_94 : decode cX12_interrupt 94 = .ok (.return_, 1) := by decide +kernel
theorem dX12_isAddress_0 : decode cX12_isAddress 0 = .ok (.iload_n 0, 1) := by decide +kernel
theorem dX12_isAddress_1 : decode cX12_isAddress 1 = .ok (.sipush (-3999), 3) := by decide +kernel
theorem dX12_isAddress_11 : decode cX12_isAddress 11 = .ok (.if_icmp .gt 7, 3) := by decide +kernel
theorem dX12_isAddress_14 : decode cX12_isAddress 14 = .ok (.iconst 1, 1) := by decide +kernel
theorem dX12_isAddress_15 : decode cX12_isAddress 15 = .ok (.goto 4, 3) := by decide +kernel
theorem dX12_isAddress_18 : decode cX12_isAddress 18 = .ok (.iconst 0, 1) := by decide +kernel
theorem dX12_isAddress_19 : decode cX12_isAddress 19 = .ok (.ireturn, 1) := by decide +kernel
theorem dX12_isAddress_4 : decode cX12_isAddress 4 = .ok (.if_icmp .lt 14, 3) := by decide +kernel
theorem dX12_isAddress_7 : decode cX12_isAddress 7 = .ok (.iload_n 0, 1) := by decide +kernel
theorem dX12_isAddress_8 : decode cX12_isAddress 8 = .ok (.sipush 3999, 3) := by decide +kernel
theorem dX12_isDigit_0 : decode cX12_isDigit 0 = .ok (.iload_n 0, 1) := by decide +kernel
theorem dX12_isDigit_1 : decode cX12_isDigit 1 = .ok (.bipush 48, 2) := by decide +kernel
theorem dX12_isDigit_12 : decode cX12_isDigit 12 = .ok (.iconst 1, 1) := by decide +kernel
theorem dX12_isDigit_13 : decode cX12_isDigit 13 = .ok (.goto 4, 3) := by decide +kernel
theorem dX12_isDigit_16 : decode cX12_isDigit 16 = .ok (.iconst 0, 1) := by decide +kernel
theorem dX12_isDigit_17 : decode cX12_isDigit 17 = .ok (.ireturn, 1) := by decide +kernel
theorem dX12_isDigit_3 : decode cX12_isDigit 3 = .ok (.if_icmp .lt 13, 3) := by decide +kernel
theorem dX12_isDigit_6 : decode cX12_isDigit 6 = .ok (.iload_n 0, 1) := by decide +kernel
theorem dX12_isDigit_7 : decode cX12_isDigit 7 = .ok (.bipush 57, 2) := by decide +kernel
theorem dX12_isDigit_9 : decode cX12_isDigit 9 = .ok (.if_icmp .gt 7, 3) := by decide +kernel
theorem dX12_isField_0 : decode cX12_isField 0 = .ok (.iload_n 0, 1) := by decide +kernel
theorem dX12_isField_1 : decode cX12_isField 1 = .ok (.ifCond .lt 26, 3) := by decide +kernel
theorem dX12_isField_11 : decode cX12_isField 11 = .ok (.irem, 1) := by decide +kernel
theorem dX12_isField_12 : decode cX12_isField 12 = .ok (.if_icmp .gt 15, 3) := by decide +kernel
theorem dX12_isField_15 : decode cX12_isField 15 = .ok (.iload_n 0, 1) := by decide +kernel
theorem dX12_isField_16 : decode cX12_isField 16 = .ok (.bipush 8, 2) := by decide +kernel
theorem dX12_isField_18 : decode cX12_isField 18 = .ok (.irem, 1) := by decide +kernel
theorem dX12_isField_19 : decode cX12_isField 19 = .ok (.iconst 5, 1) := by decide +kernel
theorem dX12_isField_20 : decode cX12_isField 20 = .ok (.if_icmp .gt 7, 3) := by decide +kernel
theorem dX12_isField_23 : decode cX12_isField 23 = .ok (.iconst 1, 1) := by decide +kernel
theorem dX12_isField_24 : decode cX12_isField 24 = .ok (.goto 4, 3) := by decide +kernel
theorem dX12_isField_27 : decode cX12_isField 27 = .ok (.iconst 0, 1) := by decide +kernel
theorem dX12_isField_28 : decode cX12_isField 28 = .ok (.ireturn, 1) := by decide +kernel
theorem dX12_isField_4 : decode cX12_isField 4 = .ok (.iload_n 0, 1) := by decide +kernel
theorem dX12_isField_5 : decode cX12_isField 5 = .ok (.bipush 8, 2) := by decide +kernel
theorem dX12_isField_7 : decode cX12_isField 7 = .ok (.idiv, 1) := by decide +kernel
theorem dX12_isField_8 : decode cX12_isField 8 = .ok (.iload_n 0, 1) := by decide +kernel
theorem dX12_isField_9 : decode cX12_isField 9 = .ok (.bipush 8, 2) := by decide +kernel
theorem dX12_isGreat_0 : decode cX12_isGreat 0 = .ok (.iload_n 0, 1) := by decide +kernel
theorem dX12_isGreat_1 : decode cX12_isGreat 1 = .ok (.bipush 65, 2) := by decide +kernel
theorem dX12_isGreat_12 : decode cX12_isGreat 12 = .ok (.iconst 1, 1) := by decide +kernel
theorem dX12_isGreat_13 : decode cX12_isGreat 13 = .ok (.goto 4, 3) := by decide +kernel
theorem dX12_isGreat_16 : decode cX12_isGreat 16 = .ok (.iconst 0, 1) := by decide +kernel
theorem dX12_isGreat_17 : decode cX12_isGreat 17 = .ok (.ireturn, 1) := by decide +kernel
theorem dX12_isGreat_3 : decode cX12_isGreat 3 = .ok (.if_icmp .lt 13, 3) := by decide +kernel
theorem dX12_isGreat_6 : decode cX12_isGreat 6 = .ok (.iload_n 0, 1) := by decide +kernel
theorem dX12_isGreat_7 : decode cX12_isGreat 7 = .ok (.bipush 90, 2) := by decide +kernel
theorem dX12_isGreat_9 : decode cX12_isGreat 9 = .ok (.if_icmp .gt 7, 3) := by decide +kernel
theorem dX12_isHere_0 : decode cX12_isHere 0 = .ok (.iload_n 1, 1) := by decide +kernel
theorem dX12_isHere_1 : decode cX12_isHere 1 = .ok (.aload_n 0, 1) := by decide +kernel
theorem dX12_isHere_11 : decode cX12_isHere 11 = .ok (.goto 4, 3) := by decide +kernel
theorem dX12_isHere_14 : decode cX12_isHere 14 = .ok (.iconst 0, 1) := by decide +kernel
theorem dX12_isHere_15 : decode cX12_isHere 15 = .ok (.if_icmp .lt 14, 3) := by decide +kernel
theorem dX12_isHere_18 : decode cX12_isHere 18 = .ok (.iload_n 1, 1) := by decide +kernel
theorem dX12_isHere_19 : decode cX12_isHere 19 = .ok (.sipush 3999, 3) := by decide +kernel
theorem dX12_isHere_2 : decode cX12_isHere 2 = .ok (.getfield 241, 3) := by decide +kernel
theorem dX12_isHere_22 : decode cX12_isHere 22 = .ok (.if_icmp .gt 7, 3) := by decide +kernel
theorem dX12_isHere_25 : decode cX12_isHere 25 = .ok (.iconst 1, 1) := by decide +kernel
theorem dX12_isHere_26 : decode cX12_isHere 26 = .ok (.goto 4, 3) := by decide +kernel
theorem dX12_isHere_29 : decode cX12_isHere 29 = .ok (.iconst 0, 1) := by decide +kernel
theorem dX12_isHere_30 : decode cX12_isHere 30 = .ok (.ireturn, 1) := by decide +kernel
theorem dX12_isHere_5 : decode cX12_isHere 5 = .ok (.ifCond .eq 9, 3) := by decide +kernel
theorem dX12_isHere_8 : decode cX12_isHere 8 = .ok (.sipush (-3999), 3) := by decide +kernel
theorem dX12_isOperation_0 : decode cX12_isOperation 0 = .ok (.aload_n 0, 1) := by decide +kernel
theorem dX12_isOperation_1 : decode cX12_isOperation 1 = .ok (.getfield 292, 3) := by decide +kernel
theorem dX12_isOperation_10 : decode cX12_isOperation 10 = .ok (.bipush 6, 2) := by decide +kernel
theorem dX12_isOperation_101 : decode cX12_isOperation 101 = .ok (.aload_n 0, 1) := by decide +kernel
theorem dX12_isOperation_102 : decode cX12_isOperation 102 = .ok (.getfield 289, 3) := by decide +kernel
theorem dX12_isOperation_105 : decode cX12_isOperation 105 = .ok (.bipush 10, 2) := by decide +kernel
theorem dX12_isOperation_107 : decode cX12_isOperation 107 = .ok (.if_icmp .ge 7, 3) := by decide +kernel
theorem dX12_isOperation_110 : decode cX12_isOperation 110 = .ok (.iconst 1, 1) := by decide +kernel
theorem dX12_isOperation_111 : decode cX12_isOperation 111 = .ok (.goto 4, 3) := by decide +kernel
theorem dX12_isOperation_114 : decode cX12_isOperation 114 = .ok (.iconst 0, 1) := by decide +kernel
theorem dX12_isOperation_115 : decode cX12_isOperation 115 = .ok (.ireturn, 1) := by decide +kernel
theorem dX12_isOperation_116 : decode cX12_isOperation 116 = .ok (.aload_n 0, 1) := by decide +kernel
theorem dX12_isOperation_117 : decode cX12_isOperation 117 = .ok (.getfield 282, 3) := by decide +kernel
theorem dX12_isOperation_12 : decode cX12_isOperation 12 = .ok (.if_icmp .le 5, 3) := by decide +kernel
theorem dX12_isOperation_120 : decode cX12_isOperation 120 = .ok (.bipush 48, 2) := by decide +kernel
theorem dX12_isOperation_122 : decode cX12_isOperation 122 = .ok (.if_icmp .lt 20, 3) := by decide +kernel
theorem dX12_isOperation_125 : decode cX12_isOperation 125 = .ok (.aload_n 0, 1) := by decide +kernel
theorem dX12_isOperation_126 : decode cX12_isOperation 126 = .ok (.getfield 282, 3) := by decide +kernel
theorem dX12_isOperation_129 : decode cX12_isOperation 129 = .ok (.bipush 55, 2) := by decide +kernel
theorem dX12_isOperation_131 : decode cX12_isOperation 131 = .ok (.if_icmp .gt 11, 3) := by decide +kernel
theorem dX12_isOperation_134 : decode cX12_isOperation 134 = .ok (.aload_n 0, 1) := by decide +kernel
theorem dX12_isOperation_135 : decode cX12_isOperation 135 = .ok (.getfield 289, 3) := by decide +kernel
theorem dX12_isOperation_138 : decode cX12_isOperation 138 = .ok (.iconst 4, 1) := by decide +kernel
theorem dX12_isOperation_139 : decode cX12_isOperation 139 = .ok (.if_icmp .ge 7, 3) := by decide +kernel
theorem dX12_isOperation_142 : decode cX12_isOperation 142 = .ok (.iconst 1, 1) := by decide +kernel
theorem dX12_isOperation_143 : decode cX12_isOperation 143 = .ok (.goto 4, 3) := by decide +kernel
theorem dX12_isOperation_146 : decode cX12_isOperation 146 = .ok (.iconst 0, 1) := by decide +kernel
theorem dX12_isOperation_147 : decode cX12_isOperation 147 = .ok (.ireturn, 1) := by decide +kernel
theorem dX12_isOperation_15 : decode cX12_isOperation 15 = .ok (.iconst 0, 1) := by decide +kernel
theorem dX12_isOperation_16 : decode cX12_isOperation 16 = .ok (.ireturn, 1) := by decide +kernel
theorem dX12_isOperation_17 : decode cX12_isOperation 17 = .ok (.aload_n 0, 1) := by decide +kernel
theorem dX12_isOperation_18 : decode cX12_isOperation 18 = .ok (.getfield 282, 3) := by decide +kernel
theorem dX12_isOperation_21 : decode cX12_isOperation 21 = .ok (.iconst 5, 1) := by decide +kernel
theorem dX12_isOperation_22 : decode cX12_isOperation 22 = .ok (.if_icmp .ne 28, 3) := by decide +kernel
theorem dX12_isOperation_25 : decode cX12_isOperation 25 = .ok (.aload_n 0, 1) := by decide +kernel
theorem dX12_isOperation_26 : decode cX12_isOperation 26 = .ok (.getfield 289, 3) := by decide +kernel
theorem dX12_isOperation_29 : decode cX12_isOperation 29 = .ok (.aload_n 0, 1) := by decide +kernel
theorem dX12_isOperation_30 : decode cX12_isOperation 30 = .ok (.getfield 241, 3) := by decide +kernel
theorem dX12_isOperation_33 : decode cX12_isOperation 33 = .ok (.ifCond .eq 7, 3) := by decide +kernel
theorem dX12_isOperation_36 : decode cX12_isOperation 36 = .ok (.iconst 4, 1) := by decide +kernel
theorem dX12_isOperation_37 : decode cX12_isOperation 37 = .ok (.goto 4, 3) := by decide +kernel
theorem dX12_isOperation_4 : decode cX12_isOperation 4 = .ok (.bipush 12, 2) := by decide +kernel
theorem dX12_isOperation_40 : decode cX12_isOperation 40 = .ok (.iconst 3, 1) := by decide +kernel
theorem dX12_isOperation_41 : decode cX12_isOperation 41 = .ok (.if_icmp .ge 7, 3) := by decide +kernel
theorem dX12_isOperation_44 : decode cX12_isOperation 44 = .ok (.iconst 1, 1) := by decide +kernel
theorem dX12_isOperation_45 : decode cX12_isOperation 45 = .ok (.goto 4, 3) := by decide +kernel
theorem dX12_isOperation_48 : decode cX12_isOperation 48 = .ok (.iconst 0, 1) := by decide +kernel
theorem dX12_isOperation_49 : decode cX12_isOperation 49 = .ok (.ireturn, 1) := by decide +kernel
theorem dX12_isOperation_50 : decode cX12_isOperation 50 = .ok (.aload_n 0, 1) := by decide +kernel
theorem dX12_isOperation_51 : decode cX12_isOperation 51 = .ok (.getfield 282, 3) := by decide +kernel
theorem dX12_isOperation_54 : decode cX12_isOperation 54 = .ok (.bipush 6, 2) := by decide +kernel
theorem dX12_isOperation_56 : decode cX12_isOperation 56 = .ok (.if_icmp .eq 21, 3) := by decide +kernel
theorem dX12_isOperation_59 : decode cX12_isOperation 59 = .ok (.aload_n 0, 1) := by decide +kernel
theorem dX12_isOperation_6 : decode cX12_isOperation 6 = .ok (.ishr, 1) := by decide +kernel
theorem dX12_isOperation_60 : decode cX12_isOperation 60 = .ok (.getfield 282, 3) := by decide +kernel
theorem dX12_isOperation_63 : decode cX12_isOperation 63 = .ok (.bipush 39, 2) := by decide +kernel
theorem dX12_isOperation_65 : decode cX12_isOperation 65 = .ok (.if_icmp .le 27, 3) := by decide +kernel
theorem dX12_isOperation_68 : decode cX12_isOperation 68 = .ok (.aload_n 0, 1) := by decide +kernel
theorem dX12_isOperation_69 : decode cX12_isOperation 69 = .ok (.getfield 282, 3) := by decide +kernel
theorem dX12_isOperation_7 : decode cX12_isOperation 7 = .ok (.bipush 63, 2) := by decide +kernel
theorem dX12_isOperation_72 : decode cX12_isOperation 72 = .ok (.bipush 48, 2) := by decide +kernel
theorem dX12_isOperation_74 : decode cX12_isOperation 74 = .ok (.if_icmp .ge 18, 3) := by decide +kernel
theorem dX12_isOperation_77 : decode cX12_isOperation 77 = .ok (.aload_n 0, 1) := by decide +kernel
theorem dX12_isOperation_78 : decode cX12_isOperation 78 = .ok (.getfield 289, 3) := by decide +kernel
theorem dX12_isOperation_81 : decode cX12_isOperation 81 = .ok (.bipush 6, 2) := by decide +kernel
theorem dX12_isOperation_83 : decode cX12_isOperation 83 = .ok (.if_icmp .ge 7, 3) := by decide +kernel
theorem dX12_isOperation_86 : decode cX12_isOperation 86 = .ok (.iconst 1, 1) := by decide +kernel
theorem dX12_isOperation_87 : decode cX12_isOperation 87 = .ok (.goto 4, 3) := by decide +kernel
theorem dX12_isOperation_9 : decode cX12_isOperation 9 = .ok (.iand, 1) := by decide +kernel
theorem dX12_isOperation_90 : decode cX12_isOperation 90 = .ok (.iconst 0, 1) := by decide +kernel
theorem dX12_isOperation_91 : decode cX12_isOperation 91 = .ok (.ireturn, 1) := by decide +kernel
theorem dX12_isOperation_92 : decode cX12_isOperation 92 = .ok (.aload_n 0, 1) := by decide +kernel
theorem dX12_isOperation_93 : decode cX12_isOperation 93 = .ok (.getfield 282, 3) := by decide +kernel
theorem dX12_isOperation_96 : decode cX12_isOperation 96 = .ok (.bipush 39, 2) := by decide +kernel
theorem dX12_isOperation_98 : decode cX12_isOperation 98 = .ok (.if_icmp .ne 18, 3) := by decide +kernel
theorem dX12_isSign_0 : decode cX12_isSign 0 = .ok (.iload_n 0, 1) := by decide +kernel
theorem dX12_isSign_1 : decode cX12_isSign 1 = .ok (.bipush 43, 2) := by decide +kernel
theorem dX12_isSign_12 : decode cX12_isSign 12 = .ok (.iload_n 0, 1) := by decide +kernel
theorem dX12_isSign_13 : decode cX12_isSign 13 = .ok (.bipush 42, 2) := by decide +kernel
theorem dX12_isSign_15 : decode cX12_isSign 15 = .ok (.if_icmp .eq 15, 3) := by decide +kernel
theorem dX12_isSign_18 : decode cX12_isSign 18 = .ok (.iload_n 0, 1) := by decide +kernel
theorem dX12_isSign_19 : decode cX12_isSign 19 = .ok (.bipush 47, 2) := by decide +kernel
theorem dX12_isSign_21 : decode cX12_isSign 21 = .ok (.if_icmp .eq 9, 3) := by decide +kernel
theorem dX12_isSign_24 : decode cX12_isSign 24 = .ok (.iload_n 0, 1) := by decide +kernel
theorem dX12_isSign_25 : decode cX12_isSign 25 = .ok (.bipush 58, 2) := by decide +kernel
theorem dX12_isSign_27 : decode cX12_isSign 27 = .ok (.if_icmp .ne 7, 3) := by decide +kernel
theorem dX12_isSign_3 : decode cX12_isSign 3 = .ok (.if_icmp .eq 27, 3) := by decide +kernel
theorem dX12_isSign_30 : decode cX12_isSign 30 = .ok (.iconst 1, 1) := by decide +kernel
theorem dX12_isSign_31 : decode cX12_isSign 31 = .ok (.goto 4, 3) := by decide +kernel
theorem dX12_isSign_34 : decode cX12_isSign 34 = .ok (.iconst 0, 1) := by decide +kernel
theorem dX12_isSign_35 : decode cX12_isSign 35 = .ok (.ireturn, 1) := by decide +kernel
theorem dX12_isSign_6 : decode cX12_isSign 6 = .ok (.iload_n 0, 1) := by decide +kernel
theorem dX12_isSign_7 : decode cX12_isSign 7 = .ok (.bipush 45, 2) := by decide +kernel
theorem dX12_isSign_9 : decode cX12_isSign 9 = .ok (.if_icmp .eq 21, 3) := by decide +kernel
theorem dX12_isSo_0 : decode cX12_isSo 0 = .ok (.iload_n 1, 1) := by decide +kernel
theorem dX12_isSo_1 : decode cX12_isSo 1 = .ok (.tableswitch 85 0 4 #[35, 45, 55, 65, 75], 35) := by decide +kernel
theorem dX12_isSo_36 : decode cX12_isSo 36 = .ok (.iload_n 0, 1) := by decide +kernel
theorem dX12_isSo_37 : decode cX12_isSo 37 = .ok (.ifCond .ge 7, 3) := by decide +kernel
theorem dX12_isSo_40 : decode cX12_isSo 40 = .ok (.iconst 1, 1) := by decide +kernel
theorem dX12_isSo_41 : decode cX12_isSo 41 = .ok (.goto 4, 3) := by decide +kernel
theorem dX12_isSo_44 : decode cX12_isSo 44 = .ok (.iconst 0, 1) := by decide +kernel
theorem dX12_isSo_45 : decode cX12_isSo 45 = .ok (.ireturn, 1) := by decide +kernel
theorem dX12_isSo_46 : decode cX12_isSo 46 = .ok (.iload_n 0, 1) := by decide +kernel
theorem dX12_isSo_47 : decode cX12_isSo 47 = .ok (.ifCond .ne 7, 3) := by decide +kernel
theorem dX12_isSo_50 : decode cX12_isSo 50 = .ok (.iconst 1, 1) := by decide +kernel
theorem dX12_isSo_51 : decode cX12_isSo 51 = .ok (.goto 4, 3) := by decide +kernel
theorem dX12_isSo_54 : decode cX12_isSo 54 = .ok (.iconst 0, 1) := by decide +kernel
theorem dX12_isSo_55 : decode cX12_isSo 55 = .ok (.ireturn, 1) := by decide +kernel
theorem dX12_isSo_56 : decode cX12_isSo 56 = .ok (.iload_n 0, 1) := by decide +kernel
theorem dX12_isSo_57 : decode cX12_isSo 57 = .ok (.ifCond .le 7, 3) := by decide +kernel
theorem dX12_isSo_60 : decode cX12_isSo 60 = .ok (.iconst 1, 1) := by decide +kernel
theorem dX12_isSo_61 : decode cX12_isSo 61 = .ok (.goto 4, 3) := by decide +kernel
theorem dX12_isSo_64 : decode cX12_isSo 64 = .ok (.iconst 0, 1) := by decide +kernel
theorem dX12_isSo_65 : decode cX12_isSo 65 = .ok (.ireturn, 1) := by decide +kernel
theorem dX12_isSo_66 : decode cX12_isSo 66 = .ok (.iload_n 0, 1) := by decide +kernel
theorem dX12_isSo_67 : decode cX12_isSo 67 = .ok (.ifCond .lt 7, 3) := by decide +kernel
theorem dX12_isSo_70 : decode cX12_isSo 70 = .ok (.iconst 1, 1) := by decide +kernel
theorem dX12_isSo_71 : decode cX12_isSo 71 = .ok (.goto 4, 3) := by decide +kernel
theorem dX12_isSo_74 : decode cX12_isSo 74 = .ok (.iconst 0, 1) := by decide +kernel
theorem dX12_isSo_75 : decode cX12_isSo 75 = .ok (.ireturn, 1) := by decide +kernel
theorem dX12_isSo_76 : decode cX12_isSo 76 = .ok (.iload_n 0, 1) := by decide +kernel
theorem dX12_isSo_77 : decode cX12_isSo 77 = .ok (.ifCond .eq 7, 3) := by decide +kernel
theorem dX12_isSo_80 : decode cX12_isSo 80 = .ok (.iconst 1, 1) := by decide +kernel
theorem dX12_isSo_81 : decode cX12_isSo 81 = .ok (.goto 4, 3) := by decide +kernel
theorem dX12_isSo_84 : decode cX12_isSo 84 = .ok (.iconst 0, 1) := by decide +kernel
theorem dX12_isSo_85 : decode cX12_isSo 85 = .ok (.ireturn, 1) := by decide +kernel
theorem dX12_isSo_86 : decode cX12_isSo 86 = .ok (.iload_n 0, 1) := by decide +kernel
theorem dX12_isSo_87 : decode cX12_isSo 87 = .ok (.ifCond .gt 7, 3) := by decide +kernel
theorem dX12_isSo_90 : decode cX12_isSo 90 = .ok (.iconst 1, 1) := by decide +kernel
theorem dX12_isSo_91 : decode cX12_isSo 91 = .ok (.goto 4, 3) := by decide +kernel
theorem dX12_isSo_94 : decode cX12_isSo 94 = .ok (.iconst 0, 1) := by decide +kernel
theorem dX12_isSo_95 : decode cX12_isSo 95 = .ok (.ireturn, 1) := by decide +kernel
theorem dX12_keepImage_0 : decode cX12_keepImage 0 = .ok (.iconst 0, 1) := by decide +kernel
theorem dX12_keepImage_1 : decode cX12_keepImage 1 = .ok (.istore_n 1, 1) := by decide +kernel
theorem dX12_keepImage_10 : decode cX12_keepImage 10 = .ok (.getfield 149, 3) := by decide +kernel
theorem dX12_keepImage_13 : decode cX12_keepImage 13 = .ok (.iload_n 1, 1) := by decide +kernel
theorem dX12_keepImage_14 : decode cX12_keepImage 14 = .ok (.aload_n 0, 1) := by decide +kernel
theorem dX12_keepImage_15 : decode cX12_keepImage 15 = .ok (.iload_n 1, 1) := by decide +kernel
theorem dX12_keepImage_16 : decode cX12_keepImage 16 = .ok (.invokevirtual 260, 3) := by decide +kernel
theorem dX12_keepImage_19 : decode cX12_keepImage 19 = .ok (.iastore, 1) := by decide +kernel
theorem dX12_keepImage_2 : decode cX12_keepImage 2 = .ok (.iload_n 1, 1) := by decide +kernel
theorem dX12_keepImage_20 : decode cX12_keepImage 20 = .ok (.iinc 1 1, 3) := by decide +kernel
theorem dX12_keepImage_23 : decode cX12_keepImage 23 = .ok (.goto (-21), 3) := by decide +kernel
theorem dX12_keepImage_26 : decode cX12_keepImage 26 = .ok (.aload_n 0, 1) := by decide +kernel
theorem dX12_keepImage_27 : decode cX12_keepImage 27 = .ok (.aload_n 0, 1) := by decide +kernel
theorem dX12_keepImage_28 : decode cX12_keepImage 28 = .ok (.getfield 602, 3) := by decide +kernel
theorem dX12_keepImage_3 : decode cX12_keepImage 3 = .ok (.sipush 3999, 3) := by decide +kernel
theorem dX12_keepImage_31 : decode cX12_keepImage 31 = .ok (.putfield 826, 3) := by decide +kernel
theorem dX12_keepImage_34 : decode cX12_keepImage 34 = .ok (.aload_n 0, 1) := by decide +kernel
theorem dX12_keepImage_35 : decode cX12_keepImage 35 = .ok (.iconst 1, 1) := by decide +kernel
theorem dX12_keepImage_36 : decode cX12_keepImage 36 = .ok (.putfield 770, 3) := by decide +kernel
theorem dX12_keepImage_39 : decode cX12_keepImage 39 = .ok (.return_, 1) := by decide +kernel
theorem dX12_keepImage_6 : decode cX12_keepImage 6 = .ok (.if_icmp .gt 20, 3) := by decide +kernel
theorem dX12_keepImage_9 : decode cX12_keepImage 9 = .ok (.aload_n 0, 1) := by decide +kernel
theorem dX12_letter_0 : decode cX12_letter 0 = .ok (.aload_n 0, 1) := by decide +kernel
theorem dX12_letter_1 : decode cX12_letter 1 = .ok (.iconst 0, 1) := by decide +kernel
theorem dX12_letter_11 : decode cX12_letter 11 = .ok (.iload_n 1, 1) := by decide +kernel
theorem dX12_letter_12 : decode cX12_letter 12 = .ok (.bipush 19, 2) := by decide +kernel
theorem dX12_letter_14 : decode cX12_letter 14 = .ok (.if_icmp .gt 11, 3) := by decide +kernel
theorem dX12_letter_17 : decode cX12_letter 17 = .ok (.iload_n 2, 1) := by decide +kernel
theorem dX12_letter_18 : decode cX12_letter 18 = .ok (.ifCond .lt 7, 3) := by decide +kernel
theorem dX12_letter_2 : decode cX12_letter 2 = .ok (.putfield 155, 3) := by decide +kernel
theorem dX12_letter_21 : decode cX12_letter 21 = .ok (.iload_n 3, 1) := by decide +kernel
theorem dX12_letter_22 : decode cX12_letter 22 = .ok (.ifCond .ge 5, 3) := by decide +kernel
theorem dX12_letter_25 : decode cX12_letter 25 = .ok (.iconst (-1), 1) := by decide +kernel
theorem dX12_letter_26 : decode cX12_letter 26 = .ok (.ireturn, 1) := by decide +kernel
theorem dX12_letter_27 : decode cX12_letter 27 = .ok (.iload_n 2, 1) := by decide +kernel
theorem dX12_letter_28 : decode cX12_letter 28 = .ok (.aload_n 0, 1) := by decide +kernel
theorem dX12_letter_29 : decode cX12_letter 29 = .ok (.getfield 58, 3) := by decide +kernel
theorem dX12_letter_32 : decode cX12_letter 32 = .ok (.iload_n 1, 1) := by decide +kernel
theorem dX12_letter_33 : decode cX12_letter 33 = .ok (.bipush 17, 2) := by decide +kernel
theorem dX12_letter_35 : decode cX12_letter 35 = .ok (.isub, 1) := by decide +kernel
theorem dX12_letter_36 : decode cX12_letter 36 = .ok (.iaload, 1) := by decide +kernel
theorem dX12_letter_37 : decode cX12_letter 37 = .ok (.if_icmp .lt 5, 3) := by decide +kernel
theorem dX12_letter_40 : decode cX12_letter 40 = .ok (.iconst (-1), 1) := by decide +kernel
theorem dX12_letter_41 : decode cX12_letter 41 = .ok (.ireturn, 1) := by decide +kernel
theorem dX12_letter_42 : decode cX12_letter 42 = .ok (.sipush 300, 3) := by decide +kernel
theorem dX12_letter_45 : decode cX12_letter 45 = .ok (.iload_n 1, 1) := by decide +kernel
theorem dX12_letter_46 : decode cX12_letter 46 = .ok (.bipush 17, 2) := by decide +kernel
theorem dX12_letter_48 : decode cX12_letter 48 = .ok (.isub, 1) := by decide +kernel
theorem dX12_letter_49 : decode cX12_letter 49 = .ok (.imul, 1) := by decide +kernel
theorem dX12_letter_5 : decode cX12_letter 5 = .ok (.iload_n 1, 1) := by decide +kernel
theorem dX12_letter_50 : decode cX12_letter 50 = .ok (.iload_n 2, 1) := by decide +kernel
theorem dX12_letter_51 : decode cX12_letter 51 = .ok (.iadd, 1) := by decide +kernel
theorem dX12_letter_52 : decode cX12_letter 52 = .ok (.istore 4, 2) := by decide +kernel
theorem dX12_letter_54 : decode cX12_letter 54 = .ok (.iload_n 3, 1) := by decide +kernel
theorem dX12_letter_55 : decode cX12_letter 55 = .ok (.aload_n 0, 1) := by decide +kernel
theorem dX12_letter_56 : decode cX12_letter 56 = .ok (.getfield 55, 3) := by decide +kernel
theorem dX12_letter_59 : decode cX12_letter 59 = .ok (.iload 4, 2) := by decide +kernel
theorem dX12_letter_6 : decode cX12_letter 6 = .ok (.bipush 17, 2) := by decide +kernel
theorem dX12_letter_61 : decode cX12_letter 61 = .ok (.iaload, 1) := by decide +kernel
theorem dX12_letter_62 : decode cX12_letter 62 = .ok (.if_icmp .ge 18, 3) := by decide +kernel
theorem dX12_letter_65 : decode cX12_letter 65 = .ok (.aload_n 0, 1) := by decide +kernel
theorem dX12_letter_66 : decode cX12_letter 66 = .ok (.getfield 52, 3) := by decide +kernel
theorem dX12_letter_69 : decode cX12_letter 69 = .ok (.bipush 120, 2) := by decide +kernel
theorem dX12_letter_71 : decode cX12_letter 71 = .ok (.iload 4, 2) := by decide +kernel
theorem dX12_letter_73 : decode cX12_letter 73 = .ok (.imul, 1) := by decide +kernel
theorem dX12_letter_74 : decode cX12_letter 74 = .ok (.iload_n 3, 1) := by decide +kernel
theorem dX12_letter_75 : decode cX12_letter 75 = .ok (.iadd, 1) := by decide +kernel
theorem dX12_letter_76 : decode cX12_letter 76 = .ok (.baload, 1) := by decide +kernel
theorem dX12_letter_77 : decode cX12_letter 77 = .ok (.goto 4, 3) := by decide +kernel
theorem dX12_letter_8 : decode cX12_letter 8 = .ok (.if_icmp .lt 17, 3) := by decide +kernel
theorem dX12_letter_80 : decode cX12_letter 80 = .ok (.iconst (-1), 1) := by decide +kernel
theorem dX12_letter_81 : decode cX12_letter 81 = .ok (.ireturn, 1) := by decide +kernel
theorem dX12_lineEnd_0 : decode cX12_lineEnd 0 = .ok (.iload_n 1, 1) := by decide +kernel
theorem dX12_lineEnd_1 : decode cX12_lineEnd 1 = .ok (.istore_n 3, 1) := by decide +kernel
theorem dX12_lineEnd_10 : decode cX12_lineEnd 10 = .ok (.bipush 10, 2) := by decide +kernel
theorem dX12_lineEnd_12 : decode cX12_lineEnd 12 = .ok (.if_icmp .eq 9, 3) := by decide +kernel
theorem dX12_lineEnd_15 : decode cX12_lineEnd 15 = .ok (.iinc 3 1, 3) := by decide +kernel
theorem dX12_lineEnd_18 : decode cX12_lineEnd 18 = .ok (.goto (-16), 3) := by decide +kernel
theorem dX12_lineEnd_2 : decode cX12_lineEnd 2 = .ok (.iload_n 3, 1) := by decide +kernel
theorem dX12_lineEnd_21 : decode cX12_lineEnd 21 = .ok (.iload_n 3, 1) := by decide +kernel
theorem dX12_lineEnd_22 : decode cX12_lineEnd 22 = .ok (.ireturn, 1) := by decide +kernel
theorem dX12_lineEnd_3 : decode cX12_lineEnd 3 = .ok (.iload_n 2, 1) := by decide +kernel
theorem dX12_lineEnd_4 : decode cX12_lineEnd 4 = .ok (.if_icmp .ge 17, 3) := by decide +kernel
theorem dX12_lineEnd_7 : decode cX12_lineEnd 7 = .ok (.aload_n 0, 1) := by decide +kernel
theorem dX12_lineEnd_8 : decode cX12_lineEnd 8 = .ok (.iload_n 3, 1) := by decide +kernel
theorem dX12_lineEnd_9 : decode cX12_lineEnd 9 = .ok (.baload, 1) := by decide +kernel
theorem dX12_memoryAt_0 : decode cX12_memoryAt 0 = .ok (.aload_n 0, 1) := by decide +kernel
theorem dX12_memoryAt_1 : decode cX12_memoryAt 1 = .ok (.getfield 13, 3) := by decide +kernel
theorem dX12_memoryAt_10 : decode cX12_memoryAt 10 = .ok (.ireturn, 1) := by decide +kernel
theorem dX12_memoryAt_4 : decode cX12_memoryAt 4 = .ok (.iload_n 1, 1) := by decide +kernel
theorem dX12_memoryAt_5 : decode cX12_memoryAt 5 = .ok (.sipush (-3999), 3) := by decide +kernel
theorem dX12_memoryAt_8 : decode cX12_memoryAt 8 = .ok (.isub, 1) := by decide +kernel
theorem dX12_memoryAt_9 : decode cX12_memoryAt 9 = .ok (.iaload, 1) := by decide +kernel
theorem dX12_multiply_0 : decode cX12_multiply 0 = .ok (.aload_n 0, 1) := by decide +kernel
theorem dX12_multiply_1 : decode cX12_multiply 1 = .ok (.getfield 17, 3) := by decide +kernel
theorem dX12_multiply_10 : decode cX12_multiply 10 = .ok (.iload_n 1, 1) := by decide +kernel
theorem dX12_multiply_11 : decode cX12_multiply 11 = .ok (.ldc 159, 2) := by decide +kernel
theorem dX12_multiply_13 : decode cX12_multiply 13 = .ok (.iand, 1) := by decide +kernel
theorem dX12_multiply_14 : decode cX12_multiply 14 = .ok (.i2l, 1) := by decide +kernel
theorem dX12_multiply_15 : decode cX12_multiply 15 = .ok (.lmul, 1) := by decide +kernel
theorem dX12_multiply_16 : decode cX12_multiply 16 = .ok (.lstore_n 2, 1) := by decide +kernel
theorem dX12_multiply_17 : decode cX12_multiply 17 = .ok (.aload_n 0, 1) := by decide +kernel
theorem dX12_multiply_18 : decode cX12_multiply 18 = .ok (.getfield 17, 3) := by decide +kernel
theorem dX12_multiply_21 : decode cX12_multiply 21 = .ok (.iconst 0, 1) := by decide +kernel
theorem dX12_multiply_22 : decode cX12_multiply 22 = .ok (.iaload, 1) := by decide +kernel
theorem dX12_multiply_23 : decode cX12_multiply 23 = .ok (.iload_n 1, 1) := by decide +kernel
theorem dX12_multiply_24 : decode cX12_multiply 24 = .ok (.ixor, 1) := by decide +kernel
theorem dX12_multiply_25 : decode cX12_multiply 25 = .ok (.ldc 158, 2) := by decide +kernel
theorem dX12_multiply_27 : decode cX12_multiply 27 = .ok (.iand, 1) := by decide +kernel
theorem dX12_multiply_28 : decode cX12_multiply 28 = .ok (.istore 4, 2) := by decide +kernel
theorem dX12_multiply_30 : decode cX12_multiply 30 = .ok (.aload_n 0, 1) := by decide +kernel
theorem dX12_multiply_31 : decode cX12_multiply 31 = .ok (.getfield 17, 3) := by decide +kernel
theorem dX12_multiply_34 : decode cX12_multiply 34 = .ok (.iconst 0, 1) := by decide +kernel
theorem dX12_multiply_35 : decode cX12_multiply 35 = .ok (.iload 4, 2) := by decide +kernel
theorem dX12_multiply_37 : decode cX12_multiply 37 = .ok (.lload_n 2, 1) := by decide +kernel
theorem dX12_multiply_38 : decode cX12_multiply 38 = .ok (.bipush 30, 2) := by decide +kernel
theorem dX12_multiply_4 : decode cX12_multiply 4 = .ok (.iconst 0, 1) := by decide +kernel
theorem dX12_multiply_40 : decode cX12_multiply 40 = .ok (.lshr, 1) := by decide +kernel
theorem dX12_multiply_41 : decode cX12_multiply 41 = .ok (.l2i, 1) := by decide +kernel
theorem dX12_multiply_42 : decode cX12_multiply 42 = .ok (.ior, 1) := by decide +kernel
theorem dX12_multiply_43 : decode cX12_multiply 43 = .ok (.iastore, 1) := by decide +kernel
theorem dX12_multiply_44 : decode cX12_multiply 44 = .ok (.aload_n 0, 1) := by decide +kernel
theorem dX12_multiply_45 : decode cX12_multiply 45 = .ok (.getfield 17, 3) := by decide +kernel
theorem dX12_multiply_48 : decode cX12_multiply 48 = .ok (.bipush 7, 2) := by decide +kernel
theorem dX12_multiply_5 : decode cX12_multiply 5 = .ok (.iaload, 1) := by decide +kernel
theorem dX12_multiply_50 : decode cX12_multiply 50 = .ok (.iload 4, 2) := by decide +kernel
theorem dX12_multiply_52 : decode cX12_multiply 52 = .ok (.lload_n 2, 1) := by decide +kernel
theorem dX12_multiply_53 : decode cX12_multiply 53 = .ok (.ldc2_w 335, 3) := by decide +kernel
theorem dX12_multiply_56 : decode cX12_multiply 56 = .ok (.land, 1) := by decide +kernel
theorem dX12_multiply_57 : decode cX12_multiply 57 = .ok (.l2i, 1) := by decide +kernel
theorem dX12_multiply_58 : decode cX12_multiply 58 = .ok (.ior, 1) := by decide +kernel
theorem dX12_multiply_59 : decode cX12_multiply 59 = .ok (.iastore, 1) := by decide +kernel
theorem dX12_multiply_6 : decode cX12_multiply 6 = .ok (.ldc 159, 2) := by decide +kernel
theorem dX12_multiply_60 : decode cX12_multiply 60 = .ok (.return_, 1) := by decide +kernel
theorem dX12_multiply_8 : decode cX12_multiply 8 = .ok (.iand, 1) := by decide +kernel
theorem dX12_multiply_9 : decode cX12_multiply 9 = .ok (.i2l, 1) := by decide +kernel
theorem dX12_putWord_0 : decode cX12_putWord 0 = .ok (.aload_n 0, 1) := by decide +kernel
theorem dX12_putWord_1 : decode cX12_putWord 1 = .ok (.getfield 494, 3) := by decide +kernel
theorem dX12_putWord_10 : decode cX12_putWord 10 = .ok (.aload_n 0, 1) := by decide +kernel
theorem dX12_putWord_11 : decode cX12_putWord 11 = .ok (.bipush 6, 2) := by decide +kernel
theorem dX12_putWord_13 : decode cX12_putWord 13 = .ok (.invokevirtual 478, 3) := by decide +kernel
theorem dX12_putWord_16 : decode cX12_putWord 16 = .ok (.return_, 1) := by decide +kernel
theorem dX12_putWord_17 : decode cX12_putWord 17 = .ok (.aload_n 0, 1) := by decide +kernel
theorem dX12_putWord_18 : decode cX12_putWord 18 = .ok (.aload_n 0, 1) := by decide +kernel
theorem dX12_putWord_19 : decode cX12_putWord 19 = .ok (.getfield 494, 3) := by decide +kernel
theorem dX12_putWord_22 : decode cX12_putWord 22 = .ok (.iload_n 1, 1) := by decide +kernel
theorem dX12_putWord_23 : decode cX12_putWord 23 = .ok (.invokevirtual 214, 3) := by decide +kernel
theorem dX12_putWord_26 : decode cX12_putWord 26 = .ok (.aload_n 0, 1) := by decide +kernel
theorem dX12_putWord_27 : decode cX12_putWord 27 = .ok (.getfield 83, 3) := by decide +kernel
theorem dX12_putWord_30 : decode cX12_putWord 30 = .ok (.aload_n 0, 1) := by decide +kernel
theorem dX12_putWord_31 : decode cX12_putWord 31 = .ok (.getfield 494, 3) := by decide +kernel
theorem dX12_putWord_34 : decode cX12_putWord 34 = .ok (.sipush (-3999), 3) := by decide +kernel
theorem dX12_putWord_37 : decode cX12_putWord 37 = .ok (.isub, 1) := by decide +kernel
theorem dX12_putWord_38 : decode cX12_putWord 38 = .ok (.iconst 1, 1) := by decide +kernel
theorem dX12_putWord_39 : decode cX12_putWord 39 = .ok (.bastore, 1) := by decide +kernel
theorem dX12_putWord_4 : decode cX12_putWord 4 = .ok (.sipush 3999, 3) := by decide +kernel
theorem dX12_putWord_40 : decode cX12_putWord 40 = .ok (.aload_n 0, 1) := by decide +kernel
theorem dX12_putWord_41 : decode cX12_putWord 41 = .ok (.getfield 86, 3) := by decide +kernel
theorem dX12_putWord_44 : decode cX12_putWord 44 = .ok (.aload_n 0, 1) := by decide +kernel
theorem dX12_putWord_45 : decode cX12_putWord 45 = .ok (.getfield 443, 3) := by decide +kernel
theorem dX12_putWord_48 : decode cX12_putWord 48 = .ok (.iaload, 1) := by decide +kernel
theorem dX12_putWord_49 : decode cX12_putWord 49 = .ok (.sipush 10000, 3) := by decide +kernel
theorem dX12_putWord_52 : decode cX12_putWord 52 = .ok (.if_icmp .ne 16, 3) := by decide +kernel
theorem dX12_putWord_55 : decode cX12_putWord 55 = .ok (.aload_n 0, 1) := by decide +kernel
theorem dX12_putWord_56 : decode cX12_putWord 56 = .ok (.getfield 86, 3) := by decide +kernel
theorem dX12_putWord_59 : decode cX12_putWord 59 = .ok (.aload_n 0, 1) := by decide +kernel
theorem dX12_putWord_60 : decode cX12_putWord 60 = .ok (.getfield 443, 3) := by decide +kernel
theorem dX12_putWord_63 : decode cX12_putWord 63 = .ok (.aload_n 0, 1) := by decide +kernel
theorem dX12_putWord_64 : decode cX12_putWord 64 = .ok (.getfield 494, 3) := by decide +kernel
theorem dX12_putWord_67 : decode cX12_putWord 67 = .ok (.iastore, 1) := by decide +kernel
theorem dX12_putWord_68 : decode cX12_putWord 68 = .ok (.aload_n 0, 1) := by decide +kernel
theorem dX12_putWord_69 : decode cX12_putWord 69 = .ok (.dup, 1) := by decide +kernel
theorem dX12_putWord_7 : decode cX12_putWord 7 = .ok (.if_icmp .le 10, 3) := by decide +kernel
theorem dX12_putWord_70 : decode cX12_putWord 70 = .ok (.getfield 494, 3) := by decide +kernel
theorem dX12_putWord_73 : decode cX12_putWord 73 = .ok (.iconst 1, 1) := by decide +kernel
theorem dX12_putWord_74 : decode cX12_putWord 74 = .ok (.iadd, 1) := by decide +kernel
theorem dX12_putWord_75 : decode cX12_putWord 75 = .ok (.putfield 494, 3) := by decide +kernel
theorem dX12_putWord_78 : decode cX12_putWord 78 = .ok (.aload_n 0, 1) := by decide +kernel
theorem dX12_putWord_79 : decode cX12_putWord 79 = .ok (.dup, 1) := by decide +kernel
theorem dX12_putWord_80 : decode cX12_putWord 80 = .ok (.getfield 569, 3) := by decide +kernel
theorem dX12_putWord_83 : decode cX12_putWord 83 = .ok (.iconst 1, 1) := by decide +kernel
theorem dX12_putWord_84 : decode cX12_putWord 84 = .ok (.iadd, 1) := by decide +kernel
theorem dX12_putWord_85 : decode cX12_putWord 85 = .ok (.putfield 569, 3) := by decide +kernel
theorem dX12_putWord_88 : decode cX12_putWord 88 = .ok (.return_, 1) := by decide +kernel
theorem dX12_resume_0 : decode cX12_resume 0 = .ok (.iconst 0, 1) := by decide +kernel
theorem dX12_resume_1 : decode cX12_resume 1 = .ok (.istore_n 1, 1) := by decide +kernel
theorem dX12_resume_10 : decode cX12_resume 10 = .ok (.bipush 9, 2) := by decide +kernel
theorem dX12_resume_101 : decode cX12_resume 101 = .ok (.irem, 1) := by decide +kernel
theorem dX12_resume_102 : decode cX12_resume 102 = .ok (.iconst 2, 1) := by decide +kernel
theorem dX12_resume_103 : decode cX12_resume 103 = .ok (.if_icmp .ge 10, 3) := by decide +kernel
theorem dX12_resume_106 : decode cX12_resume 106 = .ok (.iload_n 2, 1) := by decide +kernel
theorem dX12_resume_107 : decode cX12_resume 107 = .ok (.bipush 8, 2) := by decide +kernel
theorem dX12_resume_109 : decode cX12_resume 109 = .ok (.irem, 1) := by decide +kernel
theorem dX12_resume_110 : decode cX12_resume 110 = .ok (.goto 4, 3) := by decide +kernel
theorem dX12_resume_113 : decode cX12_resume 113 = .ok (.iconst 2, 1) := by decide +kernel
theorem dX12_resume_114 : decode cX12_resume 114 = .ok (.putfield 20, 3) := by decide +kernel
theorem dX12_resume_117 : decode cX12_resume 117 = .ok (.aload_n 0, 1) := by decide +kernel
theorem dX12_resume_118 : decode cX12_resume 118 = .ok (.iload_n 1, 1) := by decide +kernel
theorem dX12_resume_119 : decode cX12_resume 119 = .ok (.sipush 4095, 3) := by decide +kernel
theorem dX12_resume_12 : decode cX12_resume 12 = .ok (.isub, 1) := by decide +kernel
theorem dX12_resume_122 : decode cX12_resume 122 = .ok (.iand, 1) := by decide +kernel
theorem dX12_resume_123 : decode cX12_resume 123 = .ok (.putfield 378, 3) := by decide +kernel
theorem dX12_resume_126 : decode cX12_resume 126 = .ok (.aload_n 0, 1) := by decide +kernel
theorem dX12_resume_127 : decode cX12_resume 127 = .ok (.iconst 0, 1) := by decide +kernel
theorem dX12_resume_128 : decode cX12_resume 128 = .ok (.putfield 241, 3) := by decide +kernel
theorem dX12_resume_13 : decode cX12_resume 13 = .ok (.invokevirtual 260, 3) := by decide +kernel
theorem dX12_resume_131 : decode cX12_resume 131 = .ok (.return_, 1) := by decide +kernel
theorem dX12_resume_16 : decode cX12_resume 16 = .ok (.istore_n 2, 1) := by decide +kernel
theorem dX12_resume_17 : decode cX12_resume 17 = .ok (.aload_n 0, 1) := by decide +kernel
theorem dX12_resume_18 : decode cX12_resume 18 = .ok (.getfield 17, 3) := by decide +kernel
theorem dX12_resume_2 : decode cX12_resume 2 = .ok (.iload_n 1, 1) := by decide +kernel
theorem dX12_resume_21 : decode cX12_resume 21 = .ok (.iload_n 1, 1) := by decide +kernel
theorem dX12_resume_22 : decode cX12_resume 22 = .ok (.iload_n 1, 1) := by decide +kernel
theorem dX12_resume_23 : decode cX12_resume 23 = .ok (.ifCond .eq 9, 3) := by decide +kernel
theorem dX12_resume_26 : decode cX12_resume 26 = .ok (.iload_n 1, 1) := by decide +kernel
theorem dX12_resume_27 : decode cX12_resume 27 = .ok (.bipush 7, 2) := by decide +kernel
theorem dX12_resume_29 : decode cX12_resume 29 = .ok (.if_icmp .ne 7, 3) := by decide +kernel
theorem dX12_resume_3 : decode cX12_resume 3 = .ok (.bipush 8, 2) := by decide +kernel
theorem dX12_resume_32 : decode cX12_resume 32 = .ok (.iload_n 2, 1) := by decide +kernel
theorem dX12_resume_33 : decode cX12_resume 33 = .ok (.goto 13, 3) := by decide +kernel
theorem dX12_resume_36 : decode cX12_resume 36 = .ok (.iload_n 2, 1) := by decide +kernel
theorem dX12_resume_37 : decode cX12_resume 37 = .ok (.ldc 158, 2) := by decide +kernel
theorem dX12_resume_39 : decode cX12_resume 39 = .ok (.iand, 1) := by decide +kernel
theorem dX12_resume_40 : decode cX12_resume 40 = .ok (.iload_n 2, 1) := by decide +kernel
theorem dX12_resume_41 : decode cX12_resume 41 = .ok (.sipush 4095, 3) := by decide +kernel
theorem dX12_resume_44 : decode cX12_resume 44 = .ok (.iand, 1) := by decide +kernel
theorem dX12_resume_45 : decode cX12_resume 45 = .ok (.ior, 1) := by decide +kernel
theorem dX12_resume_46 : decode cX12_resume 46 = .ok (.iastore, 1) := by decide +kernel
theorem dX12_resume_47 : decode cX12_resume 47 = .ok (.iinc 1 1, 3) := by decide +kernel
theorem dX12_resume_5 : decode cX12_resume 5 = .ok (.if_icmp .ge 48, 3) := by decide +kernel
theorem dX12_resume_50 : decode cX12_resume 50 = .ok (.goto (-48), 3) := by decide +kernel
theorem dX12_resume_53 : decode cX12_resume 53 = .ok (.aload_n 0, 1) := by decide +kernel
theorem dX12_resume_54 : decode cX12_resume 54 = .ok (.iconst (-1), 1) := by decide +kernel
theorem dX12_resume_55 : decode cX12_resume 55 = .ok (.invokevirtual 260, 3) := by decide +kernel
theorem dX12_resume_58 : decode cX12_resume 58 = .ok (.istore_n 1, 1) := by decide +kernel
theorem dX12_resume_59 : decode cX12_resume 59 = .ok (.aload_n 0, 1) := by decide +kernel
theorem dX12_resume_60 : decode cX12_resume 60 = .ok (.getfield 17, 3) := by decide +kernel
theorem dX12_resume_63 : decode cX12_resume 63 = .ok (.bipush 8, 2) := by decide +kernel
theorem dX12_resume_65 : decode cX12_resume 65 = .ok (.iload_n 1, 1) := by decide +kernel
theorem dX12_resume_66 : decode cX12_resume 66 = .ok (.bipush 18, 2) := by decide +kernel
theorem dX12_resume_68 : decode cX12_resume 68 = .ok (.ishr, 1) := by decide +kernel
theorem dX12_resume_69 : decode cX12_resume 69 = .ok (.sipush 4095, 3) := by decide +kernel
theorem dX12_resume_72 : decode cX12_resume 72 = .ok (.iand, 1) := by decide +kernel
theorem dX12_resume_73 : decode cX12_resume 73 = .ok (.iastore, 1) := by decide +kernel
theorem dX12_resume_74 : decode cX12_resume 74 = .ok (.iload_n 1, 1) := by decide +kernel
theorem dX12_resume_75 : decode cX12_resume 75 = .ok (.bipush 12, 2) := by decide +kernel
theorem dX12_resume_77 : decode cX12_resume 77 = .ok (.ishr, 1) := by decide +kernel
theorem dX12_resume_78 : decode cX12_resume 78 = .ok (.bipush 63, 2) := by decide +kernel
theorem dX12_resume_8 : decode cX12_resume 8 = .ok (.aload_n 0, 1) := by decide +kernel
theorem dX12_resume_80 : decode cX12_resume 80 = .ok (.iand, 1) := by decide +kernel
theorem dX12_resume_81 : decode cX12_resume 81 = .ok (.istore_n 2, 1) := by decide +kernel
theorem dX12_resume_82 : decode cX12_resume 82 = .ok (.aload_n 0, 1) := by decide +kernel
theorem dX12_resume_83 : decode cX12_resume 83 = .ok (.iload_n 2, 1) := by decide +kernel
theorem dX12_resume_84 : decode cX12_resume 84 = .ok (.bipush 7, 2) := by decide +kernel
theorem dX12_resume_86 : decode cX12_resume 86 = .ok (.if_icmp .le 7, 3) := by decide +kernel
theorem dX12_resume_89 : decode cX12_resume 89 = .ok (.iconst 1, 1) := by decide +kernel
theorem dX12_resume_9 : decode cX12_resume 9 = .ok (.iload_n 1, 1) := by decide +kernel
theorem dX12_resume_90 : decode cX12_resume 90 = .ok (.goto 4, 3) := by decide +kernel
theorem dX12_resume_93 : decode cX12_resume 93 = .ok (.iconst 0, 1) := by decide +kernel
theorem dX12_resume_94 : decode cX12_resume 94 = .ok (.putfield 314, 3) := by decide +kernel
theorem dX12_resume_97 : decode cX12_resume 97 = .ok (.aload_n 0, 1) := by decide +kernel
theorem dX12_resume_98 : decode cX12_resume 98 = .ok (.iload_n 2, 1) := by decide +kernel
theorem dX12_resume_99 : decode cX12_resume 99 = .ok (.bipush 8, 2) := by decide +kernel
theorem dX12_setMemory_0 : decode cX12_setMemory 0 = .ok (.aload_n 0, 1) := by decide +kernel
theorem dX12_setMemory_1 : decode cX12_setMemory 1 = .ok (.getfield 13, 3) := by decide +kernel
theorem dX12_setMemory_10 : decode cX12_setMemory 10 = .ok (.iastore, 1) := by decide +kernel
theorem dX12_setMemory_11 : decode cX12_setMemory 11 = .ok (.return_, 1) := by decide +kernel
theorem dX12_setMemory_4 : decode cX12_setMemory 4 = .ok (.iload_n 1, 1) := by decide +kernel
theorem dX12_setMemory_5 : decode cX12_setMemory 5 = .ok (.sipush (-3999), 3) := by decide +kernel
theorem dX12_setMemory_8 : decode cX12_setMemory 8 = .ok (.isub, 1) := by decide +kernel
theorem dX12_setMemory_9 : decode cX12_setMemory 9 = .ok (.iload_n 2, 1) := by decide +kernel
theorem dX12_shift_0 : decode cX12_shift 0 = .ok (.aload_n 0, 1) := by decide +kernel
theorem dX12_shift_1 : decode cX12_shift 1 = .ok (.getfield 289, 3) := by decide +kernel
theorem dX12_shift_100 : decode cX12_shift 100 = .ok (.iload_n 1, 1) := by decide +kernel
theorem dX12_shift_101 : decode cX12_shift 101 = .ok (.imul, 1) := by decide +kernel
theorem dX12_shift_102 : decode cX12_shift 102 = .ok (.lshl, 1) := by decide +kernel
theorem dX12_shift_103 : decode cX12_shift 103 = .ok (.lconst 1, 1) := by decide +kernel
theorem dX12_shift_104 : decode cX12_shift 104 = .ok (.lsub, 1) := by decide +kernel
theorem dX12_shift_105 : decode cX12_shift 105 = .ok (.lstore 5, 2) := by decide +kernel
theorem dX12_shift_107 : decode cX12_shift 107 = .ok (.iconst 0, 1) := by decide +kernel
theorem dX12_shift_108 : decode cX12_shift 108 = .ok (.istore 7, 2) := by decide +kernel
theorem dX12_shift_110 : decode cX12_shift 110 = .ok (.iload 7, 2) := by decide +kernel
theorem dX12_shift_112 : decode cX12_shift 112 = .ok (.iload_n 2, 1) := by decide +kernel
theorem dX12_shift_113 : decode cX12_shift 113 = .ok (.if_icmp .ge 92, 3) := by decide +kernel
theorem dX12_shift_116 : decode cX12_shift 116 = .ok (.lload_n 3, 1) := by decide +kernel
theorem dX12_shift_117 : decode cX12_shift 117 = .ok (.bipush 6, 2) := by decide +kernel
theorem dX12_shift_119 : decode cX12_shift 119 = .ok (.iload_n 1, 1) := by decide +kernel
theorem dX12_shift_12 : decode cX12_shift 12 = .ok (.bipush 10, 2) := by decide +kernel
theorem dX12_shift_120 : decode cX12_shift 120 = .ok (.iconst 1, 1) := by decide +kernel
theorem dX12_shift_121 : decode cX12_shift 121 = .ok (.isub, 1) := by decide +kernel
theorem dX12_shift_122 : decode cX12_shift 122 = .ok (.imul, 1) := by decide +kernel
theorem dX12_shift_123 : decode cX12_shift 123 = .ok (.lshr, 1) := by decide +kernel
theorem dX12_shift_124 : decode cX12_shift 124 = .ok (.ldc2_w 340, 3) := by decide +kernel
theorem dX12_shift_127 : decode cX12_shift 127 = .ok (.land, 1) := by decide +kernel
theorem dX12_shift_128 : decode cX12_shift 128 = .ok (.lstore 8, 2) := by decide +kernel
theorem dX12_shift_130 : decode cX12_shift 130 = .ok (.lload_n 3, 1) := by decide +kernel
theorem dX12_shift_131 : decode cX12_shift 131 = .ok (.ldc2_w 340, 3) := by decide +kernel
theorem dX12_shift_134 : decode cX12_shift 134 = .ok (.land, 1) := by decide +kernel
theorem dX12_shift_135 : decode cX12_shift 135 = .ok (.lstore 10, 2) := by decide +kernel
theorem dX12_shift_137 : decode cX12_shift 137 = .ok (.aload_n 0, 1) := by decide +kernel
theorem dX12_shift_138 : decode cX12_shift 138 = .ok (.getfield 289, 3) := by decide +kernel
theorem dX12_shift_14 : decode cX12_shift 14 = .ok (.istore_n 1, 1) := by decide +kernel
theorem dX12_shift_141 : decode cX12_shift 141 = .ok (.iconst 2, 1) := by decide +kernel
theorem dX12_shift_142 : decode cX12_shift 142 = .ok (.irem, 1) := by decide +kernel
theorem dX12_shift_143 : decode cX12_shift 143 = .ok (.ifCond .ne 29, 3) := by decide +kernel
theorem dX12_shift_146 : decode cX12_shift 146 = .ok (.lload_n 3, 1) := by decide +kernel
theorem dX12_shift_147 : decode cX12_shift 147 = .ok (.bipush 6, 2) := by decide +kernel
theorem dX12_shift_149 : decode cX12_shift 149 = .ok (.lshl, 1) := by decide +kernel
theorem dX12_shift_15 : decode cX12_shift 15 = .ok (.aload_n 0, 1) := by decide +kernel
theorem dX12_shift_150 : decode cX12_shift 150 = .ok (.lload 5, 2) := by decide +kernel
theorem dX12_shift_152 : decode cX12_shift 152 = .ok (.land, 1) := by decide +kernel
theorem dX12_shift_153 : decode cX12_shift 153 = .ok (.aload_n 0, 1) := by decide +kernel
theorem dX12_shift_154 : decode cX12_shift 154 = .ok (.getfield 289, 3) := by decide +kernel
theorem dX12_shift_157 : decode cX12_shift 157 = .ok (.iconst 4, 1) := by decide +kernel
theorem dX12_shift_158 : decode cX12_shift 158 = .ok (.if_icmp .ne 8, 3) := by decide +kernel
theorem dX12_shift_16 : decode cX12_shift 16 = .ok (.getfield 289, 3) := by decide +kernel
theorem dX12_shift_161 : decode cX12_shift 161 = .ok (.lload 8, 2) := by decide +kernel
theorem dX12_shift_163 : decode cX12_shift 163 = .ok (.goto 4, 3) := by decide +kernel
theorem dX12_shift_166 : decode cX12_shift 166 = .ok (.lconst 0, 1) := by decide +kernel
theorem dX12_shift_167 : decode cX12_shift 167 = .ok (.lor, 1) := by decide +kernel
theorem dX12_shift_168 : decode cX12_shift 168 = .ok (.lstore_n 3, 1) := by decide +kernel
theorem dX12_shift_169 : decode cX12_shift 169 = .ok (.goto 30, 3) := by decide +kernel
theorem dX12_shift_172 : decode cX12_shift 172 = .ok (.lload_n 3, 1) := by decide +kernel
theorem dX12_shift_173 : decode cX12_shift 173 = .ok (.bipush 6, 2) := by decide +kernel
theorem dX12_shift_175 : decode cX12_shift 175 = .ok (.lshr, 1) := by decide +kernel
theorem dX12_shift_176 : decode cX12_shift 176 = .ok (.aload_n 0, 1) := by decide +kernel
theorem dX12_shift_177 : decode cX12_shift 177 = .ok (.getfield 289, 3) := by decide +kernel
theorem dX12_shift_180 : decode cX12_shift 180 = .ok (.iconst 5, 1) := by decide +kernel
theorem dX12_shift_181 : decode cX12_shift 181 = .ok (.if_icmp .ne 15, 3) := by decide +kernel
theorem dX12_shift_184 : decode cX12_shift 184 = .ok (.lload 10, 2) := by decide +kernel
theorem dX12_shift_186 : decode cX12_shift 186 = .ok (.bipush 6, 2) := by decide +kernel
theorem dX12_shift_188 : decode cX12_shift 188 = .ok (.iload_n 1, 1) := by decide +kernel
theorem dX12_shift_189 : decode cX12_shift 189 = .ok (.iconst 1, 1) := by decide +kernel
theorem dX12_shift_19 : decode cX12_shift 19 = .ok (.iconst 3, 1) := by decide +kernel
theorem dX12_shift_190 : decode cX12_shift 190 = .ok (.isub, 1) := by decide +kernel
theorem dX12_shift_191 : decode cX12_shift 191 = .ok (.imul, 1) := by decide +kernel
theorem dX12_shift_192 : decode cX12_shift 192 = .ok (.lshl, 1) := by decide +kernel
theorem dX12_shift_193 : decode cX12_shift 193 = .ok (.goto 4, 3) := by decide +kernel
theorem dX12_shift_196 : decode cX12_shift 196 = .ok (.lconst 0, 1) := by decide +kernel
theorem dX12_shift_197 : decode cX12_shift 197 = .ok (.lor, 1) := by decide +kernel
theorem dX12_shift_198 : decode cX12_shift 198 = .ok (.lstore_n 3, 1) := by decide +kernel
theorem dX12_shift_199 : decode cX12_shift 199 = .ok (.iinc 7 1, 3) := by decide +kernel
theorem dX12_shift_20 : decode cX12_shift 20 = .ok (.if_icmp .le 13, 3) := by decide +kernel
theorem dX12_shift_202 : decode cX12_shift 202 = .ok (.goto (-92), 3) := by decide +kernel
theorem dX12_shift_205 : decode cX12_shift 205 = .ok (.aload_n 0, 1) := by decide +kernel
theorem dX12_shift_206 : decode cX12_shift 206 = .ok (.getfield 289, 3) := by decide +kernel
theorem dX12_shift_209 : decode cX12_shift 209 = .ok (.iconst 2, 1) := by decide +kernel
theorem dX12_shift_210 : decode cX12_shift 210 = .ok (.if_icmp .ge 22, 3) := by decide +kernel
theorem dX12_shift_213 : decode cX12_shift 213 = .ok (.aload_n 0, 1) := by decide +kernel
theorem dX12_shift_214 : decode cX12_shift 214 = .ok (.getfield 17, 3) := by decide +kernel
theorem dX12_shift_217 : decode cX12_shift 217 = .ok (.iconst 0, 1) := by decide +kernel
theorem dX12_shift_218 : decode cX12_shift 218 = .ok (.aload_n 0, 1) := by decide +kernel
theorem dX12_shift_219 : decode cX12_shift 219 = .ok (.getfield 17, 3) := by decide +kernel
theorem dX12_shift_222 : decode cX12_shift 222 = .ok (.iconst 0, 1) := by decide +kernel
theorem dX12_shift_223 : decode cX12_shift 223 = .ok (.iaload, 1) := by decide +kernel
theorem dX12_shift_224 : decode cX12_shift 224 = .ok (.ldc 158, 2) := by decide +kernel
theorem dX12_shift_226 : decode cX12_shift 226 = .ok (.iand, 1) := by decide +kernel
theorem dX12_shift_227 : decode cX12_shift 227 = .ok (.lload_n 3, 1) := by decide +kernel
theorem dX12_shift_228 : decode cX12_shift 228 = .ok (.l2i, 1) := by decide +kernel
theorem dX12_shift_229 : decode cX12_shift 229 = .ok (.ior, 1) := by decide +kernel
theorem dX12_shift_23 : decode cX12_shift 23 = .ok (.aload_n 0, 1) := by decide +kernel
theorem dX12_shift_230 : decode cX12_shift 230 = .ok (.iastore, 1) := by decide +kernel
theorem dX12_shift_231 : decode cX12_shift 231 = .ok (.return_, 1) := by decide +kernel
theorem dX12_shift_232 : decode cX12_shift 232 = .ok (.aload_n 0, 1) := by decide +kernel
theorem dX12_shift_233 : decode cX12_shift 233 = .ok (.getfield 17, 3) := by decide +kernel
theorem dX12_shift_236 : decode cX12_shift 236 = .ok (.iconst 0, 1) := by decide +kernel
theorem dX12_shift_237 : decode cX12_shift 237 = .ok (.aload_n 0, 1) := by decide +kernel
theorem dX12_shift_238 : decode cX12_shift 238 = .ok (.getfield 17, 3) := by decide +kernel
theorem dX12_shift_24 : decode cX12_shift 24 = .ok (.getfield 251, 3) := by decide +kernel
theorem dX12_shift_241 : decode cX12_shift 241 = .ok (.iconst 0, 1) := by decide +kernel
theorem dX12_shift_242 : decode cX12_shift 242 = .ok (.iaload, 1) := by decide +kernel
theorem dX12_shift_243 : decode cX12_shift 243 = .ok (.ldc 158, 2) := by decide +kernel
theorem dX12_shift_245 : decode cX12_shift 245 = .ok (.iand, 1) := by decide +kernel
theorem dX12_shift_246 : decode cX12_shift 246 = .ok (.lload_n 3, 1) := by decide +kernel
theorem dX12_shift_247 : decode cX12_shift 247 = .ok (.bipush 30, 2) := by decide +kernel
theorem dX12_shift_249 : decode cX12_shift 249 = .ok (.lshr, 1) := by decide +kernel
theorem dX12_shift_250 : decode cX12_shift 250 = .ok (.l2i, 1) := by decide +kernel
theorem dX12_shift_251 : decode cX12_shift 251 = .ok (.ior, 1) := by decide +kernel
theorem dX12_shift_252 : decode cX12_shift 252 = .ok (.iastore, 1) := by decide +kernel
theorem dX12_shift_253 : decode cX12_shift 253 = .ok (.aload_n 0, 1) := by decide +kernel
theorem dX12_shift_254 : decode cX12_shift 254 = .ok (.getfield 17, 3) := by decide +kernel
theorem dX12_shift_257 : decode cX12_shift 257 = .ok (.bipush 7, 2) := by decide +kernel
theorem dX12_shift_259 : decode cX12_shift 259 = .ok (.aload_n 0, 1) := by decide +kernel
theorem dX12_shift_260 : decode cX12_shift 260 = .ok (.getfield 17, 3) := by decide +kernel
theorem dX12_shift_263 : decode cX12_shift 263 = .ok (.bipush 7, 2) := by decide +kernel
theorem dX12_shift_265 : decode cX12_shift 265 = .ok (.iaload, 1) := by decide +kernel
theorem dX12_shift_266 : decode cX12_shift 266 = .ok (.ldc 158, 2) := by decide +kernel
theorem dX12_shift_268 : decode cX12_shift 268 = .ok (.iand, 1) := by decide +kernel
theorem dX12_shift_269 : decode cX12_shift 269 = .ok (.lload_n 3, 1) := by decide +kernel
theorem dX12_shift_27 : decode cX12_shift 27 = .ok (.bipush 10, 2) := by decide +kernel
theorem dX12_shift_270 : decode cX12_shift 270 = .ok (.ldc2_w 335, 3) := by decide +kernel
theorem dX12_shift_273 : decode cX12_shift 273 = .ok (.land, 1) := by decide +kernel
theorem dX12_shift_274 : decode cX12_shift 274 = .ok (.l2i, 1) := by decide +kernel
theorem dX12_shift_275 : decode cX12_shift 275 = .ok (.ior, 1) := by decide +kernel
theorem dX12_shift_276 : decode cX12_shift 276 = .ok (.iastore, 1) := by decide +kernel
theorem dX12_shift_277 : decode cX12_shift 277 = .ok (.return_, 1) := by decide +kernel
theorem dX12_shift_29 : decode cX12_shift 29 = .ok (.irem, 1) := by decide +kernel
theorem dX12_shift_30 : decode cX12_shift 30 = .ok (.goto 19, 3) := by decide +kernel
theorem dX12_shift_33 : decode cX12_shift 33 = .ok (.aload_n 0, 1) := by decide +kernel
theorem dX12_shift_34 : decode cX12_shift 34 = .ok (.getfield 251, 3) := by decide +kernel
theorem dX12_shift_37 : decode cX12_shift 37 = .ok (.iload_n 1, 1) := by decide +kernel
theorem dX12_shift_38 : decode cX12_shift 38 = .ok (.if_icmp .le 7, 3) := by decide +kernel
theorem dX12_shift_4 : decode cX12_shift 4 = .ok (.iconst 2, 1) := by decide +kernel
theorem dX12_shift_41 : decode cX12_shift 41 = .ok (.iload_n 1, 1) := by decide +kernel
theorem dX12_shift_42 : decode cX12_shift 42 = .ok (.goto 7, 3) := by decide +kernel
theorem dX12_shift_45 : decode cX12_shift 45 = .ok (.aload_n 0, 1) := by decide +kernel
theorem dX12_shift_46 : decode cX12_shift 46 = .ok (.getfield 251, 3) := by decide +kernel
theorem dX12_shift_49 : decode cX12_shift 49 = .ok (.istore_n 2, 1) := by decide +kernel
theorem dX12_shift_5 : decode cX12_shift 5 = .ok (.if_icmp .ge 7, 3) := by decide +kernel
theorem dX12_shift_50 : decode cX12_shift 50 = .ok (.aload_n 0, 1) := by decide +kernel
theorem dX12_shift_51 : decode cX12_shift 51 = .ok (.getfield 289, 3) := by decide +kernel
theorem dX12_shift_54 : decode cX12_shift 54 = .ok (.iconst 2, 1) := by decide +kernel
theorem dX12_shift_55 : decode cX12_shift 55 = .ok (.if_icmp .ge 16, 3) := by decide +kernel
theorem dX12_shift_58 : decode cX12_shift 58 = .ok (.aload_n 0, 1) := by decide +kernel
theorem dX12_shift_59 : decode cX12_shift 59 = .ok (.getfield 17, 3) := by decide +kernel
theorem dX12_shift_62 : decode cX12_shift 62 = .ok (.iconst 0, 1) := by decide +kernel
theorem dX12_shift_63 : decode cX12_shift 63 = .ok (.iaload, 1) := by decide +kernel
theorem dX12_shift_64 : decode cX12_shift 64 = .ok (.ldc 159, 2) := by decide +kernel
theorem dX12_shift_66 : decode cX12_shift 66 = .ok (.iand, 1) := by decide +kernel
theorem dX12_shift_67 : decode cX12_shift 67 = .ok (.i2l, 1) := by decide +kernel
theorem dX12_shift_68 : decode cX12_shift 68 = .ok (.goto 28, 3) := by decide +kernel
theorem dX12_shift_71 : decode cX12_shift 71 = .ok (.aload_n 0, 1) := by decide +kernel
theorem dX12_shift_72 : decode cX12_shift 72 = .ok (.getfield 17, 3) := by decide +kernel
theorem dX12_shift_75 : decode cX12_shift 75 = .ok (.iconst 0, 1) := by decide +kernel
theorem dX12_shift_76 : decode cX12_shift 76 = .ok (.iaload, 1) := by decide +kernel
theorem dX12_shift_77 : decode cX12_shift 77 = .ok (.ldc 159, 2) := by decide +kernel
theorem dX12_shift_79 : decode cX12_shift 79 = .ok (.iand, 1) := by decide +kernel
theorem dX12_shift_8 : decode cX12_shift 8 = .ok (.iconst 5, 1) := by decide +kernel
theorem dX12_shift_80 : decode cX12_shift 80 = .ok (.i2l, 1) := by decide +kernel
theorem dX12_shift_81 : decode cX12_shift 81 = .ok (.bipush 30, 2) := by decide +kernel
theorem dX12_shift_83 : decode cX12_shift 83 = .ok (.lshl, 1) := by decide +kernel
theorem dX12_shift_84 : decode cX12_shift 84 = .ok (.aload_n 0, 1) := by decide +kernel
theorem dX12_shift_85 : decode cX12_shift 85 = .ok (.getfield 17, 3) := by decide +kernel
theorem dX12_shift_88 : decode cX12_shift 88 = .ok (.bipush 7, 2) := by decide +kernel
theorem dX12_shift_9 : decode cX12_shift 9 = .ok (.goto 5, 3) := by decide +kernel
theorem dX12_shift_90 : decode cX12_shift 90 = .ok (.iaload, 1) := by decide +kernel
theorem dX12_shift_91 : decode cX12_shift 91 = .ok (.ldc 159, 2) := by decide +kernel
theorem dX12_shift_93 : decode cX12_shift 93 = .ok (.iand, 1) := by decide +kernel
theorem dX12_shift_94 : decode cX12_shift 94 = .ok (.i2l, 1) := by decide +kernel
theorem dX12_shift_95 : decode cX12_shift 95 = .ok (.lor, 1) := by decide +kernel
theorem dX12_shift_96 : decode cX12_shift 96 = .ok (.lstore_n 3, 1) := by decide +kernel
theorem dX12_shift_97 : decode cX12_shift 97 = .ok (.lconst 1, 1) := by decide +kernel
theorem dX12_shift_98 : decode cX12_shift 98 = .ok (.bipush 6, 2) := by decide +kernel
theorem dX12_signOf_0 : decode cX12_signOf 0 = .ok (.iload_n 0, 1) := by decide +kernel
theorem dX12_signOf_1 : decode cX12_signOf 1 = .ok (.invokestatic 455, 3) := by decide +kernel
theorem dX12_signOf_10 : decode cX12_signOf 10 = .ok (.isub, 1) := by decide +kernel
theorem dX12_signOf_11 : decode cX12_signOf 11 = .ok (.iconst 1, 1) := by decide +kernel
theorem dX12_signOf_12 : decode cX12_signOf 12 = .ok (.iadd, 1) := by decide +kernel
theorem dX12_signOf_13 : decode cX12_signOf 13 = .ok (.goto 10, 3) := by decide +kernel
theorem dX12_signOf_16 : decode cX12_signOf 16 = .ok (.iload_n 0, 1) := by decide +kernel
theorem dX12_signOf_17 : decode cX12_signOf 17 = .ok (.bipush 65, 2) := by decide +kernel
theorem dX12_signOf_19 : decode cX12_signOf 19 = .ok (.isub, 1) := by decide +kernel
theorem dX12_signOf_20 : decode cX12_signOf 20 = .ok (.bipush 11, 2) := by decide +kernel
theorem dX12_signOf_22 : decode cX12_signOf 22 = .ok (.iadd, 1) := by decide +kernel
theorem dX12_signOf_23 : decode cX12_signOf 23 = .ok (.ireturn, 1) := by decide +kernel
theorem dX12_signOf_4 : decode cX12_signOf 4 = .ok (.ifCond .eq 12, 3) := by decide +kernel
theorem dX12_signOf_7 : decode cX12_signOf 7 = .ok (.iload_n 0, 1) := by decide +kernel
theorem dX12_signOf_8 : decode cX12_signOf 8 = .ok (.bipush 48, 2) := by decide +kernel
theorem dX12_sizeOf_0 : decode cX12_sizeOf 0 = .ok (.iload_n 0, 1) := by decide +kernel
theorem dX12_sizeOf_1 : decode cX12_sizeOf 1 = .ok (.bipush 16, 2) := by decide +kernel
theorem dX12_sizeOf_11 : decode cX12_sizeOf 11 = .ok (.iload_n 0, 1) := by decide +kernel
theorem dX12_sizeOf_12 : decode cX12_sizeOf 12 = .ok (.bipush 16, 2) := by decide +kernel
theorem dX12_sizeOf_14 : decode cX12_sizeOf 14 = .ok (.if_icmp .eq 9, 3) := by decide +kernel
theorem dX12_sizeOf_17 : decode cX12_sizeOf 17 = .ok (.iload_n 0, 1) := by decide +kernel
theorem dX12_sizeOf_18 : decode cX12_sizeOf 18 = .ok (.bipush 17, 2) := by decide +kernel
theorem dX12_sizeOf_20 : decode cX12_sizeOf 20 = .ok (.if_icmp .ne 8, 3) := by decide +kernel
theorem dX12_sizeOf_23 : decode cX12_sizeOf 23 = .ok (.bipush 16, 2) := by decide +kernel
theorem dX12_sizeOf_25 : decode cX12_sizeOf 25 = .ok (.goto 16, 3) := by decide +kernel
theorem dX12_sizeOf_28 : decode cX12_sizeOf 28 = .ok (.iload_n 0, 1) := by decide +kernel
theorem dX12_sizeOf_29 : decode cX12_sizeOf 29 = .ok (.bipush 18, 2) := by decide +kernel
theorem dX12_sizeOf_3 : decode cX12_sizeOf 3 = .ok (.if_icmp .ge 8, 3) := by decide +kernel
theorem dX12_sizeOf_31 : decode cX12_sizeOf 31 = .ok (.if_icmp .ne 8, 3) := by decide +kernel
theorem dX12_sizeOf_34 : decode cX12_sizeOf 34 = .ok (.bipush 24, 2) := by decide +kernel
theorem dX12_sizeOf_36 : decode cX12_sizeOf 36 = .ok (.goto 5, 3) := by decide +kernel
theorem dX12_sizeOf_39 : decode cX12_sizeOf 39 = .ok (.bipush 14, 2) := by decide +kernel
theorem dX12_sizeOf_41 : decode cX12_sizeOf 41 = .ok (.ireturn, 1) := by decide +kernel
theorem dX12_sizeOf_6 : decode cX12_sizeOf 6 = .ok (.bipush 100, 2) := by decide +kernel
theorem dX12_sizeOf_8 : decode cX12_sizeOf 8 = .ok (.goto 33, 3) := by decide +kernel
theorem dX12_startAt_0 : decode cX12_startAt 0 = .ok (.aload_n 0, 1) := by decide +kernel
theorem dX12_startAt_1 : decode cX12_startAt 1 = .ok (.iload_n 1, 1) := by decide +kernel
theorem dX12_startAt_10 : decode cX12_startAt 10 = .ok (.iconst 1, 1) := by decide +kernel
theorem dX12_startAt_11 : decode cX12_startAt 11 = .ok (.goto 4, 3) := by decide +kernel
theorem dX12_startAt_14 : decode cX12_startAt 14 = .ok (.iconst 0, 1) := by decide +kernel
theorem dX12_startAt_15 : decode cX12_startAt 15 = .ok (.putfield 238, 3) := by decide +kernel
theorem dX12_startAt_18 : decode cX12_startAt 18 = .ok (.aload_n 0, 1) := by decide +kernel
theorem dX12_startAt_19 : decode cX12_startAt 19 = .ok (.aload_n 0, 1) := by decide +kernel
theorem dX12_startAt_2 : decode cX12_startAt 2 = .ok (.putfield 378, 3) := by decide +kernel
theorem dX12_startAt_20 : decode cX12_startAt 20 = .ok (.getfield 238, 3) := by decide +kernel
theorem dX12_startAt_23 : decode cX12_startAt 23 = .ok (.putfield 241, 3) := by decide +kernel
theorem dX12_startAt_26 : decode cX12_startAt 26 = .ok (.aload_n 0, 1) := by decide +kernel
theorem dX12_startAt_27 : decode cX12_startAt 27 = .ok (.iconst 0, 1) := by decide +kernel
theorem dX12_startAt_28 : decode cX12_startAt 28 = .ok (.putfield 24, 3) := by decide +kernel
theorem dX12_startAt_31 : decode cX12_startAt 31 = .ok (.return_, 1) := by decide +kernel
theorem dX12_startAt_5 : decode cX12_startAt 5 = .ok (.aload_n 0, 1) := by decide +kernel
theorem dX12_startAt_6 : decode cX12_startAt 6 = .ok (.iload_n 1, 1) := by decide +kernel
theorem dX12_startAt_7 : decode cX12_startAt 7 = .ok (.ifCond .ge 7, 3) := by decide +kernel
theorem dX12_state_0 : decode cX12_state 0 = .ok (.aload_n 0, 1) := by decide +kernel
theorem dX12_state_1 : decode cX12_state 1 = .ok (.iconst 0, 1) := by decide +kernel
theorem dX12_state_2 : decode cX12_state 2 = .ok (.putfield 155, 3) := by decide +kernel
theorem dX12_state_5 : decode cX12_state 5 = .ok (.aload_n 0, 1) := by decide +kernel
theorem dX12_state_6 : decode cX12_state 6 = .ok (.getfield 24, 3) := by decide +kernel
theorem dX12_state_9 : decode cX12_state 9 = .ok (.ireturn, 1) := by decide +kernel
theorem dX12_stored_0 : decode cX12_stored 0 = .ok (.iload_n 2, 1) := by decide +kernel
theorem dX12_stored_1 : decode cX12_stored 1 = .ok (.bipush 8, 2) := by decide +kernel
theorem dX12_stored_100 : decode cX12_stored 100 = .ok (.ixor, 1) := by decide +kernel
theorem dX12_stored_101 : decode cX12_stored 101 = .ok (.iand, 1) := by decide +kernel
theorem dX12_stored_102 : decode cX12_stored 102 = .ok (.istore 10, 2) := by decide +kernel
theorem dX12_stored_104 : decode cX12_stored 104 = .ok (.iload_n 3, 1) := by decide +kernel
theorem dX12_stored_105 : decode cX12_stored 105 = .ok (.ifCond .ne 10, 3) := by decide +kernel
theorem dX12_stored_108 : decode cX12_stored 108 = .ok (.iload_n 1, 1) := by decide +kernel
theorem dX12_stored_109 : decode cX12_stored 109 = .ok (.ldc 158, 2) := by decide +kernel
theorem dX12_stored_11 : decode cX12_stored 11 = .ok (.iload_n 3, 1) := by decide +kernel
theorem dX12_stored_111 : decode cX12_stored 111 = .ok (.iand, 1) := by decide +kernel
theorem dX12_stored_112 : decode cX12_stored 112 = .ok (.goto 7, 3) := by decide +kernel
theorem dX12_stored_115 : decode cX12_stored 115 = .ok (.iload_n 0, 1) := by decide +kernel
theorem dX12_stored_116 : decode cX12_stored 116 = .ok (.ldc 158, 2) := by decide +kernel
theorem dX12_stored_118 : decode cX12_stored 118 = .ok (.iand, 1) := by decide +kernel
theorem dX12_stored_119 : decode cX12_stored 119 = .ok (.istore 11, 2) := by decide +kernel
theorem dX12_stored_12 : decode cX12_stored 12 = .ok (.ifCond .ne 7, 3) := by decide +kernel
theorem dX12_stored_121 : decode cX12_stored 121 = .ok (.iload 11, 2) := by decide +kernel
theorem dX12_stored_123 : decode cX12_stored 123 = .ok (.iload 10, 2) := by decide +kernel
theorem dX12_stored_125 : decode cX12_stored 125 = .ok (.ior, 1) := by decide +kernel
theorem dX12_stored_126 : decode cX12_stored 126 = .ok (.iload 9, 2) := by decide +kernel
theorem dX12_stored_128 : decode cX12_stored 128 = .ok (.ior, 1) := by decide +kernel
theorem dX12_stored_129 : decode cX12_stored 129 = .ok (.ireturn, 1) := by decide +kernel
theorem dX12_stored_15 : decode cX12_stored 15 = .ok (.iconst 1, 1) := by decide +kernel
theorem dX12_stored_16 : decode cX12_stored 16 = .ok (.goto 4, 3) := by decide +kernel
theorem dX12_stored_19 : decode cX12_stored 19 = .ok (.iload_n 3, 1) := by decide +kernel
theorem dX12_stored_20 : decode cX12_stored 20 = .ok (.istore 5, 2) := by decide +kernel
theorem dX12_stored_22 : decode cX12_stored 22 = .ok (.iload 4, 2) := by decide +kernel
theorem dX12_stored_24 : decode cX12_stored 24 = .ok (.iload 5, 2) := by decide +kernel
theorem dX12_stored_26 : decode cX12_stored 26 = .ok (.if_icmp .ge 7, 3) := by decide +kernel
theorem dX12_stored_29 : decode cX12_stored 29 = .ok (.iconst 0, 1) := by decide +kernel
theorem dX12_stored_3 : decode cX12_stored 3 = .ok (.idiv, 1) := by decide +kernel
theorem dX12_stored_30 : decode cX12_stored 30 = .ok (.goto 10, 3) := by decide +kernel
theorem dX12_stored_33 : decode cX12_stored 33 = .ok (.iload 4, 2) := by decide +kernel
theorem dX12_stored_35 : decode cX12_stored 35 = .ok (.iload 5, 2) := by decide +kernel
theorem dX12_stored_37 : decode cX12_stored 37 = .ok (.isub, 1) := by decide +kernel
theorem dX12_stored_38 : decode cX12_stored 38 = .ok (.iconst 1, 1) := by decide +kernel
theorem dX12_stored_39 : decode cX12_stored 39 = .ok (.iadd, 1) := by decide +kernel
theorem dX12_stored_4 : decode cX12_stored 4 = .ok (.istore_n 3, 1) := by decide +kernel
theorem dX12_stored_40 : decode cX12_stored 40 = .ok (.istore 6, 2) := by decide +kernel
theorem dX12_stored_42 : decode cX12_stored 42 = .ok (.iload 6, 2) := by decide +kernel
theorem dX12_stored_44 : decode cX12_stored 44 = .ok (.ifCond .ne 7, 3) := by decide +kernel
theorem dX12_stored_47 : decode cX12_stored 47 = .ok (.iconst 0, 1) := by decide +kernel
theorem dX12_stored_48 : decode cX12_stored 48 = .ok (.goto 13, 3) := by decide +kernel
theorem dX12_stored_5 : decode cX12_stored 5 = .ok (.iload_n 2, 1) := by decide +kernel
theorem dX12_stored_51 : decode cX12_stored 51 = .ok (.lconst 1, 1) := by decide +kernel
theorem dX12_stored_52 : decode cX12_stored 52 = .ok (.bipush 6, 2) := by decide +kernel
theorem dX12_stored_54 : decode cX12_stored 54 = .ok (.iload 6, 2) := by decide +kernel
theorem dX12_stored_56 : decode cX12_stored 56 = .ok (.imul, 1) := by decide +kernel
theorem dX12_stored_57 : decode cX12_stored 57 = .ok (.lshl, 1) := by decide +kernel
theorem dX12_stored_58 : decode cX12_stored 58 = .ok (.lconst 1, 1) := by decide +kernel
theorem dX12_stored_59 : decode cX12_stored 59 = .ok (.lsub, 1) := by decide +kernel
theorem dX12_stored_6 : decode cX12_stored 6 = .ok (.bipush 8, 2) := by decide +kernel
theorem dX12_stored_60 : decode cX12_stored 60 = .ok (.l2i, 1) := by decide +kernel
theorem dX12_stored_61 : decode cX12_stored 61 = .ok (.istore 7, 2) := by decide +kernel
theorem dX12_stored_63 : decode cX12_stored 63 = .ok (.iload 6, 2) := by decide +kernel
theorem dX12_stored_65 : decode cX12_stored 65 = .ok (.ifCond .ne 7, 3) := by decide +kernel
theorem dX12_stored_68 : decode cX12_stored 68 = .ok (.iconst 0, 1) := by decide +kernel
theorem dX12_stored_69 : decode cX12_stored 69 = .ok (.goto 10, 3) := by decide +kernel
theorem dX12_stored_72 : decode cX12_stored 72 = .ok (.bipush 6, 2) := by decide +kernel
theorem dX12_stored_74 : decode cX12_stored 74 = .ok (.iconst 5, 1) := by decide +kernel
theorem dX12_stored_75 : decode cX12_stored 75 = .ok (.iload 4, 2) := by decide +kernel
theorem dX12_stored_77 : decode cX12_stored 77 = .ok (.isub, 1) := by decide +kernel
theorem dX12_stored_78 : decode cX12_stored 78 = .ok (.imul, 1) := by decide +kernel
theorem dX12_stored_79 : decode cX12_stored 79 = .ok (.istore 8, 2) := by decide +kernel
theorem dX12_stored_8 : decode cX12_stored 8 = .ok (.irem, 1) := by decide +kernel
theorem dX12_stored_81 : decode cX12_stored 81 = .ok (.iload_n 1, 1) := by decide +kernel
theorem dX12_stored_82 : decode cX12_stored 82 = .ok (.iload 7, 2) := by decide +kernel
theorem dX12_stored_84 : decode cX12_stored 84 = .ok (.iand, 1) := by decide +kernel
theorem dX12_stored_85 : decode cX12_stored 85 = .ok (.iload 8, 2) := by decide +kernel
theorem dX12_stored_87 : decode cX12_stored 87 = .ok (.ishl, 1) := by decide +kernel
theorem dX12_stored_88 : decode cX12_stored 88 = .ok (.istore 9, 2) := by decide +kernel
theorem dX12_stored_9 : decode cX12_stored 9 = .ok (.istore 4, 2) := by decide +kernel
theorem dX12_stored_90 : decode cX12_stored 90 = .ok (.iload_n 0, 1) := by decide +kernel
theorem dX12_stored_91 : decode cX12_stored 91 = .ok (.ldc 159, 2) := by decide +kernel
theorem dX12_stored_93 : decode cX12_stored 93 = .ok (.iand, 1) := by decide +kernel
theorem dX12_stored_94 : decode cX12_stored 94 = .ok (.iload 7, 2) := by decide +kernel
theorem dX12_stored_96 : decode cX12_stored 96 = .ok (.iload 8, 2) := by decide +kernel
theorem dX12_stored_98 : decode cX12_stored 98 = .ok (.ishl, 1) := by decide +kernel
theorem dX12_stored_99 : decode cX12_stored 99 = .ok (.iconst (-1), 1) := by decide +kernel
theorem dX12_takeClock_0 : decode cX12_takeClock 0 = .ok (.aload_n 0, 1) := by decide +kernel
theorem dX12_takeClock_1 : decode cX12_takeClock 1 = .ok (.bipush (-10), 2) := by decide +kernel
theorem dX12_takeClock_10 : decode cX12_takeClock 10 = .ok (.lload_n 1, 1) := by decide +kernel
theorem dX12_takeClock_11 : decode cX12_takeClock 11 = .ok (.lsub, 1) := by decide +kernel
theorem dX12_takeClock_12 : decode cX12_takeClock 12 = .ok (.lstore_n 3, 1) := by decide +kernel
theorem dX12_takeClock_13 : decode cX12_takeClock 13 = .ok (.lload_n 3, 1) := by decide +kernel
theorem dX12_takeClock_14 : decode cX12_takeClock 14 = .ok (.lconst 0, 1) := by decide +kernel
theorem dX12_takeClock_15 : decode cX12_takeClock 15 = .ok (.lcmp, 1) := by decide +kernel
theorem dX12_takeClock_16 : decode cX12_takeClock 16 = .ok (.ifCond .ge 8, 3) := by decide +kernel
theorem dX12_takeClock_19 : decode cX12_takeClock 19 = .ok (.lload_n 3, 1) := by decide +kernel
theorem dX12_takeClock_20 : decode cX12_takeClock 20 = .ok (.lneg, 1) := by decide +kernel
theorem dX12_takeClock_21 : decode cX12_takeClock 21 = .ok (.goto 4, 3) := by decide +kernel
theorem dX12_takeClock_24 : decode cX12_takeClock 24 = .ok (.lload_n 3, 1) := by decide +kernel
theorem dX12_takeClock_25 : decode cX12_takeClock 25 = .ok (.ldc2_w 335, 3) := by decide +kernel
theorem dX12_takeClock_28 : decode cX12_takeClock 28 = .ok (.land, 1) := by decide +kernel
theorem dX12_takeClock_29 : decode cX12_takeClock 29 = .ok (.lstore 5, 2) := by decide +kernel
theorem dX12_takeClock_3 : decode cX12_takeClock 3 = .ok (.invokevirtual 260, 3) := by decide +kernel
theorem dX12_takeClock_31 : decode cX12_takeClock 31 = .ok (.aload_n 0, 1) := by decide +kernel
theorem dX12_takeClock_32 : decode cX12_takeClock 32 = .ok (.bipush (-10), 2) := by decide +kernel
theorem dX12_takeClock_34 : decode cX12_takeClock 34 = .ok (.lload 5, 2) := by decide +kernel
theorem dX12_takeClock_36 : decode cX12_takeClock 36 = .ok (.lconst 0, 1) := by decide +kernel
theorem dX12_takeClock_37 : decode cX12_takeClock 37 = .ok (.lcmp, 1) := by decide +kernel
theorem dX12_takeClock_38 : decode cX12_takeClock 38 = .ok (.ifCond .le 18, 3) := by decide +kernel
theorem dX12_takeClock_41 : decode cX12_takeClock 41 = .ok (.lload_n 3, 1) := by decide +kernel
theorem dX12_takeClock_42 : decode cX12_takeClock 42 = .ok (.lconst 0, 1) := by decide +kernel
theorem dX12_takeClock_43 : decode cX12_takeClock 43 = .ok (.lcmp, 1) := by decide +kernel
theorem dX12_takeClock_44 : decode cX12_takeClock 44 = .ok (.ifCond .ge 12, 3) := by decide +kernel
theorem dX12_takeClock_47 : decode cX12_takeClock 47 = .ok (.ldc 158, 2) := by decide +kernel
theorem dX12_takeClock_49 : decode cX12_takeClock 49 = .ok (.lload 5, 2) := by decide +kernel
theorem dX12_takeClock_51 : decode cX12_takeClock 51 = .ok (.l2i, 1) := by decide +kernel
theorem dX12_takeClock_52 : decode cX12_takeClock 52 = .ok (.ior, 1) := by decide +kernel
theorem dX12_takeClock_53 : decode cX12_takeClock 53 = .ok (.goto 6, 3) := by decide +kernel
theorem dX12_takeClock_56 : decode cX12_takeClock 56 = .ok (.lload 5, 2) := by decide +kernel
theorem dX12_takeClock_58 : decode cX12_takeClock 58 = .ok (.l2i, 1) := by decide +kernel
theorem dX12_takeClock_59 : decode cX12_takeClock 59 = .ok (.invokevirtual 214, 3) := by decide +kernel
theorem dX12_takeClock_6 : decode cX12_takeClock 6 = .ok (.invokestatic 161, 3) := by decide +kernel
theorem dX12_takeClock_62 : decode cX12_takeClock 62 = .ok (.return_, 1) := by decide +kernel
theorem dX12_takeClock_9 : decode cX12_takeClock 9 = .ok (.i2l, 1) := by decide +kernel
theorem dX12_takeImage_0 : decode cX12_takeImage 0 = .ok (.iconst 0, 1) := by decide +kernel
theorem dX12_takeImage_1 : decode cX12_takeImage 1 = .ok (.istore_n 1, 1) := by decide +kernel
theorem dX12_takeImage_10 : decode cX12_takeImage 10 = .ok (.iload_n 1, 1) := by decide +kernel
theorem dX12_takeImage_11 : decode cX12_takeImage 11 = .ok (.aload_n 0, 1) := by decide +kernel
theorem dX12_takeImage_12 : decode cX12_takeImage 12 = .ok (.getfield 149, 3) := by decide +kernel
theorem dX12_takeImage_15 : decode cX12_takeImage 15 = .ok (.iload_n 1, 1) := by decide +kernel
theorem dX12_takeImage_16 : decode cX12_takeImage 16 = .ok (.iaload, 1) := by decide +kernel
theorem dX12_takeImage_17 : decode cX12_takeImage 17 = .ok (.invokevirtual 214, 3) := by decide +kernel
theorem dX12_takeImage_2 : decode cX12_takeImage 2 = .ok (.iload_n 1, 1) := by decide +kernel
theorem dX12_takeImage_20 : decode cX12_takeImage 20 = .ok (.iinc 1 1, 3) := by decide +kernel
theorem dX12_takeImage_23 : decode cX12_takeImage 23 = .ok (.goto (-21), 3) := by decide +kernel
theorem dX12_takeImage_26 : decode cX12_takeImage 26 = .ok (.aload_n 0, 1) := by decide +kernel
theorem dX12_takeImage_27 : decode cX12_takeImage 27 = .ok (.aload_n 0, 1) := by decide +kernel
theorem dX12_takeImage_28 : decode cX12_takeImage 28 = .ok (.getfield 826, 3) := by decide +kernel
theorem dX12_takeImage_3 : decode cX12_takeImage 3 = .ok (.sipush 3999, 3) := by decide +kernel
theorem dX12_takeImage_31 : decode cX12_takeImage 31 = .ok (.putfield 602, 3) := by decide +kernel
theorem dX12_takeImage_34 : decode cX12_takeImage 34 = .ok (.return_, 1) := by decide +kernel
theorem dX12_takeImage_6 : decode cX12_takeImage 6 = .ok (.if_icmp .gt 20, 3) := by decide +kernel
theorem dX12_takeImage_9 : decode cX12_takeImage 9 = .ok (.aload_n 0, 1) := by decide +kernel
theorem dX12_takes_0 : decode cX12_takes 0 = .ok (.iload_n 0, 1) := by decide +kernel
theorem dX12_takes_1 : decode cX12_takes 1 = .ok (.bipush 8, 2) := by decide +kernel
theorem dX12_takes_10 : decode cX12_takes 10 = .ok (.iload_n 0, 1) := by decide +kernel
theorem dX12_takes_11 : decode cX12_takes 11 = .ok (.bipush 16, 2) := by decide +kernel
theorem dX12_takes_13 : decode cX12_takes 13 = .ok (.if_icmp .ge 7, 3) := by decide +kernel
theorem dX12_takes_16 : decode cX12_takes 16 = .ok (.sipush 400, 3) := by decide +kernel
theorem dX12_takes_19 : decode cX12_takes 19 = .ok (.ireturn, 1) := by decide +kernel
theorem dX12_takes_20 : decode cX12_takes 20 = .ok (.iload_n 0, 1) := by decide +kernel
theorem dX12_takes_21 : decode cX12_takes 21 = .ok (.bipush 16, 2) := by decide +kernel
theorem dX12_takes_23 : decode cX12_takes 23 = .ok (.if_icmp .ne 9, 3) := by decide +kernel
theorem dX12_takes_26 : decode cX12_takes 26 = .ok (.sipush 1000, 3) := by decide +kernel
theorem dX12_takes_29 : decode cX12_takes 29 = .ok (.goto 30, 3) := by decide +kernel
theorem dX12_takes_3 : decode cX12_takes 3 = .ok (.if_icmp .ge 7, 3) := by decide +kernel
theorem dX12_takes_32 : decode cX12_takes 32 = .ok (.iload_n 0, 1) := by decide +kernel
theorem dX12_takes_33 : decode cX12_takes 33 = .ok (.bipush 17, 2) := by decide +kernel
theorem dX12_takes_35 : decode cX12_takes 35 = .ok (.if_icmp .ne 9, 3) := by decide +kernel
theorem dX12_takes_38 : decode cX12_takes 38 = .ok (.sipush 1500, 3) := by decide +kernel
theorem dX12_takes_41 : decode cX12_takes 41 = .ok (.goto 18, 3) := by decide +kernel
theorem dX12_takes_44 : decode cX12_takes 44 = .ok (.iload_n 0, 1) := by decide +kernel
theorem dX12_takes_45 : decode cX12_takes 45 = .ok (.bipush 18, 2) := by decide +kernel
theorem dX12_takes_47 : decode cX12_takes 47 = .ok (.if_icmp .ne 9, 3) := by decide +kernel
theorem dX12_takes_50 : decode cX12_takes 50 = .ok (.sipush 750, 3) := by decide +kernel
theorem dX12_takes_53 : decode cX12_takes 53 = .ok (.goto 6, 3) := by decide +kernel
theorem dX12_takes_56 : decode cX12_takes 56 = .ok (.sipush 900, 3) := by decide +kernel
theorem dX12_takes_59 : decode cX12_takes 59 = .ok (.ireturn, 1) := by decide +kernel
theorem dX12_takes_6 : decode cX12_takes 6 = .ok (.sipush 500, 3) := by decide +kernel
theorem dX12_takes_9 : decode cX12_takes 9 = .ok (.ireturn, 1) := by decide +kernel
theorem dX12_tear_0 : decode cX12_tear 0 = .ok (.aload_n 0, 1) := by decide +kernel
theorem dX12_tear_1 : decode cX12_tear 1 = .ok (.iconst 0, 1) := by decide +kernel
theorem dX12_tear_12 : decode cX12_tear 12 = .ok (.aload_n 0, 1) := by decide +kernel
theorem dX12_tear_13 : decode cX12_tear 13 = .ok (.getfield 58, 3) := by decide +kernel
theorem dX12_tear_16 : decode cX12_tear 16 = .ok (.iload_n 1, 1) := by decide +kernel
theorem dX12_tear_17 : decode cX12_tear 17 = .ok (.iconst 0, 1) := by decide +kernel
theorem dX12_tear_18 : decode cX12_tear 18 = .ok (.iastore, 1) := by decide +kernel
theorem dX12_tear_19 : decode cX12_tear 19 = .ok (.iinc 1 1, 3) := by decide +kernel
theorem dX12_tear_2 : decode cX12_tear 2 = .ok (.putfield 155, 3) := by decide +kernel
theorem dX12_tear_22 : decode cX12_tear 22 = .ok (.goto (-15), 3) := by decide +kernel
theorem dX12_tear_25 : decode cX12_tear 25 = .ok (.return_, 1) := by decide +kernel
theorem dX12_tear_5 : decode cX12_tear 5 = .ok (.iconst 0, 1) := by decide +kernel
theorem dX12_tear_6 : decode cX12_tear 6 = .ok (.istore_n 1, 1) := by decide +kernel
theorem dX12_tear_7 : decode cX12_tear 7 = .ok (.iload_n 1, 1) := by decide +kernel
theorem dX12_tear_8 : decode cX12_tear 8 = .ok (.iconst 3, 1) := by decide +kernel
theorem dX12_tear_9 : decode cX12_tear 9 = .ok (.if_icmp .ge 16, 3) := by decide +kernel
theorem dX12_time_0 : decode cX12_time 0 = .ok (.aload_n 0, 1) := by decide +kernel
theorem dX12_time_1 : decode cX12_time 1 = .ok (.iconst 0, 1) := by decide +kernel
theorem dX12_time_2 : decode cX12_time 2 = .ok (.putfield 155, 3) := by decide +kernel
theorem dX12_time_5 : decode cX12_time 5 = .ok (.aload_n 0, 1) := by decide +kernel
theorem dX12_time_6 : decode cX12_time 6 = .ok (.getfield 272, 3) := by decide +kernel
theorem dX12_time_9 : decode cX12_time 9 = .ok (.lreturn, 1) := by decide +kernel
theorem dX12_told_0 : decode cX12_told 0 = .ok (.iload_n 0, 1) := by decide +kernel
theorem dX12_told_1 : decode cX12_told 1 = .ok (.ldc 158, 2) := by decide +kernel
theorem dX12_told_11 : decode cX12_told 11 = .ok (.iload_n 0, 1) := by decide +kernel
theorem dX12_told_12 : decode cX12_told 12 = .ok (.invokestatic 161, 3) := by decide +kernel
theorem dX12_told_15 : decode cX12_told 15 = .ok (.ireturn, 1) := by decide +kernel
theorem dX12_told_3 : decode cX12_told 3 = .ok (.if_icmp .ne 8, 3) := by decide +kernel
theorem dX12_told_6 : decode cX12_told 6 = .ok (.ldc 160, 2) := by decide +kernel
theorem dX12_told_8 : decode cX12_told 8 = .ok (.goto 7, 3) := by decide +kernel
theorem dX12_unit_0 : decode cX12_unit 0 = .ok (.aload_n 0, 1) := by decide +kernel
theorem dX12_unit_1 : decode cX12_unit 1 = .ok (.iconst 0, 1) := by decide +kernel
theorem dX12_unit_11 : decode cX12_unit 11 = .ok (.iload_n 1, 1) := by decide +kernel
theorem dX12_unit_12 : decode cX12_unit 12 = .ok (.bipush 19, 2) := by decide +kernel
theorem dX12_unit_14 : decode cX12_unit 14 = .ok (.if_icmp .gt 13, 3) := by decide +kernel
theorem dX12_unit_17 : decode cX12_unit 17 = .ok (.aload_n 0, 1) := by decide +kernel
theorem dX12_unit_18 : decode cX12_unit 18 = .ok (.getfield 58, 3) := by decide +kernel
theorem dX12_unit_2 : decode cX12_unit 2 = .ok (.putfield 155, 3) := by decide +kernel
theorem dX12_unit_21 : decode cX12_unit 21 = .ok (.iload_n 1, 1) := by decide +kernel
theorem dX12_unit_22 : decode cX12_unit 22 = .ok (.bipush 17, 2) := by decide +kernel
theorem dX12_unit_24 : decode cX12_unit 24 = .ok (.isub, 1) := by decide +kernel
theorem dX12_unit_25 : decode cX12_unit 25 = .ok (.iaload, 1) := by decide +kernel
theorem dX12_unit_26 : decode cX12_unit 26 = .ok (.ireturn, 1) := by decide +kernel
theorem dX12_unit_27 : decode cX12_unit 27 = .ok (.iload_n 1, 1) := by decide +kernel
theorem dX12_unit_28 : decode cX12_unit 28 = .ok (.bipush 16, 2) := by decide +kernel
theorem dX12_unit_30 : decode cX12_unit 30 = .ok (.if_icmp .ne 8, 3) := by decide +kernel
theorem dX12_unit_33 : decode cX12_unit 33 = .ok (.aload_n 0, 1) := by decide +kernel
theorem dX12_unit_34 : decode cX12_unit 34 = .ok (.invokevirtual 232, 3) := by decide +kernel
theorem dX12_unit_37 : decode cX12_unit 37 = .ok (.ireturn, 1) := by decide +kernel
theorem dX12_unit_38 : decode cX12_unit 38 = .ok (.iload_n 1, 1) := by decide +kernel
theorem dX12_unit_39 : decode cX12_unit 39 = .ok (.ifCond .lt 18, 3) := by decide +kernel
theorem dX12_unit_42 : decode cX12_unit 42 = .ok (.iload_n 1, 1) := by decide +kernel
theorem dX12_unit_43 : decode cX12_unit 43 = .ok (.bipush 8, 2) := by decide +kernel
theorem dX12_unit_45 : decode cX12_unit 45 = .ok (.if_icmp .ge 12, 3) := by decide +kernel
theorem dX12_unit_48 : decode cX12_unit 48 = .ok (.aload_n 0, 1) := by decide +kernel
theorem dX12_unit_49 : decode cX12_unit 49 = .ok (.getfield 44, 3) := by decide +kernel
theorem dX12_unit_5 : decode cX12_unit 5 = .ok (.iload_n 1, 1) := by decide +kernel
theorem dX12_unit_52 : decode cX12_unit 52 = .ok (.iload_n 1, 1) := by decide +kernel
theorem dX12_unit_53 : decode cX12_unit 53 = .ok (.iaload, 1) := by decide +kernel
theorem dX12_unit_54 : decode cX12_unit 54 = .ok (.goto 4, 3) := by decide +kernel
theorem dX12_unit_57 : decode cX12_unit 57 = .ok (.iconst (-1), 1) := by decide +kernel
theorem dX12_unit_58 : decode cX12_unit 58 = .ok (.ireturn, 1) := by decide +kernel
theorem dX12_unit_6 : decode cX12_unit 6 = .ok (.bipush 17, 2) := by decide +kernel
theorem dX12_unit_8 : decode cX12_unit 8 = .ok (.if_icmp .lt 19, 3) := by decide +kernel
theorem dX12_use_0 : decode cX12_use 0 = .ok (.aload_n 0, 1) := by decide +kernel
theorem dX12_use_1 : decode cX12_use 1 = .ok (.getfield 98, 3) := by decide +kernel
theorem dX12_use_11 : decode cX12_use 11 = .ok (.aload_n 0, 1) := by decide +kernel
theorem dX12_use_12 : decode cX12_use 12 = .ok (.getfield 101, 3) := by decide +kernel
theorem dX12_use_15 : decode cX12_use 15 = .ok (.bipush 16, 2) := by decide +kernel
theorem dX12_use_17 : decode cX12_use 17 = .ok (.iload_n 1, 1) := by decide +kernel
theorem dX12_use_18 : decode cX12_use 18 = .ok (.imul, 1) := by decide +kernel
theorem dX12_use_19 : decode cX12_use 19 = .ok (.iload_n 2, 1) := by decide +kernel
theorem dX12_use_20 : decode cX12_use 20 = .ok (.bipush 16, 2) := by decide +kernel
theorem dX12_use_22 : decode cX12_use 22 = .ok (.if_icmp .le 8, 3) := by decide +kernel
theorem dX12_use_30 : decode cX12_use 30 = .ok (.iload_n 2, 1) := by decide +kernel
theorem dX12_use_31 : decode cX12_use 31 = .ok (.iadd, 1) := by decide +kernel
theorem dX12_use_32 : decode cX12_use 32 = .ok (.iconst 1, 1) := by decide +kernel
theorem dX12_use_33 : decode cX12_use 33 = .ok (.isub, 1) := by decide +kernel
theorem dX12_use_34 : decode cX12_use 34 = .ok (.iaload, 1) := by decide +kernel
theorem dX12_use_35 : decode cX12_use 35 = .ok (.aload_n 0, 1) := by decide +kernel
theorem dX12_use_36 : decode cX12_use 36 = .ok (.getfield 443, 3) := by decide +kernel
theorem dX12_use_39 : decode cX12_use 39 = .ok (.iconst 1, 1) := by decide +kernel
theorem dX12_use_4 : decode cX12_use 4 = .ok (.iload_n 1, 1) := by decide +kernel
theorem dX12_use_40 : decode cX12_use 40 = .ok (.iadd, 1) := by decide +kernel
theorem dX12_use_41 : decode cX12_use 41 = .ok (.if_icmp .eq 9, 3) := by decide +kernel
theorem dX12_use_44 : decode cX12_use 44 = .ok (.iload_n 2, 1) := by decide +kernel
theorem dX12_use_45 : decode cX12_use 45 = .ok (.bipush 15, 2) := by decide +kernel
theorem dX12_use_47 : decode cX12_use 47 = .ok (.if_icmp .le 4, 3) := by decide +kernel
theorem dX12_use_5 : decode cX12_use 5 = .ok (.iaload, 1) := by decide +kernel
theorem dX12_use_50 : decode cX12_use 50 = .ok (.return_, 1) := by decide +kernel
theorem dX12_use_51 : decode cX12_use 51 = .ok (.aload_n 0, 1) := by decide +kernel
theorem dX12_use_52 : decode cX12_use 52 = .ok (.getfield 101, 3) := by decide +kernel
theorem dX12_use_55 : decode cX12_use 55 = .ok (.bipush 16, 2) := by decide +kernel
theorem dX12_use_57 : decode cX12_use 57 = .ok (.iload_n 1, 1) := by decide +kernel
theorem dX12_use_58 : decode cX12_use 58 = .ok (.imul, 1) := by decide +kernel
theorem dX12_use_59 : decode cX12_use 59 = .ok (.iload_n 2, 1) := by decide +kernel
theorem dX12_use_6 : decode cX12_use 6 = .ok (.istore_n 2, 1) := by decide +kernel
theorem dX12_use_60 : decode cX12_use 60 = .ok (.iadd, 1) := by decide +kernel
theorem dX12_use_61 : decode cX12_use 61 = .ok (.aload_n 0, 1) := by decide +kernel
theorem dX12_use_62 : decode cX12_use 62 = .ok (.getfield 443, 3) := by decide +kernel
theorem dX12_use_65 : decode cX12_use 65 = .ok (.iconst 1, 1) := by decide +kernel
theorem dX12_use_66 : decode cX12_use 66 = .ok (.iadd, 1) := by decide +kernel
theorem dX12_use_67 : decode cX12_use 67 = .ok (.iastore, 1) := by decide +kernel
theorem dX12_use_68 : decode cX12_use 68 = .ok (.aload_n 0, 1) := by decide +kernel
theorem dX12_use_69 : decode cX12_use 69 = .ok (.getfield 98, 3) := by decide +kernel
theorem dX12_use_7 : decode cX12_use 7 = .ok (.iload_n 2, 1) := by decide +kernel
theorem dX12_use_72 : decode cX12_use 72 = .ok (.iload_n 1, 1) := by decide +kernel
theorem dX12_use_73 : decode cX12_use 73 = .ok (.dup2, 1) := by decide +kernel
theorem dX12_use_74 : decode cX12_use 74 = .ok (.iaload, 1) := by decide +kernel
theorem dX12_use_75 : decode cX12_use 75 = .ok (.iconst 1, 1) := by decide +kernel
theorem dX12_use_76 : decode cX12_use 76 = .ok (.iadd, 1) := by decide +kernel
theorem dX12_use_77 : decode cX12_use 77 = .ok (.iastore, 1) := by decide +kernel
theorem dX12_use_78 : decode cX12_use 78 = .ok (.return_, 1) := by decide +kernel
theorem dX12_use_8 : decode cX12_use 8 = .ok (.ifCond .le 36, 3) := by decide +kernel
theorem dX12_value_0 : decode cX12_value 0 = .ok (.iload_n 0, 1) := by decide +kernel
theorem dX12_value_1 : decode cX12_value 1 = .ok (.ldc 158, 2) := by decide +kernel
theorem dX12_value_11 : decode cX12_value 11 = .ok (.iload_n 0, 1) := by decide +kernel
theorem dX12_value_12 : decode cX12_value 12 = .ok (.ldc 159, 2) := by decide +kernel
theorem dX12_value_14 : decode cX12_value 14 = .ok (.iand, 1) := by decide +kernel
theorem dX12_value_15 : decode cX12_value 15 = .ok (.ineg, 1) := by decide +kernel
theorem dX12_value_16 : decode cX12_value 16 = .ok (.ireturn, 1) := by decide +kernel
theorem dX12_value_3 : decode cX12_value 3 = .ok (.iand, 1) := by decide +kernel
theorem dX12_value_4 : decode cX12_value 4 = .ok (.ifCond .ne 7, 3) := by decide +kernel
theorem dX12_value_7 : decode cX12_value 7 = .ok (.iload_n 0, 1) := by decide +kernel
theorem dX12_value_8 : decode cX12_value 8 = .ok (.goto 8, 3) := by decide +kernel
theorem dX12_wordOf_0 : decode cX12_wordOf 0 = .ok (.lload_n 0, 1) := by decide +kernel
theorem dX12_wordOf_1 : decode cX12_wordOf 1 = .ok (.lconst 0, 1) := by decide +kernel
theorem dX12_wordOf_10 : decode cX12_wordOf 10 = .ok (.l2i, 1) := by decide +kernel
theorem dX12_wordOf_11 : decode cX12_wordOf 11 = .ok (.ior, 1) := by decide +kernel
theorem dX12_wordOf_12 : decode cX12_wordOf 12 = .ok (.goto 5, 3) := by decide +kernel
theorem dX12_wordOf_15 : decode cX12_wordOf 15 = .ok (.lload_n 0, 1) := by decide +kernel
theorem dX12_wordOf_16 : decode cX12_wordOf 16 = .ok (.l2i, 1) := by decide +kernel
theorem dX12_wordOf_17 : decode cX12_wordOf 17 = .ok (.ireturn, 1) := by decide +kernel
theorem dX12_wordOf_2 : decode cX12_wordOf 2 = .ok (.lcmp, 1) := by decide +kernel
theorem dX12_wordOf_3 : decode cX12_wordOf 3 = .ok (.ifCond .ge 12, 3) := by decide +kernel
theorem dX12_wordOf_6 : decode cX12_wordOf 6 = .ok (.ldc 158, 2) := by decide +kernel
theorem dX12_wordOf_8 : decode cX12_wordOf 8 = .ok (.lload_n 0, 1) := by decide +kernel
theorem dX12_wordOf_9 : decode cX12_wordOf 9 = .ok (.lneg, 1) := by decide +kernel
set_option maxHeartbeats 4000000 in
set_option maxRecDepth 100000 in
theorem T_X12_end (l : Launch) (D : va_G) (K : Nat → ClassId) (ad : Nat → Nat) (t : tSt) (hok : okM t) (x1 : Int32) : uMet l yX12_end cX12_end 2 (some .boolean) (rmD 0 0 0) D K X0 [.ref (ad 0), .int x1] (WM K ad t) (QI D K (fun (r : Int32) (u : tSt) => okM u ∧ frI [(0, 0), (0, 2)] t u ∧ (0 : Int) ≤ r.toInt ∧ r.toInt ≤ 1) (fun (u : tSt) => WM K ad u)) 0 0 := by
  refine k_met RX12 ⟨rfl, by decide +kernel⟩ (Nat.le_of_ble_eq_true rfl) ?_
  intro p e s m below meth c A ls C hX hr hlocks hin hA hP hD hS hl
  have hl : lv_has ls 2 [(0, .ref (ad 0)), (1, .int x1)] := hl
  have hfr : frI [(0, 0), (0, 2)] t t := frI_rf
  refine lv_aload_n C.1 C.2.1 dX12_end_0 rfl (lv_at hl 0 rfl) ?_
  refine lv_iconst (v := 0) C.1 C.2.1 dX12_end_1 (by decide) ?_
  refine k_put (ws' := WM K ad (uI t 0 0 0)) (v := .int 0) C hP hD hS 0 rfl rfl inlX12 tyX12_ok nmX12 0 (by decide) m_9_18 rfl rfl rfl rfl rfl dX12_end_2 (fun H locs hP hD hS => ?_)
  have hok : okM (uI t 0 0 0) := ⟨okI_I hok.1 0 0 0 (show (0 : Int) ≤ (0 : Int32).toInt ∧ (0 : Int32).toInt ≤ 1 from ⟨by decide, by decide⟩), hok.2⟩
  have hfr : frI [(0, 0), (0, 2)] t (uI t 0 0 0) := frI_I hfr 0 0 _ (by decide)
  refine lv_iload_n C.1 C.2.1 dX12_end_5 rfl (lv_at hl 1 rfl) ?_
  refine lv_if_lt (tgt := 17) C.1 C.2.1 dX12_end_6 (by decide) (fun c_1 => ?_) (fun c_1 => ?_)
  · replace c_1 : x1.toInt < 0 := i_lt c_1
    refine lv_iconst (v := 0) C.1 C.2.1 dX12_end_17 (by decide) ?_
    exact g_iret C hr hlocks hP hD hS (by decide) (uI t 0 0 0) rfl ⟨hok, hfr, by decide, by decide⟩ (Nat.le_of_ble_eq_true rfl) (Nat.le_of_ble_eq_true rfl) dX12_end_18
  · replace c_1 : 0 ≤ x1.toInt := i_nlt c_1
    refine lv_iload_n C.1 C.2.1 dX12_end_9 rfl (lv_at hl 1 rfl) ?_
    refine lv_aload_n C.1 C.2.1 dX12_end_10 rfl (lv_at hl 0 rfl) ?_
    obtain ⟨v_2, e_3⟩ : ∃ z, z = (uI t 0 0 0).1 0 2 := ⟨_, rfl⟩
    have h_4 : (0 : Int) ≤ v_2.toInt ∧ v_2.toInt ≤ 8192 := by rw [e_3]; exact hok.1 0 2
    have h_5 : v_2.toInt = (t.1 0 2).toInt := congrArg Int32.toInt e_3
    refine k_get (v := .int v_2) C hP 0 rfl rfl inlX12 2 (by decide) m_9_19 (by rw [e_3]; rfl) dX12_end_11 ?_
    refine lv_icmp_le (tgt := 19) C.1 C.2.1 dX12_end_14 (by decide) (fun c_6 => ?_) (fun c_6 => ?_)
    · replace c_6 : x1.toInt ≤ v_2.toInt := i_le c_6
      refine lv_aload_n C.1 C.2.1 dX12_end_19 rfl (lv_at hl 0 rfl) ?_
      refine lv_iload_n C.1 C.2.1 dX12_end_20 rfl (lv_at hl 1 rfl) ?_
      refine k_put (ws' := WM K ad (uI (uI t 0 0 0) 0 2 x1)) (v := .int x1) C hP hD hS 0 rfl rfl inlX12 tyX12_ok nmX12 2 (by decide) m_9_19 rfl rfl rfl rfl rfl dX12_end_21 (fun H locs hP hD hS => ?_)
      have hok : okM (uI (uI t 0 0 0) 0 2 x1) := ⟨okI_I hok.1 0 2 x1 (show (0 : Int) ≤ (x1 : Int32).toInt ∧ (x1 : Int32).toInt ≤ 8192 from ⟨by omega, by omega⟩), hok.2⟩
      have hfr : frI [(0, 0), (0, 2)] t (uI (uI t 0 0 0) 0 2 x1) := frI_I hfr 0 2 _ (by decide)
      refine lv_iconst (v := 1) C.1 C.2.1 dX12_end_24 (by decide) ?_
      exact g_iret C hr hlocks hP hD hS (by decide) (uI (uI t 0 0 0) 0 2 x1) rfl ⟨hok, hfr, by decide, by decide⟩ (Nat.le_of_ble_eq_true rfl) (Nat.le_of_ble_eq_true rfl) dX12_end_25
    · replace c_6 : v_2.toInt < x1.toInt := i_nle c_6
      refine lv_iconst (v := 0) C.1 C.2.1 dX12_end_17 (by decide) ?_
      exact g_iret C hr hlocks hP hD hS (by decide) (uI t 0 0 0) rfl ⟨hok, hfr, by decide, by decide⟩ (Nat.le_of_ble_eq_true rfl) (Nat.le_of_ble_eq_true rfl) dX12_end_18

set_option maxHeartbeats 4000000 in
set_option maxRecDepth 100000 in
theorem T_X12_error (l : Launch) (D : va_G) (K : Nat → ClassId) (ad : Nat → Nat) (t : tSt) (hok : okM t)  : uMet l yX12_error cX12_error 1 (some .int) (rmD 0 0 0) D K X0 [.ref (ad 0)] (WM K ad t) (QI D K (fun (r : Int32) (u : tSt) => okM u ∧ frI [(0, 0)] t u ∧ (0 : Int) ≤ r.toInt ∧ r.toInt ≤ 8) (fun (u : tSt) => WM K ad u)) 0 0 := by
  refine k_met RX12 ⟨rfl, by decide +kernel⟩ (Nat.le_of_ble_eq_true rfl) ?_
  intro p e s m below meth c A ls C hX hr hlocks hin hA hP hD hS hl
  have hl : lv_has ls 1 [(0, .ref (ad 0))] := hl
  have hfr : frI [(0, 0)] t t := frI_rf
  refine lv_aload_n C.1 C.2.1 dX12_error_0 rfl (lv_at hl 0 rfl) ?_
  refine lv_iconst (v := 0) C.1 C.2.1 dX12_error_1 (by decide) ?_
  refine k_put (ws' := WM K ad (uI t 0 0 0)) (v := .int 0) C hP hD hS 0 rfl rfl inlX12 tyX12_ok nmX12 0 (by decide) m_9_18 rfl rfl rfl rfl rfl dX12_error_2 (fun H locs hP hD hS => ?_)
  have hok : okM (uI t 0 0 0) := ⟨okI_I hok.1 0 0 0 (show (0 : Int) ≤ (0 : Int32).toInt ∧ (0 : Int32).toInt ≤ 1 from ⟨by decide, by decide⟩), hok.2⟩
  have hfr : frI [(0, 0)] t (uI t 0 0 0) := frI_I hfr 0 0 _ (by decide)
  refine lv_aload_n C.1 C.2.1 dX12_error_5 rfl (lv_at hl 0 rfl) ?_
  obtain ⟨v_1, e_2⟩ : ∃ z, z = (uI t 0 0 0).1 0 43 := ⟨_, rfl⟩
  have h_3 : (0 : Int) ≤ v_1.toInt ∧ v_1.toInt ≤ 8 := by rw [e_2]; exact hok.1 0 43
  have h_4 : v_1.toInt = (t.1 0 43).toInt := congrArg Int32.toInt e_2
  refine k_get (v := .int v_1) C hP 0 rfl rfl inlX12 43 (by decide) m_29_14 (by rw [e_2]; rfl) dX12_error_6 ?_
  exact g_iret C hr hlocks hP hD hS rfl (uI t 0 0 0) rfl ⟨hok, hfr, by omega, by omega⟩ (Nat.le_of_ble_eq_true rfl) (Nat.le_of_ble_eq_true rfl) dX12_error_9

set_option maxHeartbeats 4000000 in
set_option maxRecDepth 100000 in
theorem T_X12_account (l : Launch) (D : va_G) (K : Nat → ClassId) (ad : Nat → Nat) (t : tSt) (hok : okM t) (x1 : Int32) (x2 : Int32) : uMet l yX12_account cX12_account 3 (some .int) (rmD 0 0 0) D K X0 [.ref (ad 0), .int x1, .int x2] (WM K ad t) (QI D K (fun (r : Int32) (u : tSt) => okM u ∧ frI [(0, 0)] t u ∧ (-2147483648 : Int) ≤ r.toInt ∧ r.toInt ≤ 2147483647) (fun (u : tSt) => WM K ad u)) 0 0 := by
  refine k_met RX12 ⟨rfl, by decide +kernel⟩ (Nat.le_of_ble_eq_true rfl) ?_
  intro p e s m below meth c A ls C hX hr hlocks hin hA hP hD hS hl
  have hl : lv_has ls 3 [(0, .ref (ad 0)), (1, .int x1), (2, .int x2)] := hl
  have hfr : frI [(0, 0)] t t := frI_rf
  refine lv_aload_n C.1 C.2.1 dX12_account_0 rfl (lv_at hl 0 rfl) ?_
  refine lv_iconst (v := 0) C.1 C.2.1 dX12_account_1 (by decide) ?_
  refine k_put (ws' := WM K ad (uI t 0 0 0)) (v := .int 0) C hP hD hS 0 rfl rfl inlX12 tyX12_ok nmX12 0 (by decide) m_9_18 rfl rfl rfl rfl rfl dX12_account_2 (fun H locs hP hD hS => ?_)
  have hok : okM (uI t 0 0 0) := ⟨okI_I hok.1 0 0 0 (show (0 : Int) ≤ (0 : Int32).toInt ∧ (0 : Int32).toInt ≤ 1 from ⟨by decide, by decide⟩), hok.2⟩
  have hfr : frI [(0, 0)] t (uI t 0 0 0) := frI_I hfr 0 0 _ (by decide)
  refine lv_iload_n C.1 C.2.1 dX12_account_5 rfl (lv_at hl 1 rfl) ?_
  refine lv_if_lt (tgt := 26) C.1 C.2.1 dX12_account_6 (by decide) (fun c_1 => ?_) (fun c_1 => ?_)
  · replace c_1 : x1.toInt < 0 := i_lt c_1
    refine lv_iconst (v := (-1)) C.1 C.2.1 dX12_account_26 (by decide) ?_
    exact g_iret C hr hlocks hP hD hS rfl (uI t 0 0 0) rfl ⟨hok, hfr, (i_rng _).1, (i_rng _).2⟩ (Nat.le_of_ble_eq_true rfl) (Nat.le_of_ble_eq_true rfl) dX12_account_27
  · replace c_1 : 0 ≤ x1.toInt := i_nlt c_1
    refine lv_iload_n C.1 C.2.1 dX12_account_9 rfl (lv_at hl 1 rfl) ?_
    refine lv_aload_n C.1 C.2.1 dX12_account_10 rfl (lv_at hl 0 rfl) ?_
    obtain ⟨v_2, e_3⟩ : ∃ z, z = (uI t 0 0 0).1 0 82 := ⟨_, rfl⟩
    have h_4 : (0 : Int) ≤ v_2.toInt ∧ v_2.toInt ≤ 512 := by rw [e_3]; exact hok.1 0 82
    have h_5 : v_2.toInt = (t.1 0 82).toInt := congrArg Int32.toInt e_3
    refine k_get (v := .int v_2) C hP 0 rfl rfl inlX12 82 (by decide) m_81_19 (by rw [e_3]; rfl) dX12_account_11 ?_
    refine lv_icmp_ge (tgt := 26) C.1 C.2.1 dX12_account_14 (by decide) (fun c_6 => ?_) (fun c_6 => ?_)
    · replace c_6 : v_2.toInt ≤ x1.toInt := i_le c_6
      refine lv_iconst (v := (-1)) C.1 C.2.1 dX12_account_26 (by decide) ?_
      exact g_iret C hr hlocks hP hD hS rfl (uI t 0 0 0) rfl ⟨hok, hfr, (i_rng _).1, (i_rng _).2⟩ (Nat.le_of_ble_eq_true rfl) (Nat.le_of_ble_eq_true rfl) dX12_account_27
    · replace c_6 : x1.toInt < v_2.toInt := i_nle c_6
      refine lv_iload_n C.1 C.2.1 dX12_account_17 rfl (lv_at hl 2 rfl) ?_
      refine lv_if_lt (tgt := 26) C.1 C.2.1 dX12_account_18 (by decide) (fun c_7 => ?_) (fun c_7 => ?_)
      · replace c_7 : x2.toInt < 0 := i_lt c_7
        refine lv_iconst (v := (-1)) C.1 C.2.1 dX12_account_26 (by decide) ?_
        exact g_iret C hr hlocks hP hD hS rfl (uI t 0 0 0) rfl ⟨hok, hfr, (i_rng _).1, (i_rng _).2⟩ (Nat.le_of_ble_eq_true rfl) (Nat.le_of_ble_eq_true rfl) dX12_account_27
      · replace c_7 : 0 ≤ x2.toInt := i_nlt c_7
        refine lv_iload_n C.1 C.2.1 dX12_account_21 rfl (lv_at hl 2 rfl) ?_
        refine lv_iconst (v := 3) C.1 C.2.1 dX12_account_22 (by decide) ?_
        refine lv_icmp_le (tgt := 28) C.1 C.2.1 dX12_account_23 (by decide) (fun c_8 => ?_) (fun c_8 => ?_)
        · replace c_8 : x2.toInt ≤ 3 := i_le c_8
          refine lv_iload_n C.1 C.2.1 dX12_account_28 rfl (lv_at hl 2 rfl) ?_
          refine lv_if_ne (tgt := 41) C.1 C.2.1 dX12_account_29 (by decide) (fun c_9 => ?_) (fun c_9 => ?_)
          · replace c_9 : ¬ x2.toInt = 0 := i_ne c_9
            refine lv_iload_n C.1 C.2.1 dX12_account_41 rfl (lv_at hl 2 rfl) ?_
            refine lv_iconst (v := 1) C.1 C.2.1 dX12_account_42 (by decide) ?_
            refine lv_icmp_ne (tgt := 55) C.1 C.2.1 dX12_account_43 (by decide) (fun c_10 => ?_) (fun c_10 => ?_)
            · replace c_10 : ¬ x2.toInt = 1 := i_ne c_10
              refine lv_iload_n C.1 C.2.1 dX12_account_55 rfl (lv_at hl 2 rfl) ?_
              refine lv_iconst (v := 2) C.1 C.2.1 dX12_account_56 (by decide) ?_
              refine lv_icmp_ne (tgt := 69) C.1 C.2.1 dX12_account_57 (by decide) (fun c_11 => ?_) (fun c_11 => ?_)
              · replace c_11 : ¬ x2.toInt = 2 := i_ne c_11
                refine lv_aload_n C.1 C.2.1 dX12_account_69 rfl (lv_at hl 0 rfl) ?_
                refine k_get (v := .ref (ad 42)) C hP 0 rfl rfl inlX12 87 (by decide) m_9_2 rfl dX12_account_70 ?_
                refine lv_iload_n C.1 C.2.1 dX12_account_73 rfl (lv_at hl 1 rfl) ?_
                obtain ⟨v_12, e_13⟩ : ∃ z, z = (uI t 0 0 0).2.2.1 42 (x1 : Int32).toNatClampNeg := ⟨_, rfl⟩
                refine k_ild (v := v_12) C hP 42 rfl (vp_in_iff.mpr ⟨by omega, by omega⟩) e_13.symm dX12_account_74 ?_
                exact g_iret C hr hlocks hP hD hS rfl (uI t 0 0 0) rfl ⟨hok, hfr, (i_rng _).1, (i_rng _).2⟩ (Nat.le_of_ble_eq_true rfl) (Nat.le_of_ble_eq_true rfl) dX12_account_75
              · replace c_11 : x2.toInt = 2 := i_eq c_11
                refine lv_aload_n C.1 C.2.1 dX12_account_60 rfl (lv_at hl 0 rfl) ?_
                refine k_get (v := .ref (ad 41)) C hP 0 rfl rfl inlX12 86 (by decide) m_9_1 rfl dX12_account_61 ?_
                refine lv_iload_n C.1 C.2.1 dX12_account_64 rfl (lv_at hl 1 rfl) ?_
                obtain ⟨v_14, e_15⟩ : ∃ z, z = (uI t 0 0 0).2.2.1 41 (x1 : Int32).toNatClampNeg := ⟨_, rfl⟩
                refine k_ild (v := v_14) C hP 41 rfl (vp_in_iff.mpr ⟨by omega, by omega⟩) e_15.symm dX12_account_65 ?_
                refine lv_goto (tgt := 75) C.1 C.2.1 dX12_account_66 (by decide) ?_
                exact g_iret C hr hlocks hP hD hS rfl (uI t 0 0 0) rfl ⟨hok, hfr, (i_rng _).1, (i_rng _).2⟩ (Nat.le_of_ble_eq_true rfl) (Nat.le_of_ble_eq_true rfl) dX12_account_75
            · replace c_10 : x2.toInt = 1 := i_eq c_10
              refine lv_aload_n C.1 C.2.1 dX12_account_46 rfl (lv_at hl 0 rfl) ?_
              refine k_get (v := .ref (ad 40)) C hP 0 rfl rfl inlX12 85 (by decide) m_9_0 rfl dX12_account_47 ?_
              refine lv_iload_n C.1 C.2.1 dX12_account_50 rfl (lv_at hl 1 rfl) ?_
              obtain ⟨v_16, e_17⟩ : ∃ z, z = (uI t 0 0 0).2.2.1 40 (x1 : Int32).toNatClampNeg := ⟨_, rfl⟩
              have h_18 : (-1 : Int) ≤ v_16.toInt ∧ v_16.toInt ≤ 9 := by rw [e_17]; exact hok.2 40 _
              refine k_ild (v := v_16) C hP 40 rfl (vp_in_iff.mpr ⟨by omega, by omega⟩) e_17.symm dX12_account_51 ?_
              refine lv_goto (tgt := 75) C.1 C.2.1 dX12_account_52 (by decide) ?_
              exact g_iret C hr hlocks hP hD hS rfl (uI t 0 0 0) rfl ⟨hok, hfr, (i_rng _).1, (i_rng _).2⟩ (Nat.le_of_ble_eq_true rfl) (Nat.le_of_ble_eq_true rfl) dX12_account_75
          · replace c_9 : x2.toInt = 0 := i_eq c_9
            refine lv_aload_n C.1 C.2.1 dX12_account_32 rfl (lv_at hl 0 rfl) ?_
            refine k_get (v := .ref (ad 39)) C hP 0 rfl rfl inlX12 84 (by decide) m_8_23 rfl dX12_account_33 ?_
            refine lv_iload_n C.1 C.2.1 dX12_account_36 rfl (lv_at hl 1 rfl) ?_
            obtain ⟨v_19, e_20⟩ : ∃ z, z = (uI t 0 0 0).2.2.1 39 (x1 : Int32).toNatClampNeg := ⟨_, rfl⟩
            have h_21 : (0 : Int) ≤ v_19.toInt ∧ v_19.toInt ≤ 4 := by rw [e_20]; exact hok.2 39 _
            refine k_ild (v := v_19) C hP 39 rfl (vp_in_iff.mpr ⟨by omega, by omega⟩) e_20.symm dX12_account_37 ?_
            refine lv_goto (tgt := 75) C.1 C.2.1 dX12_account_38 (by decide) ?_
            exact g_iret C hr hlocks hP hD hS rfl (uI t 0 0 0) rfl ⟨hok, hfr, (i_rng _).1, (i_rng _).2⟩ (Nat.le_of_ble_eq_true rfl) (Nat.le_of_ble_eq_true rfl) dX12_account_75
        · replace c_8 : 3 < x2.toInt := i_nle c_8
          refine lv_iconst (v := (-1)) C.1 C.2.1 dX12_account_26 (by decide) ?_
          exact g_iret C hr hlocks hP hD hS rfl (uI t 0 0 0) rfl ⟨hok, hfr, (i_rng _).1, (i_rng _).2⟩ (Nat.le_of_ble_eq_true rfl) (Nat.le_of_ble_eq_true rfl) dX12_account_27

set_option maxHeartbeats 4000000 in
set_option maxRecDepth 100000 in
theorem T_X12_state (l : Launch) (D : va_G) (K : Nat → ClassId) (ad : Nat → Nat) (t : tSt) (hok : okM t)  : uMet l yX12_state cX12_state 1 (some .int) (rmD 0 0 0) D K X0 [.ref (ad 0)] (WM K ad t) (QI D K (fun (r : Int32) (u : tSt) => okM u ∧ frI [(0, 0)] t u ∧ (0 : Int) ≤ r.toInt ∧ r.toInt ≤ 10) (fun (u : tSt) => WM K ad u)) 0 0 := by
  refine k_met RX12 ⟨rfl, by decide +kernel⟩ (Nat.le_of_ble_eq_true rfl) ?_
  intro p e s m below meth c A ls C hX hr hlocks hin hA hP hD hS hl
  have hl : lv_has ls 1 [(0, .ref (ad 0))] := hl
  have hfr : frI [(0, 0)] t t := frI_rf
  refine lv_aload_n C.1 C.2.1 dX12_state_0 rfl (lv_at hl 0 rfl) ?_
  refine lv_iconst (v := 0) C.1 C.2.1 dX12_state_1 (by decide) ?_
  refine k_put (ws' := WM K ad (uI t 0 0 0)) (v := .int 0) C hP hD hS 0 rfl rfl inlX12 tyX12_ok nmX12 0 (by decide) m_9_18 rfl rfl rfl rfl rfl dX12_state_2 (fun H locs hP hD hS => ?_)
  have hok : okM (uI t 0 0 0) := ⟨okI_I hok.1 0 0 0 (show (0 : Int) ≤ (0 : Int32).toInt ∧ (0 : Int32).toInt ≤ 1 from ⟨by decide, by decide⟩), hok.2⟩
  have hfr : frI [(0, 0)] t (uI t 0 0 0) := frI_I hfr 0 0 _ (by decide)
  refine lv_aload_n C.1 C.2.1 dX12_state_5 rfl (lv_at hl 0 rfl) ?_
  obtain ⟨v_1, e_2⟩ : ∃ z, z = (uI t 0 0 0).1 0 9 := ⟨_, rfl⟩
  have h_3 : (0 : Int) ≤ v_1.toInt ∧ v_1.toInt ≤ 10 := by rw [e_2]; exact hok.1 0 9
  have h_4 : v_1.toInt = (t.1 0 9).toInt := congrArg Int32.toInt e_2
  refine k_get (v := .int v_1) C hP 0 rfl rfl inlX12 9 (by decide) m_7_8 (by rw [e_2]; rfl) dX12_state_6 ?_
  exact g_iret C hr hlocks hP hD hS rfl (uI t 0 0 0) rfl ⟨hok, hfr, by omega, by omega⟩ (Nat.le_of_ble_eq_true rfl) (Nat.le_of_ble_eq_true rfl) dX12_state_9

set_option maxHeartbeats 4000000 in
set_option maxRecDepth 100000 in
theorem T_X12_time (l : Launch) (D : va_G) (K : Nat → ClassId) (ad : Nat → Nat) (t : tSt) (hok : okM t)  : uMet l yX12_time cX12_time 1 (some .long) (rmD 0 0 0) D K X0 [.ref (ad 0)] (WM K ad t) (QL D K (fun (r : Int64) (u : tSt) => okM u ∧ frI [(0, 0)] t u) (fun (u : tSt) => WM K ad u)) 0 0 := by
  refine k_met RX12 ⟨rfl, by decide +kernel⟩ (Nat.le_of_ble_eq_true rfl) ?_
  intro p e s m below meth c A ls C hX hr hlocks hin hA hP hD hS hl
  have hl : lv_has ls 1 [(0, .ref (ad 0))] := hl
  have hfr : frI [(0, 0)] t t := frI_rf
  refine lv_aload_n C.1 C.2.1 dX12_time_0 rfl (lv_at hl 0 rfl) ?_
  refine lv_iconst (v := 0) C.1 C.2.1 dX12_time_1 (by decide) ?_
  refine k_put (ws' := WM K ad (uI t 0 0 0)) (v := .int 0) C hP hD hS 0 rfl rfl inlX12 tyX12_ok nmX12 0 (by decide) m_9_18 rfl rfl rfl rfl rfl dX12_time_2 (fun H locs hP hD hS => ?_)
  have hok : okM (uI t 0 0 0) := ⟨okI_I hok.1 0 0 0 (show (0 : Int) ≤ (0 : Int32).toInt ∧ (0 : Int32).toInt ≤ 1 from ⟨by decide, by decide⟩), hok.2⟩
  have hfr : frI [(0, 0)] t (uI t 0 0 0) := frI_I hfr 0 0 _ (by decide)
  refine lv_aload_n C.1 C.2.1 dX12_time_5 rfl (lv_at hl 0 rfl) ?_
  refine k_get (v := .long ((uI t 0 0 0).2.1 0 8)) C hP 0 rfl rfl inlX12 8 (by decide) m_29_23 rfl dX12_time_6 ?_
  exact g_lret C hr hlocks hP hD hS (uI t 0 0 0) rfl ⟨hok, hfr⟩ (Nat.le_of_ble_eq_true rfl) (Nat.le_of_ble_eq_true rfl) dX12_time_9

set_option maxHeartbeats 4000000 in
set_option maxRecDepth 100000 in
theorem T_X12_letter (l : Launch) (D : va_G) (K : Nat → ClassId) (ad : Nat → Nat) (t : tSt) (hok : okM t) (x1 : Int32) (x2 : Int32) (x3 : Int32) : uMet l yX12_letter cX12_letter 5 (some .int) (rmD 0 0 0) D K X0 [.ref (ad 0), .int x1, .int x2, .int x3] (WM K ad t) (QI D K (fun (r : Int32) (u : tSt) => okM u ∧ frI [(0, 0)] t u ∧ (-3999 : Int) ≤ r.toInt ∧ r.toInt ≤ 127) (fun (u : tSt) => WM K ad u)) 0 0 := by
  refine k_met RX12 ⟨rfl, by decide +kernel⟩ (Nat.le_of_ble_eq_true rfl) ?_
  intro p e s m below meth c A ls C hX hr hlocks hin hA hP hD hS hl
  have hl : lv_has ls 5 [(0, .ref (ad 0)), (1, .int x1), (2, .int x2), (3, .int x3)] := hl
  have hfr : frI [(0, 0)] t t := frI_rf
  refine lv_aload_n C.1 C.2.1 dX12_letter_0 rfl (lv_at hl 0 rfl) ?_
  refine lv_iconst (v := 0) C.1 C.2.1 dX12_letter_1 (by decide) ?_
  refine k_put (ws' := WM K ad (uI t 0 0 0)) (v := .int 0) C hP hD hS 0 rfl rfl inlX12 tyX12_ok nmX12 0 (by decide) m_9_18 rfl rfl rfl rfl rfl dX12_letter_2 (fun H locs hP hD hS => ?_)
  have hok : okM (uI t 0 0 0) := ⟨okI_I hok.1 0 0 0 (show (0 : Int) ≤ (0 : Int32).toInt ∧ (0 : Int32).toInt ≤ 1 from ⟨by decide, by decide⟩), hok.2⟩
  have hfr : frI [(0, 0)] t (uI t 0 0 0) := frI_I hfr 0 0 _ (by decide)
  refine lv_iload_n C.1 C.2.1 dX12_letter_5 rfl (lv_at hl 1 rfl) ?_
  refine lv_bipush (v := 17) C.1 C.2.1 dX12_letter_6 (by decide) ?_
  refine lv_icmp_lt (tgt := 25) C.1 C.2.1 dX12_letter_8 (by decide) (fun c_1 => ?_) (fun c_1 => ?_)
  · replace c_1 : x1.toInt < 17 := i_lt c_1
    refine lv_iconst (v := (-1)) C.1 C.2.1 dX12_letter_25 (by decide) ?_
    exact g_iret C hr hlocks hP hD hS rfl (uI t 0 0 0) rfl ⟨hok, hfr, by decide, by decide⟩ (Nat.le_of_ble_eq_true rfl) (Nat.le_of_ble_eq_true rfl) dX12_letter_26
  · replace c_1 : 17 ≤ x1.toInt := i_nlt c_1
    refine lv_iload_n C.1 C.2.1 dX12_letter_11 rfl (lv_at hl 1 rfl) ?_
    refine lv_bipush (v := 19) C.1 C.2.1 dX12_letter_12 (by decide) ?_
    refine lv_icmp_gt (tgt := 25) C.1 C.2.1 dX12_letter_14 (by decide) (fun c_2 => ?_) (fun c_2 => ?_)
    · replace c_2 : 19 < x1.toInt := i_lt c_2
      refine lv_iconst (v := (-1)) C.1 C.2.1 dX12_letter_25 (by decide) ?_
      exact g_iret C hr hlocks hP hD hS rfl (uI t 0 0 0) rfl ⟨hok, hfr, by decide, by decide⟩ (Nat.le_of_ble_eq_true rfl) (Nat.le_of_ble_eq_true rfl) dX12_letter_26
    · replace c_2 : x1.toInt ≤ 19 := i_nlt c_2
      refine lv_iload_n C.1 C.2.1 dX12_letter_17 rfl (lv_at hl 2 rfl) ?_
      refine lv_if_lt (tgt := 25) C.1 C.2.1 dX12_letter_18 (by decide) (fun c_3 => ?_) (fun c_3 => ?_)
      · replace c_3 : x2.toInt < 0 := i_lt c_3
        refine lv_iconst (v := (-1)) C.1 C.2.1 dX12_letter_25 (by decide) ?_
        exact g_iret C hr hlocks hP hD hS rfl (uI t 0 0 0) rfl ⟨hok, hfr, by decide, by decide⟩ (Nat.le_of_ble_eq_true rfl) (Nat.le_of_ble_eq_true rfl) dX12_letter_26
      · replace c_3 : 0 ≤ x2.toInt := i_nlt c_3
        refine lv_iload_n C.1 C.2.1 dX12_letter_21 rfl (lv_at hl 3 rfl) ?_
        refine lv_if_ge (tgt := 27) C.1 C.2.1 dX12_letter_22 (by decide) (fun c_4 => ?_) (fun c_4 => ?_)
        · replace c_4 : 0 ≤ x3.toInt := i_le c_4
          refine lv_iload_n C.1 C.2.1 dX12_letter_27 rfl (lv_at hl 2 rfl) ?_
          refine lv_aload_n C.1 C.2.1 dX12_letter_28 rfl (lv_at hl 0 rfl) ?_
          refine k_get (v := .ref (ad 13)) C hP 0 rfl rfl inlX12 28 (by decide) m_7_20 rfl dX12_letter_29 ?_
          refine lv_iload_n C.1 C.2.1 dX12_letter_32 rfl (lv_at hl 1 rfl) ?_
          refine lv_bipush (v := 17) C.1 C.2.1 dX12_letter_33 (by decide) ?_
          obtain ⟨v_5, e_6⟩ : ∃ z, z = (x1 : Int32) - (17 : Int32) := ⟨_, rfl⟩
          have h_7 : v_5.toInt = x1.toInt - 17 := by rw [e_6]; exact ti_isub (by show (_ : Int) ≤ x1.toInt - 17; omega) (by show x1.toInt - 17 < (_ : Int); omega)
          refine k_isub (v := v_5) C e_6.symm dX12_letter_35 ?_
          obtain ⟨v_8, e_9⟩ : ∃ z, z = (uI t 0 0 0).2.2.1 13 (v_5 : Int32).toNatClampNeg := ⟨_, rfl⟩
          have h_10 : (0 : Int) ≤ v_8.toInt ∧ v_8.toInt ≤ 300 := by rw [e_9]; exact hok.2 13 _
          refine k_ild (v := v_8) C hP 13 rfl (vp_in_iff.mpr ⟨by omega, by omega⟩) e_9.symm dX12_letter_36 ?_
          refine lv_icmp_lt (tgt := 42) C.1 C.2.1 dX12_letter_37 (by decide) (fun c_11 => ?_) (fun c_11 => ?_)
          · replace c_11 : x2.toInt < v_8.toInt := i_lt c_11
            refine lv_sipush (v := 300) C.1 C.2.1 dX12_letter_42 (by decide) ?_
            refine lv_iload_n C.1 C.2.1 dX12_letter_45 rfl (lv_at hl 1 rfl) ?_
            refine lv_bipush (v := 17) C.1 C.2.1 dX12_letter_46 (by decide) ?_
            obtain ⟨v_12, e_13⟩ : ∃ z, z = (x1 : Int32) - (17 : Int32) := ⟨_, rfl⟩
            have h_14 : v_12.toInt = x1.toInt - 17 := by rw [e_13]; exact ti_isub (by show (_ : Int) ≤ x1.toInt - 17; omega) (by show x1.toInt - 17 < (_ : Int); omega)
            refine k_isub (v := v_12) C e_13.symm dX12_letter_48 ?_
            obtain ⟨v_15, e_16⟩ : ∃ z, z = (300 : Int32) * (v_12 : Int32) := ⟨_, rfl⟩
            have h_17 : v_15.toInt = 300 * v_12.toInt := by rw [e_16]; exact ti_mull (k := 300) (by decide) (by omega) (by omega)
            refine k_imul (v := v_15) C e_16.symm dX12_letter_49 ?_
            refine lv_iload_n C.1 C.2.1 dX12_letter_50 rfl (lv_at hl 2 rfl) ?_
            obtain ⟨v_18, e_19⟩ : ∃ z, z = (v_15 : Int32) + (x2 : Int32) := ⟨_, rfl⟩
            have h_20 : v_18.toInt = v_15.toInt + x2.toInt := by rw [e_19]; exact ti_iadd (by show (_ : Int) ≤ v_15.toInt + x2.toInt; omega) (by show v_15.toInt + x2.toInt < (_ : Int); omega)
            refine k_iadd (v := v_18) C e_19.symm dX12_letter_51 ?_
            refine lv_istore (lv' := [(4, .int v_18), (0, .ref (ad 0)), (1, .int x1), (2, .int x2), (3, .int x3)]) C.1 C.2.1 dX12_letter_52 hl (by decide) rfl (fun ls hl => ?_)
            have hl : lv_has ls 5 [(0, .ref (ad 0)), (1, .int x1), (2, .int x2), (3, .int x3), (4, .int v_18)] := lv_sub hl [1, 2, 3, 4, 0] rfl
            refine lv_iload_n C.1 C.2.1 dX12_letter_54 rfl (lv_at hl 3 rfl) ?_
            refine lv_aload_n C.1 C.2.1 dX12_letter_55 rfl (lv_at hl 0 rfl) ?_
            refine k_get (v := .ref (ad 12)) C hP 0 rfl rfl inlX12 27 (by decide) m_7_19 rfl dX12_letter_56 ?_
            refine lv_iload C.1 C.2.1 dX12_letter_59 (lv_at hl 4 rfl) ?_
            obtain ⟨v_21, e_22⟩ : ∃ z, z = (uI t 0 0 0).2.2.1 12 (v_18 : Int32).toNatClampNeg := ⟨_, rfl⟩
            have h_23 : (0 : Int) ≤ v_21.toInt ∧ v_21.toInt ≤ 120 := by rw [e_22]; exact hok.2 12 _
            refine k_ild (v := v_21) C hP 12 rfl (vp_in_iff.mpr ⟨by omega, by omega⟩) e_22.symm dX12_letter_61 ?_
            refine lv_icmp_ge (tgt := 80) C.1 C.2.1 dX12_letter_62 (by decide) (fun c_24 => ?_) (fun c_24 => ?_)
            · replace c_24 : v_21.toInt ≤ x3.toInt := i_le c_24
              refine lv_iconst (v := (-1)) C.1 C.2.1 dX12_letter_80 (by decide) ?_
              exact g_iret C hr hlocks hP hD hS rfl (uI t 0 0 0) rfl ⟨hok, hfr, by decide, by decide⟩ (Nat.le_of_ble_eq_true rfl) (Nat.le_of_ble_eq_true rfl) dX12_letter_81
            · replace c_24 : x3.toInt < v_21.toInt := i_nle c_24
              refine lv_aload_n C.1 C.2.1 dX12_letter_65 rfl (lv_at hl 0 rfl) ?_
              refine k_get (v := .ref (ad 11)) C hP 0 rfl rfl inlX12 26 (by decide) m_7_18 rfl dX12_letter_66 ?_
              refine lv_bipush (v := 120) C.1 C.2.1 dX12_letter_69 (by decide) ?_
              refine lv_iload C.1 C.2.1 dX12_letter_71 (lv_at hl 4 rfl) ?_
              obtain ⟨v_25, e_26⟩ : ∃ z, z = (120 : Int32) * (v_18 : Int32) := ⟨_, rfl⟩
              have h_27 : v_25.toInt = 120 * v_18.toInt := by rw [e_26]; exact ti_mull (k := 120) (by decide) (by omega) (by omega)
              refine k_imul (v := v_25) C e_26.symm dX12_letter_73 ?_
              refine lv_iload_n C.1 C.2.1 dX12_letter_74 rfl (lv_at hl 3 rfl) ?_
              obtain ⟨v_28, e_29⟩ : ∃ z, z = (v_25 : Int32) + (x3 : Int32) := ⟨_, rfl⟩
              have h_30 : v_28.toInt = v_25.toInt + x3.toInt := by rw [e_29]; exact ti_iadd (by show (_ : Int) ≤ v_25.toInt + x3.toInt; omega) (by show v_25.toInt + x3.toInt < (_ : Int); omega)
              refine k_iadd (v := v_28) C e_29.symm dX12_letter_75 ?_
              obtain ⟨v_31, e_32⟩ : ∃ z, z = (uI t 0 0 0).2.2.1 11 (v_28 : Int32).toNatClampNeg := ⟨_, rfl⟩
              have h_33 : (-3999 : Int) ≤ v_31.toInt ∧ v_31.toInt ≤ 127 := by rw [e_32]; exact hok.2 11 _
              refine k_bld (v := v_31) C hP 11 rfl (vp_in_iff.mpr ⟨by omega, by omega⟩) e_32.symm dX12_letter_76 ?_
              refine lv_goto (tgt := 81) C.1 C.2.1 dX12_letter_77 (by decide) ?_
              exact g_iret C hr hlocks hP hD hS rfl (uI t 0 0 0) rfl ⟨hok, hfr, by omega, by omega⟩ (Nat.le_of_ble_eq_true rfl) (Nat.le_of_ble_eq_true rfl) dX12_letter_81
          · replace c_11 : v_8.toInt ≤ x2.toInt := i_nlt c_11
            refine lv_iconst (v := (-1)) C.1 C.2.1 dX12_letter_40 (by decide) ?_
            exact g_iret C hr hlocks hP hD hS rfl (uI t 0 0 0) rfl ⟨hok, hfr, by decide, by decide⟩ (Nat.le_of_ble_eq_true rfl) (Nat.le_of_ble_eq_true rfl) dX12_letter_41
        · replace c_4 : x3.toInt < 0 := i_nle c_4
          refine lv_iconst (v := (-1)) C.1 C.2.1 dX12_letter_25 (by decide) ?_
          exact g_iret C hr hlocks hP hD hS rfl (uI t 0 0 0) rfl ⟨hok, hfr, by decide, by decide⟩ (Nat.le_of_ble_eq_true rfl) (Nat.le_of_ble_eq_true rfl) dX12_letter_26

set_option maxHeartbeats 4000000 in
set_option maxRecDepth 100000 in
theorem T_X12_tear (l : Launch) (D : va_G) (K : Nat → ClassId) (ad : Nat → Nat) (t : tSt) (hok : okM t)  : uMet l yX12_tear cX12_tear 2 none (rmD 0 0 0) D K X0 [.ref (ad 0)] (WM K ad t) (QV D K (fun (u : tSt) => okM u ∧ frI [(0, 0)] t u) (fun (u : tSt) => WM K ad u)) 0 0 := by
  refine k_met RX12 ⟨rfl, by decide +kernel⟩ (Nat.le_of_ble_eq_true rfl) ?_
  intro p e s m below meth c A ls C hX hr hlocks hin hA hP hD hS hl
  have hl : lv_has ls 2 [(0, .ref (ad 0))] := hl
  have hfr : frI [(0, 0)] t t := frI_rf
  have L_7 : ∀ (fuel_7 : Nat) (t1 : tSt) (w7_1 : Int32) (H : Heap) (locs : List Loc) (ls : Array Slot), okM t1 → frI [(0, 0)] t t1 → (0 : Int) ≤ w7_1.toInt ∧ w7_1.toInt ≤ 3 → (0 : Int) ≤ (t1.1 0 0).toInt ∧ (t1.1 0 0).toInt ≤ 0 → (3 : Int) - w7_1.toInt < (fuel_7 : Int) → va_P D vwCl (WM K ad t1) H → va_D A (WM K ad t1) → va_S A s.heap H locs → lv_has ls 2 [(0, .ref (ad 0)), (1, .int w7_1)] → W p l e (rmD 0 0 0) s m [.ref (ad 0)].toArray below meth c H locs 0 0 (MQ below (QV D K (fun (u : tSt) => okM u ∧ frI [(0, 0)] t u) (fun (u : tSt) => WM K ad u) A) [.ref (ad 0)].toArray s 0 0 A) (F0 m 7 ls []) := by
    intro fuel_7
    induction fuel_7 with
    | zero =>
      intro t1 w7_1 H locs ls hok hfr hw7_1 hf7_0 hm7_7 hP hD hS hl
      exact absurd hm7_7 (by omega)
    | succ fuel_7 ih_7 =>
      intro t1 w7_1 H locs ls hok hfr hw7_1 hf7_0 hm7_7 hP hD hS hl
      have hm7_7 : (3 : Int) - w7_1.toInt < (fuel_7 : Int) + 1 := by omega
      refine lv_iload_n C.1 C.2.1 dX12_tear_7 rfl (lv_at hl 1 rfl) ?_
      refine lv_iconst (v := 3) C.1 C.2.1 dX12_tear_8 (by decide) ?_
      refine lv_icmp_ge (tgt := 25) C.1 C.2.1 dX12_tear_9 (by decide) (fun c_1 => ?_) (fun c_1 => ?_)
      · replace c_1 : 3 ≤ w7_1.toInt := i_le c_1
        exact g_vret C hr hlocks hP hD hS t1 rfl ⟨hok, hfr⟩ (Nat.le_of_ble_eq_true rfl) (Nat.le_of_ble_eq_true rfl) dX12_tear_25
      · replace c_1 : w7_1.toInt < 3 := i_nle c_1
        refine lv_aload_n C.1 C.2.1 dX12_tear_12 rfl (lv_at hl 0 rfl) ?_
        refine k_get (v := .ref (ad 13)) C hP 0 rfl rfl inlX12 28 (by decide) m_7_20 rfl dX12_tear_13 ?_
        refine lv_iload_n C.1 C.2.1 dX12_tear_16 rfl (lv_at hl 1 rfl) ?_
        refine lv_iconst (v := 0) C.1 C.2.1 dX12_tear_17 (by decide) ?_
        refine k_ist (ws' := WM K ad (uB t1 13 (w7_1 : Int32).toNatClampNeg 0)) (x' := 0) C hP hD hS 13 rfl (vp_in_iff.mpr ⟨by omega, by omega⟩) rfl rfl rfl dX12_tear_18 (fun H locs hP hD hS => ?_)
        have hok : okM (uB t1 13 (w7_1 : Int32).toNatClampNeg 0) := ⟨hok.1, okB_B hok.2 13 _ 0 (show (0 : Int) ≤ (0 : Int32).toInt ∧ (0 : Int32).toInt ≤ 300 from ⟨by decide, by decide⟩)⟩
        have hfr : frI [(0, 0)] t (uB t1 13 (w7_1 : Int32).toNatClampNeg 0) := hfr
        obtain ⟨v_2, e_3⟩ : ∃ z, z = w7_1 + 1 := ⟨_, rfl⟩
        have h_4 : v_2.toInt = w7_1.toInt + 1 := by rw [e_3]; exact ti_iadd (by show (_ : Int) ≤ w7_1.toInt + 1; omega) (by show w7_1.toInt + 1 < (_ : Int); omega)
        refine lv_iinc (v := v_2) (lv' := [(1, .int v_2), (0, .ref (ad 0))]) C.1 C.2.1 dX12_tear_19 hl (k := 1) rfl e_3.symm (by decide) rfl (fun ls hl => ?_)
        have hl : lv_has ls 2 [(0, .ref (ad 0)), (1, .int v_2)] := lv_sub hl [1, 0] rfl
        refine lv_goto (tgt := 7) C.1 C.2.1 dX12_tear_22 (by decide) ?_
        exact ih_7 (uB t1 13 (w7_1 : Int32).toNatClampNeg 0) v_2 _ _ _ hok hfr ⟨by omega, by omega⟩ (show (0 : Int) ≤ ((t1.1 0 0) : Int32).toInt ∧ ((t1.1 0 0) : Int32).toInt ≤ 0 from ⟨by omega, by omega⟩) (show (3 : Int) - v_2.toInt < (fuel_7 : Int) from by omega) hP hD hS (lv_sub hl [0, 1] rfl)
  refine lv_aload_n C.1 C.2.1 dX12_tear_0 rfl (lv_at hl 0 rfl) ?_
  refine lv_iconst (v := 0) C.1 C.2.1 dX12_tear_1 (by decide) ?_
  refine k_put (ws' := WM K ad (uI t 0 0 0)) (v := .int 0) C hP hD hS 0 rfl rfl inlX12 tyX12_ok nmX12 0 (by decide) m_9_18 rfl rfl rfl rfl rfl dX12_tear_2 (fun H locs hP hD hS => ?_)
  have hok : okM (uI t 0 0 0) := ⟨okI_I hok.1 0 0 0 (show (0 : Int) ≤ (0 : Int32).toInt ∧ (0 : Int32).toInt ≤ 1 from ⟨by decide, by decide⟩), hok.2⟩
  have hfr : frI [(0, 0)] t (uI t 0 0 0) := frI_I hfr 0 0 _ (by decide)
  refine lv_iconst (v := 0) C.1 C.2.1 dX12_tear_5 (by decide) ?_
  refine lv_istore_n (lv' := [(1, .int 0), (0, .ref (ad 0))]) C.1 C.2.1 dX12_tear_6 rfl hl (by decide) rfl (fun ls hl => ?_)
  have hl : lv_has ls 2 [(0, .ref (ad 0)), (1, .int 0)] := lv_sub hl [1, 0] rfl
  exact L_7 4 (uI t 0 0 0) 0 _ _ _ hok hfr ⟨by decide, by decide⟩ (show (0 : Int) ≤ (0 : Int32).toInt ∧ (0 : Int32).toInt ≤ 0 from ⟨by decide, by decide⟩) (show (3 : Int) - 0 < ((4 : Nat) : Int) from by omega) hP hD hS (lv_sub hl [0, 1] rfl)

set_option maxHeartbeats 4000000 in
set_option maxRecDepth 100000 in
theorem T_X12_copyText (l : Launch) (D : va_G) (K : Nat → ClassId) (ad : Nat → Nat) (t : tSt) (hok : okM t) (x2 : Int32) (hx2 : (0 : Int) ≤ x2.toInt ∧ x2.toInt ≤ 8192) : uMet l yX12_copyText cX12_copyText 4 none (rmD 0 0 0) D K X0 [.ref (ad 0), .ref (ad 1), .int x2] (WM K ad t) (QV D K (fun (u : tSt) => okM u ∧ frI [(0, 38)] t u) (fun (u : tSt) => WM K ad u)) 0 0 := by
  refine k_met RX12 ⟨rfl, by decide +kernel⟩ (Nat.le_of_ble_eq_true rfl) ?_
  intro p e s m below meth c A ls C hX hr hlocks hin hA hP hD hS hl
  have hl : lv_has ls 4 [(0, .ref (ad 0)), (1, .ref (ad 1)), (2, .int x2)] := hl
  have hfr : frI [(0, 38)] t t := frI_rf
  have L_2 : ∀ (fuel_2 : Nat) (t1 : tSt) (w2_2 : Int32) (w2_3 : Int32) (H : Heap) (locs : List Loc) (ls : Array Slot), okM t1 → frI [(0, 38)] t t1 → (0 : Int) ≤ w2_2.toInt ∧ w2_2.toInt ≤ 8192 → (0 : Int) ≤ w2_3.toInt ∧ w2_3.toInt ≤ 8192 → (8192 : Int) - w2_3.toInt < (fuel_2 : Int) → va_P D vwCl (WM K ad t1) H → va_D A (WM K ad t1) → va_S A s.heap H locs → lv_has ls 4 [(0, .ref (ad 0)), (1, .ref (ad 1)), (2, .int w2_2), (3, .int w2_3)] → W p l e (rmD 0 0 0) s m [.ref (ad 0), .ref (ad 1), .int x2].toArray below meth c H locs 0 0 (MQ below (QV D K (fun (u : tSt) => okM u ∧ frI [(0, 38)] t u) (fun (u : tSt) => WM K ad u) A) [.ref (ad 0), .ref (ad 1), .int x2].toArray s 0 0 A) (F0 m 2 ls []) := by
    intro fuel_2
    induction fuel_2 with
    | zero =>
      intro t1 w2_2 w2_3 H locs ls hok hfr hw2_2 hw2_3 hm2_2 hP hD hS hl
      exact absurd hm2_2 (by omega)
    | succ fuel_2 ih_2 =>
      intro t1 w2_2 w2_3 H locs ls hok hfr hw2_2 hw2_3 hm2_2 hP hD hS hl
      have hm2_2 : (8192 : Int) - w2_3.toInt < (fuel_2 : Int) + 1 := by omega
      refine lv_iload_n C.1 C.2.1 dX12_copyText_2 rfl (lv_at hl 3 rfl) ?_
      refine lv_iload_n C.1 C.2.1 dX12_copyText_3 rfl (lv_at hl 2 rfl) ?_
      refine lv_icmp_ge (tgt := 22) C.1 C.2.1 dX12_copyText_4 (by decide) (fun c_1 => ?_) (fun c_1 => ?_)
      · replace c_1 : w2_2.toInt ≤ w2_3.toInt := i_le c_1
        refine lv_aload_n C.1 C.2.1 dX12_copyText_22 rfl (lv_at hl 0 rfl) ?_
        refine lv_iload_n C.1 C.2.1 dX12_copyText_23 rfl (lv_at hl 2 rfl) ?_
        refine k_put (ws' := WM K ad (uI t1 0 38 w2_2)) (v := .int w2_2) C hP hD hS 0 rfl rfl inlX12 tyX12_ok nmX12 38 (by decide) m_29_6 rfl rfl rfl rfl rfl dX12_copyText_24 (fun H locs hP hD hS => ?_)
        have hok : okM (uI t1 0 38 w2_2) := ⟨okI_I hok.1 0 38 w2_2 (show (0 : Int) ≤ (w2_2 : Int32).toInt ∧ (w2_2 : Int32).toInt ≤ 8192 from ⟨by omega, by omega⟩), hok.2⟩
        have hfr : frI [(0, 38)] t (uI t1 0 38 w2_2) := frI_I hfr 0 38 _ (by decide)
        exact g_vret C hr hlocks hP hD hS (uI t1 0 38 w2_2) rfl ⟨hok, hfr⟩ (Nat.le_of_ble_eq_true rfl) (Nat.le_of_ble_eq_true rfl) dX12_copyText_27
      · replace c_1 : w2_3.toInt < w2_2.toInt := i_nle c_1
        refine lv_aload_n C.1 C.2.1 dX12_copyText_7 rfl (lv_at hl 0 rfl) ?_
        refine k_get (v := .ref (ad 18)) C hP 0 rfl rfl inlX12 37 (by decide) m_8_2 rfl dX12_copyText_8 ?_
        refine lv_iload_n C.1 C.2.1 dX12_copyText_11 rfl (lv_at hl 3 rfl) ?_
        refine lv_aload_n C.1 C.2.1 dX12_copyText_12 rfl (lv_at hl 1 rfl) ?_
        refine lv_iload_n C.1 C.2.1 dX12_copyText_13 rfl (lv_at hl 3 rfl) ?_
        obtain ⟨v_2, e_3⟩ : ∃ z, z = t1.2.2.1 1 (w2_3 : Int32).toNatClampNeg := ⟨_, rfl⟩
        have h_4 : (-3999 : Int) ≤ v_2.toInt ∧ v_2.toInt ≤ 127 := by rw [e_3]; exact hok.2 1 _
        refine k_bld (v := v_2) C hP 1 rfl (vp_in_iff.mpr ⟨by omega, by omega⟩) e_3.symm dX12_copyText_14 ?_
        obtain ⟨v_5, e_6⟩ : ∃ z, z = vp_nar .byte v_2 := ⟨_, rfl⟩
        have h_7 : (-128 : Int) ≤ v_5.toInt ∧ v_5.toInt ≤ 127 := by rw [e_6]; exact nar_byte _
        refine k_bst (ws' := WM K ad (uB t1 18 (w2_3 : Int32).toNatClampNeg v_5)) (x' := v_5) C hP hD hS 18 rfl (vp_in_iff.mpr ⟨by omega, by omega⟩) rfl e_6.symm rfl dX12_copyText_15 (fun H locs hP hD hS => ?_)
        have hok : okM (uB t1 18 (w2_3 : Int32).toNatClampNeg v_5) := ⟨hok.1, okB_B hok.2 18 _ v_5 (show (-3999 : Int) ≤ (v_5 : Int32).toInt ∧ (v_5 : Int32).toInt ≤ 127 from ⟨by omega, by omega⟩)⟩
        have hfr : frI [(0, 38)] t (uB t1 18 (w2_3 : Int32).toNatClampNeg v_5) := hfr
        obtain ⟨v_8, e_9⟩ : ∃ z, z = w2_3 + 1 := ⟨_, rfl⟩
        have h_10 : v_8.toInt = w2_3.toInt + 1 := by rw [e_9]; exact ti_iadd (by show (_ : Int) ≤ w2_3.toInt + 1; omega) (by show w2_3.toInt + 1 < (_ : Int); omega)
        refine lv_iinc (v := v_8) (lv' := [(3, .int v_8), (0, .ref (ad 0)), (1, .ref (ad 1)), (2, .int w2_2)]) C.1 C.2.1 dX12_copyText_16 hl (k := 3) rfl e_9.symm (by decide) rfl (fun ls hl => ?_)
        have hl : lv_has ls 4 [(0, .ref (ad 0)), (1, .ref (ad 1)), (2, .int w2_2), (3, .int v_8)] := lv_sub hl [1, 2, 3, 0] rfl
        refine lv_goto (tgt := 2) C.1 C.2.1 dX12_copyText_19 (by decide) ?_
        exact ih_2 (uB t1 18 (w2_3 : Int32).toNatClampNeg v_5) w2_2 v_8 _ _ _ hok hfr ⟨by omega, by omega⟩ ⟨by omega, by omega⟩ (show (8192 : Int) - v_8.toInt < (fuel_2 : Int) from by omega) hP hD hS (lv_sub hl [0, 1, 2, 3] rfl)
  refine lv_iconst (v := 0) C.1 C.2.1 dX12_copyText_0 (by decide) ?_
  refine lv_istore_n (lv' := [(3, .int 0), (0, .ref (ad 0)), (1, .ref (ad 1)), (2, .int x2)]) C.1 C.2.1 dX12_copyText_1 rfl hl (by decide) rfl (fun ls hl => ?_)
  have hl : lv_has ls 4 [(0, .ref (ad 0)), (1, .ref (ad 1)), (2, .int x2), (3, .int 0)] := lv_sub hl [1, 2, 3, 0] rfl
  exact L_2 8193 t x2 0 _ _ _ hok hfr ⟨by omega, by omega⟩ ⟨by decide, by decide⟩ (show (8192 : Int) - 0 < ((8193 : Nat) : Int) from by omega) hP hD hS (lv_sub hl [0, 1, 2, 3] rfl)

set_option maxHeartbeats 4000000 in
set_option maxRecDepth 100000 in
theorem T_X12_cardsLeft (l : Launch) (D : va_G) (K : Nat → ClassId) (ad : Nat → Nat) (t : tSt) (hok : okM t)  : uMet l yX12_cardsLeft cX12_cardsLeft 1 (some .int) (rmD 0 0 0) D K X0 [.ref (ad 0)] (WM K ad t) (QI D K (fun (r : Int32) (u : tSt) => okM u ∧ frI [] t u ∧ (-1073741824 : Int) ≤ r.toInt ∧ r.toInt ≤ 2147483647) (fun (u : tSt) => WM K ad u)) 0 0 := by
  refine k_met RX12 ⟨rfl, by decide +kernel⟩ (Nat.le_of_ble_eq_true rfl) ?_
  intro p e s m below meth c A ls C hX hr hlocks hin hA hP hD hS hl
  have hl : lv_has ls 1 [(0, .ref (ad 0))] := hl
  have hfr : frI [] t t := frI_rf
  refine lv_aload_n C.1 C.2.1 dX12_cardsLeft_0 rfl (lv_at hl 0 rfl) ?_
  obtain ⟨v_1, e_2⟩ : ∃ z, z = t.1 0 36 := ⟨_, rfl⟩
  have h_3 : (0 : Int) ≤ v_1.toInt ∧ v_1.toInt ≤ 8600 := by rw [e_2]; exact hok.1 0 36
  have h_4 : v_1.toInt = (t.1 0 36).toInt := congrArg Int32.toInt e_2
  refine k_get (v := .int v_1) C hP 0 rfl rfl inlX12 36 (by decide) m_44_16 (by rw [e_2]; rfl) dX12_cardsLeft_1 ?_
  refine lv_aload_n C.1 C.2.1 dX12_cardsLeft_4 rfl (lv_at hl 0 rfl) ?_
  obtain ⟨v_5, e_6⟩ : ∃ z, z = t.1 0 35 := ⟨_, rfl⟩
  have h_7 : (0 : Int) ≤ v_5.toInt ∧ v_5.toInt ≤ 8600 := by rw [e_6]; exact hok.1 0 35
  have h_8 : v_5.toInt = (t.1 0 35).toInt := congrArg Int32.toInt e_6
  refine k_get (v := .int v_5) C hP 0 rfl rfl inlX12 35 (by decide) m_44_17 (by rw [e_6]; rfl) dX12_cardsLeft_5 ?_
  obtain ⟨v_9, e_10⟩ : ∃ z, z = (v_1 : Int32) - (v_5 : Int32) := ⟨_, rfl⟩
  have h_11 : v_9.toInt = v_1.toInt - v_5.toInt := by rw [e_10]; exact ti_isub (by show (_ : Int) ≤ v_1.toInt - v_5.toInt; omega) (by show v_1.toInt - v_5.toInt < (_ : Int); omega)
  refine k_isub (v := v_9) C e_10.symm dX12_cardsLeft_8 ?_
  exact g_iret C hr hlocks hP hD hS rfl t rfl ⟨hok, hfr, by omega, by omega⟩ (Nat.le_of_ble_eq_true rfl) (Nat.le_of_ble_eq_true rfl) dX12_cardsLeft_9

set_option maxHeartbeats 4000000 in
set_option maxRecDepth 100000 in
theorem T_X12_isAddress (l : Launch) (D : va_G) (K : Nat → ClassId) (ad : Nat → Nat) (t : tSt) (hok : okM t) (x0 : Int32) : uMet l yX12_isAddress cX12_isAddress 1 (some .boolean) (rmD 0 0 0) D K X0 [.int x0] (WM K ad t) (QI D K (fun (r : Int32) (u : tSt) => okM u ∧ frI [] t u ∧ (0 : Int) ≤ r.toInt ∧ r.toInt ≤ 1) (fun (u : tSt) => WM K ad u)) 0 0 := by
  refine k_met RX12 ⟨rfl, by decide +kernel⟩ (Nat.le_of_ble_eq_true rfl) ?_
  intro p e s m below meth c A ls C hX hr hlocks hin hA hP hD hS hl
  have hl : lv_has ls 1 [(0, .int x0)] := hl
  have hfr : frI [] t t := frI_rf
  refine lv_iload_n C.1 C.2.1 dX12_isAddress_0 rfl (lv_at hl 0 rfl) ?_
  refine lv_sipush (v := (-3999)) C.1 C.2.1 dX12_isAddress_1 (by decide) ?_
  refine lv_icmp_lt (tgt := 18) C.1 C.2.1 dX12_isAddress_4 (by decide) (fun c_1 => ?_) (fun c_1 => ?_)
  · replace c_1 : x0.toInt < (-3999) := i_lt c_1
    refine lv_iconst (v := 0) C.1 C.2.1 dX12_isAddress_18 (by decide) ?_
    exact g_iret C hr hlocks hP hD hS (by decide) t rfl ⟨hok, hfr, by decide, by decide⟩ (Nat.le_of_ble_eq_true rfl) (Nat.le_of_ble_eq_true rfl) dX12_isAddress_19
  · replace c_1 : (-3999) ≤ x0.toInt := i_nlt c_1
    refine lv_iload_n C.1 C.2.1 dX12_isAddress_7 rfl (lv_at hl 0 rfl) ?_
    refine lv_sipush (v := 3999) C.1 C.2.1 dX12_isAddress_8 (by decide) ?_
    refine lv_icmp_gt (tgt := 18) C.1 C.2.1 dX12_isAddress_11 (by decide) (fun c_2 => ?_) (fun c_2 => ?_)
    · replace c_2 : 3999 < x0.toInt := i_lt c_2
      refine lv_iconst (v := 0) C.1 C.2.1 dX12_isAddress_18 (by decide) ?_
      exact g_iret C hr hlocks hP hD hS (by decide) t rfl ⟨hok, hfr, by decide, by decide⟩ (Nat.le_of_ble_eq_true rfl) (Nat.le_of_ble_eq_true rfl) dX12_isAddress_19
    · replace c_2 : x0.toInt ≤ 3999 := i_nlt c_2
      refine lv_iconst (v := 1) C.1 C.2.1 dX12_isAddress_14 (by decide) ?_
      refine lv_goto (tgt := 19) C.1 C.2.1 dX12_isAddress_15 (by decide) ?_
      exact g_iret C hr hlocks hP hD hS (by decide) t rfl ⟨hok, hfr, by decide, by decide⟩ (Nat.le_of_ble_eq_true rfl) (Nat.le_of_ble_eq_true rfl) dX12_isAddress_19

set_option maxHeartbeats 4000000 in
set_option maxRecDepth 100000 in
theorem T_X12_value (l : Launch) (D : va_G) (K : Nat → ClassId) (ad : Nat → Nat) (t : tSt) (hok : okM t) (x0 : Int32) : uMet l yX12_value cX12_value 1 (some .int) (rmD 0 0 0) D K X0 [.int x0] (WM K ad t) (QI D K (fun (r : Int32) (u : tSt) => okM u ∧ frI [] t u ∧ (-2147483648 : Int) ≤ r.toInt ∧ r.toInt ≤ 2147483647) (fun (u : tSt) => WM K ad u)) 0 0 := by
  refine k_met RX12 ⟨rfl, by decide +kernel⟩ (Nat.le_of_ble_eq_true rfl) ?_
  intro p e s m below meth c A ls C hX hr hlocks hin hA hP hD hS hl
  have hl : lv_has ls 1 [(0, .int x0)] := hl
  have hfr : frI [] t t := frI_rf
  refine lv_iload_n C.1 C.2.1 dX12_value_0 rfl (lv_at hl 0 rfl) ?_
  refine lv_ldc (v := 1073741824) C.1 C.2.1 C.2.2.2.1 (C.2.2.2.2.1 _ m_34_19) dX12_value_1 ?_
  obtain ⟨v_1, e_2⟩ : ∃ z, z = (x0 : Int32) &&& (1073741824 : Int32) := ⟨_, rfl⟩
  refine k_iand (v := v_1) C e_2.symm dX12_value_3 ?_
  refine lv_if_ne (tgt := 11) C.1 C.2.1 dX12_value_4 (by decide) (fun c_4 => ?_) (fun c_4 => ?_)
  · replace c_4 : ¬ v_1.toInt = 0 := i_ne c_4
    refine lv_iload_n C.1 C.2.1 dX12_value_11 rfl (lv_at hl 0 rfl) ?_
    refine lv_ldc (v := 1073741823) C.1 C.2.1 C.2.2.2.1 (C.2.2.2.2.1 _ m_36_12) dX12_value_12 ?_
    obtain ⟨v_5, e_6⟩ : ∃ z, z = (x0 : Int32) &&& (1073741823 : Int32) := ⟨_, rfl⟩
    have h_7 : v_5.toInt = x0.toInt % 2 ^ 30 := by rw [e_6]; exact Jvm.Kit.i32_mask _ _ (k := 30) (by decide) (by decide)
    refine k_iand (v := v_5) C e_6.symm dX12_value_14 ?_
    obtain ⟨v_8, e_9⟩ : ∃ z, z = -(v_5 : Int32) := ⟨_, rfl⟩
    refine k_ineg (v := v_8) C e_9.symm dX12_value_15 ?_
    exact g_iret C hr hlocks hP hD hS rfl t rfl ⟨hok, hfr, (i_rng _).1, (i_rng _).2⟩ (Nat.le_of_ble_eq_true rfl) (Nat.le_of_ble_eq_true rfl) dX12_value_16
  · replace c_4 : v_1.toInt = 0 := i_eq c_4
    refine lv_iload_n C.1 C.2.1 dX12_value_7 rfl (lv_at hl 0 rfl) ?_
    refine lv_goto (tgt := 16) C.1 C.2.1 dX12_value_8 (by decide) ?_
    exact g_iret C hr hlocks hP hD hS rfl t rfl ⟨hok, hfr, (i_rng _).1, (i_rng _).2⟩ (Nat.le_of_ble_eq_true rfl) (Nat.le_of_ble_eq_true rfl) dX12_value_16

set_option maxHeartbeats 4000000 in
set_option maxRecDepth 100000 in
theorem T_X12_lineEnd (l : Launch) (D : va_G) (K : Nat → ClassId) (ad : Nat → Nat) (t : tSt) (hok : okM t) (x1 : Int32) (hx1 : (0 : Int) ≤ x1.toInt ∧ x1.toInt ≤ 8191) (x2 : Int32) (hx2 : (1 : Int) ≤ x2.toInt ∧ x2.toInt ≤ 8192) : uMet l yX12_lineEnd cX12_lineEnd 4 (some .int) (rmD 0 0 0) D K X0 [.ref (ad 1), .int x1, .int x2] (WM K ad t) (QI D K (fun (r : Int32) (u : tSt) => okM u ∧ frI [] t u ∧ (0 : Int) ≤ r.toInt ∧ r.toInt ≤ 8192) (fun (u : tSt) => WM K ad u)) 0 0 := by
  refine k_met RX12 ⟨rfl, by decide +kernel⟩ (Nat.le_of_ble_eq_true rfl) ?_
  intro p e s m below meth c A ls C hX hr hlocks hin hA hP hD hS hl
  have hl : lv_has ls 4 [(0, .ref (ad 1)), (1, .int x1), (2, .int x2)] := hl
  have hfr : frI [] t t := frI_rf
  have L_2 : ∀ (fuel_2 : Nat) (t1 : tSt) (w2_1 : Int32) (w2_2 : Int32) (w2_3 : Int32) (H : Heap) (locs : List Loc) (ls : Array Slot), okM t1 → frI [] t t1 → (0 : Int) ≤ w2_1.toInt ∧ w2_1.toInt ≤ 8191 → (1 : Int) ≤ w2_2.toInt ∧ w2_2.toInt ≤ 8192 → (0 : Int) ≤ w2_3.toInt ∧ w2_3.toInt ≤ 8192 → (8192 : Int) - w2_3.toInt < (fuel_2 : Int) → va_P D vwCl (WM K ad t1) H → va_D A (WM K ad t1) → va_S A s.heap H locs → lv_has ls 4 [(0, .ref (ad 1)), (1, .int w2_1), (2, .int w2_2), (3, .int w2_3)] → W p l e (rmD 0 0 0) s m [.ref (ad 1), .int x1, .int x2].toArray below meth c H locs 0 0 (MQ below (QI D K (fun (r : Int32) (u : tSt) => okM u ∧ frI [] t u ∧ (0 : Int) ≤ r.toInt ∧ r.toInt ≤ 8192) (fun (u : tSt) => WM K ad u) A) [.ref (ad 1), .int x1, .int x2].toArray s 0 0 A) (F0 m 2 ls []) := by
    intro fuel_2
    induction fuel_2 with
    | zero =>
      intro t1 w2_1 w2_2 w2_3 H locs ls hok hfr hw2_1 hw2_2 hw2_3 hm2_2 hP hD hS hl
      exact absurd hm2_2 (by omega)
    | succ fuel_2 ih_2 =>
      intro t1 w2_1 w2_2 w2_3 H locs ls hok hfr hw2_1 hw2_2 hw2_3 hm2_2 hP hD hS hl
      have hm2_2 : (8192 : Int) - w2_3.toInt < (fuel_2 : Int) + 1 := by omega
      refine lv_iload_n C.1 C.2.1 dX12_lineEnd_2 rfl (lv_at hl 3 rfl) ?_
      refine lv_iload_n C.1 C.2.1 dX12_lineEnd_3 rfl (lv_at hl 2 rfl) ?_
      refine lv_icmp_ge (tgt := 21) C.1 C.2.1 dX12_lineEnd_4 (by decide) (fun c_1 => ?_) (fun c_1 => ?_)
      · replace c_1 : w2_2.toInt ≤ w2_3.toInt := i_le c_1
        refine lv_iload_n C.1 C.2.1 dX12_lineEnd_21 rfl (lv_at hl 3 rfl) ?_
        exact g_iret C hr hlocks hP hD hS rfl t1 rfl ⟨hok, hfr, by omega, by omega⟩ (Nat.le_of_ble_eq_true rfl) (Nat.le_of_ble_eq_true rfl) dX12_lineEnd_22
      · replace c_1 : w2_3.toInt < w2_2.toInt := i_nle c_1
        refine lv_aload_n C.1 C.2.1 dX12_lineEnd_7 rfl (lv_at hl 0 rfl) ?_
        refine lv_iload_n C.1 C.2.1 dX12_lineEnd_8 rfl (lv_at hl 3 rfl) ?_
        obtain ⟨v_2, e_3⟩ : ∃ z, z = t1.2.2.1 1 (w2_3 : Int32).toNatClampNeg := ⟨_, rfl⟩
        have h_4 : (-3999 : Int) ≤ v_2.toInt ∧ v_2.toInt ≤ 127 := by rw [e_3]; exact hok.2 1 _
        refine k_bld (v := v_2) C hP 1 rfl (vp_in_iff.mpr ⟨by omega, by omega⟩) e_3.symm dX12_lineEnd_9 ?_
        refine lv_bipush (v := 10) C.1 C.2.1 dX12_lineEnd_10 (by decide) ?_
        refine lv_icmp_eq (tgt := 21) C.1 C.2.1 dX12_lineEnd_12 (by decide) (fun c_5 => ?_) (fun c_5 => ?_)
        · replace c_5 : v_2.toInt = 10 := i_eq c_5
          refine lv_iload_n C.1 C.2.1 dX12_lineEnd_21 rfl (lv_at hl 3 rfl) ?_
          exact g_iret C hr hlocks hP hD hS rfl t1 rfl ⟨hok, hfr, by omega, by omega⟩ (Nat.le_of_ble_eq_true rfl) (Nat.le_of_ble_eq_true rfl) dX12_lineEnd_22
        · replace c_5 : ¬ v_2.toInt = 10 := i_ne c_5
          obtain ⟨v_6, e_7⟩ : ∃ z, z = w2_3 + 1 := ⟨_, rfl⟩
          have h_8 : v_6.toInt = w2_3.toInt + 1 := by rw [e_7]; exact ti_iadd (by show (_ : Int) ≤ w2_3.toInt + 1; omega) (by show w2_3.toInt + 1 < (_ : Int); omega)
          refine lv_iinc (v := v_6) (lv' := [(3, .int v_6), (0, .ref (ad 1)), (1, .int w2_1), (2, .int w2_2)]) C.1 C.2.1 dX12_lineEnd_15 hl (k := 3) rfl e_7.symm (by decide) rfl (fun ls hl => ?_)
          have hl : lv_has ls 4 [(0, .ref (ad 1)), (1, .int w2_1), (2, .int w2_2), (3, .int v_6)] := lv_sub hl [1, 2, 3, 0] rfl
          refine lv_goto (tgt := 2) C.1 C.2.1 dX12_lineEnd_18 (by decide) ?_
          exact ih_2 t1 w2_1 w2_2 v_6 _ _ _ hok hfr ⟨by omega, by omega⟩ ⟨by omega, by omega⟩ ⟨by omega, by omega⟩ (show (8192 : Int) - v_6.toInt < (fuel_2 : Int) from by omega) hP hD hS (lv_sub hl [0, 1, 2, 3] rfl)
  refine lv_iload_n C.1 C.2.1 dX12_lineEnd_0 rfl (lv_at hl 1 rfl) ?_
  refine lv_istore_n (lv' := [(3, .int x1), (0, .ref (ad 1)), (1, .int x1), (2, .int x2)]) C.1 C.2.1 dX12_lineEnd_1 rfl hl (by decide) rfl (fun ls hl => ?_)
  have hl : lv_has ls 4 [(0, .ref (ad 1)), (1, .int x1), (2, .int x2), (3, .int x1)] := lv_sub hl [1, 2, 3, 0] rfl
  exact L_2 8193 t x1 x2 x1 _ _ _ hok hfr ⟨by omega, by omega⟩ ⟨by omega, by omega⟩ ⟨by omega, by omega⟩ (show (8192 : Int) - x1.toInt < ((8193 : Nat) : Int) from by omega) hP hD hS (lv_sub hl [0, 1, 2, 3] rfl)

set_option maxHeartbeats 4000000 in
set_option maxRecDepth 100000 in
theorem T_X12_memoryAt (l : Launch) (D : va_G) (K : Nat → ClassId) (ad : Nat → Nat) (t : tSt) (hok : okM t) (x1 : Int32) (hx1 : (-3999 : Int) ≤ x1.toInt ∧ x1.toInt ≤ 3999) : uMet l yX12_memoryAt cX12_memoryAt 2 (some .int) (rmD 0 0 0) D K X0 [.ref (ad 0), .int x1] (WM K ad t) (QI D K (fun (r : Int32) (u : tSt) => okM u ∧ frI [] t u ∧ (-2147483648 : Int) ≤ r.toInt ∧ r.toInt ≤ 2147483647) (fun (u : tSt) => WM K ad u)) 0 0 := by
  refine k_met RX12 ⟨rfl, by decide +kernel⟩ (Nat.le_of_ble_eq_true rfl) ?_
  intro p e s m below meth c A ls C hX hr hlocks hin hA hP hD hS hl
  have hl : lv_has ls 2 [(0, .ref (ad 0)), (1, .int x1)] := hl
  have hfr : frI [] t t := frI_rf
  refine lv_aload_n C.1 C.2.1 dX12_memoryAt_0 rfl (lv_at hl 0 rfl) ?_
  refine k_get (v := .ref (ad 2)) C hP 0 rfl rfl inlX12 3 (by decide) m_7_5 rfl dX12_memoryAt_1 ?_
  refine lv_iload_n C.1 C.2.1 dX12_memoryAt_4 rfl (lv_at hl 1 rfl) ?_
  refine lv_sipush (v := (-3999)) C.1 C.2.1 dX12_memoryAt_5 (by decide) ?_
  obtain ⟨v_1, e_2⟩ : ∃ z, z = (x1 : Int32) - ((-3999) : Int32) := ⟨_, rfl⟩
  have h_3 : v_1.toInt = x1.toInt - (-3999) := by rw [e_2]; exact ti_isub (by show (_ : Int) ≤ x1.toInt - (-3999); omega) (by show x1.toInt - (-3999) < (_ : Int); omega)
  refine k_isub (v := v_1) C e_2.symm dX12_memoryAt_8 ?_
  obtain ⟨v_4, e_5⟩ : ∃ z, z = t.2.2.1 2 (v_1 : Int32).toNatClampNeg := ⟨_, rfl⟩
  refine k_ild (v := v_4) C hP 2 rfl (vp_in_iff.mpr ⟨by omega, by omega⟩) e_5.symm dX12_memoryAt_9 ?_
  exact g_iret C hr hlocks hP hD hS rfl t rfl ⟨hok, hfr, (i_rng _).1, (i_rng _).2⟩ (Nat.le_of_ble_eq_true rfl) (Nat.le_of_ble_eq_true rfl) dX12_memoryAt_10

set_option maxHeartbeats 4000000 in
set_option maxRecDepth 100000 in
theorem T_X12_isGreat (l : Launch) (D : va_G) (K : Nat → ClassId) (ad : Nat → Nat) (t : tSt) (hok : okM t) (x0 : Int32) (hx0 : (0 : Int) ≤ x0.toInt ∧ x0.toInt ≤ 255) : uMet l yX12_isGreat cX12_isGreat 1 (some .boolean) (rmD 0 0 0) D K X0 [.int x0] (WM K ad t) (QI D K (fun (r : Int32) (u : tSt) => okM u ∧ frI [] t u ∧ (0 : Int) ≤ r.toInt ∧ r.toInt ≤ 1) (fun (u : tSt) => WM K ad u)) 0 0 := by
  refine k_met RX12 ⟨rfl, by decide +kernel⟩ (Nat.le_of_ble_eq_true rfl) ?_
  intro p e s m below meth c A ls C hX hr hlocks hin hA hP hD hS hl
  have hl : lv_has ls 1 [(0, .int x0)] := hl
  have hfr : frI [] t t := frI_rf
  refine lv_iload_n C.1 C.2.1 dX12_isGreat_0 rfl (lv_at hl 0 rfl) ?_
  refine lv_bipush (v := 65) C.1 C.2.1 dX12_isGreat_1 (by decide) ?_
  refine lv_icmp_lt (tgt := 16) C.1 C.2.1 dX12_isGreat_3 (by decide) (fun c_1 => ?_) (fun c_1 => ?_)
  · replace c_1 : x0.toInt < 65 := i_lt c_1
    refine lv_iconst (v := 0) C.1 C.2.1 dX12_isGreat_16 (by decide) ?_
    exact g_iret C hr hlocks hP hD hS (by decide) t rfl ⟨hok, hfr, by decide, by decide⟩ (Nat.le_of_ble_eq_true rfl) (Nat.le_of_ble_eq_true rfl) dX12_isGreat_17
  · replace c_1 : 65 ≤ x0.toInt := i_nlt c_1
    refine lv_iload_n C.1 C.2.1 dX12_isGreat_6 rfl (lv_at hl 0 rfl) ?_
    refine lv_bipush (v := 90) C.1 C.2.1 dX12_isGreat_7 (by decide) ?_
    refine lv_icmp_gt (tgt := 16) C.1 C.2.1 dX12_isGreat_9 (by decide) (fun c_2 => ?_) (fun c_2 => ?_)
    · replace c_2 : 90 < x0.toInt := i_lt c_2
      refine lv_iconst (v := 0) C.1 C.2.1 dX12_isGreat_16 (by decide) ?_
      exact g_iret C hr hlocks hP hD hS (by decide) t rfl ⟨hok, hfr, by decide, by decide⟩ (Nat.le_of_ble_eq_true rfl) (Nat.le_of_ble_eq_true rfl) dX12_isGreat_17
    · replace c_2 : x0.toInt ≤ 90 := i_nlt c_2
      refine lv_iconst (v := 1) C.1 C.2.1 dX12_isGreat_12 (by decide) ?_
      refine lv_goto (tgt := 17) C.1 C.2.1 dX12_isGreat_13 (by decide) ?_
      exact g_iret C hr hlocks hP hD hS (by decide) t rfl ⟨hok, hfr, by decide, by decide⟩ (Nat.le_of_ble_eq_true rfl) (Nat.le_of_ble_eq_true rfl) dX12_isGreat_17

set_option maxHeartbeats 4000000 in
set_option maxRecDepth 100000 in
theorem T_X12_isDigit (l : Launch) (D : va_G) (K : Nat → ClassId) (ad : Nat → Nat) (t : tSt) (hok : okM t) (x0 : Int32) (hx0 : (0 : Int) ≤ x0.toInt ∧ x0.toInt ≤ 255) : uMet l yX12_isDigit cX12_isDigit 1 (some .boolean) (rmD 0 0 0) D K X0 [.int x0] (WM K ad t) (QI D K (fun (r : Int32) (u : tSt) => okM u ∧ frI [] t u ∧ (0 : Int) ≤ r.toInt ∧ r.toInt ≤ 1) (fun (u : tSt) => WM K ad u)) 0 0 := by
  refine k_met RX12 ⟨rfl, by decide +kernel⟩ (Nat.le_of_ble_eq_true rfl) ?_
  intro p e s m below meth c A ls C hX hr hlocks hin hA hP hD hS hl
  have hl : lv_has ls 1 [(0, .int x0)] := hl
  have hfr : frI [] t t := frI_rf
  refine lv_iload_n C.1 C.2.1 dX12_isDigit_0 rfl (lv_at hl 0 rfl) ?_
  refine lv_bipush (v := 48) C.1 C.2.1 dX12_isDigit_1 (by decide) ?_
  refine lv_icmp_lt (tgt := 16) C.1 C.2.1 dX12_isDigit_3 (by decide) (fun c_1 => ?_) (fun c_1 => ?_)
  · replace c_1 : x0.toInt < 48 := i_lt c_1
    refine lv_iconst (v := 0) C.1 C.2.1 dX12_isDigit_16 (by decide) ?_
    exact g_iret C hr hlocks hP hD hS (by decide) t rfl ⟨hok, hfr, by decide, by decide⟩ (Nat.le_of_ble_eq_true rfl) (Nat.le_of_ble_eq_true rfl) dX12_isDigit_17
  · replace c_1 : 48 ≤ x0.toInt := i_nlt c_1
    refine lv_iload_n C.1 C.2.1 dX12_isDigit_6 rfl (lv_at hl 0 rfl) ?_
    refine lv_bipush (v := 57) C.1 C.2.1 dX12_isDigit_7 (by decide) ?_
    refine lv_icmp_gt (tgt := 16) C.1 C.2.1 dX12_isDigit_9 (by decide) (fun c_2 => ?_) (fun c_2 => ?_)
    · replace c_2 : 57 < x0.toInt := i_lt c_2
      refine lv_iconst (v := 0) C.1 C.2.1 dX12_isDigit_16 (by decide) ?_
      exact g_iret C hr hlocks hP hD hS (by decide) t rfl ⟨hok, hfr, by decide, by decide⟩ (Nat.le_of_ble_eq_true rfl) (Nat.le_of_ble_eq_true rfl) dX12_isDigit_17
    · replace c_2 : x0.toInt ≤ 57 := i_nlt c_2
      refine lv_iconst (v := 1) C.1 C.2.1 dX12_isDigit_12 (by decide) ?_
      refine lv_goto (tgt := 17) C.1 C.2.1 dX12_isDigit_13 (by decide) ?_
      exact g_iret C hr hlocks hP hD hS (by decide) t rfl ⟨hok, hfr, by decide, by decide⟩ (Nat.le_of_ble_eq_true rfl) (Nat.le_of_ble_eq_true rfl) dX12_isDigit_17

set_option maxHeartbeats 4000000 in
set_option maxRecDepth 100000 in
theorem T_X12_signOf (l : Launch) (D : va_G) (K : Nat → ClassId) (ad : Nat → Nat) (t : tSt) (hok : okM t) (x0 : Int32) (hx0 : (0 : Int) ≤ x0.toInt ∧ x0.toInt ≤ 255) : uMet l yX12_signOf cX12_signOf 1 (some .int) (rmD 1 0 0) D K X0 [.int x0] (WM K ad t) (QI D K (fun (r : Int32) (u : tSt) => okM u ∧ frI [] t u ∧ (-54 : Int) ≤ r.toInt ∧ r.toInt ≤ 208) (fun (u : tSt) => WM K ad u)) 0 0 := by
  refine k_met RX12 ⟨rfl, by decide +kernel⟩ (Nat.le_of_ble_eq_true rfl) ?_
  intro p e s m below meth c A ls C hX hr hlocks hin hA hP hD hS hl
  have hl : lv_has ls 1 [(0, .int x0)] := hl
  have hfr : frI [] t t := frI_rf
  refine lv_iload_n C.1 C.2.1 dX12_signOf_0 rfl (lv_at hl 0 rfl) ?_
  refine g_Si (As := [.int x0]) (rest := []) C hP hD hS hA (T_X12_isDigit l D K ad t hok (x0) (show (0 : Int) ≤ (x0 : Int32).toInt ∧ (x0 : Int32).toInt ≤ 255 from ⟨by omega, by omega⟩)) X0_ok trivial (uwS m_32_15 m_32_16 m_1_5 m_32_17) (hdS 1 (by decide +kernel) rfl) ⟨Nat.le_of_ble_eq_true rfl, Nat.le_of_ble_eq_true rfl⟩ rfl rfl rfl hl.1 (Nat.le_of_ble_eq_true rfl) dX12_signOf_1 ⟨Nat.le_of_ble_eq_true rfl, Nat.le_of_ble_eq_true rfl⟩ (fun r_2 t_1 H locs hw hP hD hS => ?_)
  obtain ⟨hok, f_3, h_4, h_5⟩ := hw
  have hfr : frI [] t t_1 := frI_tr (m1 := []) hfr f_3 (by decide)
  refine lv_if_eq (tgt := 16) C.1 C.2.1 dX12_signOf_4 (by decide) (fun c_6 => ?_) (fun c_6 => ?_)
  · replace c_6 : r_2.toInt = 0 := i_eq c_6
    refine lv_iload_n C.1 C.2.1 dX12_signOf_16 rfl (lv_at hl 0 rfl) ?_
    refine lv_bipush (v := 65) C.1 C.2.1 dX12_signOf_17 (by decide) ?_
    obtain ⟨v_7, e_8⟩ : ∃ z, z = (x0 : Int32) - (65 : Int32) := ⟨_, rfl⟩
    have h_9 : v_7.toInt = x0.toInt - 65 := by rw [e_8]; exact ti_isub (by show (_ : Int) ≤ x0.toInt - 65; omega) (by show x0.toInt - 65 < (_ : Int); omega)
    refine k_isub (v := v_7) C e_8.symm dX12_signOf_19 ?_
    refine lv_bipush (v := 11) C.1 C.2.1 dX12_signOf_20 (by decide) ?_
    obtain ⟨v_10, e_11⟩ : ∃ z, z = (v_7 : Int32) + (11 : Int32) := ⟨_, rfl⟩
    have h_12 : v_10.toInt = v_7.toInt + 11 := by rw [e_11]; exact ti_iadd (by show (_ : Int) ≤ v_7.toInt + 11; omega) (by show v_7.toInt + 11 < (_ : Int); omega)
    refine k_iadd (v := v_10) C e_11.symm dX12_signOf_22 ?_
    exact g_iret C hr hlocks hP hD hS rfl t_1 rfl ⟨hok, hfr, by omega, by omega⟩ (Nat.le_of_ble_eq_true rfl) (Nat.le_of_ble_eq_true rfl) dX12_signOf_23
  · replace c_6 : ¬ r_2.toInt = 0 := i_ne c_6
    refine lv_iload_n C.1 C.2.1 dX12_signOf_7 rfl (lv_at hl 0 rfl) ?_
    refine lv_bipush (v := 48) C.1 C.2.1 dX12_signOf_8 (by decide) ?_
    obtain ⟨v_13, e_14⟩ : ∃ z, z = (x0 : Int32) - (48 : Int32) := ⟨_, rfl⟩
    have h_15 : v_13.toInt = x0.toInt - 48 := by rw [e_14]; exact ti_isub (by show (_ : Int) ≤ x0.toInt - 48; omega) (by show x0.toInt - 48 < (_ : Int); omega)
    refine k_isub (v := v_13) C e_14.symm dX12_signOf_10 ?_
    refine lv_iconst (v := 1) C.1 C.2.1 dX12_signOf_11 (by decide) ?_
    obtain ⟨v_16, e_17⟩ : ∃ z, z = (v_13 : Int32) + (1 : Int32) := ⟨_, rfl⟩
    have h_18 : v_16.toInt = v_13.toInt + 1 := by rw [e_17]; exact ti_iadd (by show (_ : Int) ≤ v_13.toInt + 1; omega) (by show v_13.toInt + 1 < (_ : Int); omega)
    refine k_iadd (v := v_16) C e_17.symm dX12_signOf_12 ?_
    refine lv_goto (tgt := 23) C.1 C.2.1 dX12_signOf_13 (by decide) ?_
    exact g_iret C hr hlocks hP hD hS rfl t_1 rfl ⟨hok, hfr, by omega, by omega⟩ (Nat.le_of_ble_eq_true rfl) (Nat.le_of_ble_eq_true rfl) dX12_signOf_23

set_option maxHeartbeats 4000000 in
set_option maxRecDepth 100000 in
theorem T_X12_clearMemory (l : Launch) (D : va_G) (K : Nat → ClassId) (ad : Nat → Nat) (t : tSt) (hok : okM t)  : uMet l yX12_clearMemory cX12_clearMemory 2 none (rmD 0 0 0) D K X0 [.ref (ad 0)] (WM K ad t) (QV D K (fun (u : tSt) => okM u ∧ frI [] t u) (fun (u : tSt) => WM K ad u)) 0 0 := by
  refine k_met RX12 ⟨rfl, by decide +kernel⟩ (Nat.le_of_ble_eq_true rfl) ?_
  intro p e s m below meth c A ls C hX hr hlocks hin hA hP hD hS hl
  have hl : lv_has ls 2 [(0, .ref (ad 0))] := hl
  have hfr : frI [] t t := frI_rf
  have L_2 : ∀ (fuel_2 : Nat) (t1 : tSt) (w2_1 : Int32) (H : Heap) (locs : List Loc) (ls : Array Slot), okM t1 → frI [] t t1 → (0 : Int) ≤ w2_1.toInt ∧ w2_1.toInt ≤ 7999 → (7999 : Int) - w2_1.toInt < (fuel_2 : Int) → va_P D vwCl (WM K ad t1) H → va_D A (WM K ad t1) → va_S A s.heap H locs → lv_has ls 2 [(0, .ref (ad 0)), (1, .int w2_1)] → W p l e (rmD 0 0 0) s m [.ref (ad 0)].toArray below meth c H locs 0 0 (MQ below (QV D K (fun (u : tSt) => okM u ∧ frI [] t u) (fun (u : tSt) => WM K ad u) A) [.ref (ad 0)].toArray s 0 0 A) (F0 m 2 ls []) := by
    intro fuel_2
    induction fuel_2 with
    | zero =>
      intro t1 w2_1 H locs ls hok hfr hw2_1 hm2_2 hP hD hS hl
      exact absurd hm2_2 (by omega)
    | succ fuel_2 ih_2 =>
      intro t1 w2_1 H locs ls hok hfr hw2_1 hm2_2 hP hD hS hl
      have hm2_2 : (7999 : Int) - w2_1.toInt < (fuel_2 : Int) + 1 := by omega
      refine lv_iload_n C.1 C.2.1 dX12_clearMemory_2 rfl (lv_at hl 1 rfl) ?_
      refine lv_sipush (v := 7999) C.1 C.2.1 dX12_clearMemory_3 (by decide) ?_
      refine lv_icmp_ge (tgt := 22) C.1 C.2.1 dX12_clearMemory_6 (by decide) (fun c_1 => ?_) (fun c_1 => ?_)
      · replace c_1 : 7999 ≤ w2_1.toInt := i_le c_1
        exact g_vret C hr hlocks hP hD hS t1 rfl ⟨hok, hfr⟩ (Nat.le_of_ble_eq_true rfl) (Nat.le_of_ble_eq_true rfl) dX12_clearMemory_22
      · replace c_1 : w2_1.toInt < 7999 := i_nle c_1
        refine lv_aload_n C.1 C.2.1 dX12_clearMemory_9 rfl (lv_at hl 0 rfl) ?_
        refine k_get (v := .ref (ad 2)) C hP 0 rfl rfl inlX12 3 (by decide) m_7_5 rfl dX12_clearMemory_10 ?_
        refine lv_iload_n C.1 C.2.1 dX12_clearMemory_13 rfl (lv_at hl 1 rfl) ?_
        refine lv_iconst (v := 0) C.1 C.2.1 dX12_clearMemory_14 (by decide) ?_
        refine k_ist (ws' := WM K ad (uB t1 2 (w2_1 : Int32).toNatClampNeg 0)) (x' := 0) C hP hD hS 2 rfl (vp_in_iff.mpr ⟨by omega, by omega⟩) rfl rfl rfl dX12_clearMemory_15 (fun H locs hP hD hS => ?_)
        have hok : okM (uB t1 2 (w2_1 : Int32).toNatClampNeg 0) := ⟨hok.1, okB_B hok.2 2 _ 0 (show (-2147483648 : Int) ≤ (0 : Int32).toInt ∧ (0 : Int32).toInt ≤ 2147483647 from (i_rng _))⟩
        have hfr : frI [] t (uB t1 2 (w2_1 : Int32).toNatClampNeg 0) := hfr
        obtain ⟨v_2, e_3⟩ : ∃ z, z = w2_1 + 1 := ⟨_, rfl⟩
        have h_4 : v_2.toInt = w2_1.toInt + 1 := by rw [e_3]; exact ti_iadd (by show (_ : Int) ≤ w2_1.toInt + 1; omega) (by show w2_1.toInt + 1 < (_ : Int); omega)
        refine lv_iinc (v := v_2) (lv' := [(1, .int v_2), (0, .ref (ad 0))]) C.1 C.2.1 dX12_clearMemory_16 hl (k := 1) rfl e_3.symm (by decide) rfl (fun ls hl => ?_)
        have hl : lv_has ls 2 [(0, .ref (ad 0)), (1, .int v_2)] := lv_sub hl [1, 0] rfl
        refine lv_goto (tgt := 2) C.1 C.2.1 dX12_clearMemory_19 (by decide) ?_
        exact ih_2 (uB t1 2 (w2_1 : Int32).toNatClampNeg 0) v_2 _ _ _ hok hfr ⟨by omega, by omega⟩ (show (7999 : Int) - v_2.toInt < (fuel_2 : Int) from by omega) hP hD hS (lv_sub hl [0, 1] rfl)
  refine lv_iconst (v := 0) C.1 C.2.1 dX12_clearMemory_0 (by decide) ?_
  refine lv_istore_n (lv' := [(1, .int 0), (0, .ref (ad 0))]) C.1 C.2.1 dX12_clearMemory_1 rfl hl (by decide) rfl (fun ls hl => ?_)
  have hl : lv_has ls 2 [(0, .ref (ad 0)), (1, .int 0)] := lv_sub hl [1, 0] rfl
  exact L_2 8000 t 0 _ _ _ hok hfr ⟨by decide, by decide⟩ (show (7999 : Int) - 0 < ((8000 : Nat) : Int) from by omega) hP hD hS (lv_sub hl [0, 1] rfl)

set_option maxHeartbeats 4000000 in
set_option maxRecDepth 100000 in
theorem T_X12_freeUnits (l : Launch) (D : va_G) (K : Nat → ClassId) (ad : Nat → Nat) (t : tSt) (hok : okM t)  : uMet l yX12_freeUnits cX12_freeUnits 2 none (rmD 0 0 0) D K X0 [.ref (ad 0)] (WM K ad t) (QV D K (fun (u : tSt) => okM u ∧ frI [] t u) (fun (u : tSt) => WM K ad u)) 0 0 := by
  refine k_met RX12 ⟨rfl, by decide +kernel⟩ (Nat.le_of_ble_eq_true rfl) ?_
  intro p e s m below meth c A ls C hX hr hlocks hin hA hP hD hS hl
  have hl : lv_has ls 2 [(0, .ref (ad 0))] := hl
  have hfr : frI [] t t := frI_rf
  have L_2 : ∀ (fuel_2 : Nat) (t1 : tSt) (w2_1 : Int32) (H : Heap) (locs : List Loc) (ls : Array Slot), okM t1 → frI [] t t1 → (0 : Int) ≤ w2_1.toInt ∧ w2_1.toInt ≤ 20 → (20 : Int) - w2_1.toInt < (fuel_2 : Int) → va_P D vwCl (WM K ad t1) H → va_D A (WM K ad t1) → va_S A s.heap H locs → lv_has ls 2 [(0, .ref (ad 0)), (1, .int w2_1)] → W p l e (rmD 0 0 0) s m [.ref (ad 0)].toArray below meth c H locs 0 0 (MQ below (QV D K (fun (u : tSt) => okM u ∧ frI [] t u) (fun (u : tSt) => WM K ad u) A) [.ref (ad 0)].toArray s 0 0 A) (F0 m 2 ls []) := by
    intro fuel_2
    induction fuel_2 with
    | zero =>
      intro t1 w2_1 H locs ls hok hfr hw2_1 hm2_2 hP hD hS hl
      exact absurd hm2_2 (by omega)
    | succ fuel_2 ih_2 =>
      intro t1 w2_1 H locs ls hok hfr hw2_1 hm2_2 hP hD hS hl
      have hm2_2 : (20 : Int) - w2_1.toInt < (fuel_2 : Int) + 1 := by omega
      refine lv_iload_n C.1 C.2.1 dX12_freeUnits_2 rfl (lv_at hl 1 rfl) ?_
      refine lv_bipush (v := 20) C.1 C.2.1 dX12_freeUnits_3 (by decide) ?_
      refine lv_icmp_ge (tgt := 28) C.1 C.2.1 dX12_freeUnits_5 (by decide) (fun c_1 => ?_) (fun c_1 => ?_)
      · replace c_1 : 20 ≤ w2_1.toInt := i_le c_1
        exact g_vret C hr hlocks hP hD hS t1 rfl ⟨hok, hfr⟩ (Nat.le_of_ble_eq_true rfl) (Nat.le_of_ble_eq_true rfl) dX12_freeUnits_28
      · replace c_1 : w2_1.toInt < 20 := i_nle c_1
        refine lv_aload_n C.1 C.2.1 dX12_freeUnits_8 rfl (lv_at hl 0 rfl) ?_
        refine k_get (v := .ref (ad 4)) C hP 0 rfl rfl inlX12 19 (by decide) m_7_9 rfl dX12_freeUnits_9 ?_
        refine lv_iload_n C.1 C.2.1 dX12_freeUnits_12 rfl (lv_at hl 1 rfl) ?_
        refine lv_lconst (v := 0) C.1 C.2.1 dX12_freeUnits_13 (by decide) ?_
        refine k_lst (ws' := WM K ad (uG t1 4 (w2_1 : Int32).toNatClampNeg 0)) (x' := 0) C hP hD hS 4 rfl (vp_in_iff.mpr ⟨by omega, by omega⟩) rfl rfl rfl dX12_freeUnits_14 (fun H locs hP hD hS => ?_)
        have hok : okM (uG t1 4 (w2_1 : Int32).toNatClampNeg 0) := hok
        have hfr : frI [] t (uG t1 4 (w2_1 : Int32).toNatClampNeg 0) := hfr
        refine lv_aload_n C.1 C.2.1 dX12_freeUnits_15 rfl (lv_at hl 0 rfl) ?_
        refine k_get (v := .ref (ad 5)) C hP 0 rfl rfl inlX12 20 (by decide) m_7_10 rfl dX12_freeUnits_16 ?_
        refine lv_iload_n C.1 C.2.1 dX12_freeUnits_19 rfl (lv_at hl 1 rfl) ?_
        refine lv_iconst (v := 0) C.1 C.2.1 dX12_freeUnits_20 (by decide) ?_
        obtain ⟨v_2, e_3⟩ : ∃ z, z = vp_nar .boolean 0 := ⟨_, rfl⟩
        have h_4 : (0 : Int) ≤ v_2.toInt ∧ v_2.toInt ≤ 1 := by rw [e_3]; exact nar_boolean _
        refine k_zst (ws' := WM K ad (uB (uG t1 4 (w2_1 : Int32).toNatClampNeg 0) 5 (w2_1 : Int32).toNatClampNeg v_2)) (x' := v_2) C hP hD hS 5 rfl (vp_in_iff.mpr ⟨by omega, by omega⟩) rfl e_3.symm rfl dX12_freeUnits_21 (fun H locs hP hD hS => ?_)
        have hok : okM (uB (uG t1 4 (w2_1 : Int32).toNatClampNeg 0) 5 (w2_1 : Int32).toNatClampNeg v_2) := ⟨hok.1, okB_B hok.2 5 _ v_2 (show (0 : Int) ≤ (v_2 : Int32).toInt ∧ (v_2 : Int32).toInt ≤ 1 from ⟨by omega, by omega⟩)⟩
        have hfr : frI [] t (uB (uG t1 4 (w2_1 : Int32).toNatClampNeg 0) 5 (w2_1 : Int32).toNatClampNeg v_2) := hfr
        obtain ⟨v_5, e_6⟩ : ∃ z, z = w2_1 + 1 := ⟨_, rfl⟩
        have h_7 : v_5.toInt = w2_1.toInt + 1 := by rw [e_6]; exact ti_iadd (by show (_ : Int) ≤ w2_1.toInt + 1; omega) (by show w2_1.toInt + 1 < (_ : Int); omega)
        refine lv_iinc (v := v_5) (lv' := [(1, .int v_5), (0, .ref (ad 0))]) C.1 C.2.1 dX12_freeUnits_22 hl (k := 1) rfl e_6.symm (by decide) rfl (fun ls hl => ?_)
        have hl : lv_has ls 2 [(0, .ref (ad 0)), (1, .int v_5)] := lv_sub hl [1, 0] rfl
        refine lv_goto (tgt := 2) C.1 C.2.1 dX12_freeUnits_25 (by decide) ?_
        exact ih_2 (uB (uG t1 4 (w2_1 : Int32).toNatClampNeg 0) 5 (w2_1 : Int32).toNatClampNeg v_2) v_5 _ _ _ hok hfr ⟨by omega, by omega⟩ (show (20 : Int) - v_5.toInt < (fuel_2 : Int) from by omega) hP hD hS (lv_sub hl [0, 1] rfl)
  refine lv_iconst (v := 0) C.1 C.2.1 dX12_freeUnits_0 (by decide) ?_
  refine lv_istore_n (lv' := [(1, .int 0), (0, .ref (ad 0))]) C.1 C.2.1 dX12_freeUnits_1 rfl hl (by decide) rfl (fun ls hl => ?_)
  have hl : lv_has ls 2 [(0, .ref (ad 0)), (1, .int 0)] := lv_sub hl [1, 0] rfl
  exact L_2 21 t 0 _ _ _ hok hfr ⟨by decide, by decide⟩ (show (20 : Int) - 0 < ((21 : Nat) : Int) from by omega) hP hD hS (lv_sub hl [0, 1] rfl)

set_option maxHeartbeats 4000000 in
set_option maxRecDepth 100000 in
theorem T_X12_lineEnd_1 (l : Launch) (D : va_G) (K : Nat → ClassId) (ad : Nat → Nat) (t : tSt) (hok : okM t) (x1 : Int32) (hx1 : (0 : Int) ≤ x1.toInt ∧ x1.toInt ≤ 8191) (x2 : Int32) (hx2 : (1 : Int) ≤ x2.toInt ∧ x2.toInt ≤ 8192) : uMet l yX12_lineEnd cX12_lineEnd 4 (some .int) (rmD 0 0 0) D K X0 [.ref (ad 18), .int x1, .int x2] (WM K ad t) (QI D K (fun (r : Int32) (u : tSt) => okM u ∧ frI [] t u ∧ (0 : Int) ≤ r.toInt ∧ r.toInt ≤ 8192) (fun (u : tSt) => WM K ad u)) 0 0 := by
  refine k_met RX12 ⟨rfl, by decide +kernel⟩ (Nat.le_of_ble_eq_true rfl) ?_
  intro p e s m below meth c A ls C hX hr hlocks hin hA hP hD hS hl
  have hl : lv_has ls 4 [(0, .ref (ad 18)), (1, .int x1), (2, .int x2)] := hl
  have hfr : frI [] t t := frI_rf
  have L_2 : ∀ (fuel_2 : Nat) (t1 : tSt) (w2_1 : Int32) (w2_2 : Int32) (w2_3 : Int32) (H : Heap) (locs : List Loc) (ls : Array Slot), okM t1 → frI [] t t1 → (0 : Int) ≤ w2_1.toInt ∧ w2_1.toInt ≤ 8191 → (1 : Int) ≤ w2_2.toInt ∧ w2_2.toInt ≤ 8192 → (0 : Int) ≤ w2_3.toInt ∧ w2_3.toInt ≤ 8192 → (8192 : Int) - w2_3.toInt < (fuel_2 : Int) → va_P D vwCl (WM K ad t1) H → va_D A (WM K ad t1) → va_S A s.heap H locs → lv_has ls 4 [(0, .ref (ad 18)), (1, .int w2_1), (2, .int w2_2), (3, .int w2_3)] → W p l e (rmD 0 0 0) s m [.ref (ad 18), .int x1, .int x2].toArray below meth c H locs 0 0 (MQ below (QI D K (fun (r : Int32) (u : tSt) => okM u ∧ frI [] t u ∧ (0 : Int) ≤ r.toInt ∧ r.toInt ≤ 8192) (fun (u : tSt) => WM K ad u) A) [.ref (ad 18), .int x1, .int x2].toArray s 0 0 A) (F0 m 2 ls []) := by
    intro fuel_2
    induction fuel_2 with
    | zero =>
      intro t1 w2_1 w2_2 w2_3 H locs ls hok hfr hw2_1 hw2_2 hw2_3 hm2_2 hP hD hS hl
      exact absurd hm2_2 (by omega)
    | succ fuel_2 ih_2 =>
      intro t1 w2_1 w2_2 w2_3 H locs ls hok hfr hw2_1 hw2_2 hw2_3 hm2_2 hP hD hS hl
      have hm2_2 : (8192 : Int) - w2_3.toInt < (fuel_2 : Int) + 1 := by omega
      refine lv_iload_n C.1 C.2.1 dX12_lineEnd_2 rfl (lv_at hl 3 rfl) ?_
      refine lv_iload_n C.1 C.2.1 dX12_lineEnd_3 rfl (lv_at hl 2 rfl) ?_
      refine lv_icmp_ge (tgt := 21) C.1 C.2.1 dX12_lineEnd_4 (by decide) (fun c_1 => ?_) (fun c_1 => ?_)
      · replace c_1 : w2_2.toInt ≤ w2_3.toInt := i_le c_1
        refine lv_iload_n C.1 C.2.1 dX12_lineEnd_21 rfl (lv_at hl 3 rfl) ?_
        exact g_iret C hr hlocks hP hD hS rfl t1 rfl ⟨hok, hfr, by omega, by omega⟩ (Nat.le_of_ble_eq_true rfl) (Nat.le_of_ble_eq_true rfl) dX12_lineEnd_22
      · replace c_1 : w2_3.toInt < w2_2.toInt := i_nle c_1
        refine lv_aload_n C.1 C.2.1 dX12_lineEnd_7 rfl (lv_at hl 0 rfl) ?_
        refine lv_iload_n C.1 C.2.1 dX12_lineEnd_8 rfl (lv_at hl 3 rfl) ?_
        obtain ⟨v_2, e_3⟩ : ∃ z, z = t1.2.2.1 18 (w2_3 : Int32).toNatClampNeg := ⟨_, rfl⟩
        have h_4 : (-3999 : Int) ≤ v_2.toInt ∧ v_2.toInt ≤ 127 := by rw [e_3]; exact hok.2 18 _
        refine k_bld (v := v_2) C hP 18 rfl (vp_in_iff.mpr ⟨by omega, by omega⟩) e_3.symm dX12_lineEnd_9 ?_
        refine lv_bipush (v := 10) C.1 C.2.1 dX12_lineEnd_10 (by decide) ?_
        refine lv_icmp_eq (tgt := 21) C.1 C.2.1 dX12_lineEnd_12 (by decide) (fun c_5 => ?_) (fun c_5 => ?_)
        · replace c_5 : v_2.toInt = 10 := i_eq c_5
          refine lv_iload_n C.1 C.2.1 dX12_lineEnd_21 rfl (lv_at hl 3 rfl) ?_
          exact g_iret C hr hlocks hP hD hS rfl t1 rfl ⟨hok, hfr, by omega, by omega⟩ (Nat.le_of_ble_eq_true rfl) (Nat.le_of_ble_eq_true rfl) dX12_lineEnd_22
        · replace c_5 : ¬ v_2.toInt = 10 := i_ne c_5
          obtain ⟨v_6, e_7⟩ : ∃ z, z = w2_3 + 1 := ⟨_, rfl⟩
          have h_8 : v_6.toInt = w2_3.toInt + 1 := by rw [e_7]; exact ti_iadd (by show (_ : Int) ≤ w2_3.toInt + 1; omega) (by show w2_3.toInt + 1 < (_ : Int); omega)
          refine lv_iinc (v := v_6) (lv' := [(3, .int v_6), (0, .ref (ad 18)), (1, .int w2_1), (2, .int w2_2)]) C.1 C.2.1 dX12_lineEnd_15 hl (k := 3) rfl e_7.symm (by decide) rfl (fun ls hl => ?_)
          have hl : lv_has ls 4 [(0, .ref (ad 18)), (1, .int w2_1), (2, .int w2_2), (3, .int v_6)] := lv_sub hl [1, 2, 3, 0] rfl
          refine lv_goto (tgt := 2) C.1 C.2.1 dX12_lineEnd_18 (by decide) ?_
          exact ih_2 t1 w2_1 w2_2 v_6 _ _ _ hok hfr ⟨by omega, by omega⟩ ⟨by omega, by omega⟩ ⟨by omega, by omega⟩ (show (8192 : Int) - v_6.toInt < (fuel_2 : Int) from by omega) hP hD hS (lv_sub hl [0, 1, 2, 3] rfl)
  refine lv_iload_n C.1 C.2.1 dX12_lineEnd_0 rfl (lv_at hl 1 rfl) ?_
  refine lv_istore_n (lv' := [(3, .int x1), (0, .ref (ad 18)), (1, .int x1), (2, .int x2)]) C.1 C.2.1 dX12_lineEnd_1 rfl hl (by decide) rfl (fun ls hl => ?_)
  have hl : lv_has ls 4 [(0, .ref (ad 18)), (1, .int x1), (2, .int x2), (3, .int x1)] := lv_sub hl [1, 2, 3, 0] rfl
  exact L_2 8193 t x1 x2 x1 _ _ _ hok hfr ⟨by omega, by omega⟩ ⟨by omega, by omega⟩ ⟨by omega, by omega⟩ (show (8192 : Int) - x1.toInt < ((8193 : Nat) : Int) from by omega) hP hD hS (lv_sub hl [0, 1, 2, 3] rfl)

set_option maxHeartbeats 4000000 in
set_option maxRecDepth 100000 in
theorem T_X12_setMemory (l : Launch) (D : va_G) (K : Nat → ClassId) (ad : Nat → Nat) (t : tSt) (hok : okM t) (x1 : Int32) (hx1 : (-3999 : Int) ≤ x1.toInt ∧ x1.toInt ≤ 3999) (x2 : Int32) : uMet l yX12_setMemory cX12_setMemory 3 none (rmD 0 0 0) D K X0 [.ref (ad 0), .int x1, .int x2] (WM K ad t) (QV D K (fun (u : tSt) => okM u ∧ frI [] t u) (fun (u : tSt) => WM K ad u)) 0 0 := by
  refine k_met RX12 ⟨rfl, by decide +kernel⟩ (Nat.le_of_ble_eq_true rfl) ?_
  intro p e s m below meth c A ls C hX hr hlocks hin hA hP hD hS hl
  have hl : lv_has ls 3 [(0, .ref (ad 0)), (1, .int x1), (2, .int x2)] := hl
  have hfr : frI [] t t := frI_rf
  refine lv_aload_n C.1 C.2.1 dX12_setMemory_0 rfl (lv_at hl 0 rfl) ?_
  refine k_get (v := .ref (ad 2)) C hP 0 rfl rfl inlX12 3 (by decide) m_7_5 rfl dX12_setMemory_1 ?_
  refine lv_iload_n C.1 C.2.1 dX12_setMemory_4 rfl (lv_at hl 1 rfl) ?_
  refine lv_sipush (v := (-3999)) C.1 C.2.1 dX12_setMemory_5 (by decide) ?_
  obtain ⟨v_1, e_2⟩ : ∃ z, z = (x1 : Int32) - ((-3999) : Int32) := ⟨_, rfl⟩
  have h_3 : v_1.toInt = x1.toInt - (-3999) := by rw [e_2]; exact ti_isub (by show (_ : Int) ≤ x1.toInt - (-3999); omega) (by show x1.toInt - (-3999) < (_ : Int); omega)
  refine k_isub (v := v_1) C e_2.symm dX12_setMemory_8 ?_
  refine lv_iload_n C.1 C.2.1 dX12_setMemory_9 rfl (lv_at hl 2 rfl) ?_
  refine k_ist (ws' := WM K ad (uB t 2 (v_1 : Int32).toNatClampNeg x2)) (x' := x2) C hP hD hS 2 rfl (vp_in_iff.mpr ⟨by omega, by omega⟩) rfl rfl rfl dX12_setMemory_10 (fun H locs hP hD hS => ?_)
  have hok : okM (uB t 2 (v_1 : Int32).toNatClampNeg x2) := ⟨hok.1, okB_B hok.2 2 _ x2 (show (-2147483648 : Int) ≤ (x2 : Int32).toInt ∧ (x2 : Int32).toInt ≤ 2147483647 from (i_rng _))⟩
  have hfr : frI [] t (uB t 2 (v_1 : Int32).toNatClampNeg x2) := hfr
  exact g_vret C hr hlocks hP hD hS (uB t 2 (v_1 : Int32).toNatClampNeg x2) rfl ⟨hok, hfr⟩ (Nat.le_of_ble_eq_true rfl) (Nat.le_of_ble_eq_true rfl) dX12_setMemory_11

set_option maxHeartbeats 4000000 in
set_option maxRecDepth 100000 in
theorem T_X12_fail (l : Launch) (D : va_G) (K : Nat → ClassId) (ad : Nat → Nat) (t : tSt) (hok : okM t) (x1 : Int32) (hx1 : (1 : Int) ≤ x1.toInt ∧ x1.toInt ≤ 8) : uMet l yX12_fail cX12_fail 2 none (rmD 0 0 0) D K X0 [.ref (ad 0), .int x1] (WM K ad t) (QV D K (fun (u : tSt) => okM u ∧ frI [(0, 70)] t u) (fun (u : tSt) => WM K ad u)) 0 0 := by
  refine k_met RX12 ⟨rfl, by decide +kernel⟩ (Nat.le_of_ble_eq_true rfl) ?_
  intro p e s m below meth c A ls C hX hr hlocks hin hA hP hD hS hl
  have hl : lv_has ls 2 [(0, .ref (ad 0)), (1, .int x1)] := hl
  have hfr : frI [(0, 70)] t t := frI_rf
  refine lv_aload_n C.1 C.2.1 dX12_fail_0 rfl (lv_at hl 0 rfl) ?_
  obtain ⟨v_1, e_2⟩ : ∃ z, z = t.1 0 70 := ⟨_, rfl⟩
  have h_3 : (0 : Int) ≤ v_1.toInt ∧ v_1.toInt ≤ 8 := by rw [e_2]; exact hok.1 0 70
  have h_4 : v_1.toInt = (t.1 0 70).toInt := congrArg Int32.toInt e_2
  refine k_get (v := .int v_1) C hP 0 rfl rfl inlX12 70 (by decide) m_29_13 (by rw [e_2]; rfl) dX12_fail_1 ?_
  refine lv_if_ne (tgt := 12) C.1 C.2.1 dX12_fail_4 (by decide) (fun c_5 => ?_) (fun c_5 => ?_)
  · replace c_5 : ¬ v_1.toInt = 0 := i_ne c_5
    exact g_vret C hr hlocks hP hD hS t rfl ⟨hok, hfr⟩ (Nat.le_of_ble_eq_true rfl) (Nat.le_of_ble_eq_true rfl) dX12_fail_12
  · replace c_5 : v_1.toInt = 0 := i_eq c_5
    refine lv_aload_n C.1 C.2.1 dX12_fail_7 rfl (lv_at hl 0 rfl) ?_
    refine lv_iload_n C.1 C.2.1 dX12_fail_8 rfl (lv_at hl 1 rfl) ?_
    refine k_put (ws' := WM K ad (uI t 0 70 x1)) (v := .int x1) C hP hD hS 0 rfl rfl inlX12 tyX12_ok nmX12 70 (by decide) m_29_13 rfl rfl rfl rfl rfl dX12_fail_9 (fun H locs hP hD hS => ?_)
    have hok : okM (uI t 0 70 x1) := ⟨okI_I hok.1 0 70 x1 (show (0 : Int) ≤ (x1 : Int32).toInt ∧ (x1 : Int32).toInt ≤ 8 from ⟨by omega, by omega⟩), hok.2⟩
    have hfr : frI [(0, 70)] t (uI t 0 70 x1) := frI_I hfr 0 70 _ (by decide)
    exact g_vret C hr hlocks hP hD hS (uI t 0 70 x1) rfl ⟨hok, hfr⟩ (Nat.le_of_ble_eq_true rfl) (Nat.le_of_ble_eq_true rfl) dX12_fail_12

set_option maxHeartbeats 4000000 in
set_option maxRecDepth 100000 in
theorem T_X12_begin (l : Launch) (D : va_G) (K : Nat → ClassId) (ad : Nat → Nat) (t : tSt) (hok : okM t)  : uMet l yX12_begin cX12_begin 1 none (rmD 0 0 0) D K X0 [.ref (ad 0)] (WM K ad t) (QV D K (fun (u : tSt) => okM u ∧ frI [(0, 30)] t u) (fun (u : tSt) => WM K ad u)) 0 0 := by
  refine k_met RX12 ⟨rfl, by decide +kernel⟩ (Nat.le_of_ble_eq_true rfl) ?_
  intro p e s m below meth c A ls C hX hr hlocks hin hA hP hD hS hl
  have hl : lv_has ls 1 [(0, .ref (ad 0))] := hl
  have hfr : frI [(0, 30)] t t := frI_rf
  refine lv_aload_n C.1 C.2.1 dX12_begin_0 rfl (lv_at hl 0 rfl) ?_
  refine lv_iconst (v := 0) C.1 C.2.1 dX12_begin_1 (by decide) ?_
  refine k_put (ws' := WM K ad (uI t 0 30 0)) (v := .int 0) C hP hD hS 0 rfl rfl inlX12 tyX12_ok nmX12 30 (by decide) m_42_8 rfl rfl rfl rfl rfl dX12_begin_2 (fun H locs hP hD hS => ?_)
  have hok : okM (uI t 0 30 0) := ⟨okI_I hok.1 0 30 0 (show (0 : Int) ≤ (0 : Int32).toInt ∧ (0 : Int32).toInt ≤ 240 from ⟨by decide, by decide⟩), hok.2⟩
  have hfr : frI [(0, 30)] t (uI t 0 30 0) := frI_I hfr 0 30 _ (by decide)
  exact g_vret C hr hlocks hP hD hS (uI t 0 30 0) rfl ⟨hok, hfr⟩ (Nat.le_of_ble_eq_true rfl) (Nat.le_of_ble_eq_true rfl) dX12_begin_5

set_option maxHeartbeats 4000000 in
set_option maxRecDepth 100000 in
theorem T_X12_startAt (l : Launch) (D : va_G) (K : Nat → ClassId) (ad : Nat → Nat) (t : tSt) (hok : okM t) (x1 : Int32) (hx1 : (-3999 : Int) ≤ x1.toInt ∧ x1.toInt ≤ 3999) : uMet l yX12_startAt cX12_startAt 2 none (rmD 0 0 0) D K X0 [.ref (ad 0), .int x1] (WM K ad t) (QV D K (fun (u : tSt) => okM u ∧ frI [(0, 7), (0, 9), (0, 10), (0, 11)] t u) (fun (u : tSt) => WM K ad u)) 0 0 := by
  refine k_met RX12 ⟨rfl, by decide +kernel⟩ (Nat.le_of_ble_eq_true rfl) ?_
  intro p e s m below meth c A ls C hX hr hlocks hin hA hP hD hS hl
  have hl : lv_has ls 2 [(0, .ref (ad 0)), (1, .int x1)] := hl
  have hfr : frI [(0, 7), (0, 9), (0, 10), (0, 11)] t t := frI_rf
  have L_15 : ∀ (t1 : tSt) (w15_1 : Int32) (k15_1 : Int32) (H : Heap) (locs : List Loc) (ls : Array Slot), okM t1 → frI [(0, 7), (0, 9), (0, 10), (0, 11)] t t1 → (-3999 : Int) ≤ w15_1.toInt ∧ w15_1.toInt ≤ 3999 → (0 : Int) ≤ k15_1.toInt ∧ k15_1.toInt ≤ 1 → (-3999 : Int) ≤ (t1.1 0 7).toInt ∧ (t1.1 0 7).toInt ≤ 3999 → va_P D vwCl (WM K ad t1) H → va_D A (WM K ad t1) → va_S A s.heap H locs → lv_has ls 2 [(0, .ref (ad 0)), (1, .int w15_1)] → W p l e (rmD 0 0 0) s m [.ref (ad 0), .int x1].toArray below meth c H locs 0 0 (MQ below (QV D K (fun (u : tSt) => okM u ∧ frI [(0, 7), (0, 9), (0, 10), (0, 11)] t u) (fun (u : tSt) => WM K ad u) A) [.ref (ad 0), .int x1].toArray s 0 0 A) (F0 m 15 ls [.int k15_1, .ref (ad 0)]) := by
    intro t1 w15_1 k15_1 H locs ls hok hfr hw15_1 hk15_1 hf15_7 hP hD hS hl
    refine k_put (ws' := WM K ad (uI t1 0 11 k15_1)) (v := .int k15_1) C hP hD hS 0 rfl rfl inlX12 tyX12_ok nmX12 11 (by decide) m_30_1 rfl (nar01 (by omega) (by omega)) (fit01 (by omega) (by omega)) rfl rfl dX12_startAt_15 (fun H locs hP hD hS => ?_)
    have hok : okM (uI t1 0 11 k15_1) := ⟨okI_I hok.1 0 11 k15_1 (show (0 : Int) ≤ (k15_1 : Int32).toInt ∧ (k15_1 : Int32).toInt ≤ 1 from ⟨by omega, by omega⟩), hok.2⟩
    have hfr : frI [(0, 7), (0, 9), (0, 10), (0, 11)] t (uI t1 0 11 k15_1) := frI_I hfr 0 11 _ (by decide)
    refine lv_aload_n C.1 C.2.1 dX12_startAt_18 rfl (lv_at hl 0 rfl) ?_
    refine lv_aload_n C.1 C.2.1 dX12_startAt_19 rfl (lv_at hl 0 rfl) ?_
    refine k_get (v := .int k15_1) C hP 0 rfl rfl inlX12 11 (by decide) m_30_1 rfl dX12_startAt_20 ?_
    refine k_put (ws' := WM K ad (uI (uI t1 0 11 k15_1) 0 10 k15_1)) (v := .int k15_1) C hP hD hS 0 rfl rfl inlX12 tyX12_ok nmX12 10 (by decide) m_30_0 rfl (nar01 (by omega) (by omega)) (fit01 (by omega) (by omega)) rfl rfl dX12_startAt_23 (fun H locs hP hD hS => ?_)
    have hok : okM (uI (uI t1 0 11 k15_1) 0 10 k15_1) := ⟨okI_I hok.1 0 10 k15_1 (show (0 : Int) ≤ (k15_1 : Int32).toInt ∧ (k15_1 : Int32).toInt ≤ 1 from ⟨by omega, by omega⟩), hok.2⟩
    have hfr : frI [(0, 7), (0, 9), (0, 10), (0, 11)] t (uI (uI t1 0 11 k15_1) 0 10 k15_1) := frI_I hfr 0 10 _ (by decide)
    refine lv_aload_n C.1 C.2.1 dX12_startAt_26 rfl (lv_at hl 0 rfl) ?_
    refine lv_iconst (v := 0) C.1 C.2.1 dX12_startAt_27 (by decide) ?_
    refine k_put (ws' := WM K ad (uI (uI (uI t1 0 11 k15_1) 0 10 k15_1) 0 9 0)) (v := .int 0) C hP hD hS 0 rfl rfl inlX12 tyX12_ok nmX12 9 (by decide) m_7_8 rfl rfl rfl rfl rfl dX12_startAt_28 (fun H locs hP hD hS => ?_)
    have hok : okM (uI (uI (uI t1 0 11 k15_1) 0 10 k15_1) 0 9 0) := ⟨okI_I hok.1 0 9 0 (show (0 : Int) ≤ (0 : Int32).toInt ∧ (0 : Int32).toInt ≤ 10 from ⟨by decide, by decide⟩), hok.2⟩
    have hfr : frI [(0, 7), (0, 9), (0, 10), (0, 11)] t (uI (uI (uI t1 0 11 k15_1) 0 10 k15_1) 0 9 0) := frI_I hfr 0 9 _ (by decide)
    exact g_vret C hr hlocks hP hD hS (uI (uI (uI t1 0 11 k15_1) 0 10 k15_1) 0 9 0) rfl ⟨hok, hfr⟩ (Nat.le_of_ble_eq_true rfl) (Nat.le_of_ble_eq_true rfl) dX12_startAt_31
  refine lv_aload_n C.1 C.2.1 dX12_startAt_0 rfl (lv_at hl 0 rfl) ?_
  refine lv_iload_n C.1 C.2.1 dX12_startAt_1 rfl (lv_at hl 1 rfl) ?_
  refine k_put (ws' := WM K ad (uI t 0 7 x1)) (v := .int x1) C hP hD hS 0 rfl rfl inlX12 tyX12_ok nmX12 7 (by decide) m_29_22 rfl rfl rfl rfl rfl dX12_startAt_2 (fun H locs hP hD hS => ?_)
  have hok : okM (uI t 0 7 x1) := ⟨okI_I hok.1 0 7 x1 (show (-3999 : Int) ≤ (x1 : Int32).toInt ∧ (x1 : Int32).toInt ≤ 4095 from ⟨by omega, by omega⟩), hok.2⟩
  have hfr : frI [(0, 7), (0, 9), (0, 10), (0, 11)] t (uI t 0 7 x1) := frI_I hfr 0 7 _ (by decide)
  refine lv_aload_n C.1 C.2.1 dX12_startAt_5 rfl (lv_at hl 0 rfl) ?_
  refine lv_iload_n C.1 C.2.1 dX12_startAt_6 rfl (lv_at hl 1 rfl) ?_
  refine lv_if_ge (tgt := 14) C.1 C.2.1 dX12_startAt_7 (by decide) (fun c_1 => ?_) (fun c_1 => ?_)
  · replace c_1 : 0 ≤ x1.toInt := i_le c_1
    refine lv_iconst (v := 0) C.1 C.2.1 dX12_startAt_14 (by decide) ?_
    exact L_15 (uI t 0 7 x1) x1 0 _ _ _ hok hfr ⟨by omega, by omega⟩ ⟨by decide, by decide⟩ (show (-3999 : Int) ≤ (x1 : Int32).toInt ∧ (x1 : Int32).toInt ≤ 3999 from ⟨by omega, by omega⟩) hP hD hS (lv_sub hl [0, 1] rfl)
  · replace c_1 : x1.toInt < 0 := i_nle c_1
    refine lv_iconst (v := 1) C.1 C.2.1 dX12_startAt_10 (by decide) ?_
    refine lv_goto (tgt := 15) C.1 C.2.1 dX12_startAt_11 (by decide) ?_
    exact L_15 (uI t 0 7 x1) x1 1 _ _ _ hok hfr ⟨by omega, by omega⟩ ⟨by decide, by decide⟩ (show (-3999 : Int) ≤ (x1 : Int32).toInt ∧ (x1 : Int32).toInt ≤ 3999 from ⟨by omega, by omega⟩) hP hD hS (lv_sub hl [0, 1] rfl)

set_option maxHeartbeats 4000000 in
set_option maxRecDepth 100000 in
theorem T_X12_find (l : Launch) (D : va_G) (K : Nat → ClassId) (ad : Nat → Nat) (t : tSt) (hok : okM t) (x1 : Int64) : uMet l yX12_find cX12_find 4 (some .int) (rmD 0 0 0) D K X0 [.ref (ad 0), .long x1] (WM K ad t) (QI D K (fun (r : Int32) (u : tSt) => okM u ∧ frI [] t u ∧ (-1 : Int) ≤ r.toInt ∧ r.toInt ≤ 1199) (fun (u : tSt) => WM K ad u)) 0 0 := by
  refine k_met RX12 ⟨rfl, by decide +kernel⟩ (Nat.le_of_ble_eq_true rfl) ?_
  intro p e s m below meth c A ls C hX hr hlocks hin hA hP hD hS hl
  have hl : lv_has ls 4 [(0, .ref (ad 0)), (1, .long x1)] := hl
  have hfr : frI [] t t := frI_rf
  have L_2 : ∀ (fuel_2 : Nat) (t1 : tSt) (w2_1 : Int64) (w2_3 : Int32) (H : Heap) (locs : List Loc) (ls : Array Slot), okM t1 → frI [] t t1 → (0 : Int) ≤ w2_3.toInt ∧ w2_3.toInt ≤ 1260 → (1260 : Int) - w2_3.toInt < (fuel_2 : Int) → va_P D vwCl (WM K ad t1) H → va_D A (WM K ad t1) → va_S A s.heap H locs → lv_has ls 4 [(0, .ref (ad 0)), (1, .long w2_1), (3, .int w2_3)] → W p l e (rmD 0 0 0) s m [.ref (ad 0), .long x1].toArray below meth c H locs 0 0 (MQ below (QI D K (fun (r : Int32) (u : tSt) => okM u ∧ frI [] t u ∧ (-1 : Int) ≤ r.toInt ∧ r.toInt ≤ 1199) (fun (u : tSt) => WM K ad u) A) [.ref (ad 0), .long x1].toArray s 0 0 A) (F0 m 2 ls []) := by
    intro fuel_2
    induction fuel_2 with
    | zero =>
      intro t1 w2_1 w2_3 H locs ls hok hfr hw2_3 hm2_2 hP hD hS hl
      exact absurd hm2_2 (by omega)
    | succ fuel_2 ih_2 =>
      intro t1 w2_1 w2_3 H locs ls hok hfr hw2_3 hm2_2 hP hD hS hl
      have hm2_2 : (1260 : Int) - w2_3.toInt < (fuel_2 : Int) + 1 := by omega
      refine lv_iload_n C.1 C.2.1 dX12_find_2 rfl (lv_at hl 2 rfl) ?_
      refine lv_aload_n C.1 C.2.1 dX12_find_3 rfl (lv_at hl 0 rfl) ?_
      obtain ⟨v_1, e_2⟩ : ∃ z, z = t1.1 0 52 := ⟨_, rfl⟩
      have h_3 : (0 : Int) ≤ v_1.toInt ∧ v_1.toInt ≤ 1200 := by rw [e_2]; exact hok.1 0 52
      have h_4 : v_1.toInt = (t1.1 0 52).toInt := congrArg Int32.toInt e_2
      refine k_get (v := .int v_1) C hP 0 rfl rfl inlX12 52 (by decide) m_30_17 (by rw [e_2]; rfl) dX12_find_4 ?_
      refine lv_icmp_ge (tgt := 29) C.1 C.2.1 dX12_find_7 (by decide) (fun c_5 => ?_) (fun c_5 => ?_)
      · replace c_5 : v_1.toInt ≤ w2_3.toInt := i_le c_5
        refine lv_iconst (v := (-1)) C.1 C.2.1 dX12_find_29 (by decide) ?_
        exact g_iret C hr hlocks hP hD hS rfl t1 rfl ⟨hok, hfr, by decide, by decide⟩ (Nat.le_of_ble_eq_true rfl) (Nat.le_of_ble_eq_true rfl) dX12_find_30
      · replace c_5 : w2_3.toInt < v_1.toInt := i_nle c_5
        refine lv_aload_n C.1 C.2.1 dX12_find_10 rfl (lv_at hl 0 rfl) ?_
        refine k_get (v := .ref (ad 23)) C hP 0 rfl rfl inlX12 53 (by decide) m_8_7 rfl dX12_find_11 ?_
        refine lv_iload_n C.1 C.2.1 dX12_find_14 rfl (lv_at hl 2 rfl) ?_
        refine k_lld (v := (t1.2.2.2 23 (w2_3 : Int32).toNatClampNeg)) C hP 23 rfl (vp_in_iff.mpr ⟨by omega, by omega⟩) rfl dX12_find_15 ?_
        refine lv_lload_n C.1 C.2.1 dX12_find_16 rfl (lv_at hl 1 rfl) ?_
        obtain ⟨v_6, e_7⟩ : ∃ z, z = lg_cmp ((t1.2.2.2 23 (w2_3 : Int32).toNatClampNeg) : Int64) w2_1 := ⟨_, rfl⟩
        have h_8 : (-1 : Int) ≤ v_6.toInt ∧ v_6.toInt ≤ 1 := by rw [e_7]; exact cmp_rng _ _
        refine k_lcmp (v := v_6) C e_7.symm dX12_find_17 ?_
        refine lv_if_ne (tgt := 23) C.1 C.2.1 dX12_find_18 (by decide) (fun c_9 => ?_) (fun c_9 => ?_)
        · replace c_9 : ¬ v_6.toInt = 0 := i_ne c_9
          obtain ⟨v_10, e_11⟩ : ∃ z, z = w2_3 + 1 := ⟨_, rfl⟩
          have h_12 : v_10.toInt = w2_3.toInt + 1 := by rw [e_11]; exact ti_iadd (by show (_ : Int) ≤ w2_3.toInt + 1; omega) (by show w2_3.toInt + 1 < (_ : Int); omega)
          refine lv_iinc (v := v_10) (lv' := [(3, .int v_10), (0, .ref (ad 0)), (1, .long w2_1)]) C.1 C.2.1 dX12_find_23 hl (k := 2) rfl e_11.symm (by decide) rfl (fun ls hl => ?_)
          have hl : lv_has ls 4 [(0, .ref (ad 0)), (1, .long w2_1), (3, .int v_10)] := lv_sub hl [1, 2, 0] rfl
          refine lv_goto (tgt := 2) C.1 C.2.1 dX12_find_26 (by decide) ?_
          exact ih_2 t1 w2_1 v_10 _ _ _ hok hfr ⟨by omega, by omega⟩ (show (1260 : Int) - v_10.toInt < (fuel_2 : Int) from by omega) hP hD hS (lv_sub hl [0, 1, 2] rfl)
        · replace c_9 : v_6.toInt = 0 := i_eq c_9
          refine lv_iload_n C.1 C.2.1 dX12_find_21 rfl (lv_at hl 2 rfl) ?_
          exact g_iret C hr hlocks hP hD hS rfl t1 rfl ⟨hok, hfr, by omega, by omega⟩ (Nat.le_of_ble_eq_true rfl) (Nat.le_of_ble_eq_true rfl) dX12_find_22
  refine lv_iconst (v := 0) C.1 C.2.1 dX12_find_0 (by decide) ?_
  refine lv_istore_n (lv' := [(3, .int 0), (0, .ref (ad 0)), (1, .long x1)]) C.1 C.2.1 dX12_find_1 rfl hl (by decide) rfl (fun ls hl => ?_)
  have hl : lv_has ls 4 [(0, .ref (ad 0)), (1, .long x1), (3, .int 0)] := lv_sub hl [1, 2, 0] rfl
  exact L_2 1261 t x1 0 _ _ _ hok hfr ⟨by decide, by decide⟩ (show (1260 : Int) - 0 < ((1261 : Nat) : Int) from by omega) hP hD hS (lv_sub hl [0, 1, 2] rfl)

set_option maxHeartbeats 4000000 in
set_option maxRecDepth 100000 in
theorem T_X12_hasPut (l : Launch) (D : va_G) (K : Nat → ClassId) (ad : Nat → Nat) (t : tSt) (hok : okM t) (x1 : Int32) (hx1 : (0 : Int) ≤ x1.toInt ∧ x1.toInt ≤ 2147483647) : uMet l yX12_hasPut cX12_hasPut 2 (some .boolean) (rmD 0 0 0) D K X0 [.ref (ad 0), .int x1] (WM K ad t) (QI D K (fun (r : Int32) (u : tSt) => okM u ∧ frI [] t u ∧ (0 : Int) ≤ r.toInt ∧ r.toInt ≤ 1) (fun (u : tSt) => WM K ad u)) 0 0 := by
  refine k_met RX12 ⟨rfl, by decide +kernel⟩ (Nat.le_of_ble_eq_true rfl) ?_
  intro p e s m below meth c A ls C hX hr hlocks hin hA hP hD hS hl
  have hl : lv_has ls 2 [(0, .ref (ad 0)), (1, .int x1)] := hl
  have hfr : frI [] t t := frI_rf
  refine lv_iload_n C.1 C.2.1 dX12_hasPut_0 rfl (lv_at hl 1 rfl) ?_
  refine lv_sipush (v := 3999) C.1 C.2.1 dX12_hasPut_1 (by decide) ?_
  refine lv_icmp_gt (tgt := 24) C.1 C.2.1 dX12_hasPut_4 (by decide) (fun c_1 => ?_) (fun c_1 => ?_)
  · replace c_1 : 3999 < x1.toInt := i_lt c_1
    refine lv_iconst (v := 0) C.1 C.2.1 dX12_hasPut_24 (by decide) ?_
    exact g_iret C hr hlocks hP hD hS (by decide) t rfl ⟨hok, hfr, by decide, by decide⟩ (Nat.le_of_ble_eq_true rfl) (Nat.le_of_ble_eq_true rfl) dX12_hasPut_25
  · replace c_1 : x1.toInt ≤ 3999 := i_nlt c_1
    refine lv_aload_n C.1 C.2.1 dX12_hasPut_7 rfl (lv_at hl 0 rfl) ?_
    refine k_get (v := .ref (ad 21)) C hP 0 rfl rfl inlX12 49 (by decide) m_8_5 rfl dX12_hasPut_8 ?_
    refine lv_iload_n C.1 C.2.1 dX12_hasPut_11 rfl (lv_at hl 1 rfl) ?_
    refine lv_sipush (v := (-3999)) C.1 C.2.1 dX12_hasPut_12 (by decide) ?_
    obtain ⟨v_2, e_3⟩ : ∃ z, z = (x1 : Int32) - ((-3999) : Int32) := ⟨_, rfl⟩
    have h_4 : v_2.toInt = x1.toInt - (-3999) := by rw [e_3]; exact ti_isub (by show (_ : Int) ≤ x1.toInt - (-3999); omega) (by show x1.toInt - (-3999) < (_ : Int); omega)
    refine k_isub (v := v_2) C e_3.symm dX12_hasPut_15 ?_
    obtain ⟨v_5, e_6⟩ : ∃ z, z = t.2.2.1 21 (v_2 : Int32).toNatClampNeg := ⟨_, rfl⟩
    have h_7 : (0 : Int) ≤ v_5.toInt ∧ v_5.toInt ≤ 1 := by rw [e_6]; exact hok.2 21 _
    refine k_zld (v := v_5) C hP 21 rfl (vp_in_iff.mpr ⟨by omega, by omega⟩) e_6.symm dX12_hasPut_16 ?_
    refine lv_if_eq (tgt := 24) C.1 C.2.1 dX12_hasPut_17 (by decide) (fun c_8 => ?_) (fun c_8 => ?_)
    · replace c_8 : v_5.toInt = 0 := i_eq c_8
      refine lv_iconst (v := 0) C.1 C.2.1 dX12_hasPut_24 (by decide) ?_
      exact g_iret C hr hlocks hP hD hS (by decide) t rfl ⟨hok, hfr, by decide, by decide⟩ (Nat.le_of_ble_eq_true rfl) (Nat.le_of_ble_eq_true rfl) dX12_hasPut_25
    · replace c_8 : ¬ v_5.toInt = 0 := i_ne c_8
      refine lv_iconst (v := 1) C.1 C.2.1 dX12_hasPut_20 (by decide) ?_
      refine lv_goto (tgt := 25) C.1 C.2.1 dX12_hasPut_21 (by decide) ?_
      exact g_iret C hr hlocks hP hD hS (by decide) t rfl ⟨hok, hfr, by decide, by decide⟩ (Nat.le_of_ble_eq_true rfl) (Nat.le_of_ble_eq_true rfl) dX12_hasPut_25

set_option maxHeartbeats 4000000 in
set_option maxRecDepth 100000 in
theorem T_X12_sizeOf (l : Launch) (D : va_G) (K : Nat → ClassId) (ad : Nat → Nat) (t : tSt) (hok : okM t) (x0 : Int32) (hx0 : (-1 : Int) ≤ x0.toInt ∧ x0.toInt ≤ 19) : uMet l yX12_sizeOf cX12_sizeOf 1 (some .int) (rmD 0 0 0) D K X0 [.int x0] (WM K ad t) (QI D K (fun (r : Int32) (u : tSt) => okM u ∧ frI [] t u ∧ (14 : Int) ≤ r.toInt ∧ r.toInt ≤ 100) (fun (u : tSt) => WM K ad u)) 0 0 := by
  refine k_met RX12 ⟨rfl, by decide +kernel⟩ (Nat.le_of_ble_eq_true rfl) ?_
  intro p e s m below meth c A ls C hX hr hlocks hin hA hP hD hS hl
  have hl : lv_has ls 1 [(0, .int x0)] := hl
  have hfr : frI [] t t := frI_rf
  refine lv_iload_n C.1 C.2.1 dX12_sizeOf_0 rfl (lv_at hl 0 rfl) ?_
  refine lv_bipush (v := 16) C.1 C.2.1 dX12_sizeOf_1 (by decide) ?_
  refine lv_icmp_ge (tgt := 11) C.1 C.2.1 dX12_sizeOf_3 (by decide) (fun c_1 => ?_) (fun c_1 => ?_)
  · replace c_1 : 16 ≤ x0.toInt := i_le c_1
    refine lv_iload_n C.1 C.2.1 dX12_sizeOf_11 rfl (lv_at hl 0 rfl) ?_
    refine lv_bipush (v := 16) C.1 C.2.1 dX12_sizeOf_12 (by decide) ?_
    refine lv_icmp_eq (tgt := 23) C.1 C.2.1 dX12_sizeOf_14 (by decide) (fun c_2 => ?_) (fun c_2 => ?_)
    · replace c_2 : x0.toInt = 16 := i_eq c_2
      refine lv_bipush (v := 16) C.1 C.2.1 dX12_sizeOf_23 (by decide) ?_
      refine lv_goto (tgt := 41) C.1 C.2.1 dX12_sizeOf_25 (by decide) ?_
      exact g_iret C hr hlocks hP hD hS rfl t rfl ⟨hok, hfr, by decide, by decide⟩ (Nat.le_of_ble_eq_true rfl) (Nat.le_of_ble_eq_true rfl) dX12_sizeOf_41
    · replace c_2 : ¬ x0.toInt = 16 := i_ne c_2
      refine lv_iload_n C.1 C.2.1 dX12_sizeOf_17 rfl (lv_at hl 0 rfl) ?_
      refine lv_bipush (v := 17) C.1 C.2.1 dX12_sizeOf_18 (by decide) ?_
      refine lv_icmp_ne (tgt := 28) C.1 C.2.1 dX12_sizeOf_20 (by decide) (fun c_3 => ?_) (fun c_3 => ?_)
      · replace c_3 : ¬ x0.toInt = 17 := i_ne c_3
        refine lv_iload_n C.1 C.2.1 dX12_sizeOf_28 rfl (lv_at hl 0 rfl) ?_
        refine lv_bipush (v := 18) C.1 C.2.1 dX12_sizeOf_29 (by decide) ?_
        refine lv_icmp_ne (tgt := 39) C.1 C.2.1 dX12_sizeOf_31 (by decide) (fun c_4 => ?_) (fun c_4 => ?_)
        · replace c_4 : ¬ x0.toInt = 18 := i_ne c_4
          refine lv_bipush (v := 14) C.1 C.2.1 dX12_sizeOf_39 (by decide) ?_
          exact g_iret C hr hlocks hP hD hS rfl t rfl ⟨hok, hfr, by decide, by decide⟩ (Nat.le_of_ble_eq_true rfl) (Nat.le_of_ble_eq_true rfl) dX12_sizeOf_41
        · replace c_4 : x0.toInt = 18 := i_eq c_4
          refine lv_bipush (v := 24) C.1 C.2.1 dX12_sizeOf_34 (by decide) ?_
          refine lv_goto (tgt := 41) C.1 C.2.1 dX12_sizeOf_36 (by decide) ?_
          exact g_iret C hr hlocks hP hD hS rfl t rfl ⟨hok, hfr, by decide, by decide⟩ (Nat.le_of_ble_eq_true rfl) (Nat.le_of_ble_eq_true rfl) dX12_sizeOf_41
      · replace c_3 : x0.toInt = 17 := i_eq c_3
        refine lv_bipush (v := 16) C.1 C.2.1 dX12_sizeOf_23 (by decide) ?_
        refine lv_goto (tgt := 41) C.1 C.2.1 dX12_sizeOf_25 (by decide) ?_
        exact g_iret C hr hlocks hP hD hS rfl t rfl ⟨hok, hfr, by decide, by decide⟩ (Nat.le_of_ble_eq_true rfl) (Nat.le_of_ble_eq_true rfl) dX12_sizeOf_41
  · replace c_1 : x0.toInt < 16 := i_nle c_1
    refine lv_bipush (v := 100) C.1 C.2.1 dX12_sizeOf_6 (by decide) ?_
    refine lv_goto (tgt := 41) C.1 C.2.1 dX12_sizeOf_8 (by decide) ?_
    exact g_iret C hr hlocks hP hD hS rfl t rfl ⟨hok, hfr, by decide, by decide⟩ (Nat.le_of_ble_eq_true rfl) (Nat.le_of_ble_eq_true rfl) dX12_sizeOf_41

set_option maxHeartbeats 4000000 in
set_option maxRecDepth 100000 in
theorem T_X12_isHere (l : Launch) (D : va_G) (K : Nat → ClassId) (ad : Nat → Nat) (t : tSt) (hok : okM t) (x1 : Int32) : uMet l yX12_isHere cX12_isHere 2 (some .boolean) (rmD 0 0 0) D K X0 [.ref (ad 0), .int x1] (WM K ad t) (QI D K (fun (r : Int32) (u : tSt) => okM u ∧ frI [] t u ∧ (0 : Int) ≤ r.toInt ∧ r.toInt ≤ 1) (fun (u : tSt) => WM K ad u)) 0 0 := by
  refine k_met RX12 ⟨rfl, by decide +kernel⟩ (Nat.le_of_ble_eq_true rfl) ?_
  intro p e s m below meth c A ls C hX hr hlocks hin hA hP hD hS hl
  have hl : lv_has ls 2 [(0, .ref (ad 0)), (1, .int x1)] := hl
  have hfr : frI [] t t := frI_rf
  have L_15 : ∀ (t1 : tSt) (w15_1 : Int32) (k15_0 : Int32) (k15_1 : Int32) (H : Heap) (locs : List Loc) (ls : Array Slot), okM t1 → frI [] t t1 → (-3999 : Int) ≤ k15_1.toInt ∧ k15_1.toInt ≤ 0 → va_P D vwCl (WM K ad t1) H → va_D A (WM K ad t1) → va_S A s.heap H locs → lv_has ls 2 [(0, .ref (ad 0)), (1, .int w15_1)] → W p l e (rmD 0 0 0) s m [.ref (ad 0), .int x1].toArray below meth c H locs 0 0 (MQ below (QI D K (fun (r : Int32) (u : tSt) => okM u ∧ frI [] t u ∧ (0 : Int) ≤ r.toInt ∧ r.toInt ≤ 1) (fun (u : tSt) => WM K ad u) A) [.ref (ad 0), .int x1].toArray s 0 0 A) (F0 m 15 ls [.int k15_1, .int k15_0]) := by
    intro t1 w15_1 k15_0 k15_1 H locs ls hok hfr hk15_1 hP hD hS hl
    refine lv_icmp_lt (tgt := 29) C.1 C.2.1 dX12_isHere_15 (by decide) (fun c_1 => ?_) (fun c_1 => ?_)
    · replace c_1 : k15_0.toInt < k15_1.toInt := i_lt c_1
      refine lv_iconst (v := 0) C.1 C.2.1 dX12_isHere_29 (by decide) ?_
      exact g_iret C hr hlocks hP hD hS (by decide) t1 rfl ⟨hok, hfr, by decide, by decide⟩ (Nat.le_of_ble_eq_true rfl) (Nat.le_of_ble_eq_true rfl) dX12_isHere_30
    · replace c_1 : k15_1.toInt ≤ k15_0.toInt := i_nlt c_1
      refine lv_iload_n C.1 C.2.1 dX12_isHere_18 rfl (lv_at hl 1 rfl) ?_
      refine lv_sipush (v := 3999) C.1 C.2.1 dX12_isHere_19 (by decide) ?_
      refine lv_icmp_gt (tgt := 29) C.1 C.2.1 dX12_isHere_22 (by decide) (fun c_2 => ?_) (fun c_2 => ?_)
      · replace c_2 : 3999 < w15_1.toInt := i_lt c_2
        refine lv_iconst (v := 0) C.1 C.2.1 dX12_isHere_29 (by decide) ?_
        exact g_iret C hr hlocks hP hD hS (by decide) t1 rfl ⟨hok, hfr, by decide, by decide⟩ (Nat.le_of_ble_eq_true rfl) (Nat.le_of_ble_eq_true rfl) dX12_isHere_30
      · replace c_2 : w15_1.toInt ≤ 3999 := i_nlt c_2
        refine lv_iconst (v := 1) C.1 C.2.1 dX12_isHere_25 (by decide) ?_
        refine lv_goto (tgt := 30) C.1 C.2.1 dX12_isHere_26 (by decide) ?_
        exact g_iret C hr hlocks hP hD hS (by decide) t1 rfl ⟨hok, hfr, by decide, by decide⟩ (Nat.le_of_ble_eq_true rfl) (Nat.le_of_ble_eq_true rfl) dX12_isHere_30
  refine lv_iload_n C.1 C.2.1 dX12_isHere_0 rfl (lv_at hl 1 rfl) ?_
  refine lv_aload_n C.1 C.2.1 dX12_isHere_1 rfl (lv_at hl 0 rfl) ?_
  obtain ⟨v_3, e_4⟩ : ∃ z, z = t.1 0 10 := ⟨_, rfl⟩
  have h_5 : (0 : Int) ≤ v_3.toInt ∧ v_3.toInt ≤ 1 := by rw [e_4]; exact hok.1 0 10
  have h_6 : v_3.toInt = (t.1 0 10).toInt := congrArg Int32.toInt e_4
  refine k_get (v := .int v_3) C hP 0 rfl rfl inlX12 10 (by decide) m_30_0 (by rw [e_4]; rfl) dX12_isHere_2 ?_
  refine lv_if_eq (tgt := 14) C.1 C.2.1 dX12_isHere_5 (by decide) (fun c_7 => ?_) (fun c_7 => ?_)
  · replace c_7 : v_3.toInt = 0 := i_eq c_7
    refine lv_iconst (v := 0) C.1 C.2.1 dX12_isHere_14 (by decide) ?_
    exact L_15 t x1 x1 0 _ _ _ hok hfr ⟨by decide, by decide⟩ hP hD hS (lv_sub hl [0, 1] rfl)
  · replace c_7 : ¬ v_3.toInt = 0 := i_ne c_7
    refine lv_sipush (v := (-3999)) C.1 C.2.1 dX12_isHere_8 (by decide) ?_
    refine lv_goto (tgt := 15) C.1 C.2.1 dX12_isHere_11 (by decide) ?_
    exact L_15 t x1 x1 (-3999) _ _ _ hok hfr ⟨by decide, by decide⟩ hP hD hS (lv_sub hl [0, 1] rfl)

set_option maxHeartbeats 4000000 in
set_option maxRecDepth 100000 in
theorem T_X12_hasOption (l : Launch) (D : va_G) (K : Nat → ClassId) (ad : Nat → Nat) (t : tSt) (hok : okM t) (x1 : Int32) (hx1 : (0 : Int) ≤ x1.toInt ∧ x1.toInt ≤ 4) : uMet l yX12_hasOption cX12_hasOption 2 (some .boolean) (rmD 0 0 0) D K X0 [.ref (ad 0), .int x1] (WM K ad t) (QI D K (fun (r : Int32) (u : tSt) => okM u ∧ frI [] t u ∧ (0 : Int) ≤ r.toInt ∧ r.toInt ≤ 1) (fun (u : tSt) => WM K ad u)) 0 0 := by
  refine k_met RX12 ⟨rfl, by decide +kernel⟩ (Nat.le_of_ble_eq_true rfl) ?_
  intro p e s m below meth c A ls C hX hr hlocks hin hA hP hD hS hl
  have hl : lv_has ls 2 [(0, .ref (ad 0)), (1, .int x1)] := hl
  have hfr : frI [] t t := frI_rf
  refine lv_aload_n C.1 C.2.1 dX12_hasOption_0 rfl (lv_at hl 0 rfl) ?_
  obtain ⟨v_1, e_2⟩ : ∃ z, z = t.1 0 80 := ⟨_, rfl⟩
  have h_3 : (0 : Int) ≤ v_1.toInt ∧ v_1.toInt ≤ 31 := by rw [e_2]; exact hok.1 0 80
  have h_4 : v_1.toInt = (t.1 0 80).toInt := congrArg Int32.toInt e_2
  refine k_get (v := .int v_1) C hP 0 rfl rfl inlX12 80 (by decide) m_79_0 (by rw [e_2]; rfl) dX12_hasOption_1 ?_
  refine lv_iload_n C.1 C.2.1 dX12_hasOption_4 rfl (lv_at hl 1 rfl) ?_
  obtain ⟨v_5, e_6⟩ : ∃ z, z = (v_1 : Int32) >>> ((x1 : Int32) &&& 31) := ⟨_, rfl⟩
  refine k_ishr (v := v_5) C e_6.symm dX12_hasOption_5 ?_
  refine lv_iconst (v := 1) C.1 C.2.1 dX12_hasOption_6 (by decide) ?_
  obtain ⟨v_8, e_9⟩ : ∃ z, z = (v_5 : Int32) &&& (1 : Int32) := ⟨_, rfl⟩
  have h_10 : v_8.toInt = v_5.toInt % 2 ^ 1 := by rw [e_9]; exact Jvm.Kit.i32_mask _ _ (k := 1) (by decide) (by decide)
  refine k_iand (v := v_8) C e_9.symm dX12_hasOption_7 ?_
  refine lv_iconst (v := 1) C.1 C.2.1 dX12_hasOption_8 (by decide) ?_
  refine lv_icmp_ne (tgt := 16) C.1 C.2.1 dX12_hasOption_9 (by decide) (fun c_11 => ?_) (fun c_11 => ?_)
  · replace c_11 : ¬ v_8.toInt = 1 := i_ne c_11
    refine lv_iconst (v := 0) C.1 C.2.1 dX12_hasOption_16 (by decide) ?_
    exact g_iret C hr hlocks hP hD hS (by decide) t rfl ⟨hok, hfr, by decide, by decide⟩ (Nat.le_of_ble_eq_true rfl) (Nat.le_of_ble_eq_true rfl) dX12_hasOption_17
  · replace c_11 : v_8.toInt = 1 := i_eq c_11
    refine lv_iconst (v := 1) C.1 C.2.1 dX12_hasOption_12 (by decide) ?_
    refine lv_goto (tgt := 17) C.1 C.2.1 dX12_hasOption_13 (by decide) ?_
    exact g_iret C hr hlocks hP hD hS (by decide) t rfl ⟨hok, hfr, by decide, by decide⟩ (Nat.le_of_ble_eq_true rfl) (Nat.le_of_ble_eq_true rfl) dX12_hasOption_17

set_option maxHeartbeats 4000000 in
set_option maxRecDepth 100000 in
theorem T_X12_takeImage (l : Launch) (D : va_G) (K : Nat → ClassId) (ad : Nat → Nat) (t : tSt) (hok : okM t)  : uMet l yX12_takeImage cX12_takeImage 2 none (rmD 1 0 0) D K X0 [.ref (ad 0)] (WM K ad t) (QV D K (fun (u : tSt) => okM u ∧ frI [(0, 45)] t u) (fun (u : tSt) => WM K ad u)) 0 0 := by
  refine k_met RX12 ⟨rfl, by decide +kernel⟩ (Nat.le_of_ble_eq_true rfl) ?_
  intro p e s m below meth c A ls C hX hr hlocks hin hA hP hD hS hl
  have hl : lv_has ls 2 [(0, .ref (ad 0))] := hl
  have hfr : frI [(0, 45)] t t := frI_rf
  have L_2 : ∀ (fuel_2 : Nat) (t1 : tSt) (w2_1 : Int32) (H : Heap) (locs : List Loc) (ls : Array Slot), okM t1 → frI [(0, 45)] t t1 → (0 : Int) ≤ w2_1.toInt ∧ w2_1.toInt ≤ 4000 → (4000 : Int) - w2_1.toInt < (fuel_2 : Int) → va_P D vwCl (WM K ad t1) H → va_D A (WM K ad t1) → va_S A s.heap H locs → lv_has ls 2 [(0, .ref (ad 0)), (1, .int w2_1)] → W p l e (rmD 1 0 0) s m [.ref (ad 0)].toArray below meth c H locs 0 0 (MQ below (QV D K (fun (u : tSt) => okM u ∧ frI [(0, 45)] t u) (fun (u : tSt) => WM K ad u) A) [.ref (ad 0)].toArray s 0 0 A) (F0 m 2 ls []) := by
    intro fuel_2
    induction fuel_2 with
    | zero =>
      intro t1 w2_1 H locs ls hok hfr hw2_1 hm2_2 hP hD hS hl
      exact absurd hm2_2 (by omega)
    | succ fuel_2 ih_2 =>
      intro t1 w2_1 H locs ls hok hfr hw2_1 hm2_2 hP hD hS hl
      have hm2_2 : (4000 : Int) - w2_1.toInt < (fuel_2 : Int) + 1 := by omega
      refine lv_iload_n C.1 C.2.1 dX12_takeImage_2 rfl (lv_at hl 1 rfl) ?_
      refine lv_sipush (v := 3999) C.1 C.2.1 dX12_takeImage_3 (by decide) ?_
      refine lv_icmp_gt (tgt := 26) C.1 C.2.1 dX12_takeImage_6 (by decide) (fun c_1 => ?_) (fun c_1 => ?_)
      · replace c_1 : 3999 < w2_1.toInt := i_lt c_1
        refine lv_aload_n C.1 C.2.1 dX12_takeImage_26 rfl (lv_at hl 0 rfl) ?_
        refine lv_aload_n C.1 C.2.1 dX12_takeImage_27 rfl (lv_at hl 0 rfl) ?_
        obtain ⟨v_2, e_3⟩ : ∃ z, z = t1.1 0 90 := ⟨_, rfl⟩
        have h_4 : (-3999 : Int) ≤ v_2.toInt ∧ v_2.toInt ≤ 3999 := by rw [e_3]; exact hok.1 0 90
        have h_5 : v_2.toInt = (t1.1 0 90).toInt := congrArg Int32.toInt e_3
        refine k_get (v := .int v_2) C hP 0 rfl rfl inlX12 90 (by decide) m_80_6 (by rw [e_3]; rfl) dX12_takeImage_28 ?_
        refine k_put (ws' := WM K ad (uI t1 0 45 v_2)) (v := .int v_2) C hP hD hS 0 rfl rfl inlX12 tyX12_ok nmX12 45 (by decide) m_29_0 rfl rfl rfl rfl rfl dX12_takeImage_31 (fun H locs hP hD hS => ?_)
        have hok : okM (uI t1 0 45 v_2) := ⟨okI_I hok.1 0 45 v_2 (show (-3999 : Int) ≤ (v_2 : Int32).toInt ∧ (v_2 : Int32).toInt ≤ 3999 from ⟨by omega, by omega⟩), hok.2⟩
        have hfr : frI [(0, 45)] t (uI t1 0 45 v_2) := frI_I hfr 0 45 _ (by decide)
        exact g_vret C hr hlocks hP hD hS (uI t1 0 45 v_2) rfl ⟨hok, hfr⟩ (Nat.le_of_ble_eq_true rfl) (Nat.le_of_ble_eq_true rfl) dX12_takeImage_34
      · replace c_1 : w2_1.toInt ≤ 3999 := i_nlt c_1
        refine lv_aload_n C.1 C.2.1 dX12_takeImage_9 rfl (lv_at hl 0 rfl) ?_
        refine lv_iload_n C.1 C.2.1 dX12_takeImage_10 rfl (lv_at hl 1 rfl) ?_
        refine lv_aload_n C.1 C.2.1 dX12_takeImage_11 rfl (lv_at hl 0 rfl) ?_
        refine k_get (v := .ref (ad 43)) C hP 0 rfl rfl inlX12 89 (by decide) m_9_3 rfl dX12_takeImage_12 ?_
        refine lv_iload_n C.1 C.2.1 dX12_takeImage_15 rfl (lv_at hl 1 rfl) ?_
        obtain ⟨v_6, e_7⟩ : ∃ z, z = t1.2.2.1 43 (w2_1 : Int32).toNatClampNeg := ⟨_, rfl⟩
        refine k_ild (v := v_6) C hP 43 rfl (vp_in_iff.mpr ⟨by omega, by omega⟩) e_7.symm dX12_takeImage_16 ?_
        refine g_Vv (As := [.int w2_1, .int v_6]) (rest := []) C hP hD hS hA (T_X12_setMemory l D K ad t1 hok (w2_1) (show (-3999 : Int) ≤ (w2_1 : Int32).toInt ∧ (w2_1 : Int32).toInt ≤ 3999 from ⟨by omega, by omega⟩) (v_6)) X0_ok trivial (uwV m_38_15 m_38_16 m_38_17 m_1_5 m_38_18) (hdV 2 (by decide +kernel) rfl) ⟨Nat.le_of_ble_eq_true rfl, Nat.le_of_ble_eq_true rfl⟩ rfl rfl (ci := 11) (q0 := 0) rfl rfl rfl hl.1 (Nat.le_of_ble_eq_true rfl) dX12_takeImage_17 ⟨Nat.le_of_ble_eq_true rfl, Nat.le_of_ble_eq_true rfl⟩ (fun t_8 H locs hw hP hD hS => ?_)
        obtain ⟨hok, f_10⟩ := hw
        have hfr : frI [(0, 45)] t t_8 := frI_tr (m1 := []) hfr f_10 (by decide)
        obtain ⟨v_11, e_12⟩ : ∃ z, z = w2_1 + 1 := ⟨_, rfl⟩
        have h_13 : v_11.toInt = w2_1.toInt + 1 := by rw [e_12]; exact ti_iadd (by show (_ : Int) ≤ w2_1.toInt + 1; omega) (by show w2_1.toInt + 1 < (_ : Int); omega)
        refine lv_iinc (v := v_11) (lv' := [(1, .int v_11), (0, .ref (ad 0))]) C.1 C.2.1 dX12_takeImage_20 hl (k := 1) rfl e_12.symm (by decide) rfl (fun ls hl => ?_)
        have hl : lv_has ls 2 [(0, .ref (ad 0)), (1, .int v_11)] := lv_sub hl [1, 0] rfl
        refine lv_goto (tgt := 2) C.1 C.2.1 dX12_takeImage_23 (by decide) ?_
        exact ih_2 t_8 v_11 _ _ _ hok hfr ⟨by omega, by omega⟩ (show (4000 : Int) - v_11.toInt < (fuel_2 : Int) from by omega) hP hD hS (lv_sub hl [0, 1] rfl)
  refine lv_iconst (v := 0) C.1 C.2.1 dX12_takeImage_0 (by decide) ?_
  refine lv_istore_n (lv' := [(1, .int 0), (0, .ref (ad 0))]) C.1 C.2.1 dX12_takeImage_1 rfl hl (by decide) rfl (fun ls hl => ?_)
  have hl : lv_has ls 2 [(0, .ref (ad 0)), (1, .int 0)] := lv_sub hl [1, 0] rfl
  exact L_2 4001 t 0 _ _ _ hok hfr ⟨by decide, by decide⟩ (show (4000 : Int) - 0 < ((4001 : Nat) : Int) from by omega) hP hD hS (lv_sub hl [0, 1] rfl)

set_option maxHeartbeats 4000000 in
set_option maxRecDepth 100000 in
theorem T_X12_keepImage (l : Launch) (D : va_G) (K : Nat → ClassId) (ad : Nat → Nat) (t : tSt) (hok : okM t)  : uMet l yX12_keepImage cX12_keepImage 2 none (rmD 1 0 0) D K X0 [.ref (ad 0)] (WM K ad t) (QV D K (fun (u : tSt) => okM u ∧ frI [(0, 88), (0, 90)] t u) (fun (u : tSt) => WM K ad u)) 0 0 := by
  refine k_met RX12 ⟨rfl, by decide +kernel⟩ (Nat.le_of_ble_eq_true rfl) ?_
  intro p e s m below meth c A ls C hX hr hlocks hin hA hP hD hS hl
  have hl : lv_has ls 2 [(0, .ref (ad 0))] := hl
  have hfr : frI [(0, 88), (0, 90)] t t := frI_rf
  have L_2 : ∀ (fuel_2 : Nat) (t1 : tSt) (w2_1 : Int32) (H : Heap) (locs : List Loc) (ls : Array Slot), okM t1 → frI [(0, 88), (0, 90)] t t1 → (0 : Int) ≤ w2_1.toInt ∧ w2_1.toInt ≤ 4000 → (4000 : Int) - w2_1.toInt < (fuel_2 : Int) → va_P D vwCl (WM K ad t1) H → va_D A (WM K ad t1) → va_S A s.heap H locs → lv_has ls 2 [(0, .ref (ad 0)), (1, .int w2_1)] → W p l e (rmD 1 0 0) s m [.ref (ad 0)].toArray below meth c H locs 0 0 (MQ below (QV D K (fun (u : tSt) => okM u ∧ frI [(0, 88), (0, 90)] t u) (fun (u : tSt) => WM K ad u) A) [.ref (ad 0)].toArray s 0 0 A) (F0 m 2 ls []) := by
    intro fuel_2
    induction fuel_2 with
    | zero =>
      intro t1 w2_1 H locs ls hok hfr hw2_1 hm2_2 hP hD hS hl
      exact absurd hm2_2 (by omega)
    | succ fuel_2 ih_2 =>
      intro t1 w2_1 H locs ls hok hfr hw2_1 hm2_2 hP hD hS hl
      have hm2_2 : (4000 : Int) - w2_1.toInt < (fuel_2 : Int) + 1 := by omega
      refine lv_iload_n C.1 C.2.1 dX12_keepImage_2 rfl (lv_at hl 1 rfl) ?_
      refine lv_sipush (v := 3999) C.1 C.2.1 dX12_keepImage_3 (by decide) ?_
      refine lv_icmp_gt (tgt := 26) C.1 C.2.1 dX12_keepImage_6 (by decide) (fun c_1 => ?_) (fun c_1 => ?_)
      · replace c_1 : 3999 < w2_1.toInt := i_lt c_1
        refine lv_aload_n C.1 C.2.1 dX12_keepImage_26 rfl (lv_at hl 0 rfl) ?_
        refine lv_aload_n C.1 C.2.1 dX12_keepImage_27 rfl (lv_at hl 0 rfl) ?_
        obtain ⟨v_2, e_3⟩ : ∃ z, z = t1.1 0 45 := ⟨_, rfl⟩
        have h_4 : (-3999 : Int) ≤ v_2.toInt ∧ v_2.toInt ≤ 3999 := by rw [e_3]; exact hok.1 0 45
        have h_5 : v_2.toInt = (t1.1 0 45).toInt := congrArg Int32.toInt e_3
        refine k_get (v := .int v_2) C hP 0 rfl rfl inlX12 45 (by decide) m_29_0 (by rw [e_3]; rfl) dX12_keepImage_28 ?_
        refine k_put (ws' := WM K ad (uI t1 0 90 v_2)) (v := .int v_2) C hP hD hS 0 rfl rfl inlX12 tyX12_ok nmX12 90 (by decide) m_80_6 rfl rfl rfl rfl rfl dX12_keepImage_31 (fun H locs hP hD hS => ?_)
        have hok : okM (uI t1 0 90 v_2) := ⟨okI_I hok.1 0 90 v_2 (show (-3999 : Int) ≤ (v_2 : Int32).toInt ∧ (v_2 : Int32).toInt ≤ 3999 from ⟨by omega, by omega⟩), hok.2⟩
        have hfr : frI [(0, 88), (0, 90)] t (uI t1 0 90 v_2) := frI_I hfr 0 90 _ (by decide)
        refine lv_aload_n C.1 C.2.1 dX12_keepImage_34 rfl (lv_at hl 0 rfl) ?_
        refine lv_iconst (v := 1) C.1 C.2.1 dX12_keepImage_35 (by decide) ?_
        refine k_put (ws' := WM K ad (uI (uI t1 0 90 v_2) 0 88 1)) (v := .int 1) C hP hD hS 0 rfl rfl inlX12 tyX12_ok nmX12 88 (by decide) m_78_15 rfl (by decide) (by decide) rfl rfl dX12_keepImage_36 (fun H locs hP hD hS => ?_)
        have hok : okM (uI (uI t1 0 90 v_2) 0 88 1) := ⟨okI_I hok.1 0 88 1 (show (0 : Int) ≤ (1 : Int32).toInt ∧ (1 : Int32).toInt ≤ 1 from ⟨by decide, by decide⟩), hok.2⟩
        have hfr : frI [(0, 88), (0, 90)] t (uI (uI t1 0 90 v_2) 0 88 1) := frI_I hfr 0 88 _ (by decide)
        exact g_vret C hr hlocks hP hD hS (uI (uI t1 0 90 v_2) 0 88 1) rfl ⟨hok, hfr⟩ (Nat.le_of_ble_eq_true rfl) (Nat.le_of_ble_eq_true rfl) dX12_keepImage_39
      · replace c_1 : w2_1.toInt ≤ 3999 := i_nlt c_1
        refine lv_aload_n C.1 C.2.1 dX12_keepImage_9 rfl (lv_at hl 0 rfl) ?_
        refine k_get (v := .ref (ad 43)) C hP 0 rfl rfl inlX12 89 (by decide) m_9_3 rfl dX12_keepImage_10 ?_
        refine lv_iload_n C.1 C.2.1 dX12_keepImage_13 rfl (lv_at hl 1 rfl) ?_
        refine lv_aload_n C.1 C.2.1 dX12_keepImage_14 rfl (lv_at hl 0 rfl) ?_
        refine lv_iload_n C.1 C.2.1 dX12_keepImage_15 rfl (lv_at hl 1 rfl) ?_
        refine g_Vi (As := [.int w2_1]) (rest := [.int w2_1, .ref (ad 43)]) C hP hD hS hA (T_X12_memoryAt l D K ad t1 hok (w2_1) (show (-3999 : Int) ≤ (w2_1 : Int32).toInt ∧ (w2_1 : Int32).toInt ≤ 3999 from ⟨by omega, by omega⟩)) X0_ok trivial (uwV m_38_19 m_38_20 m_38_21 m_1_5 m_38_22) (hdV 1 (by decide +kernel) rfl) ⟨Nat.le_of_ble_eq_true rfl, Nat.le_of_ble_eq_true rfl⟩ rfl rfl (ci := 11) (q0 := 0) rfl rfl rfl hl.1 (Nat.le_of_ble_eq_true rfl) dX12_keepImage_16 ⟨Nat.le_of_ble_eq_true rfl, Nat.le_of_ble_eq_true rfl⟩ (fun r_7 t_6 H locs hw hP hD hS => ?_)
        obtain ⟨hok, f_8, h_9, h_10⟩ := hw
        have hfr : frI [(0, 88), (0, 90)] t t_6 := frI_tr (m1 := []) hfr f_8 (by decide)
        refine k_ist (ws' := WM K ad (uB t_6 43 (w2_1 : Int32).toNatClampNeg r_7)) (x' := r_7) C hP hD hS 43 rfl (vp_in_iff.mpr ⟨by omega, by omega⟩) rfl rfl rfl dX12_keepImage_19 (fun H locs hP hD hS => ?_)
        have hok : okM (uB t_6 43 (w2_1 : Int32).toNatClampNeg r_7) := ⟨hok.1, okB_B hok.2 43 _ r_7 (show (-2147483648 : Int) ≤ (r_7 : Int32).toInt ∧ (r_7 : Int32).toInt ≤ 2147483647 from (i_rng _))⟩
        have hfr : frI [(0, 88), (0, 90)] t (uB t_6 43 (w2_1 : Int32).toNatClampNeg r_7) := hfr
        obtain ⟨v_11, e_12⟩ : ∃ z, z = w2_1 + 1 := ⟨_, rfl⟩
        have h_13 : v_11.toInt = w2_1.toInt + 1 := by rw [e_12]; exact ti_iadd (by show (_ : Int) ≤ w2_1.toInt + 1; omega) (by show w2_1.toInt + 1 < (_ : Int); omega)
        refine lv_iinc (v := v_11) (lv' := [(1, .int v_11), (0, .ref (ad 0))]) C.1 C.2.1 dX12_keepImage_20 hl (k := 1) rfl e_12.symm (by decide) rfl (fun ls hl => ?_)
        have hl : lv_has ls 2 [(0, .ref (ad 0)), (1, .int v_11)] := lv_sub hl [1, 0] rfl
        refine lv_goto (tgt := 2) C.1 C.2.1 dX12_keepImage_23 (by decide) ?_
        exact ih_2 (uB t_6 43 (w2_1 : Int32).toNatClampNeg r_7) v_11 _ _ _ hok hfr ⟨by omega, by omega⟩ (show (4000 : Int) - v_11.toInt < (fuel_2 : Int) from by omega) hP hD hS (lv_sub hl [0, 1] rfl)
  refine lv_iconst (v := 0) C.1 C.2.1 dX12_keepImage_0 (by decide) ?_
  refine lv_istore_n (lv' := [(1, .int 0), (0, .ref (ad 0))]) C.1 C.2.1 dX12_keepImage_1 rfl hl (by decide) rfl (fun ls hl => ?_)
  have hl : lv_has ls 2 [(0, .ref (ad 0)), (1, .int 0)] := lv_sub hl [1, 0] rfl
  exact L_2 4001 t 0 _ _ _ hok hfr ⟨by decide, by decide⟩ (show (4000 : Int) - 0 < ((4001 : Nat) : Int) from by omega) hP hD hS (lv_sub hl [0, 1] rfl)

set_option maxHeartbeats 4000000 in
set_option maxRecDepth 100000 in
theorem T_X12_isOperation (l : Launch) (D : va_G) (K : Nat → ClassId) (ad : Nat → Nat) (t : tSt) (hok : okM t)  : uMet l yX12_isOperation cX12_isOperation 1 (some .boolean) (rmD 0 0 0) D K X0 [.ref (ad 0)] (WM K ad t) (QI D K (fun (r : Int32) (u : tSt) => okM u ∧ frI [] t u ∧ (0 : Int) ≤ r.toInt ∧ r.toInt ≤ 1) (fun (u : tSt) => WM K ad u)) 0 0 := by
  refine k_met RX12 ⟨rfl, by decide +kernel⟩ (Nat.le_of_ble_eq_true rfl) ?_
  intro p e s m below meth c A ls C hX hr hlocks hin hA hP hD hS hl
  have hl : lv_has ls 1 [(0, .ref (ad 0))] := hl
  have hfr : frI [] t t := frI_rf
  have L_92 : ∀ (t1 : tSt) (H : Heap) (locs : List Loc) (ls : Array Slot), okM t1 → frI [] t t1 → va_P D vwCl (WM K ad t1) H → va_D A (WM K ad t1) → va_S A s.heap H locs → lv_has ls 1 [(0, .ref (ad 0))] → W p l e (rmD 0 0 0) s m [.ref (ad 0)].toArray below meth c H locs 0 0 (MQ below (QI D K (fun (r : Int32) (u : tSt) => okM u ∧ frI [] t u ∧ (0 : Int) ≤ r.toInt ∧ r.toInt ≤ 1) (fun (u : tSt) => WM K ad u) A) [.ref (ad 0)].toArray s 0 0 A) (F0 m 92 ls []) := by
    intro t1 H locs ls hok hfr hP hD hS hl
    refine lv_aload_n C.1 C.2.1 dX12_isOperation_92 rfl (lv_at hl 0 rfl) ?_
    obtain ⟨v_1, e_2⟩ : ∃ z, z = t1.1 0 16 := ⟨_, rfl⟩
    have h_3 : (0 : Int) ≤ v_1.toInt ∧ v_1.toInt ≤ 63 := by rw [e_2]; exact hok.1 0 16
    have h_4 : v_1.toInt = (t1.1 0 16).toInt := congrArg Int32.toInt e_2
    refine k_get (v := .int v_1) C hP 0 rfl rfl inlX12 16 (by decide) m_57_3 (by rw [e_2]; rfl) dX12_isOperation_93 ?_
    refine lv_bipush (v := 39) C.1 C.2.1 dX12_isOperation_96 (by decide) ?_
    refine lv_icmp_ne (tgt := 116) C.1 C.2.1 dX12_isOperation_98 (by decide) (fun c_5 => ?_) (fun c_5 => ?_)
    · replace c_5 : ¬ v_1.toInt = 39 := i_ne c_5
      refine lv_aload_n C.1 C.2.1 dX12_isOperation_116 rfl (lv_at hl 0 rfl) ?_
      refine k_get (v := .int v_1) C hP 0 rfl rfl inlX12 16 (by decide) m_57_3 (by rw [e_2]; rfl) dX12_isOperation_117 ?_
      refine lv_bipush (v := 48) C.1 C.2.1 dX12_isOperation_120 (by decide) ?_
      refine lv_icmp_lt (tgt := 142) C.1 C.2.1 dX12_isOperation_122 (by decide) (fun c_6 => ?_) (fun c_6 => ?_)
      · replace c_6 : v_1.toInt < 48 := i_lt c_6
        refine lv_iconst (v := 1) C.1 C.2.1 dX12_isOperation_142 (by decide) ?_
        refine lv_goto (tgt := 147) C.1 C.2.1 dX12_isOperation_143 (by decide) ?_
        exact g_iret C hr hlocks hP hD hS (by decide) t1 rfl ⟨hok, hfr, by decide, by decide⟩ (Nat.le_of_ble_eq_true rfl) (Nat.le_of_ble_eq_true rfl) dX12_isOperation_147
      · replace c_6 : 48 ≤ v_1.toInt := i_nlt c_6
        refine lv_aload_n C.1 C.2.1 dX12_isOperation_125 rfl (lv_at hl 0 rfl) ?_
        refine k_get (v := .int v_1) C hP 0 rfl rfl inlX12 16 (by decide) m_57_3 (by rw [e_2]; rfl) dX12_isOperation_126 ?_
        refine lv_bipush (v := 55) C.1 C.2.1 dX12_isOperation_129 (by decide) ?_
        refine lv_icmp_gt (tgt := 142) C.1 C.2.1 dX12_isOperation_131 (by decide) (fun c_7 => ?_) (fun c_7 => ?_)
        · replace c_7 : 55 < v_1.toInt := i_lt c_7
          refine lv_iconst (v := 1) C.1 C.2.1 dX12_isOperation_142 (by decide) ?_
          refine lv_goto (tgt := 147) C.1 C.2.1 dX12_isOperation_143 (by decide) ?_
          exact g_iret C hr hlocks hP hD hS (by decide) t1 rfl ⟨hok, hfr, by decide, by decide⟩ (Nat.le_of_ble_eq_true rfl) (Nat.le_of_ble_eq_true rfl) dX12_isOperation_147
        · replace c_7 : v_1.toInt ≤ 55 := i_nlt c_7
          refine lv_aload_n C.1 C.2.1 dX12_isOperation_134 rfl (lv_at hl 0 rfl) ?_
          obtain ⟨v_8, e_9⟩ : ∃ z, z = t1.1 0 17 := ⟨_, rfl⟩
          have h_10 : (0 : Int) ≤ v_8.toInt ∧ v_8.toInt ≤ 63 := by rw [e_9]; exact hok.1 0 17
          have h_11 : v_8.toInt = (t1.1 0 17).toInt := congrArg Int32.toInt e_9
          refine k_get (v := .int v_8) C hP 0 rfl rfl inlX12 17 (by decide) m_57_4 (by rw [e_9]; rfl) dX12_isOperation_135 ?_
          refine lv_iconst (v := 4) C.1 C.2.1 dX12_isOperation_138 (by decide) ?_
          refine lv_icmp_ge (tgt := 146) C.1 C.2.1 dX12_isOperation_139 (by decide) (fun c_12 => ?_) (fun c_12 => ?_)
          · replace c_12 : 4 ≤ v_8.toInt := i_le c_12
            refine lv_iconst (v := 0) C.1 C.2.1 dX12_isOperation_146 (by decide) ?_
            exact g_iret C hr hlocks hP hD hS (by decide) t1 rfl ⟨hok, hfr, by decide, by decide⟩ (Nat.le_of_ble_eq_true rfl) (Nat.le_of_ble_eq_true rfl) dX12_isOperation_147
          · replace c_12 : v_8.toInt < 4 := i_nle c_12
            refine lv_iconst (v := 1) C.1 C.2.1 dX12_isOperation_142 (by decide) ?_
            refine lv_goto (tgt := 147) C.1 C.2.1 dX12_isOperation_143 (by decide) ?_
            exact g_iret C hr hlocks hP hD hS (by decide) t1 rfl ⟨hok, hfr, by decide, by decide⟩ (Nat.le_of_ble_eq_true rfl) (Nat.le_of_ble_eq_true rfl) dX12_isOperation_147
    · replace c_5 : v_1.toInt = 39 := i_eq c_5
      refine lv_aload_n C.1 C.2.1 dX12_isOperation_101 rfl (lv_at hl 0 rfl) ?_
      obtain ⟨v_13, e_14⟩ : ∃ z, z = t1.1 0 17 := ⟨_, rfl⟩
      have h_15 : (0 : Int) ≤ v_13.toInt ∧ v_13.toInt ≤ 63 := by rw [e_14]; exact hok.1 0 17
      have h_16 : v_13.toInt = (t1.1 0 17).toInt := congrArg Int32.toInt e_14
      refine k_get (v := .int v_13) C hP 0 rfl rfl inlX12 17 (by decide) m_57_4 (by rw [e_14]; rfl) dX12_isOperation_102 ?_
      refine lv_bipush (v := 10) C.1 C.2.1 dX12_isOperation_105 (by decide) ?_
      refine lv_icmp_ge (tgt := 114) C.1 C.2.1 dX12_isOperation_107 (by decide) (fun c_17 => ?_) (fun c_17 => ?_)
      · replace c_17 : 10 ≤ v_13.toInt := i_le c_17
        refine lv_iconst (v := 0) C.1 C.2.1 dX12_isOperation_114 (by decide) ?_
        exact g_iret C hr hlocks hP hD hS (by decide) t1 rfl ⟨hok, hfr, by decide, by decide⟩ (Nat.le_of_ble_eq_true rfl) (Nat.le_of_ble_eq_true rfl) dX12_isOperation_115
      · replace c_17 : v_13.toInt < 10 := i_nle c_17
        refine lv_iconst (v := 1) C.1 C.2.1 dX12_isOperation_110 (by decide) ?_
        refine lv_goto (tgt := 115) C.1 C.2.1 dX12_isOperation_111 (by decide) ?_
        exact g_iret C hr hlocks hP hD hS (by decide) t1 rfl ⟨hok, hfr, by decide, by decide⟩ (Nat.le_of_ble_eq_true rfl) (Nat.le_of_ble_eq_true rfl) dX12_isOperation_115
  have L_77 : ∀ (t1 : tSt) (H : Heap) (locs : List Loc) (ls : Array Slot), okM t1 → frI [] t t1 → (6 : Int) ≤ (t1.1 0 16).toInt ∧ (t1.1 0 16).toInt ≤ 47 → va_P D vwCl (WM K ad t1) H → va_D A (WM K ad t1) → va_S A s.heap H locs → lv_has ls 1 [(0, .ref (ad 0))] → W p l e (rmD 0 0 0) s m [.ref (ad 0)].toArray below meth c H locs 0 0 (MQ below (QI D K (fun (r : Int32) (u : tSt) => okM u ∧ frI [] t u ∧ (0 : Int) ≤ r.toInt ∧ r.toInt ≤ 1) (fun (u : tSt) => WM K ad u) A) [.ref (ad 0)].toArray s 0 0 A) (F0 m 77 ls []) := by
    intro t1 H locs ls hok hfr hf77_16 hP hD hS hl
    refine lv_aload_n C.1 C.2.1 dX12_isOperation_77 rfl (lv_at hl 0 rfl) ?_
    obtain ⟨v_18, e_19⟩ : ∃ z, z = t1.1 0 17 := ⟨_, rfl⟩
    have h_20 : (0 : Int) ≤ v_18.toInt ∧ v_18.toInt ≤ 63 := by rw [e_19]; exact hok.1 0 17
    have h_21 : v_18.toInt = (t1.1 0 17).toInt := congrArg Int32.toInt e_19
    refine k_get (v := .int v_18) C hP 0 rfl rfl inlX12 17 (by decide) m_57_4 (by rw [e_19]; rfl) dX12_isOperation_78 ?_
    refine lv_bipush (v := 6) C.1 C.2.1 dX12_isOperation_81 (by decide) ?_
    refine lv_icmp_ge (tgt := 90) C.1 C.2.1 dX12_isOperation_83 (by decide) (fun c_22 => ?_) (fun c_22 => ?_)
    · replace c_22 : 6 ≤ v_18.toInt := i_le c_22
      refine lv_iconst (v := 0) C.1 C.2.1 dX12_isOperation_90 (by decide) ?_
      exact g_iret C hr hlocks hP hD hS (by decide) t1 rfl ⟨hok, hfr, by decide, by decide⟩ (Nat.le_of_ble_eq_true rfl) (Nat.le_of_ble_eq_true rfl) dX12_isOperation_91
    · replace c_22 : v_18.toInt < 6 := i_nle c_22
      refine lv_iconst (v := 1) C.1 C.2.1 dX12_isOperation_86 (by decide) ?_
      refine lv_goto (tgt := 91) C.1 C.2.1 dX12_isOperation_87 (by decide) ?_
      exact g_iret C hr hlocks hP hD hS (by decide) t1 rfl ⟨hok, hfr, by decide, by decide⟩ (Nat.le_of_ble_eq_true rfl) (Nat.le_of_ble_eq_true rfl) dX12_isOperation_91
  have L_41 : ∀ (t1 : tSt) (k41_0 : Int32) (k41_1 : Int32) (H : Heap) (locs : List Loc) (ls : Array Slot), okM t1 → frI [] t t1 → (0 : Int) ≤ k41_0.toInt ∧ k41_0.toInt ≤ 63 → (3 : Int) ≤ k41_1.toInt ∧ k41_1.toInt ≤ 4 → (5 : Int) ≤ (t1.1 0 16).toInt ∧ (t1.1 0 16).toInt ≤ 5 → va_P D vwCl (WM K ad t1) H → va_D A (WM K ad t1) → va_S A s.heap H locs → lv_has ls 1 [(0, .ref (ad 0))] → W p l e (rmD 0 0 0) s m [.ref (ad 0)].toArray below meth c H locs 0 0 (MQ below (QI D K (fun (r : Int32) (u : tSt) => okM u ∧ frI [] t u ∧ (0 : Int) ≤ r.toInt ∧ r.toInt ≤ 1) (fun (u : tSt) => WM K ad u) A) [.ref (ad 0)].toArray s 0 0 A) (F0 m 41 ls [.int k41_1, .int k41_0]) := by
    intro t1 k41_0 k41_1 H locs ls hok hfr hk41_0 hk41_1 hf41_16 hP hD hS hl
    refine lv_icmp_ge (tgt := 48) C.1 C.2.1 dX12_isOperation_41 (by decide) (fun c_23 => ?_) (fun c_23 => ?_)
    · replace c_23 : k41_1.toInt ≤ k41_0.toInt := i_le c_23
      refine lv_iconst (v := 0) C.1 C.2.1 dX12_isOperation_48 (by decide) ?_
      exact g_iret C hr hlocks hP hD hS (by decide) t1 rfl ⟨hok, hfr, by decide, by decide⟩ (Nat.le_of_ble_eq_true rfl) (Nat.le_of_ble_eq_true rfl) dX12_isOperation_49
    · replace c_23 : k41_0.toInt < k41_1.toInt := i_nle c_23
      refine lv_iconst (v := 1) C.1 C.2.1 dX12_isOperation_44 (by decide) ?_
      refine lv_goto (tgt := 49) C.1 C.2.1 dX12_isOperation_45 (by decide) ?_
      exact g_iret C hr hlocks hP hD hS (by decide) t1 rfl ⟨hok, hfr, by decide, by decide⟩ (Nat.le_of_ble_eq_true rfl) (Nat.le_of_ble_eq_true rfl) dX12_isOperation_49
  refine lv_aload_n C.1 C.2.1 dX12_isOperation_0 rfl (lv_at hl 0 rfl) ?_
  obtain ⟨v_24, e_25⟩ : ∃ z, z = t.1 0 15 := ⟨_, rfl⟩
  have h_26 : v_24.toInt = (t.1 0 15).toInt := congrArg Int32.toInt e_25
  refine k_get (v := .int v_24) C hP 0 rfl rfl inlX12 15 (by decide) m_57_2 (by rw [e_25]; rfl) dX12_isOperation_1 ?_
  refine lv_bipush (v := 12) C.1 C.2.1 dX12_isOperation_4 (by decide) ?_
  obtain ⟨v_27, e_28⟩ : ∃ z, z = (v_24 : Int32) >>> ((12 : Int32) &&& 31) := ⟨_, rfl⟩
  have h_29 : v_27.toInt = v_24.toInt / 2 ^ 12 := by rw [e_28]; exact Jvm.Kit.i32_shr _ _ (k := 12) (by decide)
  refine k_ishr (v := v_27) C e_28.symm dX12_isOperation_6 ?_
  refine lv_bipush (v := 63) C.1 C.2.1 dX12_isOperation_7 (by decide) ?_
  obtain ⟨v_30, e_31⟩ : ∃ z, z = (v_27 : Int32) &&& (63 : Int32) := ⟨_, rfl⟩
  have h_32 : v_30.toInt = v_27.toInt % 2 ^ 6 := by rw [e_31]; exact Jvm.Kit.i32_mask _ _ (k := 6) (by decide) (by decide)
  refine k_iand (v := v_30) C e_31.symm dX12_isOperation_9 ?_
  refine lv_bipush (v := 6) C.1 C.2.1 dX12_isOperation_10 (by decide) ?_
  refine lv_icmp_le (tgt := 17) C.1 C.2.1 dX12_isOperation_12 (by decide) (fun c_33 => ?_) (fun c_33 => ?_)
  · replace c_33 : v_30.toInt ≤ 6 := i_le c_33
    refine lv_aload_n C.1 C.2.1 dX12_isOperation_17 rfl (lv_at hl 0 rfl) ?_
    obtain ⟨v_34, e_35⟩ : ∃ z, z = t.1 0 16 := ⟨_, rfl⟩
    have h_36 : (0 : Int) ≤ v_34.toInt ∧ v_34.toInt ≤ 63 := by rw [e_35]; exact hok.1 0 16
    have h_37 : v_34.toInt = (t.1 0 16).toInt := congrArg Int32.toInt e_35
    refine k_get (v := .int v_34) C hP 0 rfl rfl inlX12 16 (by decide) m_57_3 (by rw [e_35]; rfl) dX12_isOperation_18 ?_
    refine lv_iconst (v := 5) C.1 C.2.1 dX12_isOperation_21 (by decide) ?_
    refine lv_icmp_ne (tgt := 50) C.1 C.2.1 dX12_isOperation_22 (by decide) (fun c_38 => ?_) (fun c_38 => ?_)
    · replace c_38 : ¬ v_34.toInt = 5 := i_ne c_38
      refine lv_aload_n C.1 C.2.1 dX12_isOperation_50 rfl (lv_at hl 0 rfl) ?_
      refine k_get (v := .int v_34) C hP 0 rfl rfl inlX12 16 (by decide) m_57_3 (by rw [e_35]; rfl) dX12_isOperation_51 ?_
      refine lv_bipush (v := 6) C.1 C.2.1 dX12_isOperation_54 (by decide) ?_
      refine lv_icmp_eq (tgt := 77) C.1 C.2.1 dX12_isOperation_56 (by decide) (fun c_39 => ?_) (fun c_39 => ?_)
      · replace c_39 : v_34.toInt = 6 := i_eq c_39
        exact L_77 t _ _ _ hok hfr (show (6 : Int) ≤ (v_34 : Int32).toInt ∧ (v_34 : Int32).toInt ≤ 47 from ⟨by omega, by omega⟩) hP hD hS (lv_sub hl [0] rfl)
      · replace c_39 : ¬ v_34.toInt = 6 := i_ne c_39
        refine lv_aload_n C.1 C.2.1 dX12_isOperation_59 rfl (lv_at hl 0 rfl) ?_
        refine k_get (v := .int v_34) C hP 0 rfl rfl inlX12 16 (by decide) m_57_3 (by rw [e_35]; rfl) dX12_isOperation_60 ?_
        refine lv_bipush (v := 39) C.1 C.2.1 dX12_isOperation_63 (by decide) ?_
        refine lv_icmp_le (tgt := 92) C.1 C.2.1 dX12_isOperation_65 (by decide) (fun c_40 => ?_) (fun c_40 => ?_)
        · replace c_40 : v_34.toInt ≤ 39 := i_le c_40
          exact L_92 t _ _ _ hok hfr hP hD hS (lv_sub hl [0] rfl)
        · replace c_40 : 39 < v_34.toInt := i_nle c_40
          refine lv_aload_n C.1 C.2.1 dX12_isOperation_68 rfl (lv_at hl 0 rfl) ?_
          refine k_get (v := .int v_34) C hP 0 rfl rfl inlX12 16 (by decide) m_57_3 (by rw [e_35]; rfl) dX12_isOperation_69 ?_
          refine lv_bipush (v := 48) C.1 C.2.1 dX12_isOperation_72 (by decide) ?_
          refine lv_icmp_ge (tgt := 92) C.1 C.2.1 dX12_isOperation_74 (by decide) (fun c_41 => ?_) (fun c_41 => ?_)
          · replace c_41 : 48 ≤ v_34.toInt := i_le c_41
            exact L_92 t _ _ _ hok hfr hP hD hS (lv_sub hl [0] rfl)
          · replace c_41 : v_34.toInt < 48 := i_nle c_41
            exact L_77 t _ _ _ hok hfr (show (6 : Int) ≤ (v_34 : Int32).toInt ∧ (v_34 : Int32).toInt ≤ 47 from ⟨by omega, by omega⟩) hP hD hS (lv_sub hl [0] rfl)
    · replace c_38 : v_34.toInt = 5 := i_eq c_38
      refine lv_aload_n C.1 C.2.1 dX12_isOperation_25 rfl (lv_at hl 0 rfl) ?_
      obtain ⟨v_42, e_43⟩ : ∃ z, z = t.1 0 17 := ⟨_, rfl⟩
      have h_44 : (0 : Int) ≤ v_42.toInt ∧ v_42.toInt ≤ 63 := by rw [e_43]; exact hok.1 0 17
      have h_45 : v_42.toInt = (t.1 0 17).toInt := congrArg Int32.toInt e_43
      refine k_get (v := .int v_42) C hP 0 rfl rfl inlX12 17 (by decide) m_57_4 (by rw [e_43]; rfl) dX12_isOperation_26 ?_
      refine lv_aload_n C.1 C.2.1 dX12_isOperation_29 rfl (lv_at hl 0 rfl) ?_
      obtain ⟨v_46, e_47⟩ : ∃ z, z = t.1 0 10 := ⟨_, rfl⟩
      have h_48 : (0 : Int) ≤ v_46.toInt ∧ v_46.toInt ≤ 1 := by rw [e_47]; exact hok.1 0 10
      have h_49 : v_46.toInt = (t.1 0 10).toInt := congrArg Int32.toInt e_47
      refine k_get (v := .int v_46) C hP 0 rfl rfl inlX12 10 (by decide) m_30_0 (by rw [e_47]; rfl) dX12_isOperation_30 ?_
      refine lv_if_eq (tgt := 40) C.1 C.2.1 dX12_isOperation_33 (by decide) (fun c_50 => ?_) (fun c_50 => ?_)
      · replace c_50 : v_46.toInt = 0 := i_eq c_50
        refine lv_iconst (v := 3) C.1 C.2.1 dX12_isOperation_40 (by decide) ?_
        exact L_41 t v_42 3 _ _ _ hok hfr ⟨by omega, by omega⟩ ⟨by decide, by decide⟩ (show (5 : Int) ≤ (v_34 : Int32).toInt ∧ (v_34 : Int32).toInt ≤ 5 from ⟨by omega, by omega⟩) hP hD hS (lv_sub hl [0] rfl)
      · replace c_50 : ¬ v_46.toInt = 0 := i_ne c_50
        refine lv_iconst (v := 4) C.1 C.2.1 dX12_isOperation_36 (by decide) ?_
        refine lv_goto (tgt := 41) C.1 C.2.1 dX12_isOperation_37 (by decide) ?_
        exact L_41 t v_42 4 _ _ _ hok hfr ⟨by omega, by omega⟩ ⟨by decide, by decide⟩ (show (5 : Int) ≤ (v_34 : Int32).toInt ∧ (v_34 : Int32).toInt ≤ 5 from ⟨by omega, by omega⟩) hP hD hS (lv_sub hl [0] rfl)
  · replace c_33 : 6 < v_30.toInt := i_nle c_33
    refine lv_iconst (v := 0) C.1 C.2.1 dX12_isOperation_15 (by decide) ?_
    exact g_iret C hr hlocks hP hD hS (by decide) t rfl ⟨hok, hfr, by decide, by decide⟩ (Nat.le_of_ble_eq_true rfl) (Nat.le_of_ble_eq_true rfl) dX12_isOperation_16

set_option maxHeartbeats 4000000 in
set_option maxRecDepth 100000 in
theorem T_X12_cost (l : Launch) (D : va_G) (K : Nat → ClassId) (ad : Nat → Nat) (t : tSt) (hok : okM t)  : uMet l yX12_cost cX12_cost 3 (some .long) (rmD 0 0 0) D K X0 [.ref (ad 0)] (WM K ad t) (QL D K (fun (r : Int64) (u : tSt) => okM u ∧ frI [] t u) (fun (u : tSt) => WM K ad u)) 0 0 := by
  refine k_met RX12 ⟨rfl, by decide +kernel⟩ (Nat.le_of_ble_eq_true rfl) ?_
  intro p e s m below meth c A ls C hX hr hlocks hin hA hP hD hS hl
  have hl : lv_has ls 3 [(0, .ref (ad 0))] := hl
  have hfr : frI [] t t := frI_rf
  have L_193 : ∀ (t1 : tSt) (k193_0 : Int64) (H : Heap) (locs : List Loc) (ls : Array Slot), okM t1 → frI [] t t1 → (34 : Int) ≤ (t1.1 0 16).toInt ∧ (t1.1 0 16).toInt ≤ 55 → va_P D vwCl (WM K ad t1) H → va_D A (WM K ad t1) → va_S A s.heap H locs → lv_has ls 3 [(0, .ref (ad 0))] → W p l e (rmD 0 0 0) s m [.ref (ad 0)].toArray below meth c H locs 0 0 (MQ below (QL D K (fun (r : Int64) (u : tSt) => okM u ∧ frI [] t u) (fun (u : tSt) => WM K ad u) A) [.ref (ad 0)].toArray s 0 0 A) (F0 m 193 ls [.long k193_0]) := by
    intro t1 k193_0 H locs ls hok hfr hf193_16 hP hD hS hl
    refine lv_lstore_n (lv' := [(1, .long k193_0), (0, .ref (ad 0))]) C.1 C.2.1 dX12_cost_193 rfl hl (by decide) rfl (fun ls hl => ?_)
    have hl : lv_has ls 3 [(0, .ref (ad 0)), (1, .long k193_0)] := lv_sub hl [1, 0] rfl
    refine lv_lconst (v := 1) C.1 C.2.1 dX12_cost_194 (by decide) ?_
    refine lv_lload_n C.1 C.2.1 dX12_cost_195 rfl (lv_at hl 1 rfl) ?_
    obtain ⟨v_1, e_2⟩ : ∃ z, z = (1 : Int64) + (k193_0 : Int64) := ⟨_, rfl⟩
    refine k_ladd (v := v_1) C e_2.symm dX12_cost_196 ?_
    exact g_lret C hr hlocks hP hD hS t1 rfl ⟨hok, hfr⟩ (Nat.le_of_ble_eq_true rfl) (Nat.le_of_ble_eq_true rfl) dX12_cost_197
  have L_192 : ∀ (t1 : tSt) (H : Heap) (locs : List Loc) (ls : Array Slot), okM t1 → frI [] t t1 → (34 : Int) ≤ (t1.1 0 16).toInt ∧ (t1.1 0 16).toInt ≤ 55 → va_P D vwCl (WM K ad t1) H → va_D A (WM K ad t1) → va_S A s.heap H locs → lv_has ls 3 [(0, .ref (ad 0))] → W p l e (rmD 0 0 0) s m [.ref (ad 0)].toArray below meth c H locs 0 0 (MQ below (QL D K (fun (r : Int64) (u : tSt) => okM u ∧ frI [] t u) (fun (u : tSt) => WM K ad u) A) [.ref (ad 0)].toArray s 0 0 A) (F0 m 192 ls []) := by
    intro t1 H locs ls hok hfr hf192_16 hP hD hS hl
    refine lv_lconst (v := 0) C.1 C.2.1 dX12_cost_192 (by decide) ?_
    exact L_193 t1 0 _ _ _ hok hfr (show (34 : Int) ≤ ((t1.1 0 16) : Int32).toInt ∧ ((t1.1 0 16) : Int32).toInt ≤ 55 from ⟨by omega, by omega⟩) hP hD hS (lv_sub hl [0] rfl)
  refine lv_aload_n C.1 C.2.1 dX12_cost_0 rfl (lv_at hl 0 rfl) ?_
  obtain ⟨v_3, e_4⟩ : ∃ z, z = t.1 0 16 := ⟨_, rfl⟩
  have h_5 : (0 : Int) ≤ v_3.toInt ∧ v_3.toInt ≤ 63 := by rw [e_4]; exact hok.1 0 16
  have h_6 : v_3.toInt = (t.1 0 16).toInt := congrArg Int32.toInt e_4
  refine k_get (v := .int v_3) C hP 0 rfl rfl inlX12 16 (by decide) m_57_3 (by rw [e_4]; rfl) dX12_cost_1 ?_
  refine lv_if_ne (tgt := 9) C.1 C.2.1 dX12_cost_4 (by decide) (fun c_7 => ?_) (fun c_7 => ?_)
  · replace c_7 : ¬ v_3.toInt = 0 := i_ne c_7
    refine lv_aload_n C.1 C.2.1 dX12_cost_9 rfl (lv_at hl 0 rfl) ?_
    refine k_get (v := .int v_3) C hP 0 rfl rfl inlX12 16 (by decide) m_57_3 (by rw [e_4]; rfl) dX12_cost_10 ?_
    refine lv_iconst (v := 3) C.1 C.2.1 dX12_cost_13 (by decide) ?_
    refine lv_icmp_ge (tgt := 21) C.1 C.2.1 dX12_cost_14 (by decide) (fun c_8 => ?_) (fun c_8 => ?_)
    · replace c_8 : 3 ≤ v_3.toInt := i_le c_8
      refine lv_aload_n C.1 C.2.1 dX12_cost_21 rfl (lv_at hl 0 rfl) ?_
      refine k_get (v := .int v_3) C hP 0 rfl rfl inlX12 16 (by decide) m_57_3 (by rw [e_4]; rfl) dX12_cost_22 ?_
      refine lv_iconst (v := 3) C.1 C.2.1 dX12_cost_25 (by decide) ?_
      refine lv_icmp_ne (tgt := 33) C.1 C.2.1 dX12_cost_26 (by decide) (fun c_9 => ?_) (fun c_9 => ?_)
      · replace c_9 : ¬ v_3.toInt = 3 := i_ne c_9
        refine lv_aload_n C.1 C.2.1 dX12_cost_33 rfl (lv_at hl 0 rfl) ?_
        refine k_get (v := .int v_3) C hP 0 rfl rfl inlX12 16 (by decide) m_57_3 (by rw [e_4]; rfl) dX12_cost_34 ?_
        refine lv_iconst (v := 4) C.1 C.2.1 dX12_cost_37 (by decide) ?_
        refine lv_icmp_ne (tgt := 45) C.1 C.2.1 dX12_cost_38 (by decide) (fun c_10 => ?_) (fun c_10 => ?_)
        · replace c_10 : ¬ v_3.toInt = 4 := i_ne c_10
          refine lv_aload_n C.1 C.2.1 dX12_cost_45 rfl (lv_at hl 0 rfl) ?_
          refine k_get (v := .int v_3) C hP 0 rfl rfl inlX12 16 (by decide) m_57_3 (by rw [e_4]; rfl) dX12_cost_46 ?_
          refine lv_iconst (v := 5) C.1 C.2.1 dX12_cost_49 (by decide) ?_
          refine lv_icmp_ne (tgt := 71) C.1 C.2.1 dX12_cost_50 (by decide) (fun c_11 => ?_) (fun c_11 => ?_)
          · replace c_11 : ¬ v_3.toInt = 5 := i_ne c_11
            refine lv_aload_n C.1 C.2.1 dX12_cost_71 rfl (lv_at hl 0 rfl) ?_
            refine k_get (v := .int v_3) C hP 0 rfl rfl inlX12 16 (by decide) m_57_3 (by rw [e_4]; rfl) dX12_cost_72 ?_
            refine lv_bipush (v := 6) C.1 C.2.1 dX12_cost_75 (by decide) ?_
            refine lv_icmp_ne (tgt := 84) C.1 C.2.1 dX12_cost_77 (by decide) (fun c_12 => ?_) (fun c_12 => ?_)
            · replace c_12 : ¬ v_3.toInt = 6 := i_ne c_12
              refine lv_aload_n C.1 C.2.1 dX12_cost_84 rfl (lv_at hl 0 rfl) ?_
              refine k_get (v := .int v_3) C hP 0 rfl rfl inlX12 16 (by decide) m_57_3 (by rw [e_4]; rfl) dX12_cost_85 ?_
              refine lv_bipush (v := 7) C.1 C.2.1 dX12_cost_88 (by decide) ?_
              refine lv_icmp_ne (tgt := 105) C.1 C.2.1 dX12_cost_90 (by decide) (fun c_13 => ?_) (fun c_13 => ?_)
              · replace c_13 : ¬ v_3.toInt = 7 := i_ne c_13
                refine lv_aload_n C.1 C.2.1 dX12_cost_105 rfl (lv_at hl 0 rfl) ?_
                refine k_get (v := .int v_3) C hP 0 rfl rfl inlX12 16 (by decide) m_57_3 (by rw [e_4]; rfl) dX12_cost_106 ?_
                refine lv_bipush (v := 34) C.1 C.2.1 dX12_cost_109 (by decide) ?_
                refine lv_icmp_ge (tgt := 118) C.1 C.2.1 dX12_cost_111 (by decide) (fun c_14 => ?_) (fun c_14 => ?_)
                · replace c_14 : 34 ≤ v_3.toInt := i_le c_14
                  refine lv_aload_n C.1 C.2.1 dX12_cost_118 rfl (lv_at hl 0 rfl) ?_
                  refine k_get (v := .int v_3) C hP 0 rfl rfl inlX12 16 (by decide) m_57_3 (by rw [e_4]; rfl) dX12_cost_119 ?_
                  refine lv_bipush (v := 55) C.1 C.2.1 dX12_cost_122 (by decide) ?_
                  refine lv_icmp_le (tgt := 131) C.1 C.2.1 dX12_cost_124 (by decide) (fun c_15 => ?_) (fun c_15 => ?_)
                  · replace c_15 : v_3.toInt ≤ 55 := i_le c_15
                    refine lv_aload_n C.1 C.2.1 dX12_cost_131 rfl (lv_at hl 0 rfl) ?_
                    refine k_get (v := .int v_3) C hP 0 rfl rfl inlX12 16 (by decide) m_57_3 (by rw [e_4]; rfl) dX12_cost_132 ?_
                    refine lv_bipush (v := 34) C.1 C.2.1 dX12_cost_135 (by decide) ?_
                    refine lv_icmp_le (tgt := 192) C.1 C.2.1 dX12_cost_137 (by decide) (fun c_16 => ?_) (fun c_16 => ?_)
                    · replace c_16 : v_3.toInt ≤ 34 := i_le c_16
                      exact L_192 t _ _ _ hok hfr (show (34 : Int) ≤ (v_3 : Int32).toInt ∧ (v_3 : Int32).toInt ≤ 55 from ⟨by omega, by omega⟩) hP hD hS (lv_sub hl [0] rfl)
                    · replace c_16 : 34 < v_3.toInt := i_nle c_16
                      refine lv_aload_n C.1 C.2.1 dX12_cost_140 rfl (lv_at hl 0 rfl) ?_
                      refine k_get (v := .int v_3) C hP 0 rfl rfl inlX12 16 (by decide) m_57_3 (by rw [e_4]; rfl) dX12_cost_141 ?_
                      refine lv_bipush (v := 38) C.1 C.2.1 dX12_cost_144 (by decide) ?_
                      refine lv_icmp_ge (tgt := 192) C.1 C.2.1 dX12_cost_146 (by decide) (fun c_17 => ?_) (fun c_17 => ?_)
                      · replace c_17 : 38 ≤ v_3.toInt := i_le c_17
                        exact L_192 t _ _ _ hok hfr (show (34 : Int) ≤ (v_3 : Int32).toInt ∧ (v_3 : Int32).toInt ≤ 55 from ⟨by omega, by omega⟩) hP hD hS (lv_sub hl [0] rfl)
                      · replace c_17 : v_3.toInt < 38 := i_nle c_17
                        refine lv_aload_n C.1 C.2.1 dX12_cost_149 rfl (lv_at hl 0 rfl) ?_
                        obtain ⟨v_18, e_19⟩ : ∃ z, z = t.1 0 17 := ⟨_, rfl⟩
                        have h_20 : (0 : Int) ≤ v_18.toInt ∧ v_18.toInt ≤ 63 := by rw [e_19]; exact hok.1 0 17
                        have h_21 : v_18.toInt = (t.1 0 17).toInt := congrArg Int32.toInt e_19
                        refine k_get (v := .int v_18) C hP 0 rfl rfl inlX12 17 (by decide) m_57_4 (by rw [e_19]; rfl) dX12_cost_150 ?_
                        refine lv_bipush (v := 20) C.1 C.2.1 dX12_cost_153 (by decide) ?_
                        refine lv_icmp_ge (tgt := 192) C.1 C.2.1 dX12_cost_155 (by decide) (fun c_22 => ?_) (fun c_22 => ?_)
                        · replace c_22 : 20 ≤ v_18.toInt := i_le c_22
                          exact L_192 t _ _ _ hok hfr (show (34 : Int) ≤ (v_3 : Int32).toInt ∧ (v_3 : Int32).toInt ≤ 55 from ⟨by omega, by omega⟩) hP hD hS (lv_sub hl [0] rfl)
                        · replace c_22 : v_18.toInt < 20 := i_nle c_22
                          refine lv_aload_n C.1 C.2.1 dX12_cost_158 rfl (lv_at hl 0 rfl) ?_
                          refine k_get (v := .ref (ad 4)) C hP 0 rfl rfl inlX12 19 (by decide) m_7_9 rfl dX12_cost_159 ?_
                          refine lv_aload_n C.1 C.2.1 dX12_cost_162 rfl (lv_at hl 0 rfl) ?_
                          refine k_get (v := .int v_18) C hP 0 rfl rfl inlX12 17 (by decide) m_57_4 (by rw [e_19]; rfl) dX12_cost_163 ?_
                          refine k_lld (v := (t.2.2.2 4 (v_18 : Int32).toNatClampNeg)) C hP 4 rfl (vp_in_iff.mpr ⟨by omega, by omega⟩) rfl dX12_cost_166 ?_
                          refine lv_aload_n C.1 C.2.1 dX12_cost_167 rfl (lv_at hl 0 rfl) ?_
                          refine k_get (v := .long (t.2.1 0 8)) C hP 0 rfl rfl inlX12 8 (by decide) m_29_23 rfl dX12_cost_168 ?_
                          obtain ⟨v_23, e_24⟩ : ∃ z, z = lg_cmp ((t.2.2.2 4 (v_18 : Int32).toNatClampNeg) : Int64) (t.2.1 0 8) := ⟨_, rfl⟩
                          have h_25 : (-1 : Int) ≤ v_23.toInt ∧ v_23.toInt ≤ 1 := by rw [e_24]; exact cmp_rng _ _
                          refine k_lcmp (v := v_23) C e_24.symm dX12_cost_171 ?_
                          refine lv_if_le (tgt := 192) C.1 C.2.1 dX12_cost_172 (by decide) (fun c_26 => ?_) (fun c_26 => ?_)
                          · replace c_26 : v_23.toInt ≤ 0 := i_le c_26
                            exact L_192 t _ _ _ hok hfr (show (34 : Int) ≤ (v_3 : Int32).toInt ∧ (v_3 : Int32).toInt ≤ 55 from ⟨by omega, by omega⟩) hP hD hS (lv_sub hl [0] rfl)
                          · replace c_26 : 0 < v_23.toInt := i_nle c_26
                            refine lv_aload_n C.1 C.2.1 dX12_cost_175 rfl (lv_at hl 0 rfl) ?_
                            refine k_get (v := .ref (ad 4)) C hP 0 rfl rfl inlX12 19 (by decide) m_7_9 rfl dX12_cost_176 ?_
                            refine lv_aload_n C.1 C.2.1 dX12_cost_179 rfl (lv_at hl 0 rfl) ?_
                            refine k_get (v := .int v_18) C hP 0 rfl rfl inlX12 17 (by decide) m_57_4 (by rw [e_19]; rfl) dX12_cost_180 ?_
                            refine k_lld (v := (t.2.2.2 4 (v_18 : Int32).toNatClampNeg)) C hP 4 rfl (vp_in_iff.mpr ⟨by omega, by omega⟩) rfl dX12_cost_183 ?_
                            refine lv_aload_n C.1 C.2.1 dX12_cost_184 rfl (lv_at hl 0 rfl) ?_
                            refine k_get (v := .long (t.2.1 0 8)) C hP 0 rfl rfl inlX12 8 (by decide) m_29_23 rfl dX12_cost_185 ?_
                            obtain ⟨v_27, e_28⟩ : ∃ z, z = ((t.2.2.2 4 (v_18 : Int32).toNatClampNeg) : Int64) - ((t.2.1 0 8) : Int64) := ⟨_, rfl⟩
                            refine k_lsub (v := v_27) C e_28.symm dX12_cost_188 ?_
                            refine lv_goto (tgt := 193) C.1 C.2.1 dX12_cost_189 (by decide) ?_
                            exact L_193 t v_27 _ _ _ hok hfr (show (34 : Int) ≤ (v_3 : Int32).toInt ∧ (v_3 : Int32).toInt ≤ 55 from ⟨by omega, by omega⟩) hP hD hS (lv_sub hl [0] rfl)
                  · replace c_15 : 55 < v_3.toInt := i_nle c_15
                    refine lv_ldc2 (v := 2) C.1 C.2.1 C.2.2.2.1 (C.2.2.2.2.1 _ m_57_19) dX12_cost_127 ?_
                    exact g_lret C hr hlocks hP hD hS t rfl ⟨hok, hfr⟩ (Nat.le_of_ble_eq_true rfl) (Nat.le_of_ble_eq_true rfl) dX12_cost_130
                · replace c_14 : v_3.toInt < 34 := i_nle c_14
                  refine lv_ldc2 (v := 2) C.1 C.2.1 C.2.2.2.1 (C.2.2.2.2.1 _ m_57_19) dX12_cost_114 ?_
                  exact g_lret C hr hlocks hP hD hS t rfl ⟨hok, hfr⟩ (Nat.le_of_ble_eq_true rfl) (Nat.le_of_ble_eq_true rfl) dX12_cost_117
              · replace c_13 : v_3.toInt = 7 := i_eq c_13
                refine lv_lconst (v := 1) C.1 C.2.1 dX12_cost_93 (by decide) ?_
                refine lv_ldc2 (v := 2) C.1 C.2.1 C.2.2.2.1 (C.2.2.2.2.1 _ m_57_19) dX12_cost_94 ?_
                refine lv_aload_n C.1 C.2.1 dX12_cost_97 rfl (lv_at hl 0 rfl) ?_
                obtain ⟨v_29, e_30⟩ : ∃ z, z = t.1 0 17 := ⟨_, rfl⟩
                have h_31 : (0 : Int) ≤ v_29.toInt ∧ v_29.toInt ≤ 63 := by rw [e_30]; exact hok.1 0 17
                have h_32 : v_29.toInt = (t.1 0 17).toInt := congrArg Int32.toInt e_30
                refine k_get (v := .int v_29) C hP 0 rfl rfl inlX12 17 (by decide) m_57_4 (by rw [e_30]; rfl) dX12_cost_98 ?_
                refine lv_i2l (v := (v_29.toInt64)) C.1 C.2.1 dX12_cost_101 rfl ?_
                obtain ⟨v_33, e_34⟩ : ∃ z, z = (2 : Int64) * ((v_29.toInt64) : Int64) := ⟨_, rfl⟩
                refine k_lmul (v := v_33) C e_34.symm dX12_cost_102 ?_
                obtain ⟨v_35, e_36⟩ : ∃ z, z = (1 : Int64) + (v_33 : Int64) := ⟨_, rfl⟩
                refine k_ladd (v := v_35) C e_36.symm dX12_cost_103 ?_
                exact g_lret C hr hlocks hP hD hS t rfl ⟨hok, hfr⟩ (Nat.le_of_ble_eq_true rfl) (Nat.le_of_ble_eq_true rfl) dX12_cost_104
            · replace c_12 : v_3.toInt = 6 := i_eq c_12
              refine lv_ldc2 (v := 2) C.1 C.2.1 C.2.2.2.1 (C.2.2.2.2.1 _ m_57_19) dX12_cost_80 ?_
              exact g_lret C hr hlocks hP hD hS t rfl ⟨hok, hfr⟩ (Nat.le_of_ble_eq_true rfl) (Nat.le_of_ble_eq_true rfl) dX12_cost_83
          · replace c_11 : v_3.toInt = 5 := i_eq c_11
            refine lv_aload_n C.1 C.2.1 dX12_cost_53 rfl (lv_at hl 0 rfl) ?_
            obtain ⟨v_37, e_38⟩ : ∃ z, z = t.1 0 17 := ⟨_, rfl⟩
            have h_39 : (0 : Int) ≤ v_37.toInt ∧ v_37.toInt ≤ 63 := by rw [e_38]; exact hok.1 0 17
            have h_40 : v_37.toInt = (t.1 0 17).toInt := congrArg Int32.toInt e_38
            refine k_get (v := .int v_37) C hP 0 rfl rfl inlX12 17 (by decide) m_57_4 (by rw [e_38]; rfl) dX12_cost_54 ?_
            refine lv_iconst (v := 3) C.1 C.2.1 dX12_cost_57 (by decide) ?_
            refine lv_icmp_ge (tgt := 67) C.1 C.2.1 dX12_cost_58 (by decide) (fun c_41 => ?_) (fun c_41 => ?_)
            · replace c_41 : 3 ≤ v_37.toInt := i_le c_41
              refine lv_ldc2 (v := 2) C.1 C.2.1 C.2.2.2.1 (C.2.2.2.2.1 _ m_57_19) dX12_cost_67 ?_
              exact g_lret C hr hlocks hP hD hS t rfl ⟨hok, hfr⟩ (Nat.le_of_ble_eq_true rfl) (Nat.le_of_ble_eq_true rfl) dX12_cost_70
            · replace c_41 : v_37.toInt < 3 := i_nle c_41
              refine lv_ldc2 (v := 10) C.1 C.2.1 C.2.2.2.1 (C.2.2.2.2.1 _ m_36_4) dX12_cost_61 ?_
              refine lv_goto (tgt := 70) C.1 C.2.1 dX12_cost_64 (by decide) ?_
              exact g_lret C hr hlocks hP hD hS t rfl ⟨hok, hfr⟩ (Nat.le_of_ble_eq_true rfl) (Nat.le_of_ble_eq_true rfl) dX12_cost_70
        · replace c_10 : v_3.toInt = 4 := i_eq c_10
          refine lv_ldc2 (v := 12) C.1 C.2.1 C.2.2.2.1 (C.2.2.2.2.1 _ m_57_20) dX12_cost_41 ?_
          exact g_lret C hr hlocks hP hD hS t rfl ⟨hok, hfr⟩ (Nat.le_of_ble_eq_true rfl) (Nat.le_of_ble_eq_true rfl) dX12_cost_44
      · replace c_9 : v_3.toInt = 3 := i_eq c_9
        refine lv_ldc2 (v := 10) C.1 C.2.1 C.2.2.2.1 (C.2.2.2.2.1 _ m_36_4) dX12_cost_29 ?_
        exact g_lret C hr hlocks hP hD hS t rfl ⟨hok, hfr⟩ (Nat.le_of_ble_eq_true rfl) (Nat.le_of_ble_eq_true rfl) dX12_cost_32
    · replace c_8 : v_3.toInt < 3 := i_nle c_8
      refine lv_ldc2 (v := 2) C.1 C.2.1 C.2.2.2.1 (C.2.2.2.2.1 _ m_57_19) dX12_cost_17 ?_
      exact g_lret C hr hlocks hP hD hS t rfl ⟨hok, hfr⟩ (Nat.le_of_ble_eq_true rfl) (Nat.le_of_ble_eq_true rfl) dX12_cost_20
  · replace c_7 : v_3.toInt = 0 := i_eq c_7
    refine lv_lconst (v := 1) C.1 C.2.1 dX12_cost_7 (by decide) ?_
    exact g_lret C hr hlocks hP hD hS t rfl ⟨hok, hfr⟩ (Nat.le_of_ble_eq_true rfl) (Nat.le_of_ble_eq_true rfl) dX12_cost_8

set_option maxHeartbeats 4000000 in
set_option maxRecDepth 100000 in
theorem T_X12_interrupt (l : Launch) (D : va_G) (K : Nat → ClassId) (ad : Nat → Nat) (t : tSt) (hok : okM t) (x1 : Int32) (hx1 : (0 : Int) ≤ x1.toInt ∧ x1.toInt ≤ 9) : uMet l yX12_interrupt cX12_interrupt 3 none (rmD 1 0 0) D K X0 [.ref (ad 0), .int x1] (WM K ad t) (QV D K (fun (u : tSt) => okM u ∧ frI [(0, 7), (0, 10)] t u) (fun (u : tSt) => WM K ad u)) 0 0 := by
  refine k_met RX12 ⟨rfl, by decide +kernel⟩ (Nat.le_of_ble_eq_true rfl) ?_
  intro p e s m below meth c A ls C hX hr hlocks hin hA hP hD hS hl
  have hl : lv_has ls 3 [(0, .ref (ad 0)), (1, .int x1)] := hl
  have hfr : frI [(0, 7), (0, 10)] t t := frI_rf
  have L_45 : ∀ (t1 : tSt) (w45_1 : Int32) (w45_2 : Int32) (k45_0 : Int32) (k45_1 : Int32) (H : Heap) (locs : List Loc) (ls : Array Slot), okM t1 → frI [(0, 7), (0, 10)] t t1 → (0 : Int) ≤ w45_1.toInt ∧ w45_1.toInt ≤ 9 → (8 : Int) ≤ w45_2.toInt ∧ w45_2.toInt ≤ 8 → (0 : Int) ≤ k45_0.toInt ∧ k45_0.toInt ≤ 7 → (0 : Int) ≤ k45_1.toInt ∧ k45_1.toInt ≤ 8 → va_P D vwCl (WM K ad t1) H → va_D A (WM K ad t1) → va_S A s.heap H locs → lv_has ls 3 [(0, .ref (ad 0)), (1, .int w45_1), (2, .int w45_2)] → W p l e (rmD 1 0 0) s m [.ref (ad 0), .int x1].toArray below meth c H locs 0 0 (MQ below (QV D K (fun (u : tSt) => okM u ∧ frI [(0, 7), (0, 10)] t u) (fun (u : tSt) => WM K ad u) A) [.ref (ad 0), .int x1].toArray s 0 0 A) (F0 m 45 ls [.int k45_1, .int k45_0]) := by
    intro t1 w45_1 w45_2 k45_0 k45_1 H locs ls hok hfr hw45_1 hw45_2 hk45_0 hk45_1 hP hD hS hl
    obtain ⟨v_1, e_2⟩ : ∃ z, z = (k45_0 : Int32) + (k45_1 : Int32) := ⟨_, rfl⟩
    have h_3 : v_1.toInt = k45_0.toInt + k45_1.toInt := by rw [e_2]; exact ti_iadd (by show (_ : Int) ≤ k45_0.toInt + k45_1.toInt; omega) (by show k45_0.toInt + k45_1.toInt < (_ : Int); omega)
    refine k_iadd (v := v_1) C e_2.symm dX12_interrupt_45 ?_
    refine lv_istore_n (lv' := [(2, .int v_1), (0, .ref (ad 0)), (1, .int w45_1)]) C.1 C.2.1 dX12_interrupt_46 rfl hl (by decide) rfl (fun ls hl => ?_)
    have hl : lv_has ls 3 [(0, .ref (ad 0)), (1, .int w45_1), (2, .int v_1)] := lv_sub hl [1, 2, 0] rfl
    refine lv_aload_n C.1 C.2.1 dX12_interrupt_47 rfl (lv_at hl 0 rfl) ?_
    refine lv_iconst (v := (-1)) C.1 C.2.1 dX12_interrupt_48 (by decide) ?_
    refine lv_aload_n C.1 C.2.1 dX12_interrupt_49 rfl (lv_at hl 0 rfl) ?_
    refine k_get (v := .ref (ad 3)) C hP 0 rfl rfl inlX12 4 (by decide) m_7_6 rfl dX12_interrupt_50 ?_
    refine lv_bipush (v := 8) C.1 C.2.1 dX12_interrupt_53 (by decide) ?_
    obtain ⟨v_4, e_5⟩ : ∃ z, z = t1.2.2.1 3 (8 : Int32).toNatClampNeg := ⟨_, rfl⟩
    refine k_ild (v := v_4) C hP 3 rfl (vin (by decide)) e_5.symm dX12_interrupt_55 ?_
    refine lv_sipush (v := 4095) C.1 C.2.1 dX12_interrupt_56 (by decide) ?_
    obtain ⟨v_6, e_7⟩ : ∃ z, z = (v_4 : Int32) &&& (4095 : Int32) := ⟨_, rfl⟩
    have h_8 : v_6.toInt = v_4.toInt % 2 ^ 12 := by rw [e_7]; exact Jvm.Kit.i32_mask _ _ (k := 12) (by decide) (by decide)
    refine k_iand (v := v_6) C e_7.symm dX12_interrupt_59 ?_
    refine lv_bipush (v := 18) C.1 C.2.1 dX12_interrupt_60 (by decide) ?_
    obtain ⟨v_9, e_10⟩ : ∃ z, z = (v_6 : Int32) <<< ((18 : Int32) &&& 31) := ⟨_, rfl⟩
    have h_11 : v_9.toInt = v_6.toInt * 2 ^ 18 := by rw [e_10]; exact Jvm.Kit.i32_shl _ _ (k := 18) (by decide) (by omega) (by omega)
    refine k_ishl (v := v_9) C e_10.symm dX12_interrupt_62 ?_
    refine lv_iload_n C.1 C.2.1 dX12_interrupt_63 rfl (lv_at hl 2 rfl) ?_
    refine lv_bipush (v := 12) C.1 C.2.1 dX12_interrupt_64 (by decide) ?_
    obtain ⟨v_12, e_13⟩ : ∃ z, z = (v_1 : Int32) <<< ((12 : Int32) &&& 31) := ⟨_, rfl⟩
    have h_14 : v_12.toInt = v_1.toInt * 2 ^ 12 := by rw [e_13]; exact Jvm.Kit.i32_shl _ _ (k := 12) (by decide) (by omega) (by omega)
    refine k_ishl (v := v_12) C e_13.symm dX12_interrupt_66 ?_
    obtain ⟨v_15, e_16⟩ : ∃ z, z = (v_9 : Int32) ||| (v_12 : Int32) := ⟨_, rfl⟩
    refine k_ior (v := v_15) C e_16.symm dX12_interrupt_67 ?_
    refine lv_aload_n C.1 C.2.1 dX12_interrupt_68 rfl (lv_at hl 0 rfl) ?_
    obtain ⟨v_18, e_19⟩ : ∃ z, z = t1.1 0 7 := ⟨_, rfl⟩
    have h_20 : (-3999 : Int) ≤ v_18.toInt ∧ v_18.toInt ≤ 4095 := by rw [e_19]; exact hok.1 0 7
    have h_21 : v_18.toInt = (t1.1 0 7).toInt := congrArg Int32.toInt e_19
    refine k_get (v := .int v_18) C hP 0 rfl rfl inlX12 7 (by decide) m_29_22 (by rw [e_19]; rfl) dX12_interrupt_69 ?_
    obtain ⟨v_22, e_23⟩ : ∃ z, z = (v_15 : Int32) ||| (v_18 : Int32) := ⟨_, rfl⟩
    refine k_ior (v := v_22) C e_23.symm dX12_interrupt_72 ?_
    refine g_Vv (As := [.int (-1), .int v_22]) (rest := []) C hP hD hS hA (T_X12_setMemory l D K ad t1 hok (-1) (show (-3999 : Int) ≤ ((-1) : Int32).toInt ∧ ((-1) : Int32).toInt ≤ 3999 from ⟨by decide, by decide⟩) (v_22)) X0_ok trivial (uwV m_38_15 m_38_16 m_38_17 m_1_5 m_38_18) (hdV 2 (by decide +kernel) rfl) ⟨Nat.le_of_ble_eq_true rfl, Nat.le_of_ble_eq_true rfl⟩ rfl rfl (ci := 11) (q0 := 0) rfl rfl rfl hl.1 (Nat.le_of_ble_eq_true rfl) dX12_interrupt_73 ⟨Nat.le_of_ble_eq_true rfl, Nat.le_of_ble_eq_true rfl⟩ (fun t_24 H locs hw hP hD hS => ?_)
    obtain ⟨hok, f_26⟩ := hw
    have hfr : frI [(0, 7), (0, 10)] t t_24 := frI_tr (m1 := []) hfr f_26 (by decide)
    have e_27 : v_18 = t_24.1 0 7 := e_19.trans (f_26 0 7 (by decide)).symm
    refine lv_aload_n C.1 C.2.1 dX12_interrupt_76 rfl (lv_at hl 0 rfl) ?_
    refine lv_bipush (v := (-11)) C.1 C.2.1 dX12_interrupt_77 (by decide) ?_
    refine lv_iload_n C.1 C.2.1 dX12_interrupt_79 rfl (lv_at hl 1 rfl) ?_
    refine g_Vv (As := [.int (-11), .int w45_1]) (rest := []) C hP hD hS hA (T_X12_setMemory l D K ad t_24 hok (-11) (show (-3999 : Int) ≤ ((-11) : Int32).toInt ∧ ((-11) : Int32).toInt ≤ 3999 from ⟨by decide, by decide⟩) (w45_1)) X0_ok trivial (uwV m_38_15 m_38_16 m_38_17 m_1_5 m_38_18) (hdV 2 (by decide +kernel) rfl) ⟨Nat.le_of_ble_eq_true rfl, Nat.le_of_ble_eq_true rfl⟩ rfl rfl (ci := 11) (q0 := 0) rfl rfl rfl hl.1 (Nat.le_of_ble_eq_true rfl) dX12_interrupt_80 ⟨Nat.le_of_ble_eq_true rfl, Nat.le_of_ble_eq_true rfl⟩ (fun t_28 H locs hw hP hD hS => ?_)
    obtain ⟨hok, f_30⟩ := hw
    have hfr : frI [(0, 7), (0, 10)] t t_28 := frI_tr (m1 := []) hfr f_30 (by decide)
    have e_31 : v_18 = t_28.1 0 7 := e_27.trans (f_30 0 7 (by decide)).symm
    refine lv_aload_n C.1 C.2.1 dX12_interrupt_83 rfl (lv_at hl 0 rfl) ?_
    refine lv_iconst (v := 1) C.1 C.2.1 dX12_interrupt_84 (by decide) ?_
    refine k_put (ws' := WM K ad (uI t_28 0 10 1)) (v := .int 1) C hP hD hS 0 rfl rfl inlX12 tyX12_ok nmX12 10 (by decide) m_30_0 rfl (by decide) (by decide) rfl rfl dX12_interrupt_85 (fun H locs hP hD hS => ?_)
    have hok : okM (uI t_28 0 10 1) := ⟨okI_I hok.1 0 10 1 (show (0 : Int) ≤ (1 : Int32).toInt ∧ (1 : Int32).toInt ≤ 1 from ⟨by decide, by decide⟩), hok.2⟩
    have hfr : frI [(0, 7), (0, 10)] t (uI t_28 0 10 1) := frI_I hfr 0 10 _ (by decide)
    refine lv_aload_n C.1 C.2.1 dX12_interrupt_88 rfl (lv_at hl 0 rfl) ?_
    refine lv_bipush (v := (-12)) C.1 C.2.1 dX12_interrupt_89 (by decide) ?_
    refine k_put (ws' := WM K ad (uI (uI t_28 0 10 1) 0 7 (-12))) (v := .int (-12)) C hP hD hS 0 rfl rfl inlX12 tyX12_ok nmX12 7 (by decide) m_29_22 rfl rfl rfl rfl rfl dX12_interrupt_91 (fun H locs hP hD hS => ?_)
    have hok : okM (uI (uI t_28 0 10 1) 0 7 (-12)) := ⟨okI_I hok.1 0 7 (-12) (show (-3999 : Int) ≤ ((-12) : Int32).toInt ∧ ((-12) : Int32).toInt ≤ 4095 from ⟨by decide, by decide⟩), hok.2⟩
    have hfr : frI [(0, 7), (0, 10)] t (uI (uI t_28 0 10 1) 0 7 (-12)) := frI_I hfr 0 7 _ (by decide)
    exact g_vret C hr hlocks hP hD hS (uI (uI t_28 0 10 1) 0 7 (-12)) rfl ⟨hok, hfr⟩ (Nat.le_of_ble_eq_true rfl) (Nat.le_of_ble_eq_true rfl) dX12_interrupt_94
  have L_2 : ∀ (fuel_2 : Nat) (t1 : tSt) (w2_1 : Int32) (w2_2 : Int32) (H : Heap) (locs : List Loc) (ls : Array Slot), okM t1 → frI [(0, 7), (0, 10)] t t1 → (0 : Int) ≤ w2_1.toInt ∧ w2_1.toInt ≤ 9 → (0 : Int) ≤ w2_2.toInt ∧ w2_2.toInt ≤ 8 → (8 : Int) - w2_2.toInt < (fuel_2 : Int) → va_P D vwCl (WM K ad t1) H → va_D A (WM K ad t1) → va_S A s.heap H locs → lv_has ls 3 [(0, .ref (ad 0)), (1, .int w2_1), (2, .int w2_2)] → W p l e (rmD 1 0 0) s m [.ref (ad 0), .int x1].toArray below meth c H locs 0 0 (MQ below (QV D K (fun (u : tSt) => okM u ∧ frI [(0, 7), (0, 10)] t u) (fun (u : tSt) => WM K ad u) A) [.ref (ad 0), .int x1].toArray s 0 0 A) (F0 m 2 ls []) := by
    intro fuel_2
    induction fuel_2 with
    | zero =>
      intro t1 w2_1 w2_2 H locs ls hok hfr hw2_1 hw2_2 hm2_2 hP hD hS hl
      exact absurd hm2_2 (by omega)
    | succ fuel_2 ih_2 =>
      intro t1 w2_1 w2_2 H locs ls hok hfr hw2_1 hw2_2 hm2_2 hP hD hS hl
      have hm2_2 : (8 : Int) - w2_2.toInt < (fuel_2 : Int) + 1 := by omega
      refine lv_iload_n C.1 C.2.1 dX12_interrupt_2 rfl (lv_at hl 2 rfl) ?_
      refine lv_bipush (v := 8) C.1 C.2.1 dX12_interrupt_3 (by decide) ?_
      refine lv_icmp_ge (tgt := 28) C.1 C.2.1 dX12_interrupt_5 (by decide) (fun c_32 => ?_) (fun c_32 => ?_)
      · replace c_32 : 8 ≤ w2_2.toInt := i_le c_32
        refine lv_aload_n C.1 C.2.1 dX12_interrupt_28 rfl (lv_at hl 0 rfl) ?_
        obtain ⟨v_33, e_34⟩ : ∃ z, z = t1.1 0 6 := ⟨_, rfl⟩
        have h_35 : (0 : Int) ≤ v_33.toInt ∧ v_33.toInt ≤ 7 := by rw [e_34]; exact hok.1 0 6
        have h_36 : v_33.toInt = (t1.1 0 6).toInt := congrArg Int32.toInt e_34
        refine k_get (v := .int v_33) C hP 0 rfl rfl inlX12 6 (by decide) m_7_7 (by rw [e_34]; rfl) dX12_interrupt_29 ?_
        refine lv_aload_n C.1 C.2.1 dX12_interrupt_32 rfl (lv_at hl 0 rfl) ?_
        obtain ⟨v_37, e_38⟩ : ∃ z, z = t1.1 0 5 := ⟨_, rfl⟩
        have h_39 : (0 : Int) ≤ v_37.toInt ∧ v_37.toInt ≤ 1 := by rw [e_38]; exact hok.1 0 5
        have h_40 : v_37.toInt = (t1.1 0 5).toInt := congrArg Int32.toInt e_38
        refine k_get (v := .int v_37) C hP 0 rfl rfl inlX12 5 (by decide) m_29_21 (by rw [e_38]; rfl) dX12_interrupt_33 ?_
        refine lv_if_eq (tgt := 44) C.1 C.2.1 dX12_interrupt_36 (by decide) (fun c_41 => ?_) (fun c_41 => ?_)
        · replace c_41 : v_37.toInt = 0 := i_eq c_41
          refine lv_iconst (v := 0) C.1 C.2.1 dX12_interrupt_44 (by decide) ?_
          exact L_45 t1 w2_1 w2_2 v_33 0 _ _ _ hok hfr ⟨by omega, by omega⟩ ⟨by omega, by omega⟩ ⟨by omega, by omega⟩ ⟨by decide, by decide⟩ hP hD hS (lv_sub hl [0, 1, 2] rfl)
        · replace c_41 : ¬ v_37.toInt = 0 := i_ne c_41
          refine lv_bipush (v := 8) C.1 C.2.1 dX12_interrupt_39 (by decide) ?_
          refine lv_goto (tgt := 45) C.1 C.2.1 dX12_interrupt_41 (by decide) ?_
          exact L_45 t1 w2_1 w2_2 v_33 8 _ _ _ hok hfr ⟨by omega, by omega⟩ ⟨by omega, by omega⟩ ⟨by omega, by omega⟩ ⟨by decide, by decide⟩ hP hD hS (lv_sub hl [0, 1, 2] rfl)
      · replace c_32 : w2_2.toInt < 8 := i_nle c_32
        refine lv_aload_n C.1 C.2.1 dX12_interrupt_8 rfl (lv_at hl 0 rfl) ?_
        refine lv_iload_n C.1 C.2.1 dX12_interrupt_9 rfl (lv_at hl 2 rfl) ?_
        refine lv_bipush (v := 9) C.1 C.2.1 dX12_interrupt_10 (by decide) ?_
        obtain ⟨v_42, e_43⟩ : ∃ z, z = (w2_2 : Int32) - (9 : Int32) := ⟨_, rfl⟩
        have h_44 : v_42.toInt = w2_2.toInt - 9 := by rw [e_43]; exact ti_isub (by show (_ : Int) ≤ w2_2.toInt - 9; omega) (by show w2_2.toInt - 9 < (_ : Int); omega)
        refine k_isub (v := v_42) C e_43.symm dX12_interrupt_12 ?_
        refine lv_aload_n C.1 C.2.1 dX12_interrupt_13 rfl (lv_at hl 0 rfl) ?_
        refine k_get (v := .ref (ad 3)) C hP 0 rfl rfl inlX12 4 (by decide) m_7_6 rfl dX12_interrupt_14 ?_
        refine lv_iload_n C.1 C.2.1 dX12_interrupt_17 rfl (lv_at hl 2 rfl) ?_
        obtain ⟨v_45, e_46⟩ : ∃ z, z = t1.2.2.1 3 (w2_2 : Int32).toNatClampNeg := ⟨_, rfl⟩
        refine k_ild (v := v_45) C hP 3 rfl (vp_in_iff.mpr ⟨by omega, by omega⟩) e_46.symm dX12_interrupt_18 ?_
        refine g_Vv (As := [.int v_42, .int v_45]) (rest := []) C hP hD hS hA (T_X12_setMemory l D K ad t1 hok (v_42) (show (-3999 : Int) ≤ (v_42 : Int32).toInt ∧ (v_42 : Int32).toInt ≤ 3999 from ⟨by omega, by omega⟩) (v_45)) X0_ok trivial (uwV m_38_15 m_38_16 m_38_17 m_1_5 m_38_18) (hdV 2 (by decide +kernel) rfl) ⟨Nat.le_of_ble_eq_true rfl, Nat.le_of_ble_eq_true rfl⟩ rfl rfl (ci := 11) (q0 := 0) rfl rfl rfl hl.1 (Nat.le_of_ble_eq_true rfl) dX12_interrupt_19 ⟨Nat.le_of_ble_eq_true rfl, Nat.le_of_ble_eq_true rfl⟩ (fun t_47 H locs hw hP hD hS => ?_)
        obtain ⟨hok, f_49⟩ := hw
        have hfr : frI [(0, 7), (0, 10)] t t_47 := frI_tr (m1 := []) hfr f_49 (by decide)
        obtain ⟨v_50, e_51⟩ : ∃ z, z = w2_2 + 1 := ⟨_, rfl⟩
        have h_52 : v_50.toInt = w2_2.toInt + 1 := by rw [e_51]; exact ti_iadd (by show (_ : Int) ≤ w2_2.toInt + 1; omega) (by show w2_2.toInt + 1 < (_ : Int); omega)
        refine lv_iinc (v := v_50) (lv' := [(2, .int v_50), (0, .ref (ad 0)), (1, .int w2_1)]) C.1 C.2.1 dX12_interrupt_22 hl (k := 2) rfl e_51.symm (by decide) rfl (fun ls hl => ?_)
        have hl : lv_has ls 3 [(0, .ref (ad 0)), (1, .int w2_1), (2, .int v_50)] := lv_sub hl [1, 2, 0] rfl
        refine lv_goto (tgt := 2) C.1 C.2.1 dX12_interrupt_25 (by decide) ?_
        exact ih_2 t_47 w2_1 v_50 _ _ _ hok hfr ⟨by omega, by omega⟩ ⟨by omega, by omega⟩ (show (8 : Int) - v_50.toInt < (fuel_2 : Int) from by omega) hP hD hS (lv_sub hl [0, 1, 2] rfl)
  refine lv_iconst (v := 0) C.1 C.2.1 dX12_interrupt_0 (by decide) ?_
  refine lv_istore_n (lv' := [(2, .int 0), (0, .ref (ad 0)), (1, .int x1)]) C.1 C.2.1 dX12_interrupt_1 rfl hl (by decide) rfl (fun ls hl => ?_)
  have hl : lv_has ls 3 [(0, .ref (ad 0)), (1, .int x1), (2, .int 0)] := lv_sub hl [1, 2, 0] rfl
  exact L_2 9 t x1 0 _ _ _ hok hfr ⟨by omega, by omega⟩ ⟨by decide, by decide⟩ (show (8 : Int) - 0 < ((9 : Nat) : Int) from by omega) hP hD hS (lv_sub hl [0, 1, 2] rfl)

set_option maxHeartbeats 4000000 in
set_option maxRecDepth 100000 in
theorem T_X12_areHere (l : Launch) (D : va_G) (K : Nat → ClassId) (ad : Nat → Nat) (t : tSt) (hok : okM t) (x1 : Int32) (x2 : Int32) (hx2 : (0 : Int) ≤ x2.toInt ∧ x2.toInt ≤ 100) : uMet l yX12_areHere cX12_areHere 3 (some .boolean) (rmD 1 0 0) D K X0 [.ref (ad 0), .int x1, .int x2] (WM K ad t) (QI D K (fun (r : Int32) (u : tSt) => okM u ∧ frI [] t u ∧ (0 : Int) ≤ r.toInt ∧ r.toInt ≤ 1) (fun (u : tSt) => WM K ad u)) 0 0 := by
  refine k_met RX12 ⟨rfl, by decide +kernel⟩ (Nat.le_of_ble_eq_true rfl) ?_
  intro p e s m below meth c A ls C hX hr hlocks hin hA hP hD hS hl
  have hl : lv_has ls 3 [(0, .ref (ad 0)), (1, .int x1), (2, .int x2)] := hl
  have hfr : frI [] t t := frI_rf
  refine lv_iload_n C.1 C.2.1 dX12_areHere_0 rfl (lv_at hl 2 rfl) ?_
  refine lv_iconst (v := 1) C.1 C.2.1 dX12_areHere_1 (by decide) ?_
  refine lv_icmp_lt (tgt := 25) C.1 C.2.1 dX12_areHere_2 (by decide) (fun c_1 => ?_) (fun c_1 => ?_)
  · replace c_1 : x2.toInt < 1 := i_lt c_1
    refine lv_iconst (v := 1) C.1 C.2.1 dX12_areHere_25 (by decide) ?_
    refine lv_goto (tgt := 30) C.1 C.2.1 dX12_areHere_26 (by decide) ?_
    exact g_iret C hr hlocks hP hD hS (by decide) t rfl ⟨hok, hfr, by decide, by decide⟩ (Nat.le_of_ble_eq_true rfl) (Nat.le_of_ble_eq_true rfl) dX12_areHere_30
  · replace c_1 : 1 ≤ x2.toInt := i_nlt c_1
    refine lv_aload_n C.1 C.2.1 dX12_areHere_5 rfl (lv_at hl 0 rfl) ?_
    refine lv_iload_n C.1 C.2.1 dX12_areHere_6 rfl (lv_at hl 1 rfl) ?_
    refine g_Vi (As := [.int x1]) (rest := []) C hP hD hS hA (T_X12_isHere l D K ad t hok (x1)) X0_ok trivial (uwV m_57_7 m_57_8 m_57_9 m_1_5 m_57_10) (hdV 1 (by decide +kernel) rfl) ⟨Nat.le_of_ble_eq_true rfl, Nat.le_of_ble_eq_true rfl⟩ rfl rfl (ci := 11) (q0 := 0) rfl rfl rfl hl.1 (Nat.le_of_ble_eq_true rfl) dX12_areHere_7 ⟨Nat.le_of_ble_eq_true rfl, Nat.le_of_ble_eq_true rfl⟩ (fun r_3 t_2 H locs hw hP hD hS => ?_)
    obtain ⟨hok, f_4, h_5, h_6⟩ := hw
    have hfr : frI [] t t_2 := frI_tr (m1 := []) hfr f_4 (by decide)
    refine lv_if_eq (tgt := 29) C.1 C.2.1 dX12_areHere_10 (by decide) (fun c_7 => ?_) (fun c_7 => ?_)
    · replace c_7 : r_3.toInt = 0 := i_eq c_7
      refine lv_iconst (v := 0) C.1 C.2.1 dX12_areHere_29 (by decide) ?_
      exact g_iret C hr hlocks hP hD hS (by decide) t_2 rfl ⟨hok, hfr, by decide, by decide⟩ (Nat.le_of_ble_eq_true rfl) (Nat.le_of_ble_eq_true rfl) dX12_areHere_30
    · replace c_7 : ¬ r_3.toInt = 0 := i_ne c_7
      refine lv_aload_n C.1 C.2.1 dX12_areHere_13 rfl (lv_at hl 0 rfl) ?_
      refine lv_iload_n C.1 C.2.1 dX12_areHere_14 rfl (lv_at hl 1 rfl) ?_
      refine lv_iload_n C.1 C.2.1 dX12_areHere_15 rfl (lv_at hl 2 rfl) ?_
      obtain ⟨v_8, e_9⟩ : ∃ z, z = (x1 : Int32) + (x2 : Int32) := ⟨_, rfl⟩
      refine k_iadd (v := v_8) C e_9.symm dX12_areHere_16 ?_
      refine lv_iconst (v := 1) C.1 C.2.1 dX12_areHere_17 (by decide) ?_
      obtain ⟨v_10, e_11⟩ : ∃ z, z = (v_8 : Int32) - (1 : Int32) := ⟨_, rfl⟩
      refine k_isub (v := v_10) C e_11.symm dX12_areHere_18 ?_
      refine g_Vi (As := [.int v_10]) (rest := []) C hP hD hS hA (T_X12_isHere l D K ad t_2 hok (v_10)) X0_ok trivial (uwV m_57_7 m_57_8 m_57_9 m_1_5 m_57_10) (hdV 1 (by decide +kernel) rfl) ⟨Nat.le_of_ble_eq_true rfl, Nat.le_of_ble_eq_true rfl⟩ rfl rfl (ci := 11) (q0 := 0) rfl rfl rfl hl.1 (Nat.le_of_ble_eq_true rfl) dX12_areHere_19 ⟨Nat.le_of_ble_eq_true rfl, Nat.le_of_ble_eq_true rfl⟩ (fun r_13 t_12 H locs hw hP hD hS => ?_)
      obtain ⟨hok, f_14, h_15, h_16⟩ := hw
      have hfr : frI [] t t_12 := frI_tr (m1 := []) hfr f_14 (by decide)
      refine lv_if_eq (tgt := 29) C.1 C.2.1 dX12_areHere_22 (by decide) (fun c_17 => ?_) (fun c_17 => ?_)
      · replace c_17 : r_13.toInt = 0 := i_eq c_17
        refine lv_iconst (v := 0) C.1 C.2.1 dX12_areHere_29 (by decide) ?_
        exact g_iret C hr hlocks hP hD hS (by decide) t_12 rfl ⟨hok, hfr, by decide, by decide⟩ (Nat.le_of_ble_eq_true rfl) (Nat.le_of_ble_eq_true rfl) dX12_areHere_30
      · replace c_17 : ¬ r_13.toInt = 0 := i_ne c_17
        refine lv_iconst (v := 1) C.1 C.2.1 dX12_areHere_25 (by decide) ?_
        refine lv_goto (tgt := 30) C.1 C.2.1 dX12_areHere_26 (by decide) ?_
        exact g_iret C hr hlocks hP hD hS (by decide) t_12 rfl ⟨hok, hfr, by decide, by decide⟩ (Nat.le_of_ble_eq_true rfl) (Nat.le_of_ble_eq_true rfl) dX12_areHere_30

set_option maxHeartbeats 4000000 in
set_option maxRecDepth 100000 in
theorem T_X12_hasField (l : Launch) (D : va_G) (K : Nat → ClassId) (ad : Nat → Nat) (t : tSt) (hok : okM t)  : uMet l yX12_hasField cX12_hasField 1 (some .boolean) (rmD 0 0 0) D K X0 [.ref (ad 0)] (WM K ad t) (QI D K (fun (r : Int32) (u : tSt) => okM u ∧ frI [] t u ∧ (0 : Int) ≤ r.toInt ∧ r.toInt ≤ 1) (fun (u : tSt) => WM K ad u)) 0 0 := by
  refine k_met RX12 ⟨rfl, by decide +kernel⟩ (Nat.le_of_ble_eq_true rfl) ?_
  intro p e s m below meth c A ls C hX hr hlocks hin hA hP hD hS hl
  have hl : lv_has ls 1 [(0, .ref (ad 0))] := hl
  have hfr : frI [] t t := frI_rf
  have L_33 : ∀ (t1 : tSt) (H : Heap) (locs : List Loc) (ls : Array Slot), okM t1 → frI [] t t1 → va_P D vwCl (WM K ad t1) H → va_D A (WM K ad t1) → va_S A s.heap H locs → lv_has ls 1 [(0, .ref (ad 0))] → W p l e (rmD 0 0 0) s m [.ref (ad 0)].toArray below meth c H locs 0 0 (MQ below (QI D K (fun (r : Int32) (u : tSt) => okM u ∧ frI [] t u ∧ (0 : Int) ≤ r.toInt ∧ r.toInt ≤ 1) (fun (u : tSt) => WM K ad u) A) [.ref (ad 0)].toArray s 0 0 A) (F0 m 33 ls []) := by
    intro t1 H locs ls hok hfr hP hD hS hl
    refine lv_aload_n C.1 C.2.1 dX12_hasField_33 rfl (lv_at hl 0 rfl) ?_
    obtain ⟨v_1, e_2⟩ : ∃ z, z = t1.1 0 16 := ⟨_, rfl⟩
    have h_3 : (0 : Int) ≤ v_1.toInt ∧ v_1.toInt ≤ 63 := by rw [e_2]; exact hok.1 0 16
    have h_4 : v_1.toInt = (t1.1 0 16).toInt := congrArg Int32.toInt e_2
    refine k_get (v := .int v_1) C hP 0 rfl rfl inlX12 16 (by decide) m_57_3 (by rw [e_2]; rfl) dX12_hasField_34 ?_
    refine lv_bipush (v := 55) C.1 C.2.1 dX12_hasField_37 (by decide) ?_
    refine lv_icmp_le (tgt := 46) C.1 C.2.1 dX12_hasField_39 (by decide) (fun c_5 => ?_) (fun c_5 => ?_)
    · replace c_5 : v_1.toInt ≤ 55 := i_le c_5
      refine lv_iconst (v := 0) C.1 C.2.1 dX12_hasField_46 (by decide) ?_
      exact g_iret C hr hlocks hP hD hS (by decide) t1 rfl ⟨hok, hfr, by decide, by decide⟩ (Nat.le_of_ble_eq_true rfl) (Nat.le_of_ble_eq_true rfl) dX12_hasField_47
    · replace c_5 : 55 < v_1.toInt := i_nle c_5
      refine lv_iconst (v := 1) C.1 C.2.1 dX12_hasField_42 (by decide) ?_
      refine lv_goto (tgt := 47) C.1 C.2.1 dX12_hasField_43 (by decide) ?_
      exact g_iret C hr hlocks hP hD hS (by decide) t1 rfl ⟨hok, hfr, by decide, by decide⟩ (Nat.le_of_ble_eq_true rfl) (Nat.le_of_ble_eq_true rfl) dX12_hasField_47
  have L_15 : ∀ (t1 : tSt) (H : Heap) (locs : List Loc) (ls : Array Slot), okM t1 → frI [] t t1 → va_P D vwCl (WM K ad t1) H → va_D A (WM K ad t1) → va_S A s.heap H locs → lv_has ls 1 [(0, .ref (ad 0))] → W p l e (rmD 0 0 0) s m [.ref (ad 0)].toArray below meth c H locs 0 0 (MQ below (QI D K (fun (r : Int32) (u : tSt) => okM u ∧ frI [] t u ∧ (0 : Int) ≤ r.toInt ∧ r.toInt ≤ 1) (fun (u : tSt) => WM K ad u) A) [.ref (ad 0)].toArray s 0 0 A) (F0 m 15 ls []) := by
    intro t1 H locs ls hok hfr hP hD hS hl
    refine lv_aload_n C.1 C.2.1 dX12_hasField_15 rfl (lv_at hl 0 rfl) ?_
    obtain ⟨v_6, e_7⟩ : ∃ z, z = t1.1 0 16 := ⟨_, rfl⟩
    have h_8 : (0 : Int) ≤ v_6.toInt ∧ v_6.toInt ≤ 63 := by rw [e_7]; exact hok.1 0 16
    have h_9 : v_6.toInt = (t1.1 0 16).toInt := congrArg Int32.toInt e_7
    refine k_get (v := .int v_6) C hP 0 rfl rfl inlX12 16 (by decide) m_57_3 (by rw [e_7]; rfl) dX12_hasField_16 ?_
    refine lv_bipush (v := 7) C.1 C.2.1 dX12_hasField_19 (by decide) ?_
    refine lv_icmp_le (tgt := 33) C.1 C.2.1 dX12_hasField_21 (by decide) (fun c_10 => ?_) (fun c_10 => ?_)
    · replace c_10 : v_6.toInt ≤ 7 := i_le c_10
      exact L_33 t1 _ _ _ hok hfr hP hD hS (lv_sub hl [0] rfl)
    · replace c_10 : 7 < v_6.toInt := i_nle c_10
      refine lv_aload_n C.1 C.2.1 dX12_hasField_24 rfl (lv_at hl 0 rfl) ?_
      refine k_get (v := .int v_6) C hP 0 rfl rfl inlX12 16 (by decide) m_57_3 (by rw [e_7]; rfl) dX12_hasField_25 ?_
      refine lv_bipush (v := 34) C.1 C.2.1 dX12_hasField_28 (by decide) ?_
      refine lv_icmp_lt (tgt := 42) C.1 C.2.1 dX12_hasField_30 (by decide) (fun c_11 => ?_) (fun c_11 => ?_)
      · replace c_11 : v_6.toInt < 34 := i_lt c_11
        refine lv_iconst (v := 1) C.1 C.2.1 dX12_hasField_42 (by decide) ?_
        refine lv_goto (tgt := 47) C.1 C.2.1 dX12_hasField_43 (by decide) ?_
        exact g_iret C hr hlocks hP hD hS (by decide) t1 rfl ⟨hok, hfr, by decide, by decide⟩ (Nat.le_of_ble_eq_true rfl) (Nat.le_of_ble_eq_true rfl) dX12_hasField_47
      · replace c_11 : 34 ≤ v_6.toInt := i_nlt c_11
        exact L_33 t1 _ _ _ hok hfr hP hD hS (lv_sub hl [0] rfl)
  refine lv_aload_n C.1 C.2.1 dX12_hasField_0 rfl (lv_at hl 0 rfl) ?_
  obtain ⟨v_12, e_13⟩ : ∃ z, z = t.1 0 16 := ⟨_, rfl⟩
  have h_14 : (0 : Int) ≤ v_12.toInt ∧ v_12.toInt ≤ 63 := by rw [e_13]; exact hok.1 0 16
  have h_15 : v_12.toInt = (t.1 0 16).toInt := congrArg Int32.toInt e_13
  refine k_get (v := .int v_12) C hP 0 rfl rfl inlX12 16 (by decide) m_57_3 (by rw [e_13]; rfl) dX12_hasField_1 ?_
  refine lv_if_le (tgt := 15) C.1 C.2.1 dX12_hasField_4 (by decide) (fun c_16 => ?_) (fun c_16 => ?_)
  · replace c_16 : v_12.toInt ≤ 0 := i_le c_16
    exact L_15 t _ _ _ hok hfr hP hD hS (lv_sub hl [0] rfl)
  · replace c_16 : 0 < v_12.toInt := i_nle c_16
    refine lv_aload_n C.1 C.2.1 dX12_hasField_7 rfl (lv_at hl 0 rfl) ?_
    refine k_get (v := .int v_12) C hP 0 rfl rfl inlX12 16 (by decide) m_57_3 (by rw [e_13]; rfl) dX12_hasField_8 ?_
    refine lv_iconst (v := 5) C.1 C.2.1 dX12_hasField_11 (by decide) ?_
    refine lv_icmp_lt (tgt := 42) C.1 C.2.1 dX12_hasField_12 (by decide) (fun c_17 => ?_) (fun c_17 => ?_)
    · replace c_17 : v_12.toInt < 5 := i_lt c_17
      refine lv_iconst (v := 1) C.1 C.2.1 dX12_hasField_42 (by decide) ?_
      refine lv_goto (tgt := 47) C.1 C.2.1 dX12_hasField_43 (by decide) ?_
      exact g_iret C hr hlocks hP hD hS (by decide) t rfl ⟨hok, hfr, by decide, by decide⟩ (Nat.le_of_ble_eq_true rfl) (Nat.le_of_ble_eq_true rfl) dX12_hasField_47
    · replace c_17 : 5 ≤ v_12.toInt := i_nlt c_17
      exact L_15 t _ _ _ hok hfr hP hD hS (lv_sub hl [0] rfl)

set_option maxHeartbeats 4000000 in
set_option maxRecDepth 100000 in
theorem T_X12_isField (l : Launch) (D : va_G) (K : Nat → ClassId) (ad : Nat → Nat) (t : tSt) (hok : okM t) (x0 : Int32) : uMet l yX12_isField cX12_isField 1 (some .boolean) (rmD 0 0 0) D K X0 [.int x0] (WM K ad t) (QI D K (fun (r : Int32) (u : tSt) => okM u ∧ frI [] t u ∧ (0 : Int) ≤ r.toInt ∧ r.toInt ≤ 1) (fun (u : tSt) => WM K ad u)) 0 0 := by
  refine k_met RX12 ⟨rfl, by decide +kernel⟩ (Nat.le_of_ble_eq_true rfl) ?_
  intro p e s m below meth c A ls C hX hr hlocks hin hA hP hD hS hl
  have hl : lv_has ls 1 [(0, .int x0)] := hl
  have hfr : frI [] t t := frI_rf
  refine lv_iload_n C.1 C.2.1 dX12_isField_0 rfl (lv_at hl 0 rfl) ?_
  refine lv_if_lt (tgt := 27) C.1 C.2.1 dX12_isField_1 (by decide) (fun c_1 => ?_) (fun c_1 => ?_)
  · replace c_1 : x0.toInt < 0 := i_lt c_1
    refine lv_iconst (v := 0) C.1 C.2.1 dX12_isField_27 (by decide) ?_
    exact g_iret C hr hlocks hP hD hS (by decide) t rfl ⟨hok, hfr, by decide, by decide⟩ (Nat.le_of_ble_eq_true rfl) (Nat.le_of_ble_eq_true rfl) dX12_isField_28
  · replace c_1 : 0 ≤ x0.toInt := i_nlt c_1
    refine lv_iload_n C.1 C.2.1 dX12_isField_4 rfl (lv_at hl 0 rfl) ?_
    refine lv_bipush (v := 8) C.1 C.2.1 dX12_isField_5 (by decide) ?_
    obtain ⟨v_2, e_3⟩ : ∃ z, z = (x0 : Int32) / (8 : Int32) := ⟨_, rfl⟩
    have h_4 : v_2.toInt = x0.toInt / 8 := by rw [e_3]; exact z_divp (k := 8) (by decide) (by decide) (by show (0 : Int) ≤ x0.toInt; omega)
    refine k_idiv (v := v_2) C (by decide) e_3.symm dX12_isField_7 ?_
    refine lv_iload_n C.1 C.2.1 dX12_isField_8 rfl (lv_at hl 0 rfl) ?_
    refine lv_bipush (v := 8) C.1 C.2.1 dX12_isField_9 (by decide) ?_
    obtain ⟨v_5, e_6⟩ : ∃ z, z = (x0 : Int32) - (x0 : Int32) / (8 : Int32) * (8 : Int32) := ⟨_, rfl⟩
    have h_7 : v_5.toInt = x0.toInt % 8 := by rw [e_6]; exact z_remp (k := 8) (by decide) (by show (0 : Int) ≤ x0.toInt; omega)
    refine k_irem (v := v_5) C (by decide) e_6.symm dX12_isField_11 ?_
    refine lv_icmp_gt (tgt := 27) C.1 C.2.1 dX12_isField_12 (by decide) (fun c_8 => ?_) (fun c_8 => ?_)
    · replace c_8 : v_5.toInt < v_2.toInt := i_lt c_8
      refine lv_iconst (v := 0) C.1 C.2.1 dX12_isField_27 (by decide) ?_
      exact g_iret C hr hlocks hP hD hS (by decide) t rfl ⟨hok, hfr, by decide, by decide⟩ (Nat.le_of_ble_eq_true rfl) (Nat.le_of_ble_eq_true rfl) dX12_isField_28
    · replace c_8 : v_2.toInt ≤ v_5.toInt := i_nlt c_8
      refine lv_iload_n C.1 C.2.1 dX12_isField_15 rfl (lv_at hl 0 rfl) ?_
      refine lv_bipush (v := 8) C.1 C.2.1 dX12_isField_16 (by decide) ?_
      obtain ⟨v_9, e_10⟩ : ∃ z, z = (x0 : Int32) - (x0 : Int32) / (8 : Int32) * (8 : Int32) := ⟨_, rfl⟩
      have h_11 : v_9.toInt = x0.toInt % 8 := by rw [e_10]; exact z_remp (k := 8) (by decide) (by show (0 : Int) ≤ x0.toInt; omega)
      refine k_irem (v := v_9) C (by decide) e_10.symm dX12_isField_18 ?_
      refine lv_iconst (v := 5) C.1 C.2.1 dX12_isField_19 (by decide) ?_
      refine lv_icmp_gt (tgt := 27) C.1 C.2.1 dX12_isField_20 (by decide) (fun c_12 => ?_) (fun c_12 => ?_)
      · replace c_12 : 5 < v_9.toInt := i_lt c_12
        refine lv_iconst (v := 0) C.1 C.2.1 dX12_isField_27 (by decide) ?_
        exact g_iret C hr hlocks hP hD hS (by decide) t rfl ⟨hok, hfr, by decide, by decide⟩ (Nat.le_of_ble_eq_true rfl) (Nat.le_of_ble_eq_true rfl) dX12_isField_28
      · replace c_12 : v_9.toInt ≤ 5 := i_nlt c_12
        refine lv_iconst (v := 1) C.1 C.2.1 dX12_isField_23 (by decide) ?_
        refine lv_goto (tgt := 28) C.1 C.2.1 dX12_isField_24 (by decide) ?_
        exact g_iret C hr hlocks hP hD hS (by decide) t rfl ⟨hok, hfr, by decide, by decide⟩ (Nat.le_of_ble_eq_true rfl) (Nat.le_of_ble_eq_true rfl) dX12_isField_28

set_option maxHeartbeats 4000000 in
set_option maxRecDepth 100000 in
theorem T_X12_putWord (l : Launch) (D : va_G) (K : Nat → ClassId) (ad : Nat → Nat) (t : tSt) (hok : okM t) (x1 : Int32) : uMet l yX12_putWord cX12_putWord 2 none (rmD 1 0 0) D K X0 [.ref (ad 0), .int x1] (WM K ad t) (QV D K (fun (u : tSt) => okM u ∧ frI [(0, 47), (0, 48), (0, 70)] t u) (fun (u : tSt) => WM K ad u)) 0 0 := by
  refine k_met RX12 ⟨rfl, by decide +kernel⟩ (Nat.le_of_ble_eq_true rfl) ?_
  intro p e s m below meth c A ls C hX hr hlocks hin hA hP hD hS hl
  have hl : lv_has ls 2 [(0, .ref (ad 0)), (1, .int x1)] := hl
  have hfr : frI [(0, 47), (0, 48), (0, 70)] t t := frI_rf
  have L_68 : ∀ (t1 : tSt) (w68_1 : Int32) (H : Heap) (locs : List Loc) (ls : Array Slot), okM t1 → frI [(0, 47), (0, 48), (0, 70)] t t1 → (-3999 : Int) ≤ (t1.1 0 47).toInt ∧ (t1.1 0 47).toInt ≤ 3999 → va_P D vwCl (WM K ad t1) H → va_D A (WM K ad t1) → va_S A s.heap H locs → lv_has ls 2 [(0, .ref (ad 0)), (1, .int w68_1)] → W p l e (rmD 1 0 0) s m [.ref (ad 0), .int x1].toArray below meth c H locs 0 0 (MQ below (QV D K (fun (u : tSt) => okM u ∧ frI [(0, 47), (0, 48), (0, 70)] t u) (fun (u : tSt) => WM K ad u) A) [.ref (ad 0), .int x1].toArray s 0 0 A) (F0 m 68 ls []) := by
    intro t1 w68_1 H locs ls hok hfr hf68_47 hP hD hS hl
    refine lv_aload_n C.1 C.2.1 dX12_putWord_68 rfl (lv_at hl 0 rfl) ?_
    refine lv_dup C.1 C.2.1 dX12_putWord_69 rfl ?_
    refine k_get (v := .int (t1.1 0 47)) C hP 0 rfl rfl inlX12 47 (by decide) m_30_16 rfl dX12_putWord_70 ?_
    refine lv_iconst (v := 1) C.1 C.2.1 dX12_putWord_73 (by decide) ?_
    obtain ⟨v_1, e_2⟩ : ∃ z, z = ((t1.1 0 47) : Int32) + (1 : Int32) := ⟨_, rfl⟩
    have h_3 : v_1.toInt = (t1.1 0 47).toInt + 1 := by rw [e_2]; exact ti_iadd (by show (_ : Int) ≤ (t1.1 0 47).toInt + 1; omega) (by show (t1.1 0 47).toInt + 1 < (_ : Int); omega)
    refine k_iadd (v := v_1) C e_2.symm dX12_putWord_74 ?_
    refine k_put (ws' := WM K ad (uI t1 0 47 v_1)) (v := .int v_1) C hP hD hS 0 rfl rfl inlX12 tyX12_ok nmX12 47 (by decide) m_30_16 rfl rfl rfl rfl rfl dX12_putWord_75 (fun H locs hP hD hS => ?_)
    have hok : okM (uI t1 0 47 v_1) := ⟨okI_I hok.1 0 47 v_1 (show (-3999 : Int) ≤ (v_1 : Int32).toInt ∧ (v_1 : Int32).toInt ≤ 4000 from ⟨by omega, by omega⟩), hok.2⟩
    have hfr : frI [(0, 47), (0, 48), (0, 70)] t (uI t1 0 47 v_1) := frI_I hfr 0 47 _ (by decide)
    refine lv_aload_n C.1 C.2.1 dX12_putWord_78 rfl (lv_at hl 0 rfl) ?_
    refine lv_dup C.1 C.2.1 dX12_putWord_79 rfl ?_
    obtain ⟨v_4, e_5⟩ : ∃ z, z = (uI t1 0 47 v_1).1 0 48 := ⟨_, rfl⟩
    have h_6 : (0 : Int) ≤ v_4.toInt ∧ v_4.toInt ≤ 8192 := by rw [e_5]; exact hok.1 0 48
    have h_7 : v_4.toInt = (t1.1 0 48).toInt := congrArg Int32.toInt e_5
    refine k_get (v := .int v_4) C hP 0 rfl rfl inlX12 48 (by decide) m_29_1 (by rw [e_5]; rfl) dX12_putWord_80 ?_
    refine lv_iconst (v := 1) C.1 C.2.1 dX12_putWord_83 (by decide) ?_
    obtain ⟨v_8, e_9⟩ : ∃ z, z = (v_4 : Int32) + (1 : Int32) := ⟨_, rfl⟩
    have h_10 : v_8.toInt = v_4.toInt + 1 := by rw [e_9]; exact ti_iadd (by show (_ : Int) ≤ v_4.toInt + 1; omega) (by show v_4.toInt + 1 < (_ : Int); omega)
    refine k_iadd (v := v_8) C e_9.symm dX12_putWord_84 ?_
    refine k_put (ws' := WM K ad (uI (uI t1 0 47 v_1) 0 48 v_8)) (v := .int v_8) C hP hD hS 0 rfl rfl inlX12 tyX12_ok nmX12 48 (by decide) m_29_1 rfl rfl rfl rfl rfl dX12_putWord_85 (fun H locs hP hD hS => ?_)
    have hok : okM (uI (uI t1 0 47 v_1) 0 48 v_8) := ⟨okI_I hok.1 0 48 v_8 (show (0 : Int) ≤ (v_8 : Int32).toInt ∧ (v_8 : Int32).toInt ≤ 8192 from ⟨by omega, by omega⟩), hok.2⟩
    have hfr : frI [(0, 47), (0, 48), (0, 70)] t (uI (uI t1 0 47 v_1) 0 48 v_8) := frI_I hfr 0 48 _ (by decide)
    exact g_vret C hr hlocks hP hD hS (uI (uI t1 0 47 v_1) 0 48 v_8) rfl ⟨hok, hfr⟩ (Nat.le_of_ble_eq_true rfl) (Nat.le_of_ble_eq_true rfl) dX12_putWord_88
  refine lv_aload_n C.1 C.2.1 dX12_putWord_0 rfl (lv_at hl 0 rfl) ?_
  obtain ⟨v_11, e_12⟩ : ∃ z, z = t.1 0 47 := ⟨_, rfl⟩
  have h_13 : (-3999 : Int) ≤ v_11.toInt ∧ v_11.toInt ≤ 4000 := by rw [e_12]; exact hok.1 0 47
  have h_14 : v_11.toInt = (t.1 0 47).toInt := congrArg Int32.toInt e_12
  refine k_get (v := .int v_11) C hP 0 rfl rfl inlX12 47 (by decide) m_30_16 (by rw [e_12]; rfl) dX12_putWord_1 ?_
  refine lv_sipush (v := 3999) C.1 C.2.1 dX12_putWord_4 (by decide) ?_
  refine lv_icmp_le (tgt := 17) C.1 C.2.1 dX12_putWord_7 (by decide) (fun c_15 => ?_) (fun c_15 => ?_)
  · replace c_15 : v_11.toInt ≤ 3999 := i_le c_15
    refine lv_aload_n C.1 C.2.1 dX12_putWord_17 rfl (lv_at hl 0 rfl) ?_
    refine lv_aload_n C.1 C.2.1 dX12_putWord_18 rfl (lv_at hl 0 rfl) ?_
    refine k_get (v := .int v_11) C hP 0 rfl rfl inlX12 47 (by decide) m_30_16 (by rw [e_12]; rfl) dX12_putWord_19 ?_
    refine lv_iload_n C.1 C.2.1 dX12_putWord_22 rfl (lv_at hl 1 rfl) ?_
    refine g_Vv (As := [.int v_11, .int x1]) (rest := []) C hP hD hS hA (T_X12_setMemory l D K ad t hok (v_11) (show (-3999 : Int) ≤ (v_11 : Int32).toInt ∧ (v_11 : Int32).toInt ≤ 3999 from ⟨by omega, by omega⟩) (x1)) X0_ok trivial (uwV m_38_15 m_38_16 m_38_17 m_1_5 m_38_18) (hdV 2 (by decide +kernel) rfl) ⟨Nat.le_of_ble_eq_true rfl, Nat.le_of_ble_eq_true rfl⟩ rfl rfl (ci := 11) (q0 := 0) rfl rfl rfl hl.1 (Nat.le_of_ble_eq_true rfl) dX12_putWord_23 ⟨Nat.le_of_ble_eq_true rfl, Nat.le_of_ble_eq_true rfl⟩ (fun t_16 H locs hw hP hD hS => ?_)
    obtain ⟨hok, f_18⟩ := hw
    have hfr : frI [(0, 47), (0, 48), (0, 70)] t t_16 := frI_tr (m1 := []) hfr f_18 (by decide)
    have e_19 : v_11 = t_16.1 0 47 := e_12.trans (f_18 0 47 (by decide)).symm
    refine lv_aload_n C.1 C.2.1 dX12_putWord_26 rfl (lv_at hl 0 rfl) ?_
    refine k_get (v := .ref (ad 21)) C hP 0 rfl rfl inlX12 49 (by decide) m_8_5 rfl dX12_putWord_27 ?_
    refine lv_aload_n C.1 C.2.1 dX12_putWord_30 rfl (lv_at hl 0 rfl) ?_
    refine k_get (v := .int v_11) C hP 0 rfl rfl inlX12 47 (by decide) m_30_16 (by rw [e_19]; rfl) dX12_putWord_31 ?_
    refine lv_sipush (v := (-3999)) C.1 C.2.1 dX12_putWord_34 (by decide) ?_
    obtain ⟨v_20, e_21⟩ : ∃ z, z = (v_11 : Int32) - ((-3999) : Int32) := ⟨_, rfl⟩
    have h_22 : v_20.toInt = v_11.toInt - (-3999) := by rw [e_21]; exact ti_isub (by show (_ : Int) ≤ v_11.toInt - (-3999); omega) (by show v_11.toInt - (-3999) < (_ : Int); omega)
    refine k_isub (v := v_20) C e_21.symm dX12_putWord_37 ?_
    refine lv_iconst (v := 1) C.1 C.2.1 dX12_putWord_38 (by decide) ?_
    obtain ⟨v_23, e_24⟩ : ∃ z, z = vp_nar .boolean 1 := ⟨_, rfl⟩
    have h_25 : (0 : Int) ≤ v_23.toInt ∧ v_23.toInt ≤ 1 := by rw [e_24]; exact nar_boolean _
    refine k_zst (ws' := WM K ad (uB t_16 21 (v_20 : Int32).toNatClampNeg v_23)) (x' := v_23) C hP hD hS 21 rfl (vp_in_iff.mpr ⟨by omega, by omega⟩) rfl e_24.symm rfl dX12_putWord_39 (fun H locs hP hD hS => ?_)
    have hok : okM (uB t_16 21 (v_20 : Int32).toNatClampNeg v_23) := ⟨hok.1, okB_B hok.2 21 _ v_23 (show (0 : Int) ≤ (v_23 : Int32).toInt ∧ (v_23 : Int32).toInt ≤ 1 from ⟨by omega, by omega⟩)⟩
    have hfr : frI [(0, 47), (0, 48), (0, 70)] t (uB t_16 21 (v_20 : Int32).toNatClampNeg v_23) := hfr
    refine lv_aload_n C.1 C.2.1 dX12_putWord_40 rfl (lv_at hl 0 rfl) ?_
    refine k_get (v := .ref (ad 22)) C hP 0 rfl rfl inlX12 50 (by decide) m_8_6 rfl dX12_putWord_41 ?_
    refine lv_aload_n C.1 C.2.1 dX12_putWord_44 rfl (lv_at hl 0 rfl) ?_
    obtain ⟨v_26, e_27⟩ : ∃ z, z = (uB t_16 21 (v_20 : Int32).toNatClampNeg v_23).1 0 67 := ⟨_, rfl⟩
    have h_28 : (0 : Int) ≤ v_26.toInt ∧ v_26.toInt ≤ 8192 := by rw [e_27]; exact hok.1 0 67
    have h_29 : v_26.toInt = (t_16.1 0 67).toInt := congrArg Int32.toInt e_27
    refine k_get (v := .int v_26) C hP 0 rfl rfl inlX12 67 (by decide) m_29_11 (by rw [e_27]; rfl) dX12_putWord_45 ?_
    obtain ⟨v_30, e_31⟩ : ∃ z, z = (uB t_16 21 (v_20 : Int32).toNatClampNeg v_23).2.2.1 22 (v_26 : Int32).toNatClampNeg := ⟨_, rfl⟩
    have h_32 : (0 : Int) ≤ v_30.toInt ∧ v_30.toInt ≤ 10000 := by rw [e_31]; exact hok.2 22 _
    refine k_ild (v := v_30) C hP 22 rfl (vp_in_iff.mpr ⟨by omega, by omega⟩) e_31.symm dX12_putWord_48 ?_
    refine lv_sipush (v := 10000) C.1 C.2.1 dX12_putWord_49 (by decide) ?_
    refine lv_icmp_ne (tgt := 68) C.1 C.2.1 dX12_putWord_52 (by decide) (fun c_33 => ?_) (fun c_33 => ?_)
    · replace c_33 : ¬ v_30.toInt = 10000 := i_ne c_33
      exact L_68 (uB t_16 21 (v_20 : Int32).toNatClampNeg v_23) x1 _ _ _ hok hfr (show (-3999 : Int) ≤ (v_11 : Int32).toInt ∧ (v_11 : Int32).toInt ≤ 3999 from ⟨by omega, by omega⟩) hP hD hS (lv_sub hl [0, 1] rfl)
    · replace c_33 : v_30.toInt = 10000 := i_eq c_33
      refine lv_aload_n C.1 C.2.1 dX12_putWord_55 rfl (lv_at hl 0 rfl) ?_
      refine k_get (v := .ref (ad 22)) C hP 0 rfl rfl inlX12 50 (by decide) m_8_6 rfl dX12_putWord_56 ?_
      refine lv_aload_n C.1 C.2.1 dX12_putWord_59 rfl (lv_at hl 0 rfl) ?_
      refine k_get (v := .int v_26) C hP 0 rfl rfl inlX12 67 (by decide) m_29_11 (by rw [e_27]; rfl) dX12_putWord_60 ?_
      refine lv_aload_n C.1 C.2.1 dX12_putWord_63 rfl (lv_at hl 0 rfl) ?_
      refine k_get (v := .int v_11) C hP 0 rfl rfl inlX12 47 (by decide) m_30_16 (by rw [e_19]; rfl) dX12_putWord_64 ?_
      refine k_ist (ws' := WM K ad (uB (uB t_16 21 (v_20 : Int32).toNatClampNeg v_23) 22 (v_26 : Int32).toNatClampNeg v_11)) (x' := v_11) C hP hD hS 22 rfl (vp_in_iff.mpr ⟨by omega, by omega⟩) rfl rfl rfl dX12_putWord_67 (fun H locs hP hD hS => ?_)
      have hok : okM (uB (uB t_16 21 (v_20 : Int32).toNatClampNeg v_23) 22 (v_26 : Int32).toNatClampNeg v_11) := ⟨hok.1, okB_B hok.2 22 _ v_11 (show (0 : Int) ≤ (v_11 : Int32).toInt ∧ (v_11 : Int32).toInt ≤ 10000 from ⟨by omega, by omega⟩)⟩
      have hfr : frI [(0, 47), (0, 48), (0, 70)] t (uB (uB t_16 21 (v_20 : Int32).toNatClampNeg v_23) 22 (v_26 : Int32).toNatClampNeg v_11) := hfr
      exact L_68 (uB (uB t_16 21 (v_20 : Int32).toNatClampNeg v_23) 22 (v_26 : Int32).toNatClampNeg v_11) x1 _ _ _ hok hfr (show (-3999 : Int) ≤ (v_11 : Int32).toInt ∧ (v_11 : Int32).toInt ≤ 3999 from ⟨by omega, by omega⟩) hP hD hS (lv_sub hl [0, 1] rfl)
  · replace c_15 : 3999 < v_11.toInt := i_nle c_15
    refine lv_aload_n C.1 C.2.1 dX12_putWord_10 rfl (lv_at hl 0 rfl) ?_
    refine lv_bipush (v := 6) C.1 C.2.1 dX12_putWord_11 (by decide) ?_
    refine g_Vv (As := [.int 6]) (rest := []) C hP hD hS hA (T_X12_fail l D K ad t hok 6 (show (1 : Int) ≤ (6 : Int32).toInt ∧ (6 : Int32).toInt ≤ 8 from ⟨by decide, by decide⟩)) X0_ok trivial (uwV m_32_22 m_32_23 m_33_0 m_1_5 m_33_1) (hdV 1 (by decide +kernel) rfl) ⟨Nat.le_of_ble_eq_true rfl, Nat.le_of_ble_eq_true rfl⟩ rfl rfl (ci := 11) (q0 := 0) rfl rfl rfl hl.1 (Nat.le_of_ble_eq_true rfl) dX12_putWord_13 ⟨Nat.le_of_ble_eq_true rfl, Nat.le_of_ble_eq_true rfl⟩ (fun t_34 H locs hw hP hD hS => ?_)
    obtain ⟨hok, f_36⟩ := hw
    have hfr : frI [(0, 47), (0, 48), (0, 70)] t t_34 := frI_tr (m1 := [(0, 70)]) hfr f_36 (by decide)
    have e_37 : v_11 = t_34.1 0 47 := e_12.trans (f_36 0 47 (by decide)).symm
    exact g_vret C hr hlocks hP hD hS t_34 rfl ⟨hok, hfr⟩ (Nat.le_of_ble_eq_true rfl) (Nat.le_of_ble_eq_true rfl) dX12_putWord_16

set_option maxHeartbeats 4000000 in
set_option maxRecDepth 100000 in
theorem T_X12_fieldOf (l : Launch) (D : va_G) (K : Nat → ClassId) (ad : Nat → Nat) (t : tSt) (hok : okM t) (x0 : Int32) (x1 : Int32) (hx1 : (0 : Int) ≤ x1.toInt ∧ x1.toInt ≤ 63) : uMet l yX12_fieldOf cX12_fieldOf 7 (some .int) (rmD 0 0 0) D K X0 [.int x0, .int x1] (WM K ad t) (QI D K (fun (r : Int32) (u : tSt) => okM u ∧ frI [] t u ∧ (0 : Int) ≤ r.toInt ∧ r.toInt ≤ 2147483647) (fun (u : tSt) => WM K ad u)) 0 0 := by
  refine k_met RX12 ⟨rfl, by decide +kernel⟩ (Nat.le_of_ble_eq_true rfl) ?_
  intro p e s m below meth c A ls C hX hr hlocks hin hA hP hD hS hl
  have hl : lv_has ls 7 [(0, .int x0), (1, .int x1)] := hl
  have hfr : frI [] t t := frI_rf
  have L_70 : ∀ (t1 : tSt) (w70_0 : Int32) (w70_1 : Int32) (w70_2 : Int32) (w70_3 : Int32) (w70_4 : Int32) (w70_5 : Int32) (k70_0 : Int32) (H : Heap) (locs : List Loc) (ls : Array Slot), okM t1 → frI [] t t1 → (0 : Int) ≤ w70_1.toInt ∧ w70_1.toInt ≤ 63 → (0 : Int) ≤ w70_2.toInt ∧ w70_2.toInt ≤ 7 → (0 : Int) ≤ w70_3.toInt ∧ w70_3.toInt ≤ 7 → (1 : Int) ≤ w70_4.toInt ∧ w70_4.toInt ≤ 7 → (-5 : Int) ≤ w70_5.toInt ∧ w70_5.toInt ≤ 7 → (0 : Int) ≤ k70_0.toInt ∧ k70_0.toInt ≤ 1073741823 → va_P D vwCl (WM K ad t1) H → va_D A (WM K ad t1) → va_S A s.heap H locs → lv_has ls 7 [(0, .int w70_0), (1, .int w70_1), (2, .int w70_2), (3, .int w70_3), (4, .int w70_4), (5, .int w70_5)] → W p l e (rmD 0 0 0) s m [.int x0, .int x1].toArray below meth c H locs 0 0 (MQ below (QI D K (fun (r : Int32) (u : tSt) => okM u ∧ frI [] t u ∧ (0 : Int) ≤ r.toInt ∧ r.toInt ≤ 2147483647) (fun (u : tSt) => WM K ad u) A) [.int x0, .int x1].toArray s 0 0 A) (F0 m 70 ls [.int k70_0]) := by
    intro t1 w70_0 w70_1 w70_2 w70_3 w70_4 w70_5 k70_0 H locs ls hok hfr hw70_1 hw70_2 hw70_3 hw70_4 hw70_5 hk70_0 hP hD hS hl
    refine lv_istore (lv' := [(6, .int k70_0), (0, .int w70_0), (1, .int w70_1), (2, .int w70_2), (3, .int w70_3), (4, .int w70_4), (5, .int w70_5)]) C.1 C.2.1 dX12_fieldOf_70 hl (by decide) rfl (fun ls hl => ?_)
    have hl : lv_has ls 7 [(0, .int w70_0), (1, .int w70_1), (2, .int w70_2), (3, .int w70_3), (4, .int w70_4), (5, .int w70_5), (6, .int k70_0)] := lv_sub hl [1, 2, 3, 4, 5, 6, 0] rfl
    refine lv_iload_n C.1 C.2.1 dX12_fieldOf_72 rfl (lv_at hl 2 rfl) ?_
    refine lv_if_ne (tgt := 86) C.1 C.2.1 dX12_fieldOf_73 (by decide) (fun c_1 => ?_) (fun c_1 => ?_)
    · replace c_1 : ¬ w70_2.toInt = 0 := i_ne c_1
      refine lv_iload C.1 C.2.1 dX12_fieldOf_86 (lv_at hl 6 rfl) ?_
      exact g_iret C hr hlocks hP hD hS rfl t1 rfl ⟨hok, hfr, by omega, by omega⟩ (Nat.le_of_ble_eq_true rfl) (Nat.le_of_ble_eq_true rfl) dX12_fieldOf_88
    · replace c_1 : w70_2.toInt = 0 := i_eq c_1
      refine lv_iload_n C.1 C.2.1 dX12_fieldOf_76 rfl (lv_at hl 0 rfl) ?_
      refine lv_ldc (v := 1073741824) C.1 C.2.1 C.2.2.2.1 (C.2.2.2.2.1 _ m_34_19) dX12_fieldOf_77 ?_
      obtain ⟨v_2, e_3⟩ : ∃ z, z = (w70_0 : Int32) &&& (1073741824 : Int32) := ⟨_, rfl⟩
      refine k_iand (v := v_2) C e_3.symm dX12_fieldOf_79 ?_
      refine lv_iload C.1 C.2.1 dX12_fieldOf_80 (lv_at hl 6 rfl) ?_
      obtain ⟨v_5, e_6⟩ : ∃ z, z = (v_2 : Int32) ||| (k70_0 : Int32) := ⟨_, rfl⟩
      refine k_ior (v := v_5) C e_6.symm dX12_fieldOf_82 ?_
      refine lv_goto (tgt := 88) C.1 C.2.1 dX12_fieldOf_83 (by decide) ?_
      exact g_iret C hr hlocks hP hD hS rfl t1 rfl ⟨hok, hfr, by omega, by omega⟩ (Nat.le_of_ble_eq_true rfl) (Nat.le_of_ble_eq_true rfl) dX12_fieldOf_88
  have L_37 : ∀ (t1 : tSt) (w37_0 : Int32) (w37_1 : Int32) (w37_2 : Int32) (w37_3 : Int32) (w37_4 : Int32) (k37_0 : Int32) (H : Heap) (locs : List Loc) (ls : Array Slot), okM t1 → frI [] t t1 → (0 : Int) ≤ w37_1.toInt ∧ w37_1.toInt ≤ 63 → (0 : Int) ≤ w37_2.toInt ∧ w37_2.toInt ≤ 7 → (0 : Int) ≤ w37_3.toInt ∧ w37_3.toInt ≤ 7 → (1 : Int) ≤ w37_4.toInt ∧ w37_4.toInt ≤ 7 → (-5 : Int) ≤ k37_0.toInt ∧ k37_0.toInt ≤ 7 → va_P D vwCl (WM K ad t1) H → va_D A (WM K ad t1) → va_S A s.heap H locs → lv_has ls 7 [(0, .int w37_0), (1, .int w37_1), (2, .int w37_2), (3, .int w37_3), (4, .int w37_4)] → W p l e (rmD 0 0 0) s m [.int x0, .int x1].toArray below meth c H locs 0 0 (MQ below (QI D K (fun (r : Int32) (u : tSt) => okM u ∧ frI [] t u ∧ (0 : Int) ≤ r.toInt ∧ r.toInt ≤ 2147483647) (fun (u : tSt) => WM K ad u) A) [.int x0, .int x1].toArray s 0 0 A) (F0 m 37 ls [.int k37_0]) := by
    intro t1 w37_0 w37_1 w37_2 w37_3 w37_4 k37_0 H locs ls hok hfr hw37_1 hw37_2 hw37_3 hw37_4 hk37_0 hP hD hS hl
    refine lv_istore (lv' := [(5, .int k37_0), (0, .int w37_0), (1, .int w37_1), (2, .int w37_2), (3, .int w37_3), (4, .int w37_4)]) C.1 C.2.1 dX12_fieldOf_37 hl (by decide) rfl (fun ls hl => ?_)
    have hl : lv_has ls 7 [(0, .int w37_0), (1, .int w37_1), (2, .int w37_2), (3, .int w37_3), (4, .int w37_4), (5, .int k37_0)] := lv_sub hl [1, 2, 3, 4, 5, 0] rfl
    refine lv_iload C.1 C.2.1 dX12_fieldOf_39 (lv_at hl 5 rfl) ?_
    refine lv_if_ne (tgt := 48) C.1 C.2.1 dX12_fieldOf_41 (by decide) (fun c_7 => ?_) (fun c_7 => ?_)
    · replace c_7 : ¬ k37_0.toInt = 0 := i_ne c_7
      refine lv_iload_n C.1 C.2.1 dX12_fieldOf_48 rfl (lv_at hl 0 rfl) ?_
      refine lv_ldc (v := 1073741823) C.1 C.2.1 C.2.2.2.1 (C.2.2.2.2.1 _ m_36_12) dX12_fieldOf_49 ?_
      obtain ⟨v_8, e_9⟩ : ∃ z, z = (w37_0 : Int32) &&& (1073741823 : Int32) := ⟨_, rfl⟩
      have h_10 : v_8.toInt = w37_0.toInt % 2 ^ 30 := by rw [e_9]; exact Jvm.Kit.i32_mask _ _ (k := 30) (by decide) (by decide)
      refine k_iand (v := v_8) C e_9.symm dX12_fieldOf_51 ?_
      refine lv_bipush (v := 6) C.1 C.2.1 dX12_fieldOf_52 (by decide) ?_
      refine lv_iconst (v := 5) C.1 C.2.1 dX12_fieldOf_54 (by decide) ?_
      refine lv_iload_n C.1 C.2.1 dX12_fieldOf_55 rfl (lv_at hl 3 rfl) ?_
      obtain ⟨v_11, e_12⟩ : ∃ z, z = (5 : Int32) - (w37_3 : Int32) := ⟨_, rfl⟩
      have h_13 : v_11.toInt = 5 - w37_3.toInt := by rw [e_12]; exact ti_isub (by show (_ : Int) ≤ 5 - w37_3.toInt; omega) (by show 5 - w37_3.toInt < (_ : Int); omega)
      refine k_isub (v := v_11) C e_12.symm dX12_fieldOf_56 ?_
      obtain ⟨v_14, e_15⟩ : ∃ z, z = (6 : Int32) * (v_11 : Int32) := ⟨_, rfl⟩
      have h_16 : v_14.toInt = 6 * v_11.toInt := by rw [e_15]; exact ti_mull (k := 6) (by decide) (by omega) (by omega)
      refine k_imul (v := v_14) C e_15.symm dX12_fieldOf_57 ?_
      obtain ⟨v_17, e_18⟩ : ∃ z, z = (v_8 : Int32) >>> ((v_14 : Int32) &&& 31) := ⟨_, rfl⟩
      refine k_ishr (v := v_17) C e_18.symm dX12_fieldOf_58 ?_
      refine lv_lconst (v := 1) C.1 C.2.1 dX12_fieldOf_59 (by decide) ?_
      refine lv_bipush (v := 6) C.1 C.2.1 dX12_fieldOf_60 (by decide) ?_
      refine lv_iload C.1 C.2.1 dX12_fieldOf_62 (lv_at hl 5 rfl) ?_
      obtain ⟨v_20, e_21⟩ : ∃ z, z = (6 : Int32) * (k37_0 : Int32) := ⟨_, rfl⟩
      have h_22 : v_20.toInt = 6 * k37_0.toInt := by rw [e_21]; exact ti_mull (k := 6) (by decide) (by omega) (by omega)
      refine k_imul (v := v_20) C e_21.symm dX12_fieldOf_64 ?_
      obtain ⟨v_23, e_24⟩ : ∃ z, z = (1 : Int64) <<< ((v_20 : Int32).toInt64 &&& 63) := ⟨_, rfl⟩
      refine lv_lshl (v := v_23) C.1 C.2.1 dX12_fieldOf_65 e_24.symm ?_
      refine lv_lconst (v := 1) C.1 C.2.1 dX12_fieldOf_66 (by decide) ?_
      obtain ⟨v_25, e_26⟩ : ∃ z, z = (v_23 : Int64) - (1 : Int64) := ⟨_, rfl⟩
      refine k_lsub (v := v_25) C e_26.symm dX12_fieldOf_67 ?_
      obtain ⟨v_27, e_28⟩ : ∃ z, z = (v_25).toInt32 := ⟨_, rfl⟩
      refine lv_l2i (v := v_27) C.1 C.2.1 dX12_fieldOf_68 e_28.symm ?_
      obtain ⟨v_29, e_30⟩ : ∃ z, z = (v_17 : Int32) &&& (v_27 : Int32) := ⟨_, rfl⟩
      refine k_iand (v := v_29) C e_30.symm dX12_fieldOf_69 ?_
      exact L_70 t1 w37_0 w37_1 w37_2 w37_3 w37_4 k37_0 v_29 _ _ _ hok hfr ⟨by omega, by omega⟩ ⟨by omega, by omega⟩ ⟨by omega, by omega⟩ ⟨by omega, by omega⟩ ⟨by omega, by omega⟩ ⟨by omega, by omega⟩ hP hD hS (lv_sub hl [0, 1, 2, 3, 4, 5] rfl)
    · replace c_7 : k37_0.toInt = 0 := i_eq c_7
      refine lv_iconst (v := 0) C.1 C.2.1 dX12_fieldOf_44 (by decide) ?_
      refine lv_goto (tgt := 70) C.1 C.2.1 dX12_fieldOf_45 (by decide) ?_
      exact L_70 t1 w37_0 w37_1 w37_2 w37_3 w37_4 k37_0 0 _ _ _ hok hfr ⟨by omega, by omega⟩ ⟨by omega, by omega⟩ ⟨by omega, by omega⟩ ⟨by omega, by omega⟩ ⟨by omega, by omega⟩ ⟨by decide, by decide⟩ hP hD hS (lv_sub hl [0, 1, 2, 3, 4, 5] rfl)
  have L_19 : ∀ (t1 : tSt) (w19_0 : Int32) (w19_1 : Int32) (w19_2 : Int32) (w19_3 : Int32) (k19_0 : Int32) (H : Heap) (locs : List Loc) (ls : Array Slot), okM t1 → frI [] t t1 → (0 : Int) ≤ w19_1.toInt ∧ w19_1.toInt ≤ 63 → (0 : Int) ≤ w19_2.toInt ∧ w19_2.toInt ≤ 7 → (0 : Int) ≤ w19_3.toInt ∧ w19_3.toInt ≤ 7 → (1 : Int) ≤ k19_0.toInt ∧ k19_0.toInt ≤ 7 → va_P D vwCl (WM K ad t1) H → va_D A (WM K ad t1) → va_S A s.heap H locs → lv_has ls 7 [(0, .int w19_0), (1, .int w19_1), (2, .int w19_2), (3, .int w19_3)] → W p l e (rmD 0 0 0) s m [.int x0, .int x1].toArray below meth c H locs 0 0 (MQ below (QI D K (fun (r : Int32) (u : tSt) => okM u ∧ frI [] t u ∧ (0 : Int) ≤ r.toInt ∧ r.toInt ≤ 2147483647) (fun (u : tSt) => WM K ad u) A) [.int x0, .int x1].toArray s 0 0 A) (F0 m 19 ls [.int k19_0]) := by
    intro t1 w19_0 w19_1 w19_2 w19_3 k19_0 H locs ls hok hfr hw19_1 hw19_2 hw19_3 hk19_0 hP hD hS hl
    refine lv_istore (lv' := [(4, .int k19_0), (0, .int w19_0), (1, .int w19_1), (2, .int w19_2), (3, .int w19_3)]) C.1 C.2.1 dX12_fieldOf_19 hl (by decide) rfl (fun ls hl => ?_)
    have hl : lv_has ls 7 [(0, .int w19_0), (1, .int w19_1), (2, .int w19_2), (3, .int w19_3), (4, .int k19_0)] := lv_sub hl [1, 2, 3, 4, 0] rfl
    refine lv_iload_n C.1 C.2.1 dX12_fieldOf_21 rfl (lv_at hl 3 rfl) ?_
    refine lv_iload C.1 C.2.1 dX12_fieldOf_22 (lv_at hl 4 rfl) ?_
    refine lv_icmp_ge (tgt := 31) C.1 C.2.1 dX12_fieldOf_24 (by decide) (fun c_31 => ?_) (fun c_31 => ?_)
    · replace c_31 : k19_0.toInt ≤ w19_3.toInt := i_le c_31
      refine lv_iload_n C.1 C.2.1 dX12_fieldOf_31 rfl (lv_at hl 3 rfl) ?_
      refine lv_iload C.1 C.2.1 dX12_fieldOf_32 (lv_at hl 4 rfl) ?_
      obtain ⟨v_32, e_33⟩ : ∃ z, z = (w19_3 : Int32) - (k19_0 : Int32) := ⟨_, rfl⟩
      have h_34 : v_32.toInt = w19_3.toInt - k19_0.toInt := by rw [e_33]; exact ti_isub (by show (_ : Int) ≤ w19_3.toInt - k19_0.toInt; omega) (by show w19_3.toInt - k19_0.toInt < (_ : Int); omega)
      refine k_isub (v := v_32) C e_33.symm dX12_fieldOf_34 ?_
      refine lv_iconst (v := 1) C.1 C.2.1 dX12_fieldOf_35 (by decide) ?_
      obtain ⟨v_35, e_36⟩ : ∃ z, z = (v_32 : Int32) + (1 : Int32) := ⟨_, rfl⟩
      have h_37 : v_35.toInt = v_32.toInt + 1 := by rw [e_36]; exact ti_iadd (by show (_ : Int) ≤ v_32.toInt + 1; omega) (by show v_32.toInt + 1 < (_ : Int); omega)
      refine k_iadd (v := v_35) C e_36.symm dX12_fieldOf_36 ?_
      exact L_37 t1 w19_0 w19_1 w19_2 w19_3 k19_0 v_35 _ _ _ hok hfr ⟨by omega, by omega⟩ ⟨by omega, by omega⟩ ⟨by omega, by omega⟩ ⟨by omega, by omega⟩ ⟨by omega, by omega⟩ hP hD hS (lv_sub hl [0, 1, 2, 3, 4] rfl)
    · replace c_31 : w19_3.toInt < k19_0.toInt := i_nle c_31
      refine lv_iconst (v := 0) C.1 C.2.1 dX12_fieldOf_27 (by decide) ?_
      refine lv_goto (tgt := 37) C.1 C.2.1 dX12_fieldOf_28 (by decide) ?_
      exact L_37 t1 w19_0 w19_1 w19_2 w19_3 k19_0 0 _ _ _ hok hfr ⟨by omega, by omega⟩ ⟨by omega, by omega⟩ ⟨by omega, by omega⟩ ⟨by omega, by omega⟩ ⟨by decide, by decide⟩ hP hD hS (lv_sub hl [0, 1, 2, 3, 4] rfl)
  refine lv_iload_n C.1 C.2.1 dX12_fieldOf_0 rfl (lv_at hl 1 rfl) ?_
  refine lv_bipush (v := 8) C.1 C.2.1 dX12_fieldOf_1 (by decide) ?_
  obtain ⟨v_38, e_39⟩ : ∃ z, z = (x1 : Int32) / (8 : Int32) := ⟨_, rfl⟩
  have h_40 : v_38.toInt = x1.toInt / 8 := by rw [e_39]; exact z_divp (k := 8) (by decide) (by decide) (by show (0 : Int) ≤ x1.toInt; omega)
  refine k_idiv (v := v_38) C (by decide) e_39.symm dX12_fieldOf_3 ?_
  refine lv_istore_n (lv' := [(2, .int v_38), (0, .int x0), (1, .int x1)]) C.1 C.2.1 dX12_fieldOf_4 rfl hl (by decide) rfl (fun ls hl => ?_)
  have hl : lv_has ls 7 [(0, .int x0), (1, .int x1), (2, .int v_38)] := lv_sub hl [1, 2, 0] rfl
  refine lv_iload_n C.1 C.2.1 dX12_fieldOf_5 rfl (lv_at hl 1 rfl) ?_
  refine lv_bipush (v := 8) C.1 C.2.1 dX12_fieldOf_6 (by decide) ?_
  obtain ⟨v_41, e_42⟩ : ∃ z, z = (x1 : Int32) - (x1 : Int32) / (8 : Int32) * (8 : Int32) := ⟨_, rfl⟩
  have h_43 : v_41.toInt = x1.toInt % 8 := by rw [e_42]; exact z_remp (k := 8) (by decide) (by show (0 : Int) ≤ x1.toInt; omega)
  refine k_irem (v := v_41) C (by decide) e_42.symm dX12_fieldOf_8 ?_
  refine lv_istore_n (lv' := [(3, .int v_41), (0, .int x0), (1, .int x1), (2, .int v_38)]) C.1 C.2.1 dX12_fieldOf_9 rfl hl (by decide) rfl (fun ls hl => ?_)
  have hl : lv_has ls 7 [(0, .int x0), (1, .int x1), (2, .int v_38), (3, .int v_41)] := lv_sub hl [1, 2, 3, 0] rfl
  refine lv_iload_n C.1 C.2.1 dX12_fieldOf_10 rfl (lv_at hl 2 rfl) ?_
  refine lv_if_ne (tgt := 18) C.1 C.2.1 dX12_fieldOf_11 (by decide) (fun c_44 => ?_) (fun c_44 => ?_)
  · replace c_44 : ¬ v_38.toInt = 0 := i_ne c_44
    refine lv_iload_n C.1 C.2.1 dX12_fieldOf_18 rfl (lv_at hl 2 rfl) ?_
    exact L_19 t x0 x1 v_38 v_41 v_38 _ _ _ hok hfr ⟨by omega, by omega⟩ ⟨by omega, by omega⟩ ⟨by omega, by omega⟩ ⟨by omega, by omega⟩ hP hD hS (lv_sub hl [0, 1, 2, 3] rfl)
  · replace c_44 : v_38.toInt = 0 := i_eq c_44
    refine lv_iconst (v := 1) C.1 C.2.1 dX12_fieldOf_14 (by decide) ?_
    refine lv_goto (tgt := 19) C.1 C.2.1 dX12_fieldOf_15 (by decide) ?_
    exact L_19 t x0 x1 v_38 v_41 1 _ _ _ hok hfr ⟨by omega, by omega⟩ ⟨by omega, by omega⟩ ⟨by omega, by omega⟩ ⟨by decide, by decide⟩ hP hD hS (lv_sub hl [0, 1, 2, 3] rfl)

set_option maxHeartbeats 4000000 in
set_option maxRecDepth 100000 in
theorem T_X12_wordOf (l : Launch) (D : va_G) (K : Nat → ClassId) (ad : Nat → Nat) (t : tSt) (hok : okM t) (x0 : Int64) : uMet l yX12_wordOf cX12_wordOf 2 (some .int) (rmD 0 0 0) D K X0 [.long x0] (WM K ad t) (QI D K (fun (r : Int32) (u : tSt) => okM u ∧ frI [] t u ∧ (-2147483648 : Int) ≤ r.toInt ∧ r.toInt ≤ 2147483647) (fun (u : tSt) => WM K ad u)) 0 0 := by
  refine k_met RX12 ⟨rfl, by decide +kernel⟩ (Nat.le_of_ble_eq_true rfl) ?_
  intro p e s m below meth c A ls C hX hr hlocks hin hA hP hD hS hl
  have hl : lv_has ls 2 [(0, .long x0)] := hl
  have hfr : frI [] t t := frI_rf
  refine lv_lload_n C.1 C.2.1 dX12_wordOf_0 rfl (lv_at hl 0 rfl) ?_
  refine lv_lconst (v := 0) C.1 C.2.1 dX12_wordOf_1 (by decide) ?_
  obtain ⟨v_1, e_2⟩ : ∃ z, z = lg_cmp (x0 : Int64) 0 := ⟨_, rfl⟩
  have h_3 : (-1 : Int) ≤ v_1.toInt ∧ v_1.toInt ≤ 1 := by rw [e_2]; exact cmp_rng _ _
  refine k_lcmp (v := v_1) C e_2.symm dX12_wordOf_2 ?_
  refine lv_if_ge (tgt := 15) C.1 C.2.1 dX12_wordOf_3 (by decide) (fun c_4 => ?_) (fun c_4 => ?_)
  · replace c_4 : 0 ≤ v_1.toInt := i_le c_4
    refine lv_lload_n C.1 C.2.1 dX12_wordOf_15 rfl (lv_at hl 0 rfl) ?_
    obtain ⟨v_5, e_6⟩ : ∃ z, z = (x0).toInt32 := ⟨_, rfl⟩
    refine lv_l2i (v := v_5) C.1 C.2.1 dX12_wordOf_16 e_6.symm ?_
    exact g_iret C hr hlocks hP hD hS rfl t rfl ⟨hok, hfr, (i_rng _).1, (i_rng _).2⟩ (Nat.le_of_ble_eq_true rfl) (Nat.le_of_ble_eq_true rfl) dX12_wordOf_17
  · replace c_4 : v_1.toInt < 0 := i_nle c_4
    refine lv_ldc (v := 1073741824) C.1 C.2.1 C.2.2.2.1 (C.2.2.2.2.1 _ m_34_19) dX12_wordOf_6 ?_
    refine lv_lload_n C.1 C.2.1 dX12_wordOf_8 rfl (lv_at hl 0 rfl) ?_
    refine lv_lneg C.1 C.2.1 dX12_wordOf_9 ?_
    obtain ⟨v_7, e_8⟩ : ∃ z, z = ((-x0)).toInt32 := ⟨_, rfl⟩
    refine lv_l2i (v := v_7) C.1 C.2.1 dX12_wordOf_10 e_8.symm ?_
    obtain ⟨v_9, e_10⟩ : ∃ z, z = (1073741824 : Int32) ||| (v_7 : Int32) := ⟨_, rfl⟩
    refine k_ior (v := v_9) C e_10.symm dX12_wordOf_11 ?_
    refine lv_goto (tgt := 17) C.1 C.2.1 dX12_wordOf_12 (by decide) ?_
    exact g_iret C hr hlocks hP hD hS rfl t rfl ⟨hok, hfr, (i_rng _).1, (i_rng _).2⟩ (Nat.le_of_ble_eq_true rfl) (Nat.le_of_ble_eq_true rfl) dX12_wordOf_17

set_option maxHeartbeats 4000000 in
set_option maxRecDepth 100000 in
theorem T_X12_isSo (l : Launch) (D : va_G) (K : Nat → ClassId) (ad : Nat → Nat) (t : tSt) (hok : okM t) (x0 : Int32) (x1 : Int32) (hx1 : (0 : Int) ≤ x1.toInt ∧ x1.toInt ≤ 63) : uMet l yX12_isSo cX12_isSo 2 (some .boolean) (rmD 0 0 0) D K X0 [.int x0, .int x1] (WM K ad t) (QI D K (fun (r : Int32) (u : tSt) => okM u ∧ frI [] t u ∧ (0 : Int) ≤ r.toInt ∧ r.toInt ≤ 1) (fun (u : tSt) => WM K ad u)) 0 0 := by
  refine k_met RX12 ⟨rfl, by decide +kernel⟩ (Nat.le_of_ble_eq_true rfl) ?_
  intro p e s m below meth c A ls C hX hr hlocks hin hA hP hD hS hl
  have hl : lv_has ls 2 [(0, .int x0), (1, .int x1)] := hl
  have hfr : frI [] t t := frI_rf
  refine lv_iload_n C.1 C.2.1 dX12_isSo_0 rfl (lv_at hl 1 rfl) ?_
  by_cases c_1 : x1 = 0
  · refine lv_tableIn (tgt := 36) (off := 35) C.1 C.2.1 dX12_isSo_1 (by rw [c_1]; decide) (by rw [c_1]; decide) (by rw [c_1]; decide) (by decide) ?_
    replace c_1 : x1.toInt = 0 := i_eq c_1
    refine lv_iload_n C.1 C.2.1 dX12_isSo_36 rfl (lv_at hl 0 rfl) ?_
    refine lv_if_ge (tgt := 44) C.1 C.2.1 dX12_isSo_37 (by decide) (fun c_2 => ?_) (fun c_2 => ?_)
    · replace c_2 : 0 ≤ x0.toInt := i_le c_2
      refine lv_iconst (v := 0) C.1 C.2.1 dX12_isSo_44 (by decide) ?_
      exact g_iret C hr hlocks hP hD hS (by decide) t rfl ⟨hok, hfr, by decide, by decide⟩ (Nat.le_of_ble_eq_true rfl) (Nat.le_of_ble_eq_true rfl) dX12_isSo_45
    · replace c_2 : x0.toInt < 0 := i_nle c_2
      refine lv_iconst (v := 1) C.1 C.2.1 dX12_isSo_40 (by decide) ?_
      refine lv_goto (tgt := 45) C.1 C.2.1 dX12_isSo_41 (by decide) ?_
      exact g_iret C hr hlocks hP hD hS (by decide) t rfl ⟨hok, hfr, by decide, by decide⟩ (Nat.le_of_ble_eq_true rfl) (Nat.le_of_ble_eq_true rfl) dX12_isSo_45
  replace c_1 : ¬ x1.toInt = 0 := i_ne c_1
  by_cases c_3 : x1 = 1
  · refine lv_tableIn (tgt := 46) (off := 45) C.1 C.2.1 dX12_isSo_1 (by rw [c_3]; decide) (by rw [c_3]; decide) (by rw [c_3]; decide) (by decide) ?_
    replace c_3 : x1.toInt = 1 := i_eq c_3
    refine lv_iload_n C.1 C.2.1 dX12_isSo_46 rfl (lv_at hl 0 rfl) ?_
    refine lv_if_ne (tgt := 54) C.1 C.2.1 dX12_isSo_47 (by decide) (fun c_4 => ?_) (fun c_4 => ?_)
    · replace c_4 : ¬ x0.toInt = 0 := i_ne c_4
      refine lv_iconst (v := 0) C.1 C.2.1 dX12_isSo_54 (by decide) ?_
      exact g_iret C hr hlocks hP hD hS (by decide) t rfl ⟨hok, hfr, by decide, by decide⟩ (Nat.le_of_ble_eq_true rfl) (Nat.le_of_ble_eq_true rfl) dX12_isSo_55
    · replace c_4 : x0.toInt = 0 := i_eq c_4
      refine lv_iconst (v := 1) C.1 C.2.1 dX12_isSo_50 (by decide) ?_
      refine lv_goto (tgt := 55) C.1 C.2.1 dX12_isSo_51 (by decide) ?_
      exact g_iret C hr hlocks hP hD hS (by decide) t rfl ⟨hok, hfr, by decide, by decide⟩ (Nat.le_of_ble_eq_true rfl) (Nat.le_of_ble_eq_true rfl) dX12_isSo_55
  replace c_3 : ¬ x1.toInt = 1 := i_ne c_3
  by_cases c_5 : x1 = 2
  · refine lv_tableIn (tgt := 56) (off := 55) C.1 C.2.1 dX12_isSo_1 (by rw [c_5]; decide) (by rw [c_5]; decide) (by rw [c_5]; decide) (by decide) ?_
    replace c_5 : x1.toInt = 2 := i_eq c_5
    refine lv_iload_n C.1 C.2.1 dX12_isSo_56 rfl (lv_at hl 0 rfl) ?_
    refine lv_if_le (tgt := 64) C.1 C.2.1 dX12_isSo_57 (by decide) (fun c_6 => ?_) (fun c_6 => ?_)
    · replace c_6 : x0.toInt ≤ 0 := i_le c_6
      refine lv_iconst (v := 0) C.1 C.2.1 dX12_isSo_64 (by decide) ?_
      exact g_iret C hr hlocks hP hD hS (by decide) t rfl ⟨hok, hfr, by decide, by decide⟩ (Nat.le_of_ble_eq_true rfl) (Nat.le_of_ble_eq_true rfl) dX12_isSo_65
    · replace c_6 : 0 < x0.toInt := i_nle c_6
      refine lv_iconst (v := 1) C.1 C.2.1 dX12_isSo_60 (by decide) ?_
      refine lv_goto (tgt := 65) C.1 C.2.1 dX12_isSo_61 (by decide) ?_
      exact g_iret C hr hlocks hP hD hS (by decide) t rfl ⟨hok, hfr, by decide, by decide⟩ (Nat.le_of_ble_eq_true rfl) (Nat.le_of_ble_eq_true rfl) dX12_isSo_65
  replace c_5 : ¬ x1.toInt = 2 := i_ne c_5
  by_cases c_7 : x1 = 3
  · refine lv_tableIn (tgt := 66) (off := 65) C.1 C.2.1 dX12_isSo_1 (by rw [c_7]; decide) (by rw [c_7]; decide) (by rw [c_7]; decide) (by decide) ?_
    replace c_7 : x1.toInt = 3 := i_eq c_7
    refine lv_iload_n C.1 C.2.1 dX12_isSo_66 rfl (lv_at hl 0 rfl) ?_
    refine lv_if_lt (tgt := 74) C.1 C.2.1 dX12_isSo_67 (by decide) (fun c_8 => ?_) (fun c_8 => ?_)
    · replace c_8 : x0.toInt < 0 := i_lt c_8
      refine lv_iconst (v := 0) C.1 C.2.1 dX12_isSo_74 (by decide) ?_
      exact g_iret C hr hlocks hP hD hS (by decide) t rfl ⟨hok, hfr, by decide, by decide⟩ (Nat.le_of_ble_eq_true rfl) (Nat.le_of_ble_eq_true rfl) dX12_isSo_75
    · replace c_8 : 0 ≤ x0.toInt := i_nlt c_8
      refine lv_iconst (v := 1) C.1 C.2.1 dX12_isSo_70 (by decide) ?_
      refine lv_goto (tgt := 75) C.1 C.2.1 dX12_isSo_71 (by decide) ?_
      exact g_iret C hr hlocks hP hD hS (by decide) t rfl ⟨hok, hfr, by decide, by decide⟩ (Nat.le_of_ble_eq_true rfl) (Nat.le_of_ble_eq_true rfl) dX12_isSo_75
  replace c_7 : ¬ x1.toInt = 3 := i_ne c_7
  by_cases c_9 : x1 = 4
  · refine lv_tableIn (tgt := 76) (off := 75) C.1 C.2.1 dX12_isSo_1 (by rw [c_9]; decide) (by rw [c_9]; decide) (by rw [c_9]; decide) (by decide) ?_
    replace c_9 : x1.toInt = 4 := i_eq c_9
    refine lv_iload_n C.1 C.2.1 dX12_isSo_76 rfl (lv_at hl 0 rfl) ?_
    refine lv_if_eq (tgt := 84) C.1 C.2.1 dX12_isSo_77 (by decide) (fun c_10 => ?_) (fun c_10 => ?_)
    · replace c_10 : x0.toInt = 0 := i_eq c_10
      refine lv_iconst (v := 0) C.1 C.2.1 dX12_isSo_84 (by decide) ?_
      exact g_iret C hr hlocks hP hD hS (by decide) t rfl ⟨hok, hfr, by decide, by decide⟩ (Nat.le_of_ble_eq_true rfl) (Nat.le_of_ble_eq_true rfl) dX12_isSo_85
    · replace c_10 : ¬ x0.toInt = 0 := i_ne c_10
      refine lv_iconst (v := 1) C.1 C.2.1 dX12_isSo_80 (by decide) ?_
      refine lv_goto (tgt := 85) C.1 C.2.1 dX12_isSo_81 (by decide) ?_
      exact g_iret C hr hlocks hP hD hS (by decide) t rfl ⟨hok, hfr, by decide, by decide⟩ (Nat.le_of_ble_eq_true rfl) (Nat.le_of_ble_eq_true rfl) dX12_isSo_85
  replace c_9 : ¬ x1.toInt = 4 := i_ne c_9
  refine lv_tableOut (tgt := 86) C.1 C.2.1 dX12_isSo_1 (by omega) (by decide) ?_
  refine lv_iload_n C.1 C.2.1 dX12_isSo_86 rfl (lv_at hl 0 rfl) ?_
  refine lv_if_gt (tgt := 94) C.1 C.2.1 dX12_isSo_87 (by decide) (fun c_11 => ?_) (fun c_11 => ?_)
  · replace c_11 : 0 < x0.toInt := i_lt c_11
    refine lv_iconst (v := 0) C.1 C.2.1 dX12_isSo_94 (by decide) ?_
    exact g_iret C hr hlocks hP hD hS (by decide) t rfl ⟨hok, hfr, by decide, by decide⟩ (Nat.le_of_ble_eq_true rfl) (Nat.le_of_ble_eq_true rfl) dX12_isSo_95
  · replace c_11 : x0.toInt ≤ 0 := i_nlt c_11
    refine lv_iconst (v := 1) C.1 C.2.1 dX12_isSo_90 (by decide) ?_
    refine lv_goto (tgt := 95) C.1 C.2.1 dX12_isSo_91 (by decide) ?_
    exact g_iret C hr hlocks hP hD hS (by decide) t rfl ⟨hok, hfr, by decide, by decide⟩ (Nat.le_of_ble_eq_true rfl) (Nat.le_of_ble_eq_true rfl) dX12_isSo_95

set_option maxHeartbeats 4000000 in
set_option maxRecDepth 100000 in
theorem T_X12_use (l : Launch) (D : va_G) (K : Nat → ClassId) (ad : Nat → Nat) (t : tSt) (hok : okM t) (x1 : Int32) (hx1 : (0 : Int) ≤ x1.toInt ∧ x1.toInt ≤ 1199) : uMet l yX12_use cX12_use 3 none (rmD 0 0 0) D K X0 [.ref (ad 0), .int x1] (WM K ad t) (QV D K (fun (u : tSt) => okM u ∧ frI [] t u) (fun (u : tSt) => WM K ad u)) 0 0 := by
  refine k_met RX12 ⟨rfl, by decide +kernel⟩ (Nat.le_of_ble_eq_true rfl) ?_
  intro p e s m below meth c A ls C hX hr hlocks hin hA hP hD hS hl
  have hl : lv_has ls 3 [(0, .ref (ad 0)), (1, .int x1)] := hl
  have hfr : frI [] t t := frI_rf
  have L_44 : ∀ (t1 : tSt) (w44_1 : Int32) (w44_2 : Int32) (H : Heap) (locs : List Loc) (ls : Array Slot), okM t1 → frI [] t t1 → (0 : Int) ≤ w44_1.toInt ∧ w44_1.toInt ≤ 1199 → (0 : Int) ≤ w44_2.toInt ∧ w44_2.toInt ≤ 16 → va_P D vwCl (WM K ad t1) H → va_D A (WM K ad t1) → va_S A s.heap H locs → lv_has ls 3 [(0, .ref (ad 0)), (1, .int w44_1), (2, .int w44_2)] → W p l e (rmD 0 0 0) s m [.ref (ad 0), .int x1].toArray below meth c H locs 0 0 (MQ below (QV D K (fun (u : tSt) => okM u ∧ frI [] t u) (fun (u : tSt) => WM K ad u) A) [.ref (ad 0), .int x1].toArray s 0 0 A) (F0 m 44 ls []) := by
    intro t1 w44_1 w44_2 H locs ls hok hfr hw44_1 hw44_2 hP hD hS hl
    refine lv_iload_n C.1 C.2.1 dX12_use_44 rfl (lv_at hl 2 rfl) ?_
    refine lv_bipush (v := 15) C.1 C.2.1 dX12_use_45 (by decide) ?_
    refine lv_icmp_le (tgt := 51) C.1 C.2.1 dX12_use_47 (by decide) (fun c_1 => ?_) (fun c_1 => ?_)
    · replace c_1 : w44_2.toInt ≤ 15 := i_le c_1
      refine lv_aload_n C.1 C.2.1 dX12_use_51 rfl (lv_at hl 0 rfl) ?_
      refine k_get (v := .ref (ad 27)) C hP 0 rfl rfl inlX12 57 (by decide) m_8_11 rfl dX12_use_52 ?_
      refine lv_bipush (v := 16) C.1 C.2.1 dX12_use_55 (by decide) ?_
      refine lv_iload_n C.1 C.2.1 dX12_use_57 rfl (lv_at hl 1 rfl) ?_
      obtain ⟨v_2, e_3⟩ : ∃ z, z = (16 : Int32) * (w44_1 : Int32) := ⟨_, rfl⟩
      have h_4 : v_2.toInt = 16 * w44_1.toInt := by rw [e_3]; exact ti_mull (k := 16) (by decide) (by omega) (by omega)
      refine k_imul (v := v_2) C e_3.symm dX12_use_58 ?_
      refine lv_iload_n C.1 C.2.1 dX12_use_59 rfl (lv_at hl 2 rfl) ?_
      obtain ⟨v_5, e_6⟩ : ∃ z, z = (v_2 : Int32) + (w44_2 : Int32) := ⟨_, rfl⟩
      have h_7 : v_5.toInt = v_2.toInt + w44_2.toInt := by rw [e_6]; exact ti_iadd (by show (_ : Int) ≤ v_2.toInt + w44_2.toInt; omega) (by show v_2.toInt + w44_2.toInt < (_ : Int); omega)
      refine k_iadd (v := v_5) C e_6.symm dX12_use_60 ?_
      refine lv_aload_n C.1 C.2.1 dX12_use_61 rfl (lv_at hl 0 rfl) ?_
      obtain ⟨v_8, e_9⟩ : ∃ z, z = t1.1 0 67 := ⟨_, rfl⟩
      have h_10 : (0 : Int) ≤ v_8.toInt ∧ v_8.toInt ≤ 8192 := by rw [e_9]; exact hok.1 0 67
      have h_11 : v_8.toInt = (t1.1 0 67).toInt := congrArg Int32.toInt e_9
      refine k_get (v := .int v_8) C hP 0 rfl rfl inlX12 67 (by decide) m_29_11 (by rw [e_9]; rfl) dX12_use_62 ?_
      refine lv_iconst (v := 1) C.1 C.2.1 dX12_use_65 (by decide) ?_
      obtain ⟨v_12, e_13⟩ : ∃ z, z = (v_8 : Int32) + (1 : Int32) := ⟨_, rfl⟩
      have h_14 : v_12.toInt = v_8.toInt + 1 := by rw [e_13]; exact ti_iadd (by show (_ : Int) ≤ v_8.toInt + 1; omega) (by show v_8.toInt + 1 < (_ : Int); omega)
      refine k_iadd (v := v_12) C e_13.symm dX12_use_66 ?_
      refine k_ist (ws' := WM K ad (uB t1 27 (v_5 : Int32).toNatClampNeg v_12)) (x' := v_12) C hP hD hS 27 rfl (vp_in_iff.mpr ⟨by omega, by omega⟩) rfl rfl rfl dX12_use_67 (fun H locs hP hD hS => ?_)
      have hok : okM (uB t1 27 (v_5 : Int32).toNatClampNeg v_12) := ⟨hok.1, okB_B hok.2 27 _ v_12 (show (0 : Int) ≤ (v_12 : Int32).toInt ∧ (v_12 : Int32).toInt ≤ 32399 from ⟨by omega, by omega⟩)⟩
      have hfr : frI [] t (uB t1 27 (v_5 : Int32).toNatClampNeg v_12) := hfr
      refine lv_aload_n C.1 C.2.1 dX12_use_68 rfl (lv_at hl 0 rfl) ?_
      refine k_get (v := .ref (ad 26)) C hP 0 rfl rfl inlX12 56 (by decide) m_8_10 rfl dX12_use_69 ?_
      refine lv_iload_n C.1 C.2.1 dX12_use_72 rfl (lv_at hl 1 rfl) ?_
      refine lv_dup2_11 C.1 C.2.1 dX12_use_73 rfl rfl ?_
      obtain ⟨v_15, e_16⟩ : ∃ z, z = (uB t1 27 (v_5 : Int32).toNatClampNeg v_12).2.2.1 26 (w44_1 : Int32).toNatClampNeg := ⟨_, rfl⟩
      have h_17 : (0 : Int) ≤ v_15.toInt ∧ v_15.toInt ≤ 16 := by rw [e_16]; exact hok.2 26 _
      refine k_ild (v := v_15) C hP 26 rfl (vp_in_iff.mpr ⟨by omega, by omega⟩) e_16.symm dX12_use_74 ?_
      refine lv_iconst (v := 1) C.1 C.2.1 dX12_use_75 (by decide) ?_
      obtain ⟨v_18, e_19⟩ : ∃ z, z = (v_15 : Int32) + (1 : Int32) := ⟨_, rfl⟩
      have h_20 : v_18.toInt = v_15.toInt + 1 := by rw [e_19]; exact ti_iadd (by show (_ : Int) ≤ v_15.toInt + 1; omega) (by show v_15.toInt + 1 < (_ : Int); omega)
      refine k_iadd (v := v_18) C e_19.symm dX12_use_76 ?_
      refine k_ist (ws' := WM K ad (uB (uB t1 27 (v_5 : Int32).toNatClampNeg v_12) 26 (w44_1 : Int32).toNatClampNeg v_18)) (x' := v_18) C hP hD hS 26 rfl (vp_in_iff.mpr ⟨by omega, by omega⟩) rfl rfl rfl dX12_use_77 (fun H locs hP hD hS => ?_)
      have hok : okM (uB (uB t1 27 (v_5 : Int32).toNatClampNeg v_12) 26 (w44_1 : Int32).toNatClampNeg v_18) := ⟨hok.1, okB_B hok.2 26 _ v_18 (show (0 : Int) ≤ (v_18 : Int32).toInt ∧ (v_18 : Int32).toInt ≤ 16 from ⟨by omega, by omega⟩)⟩
      have hfr : frI [] t (uB (uB t1 27 (v_5 : Int32).toNatClampNeg v_12) 26 (w44_1 : Int32).toNatClampNeg v_18) := hfr
      exact g_vret C hr hlocks hP hD hS (uB (uB t1 27 (v_5 : Int32).toNatClampNeg v_12) 26 (w44_1 : Int32).toNatClampNeg v_18) rfl ⟨hok, hfr⟩ (Nat.le_of_ble_eq_true rfl) (Nat.le_of_ble_eq_true rfl) dX12_use_78
    · replace c_1 : 15 < w44_2.toInt := i_nle c_1
      exact g_vret C hr hlocks hP hD hS t1 rfl ⟨hok, hfr⟩ (Nat.le_of_ble_eq_true rfl) (Nat.le_of_ble_eq_true rfl) dX12_use_50
  refine lv_aload_n C.1 C.2.1 dX12_use_0 rfl (lv_at hl 0 rfl) ?_
  refine k_get (v := .ref (ad 26)) C hP 0 rfl rfl inlX12 56 (by decide) m_8_10 rfl dX12_use_1 ?_
  refine lv_iload_n C.1 C.2.1 dX12_use_4 rfl (lv_at hl 1 rfl) ?_
  obtain ⟨v_21, e_22⟩ : ∃ z, z = t.2.2.1 26 (x1 : Int32).toNatClampNeg := ⟨_, rfl⟩
  have h_23 : (0 : Int) ≤ v_21.toInt ∧ v_21.toInt ≤ 16 := by rw [e_22]; exact hok.2 26 _
  refine k_ild (v := v_21) C hP 26 rfl (vp_in_iff.mpr ⟨by omega, by omega⟩) e_22.symm dX12_use_5 ?_
  refine lv_istore_n (lv' := [(2, .int v_21), (0, .ref (ad 0)), (1, .int x1)]) C.1 C.2.1 dX12_use_6 rfl hl (by decide) rfl (fun ls hl => ?_)
  have hl : lv_has ls 3 [(0, .ref (ad 0)), (1, .int x1), (2, .int v_21)] := lv_sub hl [1, 2, 0] rfl
  refine lv_iload_n C.1 C.2.1 dX12_use_7 rfl (lv_at hl 2 rfl) ?_
  refine lv_if_le (tgt := 44) C.1 C.2.1 dX12_use_8 (by decide) (fun c_24 => ?_) (fun c_24 => ?_)
  · replace c_24 : v_21.toInt ≤ 0 := i_le c_24
    exact L_44 t x1 v_21 _ _ _ hok hfr ⟨by omega, by omega⟩ ⟨by omega, by omega⟩ hP hD hS (lv_sub hl [0, 1, 2] rfl)
  · replace c_24 : 0 < v_21.toInt := i_nle c_24
    refine lv_aload_n C.1 C.2.1 dX12_use_11 rfl (lv_at hl 0 rfl) ?_
    refine k_get (v := .ref (ad 27)) C hP 0 rfl rfl inlX12 57 (by decide) m_8_11 rfl dX12_use_12 ?_
    refine lv_bipush (v := 16) C.1 C.2.1 dX12_use_15 (by decide) ?_
    refine lv_iload_n C.1 C.2.1 dX12_use_17 rfl (lv_at hl 1 rfl) ?_
    obtain ⟨v_25, e_26⟩ : ∃ z, z = (16 : Int32) * (x1 : Int32) := ⟨_, rfl⟩
    have h_27 : v_25.toInt = 16 * x1.toInt := by rw [e_26]; exact ti_mull (k := 16) (by decide) (by omega) (by omega)
    refine k_imul (v := v_25) C e_26.symm dX12_use_18 ?_
    refine lv_iload_n C.1 C.2.1 dX12_use_19 rfl (lv_at hl 2 rfl) ?_
    refine lv_bipush (v := 16) C.1 C.2.1 dX12_use_20 (by decide) ?_
    refine lv_icmp_le (tgt := 30) C.1 C.2.1 dX12_use_22 (by decide) (fun c_28 => ?_) (fun c_28 => False.elim (by have c_28 : 16 < v_21.toInt := i_nle c_28; omega))
    replace c_28 : v_21.toInt ≤ 16 := i_le c_28
    refine lv_iload_n C.1 C.2.1 dX12_use_30 rfl (lv_at hl 2 rfl) ?_
    obtain ⟨v_29, e_30⟩ : ∃ z, z = (v_25 : Int32) + (v_21 : Int32) := ⟨_, rfl⟩
    have h_31 : v_29.toInt = v_25.toInt + v_21.toInt := by rw [e_30]; exact ti_iadd (by show (_ : Int) ≤ v_25.toInt + v_21.toInt; omega) (by show v_25.toInt + v_21.toInt < (_ : Int); omega)
    refine k_iadd (v := v_29) C e_30.symm dX12_use_31 ?_
    refine lv_iconst (v := 1) C.1 C.2.1 dX12_use_32 (by decide) ?_
    obtain ⟨v_32, e_33⟩ : ∃ z, z = (v_29 : Int32) - (1 : Int32) := ⟨_, rfl⟩
    have h_34 : v_32.toInt = v_29.toInt - 1 := by rw [e_33]; exact ti_isub (by show (_ : Int) ≤ v_29.toInt - 1; omega) (by show v_29.toInt - 1 < (_ : Int); omega)
    refine k_isub (v := v_32) C e_33.symm dX12_use_33 ?_
    obtain ⟨v_35, e_36⟩ : ∃ z, z = t.2.2.1 27 (v_32 : Int32).toNatClampNeg := ⟨_, rfl⟩
    have h_37 : (0 : Int) ≤ v_35.toInt ∧ v_35.toInt ≤ 32399 := by rw [e_36]; exact hok.2 27 _
    refine k_ild (v := v_35) C hP 27 rfl (vp_in_iff.mpr ⟨by omega, by omega⟩) e_36.symm dX12_use_34 ?_
    refine lv_aload_n C.1 C.2.1 dX12_use_35 rfl (lv_at hl 0 rfl) ?_
    obtain ⟨v_38, e_39⟩ : ∃ z, z = t.1 0 67 := ⟨_, rfl⟩
    have h_40 : (0 : Int) ≤ v_38.toInt ∧ v_38.toInt ≤ 8192 := by rw [e_39]; exact hok.1 0 67
    have h_41 : v_38.toInt = (t.1 0 67).toInt := congrArg Int32.toInt e_39
    refine k_get (v := .int v_38) C hP 0 rfl rfl inlX12 67 (by decide) m_29_11 (by rw [e_39]; rfl) dX12_use_36 ?_
    refine lv_iconst (v := 1) C.1 C.2.1 dX12_use_39 (by decide) ?_
    obtain ⟨v_42, e_43⟩ : ∃ z, z = (v_38 : Int32) + (1 : Int32) := ⟨_, rfl⟩
    have h_44 : v_42.toInt = v_38.toInt + 1 := by rw [e_43]; exact ti_iadd (by show (_ : Int) ≤ v_38.toInt + 1; omega) (by show v_38.toInt + 1 < (_ : Int); omega)
    refine k_iadd (v := v_42) C e_43.symm dX12_use_40 ?_
    refine lv_icmp_eq (tgt := 50) C.1 C.2.1 dX12_use_41 (by decide) (fun c_45 => ?_) (fun c_45 => ?_)
    · replace c_45 : v_35.toInt = v_42.toInt := i_eq c_45
      exact g_vret C hr hlocks hP hD hS t rfl ⟨hok, hfr⟩ (Nat.le_of_ble_eq_true rfl) (Nat.le_of_ble_eq_true rfl) dX12_use_50
    · replace c_45 : ¬ v_35.toInt = v_42.toInt := i_ne c_45
      exact L_44 t x1 v_21 _ _ _ hok hfr ⟨by omega, by omega⟩ ⟨by omega, by omega⟩ hP hD hS (lv_sub hl [0, 1, 2] rfl)

set_option maxHeartbeats 4000000 in
set_option maxRecDepth 100000 in
theorem T_X12_isSign (l : Launch) (D : va_G) (K : Nat → ClassId) (ad : Nat → Nat) (t : tSt) (hok : okM t) (x0 : Int32) (hx0 : (-1 : Int) ≤ x0.toInt ∧ x0.toInt ≤ 255) : uMet l yX12_isSign cX12_isSign 1 (some .boolean) (rmD 0 0 0) D K X0 [.int x0] (WM K ad t) (QI D K (fun (r : Int32) (u : tSt) => okM u ∧ frI [] t u ∧ (0 : Int) ≤ r.toInt ∧ r.toInt ≤ 1) (fun (u : tSt) => WM K ad u)) 0 0 := by
  refine k_met RX12 ⟨rfl, by decide +kernel⟩ (Nat.le_of_ble_eq_true rfl) ?_
  intro p e s m below meth c A ls C hX hr hlocks hin hA hP hD hS hl
  have hl : lv_has ls 1 [(0, .int x0)] := hl
  have hfr : frI [] t t := frI_rf
  refine lv_iload_n C.1 C.2.1 dX12_isSign_0 rfl (lv_at hl 0 rfl) ?_
  refine lv_bipush (v := 43) C.1 C.2.1 dX12_isSign_1 (by decide) ?_
  refine lv_icmp_eq (tgt := 30) C.1 C.2.1 dX12_isSign_3 (by decide) (fun c_1 => ?_) (fun c_1 => ?_)
  · replace c_1 : x0.toInt = 43 := i_eq c_1
    refine lv_iconst (v := 1) C.1 C.2.1 dX12_isSign_30 (by decide) ?_
    refine lv_goto (tgt := 35) C.1 C.2.1 dX12_isSign_31 (by decide) ?_
    exact g_iret C hr hlocks hP hD hS (by decide) t rfl ⟨hok, hfr, by decide, by decide⟩ (Nat.le_of_ble_eq_true rfl) (Nat.le_of_ble_eq_true rfl) dX12_isSign_35
  · replace c_1 : ¬ x0.toInt = 43 := i_ne c_1
    refine lv_iload_n C.1 C.2.1 dX12_isSign_6 rfl (lv_at hl 0 rfl) ?_
    refine lv_bipush (v := 45) C.1 C.2.1 dX12_isSign_7 (by decide) ?_
    refine lv_icmp_eq (tgt := 30) C.1 C.2.1 dX12_isSign_9 (by decide) (fun c_2 => ?_) (fun c_2 => ?_)
    · replace c_2 : x0.toInt = 45 := i_eq c_2
      refine lv_iconst (v := 1) C.1 C.2.1 dX12_isSign_30 (by decide) ?_
      refine lv_goto (tgt := 35) C.1 C.2.1 dX12_isSign_31 (by decide) ?_
      exact g_iret C hr hlocks hP hD hS (by decide) t rfl ⟨hok, hfr, by decide, by decide⟩ (Nat.le_of_ble_eq_true rfl) (Nat.le_of_ble_eq_true rfl) dX12_isSign_35
    · replace c_2 : ¬ x0.toInt = 45 := i_ne c_2
      refine lv_iload_n C.1 C.2.1 dX12_isSign_12 rfl (lv_at hl 0 rfl) ?_
      refine lv_bipush (v := 42) C.1 C.2.1 dX12_isSign_13 (by decide) ?_
      refine lv_icmp_eq (tgt := 30) C.1 C.2.1 dX12_isSign_15 (by decide) (fun c_3 => ?_) (fun c_3 => ?_)
      · replace c_3 : x0.toInt = 42 := i_eq c_3
        refine lv_iconst (v := 1) C.1 C.2.1 dX12_isSign_30 (by decide) ?_
        refine lv_goto (tgt := 35) C.1 C.2.1 dX12_isSign_31 (by decide) ?_
        exact g_iret C hr hlocks hP hD hS (by decide) t rfl ⟨hok, hfr, by decide, by decide⟩ (Nat.le_of_ble_eq_true rfl) (Nat.le_of_ble_eq_true rfl) dX12_isSign_35
      · replace c_3 : ¬ x0.toInt = 42 := i_ne c_3
        refine lv_iload_n C.1 C.2.1 dX12_isSign_18 rfl (lv_at hl 0 rfl) ?_
        refine lv_bipush (v := 47) C.1 C.2.1 dX12_isSign_19 (by decide) ?_
        refine lv_icmp_eq (tgt := 30) C.1 C.2.1 dX12_isSign_21 (by decide) (fun c_4 => ?_) (fun c_4 => ?_)
        · replace c_4 : x0.toInt = 47 := i_eq c_4
          refine lv_iconst (v := 1) C.1 C.2.1 dX12_isSign_30 (by decide) ?_
          refine lv_goto (tgt := 35) C.1 C.2.1 dX12_isSign_31 (by decide) ?_
          exact g_iret C hr hlocks hP hD hS (by decide) t rfl ⟨hok, hfr, by decide, by decide⟩ (Nat.le_of_ble_eq_true rfl) (Nat.le_of_ble_eq_true rfl) dX12_isSign_35
        · replace c_4 : ¬ x0.toInt = 47 := i_ne c_4
          refine lv_iload_n C.1 C.2.1 dX12_isSign_24 rfl (lv_at hl 0 rfl) ?_
          refine lv_bipush (v := 58) C.1 C.2.1 dX12_isSign_25 (by decide) ?_
          refine lv_icmp_ne (tgt := 34) C.1 C.2.1 dX12_isSign_27 (by decide) (fun c_5 => ?_) (fun c_5 => ?_)
          · replace c_5 : ¬ x0.toInt = 58 := i_ne c_5
            refine lv_iconst (v := 0) C.1 C.2.1 dX12_isSign_34 (by decide) ?_
            exact g_iret C hr hlocks hP hD hS (by decide) t rfl ⟨hok, hfr, by decide, by decide⟩ (Nat.le_of_ble_eq_true rfl) (Nat.le_of_ble_eq_true rfl) dX12_isSign_35
          · replace c_5 : x0.toInt = 58 := i_eq c_5
            refine lv_iconst (v := 1) C.1 C.2.1 dX12_isSign_30 (by decide) ?_
            refine lv_goto (tgt := 35) C.1 C.2.1 dX12_isSign_31 (by decide) ?_
            exact g_iret C hr hlocks hP hD hS (by decide) t rfl ⟨hok, hfr, by decide, by decide⟩ (Nat.le_of_ble_eq_true rfl) (Nat.le_of_ble_eq_true rfl) dX12_isSign_35

set_option maxHeartbeats 4000000 in
set_option maxRecDepth 100000 in
theorem T_X12_stored (l : Launch) (D : va_G) (K : Nat → ClassId) (ad : Nat → Nat) (t : tSt) (hok : okM t) (x0 : Int32) (x1 : Int32) (x2 : Int32) : uMet l yX12_stored cX12_stored 12 (some .int) (rmD 0 0 0) D K X0 [.int x0, .int x1, .int x2] (WM K ad t) (QI D K (fun (r : Int32) (u : tSt) => okM u ∧ frI [] t u ∧ (-2147483648 : Int) ≤ r.toInt ∧ r.toInt ≤ 2147483647) (fun (u : tSt) => WM K ad u)) 0 0 := by
  refine k_met RX12 ⟨rfl, by decide +kernel⟩ (Nat.le_of_ble_eq_true rfl) ?_
  intro p e s m below meth c A ls C hX hr hlocks hin hA hP hD hS hl
  have hl : lv_has ls 12 [(0, .int x0), (1, .int x1), (2, .int x2)] := hl
  have hfr : frI [] t t := frI_rf
  have L_119 : ∀ (t1 : tSt) (w119_0 : Int32) (w119_1 : Int32) (w119_2 : Int32) (w119_3 : Int32) (w119_4 : Int32) (w119_5 : Int32) (w119_6 : Int32) (w119_7 : Int32) (w119_8 : Int32) (w119_9 : Int32) (w119_10 : Int32) (k119_0 : Int32) (H : Heap) (locs : List Loc) (ls : Array Slot), okM t1 → frI [] t t1 → (-268435456 : Int) ≤ w119_3.toInt ∧ w119_3.toInt ≤ 268435455 → (-7 : Int) ≤ w119_4.toInt ∧ w119_4.toInt ≤ 7 → (-268435456 : Int) ≤ w119_5.toInt ∧ w119_5.toInt ≤ 268435455 → (-13 : Int) ≤ w119_6.toInt ∧ w119_6.toInt ≤ 268435464 → (-12 : Int) ≤ w119_8.toInt ∧ w119_8.toInt ≤ 72 → (0 : Int) ≤ w119_10.toInt ∧ w119_10.toInt ≤ 1073741823 → (0 : Int) ≤ k119_0.toInt ∧ k119_0.toInt ≤ 1073741824 → va_P D vwCl (WM K ad t1) H → va_D A (WM K ad t1) → va_S A s.heap H locs → lv_has ls 12 [(0, .int w119_0), (1, .int w119_1), (2, .int w119_2), (3, .int w119_3), (4, .int w119_4), (5, .int w119_5), (6, .int w119_6), (7, .int w119_7), (8, .int w119_8), (9, .int w119_9), (10, .int w119_10)] → W p l e (rmD 0 0 0) s m [.int x0, .int x1, .int x2].toArray below meth c H locs 0 0 (MQ below (QI D K (fun (r : Int32) (u : tSt) => okM u ∧ frI [] t u ∧ (-2147483648 : Int) ≤ r.toInt ∧ r.toInt ≤ 2147483647) (fun (u : tSt) => WM K ad u) A) [.int x0, .int x1, .int x2].toArray s 0 0 A) (F0 m 119 ls [.int k119_0]) := by
    intro t1 w119_0 w119_1 w119_2 w119_3 w119_4 w119_5 w119_6 w119_7 w119_8 w119_9 w119_10 k119_0 H locs ls hok hfr hw119_3 hw119_4 hw119_5 hw119_6 hw119_8 hw119_10 hk119_0 hP hD hS hl
    refine lv_istore (lv' := [(11, .int k119_0), (0, .int w119_0), (1, .int w119_1), (2, .int w119_2), (3, .int w119_3), (4, .int w119_4), (5, .int w119_5), (6, .int w119_6), (7, .int w119_7), (8, .int w119_8), (9, .int w119_9), (10, .int w119_10)]) C.1 C.2.1 dX12_stored_119 hl (by decide) rfl (fun ls hl => ?_)
    have hl : lv_has ls 12 [(0, .int w119_0), (1, .int w119_1), (2, .int w119_2), (3, .int w119_3), (4, .int w119_4), (5, .int w119_5), (6, .int w119_6), (7, .int w119_7), (8, .int w119_8), (9, .int w119_9), (10, .int w119_10), (11, .int k119_0)] := lv_sub hl [1, 2, 3, 4, 5, 6, 7, 8, 9, 10, 11, 0] rfl
    refine lv_iload C.1 C.2.1 dX12_stored_121 (lv_at hl 11 rfl) ?_
    refine lv_iload C.1 C.2.1 dX12_stored_123 (lv_at hl 10 rfl) ?_
    obtain ⟨v_1, e_2⟩ : ∃ z, z = (k119_0 : Int32) ||| (w119_10 : Int32) := ⟨_, rfl⟩
    refine k_ior (v := v_1) C e_2.symm dX12_stored_125 ?_
    refine lv_iload C.1 C.2.1 dX12_stored_126 (lv_at hl 9 rfl) ?_
    obtain ⟨v_4, e_5⟩ : ∃ z, z = (v_1 : Int32) ||| (w119_9 : Int32) := ⟨_, rfl⟩
    refine k_ior (v := v_4) C e_5.symm dX12_stored_128 ?_
    exact g_iret C hr hlocks hP hD hS rfl t1 rfl ⟨hok, hfr, (i_rng _).1, (i_rng _).2⟩ (Nat.le_of_ble_eq_true rfl) (Nat.le_of_ble_eq_true rfl) dX12_stored_129
  have L_79 : ∀ (t1 : tSt) (w79_0 : Int32) (w79_1 : Int32) (w79_2 : Int32) (w79_3 : Int32) (w79_4 : Int32) (w79_5 : Int32) (w79_6 : Int32) (w79_7 : Int32) (k79_0 : Int32) (H : Heap) (locs : List Loc) (ls : Array Slot), okM t1 → frI [] t t1 → (-268435456 : Int) ≤ w79_3.toInt ∧ w79_3.toInt ≤ 268435455 → (-7 : Int) ≤ w79_4.toInt ∧ w79_4.toInt ≤ 7 → (-268435456 : Int) ≤ w79_5.toInt ∧ w79_5.toInt ≤ 268435455 → (-13 : Int) ≤ w79_6.toInt ∧ w79_6.toInt ≤ 268435464 → (-12 : Int) ≤ k79_0.toInt ∧ k79_0.toInt ≤ 72 → va_P D vwCl (WM K ad t1) H → va_D A (WM K ad t1) → va_S A s.heap H locs → lv_has ls 12 [(0, .int w79_0), (1, .int w79_1), (2, .int w79_2), (3, .int w79_3), (4, .int w79_4), (5, .int w79_5), (6, .int w79_6), (7, .int w79_7)] → W p l e (rmD 0 0 0) s m [.int x0, .int x1, .int x2].toArray below meth c H locs 0 0 (MQ below (QI D K (fun (r : Int32) (u : tSt) => okM u ∧ frI [] t u ∧ (-2147483648 : Int) ≤ r.toInt ∧ r.toInt ≤ 2147483647) (fun (u : tSt) => WM K ad u) A) [.int x0, .int x1, .int x2].toArray s 0 0 A) (F0 m 79 ls [.int k79_0]) := by
    intro t1 w79_0 w79_1 w79_2 w79_3 w79_4 w79_5 w79_6 w79_7 k79_0 H locs ls hok hfr hw79_3 hw79_4 hw79_5 hw79_6 hk79_0 hP hD hS hl
    refine lv_istore (lv' := [(8, .int k79_0), (0, .int w79_0), (1, .int w79_1), (2, .int w79_2), (3, .int w79_3), (4, .int w79_4), (5, .int w79_5), (6, .int w79_6), (7, .int w79_7)]) C.1 C.2.1 dX12_stored_79 hl (by decide) rfl (fun ls hl => ?_)
    have hl : lv_has ls 12 [(0, .int w79_0), (1, .int w79_1), (2, .int w79_2), (3, .int w79_3), (4, .int w79_4), (5, .int w79_5), (6, .int w79_6), (7, .int w79_7), (8, .int k79_0)] := lv_sub hl [1, 2, 3, 4, 5, 6, 7, 8, 0] rfl
    refine lv_iload_n C.1 C.2.1 dX12_stored_81 rfl (lv_at hl 1 rfl) ?_
    refine lv_iload C.1 C.2.1 dX12_stored_82 (lv_at hl 7 rfl) ?_
    obtain ⟨v_6, e_7⟩ : ∃ z, z = (w79_1 : Int32) &&& (w79_7 : Int32) := ⟨_, rfl⟩
    refine k_iand (v := v_6) C e_7.symm dX12_stored_84 ?_
    refine lv_iload C.1 C.2.1 dX12_stored_85 (lv_at hl 8 rfl) ?_
    obtain ⟨v_8, e_9⟩ : ∃ z, z = (v_6 : Int32) <<< ((k79_0 : Int32) &&& 31) := ⟨_, rfl⟩
    refine k_ishl (v := v_8) C e_9.symm dX12_stored_87 ?_
    refine lv_istore (lv' := [(9, .int v_8), (0, .int w79_0), (1, .int w79_1), (2, .int w79_2), (3, .int w79_3), (4, .int w79_4), (5, .int w79_5), (6, .int w79_6), (7, .int w79_7), (8, .int k79_0)]) C.1 C.2.1 dX12_stored_88 hl (by decide) rfl (fun ls hl => ?_)
    have hl : lv_has ls 12 [(0, .int w79_0), (1, .int w79_1), (2, .int w79_2), (3, .int w79_3), (4, .int w79_4), (5, .int w79_5), (6, .int w79_6), (7, .int w79_7), (8, .int k79_0), (9, .int v_8)] := lv_sub hl [1, 2, 3, 4, 5, 6, 7, 8, 9, 0] rfl
    refine lv_iload_n C.1 C.2.1 dX12_stored_90 rfl (lv_at hl 0 rfl) ?_
    refine lv_ldc (v := 1073741823) C.1 C.2.1 C.2.2.2.1 (C.2.2.2.2.1 _ m_36_12) dX12_stored_91 ?_
    obtain ⟨v_10, e_11⟩ : ∃ z, z = (w79_0 : Int32) &&& (1073741823 : Int32) := ⟨_, rfl⟩
    have h_12 : v_10.toInt = w79_0.toInt % 2 ^ 30 := by rw [e_11]; exact Jvm.Kit.i32_mask _ _ (k := 30) (by decide) (by decide)
    refine k_iand (v := v_10) C e_11.symm dX12_stored_93 ?_
    refine lv_iload C.1 C.2.1 dX12_stored_94 (lv_at hl 7 rfl) ?_
    refine lv_iload C.1 C.2.1 dX12_stored_96 (lv_at hl 8 rfl) ?_
    obtain ⟨v_13, e_14⟩ : ∃ z, z = (w79_7 : Int32) <<< ((k79_0 : Int32) &&& 31) := ⟨_, rfl⟩
    refine k_ishl (v := v_13) C e_14.symm dX12_stored_98 ?_
    refine lv_iconst (v := (-1)) C.1 C.2.1 dX12_stored_99 (by decide) ?_
    obtain ⟨v_15, e_16⟩ : ∃ z, z = (v_13 : Int32) ^^^ ((-1) : Int32) := ⟨_, rfl⟩
    refine k_ixor (v := v_15) C e_16.symm dX12_stored_100 ?_
    obtain ⟨v_17, e_18⟩ : ∃ z, z = (v_10 : Int32) &&& (v_15 : Int32) := ⟨_, rfl⟩
    refine k_iand (v := v_17) C e_18.symm dX12_stored_101 ?_
    refine lv_istore (lv' := [(10, .int v_17), (0, .int w79_0), (1, .int w79_1), (2, .int w79_2), (3, .int w79_3), (4, .int w79_4), (5, .int w79_5), (6, .int w79_6), (7, .int w79_7), (8, .int k79_0), (9, .int v_8)]) C.1 C.2.1 dX12_stored_102 hl (by decide) rfl (fun ls hl => ?_)
    have hl : lv_has ls 12 [(0, .int w79_0), (1, .int w79_1), (2, .int w79_2), (3, .int w79_3), (4, .int w79_4), (5, .int w79_5), (6, .int w79_6), (7, .int w79_7), (8, .int k79_0), (9, .int v_8), (10, .int v_17)] := lv_sub hl [1, 2, 3, 4, 5, 6, 7, 8, 9, 10, 0] rfl
    refine lv_iload_n C.1 C.2.1 dX12_stored_104 rfl (lv_at hl 3 rfl) ?_
    refine lv_if_ne (tgt := 115) C.1 C.2.1 dX12_stored_105 (by decide) (fun c_20 => ?_) (fun c_20 => ?_)
    · replace c_20 : ¬ w79_3.toInt = 0 := i_ne c_20
      refine lv_iload_n C.1 C.2.1 dX12_stored_115 rfl (lv_at hl 0 rfl) ?_
      refine lv_ldc (v := 1073741824) C.1 C.2.1 C.2.2.2.1 (C.2.2.2.2.1 _ m_34_19) dX12_stored_116 ?_
      obtain ⟨v_21, e_22⟩ : ∃ z, z = (w79_0 : Int32) &&& (1073741824 : Int32) := ⟨_, rfl⟩
      refine k_iand (v := v_21) C e_22.symm dX12_stored_118 ?_
      exact L_119 t1 w79_0 w79_1 w79_2 w79_3 w79_4 w79_5 w79_6 w79_7 k79_0 v_8 v_17 v_21 _ _ _ hok hfr ⟨by omega, by omega⟩ ⟨by omega, by omega⟩ ⟨by omega, by omega⟩ ⟨by omega, by omega⟩ ⟨by omega, by omega⟩ ⟨by omega, by omega⟩ ⟨by omega, by omega⟩ hP hD hS (lv_sub hl [0, 1, 2, 3, 4, 5, 6, 7, 8, 9, 10] rfl)
    · replace c_20 : w79_3.toInt = 0 := i_eq c_20
      refine lv_iload_n C.1 C.2.1 dX12_stored_108 rfl (lv_at hl 1 rfl) ?_
      refine lv_ldc (v := 1073741824) C.1 C.2.1 C.2.2.2.1 (C.2.2.2.2.1 _ m_34_19) dX12_stored_109 ?_
      obtain ⟨v_24, e_25⟩ : ∃ z, z = (w79_1 : Int32) &&& (1073741824 : Int32) := ⟨_, rfl⟩
      refine k_iand (v := v_24) C e_25.symm dX12_stored_111 ?_
      refine lv_goto (tgt := 119) C.1 C.2.1 dX12_stored_112 (by decide) ?_
      exact L_119 t1 w79_0 w79_1 w79_2 w79_3 w79_4 w79_5 w79_6 w79_7 k79_0 v_8 v_17 v_24 _ _ _ hok hfr ⟨by omega, by omega⟩ ⟨by omega, by omega⟩ ⟨by omega, by omega⟩ ⟨by omega, by omega⟩ ⟨by omega, by omega⟩ ⟨by omega, by omega⟩ ⟨by omega, by omega⟩ hP hD hS (lv_sub hl [0, 1, 2, 3, 4, 5, 6, 7, 8, 9, 10] rfl)
  have L_61 : ∀ (t1 : tSt) (w61_0 : Int32) (w61_1 : Int32) (w61_2 : Int32) (w61_3 : Int32) (w61_4 : Int32) (w61_5 : Int32) (w61_6 : Int32) (k61_0 : Int32) (H : Heap) (locs : List Loc) (ls : Array Slot), okM t1 → frI [] t t1 → (-268435456 : Int) ≤ w61_3.toInt ∧ w61_3.toInt ≤ 268435455 → (-7 : Int) ≤ w61_4.toInt ∧ w61_4.toInt ≤ 7 → (-268435456 : Int) ≤ w61_5.toInt ∧ w61_5.toInt ≤ 268435455 → (-13 : Int) ≤ w61_6.toInt ∧ w61_6.toInt ≤ 268435464 → va_P D vwCl (WM K ad t1) H → va_D A (WM K ad t1) → va_S A s.heap H locs → lv_has ls 12 [(0, .int w61_0), (1, .int w61_1), (2, .int w61_2), (3, .int w61_3), (4, .int w61_4), (5, .int w61_5), (6, .int w61_6)] → W p l e (rmD 0 0 0) s m [.int x0, .int x1, .int x2].toArray below meth c H locs 0 0 (MQ below (QI D K (fun (r : Int32) (u : tSt) => okM u ∧ frI [] t u ∧ (-2147483648 : Int) ≤ r.toInt ∧ r.toInt ≤ 2147483647) (fun (u : tSt) => WM K ad u) A) [.int x0, .int x1, .int x2].toArray s 0 0 A) (F0 m 61 ls [.int k61_0]) := by
    intro t1 w61_0 w61_1 w61_2 w61_3 w61_4 w61_5 w61_6 k61_0 H locs ls hok hfr hw61_3 hw61_4 hw61_5 hw61_6 hP hD hS hl
    refine lv_istore (lv' := [(7, .int k61_0), (0, .int w61_0), (1, .int w61_1), (2, .int w61_2), (3, .int w61_3), (4, .int w61_4), (5, .int w61_5), (6, .int w61_6)]) C.1 C.2.1 dX12_stored_61 hl (by decide) rfl (fun ls hl => ?_)
    have hl : lv_has ls 12 [(0, .int w61_0), (1, .int w61_1), (2, .int w61_2), (3, .int w61_3), (4, .int w61_4), (5, .int w61_5), (6, .int w61_6), (7, .int k61_0)] := lv_sub hl [1, 2, 3, 4, 5, 6, 7, 0] rfl
    refine lv_iload C.1 C.2.1 dX12_stored_63 (lv_at hl 6 rfl) ?_
    refine lv_if_ne (tgt := 72) C.1 C.2.1 dX12_stored_65 (by decide) (fun c_27 => ?_) (fun c_27 => ?_)
    · replace c_27 : ¬ w61_6.toInt = 0 := i_ne c_27
      refine lv_bipush (v := 6) C.1 C.2.1 dX12_stored_72 (by decide) ?_
      refine lv_iconst (v := 5) C.1 C.2.1 dX12_stored_74 (by decide) ?_
      refine lv_iload C.1 C.2.1 dX12_stored_75 (lv_at hl 4 rfl) ?_
      obtain ⟨v_28, e_29⟩ : ∃ z, z = (5 : Int32) - (w61_4 : Int32) := ⟨_, rfl⟩
      have h_30 : v_28.toInt = 5 - w61_4.toInt := by rw [e_29]; exact ti_isub (by show (_ : Int) ≤ 5 - w61_4.toInt; omega) (by show 5 - w61_4.toInt < (_ : Int); omega)
      refine k_isub (v := v_28) C e_29.symm dX12_stored_77 ?_
      obtain ⟨v_31, e_32⟩ : ∃ z, z = (6 : Int32) * (v_28 : Int32) := ⟨_, rfl⟩
      have h_33 : v_31.toInt = 6 * v_28.toInt := by rw [e_32]; exact ti_mull (k := 6) (by decide) (by omega) (by omega)
      refine k_imul (v := v_31) C e_32.symm dX12_stored_78 ?_
      exact L_79 t1 w61_0 w61_1 w61_2 w61_3 w61_4 w61_5 w61_6 k61_0 v_31 _ _ _ hok hfr ⟨by omega, by omega⟩ ⟨by omega, by omega⟩ ⟨by omega, by omega⟩ ⟨by omega, by omega⟩ ⟨by omega, by omega⟩ hP hD hS (lv_sub hl [0, 1, 2, 3, 4, 5, 6, 7] rfl)
    · replace c_27 : w61_6.toInt = 0 := i_eq c_27
      refine lv_iconst (v := 0) C.1 C.2.1 dX12_stored_68 (by decide) ?_
      refine lv_goto (tgt := 79) C.1 C.2.1 dX12_stored_69 (by decide) ?_
      exact L_79 t1 w61_0 w61_1 w61_2 w61_3 w61_4 w61_5 w61_6 k61_0 0 _ _ _ hok hfr ⟨by omega, by omega⟩ ⟨by omega, by omega⟩ ⟨by omega, by omega⟩ ⟨by omega, by omega⟩ ⟨by decide, by decide⟩ hP hD hS (lv_sub hl [0, 1, 2, 3, 4, 5, 6, 7] rfl)
  have L_40 : ∀ (t1 : tSt) (w40_0 : Int32) (w40_1 : Int32) (w40_2 : Int32) (w40_3 : Int32) (w40_4 : Int32) (w40_5 : Int32) (k40_0 : Int32) (H : Heap) (locs : List Loc) (ls : Array Slot), okM t1 → frI [] t t1 → (-268435456 : Int) ≤ w40_3.toInt ∧ w40_3.toInt ≤ 268435455 → (-7 : Int) ≤ w40_4.toInt ∧ w40_4.toInt ≤ 7 → (-268435456 : Int) ≤ w40_5.toInt ∧ w40_5.toInt ≤ 268435455 → (-13 : Int) ≤ k40_0.toInt ∧ k40_0.toInt ≤ 268435464 → va_P D vwCl (WM K ad t1) H → va_D A (WM K ad t1) → va_S A s.heap H locs → lv_has ls 12 [(0, .int w40_0), (1, .int w40_1), (2, .int w40_2), (3, .int w40_3), (4, .int w40_4), (5, .int w40_5)] → W p l e (rmD 0 0 0) s m [.int x0, .int x1, .int x2].toArray below meth c H locs 0 0 (MQ below (QI D K (fun (r : Int32) (u : tSt) => okM u ∧ frI [] t u ∧ (-2147483648 : Int) ≤ r.toInt ∧ r.toInt ≤ 2147483647) (fun (u : tSt) => WM K ad u) A) [.int x0, .int x1, .int x2].toArray s 0 0 A) (F0 m 40 ls [.int k40_0]) := by
    intro t1 w40_0 w40_1 w40_2 w40_3 w40_4 w40_5 k40_0 H locs ls hok hfr hw40_3 hw40_4 hw40_5 hk40_0 hP hD hS hl
    refine lv_istore (lv' := [(6, .int k40_0), (0, .int w40_0), (1, .int w40_1), (2, .int w40_2), (3, .int w40_3), (4, .int w40_4), (5, .int w40_5)]) C.1 C.2.1 dX12_stored_40 hl (by decide) rfl (fun ls hl => ?_)
    have hl : lv_has ls 12 [(0, .int w40_0), (1, .int w40_1), (2, .int w40_2), (3, .int w40_3), (4, .int w40_4), (5, .int w40_5), (6, .int k40_0)] := lv_sub hl [1, 2, 3, 4, 5, 6, 0] rfl
    refine lv_iload C.1 C.2.1 dX12_stored_42 (lv_at hl 6 rfl) ?_
    refine lv_if_ne (tgt := 51) C.1 C.2.1 dX12_stored_44 (by decide) (fun c_34 => ?_) (fun c_34 => ?_)
    · replace c_34 : ¬ k40_0.toInt = 0 := i_ne c_34
      refine lv_lconst (v := 1) C.1 C.2.1 dX12_stored_51 (by decide) ?_
      refine lv_bipush (v := 6) C.1 C.2.1 dX12_stored_52 (by decide) ?_
      refine lv_iload C.1 C.2.1 dX12_stored_54 (lv_at hl 6 rfl) ?_
      obtain ⟨v_35, e_36⟩ : ∃ z, z = (6 : Int32) * (k40_0 : Int32) := ⟨_, rfl⟩
      have h_37 : v_35.toInt = 6 * k40_0.toInt := by rw [e_36]; exact ti_mull (k := 6) (by decide) (by omega) (by omega)
      refine k_imul (v := v_35) C e_36.symm dX12_stored_56 ?_
      obtain ⟨v_38, e_39⟩ : ∃ z, z = (1 : Int64) <<< ((v_35 : Int32).toInt64 &&& 63) := ⟨_, rfl⟩
      refine lv_lshl (v := v_38) C.1 C.2.1 dX12_stored_57 e_39.symm ?_
      refine lv_lconst (v := 1) C.1 C.2.1 dX12_stored_58 (by decide) ?_
      obtain ⟨v_40, e_41⟩ : ∃ z, z = (v_38 : Int64) - (1 : Int64) := ⟨_, rfl⟩
      refine k_lsub (v := v_40) C e_41.symm dX12_stored_59 ?_
      obtain ⟨v_42, e_43⟩ : ∃ z, z = (v_40).toInt32 := ⟨_, rfl⟩
      refine lv_l2i (v := v_42) C.1 C.2.1 dX12_stored_60 e_43.symm ?_
      exact L_61 t1 w40_0 w40_1 w40_2 w40_3 w40_4 w40_5 k40_0 v_42 _ _ _ hok hfr ⟨by omega, by omega⟩ ⟨by omega, by omega⟩ ⟨by omega, by omega⟩ ⟨by omega, by omega⟩ hP hD hS (lv_sub hl [0, 1, 2, 3, 4, 5, 6] rfl)
    · replace c_34 : k40_0.toInt = 0 := i_eq c_34
      refine lv_iconst (v := 0) C.1 C.2.1 dX12_stored_47 (by decide) ?_
      refine lv_goto (tgt := 61) C.1 C.2.1 dX12_stored_48 (by decide) ?_
      exact L_61 t1 w40_0 w40_1 w40_2 w40_3 w40_4 w40_5 k40_0 0 _ _ _ hok hfr ⟨by omega, by omega⟩ ⟨by omega, by omega⟩ ⟨by omega, by omega⟩ ⟨by omega, by omega⟩ hP hD hS (lv_sub hl [0, 1, 2, 3, 4, 5, 6] rfl)
  have L_20 : ∀ (t1 : tSt) (w20_0 : Int32) (w20_1 : Int32) (w20_2 : Int32) (w20_3 : Int32) (w20_4 : Int32) (k20_0 : Int32) (H : Heap) (locs : List Loc) (ls : Array Slot), okM t1 → frI [] t t1 → (-268435456 : Int) ≤ w20_3.toInt ∧ w20_3.toInt ≤ 268435455 → (-7 : Int) ≤ w20_4.toInt ∧ w20_4.toInt ≤ 7 → (-268435456 : Int) ≤ k20_0.toInt ∧ k20_0.toInt ≤ 268435455 → va_P D vwCl (WM K ad t1) H → va_D A (WM K ad t1) → va_S A s.heap H locs → lv_has ls 12 [(0, .int w20_0), (1, .int w20_1), (2, .int w20_2), (3, .int w20_3), (4, .int w20_4)] → W p l e (rmD 0 0 0) s m [.int x0, .int x1, .int x2].toArray below meth c H locs 0 0 (MQ below (QI D K (fun (r : Int32) (u : tSt) => okM u ∧ frI [] t u ∧ (-2147483648 : Int) ≤ r.toInt ∧ r.toInt ≤ 2147483647) (fun (u : tSt) => WM K ad u) A) [.int x0, .int x1, .int x2].toArray s 0 0 A) (F0 m 20 ls [.int k20_0]) := by
    intro t1 w20_0 w20_1 w20_2 w20_3 w20_4 k20_0 H locs ls hok hfr hw20_3 hw20_4 hk20_0 hP hD hS hl
    refine lv_istore (lv' := [(5, .int k20_0), (0, .int w20_0), (1, .int w20_1), (2, .int w20_2), (3, .int w20_3), (4, .int w20_4)]) C.1 C.2.1 dX12_stored_20 hl (by decide) rfl (fun ls hl => ?_)
    have hl : lv_has ls 12 [(0, .int w20_0), (1, .int w20_1), (2, .int w20_2), (3, .int w20_3), (4, .int w20_4), (5, .int k20_0)] := lv_sub hl [1, 2, 3, 4, 5, 0] rfl
    refine lv_iload C.1 C.2.1 dX12_stored_22 (lv_at hl 4 rfl) ?_
    refine lv_iload C.1 C.2.1 dX12_stored_24 (lv_at hl 5 rfl) ?_
    refine lv_icmp_ge (tgt := 33) C.1 C.2.1 dX12_stored_26 (by decide) (fun c_44 => ?_) (fun c_44 => ?_)
    · replace c_44 : k20_0.toInt ≤ w20_4.toInt := i_le c_44
      refine lv_iload C.1 C.2.1 dX12_stored_33 (lv_at hl 4 rfl) ?_
      refine lv_iload C.1 C.2.1 dX12_stored_35 (lv_at hl 5 rfl) ?_
      obtain ⟨v_45, e_46⟩ : ∃ z, z = (w20_4 : Int32) - (k20_0 : Int32) := ⟨_, rfl⟩
      have h_47 : v_45.toInt = w20_4.toInt - k20_0.toInt := by rw [e_46]; exact ti_isub (by show (_ : Int) ≤ w20_4.toInt - k20_0.toInt; omega) (by show w20_4.toInt - k20_0.toInt < (_ : Int); omega)
      refine k_isub (v := v_45) C e_46.symm dX12_stored_37 ?_
      refine lv_iconst (v := 1) C.1 C.2.1 dX12_stored_38 (by decide) ?_
      obtain ⟨v_48, e_49⟩ : ∃ z, z = (v_45 : Int32) + (1 : Int32) := ⟨_, rfl⟩
      have h_50 : v_48.toInt = v_45.toInt + 1 := by rw [e_49]; exact ti_iadd (by show (_ : Int) ≤ v_45.toInt + 1; omega) (by show v_45.toInt + 1 < (_ : Int); omega)
      refine k_iadd (v := v_48) C e_49.symm dX12_stored_39 ?_
      exact L_40 t1 w20_0 w20_1 w20_2 w20_3 w20_4 k20_0 v_48 _ _ _ hok hfr ⟨by omega, by omega⟩ ⟨by omega, by omega⟩ ⟨by omega, by omega⟩ ⟨by omega, by omega⟩ hP hD hS (lv_sub hl [0, 1, 2, 3, 4, 5] rfl)
    · replace c_44 : w20_4.toInt < k20_0.toInt := i_nle c_44
      refine lv_iconst (v := 0) C.1 C.2.1 dX12_stored_29 (by decide) ?_
      refine lv_goto (tgt := 40) C.1 C.2.1 dX12_stored_30 (by decide) ?_
      exact L_40 t1 w20_0 w20_1 w20_2 w20_3 w20_4 k20_0 0 _ _ _ hok hfr ⟨by omega, by omega⟩ ⟨by omega, by omega⟩ ⟨by omega, by omega⟩ ⟨by decide, by decide⟩ hP hD hS (lv_sub hl [0, 1, 2, 3, 4, 5] rfl)
  refine lv_iload_n C.1 C.2.1 dX12_stored_0 rfl (lv_at hl 2 rfl) ?_
  refine lv_bipush (v := 8) C.1 C.2.1 dX12_stored_1 (by decide) ?_
  obtain ⟨v_51, e_52⟩ : ∃ z, z = (x2 : Int32) / (8 : Int32) := ⟨_, rfl⟩
  refine k_idiv (v := v_51) C (by decide) e_52.symm dX12_stored_3 ?_
  refine lv_istore_n (lv' := [(3, .int v_51), (0, .int x0), (1, .int x1), (2, .int x2)]) C.1 C.2.1 dX12_stored_4 rfl hl (by decide) rfl (fun ls hl => ?_)
  have hl : lv_has ls 12 [(0, .int x0), (1, .int x1), (2, .int x2), (3, .int v_51)] := lv_sub hl [1, 2, 3, 0] rfl
  refine lv_iload_n C.1 C.2.1 dX12_stored_5 rfl (lv_at hl 2 rfl) ?_
  refine lv_bipush (v := 8) C.1 C.2.1 dX12_stored_6 (by decide) ?_
  obtain ⟨v_54, e_55⟩ : ∃ z, z = (x2 : Int32) - (x2 : Int32) / (8 : Int32) * (8 : Int32) := ⟨_, rfl⟩
  have h_56 : (-8 : Int) < v_54.toInt ∧ v_54.toInt < 8 := by rw [e_55]; exact z_remb (k := 8) (by decide) (by decide)
  refine k_irem (v := v_54) C (by decide) e_55.symm dX12_stored_8 ?_
  refine lv_istore (lv' := [(4, .int v_54), (0, .int x0), (1, .int x1), (2, .int x2), (3, .int v_51)]) C.1 C.2.1 dX12_stored_9 hl (by decide) rfl (fun ls hl => ?_)
  have hl : lv_has ls 12 [(0, .int x0), (1, .int x1), (2, .int x2), (3, .int v_51), (4, .int v_54)] := lv_sub hl [1, 2, 3, 4, 0] rfl
  refine lv_iload_n C.1 C.2.1 dX12_stored_11 rfl (lv_at hl 3 rfl) ?_
  refine lv_if_ne (tgt := 19) C.1 C.2.1 dX12_stored_12 (by decide) (fun c_57 => ?_) (fun c_57 => ?_)
  · replace c_57 : ¬ v_51.toInt = 0 := i_ne c_57
    refine lv_iload_n C.1 C.2.1 dX12_stored_19 rfl (lv_at hl 3 rfl) ?_
    exact L_20 t x0 x1 x2 v_51 v_54 v_51 _ _ _ hok hfr ⟨by omega, by omega⟩ ⟨by omega, by omega⟩ ⟨by omega, by omega⟩ hP hD hS (lv_sub hl [0, 1, 2, 3, 4] rfl)
  · replace c_57 : v_51.toInt = 0 := i_eq c_57
    refine lv_iconst (v := 1) C.1 C.2.1 dX12_stored_15 (by decide) ?_
    refine lv_goto (tgt := 20) C.1 C.2.1 dX12_stored_16 (by decide) ?_
    exact L_20 t x0 x1 x2 v_51 v_54 1 _ _ _ hok hfr ⟨by omega, by omega⟩ ⟨by omega, by omega⟩ ⟨by decide, by decide⟩ hP hD hS (lv_sub hl [0, 1, 2, 3, 4] rfl)

set_option maxHeartbeats 4000000 in
set_option maxRecDepth 100000 in
theorem T_X12_resume (l : Launch) (D : va_G) (K : Nat → ClassId) (ad : Nat → Nat) (t : tSt) (hok : okM t)  : uMet l yX12_resume cX12_resume 3 none (rmD 1 0 0) D K X0 [.ref (ad 0)] (WM K ad t) (QV D K (fun (u : tSt) => okM u ∧ frI [(0, 5), (0, 6), (0, 7), (0, 10)] t u) (fun (u : tSt) => WM K ad u)) 0 0 := by
  refine k_met RX12 ⟨rfl, by decide +kernel⟩ (Nat.le_of_ble_eq_true rfl) ?_
  intro p e s m below meth c A ls C hX hr hlocks hin hA hP hD hS hl
  have hl : lv_has ls 3 [(0, .ref (ad 0))] := hl
  have hfr : frI [(0, 5), (0, 6), (0, 7), (0, 10)] t t := frI_rf
  have L_114 : ∀ (t1 : tSt) (w114_1 : Int32) (w114_2 : Int32) (k114_1 : Int32) (H : Heap) (locs : List Loc) (ls : Array Slot), okM t1 → frI [(0, 5), (0, 6), (0, 7), (0, 10)] t t1 → (0 : Int) ≤ w114_2.toInt ∧ w114_2.toInt ≤ 63 → (0 : Int) ≤ k114_1.toInt ∧ k114_1.toInt ≤ 7 → va_P D vwCl (WM K ad t1) H → va_D A (WM K ad t1) → va_S A s.heap H locs → lv_has ls 3 [(0, .ref (ad 0)), (1, .int w114_1), (2, .int w114_2)] → W p l e (rmD 1 0 0) s m [.ref (ad 0)].toArray below meth c H locs 0 0 (MQ below (QV D K (fun (u : tSt) => okM u ∧ frI [(0, 5), (0, 6), (0, 7), (0, 10)] t u) (fun (u : tSt) => WM K ad u) A) [.ref (ad 0)].toArray s 0 0 A) (F0 m 114 ls [.int k114_1, .ref (ad 0)]) := by
    intro t1 w114_1 w114_2 k114_1 H locs ls hok hfr hw114_2 hk114_1 hP hD hS hl
    refine k_put (ws' := WM K ad (uI t1 0 6 k114_1)) (v := .int k114_1) C hP hD hS 0 rfl rfl inlX12 tyX12_ok nmX12 6 (by decide) m_7_7 rfl rfl rfl rfl rfl dX12_resume_114 (fun H locs hP hD hS => ?_)
    have hok : okM (uI t1 0 6 k114_1) := ⟨okI_I hok.1 0 6 k114_1 (show (0 : Int) ≤ (k114_1 : Int32).toInt ∧ (k114_1 : Int32).toInt ≤ 7 from ⟨by omega, by omega⟩), hok.2⟩
    have hfr : frI [(0, 5), (0, 6), (0, 7), (0, 10)] t (uI t1 0 6 k114_1) := frI_I hfr 0 6 _ (by decide)
    refine lv_aload_n C.1 C.2.1 dX12_resume_117 rfl (lv_at hl 0 rfl) ?_
    refine lv_iload_n C.1 C.2.1 dX12_resume_118 rfl (lv_at hl 1 rfl) ?_
    refine lv_sipush (v := 4095) C.1 C.2.1 dX12_resume_119 (by decide) ?_
    obtain ⟨v_1, e_2⟩ : ∃ z, z = (w114_1 : Int32) &&& (4095 : Int32) := ⟨_, rfl⟩
    have h_3 : v_1.toInt = w114_1.toInt % 2 ^ 12 := by rw [e_2]; exact Jvm.Kit.i32_mask _ _ (k := 12) (by decide) (by decide)
    refine k_iand (v := v_1) C e_2.symm dX12_resume_122 ?_
    refine k_put (ws' := WM K ad (uI (uI t1 0 6 k114_1) 0 7 v_1)) (v := .int v_1) C hP hD hS 0 rfl rfl inlX12 tyX12_ok nmX12 7 (by decide) m_29_22 rfl rfl rfl rfl rfl dX12_resume_123 (fun H locs hP hD hS => ?_)
    have hok : okM (uI (uI t1 0 6 k114_1) 0 7 v_1) := ⟨okI_I hok.1 0 7 v_1 (show (-3999 : Int) ≤ (v_1 : Int32).toInt ∧ (v_1 : Int32).toInt ≤ 4095 from ⟨by omega, by omega⟩), hok.2⟩
    have hfr : frI [(0, 5), (0, 6), (0, 7), (0, 10)] t (uI (uI t1 0 6 k114_1) 0 7 v_1) := frI_I hfr 0 7 _ (by decide)
    refine lv_aload_n C.1 C.2.1 dX12_resume_126 rfl (lv_at hl 0 rfl) ?_
    refine lv_iconst (v := 0) C.1 C.2.1 dX12_resume_127 (by decide) ?_
    refine k_put (ws' := WM K ad (uI (uI (uI t1 0 6 k114_1) 0 7 v_1) 0 10 0)) (v := .int 0) C hP hD hS 0 rfl rfl inlX12 tyX12_ok nmX12 10 (by decide) m_30_0 rfl (by decide) (by decide) rfl rfl dX12_resume_128 (fun H locs hP hD hS => ?_)
    have hok : okM (uI (uI (uI t1 0 6 k114_1) 0 7 v_1) 0 10 0) := ⟨okI_I hok.1 0 10 0 (show (0 : Int) ≤ (0 : Int32).toInt ∧ (0 : Int32).toInt ≤ 1 from ⟨by decide, by decide⟩), hok.2⟩
    have hfr : frI [(0, 5), (0, 6), (0, 7), (0, 10)] t (uI (uI (uI t1 0 6 k114_1) 0 7 v_1) 0 10 0) := frI_I hfr 0 10 _ (by decide)
    exact g_vret C hr hlocks hP hD hS (uI (uI (uI t1 0 6 k114_1) 0 7 v_1) 0 10 0) rfl ⟨hok, hfr⟩ (Nat.le_of_ble_eq_true rfl) (Nat.le_of_ble_eq_true rfl) dX12_resume_131
  have L_94 : ∀ (t1 : tSt) (w94_1 : Int32) (w94_2 : Int32) (k94_1 : Int32) (H : Heap) (locs : List Loc) (ls : Array Slot), okM t1 → frI [(0, 5), (0, 6), (0, 7), (0, 10)] t t1 → (0 : Int) ≤ w94_2.toInt ∧ w94_2.toInt ≤ 63 → (0 : Int) ≤ k94_1.toInt ∧ k94_1.toInt ≤ 1 → va_P D vwCl (WM K ad t1) H → va_D A (WM K ad t1) → va_S A s.heap H locs → lv_has ls 3 [(0, .ref (ad 0)), (1, .int w94_1), (2, .int w94_2)] → W p l e (rmD 1 0 0) s m [.ref (ad 0)].toArray below meth c H locs 0 0 (MQ below (QV D K (fun (u : tSt) => okM u ∧ frI [(0, 5), (0, 6), (0, 7), (0, 10)] t u) (fun (u : tSt) => WM K ad u) A) [.ref (ad 0)].toArray s 0 0 A) (F0 m 94 ls [.int k94_1, .ref (ad 0)]) := by
    intro t1 w94_1 w94_2 k94_1 H locs ls hok hfr hw94_2 hk94_1 hP hD hS hl
    refine k_put (ws' := WM K ad (uI t1 0 5 k94_1)) (v := .int k94_1) C hP hD hS 0 rfl rfl inlX12 tyX12_ok nmX12 5 (by decide) m_29_21 rfl (nar01 (by omega) (by omega)) (fit01 (by omega) (by omega)) rfl rfl dX12_resume_94 (fun H locs hP hD hS => ?_)
    have hok : okM (uI t1 0 5 k94_1) := ⟨okI_I hok.1 0 5 k94_1 (show (0 : Int) ≤ (k94_1 : Int32).toInt ∧ (k94_1 : Int32).toInt ≤ 1 from ⟨by omega, by omega⟩), hok.2⟩
    have hfr : frI [(0, 5), (0, 6), (0, 7), (0, 10)] t (uI t1 0 5 k94_1) := frI_I hfr 0 5 _ (by decide)
    refine lv_aload_n C.1 C.2.1 dX12_resume_97 rfl (lv_at hl 0 rfl) ?_
    refine lv_iload_n C.1 C.2.1 dX12_resume_98 rfl (lv_at hl 2 rfl) ?_
    refine lv_bipush (v := 8) C.1 C.2.1 dX12_resume_99 (by decide) ?_
    obtain ⟨v_4, e_5⟩ : ∃ z, z = (w94_2 : Int32) - (w94_2 : Int32) / (8 : Int32) * (8 : Int32) := ⟨_, rfl⟩
    have h_6 : v_4.toInt = w94_2.toInt % 8 := by rw [e_5]; exact z_remp (k := 8) (by decide) (by show (0 : Int) ≤ w94_2.toInt; omega)
    refine k_irem (v := v_4) C (by decide) e_5.symm dX12_resume_101 ?_
    refine lv_iconst (v := 2) C.1 C.2.1 dX12_resume_102 (by decide) ?_
    refine lv_icmp_ge (tgt := 113) C.1 C.2.1 dX12_resume_103 (by decide) (fun c_7 => ?_) (fun c_7 => ?_)
    · replace c_7 : 2 ≤ v_4.toInt := i_le c_7
      refine lv_iconst (v := 2) C.1 C.2.1 dX12_resume_113 (by decide) ?_
      exact L_114 (uI t1 0 5 k94_1) w94_1 w94_2 2 _ _ _ hok hfr ⟨by omega, by omega⟩ ⟨by decide, by decide⟩ hP hD hS (lv_sub hl [0, 1, 2] rfl)
    · replace c_7 : v_4.toInt < 2 := i_nle c_7
      refine lv_iload_n C.1 C.2.1 dX12_resume_106 rfl (lv_at hl 2 rfl) ?_
      refine lv_bipush (v := 8) C.1 C.2.1 dX12_resume_107 (by decide) ?_
      obtain ⟨v_8, e_9⟩ : ∃ z, z = (w94_2 : Int32) - (w94_2 : Int32) / (8 : Int32) * (8 : Int32) := ⟨_, rfl⟩
      have h_10 : v_8.toInt = w94_2.toInt % 8 := by rw [e_9]; exact z_remp (k := 8) (by decide) (by show (0 : Int) ≤ w94_2.toInt; omega)
      refine k_irem (v := v_8) C (by decide) e_9.symm dX12_resume_109 ?_
      refine lv_goto (tgt := 114) C.1 C.2.1 dX12_resume_110 (by decide) ?_
      exact L_114 (uI t1 0 5 k94_1) w94_1 w94_2 v_8 _ _ _ hok hfr ⟨by omega, by omega⟩ ⟨by omega, by omega⟩ hP hD hS (lv_sub hl [0, 1, 2] rfl)
  have L_2 : ∀ (fuel_2 : Nat) (t1 : tSt) (w2_1 : Int32) (H : Heap) (locs : List Loc) (ls : Array Slot), okM t1 → frI [(0, 5), (0, 6), (0, 7), (0, 10)] t t1 → (0 : Int) ≤ w2_1.toInt ∧ w2_1.toInt ≤ 8 → (8 : Int) - w2_1.toInt < (fuel_2 : Int) → va_P D vwCl (WM K ad t1) H → va_D A (WM K ad t1) → va_S A s.heap H locs → lv_has ls 3 [(0, .ref (ad 0)), (1, .int w2_1)] → W p l e (rmD 1 0 0) s m [.ref (ad 0)].toArray below meth c H locs 0 0 (MQ below (QV D K (fun (u : tSt) => okM u ∧ frI [(0, 5), (0, 6), (0, 7), (0, 10)] t u) (fun (u : tSt) => WM K ad u) A) [.ref (ad 0)].toArray s 0 0 A) (F0 m 2 ls []) := by
    intro fuel_2
    induction fuel_2 with
    | zero =>
      intro t1 w2_1 H locs ls hok hfr hw2_1 hm2_2 hP hD hS hl
      exact absurd hm2_2 (by omega)
    | succ fuel_2 ih_2 =>
      intro t1 w2_1 H locs ls hok hfr hw2_1 hm2_2 hP hD hS hl
      have hm2_2 : (8 : Int) - w2_1.toInt < (fuel_2 : Int) + 1 := by omega
      have L_46 : ∀ (t1 : tSt) (w46_1 : Int32) (w46_2 : Int32) (k46_1 : Int32) (k46_2 : Int32) (H : Heap) (locs : List Loc) (ls : Array Slot), okM t1 → frI [(0, 5), (0, 6), (0, 7), (0, 10)] t t1 → (0 : Int) ≤ w46_1.toInt ∧ w46_1.toInt ≤ 7 → (0 : Int) ≤ k46_1.toInt ∧ k46_1.toInt ≤ 7 → (8 : Int) - w46_1.toInt < (fuel_2 : Int) + 1 → va_P D vwCl (WM K ad t1) H → va_D A (WM K ad t1) → va_S A s.heap H locs → lv_has ls 3 [(0, .ref (ad 0)), (1, .int w46_1), (2, .int w46_2)] → W p l e (rmD 1 0 0) s m [.ref (ad 0)].toArray below meth c H locs 0 0 (MQ below (QV D K (fun (u : tSt) => okM u ∧ frI [(0, 5), (0, 6), (0, 7), (0, 10)] t u) (fun (u : tSt) => WM K ad u) A) [.ref (ad 0)].toArray s 0 0 A) (F0 m 46 ls [.int k46_2, .int k46_1, .ref (ad 3)]) := by
        intro t1 w46_1 w46_2 k46_1 k46_2 H locs ls hok hfr hw46_1 hk46_1 hm46_2 hP hD hS hl
        refine k_ist (ws' := WM K ad (uB t1 3 (k46_1 : Int32).toNatClampNeg k46_2)) (x' := k46_2) C hP hD hS 3 rfl (vp_in_iff.mpr ⟨by omega, by omega⟩) rfl rfl rfl dX12_resume_46 (fun H locs hP hD hS => ?_)
        have hok : okM (uB t1 3 (k46_1 : Int32).toNatClampNeg k46_2) := ⟨hok.1, okB_B hok.2 3 _ k46_2 (show (-2147483648 : Int) ≤ (k46_2 : Int32).toInt ∧ (k46_2 : Int32).toInt ≤ 2147483647 from (i_rng _))⟩
        have hfr : frI [(0, 5), (0, 6), (0, 7), (0, 10)] t (uB t1 3 (k46_1 : Int32).toNatClampNeg k46_2) := hfr
        obtain ⟨v_11, e_12⟩ : ∃ z, z = w46_1 + 1 := ⟨_, rfl⟩
        have h_13 : v_11.toInt = w46_1.toInt + 1 := by rw [e_12]; exact ti_iadd (by show (_ : Int) ≤ w46_1.toInt + 1; omega) (by show w46_1.toInt + 1 < (_ : Int); omega)
        refine lv_iinc (v := v_11) (lv' := [(1, .int v_11), (0, .ref (ad 0)), (2, .int w46_2)]) C.1 C.2.1 dX12_resume_47 hl (k := 1) rfl e_12.symm (by decide) rfl (fun ls hl => ?_)
        have hl : lv_has ls 3 [(0, .ref (ad 0)), (1, .int v_11), (2, .int w46_2)] := lv_sub hl [1, 0, 2] rfl
        refine lv_goto (tgt := 2) C.1 C.2.1 dX12_resume_50 (by decide) ?_
        exact ih_2 (uB t1 3 (k46_1 : Int32).toNatClampNeg k46_2) v_11 _ _ _ hok hfr ⟨by omega, by omega⟩ (show (8 : Int) - v_11.toInt < (fuel_2 : Int) from by omega) hP hD hS (lv_sub hl [0, 1] rfl)
      have L_32 : ∀ (t1 : tSt) (w32_1 : Int32) (w32_2 : Int32) (k32_1 : Int32) (H : Heap) (locs : List Loc) (ls : Array Slot), okM t1 → frI [(0, 5), (0, 6), (0, 7), (0, 10)] t t1 → (0 : Int) ≤ w32_1.toInt ∧ w32_1.toInt ≤ 7 → (0 : Int) ≤ k32_1.toInt ∧ k32_1.toInt ≤ 7 → (8 : Int) - w32_1.toInt < (fuel_2 : Int) + 1 → va_P D vwCl (WM K ad t1) H → va_D A (WM K ad t1) → va_S A s.heap H locs → lv_has ls 3 [(0, .ref (ad 0)), (1, .int w32_1), (2, .int w32_2)] → W p l e (rmD 1 0 0) s m [.ref (ad 0)].toArray below meth c H locs 0 0 (MQ below (QV D K (fun (u : tSt) => okM u ∧ frI [(0, 5), (0, 6), (0, 7), (0, 10)] t u) (fun (u : tSt) => WM K ad u) A) [.ref (ad 0)].toArray s 0 0 A) (F0 m 32 ls [.int k32_1, .ref (ad 3)]) := by
        intro t1 w32_1 w32_2 k32_1 H locs ls hok hfr hw32_1 hk32_1 hm32_2 hP hD hS hl
        refine lv_iload_n C.1 C.2.1 dX12_resume_32 rfl (lv_at hl 2 rfl) ?_
        refine lv_goto (tgt := 46) C.1 C.2.1 dX12_resume_33 (by decide) ?_
        exact L_46 t1 w32_1 w32_2 k32_1 w32_2 _ _ _ hok hfr ⟨by omega, by omega⟩ ⟨by omega, by omega⟩ (show (8 : Int) - w32_1.toInt < (fuel_2 : Int) + 1 from by omega) hP hD hS (lv_sub hl [0, 1, 2] rfl)
      refine lv_iload_n C.1 C.2.1 dX12_resume_2 rfl (lv_at hl 1 rfl) ?_
      refine lv_bipush (v := 8) C.1 C.2.1 dX12_resume_3 (by decide) ?_
      refine lv_icmp_ge (tgt := 53) C.1 C.2.1 dX12_resume_5 (by decide) (fun c_14 => ?_) (fun c_14 => ?_)
      · replace c_14 : 8 ≤ w2_1.toInt := i_le c_14
        refine lv_aload_n C.1 C.2.1 dX12_resume_53 rfl (lv_at hl 0 rfl) ?_
        refine lv_iconst (v := (-1)) C.1 C.2.1 dX12_resume_54 (by decide) ?_
        refine g_Vi (As := [.int (-1)]) (rest := []) C hP hD hS hA (T_X12_memoryAt l D K ad t1 hok (-1) (show (-3999 : Int) ≤ ((-1) : Int32).toInt ∧ ((-1) : Int32).toInt ≤ 3999 from ⟨by decide, by decide⟩)) X0_ok trivial (uwV m_38_19 m_38_20 m_38_21 m_1_5 m_38_22) (hdV 1 (by decide +kernel) rfl) ⟨Nat.le_of_ble_eq_true rfl, Nat.le_of_ble_eq_true rfl⟩ rfl rfl (ci := 11) (q0 := 0) rfl rfl rfl hl.1 (Nat.le_of_ble_eq_true rfl) dX12_resume_55 ⟨Nat.le_of_ble_eq_true rfl, Nat.le_of_ble_eq_true rfl⟩ (fun r_16 t_15 H locs hw hP hD hS => ?_)
        obtain ⟨hok, f_17, h_18, h_19⟩ := hw
        have hfr : frI [(0, 5), (0, 6), (0, 7), (0, 10)] t t_15 := frI_tr (m1 := []) hfr f_17 (by decide)
        refine lv_istore_n (lv' := [(1, .int r_16), (0, .ref (ad 0))]) C.1 C.2.1 dX12_resume_58 rfl hl (by decide) rfl (fun ls hl => ?_)
        have hl : lv_has ls 3 [(0, .ref (ad 0)), (1, .int r_16)] := lv_sub hl [1, 0] rfl
        refine lv_aload_n C.1 C.2.1 dX12_resume_59 rfl (lv_at hl 0 rfl) ?_
        refine k_get (v := .ref (ad 3)) C hP 0 rfl rfl inlX12 4 (by decide) m_7_6 rfl dX12_resume_60 ?_
        refine lv_bipush (v := 8) C.1 C.2.1 dX12_resume_63 (by decide) ?_
        refine lv_iload_n C.1 C.2.1 dX12_resume_65 rfl (lv_at hl 1 rfl) ?_
        refine lv_bipush (v := 18) C.1 C.2.1 dX12_resume_66 (by decide) ?_
        obtain ⟨v_20, e_21⟩ : ∃ z, z = (r_16 : Int32) >>> ((18 : Int32) &&& 31) := ⟨_, rfl⟩
        have h_22 : v_20.toInt = r_16.toInt / 2 ^ 18 := by rw [e_21]; exact Jvm.Kit.i32_shr _ _ (k := 18) (by decide)
        refine k_ishr (v := v_20) C e_21.symm dX12_resume_68 ?_
        refine lv_sipush (v := 4095) C.1 C.2.1 dX12_resume_69 (by decide) ?_
        obtain ⟨v_23, e_24⟩ : ∃ z, z = (v_20 : Int32) &&& (4095 : Int32) := ⟨_, rfl⟩
        have h_25 : v_23.toInt = v_20.toInt % 2 ^ 12 := by rw [e_24]; exact Jvm.Kit.i32_mask _ _ (k := 12) (by decide) (by decide)
        refine k_iand (v := v_23) C e_24.symm dX12_resume_72 ?_
        refine k_ist (ws' := WM K ad (uB t_15 3 (8 : Int32).toNatClampNeg v_23)) (x' := v_23) C hP hD hS 3 rfl (vin (by decide)) rfl rfl rfl dX12_resume_73 (fun H locs hP hD hS => ?_)
        have hok : okM (uB t_15 3 (8 : Int32).toNatClampNeg v_23) := ⟨hok.1, okB_B hok.2 3 _ v_23 (show (-2147483648 : Int) ≤ (v_23 : Int32).toInt ∧ (v_23 : Int32).toInt ≤ 2147483647 from (i_rng _))⟩
        have hfr : frI [(0, 5), (0, 6), (0, 7), (0, 10)] t (uB t_15 3 (8 : Int32).toNatClampNeg v_23) := hfr
        refine lv_iload_n C.1 C.2.1 dX12_resume_74 rfl (lv_at hl 1 rfl) ?_
        refine lv_bipush (v := 12) C.1 C.2.1 dX12_resume_75 (by decide) ?_
        obtain ⟨v_26, e_27⟩ : ∃ z, z = (r_16 : Int32) >>> ((12 : Int32) &&& 31) := ⟨_, rfl⟩
        have h_28 : v_26.toInt = r_16.toInt / 2 ^ 12 := by rw [e_27]; exact Jvm.Kit.i32_shr _ _ (k := 12) (by decide)
        refine k_ishr (v := v_26) C e_27.symm dX12_resume_77 ?_
        refine lv_bipush (v := 63) C.1 C.2.1 dX12_resume_78 (by decide) ?_
        obtain ⟨v_29, e_30⟩ : ∃ z, z = (v_26 : Int32) &&& (63 : Int32) := ⟨_, rfl⟩
        have h_31 : v_29.toInt = v_26.toInt % 2 ^ 6 := by rw [e_30]; exact Jvm.Kit.i32_mask _ _ (k := 6) (by decide) (by decide)
        refine k_iand (v := v_29) C e_30.symm dX12_resume_80 ?_
        refine lv_istore_n (lv' := [(2, .int v_29), (0, .ref (ad 0)), (1, .int r_16)]) C.1 C.2.1 dX12_resume_81 rfl hl (by decide) rfl (fun ls hl => ?_)
        have hl : lv_has ls 3 [(0, .ref (ad 0)), (1, .int r_16), (2, .int v_29)] := lv_sub hl [1, 2, 0] rfl
        refine lv_aload_n C.1 C.2.1 dX12_resume_82 rfl (lv_at hl 0 rfl) ?_
        refine lv_iload_n C.1 C.2.1 dX12_resume_83 rfl (lv_at hl 2 rfl) ?_
        refine lv_bipush (v := 7) C.1 C.2.1 dX12_resume_84 (by decide) ?_
        refine lv_icmp_le (tgt := 93) C.1 C.2.1 dX12_resume_86 (by decide) (fun c_32 => ?_) (fun c_32 => ?_)
        · replace c_32 : v_29.toInt ≤ 7 := i_le c_32
          refine lv_iconst (v := 0) C.1 C.2.1 dX12_resume_93 (by decide) ?_
          exact L_94 (uB t_15 3 (8 : Int32).toNatClampNeg v_23) r_16 v_29 0 _ _ _ hok hfr ⟨by omega, by omega⟩ ⟨by decide, by decide⟩ hP hD hS (lv_sub hl [0, 1, 2] rfl)
        · replace c_32 : 7 < v_29.toInt := i_nle c_32
          refine lv_iconst (v := 1) C.1 C.2.1 dX12_resume_89 (by decide) ?_
          refine lv_goto (tgt := 94) C.1 C.2.1 dX12_resume_90 (by decide) ?_
          exact L_94 (uB t_15 3 (8 : Int32).toNatClampNeg v_23) r_16 v_29 1 _ _ _ hok hfr ⟨by omega, by omega⟩ ⟨by decide, by decide⟩ hP hD hS (lv_sub hl [0, 1, 2] rfl)
      · replace c_14 : w2_1.toInt < 8 := i_nle c_14
        refine lv_aload_n C.1 C.2.1 dX12_resume_8 rfl (lv_at hl 0 rfl) ?_
        refine lv_iload_n C.1 C.2.1 dX12_resume_9 rfl (lv_at hl 1 rfl) ?_
        refine lv_bipush (v := 9) C.1 C.2.1 dX12_resume_10 (by decide) ?_
        obtain ⟨v_33, e_34⟩ : ∃ z, z = (w2_1 : Int32) - (9 : Int32) := ⟨_, rfl⟩
        have h_35 : v_33.toInt = w2_1.toInt - 9 := by rw [e_34]; exact ti_isub (by show (_ : Int) ≤ w2_1.toInt - 9; omega) (by show w2_1.toInt - 9 < (_ : Int); omega)
        refine k_isub (v := v_33) C e_34.symm dX12_resume_12 ?_
        refine g_Vi (As := [.int v_33]) (rest := []) C hP hD hS hA (T_X12_memoryAt l D K ad t1 hok (v_33) (show (-3999 : Int) ≤ (v_33 : Int32).toInt ∧ (v_33 : Int32).toInt ≤ 3999 from ⟨by omega, by omega⟩)) X0_ok trivial (uwV m_38_19 m_38_20 m_38_21 m_1_5 m_38_22) (hdV 1 (by decide +kernel) rfl) ⟨Nat.le_of_ble_eq_true rfl, Nat.le_of_ble_eq_true rfl⟩ rfl rfl (ci := 11) (q0 := 0) rfl rfl rfl hl.1 (Nat.le_of_ble_eq_true rfl) dX12_resume_13 ⟨Nat.le_of_ble_eq_true rfl, Nat.le_of_ble_eq_true rfl⟩ (fun r_37 t_36 H locs hw hP hD hS => ?_)
        obtain ⟨hok, f_38, h_39, h_40⟩ := hw
        have hfr : frI [(0, 5), (0, 6), (0, 7), (0, 10)] t t_36 := frI_tr (m1 := []) hfr f_38 (by decide)
        refine lv_istore_n (lv' := [(2, .int r_37), (0, .ref (ad 0)), (1, .int w2_1)]) C.1 C.2.1 dX12_resume_16 rfl hl (by decide) rfl (fun ls hl => ?_)
        have hl : lv_has ls 3 [(0, .ref (ad 0)), (1, .int w2_1), (2, .int r_37)] := lv_sub hl [1, 2, 0] rfl
        refine lv_aload_n C.1 C.2.1 dX12_resume_17 rfl (lv_at hl 0 rfl) ?_
        refine k_get (v := .ref (ad 3)) C hP 0 rfl rfl inlX12 4 (by decide) m_7_6 rfl dX12_resume_18 ?_
        refine lv_iload_n C.1 C.2.1 dX12_resume_21 rfl (lv_at hl 1 rfl) ?_
        refine lv_iload_n C.1 C.2.1 dX12_resume_22 rfl (lv_at hl 1 rfl) ?_
        refine lv_if_eq (tgt := 32) C.1 C.2.1 dX12_resume_23 (by decide) (fun c_41 => ?_) (fun c_41 => ?_)
        · replace c_41 : w2_1.toInt = 0 := i_eq c_41
          exact L_32 t_36 w2_1 r_37 w2_1 _ _ _ hok hfr ⟨by omega, by omega⟩ ⟨by omega, by omega⟩ (show (8 : Int) - w2_1.toInt < (fuel_2 : Int) + 1 from by omega) hP hD hS (lv_sub hl [0, 1, 2] rfl)
        · replace c_41 : ¬ w2_1.toInt = 0 := i_ne c_41
          refine lv_iload_n C.1 C.2.1 dX12_resume_26 rfl (lv_at hl 1 rfl) ?_
          refine lv_bipush (v := 7) C.1 C.2.1 dX12_resume_27 (by decide) ?_
          refine lv_icmp_ne (tgt := 36) C.1 C.2.1 dX12_resume_29 (by decide) (fun c_42 => ?_) (fun c_42 => ?_)
          · replace c_42 : ¬ w2_1.toInt = 7 := i_ne c_42
            refine lv_iload_n C.1 C.2.1 dX12_resume_36 rfl (lv_at hl 2 rfl) ?_
            refine lv_ldc (v := 1073741824) C.1 C.2.1 C.2.2.2.1 (C.2.2.2.2.1 _ m_34_19) dX12_resume_37 ?_
            obtain ⟨v_43, e_44⟩ : ∃ z, z = (r_37 : Int32) &&& (1073741824 : Int32) := ⟨_, rfl⟩
            refine k_iand (v := v_43) C e_44.symm dX12_resume_39 ?_
            refine lv_iload_n C.1 C.2.1 dX12_resume_40 rfl (lv_at hl 2 rfl) ?_
            refine lv_sipush (v := 4095) C.1 C.2.1 dX12_resume_41 (by decide) ?_
            obtain ⟨v_46, e_47⟩ : ∃ z, z = (r_37 : Int32) &&& (4095 : Int32) := ⟨_, rfl⟩
            have h_48 : v_46.toInt = r_37.toInt % 2 ^ 12 := by rw [e_47]; exact Jvm.Kit.i32_mask _ _ (k := 12) (by decide) (by decide)
            refine k_iand (v := v_46) C e_47.symm dX12_resume_44 ?_
            obtain ⟨v_49, e_50⟩ : ∃ z, z = (v_43 : Int32) ||| (v_46 : Int32) := ⟨_, rfl⟩
            refine k_ior (v := v_49) C e_50.symm dX12_resume_45 ?_
            exact L_46 t_36 w2_1 r_37 w2_1 v_49 _ _ _ hok hfr ⟨by omega, by omega⟩ ⟨by omega, by omega⟩ (show (8 : Int) - w2_1.toInt < (fuel_2 : Int) + 1 from by omega) hP hD hS (lv_sub hl [0, 1, 2] rfl)
          · replace c_42 : w2_1.toInt = 7 := i_eq c_42
            exact L_32 t_36 w2_1 r_37 w2_1 _ _ _ hok hfr ⟨by omega, by omega⟩ ⟨by omega, by omega⟩ (show (8 : Int) - w2_1.toInt < (fuel_2 : Int) + 1 from by omega) hP hD hS (lv_sub hl [0, 1, 2] rfl)
  refine lv_iconst (v := 0) C.1 C.2.1 dX12_resume_0 (by decide) ?_
  refine lv_istore_n (lv' := [(1, .int 0), (0, .ref (ad 0))]) C.1 C.2.1 dX12_resume_1 rfl hl (by decide) rfl (fun ls hl => ?_)
  have hl : lv_has ls 3 [(0, .ref (ad 0)), (1, .int 0)] := lv_sub hl [1, 0] rfl
  exact L_2 9 t 0 _ _ _ hok hfr ⟨by decide, by decide⟩ (show (8 : Int) - 0 < ((9 : Nat) : Int) from by omega) hP hD hS (lv_sub hl [0, 1] rfl)

set_option maxHeartbeats 4000000 in
set_option maxRecDepth 100000 in
theorem T_X12_addTo (l : Launch) (D : va_G) (K : Nat → ClassId) (ad : Nat → Nat) (t : tSt) (hok : okM t) (x1 : Int32) (hx1 : (0 : Int) ≤ x1.toInt ∧ x1.toInt ≤ 7) (x2 : Int64) : uMet l yX12_addTo cX12_addTo 8 none (rmD 1 0 0) D K X0 [.ref (ad 0), .int x1, .long x2] (WM K ad t) (QV D K (fun (u : tSt) => okM u ∧ frI [(0, 5)] t u) (fun (u : tSt) => WM K ad u)) 0 0 := by
  refine k_met RX12 ⟨rfl, by decide +kernel⟩ (Nat.le_of_ble_eq_true rfl) ?_
  intro p e s m below meth c A ls C hX hr hlocks hin hA hP hD hS hl
  have hl : lv_has ls 8 [(0, .ref (ad 0)), (1, .int x1), (2, .long x2)] := hl
  have hfr : frI [(0, 5)] t t := frI_rf
  have L_86 : ∀ (t1 : tSt) (w86_1 : Int32) (w86_2 : Int64) (w86_4 : Int64) (w86_6 : Int64) (k86_1 : Int32) (k86_2 : Int32) (H : Heap) (locs : List Loc) (ls : Array Slot), okM t1 → frI [(0, 5)] t t1 → (0 : Int) ≤ w86_1.toInt ∧ w86_1.toInt ≤ 7 → (0 : Int) ≤ k86_1.toInt ∧ k86_1.toInt ≤ 7 → (0 : Int) ≤ k86_2.toInt ∧ k86_2.toInt ≤ 1073741824 → va_P D vwCl (WM K ad t1) H → va_D A (WM K ad t1) → va_S A s.heap H locs → lv_has ls 8 [(0, .ref (ad 0)), (1, .int w86_1), (2, .long w86_2), (4, .long w86_4), (6, .long w86_6)] → W p l e (rmD 1 0 0) s m [.ref (ad 0), .int x1, .long x2].toArray below meth c H locs 0 0 (MQ below (QV D K (fun (u : tSt) => okM u ∧ frI [(0, 5)] t u) (fun (u : tSt) => WM K ad u) A) [.ref (ad 0), .int x1, .long x2].toArray s 0 0 A) (F0 m 86 ls [.int k86_2, .int k86_1, .ref (ad 3)]) := by
    intro t1 w86_1 w86_2 w86_4 w86_6 k86_1 k86_2 H locs ls hok hfr hw86_1 hk86_1 hk86_2 hP hD hS hl
    refine lv_lload C.1 C.2.1 dX12_addTo_86 (lv_at hl 4 rfl) ?_
    refine lv_ldc2 (v := 1073741823) C.1 C.2.1 C.2.2.2.1 (C.2.2.2.2.1 _ m_36_3) dX12_addTo_88 ?_
    refine lv_land C.1 C.2.1 dX12_addTo_91 ?_
    obtain ⟨v_1, e_2⟩ : ∃ z, z = ((w86_6 &&& 1073741823)).toInt32 := ⟨_, rfl⟩
    refine lv_l2i (v := v_1) C.1 C.2.1 dX12_addTo_92 e_2.symm ?_
    obtain ⟨v_3, e_4⟩ : ∃ z, z = (k86_2 : Int32) ||| (v_1 : Int32) := ⟨_, rfl⟩
    refine k_ior (v := v_3) C e_4.symm dX12_addTo_93 ?_
    refine k_ist (ws' := WM K ad (uB t1 3 (k86_1 : Int32).toNatClampNeg v_3)) (x' := v_3) C hP hD hS 3 rfl (vp_in_iff.mpr ⟨by omega, by omega⟩) rfl rfl rfl dX12_addTo_94 (fun H locs hP hD hS => ?_)
    have hok : okM (uB t1 3 (k86_1 : Int32).toNatClampNeg v_3) := ⟨hok.1, okB_B hok.2 3 _ v_3 (show (-2147483648 : Int) ≤ (v_3 : Int32).toInt ∧ (v_3 : Int32).toInt ≤ 2147483647 from (i_rng _))⟩
    have hfr : frI [(0, 5)] t (uB t1 3 (k86_1 : Int32).toNatClampNeg v_3) := hfr
    exact g_vret C hr hlocks hP hD hS (uB t1 3 (k86_1 : Int32).toNatClampNeg v_3) rfl ⟨hok, hfr⟩ (Nat.le_of_ble_eq_true rfl) (Nat.le_of_ble_eq_true rfl) dX12_addTo_95
  have L_68 : ∀ (t1 : tSt) (w68_1 : Int32) (w68_2 : Int64) (w68_4 : Int64) (w68_6 : Int64) (H : Heap) (locs : List Loc) (ls : Array Slot), okM t1 → frI [(0, 5)] t t1 → (0 : Int) ≤ w68_1.toInt ∧ w68_1.toInt ≤ 7 → va_P D vwCl (WM K ad t1) H → va_D A (WM K ad t1) → va_S A s.heap H locs → lv_has ls 8 [(0, .ref (ad 0)), (1, .int w68_1), (2, .long w68_2), (4, .long w68_4), (6, .long w68_6)] → W p l e (rmD 1 0 0) s m [.ref (ad 0), .int x1, .long x2].toArray below meth c H locs 0 0 (MQ below (QV D K (fun (u : tSt) => okM u ∧ frI [(0, 5)] t u) (fun (u : tSt) => WM K ad u) A) [.ref (ad 0), .int x1, .long x2].toArray s 0 0 A) (F0 m 68 ls []) := by
    intro t1 w68_1 w68_2 w68_4 w68_6 H locs ls hok hfr hw68_1 hP hD hS hl
    refine lv_aload_n C.1 C.2.1 dX12_addTo_68 rfl (lv_at hl 0 rfl) ?_
    refine k_get (v := .ref (ad 3)) C hP 0 rfl rfl inlX12 4 (by decide) m_7_6 rfl dX12_addTo_69 ?_
    refine lv_iload_n C.1 C.2.1 dX12_addTo_72 rfl (lv_at hl 1 rfl) ?_
    refine lv_lload C.1 C.2.1 dX12_addTo_73 (lv_at hl 3 rfl) ?_
    refine lv_lconst (v := 0) C.1 C.2.1 dX12_addTo_75 (by decide) ?_
    obtain ⟨v_5, e_6⟩ : ∃ z, z = lg_cmp (w68_4 : Int64) 0 := ⟨_, rfl⟩
    have h_7 : (-1 : Int) ≤ v_5.toInt ∧ v_5.toInt ≤ 1 := by rw [e_6]; exact cmp_rng _ _
    refine k_lcmp (v := v_5) C e_6.symm dX12_addTo_76 ?_
    refine lv_if_ge (tgt := 85) C.1 C.2.1 dX12_addTo_77 (by decide) (fun c_8 => ?_) (fun c_8 => ?_)
    · replace c_8 : 0 ≤ v_5.toInt := i_le c_8
      refine lv_iconst (v := 0) C.1 C.2.1 dX12_addTo_85 (by decide) ?_
      exact L_86 t1 w68_1 w68_2 w68_4 w68_6 w68_1 0 _ _ _ hok hfr ⟨by omega, by omega⟩ ⟨by omega, by omega⟩ ⟨by decide, by decide⟩ hP hD hS (lv_sub hl [0, 1, 2, 3, 4] rfl)
    · replace c_8 : v_5.toInt < 0 := i_nle c_8
      refine lv_ldc (v := 1073741824) C.1 C.2.1 C.2.2.2.1 (C.2.2.2.2.1 _ m_34_19) dX12_addTo_80 ?_
      refine lv_goto (tgt := 86) C.1 C.2.1 dX12_addTo_82 (by decide) ?_
      exact L_86 t1 w68_1 w68_2 w68_4 w68_6 w68_1 1073741824 _ _ _ hok hfr ⟨by omega, by omega⟩ ⟨by omega, by omega⟩ ⟨by decide, by decide⟩ hP hD hS (lv_sub hl [0, 1, 2, 3, 4] rfl)
  have L_52 : ∀ (t1 : tSt) (w52_1 : Int32) (w52_2 : Int64) (w52_4 : Int64) (k52_0 : Int64) (H : Heap) (locs : List Loc) (ls : Array Slot), okM t1 → frI [(0, 5)] t t1 → (0 : Int) ≤ w52_1.toInt ∧ w52_1.toInt ≤ 7 → va_P D vwCl (WM K ad t1) H → va_D A (WM K ad t1) → va_S A s.heap H locs → lv_has ls 8 [(0, .ref (ad 0)), (1, .int w52_1), (2, .long w52_2), (4, .long w52_4)] → W p l e (rmD 1 0 0) s m [.ref (ad 0), .int x1, .long x2].toArray below meth c H locs 0 0 (MQ below (QV D K (fun (u : tSt) => okM u ∧ frI [(0, 5)] t u) (fun (u : tSt) => WM K ad u) A) [.ref (ad 0), .int x1, .long x2].toArray s 0 0 A) (F0 m 52 ls [.long k52_0]) := by
    intro t1 w52_1 w52_2 w52_4 k52_0 H locs ls hok hfr hw52_1 hP hD hS hl
    refine lv_lstore (lv' := [(6, .long k52_0), (0, .ref (ad 0)), (1, .int w52_1), (2, .long w52_2), (4, .long w52_4)]) C.1 C.2.1 dX12_addTo_52 hl (by decide) rfl (fun ls hl => ?_)
    have hl : lv_has ls 8 [(0, .ref (ad 0)), (1, .int w52_1), (2, .long w52_2), (4, .long w52_4), (6, .long k52_0)] := lv_sub hl [1, 2, 3, 4, 0] rfl
    refine lv_lload C.1 C.2.1 dX12_addTo_54 (lv_at hl 4 rfl) ?_
    refine lv_ldc2 (v := 1073741823) C.1 C.2.1 C.2.2.2.1 (C.2.2.2.2.1 _ m_36_3) dX12_addTo_56 ?_
    obtain ⟨v_9, e_10⟩ : ∃ z, z = lg_cmp (k52_0 : Int64) 1073741823 := ⟨_, rfl⟩
    have h_11 : (-1 : Int) ≤ v_9.toInt ∧ v_9.toInt ≤ 1 := by rw [e_10]; exact cmp_rng _ _
    refine k_lcmp (v := v_9) C e_10.symm dX12_addTo_59 ?_
    refine lv_if_le (tgt := 68) C.1 C.2.1 dX12_addTo_60 (by decide) (fun c_12 => ?_) (fun c_12 => ?_)
    · replace c_12 : v_9.toInt ≤ 0 := i_le c_12
      exact L_68 t1 w52_1 w52_2 w52_4 k52_0 _ _ _ hok hfr ⟨by omega, by omega⟩ hP hD hS (lv_sub hl [0, 1, 2, 3, 4] rfl)
    · replace c_12 : 0 < v_9.toInt := i_nle c_12
      refine lv_aload_n C.1 C.2.1 dX12_addTo_63 rfl (lv_at hl 0 rfl) ?_
      refine lv_iconst (v := 1) C.1 C.2.1 dX12_addTo_64 (by decide) ?_
      refine k_put (ws' := WM K ad (uI t1 0 5 1)) (v := .int 1) C hP hD hS 0 rfl rfl inlX12 tyX12_ok nmX12 5 (by decide) m_29_21 rfl (by decide) (by decide) rfl rfl dX12_addTo_65 (fun H locs hP hD hS => ?_)
      have hok : okM (uI t1 0 5 1) := ⟨okI_I hok.1 0 5 1 (show (0 : Int) ≤ (1 : Int32).toInt ∧ (1 : Int32).toInt ≤ 1 from ⟨by decide, by decide⟩), hok.2⟩
      have hfr : frI [(0, 5)] t (uI t1 0 5 1) := frI_I hfr 0 5 _ (by decide)
      exact L_68 (uI t1 0 5 1) w52_1 w52_2 w52_4 k52_0 _ _ _ hok hfr ⟨by omega, by omega⟩ hP hD hS (lv_sub hl [0, 1, 2, 3, 4] rfl)
  refine lv_aload_n C.1 C.2.1 dX12_addTo_0 rfl (lv_at hl 0 rfl) ?_
  refine k_get (v := .ref (ad 3)) C hP 0 rfl rfl inlX12 4 (by decide) m_7_6 rfl dX12_addTo_1 ?_
  refine lv_iload_n C.1 C.2.1 dX12_addTo_4 rfl (lv_at hl 1 rfl) ?_
  obtain ⟨v_13, e_14⟩ : ∃ z, z = t.2.2.1 3 (x1 : Int32).toNatClampNeg := ⟨_, rfl⟩
  refine k_ild (v := v_13) C hP 3 rfl (vp_in_iff.mpr ⟨by omega, by omega⟩) e_14.symm dX12_addTo_5 ?_
  refine g_Si (As := [.int v_13]) (rest := []) C hP hD hS hA (T_X12_value l D K ad t hok (v_13)) X0_ok trivial (uwS m_36_9 m_36_10 m_1_5 m_36_11) (hdS 1 (by decide +kernel) rfl) ⟨Nat.le_of_ble_eq_true rfl, Nat.le_of_ble_eq_true rfl⟩ rfl rfl rfl hl.1 (Nat.le_of_ble_eq_true rfl) dX12_addTo_6 ⟨Nat.le_of_ble_eq_true rfl, Nat.le_of_ble_eq_true rfl⟩ (fun r_16 t_15 H locs hw hP hD hS => ?_)
  obtain ⟨hok, f_17, h_18, h_19⟩ := hw
  have hfr : frI [(0, 5)] t t_15 := frI_tr (m1 := []) hfr f_17 (by decide)
  refine lv_i2l (v := (r_16.toInt64)) C.1 C.2.1 dX12_addTo_9 rfl ?_
  refine lv_lload_n C.1 C.2.1 dX12_addTo_10 rfl (lv_at hl 2 rfl) ?_
  obtain ⟨v_20, e_21⟩ : ∃ z, z = ((r_16.toInt64) : Int64) + (x2 : Int64) := ⟨_, rfl⟩
  refine k_ladd (v := v_20) C e_21.symm dX12_addTo_11 ?_
  refine lv_lstore (lv' := [(4, .long v_20), (0, .ref (ad 0)), (1, .int x1), (2, .long x2)]) C.1 C.2.1 dX12_addTo_12 hl (by decide) rfl (fun ls hl => ?_)
  have hl : lv_has ls 8 [(0, .ref (ad 0)), (1, .int x1), (2, .long x2), (4, .long v_20)] := lv_sub hl [1, 2, 3, 0] rfl
  refine lv_lload C.1 C.2.1 dX12_addTo_14 (lv_at hl 3 rfl) ?_
  refine lv_lconst (v := 0) C.1 C.2.1 dX12_addTo_16 (by decide) ?_
  obtain ⟨v_22, e_23⟩ : ∃ z, z = lg_cmp (v_20 : Int64) 0 := ⟨_, rfl⟩
  have h_24 : (-1 : Int) ≤ v_22.toInt ∧ v_22.toInt ≤ 1 := by rw [e_23]; exact cmp_rng _ _
  refine k_lcmp (v := v_22) C e_23.symm dX12_addTo_17 ?_
  refine lv_if_ne (tgt := 37) C.1 C.2.1 dX12_addTo_18 (by decide) (fun c_25 => ?_) (fun c_25 => ?_)
  · replace c_25 : ¬ v_22.toInt = 0 := i_ne c_25
    refine lv_lload C.1 C.2.1 dX12_addTo_37 (lv_at hl 3 rfl) ?_
    refine lv_lconst (v := 0) C.1 C.2.1 dX12_addTo_39 (by decide) ?_
    obtain ⟨v_26, e_27⟩ : ∃ z, z = lg_cmp (v_20 : Int64) 0 := ⟨_, rfl⟩
    have h_28 : (-1 : Int) ≤ v_26.toInt ∧ v_26.toInt ≤ 1 := by rw [e_27]; exact cmp_rng _ _
    refine k_lcmp (v := v_26) C e_27.symm dX12_addTo_40 ?_
    refine lv_if_ge (tgt := 50) C.1 C.2.1 dX12_addTo_41 (by decide) (fun c_29 => ?_) (fun c_29 => ?_)
    · replace c_29 : 0 ≤ v_26.toInt := i_le c_29
      refine lv_lload C.1 C.2.1 dX12_addTo_50 (lv_at hl 3 rfl) ?_
      exact L_52 t_15 x1 x2 v_20 v_20 _ _ _ hok hfr ⟨by omega, by omega⟩ hP hD hS (lv_sub hl [0, 1, 2, 3] rfl)
    · replace c_29 : v_26.toInt < 0 := i_nle c_29
      refine lv_lload C.1 C.2.1 dX12_addTo_44 (lv_at hl 3 rfl) ?_
      refine lv_lneg C.1 C.2.1 dX12_addTo_46 ?_
      refine lv_goto (tgt := 52) C.1 C.2.1 dX12_addTo_47 (by decide) ?_
      exact L_52 t_15 x1 x2 v_20 (-v_20) _ _ _ hok hfr ⟨by omega, by omega⟩ hP hD hS (lv_sub hl [0, 1, 2, 3] rfl)
  · replace c_25 : v_22.toInt = 0 := i_eq c_25
    refine lv_aload_n C.1 C.2.1 dX12_addTo_21 rfl (lv_at hl 0 rfl) ?_
    refine k_get (v := .ref (ad 3)) C hP 0 rfl rfl inlX12 4 (by decide) m_7_6 rfl dX12_addTo_22 ?_
    refine lv_iload_n C.1 C.2.1 dX12_addTo_25 rfl (lv_at hl 1 rfl) ?_
    refine lv_aload_n C.1 C.2.1 dX12_addTo_26 rfl (lv_at hl 0 rfl) ?_
    refine k_get (v := .ref (ad 3)) C hP 0 rfl rfl inlX12 4 (by decide) m_7_6 rfl dX12_addTo_27 ?_
    refine lv_iload_n C.1 C.2.1 dX12_addTo_30 rfl (lv_at hl 1 rfl) ?_
    obtain ⟨v_30, e_31⟩ : ∃ z, z = t_15.2.2.1 3 (x1 : Int32).toNatClampNeg := ⟨_, rfl⟩
    refine k_ild (v := v_30) C hP 3 rfl (vp_in_iff.mpr ⟨by omega, by omega⟩) e_31.symm dX12_addTo_31 ?_
    refine lv_ldc (v := 1073741824) C.1 C.2.1 C.2.2.2.1 (C.2.2.2.2.1 _ m_34_19) dX12_addTo_32 ?_
    obtain ⟨v_32, e_33⟩ : ∃ z, z = (v_30 : Int32) &&& (1073741824 : Int32) := ⟨_, rfl⟩
    refine k_iand (v := v_32) C e_33.symm dX12_addTo_34 ?_
    refine k_ist (ws' := WM K ad (uB t_15 3 (x1 : Int32).toNatClampNeg v_32)) (x' := v_32) C hP hD hS 3 rfl (vp_in_iff.mpr ⟨by omega, by omega⟩) rfl rfl rfl dX12_addTo_35 (fun H locs hP hD hS => ?_)
    have hok : okM (uB t_15 3 (x1 : Int32).toNatClampNeg v_32) := ⟨hok.1, okB_B hok.2 3 _ v_32 (show (-2147483648 : Int) ≤ (v_32 : Int32).toInt ∧ (v_32 : Int32).toInt ≤ 2147483647 from (i_rng _))⟩
    have hfr : frI [(0, 5)] t (uB t_15 3 (x1 : Int32).toNatClampNeg v_32) := hfr
    exact g_vret C hr hlocks hP hD hS (uB t_15 3 (x1 : Int32).toNatClampNeg v_32) rfl ⟨hok, hfr⟩ (Nat.le_of_ble_eq_true rfl) (Nat.le_of_ble_eq_true rfl) dX12_addTo_36

set_option maxHeartbeats 4000000 in
set_option maxRecDepth 100000 in
theorem T_X12_multiply (l : Launch) (D : va_G) (K : Nat → ClassId) (ad : Nat → Nat) (t : tSt) (hok : okM t) (x1 : Int32) (hx1 : (0 : Int) ≤ x1.toInt ∧ x1.toInt ≤ 2147483647) : uMet l yX12_multiply cX12_multiply 5 none (rmD 0 0 0) D K X0 [.ref (ad 0), .int x1] (WM K ad t) (QV D K (fun (u : tSt) => okM u ∧ frI [] t u) (fun (u : tSt) => WM K ad u)) 0 0 := by
  refine k_met RX12 ⟨rfl, by decide +kernel⟩ (Nat.le_of_ble_eq_true rfl) ?_
  intro p e s m below meth c A ls C hX hr hlocks hin hA hP hD hS hl
  have hl : lv_has ls 5 [(0, .ref (ad 0)), (1, .int x1)] := hl
  have hfr : frI [] t t := frI_rf
  refine lv_aload_n C.1 C.2.1 dX12_multiply_0 rfl (lv_at hl 0 rfl) ?_
  refine k_get (v := .ref (ad 3)) C hP 0 rfl rfl inlX12 4 (by decide) m_7_6 rfl dX12_multiply_1 ?_
  refine lv_iconst (v := 0) C.1 C.2.1 dX12_multiply_4 (by decide) ?_
  obtain ⟨v_1, e_2⟩ : ∃ z, z = t.2.2.1 3 (0 : Int32).toNatClampNeg := ⟨_, rfl⟩
  refine k_ild (v := v_1) C hP 3 rfl (vin (by decide)) e_2.symm dX12_multiply_5 ?_
  refine lv_ldc (v := 1073741823) C.1 C.2.1 C.2.2.2.1 (C.2.2.2.2.1 _ m_36_12) dX12_multiply_6 ?_
  obtain ⟨v_3, e_4⟩ : ∃ z, z = (v_1 : Int32) &&& (1073741823 : Int32) := ⟨_, rfl⟩
  have h_5 : v_3.toInt = v_1.toInt % 2 ^ 30 := by rw [e_4]; exact Jvm.Kit.i32_mask _ _ (k := 30) (by decide) (by decide)
  refine k_iand (v := v_3) C e_4.symm dX12_multiply_8 ?_
  refine lv_i2l (v := (v_3.toInt64)) C.1 C.2.1 dX12_multiply_9 rfl ?_
  refine lv_iload_n C.1 C.2.1 dX12_multiply_10 rfl (lv_at hl 1 rfl) ?_
  refine lv_ldc (v := 1073741823) C.1 C.2.1 C.2.2.2.1 (C.2.2.2.2.1 _ m_36_12) dX12_multiply_11 ?_
  obtain ⟨v_6, e_7⟩ : ∃ z, z = (x1 : Int32) &&& (1073741823 : Int32) := ⟨_, rfl⟩
  have h_8 : v_6.toInt = x1.toInt % 2 ^ 30 := by rw [e_7]; exact Jvm.Kit.i32_mask _ _ (k := 30) (by decide) (by decide)
  refine k_iand (v := v_6) C e_7.symm dX12_multiply_13 ?_
  refine lv_i2l (v := (v_6.toInt64)) C.1 C.2.1 dX12_multiply_14 rfl ?_
  obtain ⟨v_9, e_10⟩ : ∃ z, z = ((v_3.toInt64) : Int64) * ((v_6.toInt64) : Int64) := ⟨_, rfl⟩
  refine k_lmul (v := v_9) C e_10.symm dX12_multiply_15 ?_
  refine lv_lstore_n (lv' := [(2, .long v_9), (0, .ref (ad 0)), (1, .int x1)]) C.1 C.2.1 dX12_multiply_16 rfl hl (by decide) rfl (fun ls hl => ?_)
  have hl : lv_has ls 5 [(0, .ref (ad 0)), (1, .int x1), (2, .long v_9)] := lv_sub hl [1, 2, 0] rfl
  refine lv_aload_n C.1 C.2.1 dX12_multiply_17 rfl (lv_at hl 0 rfl) ?_
  refine k_get (v := .ref (ad 3)) C hP 0 rfl rfl inlX12 4 (by decide) m_7_6 rfl dX12_multiply_18 ?_
  refine lv_iconst (v := 0) C.1 C.2.1 dX12_multiply_21 (by decide) ?_
  obtain ⟨v_11, e_12⟩ : ∃ z, z = t.2.2.1 3 (0 : Int32).toNatClampNeg := ⟨_, rfl⟩
  refine k_ild (v := v_11) C hP 3 rfl (vin (by decide)) e_12.symm dX12_multiply_22 ?_
  refine lv_iload_n C.1 C.2.1 dX12_multiply_23 rfl (lv_at hl 1 rfl) ?_
  obtain ⟨v_13, e_14⟩ : ∃ z, z = (v_11 : Int32) ^^^ (x1 : Int32) := ⟨_, rfl⟩
  refine k_ixor (v := v_13) C e_14.symm dX12_multiply_24 ?_
  refine lv_ldc (v := 1073741824) C.1 C.2.1 C.2.2.2.1 (C.2.2.2.2.1 _ m_34_19) dX12_multiply_25 ?_
  obtain ⟨v_15, e_16⟩ : ∃ z, z = (v_13 : Int32) &&& (1073741824 : Int32) := ⟨_, rfl⟩
  refine k_iand (v := v_15) C e_16.symm dX12_multiply_27 ?_
  refine lv_istore (lv' := [(4, .int v_15), (0, .ref (ad 0)), (1, .int x1), (2, .long v_9)]) C.1 C.2.1 dX12_multiply_28 hl (by decide) rfl (fun ls hl => ?_)
  have hl : lv_has ls 5 [(0, .ref (ad 0)), (1, .int x1), (2, .long v_9), (4, .int v_15)] := lv_sub hl [1, 2, 3, 0] rfl
  refine lv_aload_n C.1 C.2.1 dX12_multiply_30 rfl (lv_at hl 0 rfl) ?_
  refine k_get (v := .ref (ad 3)) C hP 0 rfl rfl inlX12 4 (by decide) m_7_6 rfl dX12_multiply_31 ?_
  refine lv_iconst (v := 0) C.1 C.2.1 dX12_multiply_34 (by decide) ?_
  refine lv_iload C.1 C.2.1 dX12_multiply_35 (lv_at hl 3 rfl) ?_
  refine lv_lload_n C.1 C.2.1 dX12_multiply_37 rfl (lv_at hl 2 rfl) ?_
  refine lv_bipush (v := 30) C.1 C.2.1 dX12_multiply_38 (by decide) ?_
  obtain ⟨v_18, e_19⟩ : ∃ z, z = (v_9 : Int64) >>> ((30 : Int32).toInt64 &&& 63) := ⟨_, rfl⟩
  refine lv_lshr (v := v_18) C.1 C.2.1 dX12_multiply_40 e_19.symm ?_
  obtain ⟨v_20, e_21⟩ : ∃ z, z = (v_18).toInt32 := ⟨_, rfl⟩
  refine lv_l2i (v := v_20) C.1 C.2.1 dX12_multiply_41 e_21.symm ?_
  obtain ⟨v_22, e_23⟩ : ∃ z, z = (v_15 : Int32) ||| (v_20 : Int32) := ⟨_, rfl⟩
  refine k_ior (v := v_22) C e_23.symm dX12_multiply_42 ?_
  refine k_ist (ws' := WM K ad (uB t 3 (0 : Int32).toNatClampNeg v_22)) (x' := v_22) C hP hD hS 3 rfl (vin (by decide)) rfl rfl rfl dX12_multiply_43 (fun H locs hP hD hS => ?_)
  have hok : okM (uB t 3 (0 : Int32).toNatClampNeg v_22) := ⟨hok.1, okB_B hok.2 3 _ v_22 (show (-2147483648 : Int) ≤ (v_22 : Int32).toInt ∧ (v_22 : Int32).toInt ≤ 2147483647 from (i_rng _))⟩
  have hfr : frI [] t (uB t 3 (0 : Int32).toNatClampNeg v_22) := hfr
  refine lv_aload_n C.1 C.2.1 dX12_multiply_44 rfl (lv_at hl 0 rfl) ?_
  refine k_get (v := .ref (ad 3)) C hP 0 rfl rfl inlX12 4 (by decide) m_7_6 rfl dX12_multiply_45 ?_
  refine lv_bipush (v := 7) C.1 C.2.1 dX12_multiply_48 (by decide) ?_
  refine lv_iload C.1 C.2.1 dX12_multiply_50 (lv_at hl 3 rfl) ?_
  refine lv_lload_n C.1 C.2.1 dX12_multiply_52 rfl (lv_at hl 2 rfl) ?_
  refine lv_ldc2 (v := 1073741823) C.1 C.2.1 C.2.2.2.1 (C.2.2.2.2.1 _ m_36_3) dX12_multiply_53 ?_
  refine lv_land C.1 C.2.1 dX12_multiply_56 ?_
  obtain ⟨v_24, e_25⟩ : ∃ z, z = ((v_9 &&& 1073741823)).toInt32 := ⟨_, rfl⟩
  refine lv_l2i (v := v_24) C.1 C.2.1 dX12_multiply_57 e_25.symm ?_
  obtain ⟨v_26, e_27⟩ : ∃ z, z = (v_15 : Int32) ||| (v_24 : Int32) := ⟨_, rfl⟩
  refine k_ior (v := v_26) C e_27.symm dX12_multiply_58 ?_
  refine k_ist (ws' := WM K ad (uB (uB t 3 (0 : Int32).toNatClampNeg v_22) 3 (7 : Int32).toNatClampNeg v_26)) (x' := v_26) C hP hD hS 3 rfl (vin (by decide)) rfl rfl rfl dX12_multiply_59 (fun H locs hP hD hS => ?_)
  have hok : okM (uB (uB t 3 (0 : Int32).toNatClampNeg v_22) 3 (7 : Int32).toNatClampNeg v_26) := ⟨hok.1, okB_B hok.2 3 _ v_26 (show (-2147483648 : Int) ≤ (v_26 : Int32).toInt ∧ (v_26 : Int32).toInt ≤ 2147483647 from (i_rng _))⟩
  have hfr : frI [] t (uB (uB t 3 (0 : Int32).toNatClampNeg v_22) 3 (7 : Int32).toNatClampNeg v_26) := hfr
  exact g_vret C hr hlocks hP hD hS (uB (uB t 3 (0 : Int32).toNatClampNeg v_22) 3 (7 : Int32).toNatClampNeg v_26) rfl ⟨hok, hfr⟩ (Nat.le_of_ble_eq_true rfl) (Nat.le_of_ble_eq_true rfl) dX12_multiply_60

set_option maxHeartbeats 4000000 in
set_option maxRecDepth 100000 in
theorem T_X12_shift (l : Launch) (D : va_G) (K : Nat → ClassId) (ad : Nat → Nat) (t : tSt) (hok : okM t)  : uMet l yX12_shift cX12_shift 12 none (rmD 0 0 0) D K X0 [.ref (ad 0)] (WM K ad t) (QV D K (fun (u : tSt) => okM u ∧ frI [] t u) (fun (u : tSt) => WM K ad u)) 0 0 := by
  refine k_met RX12 ⟨rfl, by decide +kernel⟩ (Nat.le_of_ble_eq_true rfl) ?_
  intro p e s m below meth c A ls C hX hr hlocks hin hA hP hD hS hl
  have hl : lv_has ls 12 [(0, .ref (ad 0))] := hl
  have hfr : frI [] t t := frI_rf
  have L_110 : ∀ (fuel_110 : Nat) (t1 : tSt) (w110_1 : Int32) (w110_2 : Int32) (w110_3 : Int64) (w110_5 : Int64) (w110_7 : Int32) (H : Heap) (locs : List Loc) (ls : Array Slot), okM t1 → frI [] t t1 → (5 : Int) ≤ w110_1.toInt ∧ w110_1.toInt ≤ 10 → (-2147483648 : Int) ≤ w110_2.toInt ∧ w110_2.toInt ≤ 10 → (0 : Int) ≤ w110_7.toInt ∧ w110_7.toInt ≤ 10 → (10 : Int) - w110_7.toInt < (fuel_110 : Int) → va_P D vwCl (WM K ad t1) H → va_D A (WM K ad t1) → va_S A s.heap H locs → lv_has ls 12 [(0, .ref (ad 0)), (1, .int w110_1), (2, .int w110_2), (3, .long w110_3), (5, .long w110_5), (7, .int w110_7)] → W p l e (rmD 0 0 0) s m [.ref (ad 0)].toArray below meth c H locs 0 0 (MQ below (QV D K (fun (u : tSt) => okM u ∧ frI [] t u) (fun (u : tSt) => WM K ad u) A) [.ref (ad 0)].toArray s 0 0 A) (F0 m 110 ls []) := by
    intro fuel_110
    induction fuel_110 with
    | zero =>
      intro t1 w110_1 w110_2 w110_3 w110_5 w110_7 H locs ls hok hfr hw110_1 hw110_2 hw110_7 hm110_110 hP hD hS hl
      exact absurd hm110_110 (by omega)
    | succ fuel_110 ih_110 =>
      intro t1 w110_1 w110_2 w110_3 w110_5 w110_7 H locs ls hok hfr hw110_1 hw110_2 hw110_7 hm110_110 hP hD hS hl
      have hm110_110 : (10 : Int) - w110_7.toInt < (fuel_110 : Int) + 1 := by omega
      have L_199 : ∀ (t1 : tSt) (w199_1 : Int32) (w199_2 : Int32) (w199_3 : Int64) (w199_5 : Int64) (w199_7 : Int32) (w199_8 : Int64) (w199_10 : Int64) (H : Heap) (locs : List Loc) (ls : Array Slot), okM t1 → frI [] t t1 → (5 : Int) ≤ w199_1.toInt ∧ w199_1.toInt ≤ 10 → (1 : Int) ≤ w199_2.toInt ∧ w199_2.toInt ≤ 10 → (0 : Int) ≤ w199_7.toInt ∧ w199_7.toInt ≤ 9 → (10 : Int) - w199_7.toInt < (fuel_110 : Int) + 1 → va_P D vwCl (WM K ad t1) H → va_D A (WM K ad t1) → va_S A s.heap H locs → lv_has ls 12 [(0, .ref (ad 0)), (1, .int w199_1), (2, .int w199_2), (3, .long w199_3), (5, .long w199_5), (7, .int w199_7), (8, .long w199_8), (10, .long w199_10)] → W p l e (rmD 0 0 0) s m [.ref (ad 0)].toArray below meth c H locs 0 0 (MQ below (QV D K (fun (u : tSt) => okM u ∧ frI [] t u) (fun (u : tSt) => WM K ad u) A) [.ref (ad 0)].toArray s 0 0 A) (F0 m 199 ls []) := by
        intro t1 w199_1 w199_2 w199_3 w199_5 w199_7 w199_8 w199_10 H locs ls hok hfr hw199_1 hw199_2 hw199_7 hm199_110 hP hD hS hl
        obtain ⟨v_1, e_2⟩ : ∃ z, z = w199_7 + 1 := ⟨_, rfl⟩
        have h_3 : v_1.toInt = w199_7.toInt + 1 := by rw [e_2]; exact ti_iadd (by show (_ : Int) ≤ w199_7.toInt + 1; omega) (by show w199_7.toInt + 1 < (_ : Int); omega)
        refine lv_iinc (v := v_1) (lv' := [(7, .int v_1), (0, .ref (ad 0)), (1, .int w199_1), (2, .int w199_2), (3, .long w199_3), (5, .long w199_5), (8, .long w199_8), (10, .long w199_10)]) C.1 C.2.1 dX12_shift_199 hl (k := 5) rfl e_2.symm (by decide) rfl (fun ls hl => ?_)
        have hl : lv_has ls 12 [(0, .ref (ad 0)), (1, .int w199_1), (2, .int w199_2), (3, .long w199_3), (5, .long w199_5), (7, .int v_1), (8, .long w199_8), (10, .long w199_10)] := lv_sub hl [1, 2, 3, 4, 5, 0, 6, 7] rfl
        refine lv_goto (tgt := 110) C.1 C.2.1 dX12_shift_202 (by decide) ?_
        exact ih_110 t1 w199_1 w199_2 w199_3 w199_5 v_1 _ _ _ hok hfr ⟨by omega, by omega⟩ ⟨by omega, by omega⟩ ⟨by omega, by omega⟩ (show (10 : Int) - v_1.toInt < (fuel_110 : Int) from by omega) hP hD hS (lv_sub hl [0, 1, 2, 3, 4, 5] rfl)
      have L_197 : ∀ (t1 : tSt) (w197_1 : Int32) (w197_2 : Int32) (w197_3 : Int64) (w197_5 : Int64) (w197_7 : Int32) (w197_8 : Int64) (w197_10 : Int64) (k197_0 : Int64) (k197_1 : Int64) (H : Heap) (locs : List Loc) (ls : Array Slot), okM t1 → frI [] t t1 → (5 : Int) ≤ w197_1.toInt ∧ w197_1.toInt ≤ 10 → (1 : Int) ≤ w197_2.toInt ∧ w197_2.toInt ≤ 10 → (0 : Int) ≤ w197_7.toInt ∧ w197_7.toInt ≤ 9 → (10 : Int) - w197_7.toInt < (fuel_110 : Int) + 1 → va_P D vwCl (WM K ad t1) H → va_D A (WM K ad t1) → va_S A s.heap H locs → lv_has ls 12 [(0, .ref (ad 0)), (1, .int w197_1), (2, .int w197_2), (3, .long w197_3), (5, .long w197_5), (7, .int w197_7), (8, .long w197_8), (10, .long w197_10)] → W p l e (rmD 0 0 0) s m [.ref (ad 0)].toArray below meth c H locs 0 0 (MQ below (QV D K (fun (u : tSt) => okM u ∧ frI [] t u) (fun (u : tSt) => WM K ad u) A) [.ref (ad 0)].toArray s 0 0 A) (F0 m 197 ls [.long k197_1, .long k197_0]) := by
        intro t1 w197_1 w197_2 w197_3 w197_5 w197_7 w197_8 w197_10 k197_0 k197_1 H locs ls hok hfr hw197_1 hw197_2 hw197_7 hm197_110 hP hD hS hl
        refine lv_lor C.1 C.2.1 dX12_shift_197 ?_
        refine lv_lstore_n (lv' := [(3, .long (k197_0 ||| k197_1)), (0, .ref (ad 0)), (1, .int w197_1), (2, .int w197_2), (5, .long w197_5), (7, .int w197_7), (8, .long w197_8), (10, .long w197_10)]) C.1 C.2.1 dX12_shift_198 rfl hl (by decide) rfl (fun ls hl => ?_)
        have hl : lv_has ls 12 [(0, .ref (ad 0)), (1, .int w197_1), (2, .int w197_2), (3, .long (k197_0 ||| k197_1)), (5, .long w197_5), (7, .int w197_7), (8, .long w197_8), (10, .long w197_10)] := lv_sub hl [1, 2, 3, 0, 4, 5, 6, 7] rfl
        exact L_199 t1 w197_1 w197_2 (k197_0 ||| k197_1) w197_5 w197_7 w197_8 w197_10 _ _ _ hok hfr ⟨by omega, by omega⟩ ⟨by omega, by omega⟩ ⟨by omega, by omega⟩ (show (10 : Int) - w197_7.toInt < (fuel_110 : Int) + 1 from by omega) hP hD hS (lv_sub hl [0, 1, 2, 3, 4, 5, 6, 7] rfl)
      have L_167 : ∀ (t1 : tSt) (w167_1 : Int32) (w167_2 : Int32) (w167_3 : Int64) (w167_5 : Int64) (w167_7 : Int32) (w167_8 : Int64) (w167_10 : Int64) (k167_0 : Int64) (k167_1 : Int64) (H : Heap) (locs : List Loc) (ls : Array Slot), okM t1 → frI [] t t1 → (5 : Int) ≤ w167_1.toInt ∧ w167_1.toInt ≤ 10 → (1 : Int) ≤ w167_2.toInt ∧ w167_2.toInt ≤ 10 → (0 : Int) ≤ w167_7.toInt ∧ w167_7.toInt ≤ 9 → (10 : Int) - w167_7.toInt < (fuel_110 : Int) + 1 → va_P D vwCl (WM K ad t1) H → va_D A (WM K ad t1) → va_S A s.heap H locs → lv_has ls 12 [(0, .ref (ad 0)), (1, .int w167_1), (2, .int w167_2), (3, .long w167_3), (5, .long w167_5), (7, .int w167_7), (8, .long w167_8), (10, .long w167_10)] → W p l e (rmD 0 0 0) s m [.ref (ad 0)].toArray below meth c H locs 0 0 (MQ below (QV D K (fun (u : tSt) => okM u ∧ frI [] t u) (fun (u : tSt) => WM K ad u) A) [.ref (ad 0)].toArray s 0 0 A) (F0 m 167 ls [.long k167_1, .long k167_0]) := by
        intro t1 w167_1 w167_2 w167_3 w167_5 w167_7 w167_8 w167_10 k167_0 k167_1 H locs ls hok hfr hw167_1 hw167_2 hw167_7 hm167_110 hP hD hS hl
        refine lv_lor C.1 C.2.1 dX12_shift_167 ?_
        refine lv_lstore_n (lv' := [(3, .long (k167_0 ||| k167_1)), (0, .ref (ad 0)), (1, .int w167_1), (2, .int w167_2), (5, .long w167_5), (7, .int w167_7), (8, .long w167_8), (10, .long w167_10)]) C.1 C.2.1 dX12_shift_168 rfl hl (by decide) rfl (fun ls hl => ?_)
        have hl : lv_has ls 12 [(0, .ref (ad 0)), (1, .int w167_1), (2, .int w167_2), (3, .long (k167_0 ||| k167_1)), (5, .long w167_5), (7, .int w167_7), (8, .long w167_8), (10, .long w167_10)] := lv_sub hl [1, 2, 3, 0, 4, 5, 6, 7] rfl
        refine lv_goto (tgt := 199) C.1 C.2.1 dX12_shift_169 (by decide) ?_
        exact L_199 t1 w167_1 w167_2 (k167_0 ||| k167_1) w167_5 w167_7 w167_8 w167_10 _ _ _ hok hfr ⟨by omega, by omega⟩ ⟨by omega, by omega⟩ ⟨by omega, by omega⟩ (show (10 : Int) - w167_7.toInt < (fuel_110 : Int) + 1 from by omega) hP hD hS (lv_sub hl [0, 1, 2, 3, 4, 5, 6, 7] rfl)
      refine lv_iload C.1 C.2.1 dX12_shift_110 (lv_at hl 5 rfl) ?_
      refine lv_iload_n C.1 C.2.1 dX12_shift_112 rfl (lv_at hl 2 rfl) ?_
      refine lv_icmp_ge (tgt := 205) C.1 C.2.1 dX12_shift_113 (by decide) (fun c_4 => ?_) (fun c_4 => ?_)
      · replace c_4 : w110_2.toInt ≤ w110_7.toInt := i_le c_4
        refine lv_aload_n C.1 C.2.1 dX12_shift_205 rfl (lv_at hl 0 rfl) ?_
        obtain ⟨v_5, e_6⟩ : ∃ z, z = t1.1 0 17 := ⟨_, rfl⟩
        have h_7 : (0 : Int) ≤ v_5.toInt ∧ v_5.toInt ≤ 63 := by rw [e_6]; exact hok.1 0 17
        have h_8 : v_5.toInt = (t1.1 0 17).toInt := congrArg Int32.toInt e_6
        refine k_get (v := .int v_5) C hP 0 rfl rfl inlX12 17 (by decide) m_57_4 (by rw [e_6]; rfl) dX12_shift_206 ?_
        refine lv_iconst (v := 2) C.1 C.2.1 dX12_shift_209 (by decide) ?_
        refine lv_icmp_ge (tgt := 232) C.1 C.2.1 dX12_shift_210 (by decide) (fun c_9 => ?_) (fun c_9 => ?_)
        · replace c_9 : 2 ≤ v_5.toInt := i_le c_9
          refine lv_aload_n C.1 C.2.1 dX12_shift_232 rfl (lv_at hl 0 rfl) ?_
          refine k_get (v := .ref (ad 3)) C hP 0 rfl rfl inlX12 4 (by decide) m_7_6 rfl dX12_shift_233 ?_
          refine lv_iconst (v := 0) C.1 C.2.1 dX12_shift_236 (by decide) ?_
          refine lv_aload_n C.1 C.2.1 dX12_shift_237 rfl (lv_at hl 0 rfl) ?_
          refine k_get (v := .ref (ad 3)) C hP 0 rfl rfl inlX12 4 (by decide) m_7_6 rfl dX12_shift_238 ?_
          refine lv_iconst (v := 0) C.1 C.2.1 dX12_shift_241 (by decide) ?_
          obtain ⟨v_10, e_11⟩ : ∃ z, z = t1.2.2.1 3 (0 : Int32).toNatClampNeg := ⟨_, rfl⟩
          refine k_ild (v := v_10) C hP 3 rfl (vin (by decide)) e_11.symm dX12_shift_242 ?_
          refine lv_ldc (v := 1073741824) C.1 C.2.1 C.2.2.2.1 (C.2.2.2.2.1 _ m_34_19) dX12_shift_243 ?_
          obtain ⟨v_12, e_13⟩ : ∃ z, z = (v_10 : Int32) &&& (1073741824 : Int32) := ⟨_, rfl⟩
          refine k_iand (v := v_12) C e_13.symm dX12_shift_245 ?_
          refine lv_lload_n C.1 C.2.1 dX12_shift_246 rfl (lv_at hl 3 rfl) ?_
          refine lv_bipush (v := 30) C.1 C.2.1 dX12_shift_247 (by decide) ?_
          obtain ⟨v_15, e_16⟩ : ∃ z, z = (w110_3 : Int64) >>> ((30 : Int32).toInt64 &&& 63) := ⟨_, rfl⟩
          refine lv_lshr (v := v_15) C.1 C.2.1 dX12_shift_249 e_16.symm ?_
          obtain ⟨v_17, e_18⟩ : ∃ z, z = (v_15).toInt32 := ⟨_, rfl⟩
          refine lv_l2i (v := v_17) C.1 C.2.1 dX12_shift_250 e_18.symm ?_
          obtain ⟨v_19, e_20⟩ : ∃ z, z = (v_12 : Int32) ||| (v_17 : Int32) := ⟨_, rfl⟩
          refine k_ior (v := v_19) C e_20.symm dX12_shift_251 ?_
          refine k_ist (ws' := WM K ad (uB t1 3 (0 : Int32).toNatClampNeg v_19)) (x' := v_19) C hP hD hS 3 rfl (vin (by decide)) rfl rfl rfl dX12_shift_252 (fun H locs hP hD hS => ?_)
          have hok : okM (uB t1 3 (0 : Int32).toNatClampNeg v_19) := ⟨hok.1, okB_B hok.2 3 _ v_19 (show (-2147483648 : Int) ≤ (v_19 : Int32).toInt ∧ (v_19 : Int32).toInt ≤ 2147483647 from (i_rng _))⟩
          have hfr : frI [] t (uB t1 3 (0 : Int32).toNatClampNeg v_19) := hfr
          refine lv_aload_n C.1 C.2.1 dX12_shift_253 rfl (lv_at hl 0 rfl) ?_
          refine k_get (v := .ref (ad 3)) C hP 0 rfl rfl inlX12 4 (by decide) m_7_6 rfl dX12_shift_254 ?_
          refine lv_bipush (v := 7) C.1 C.2.1 dX12_shift_257 (by decide) ?_
          refine lv_aload_n C.1 C.2.1 dX12_shift_259 rfl (lv_at hl 0 rfl) ?_
          refine k_get (v := .ref (ad 3)) C hP 0 rfl rfl inlX12 4 (by decide) m_7_6 rfl dX12_shift_260 ?_
          refine lv_bipush (v := 7) C.1 C.2.1 dX12_shift_263 (by decide) ?_
          obtain ⟨v_21, e_22⟩ : ∃ z, z = (uB t1 3 (0 : Int32).toNatClampNeg v_19).2.2.1 3 (7 : Int32).toNatClampNeg := ⟨_, rfl⟩
          refine k_ild (v := v_21) C hP 3 rfl (vin (by decide)) e_22.symm dX12_shift_265 ?_
          refine lv_ldc (v := 1073741824) C.1 C.2.1 C.2.2.2.1 (C.2.2.2.2.1 _ m_34_19) dX12_shift_266 ?_
          obtain ⟨v_23, e_24⟩ : ∃ z, z = (v_21 : Int32) &&& (1073741824 : Int32) := ⟨_, rfl⟩
          refine k_iand (v := v_23) C e_24.symm dX12_shift_268 ?_
          refine lv_lload_n C.1 C.2.1 dX12_shift_269 rfl (lv_at hl 3 rfl) ?_
          refine lv_ldc2 (v := 1073741823) C.1 C.2.1 C.2.2.2.1 (C.2.2.2.2.1 _ m_36_3) dX12_shift_270 ?_
          refine lv_land C.1 C.2.1 dX12_shift_273 ?_
          obtain ⟨v_26, e_27⟩ : ∃ z, z = ((w110_3 &&& 1073741823)).toInt32 := ⟨_, rfl⟩
          refine lv_l2i (v := v_26) C.1 C.2.1 dX12_shift_274 e_27.symm ?_
          obtain ⟨v_28, e_29⟩ : ∃ z, z = (v_23 : Int32) ||| (v_26 : Int32) := ⟨_, rfl⟩
          refine k_ior (v := v_28) C e_29.symm dX12_shift_275 ?_
          refine k_ist (ws' := WM K ad (uB (uB t1 3 (0 : Int32).toNatClampNeg v_19) 3 (7 : Int32).toNatClampNeg v_28)) (x' := v_28) C hP hD hS 3 rfl (vin (by decide)) rfl rfl rfl dX12_shift_276 (fun H locs hP hD hS => ?_)
          have hok : okM (uB (uB t1 3 (0 : Int32).toNatClampNeg v_19) 3 (7 : Int32).toNatClampNeg v_28) := ⟨hok.1, okB_B hok.2 3 _ v_28 (show (-2147483648 : Int) ≤ (v_28 : Int32).toInt ∧ (v_28 : Int32).toInt ≤ 2147483647 from (i_rng _))⟩
          have hfr : frI [] t (uB (uB t1 3 (0 : Int32).toNatClampNeg v_19) 3 (7 : Int32).toNatClampNeg v_28) := hfr
          exact g_vret C hr hlocks hP hD hS (uB (uB t1 3 (0 : Int32).toNatClampNeg v_19) 3 (7 : Int32).toNatClampNeg v_28) rfl ⟨hok, hfr⟩ (Nat.le_of_ble_eq_true rfl) (Nat.le_of_ble_eq_true rfl) dX12_shift_277
        · replace c_9 : v_5.toInt < 2 := i_nle c_9
          refine lv_aload_n C.1 C.2.1 dX12_shift_213 rfl (lv_at hl 0 rfl) ?_
          refine k_get (v := .ref (ad 3)) C hP 0 rfl rfl inlX12 4 (by decide) m_7_6 rfl dX12_shift_214 ?_
          refine lv_iconst (v := 0) C.1 C.2.1 dX12_shift_217 (by decide) ?_
          refine lv_aload_n C.1 C.2.1 dX12_shift_218 rfl (lv_at hl 0 rfl) ?_
          refine k_get (v := .ref (ad 3)) C hP 0 rfl rfl inlX12 4 (by decide) m_7_6 rfl dX12_shift_219 ?_
          refine lv_iconst (v := 0) C.1 C.2.1 dX12_shift_222 (by decide) ?_
          obtain ⟨v_30, e_31⟩ : ∃ z, z = t1.2.2.1 3 (0 : Int32).toNatClampNeg := ⟨_, rfl⟩
          refine k_ild (v := v_30) C hP 3 rfl (vin (by decide)) e_31.symm dX12_shift_223 ?_
          refine lv_ldc (v := 1073741824) C.1 C.2.1 C.2.2.2.1 (C.2.2.2.2.1 _ m_34_19) dX12_shift_224 ?_
          obtain ⟨v_32, e_33⟩ : ∃ z, z = (v_30 : Int32) &&& (1073741824 : Int32) := ⟨_, rfl⟩
          refine k_iand (v := v_32) C e_33.symm dX12_shift_226 ?_
          refine lv_lload_n C.1 C.2.1 dX12_shift_227 rfl (lv_at hl 3 rfl) ?_
          obtain ⟨v_35, e_36⟩ : ∃ z, z = (w110_3).toInt32 := ⟨_, rfl⟩
          refine lv_l2i (v := v_35) C.1 C.2.1 dX12_shift_228 e_36.symm ?_
          obtain ⟨v_37, e_38⟩ : ∃ z, z = (v_32 : Int32) ||| (v_35 : Int32) := ⟨_, rfl⟩
          refine k_ior (v := v_37) C e_38.symm dX12_shift_229 ?_
          refine k_ist (ws' := WM K ad (uB t1 3 (0 : Int32).toNatClampNeg v_37)) (x' := v_37) C hP hD hS 3 rfl (vin (by decide)) rfl rfl rfl dX12_shift_230 (fun H locs hP hD hS => ?_)
          have hok : okM (uB t1 3 (0 : Int32).toNatClampNeg v_37) := ⟨hok.1, okB_B hok.2 3 _ v_37 (show (-2147483648 : Int) ≤ (v_37 : Int32).toInt ∧ (v_37 : Int32).toInt ≤ 2147483647 from (i_rng _))⟩
          have hfr : frI [] t (uB t1 3 (0 : Int32).toNatClampNeg v_37) := hfr
          exact g_vret C hr hlocks hP hD hS (uB t1 3 (0 : Int32).toNatClampNeg v_37) rfl ⟨hok, hfr⟩ (Nat.le_of_ble_eq_true rfl) (Nat.le_of_ble_eq_true rfl) dX12_shift_231
      · replace c_4 : w110_7.toInt < w110_2.toInt := i_nle c_4
        refine lv_lload_n C.1 C.2.1 dX12_shift_116 rfl (lv_at hl 3 rfl) ?_
        refine lv_bipush (v := 6) C.1 C.2.1 dX12_shift_117 (by decide) ?_
        refine lv_iload_n C.1 C.2.1 dX12_shift_119 rfl (lv_at hl 1 rfl) ?_
        refine lv_iconst (v := 1) C.1 C.2.1 dX12_shift_120 (by decide) ?_
        obtain ⟨v_39, e_40⟩ : ∃ z, z = (w110_1 : Int32) - (1 : Int32) := ⟨_, rfl⟩
        have h_41 : v_39.toInt = w110_1.toInt - 1 := by rw [e_40]; exact ti_isub (by show (_ : Int) ≤ w110_1.toInt - 1; omega) (by show w110_1.toInt - 1 < (_ : Int); omega)
        refine k_isub (v := v_39) C e_40.symm dX12_shift_121 ?_
        obtain ⟨v_42, e_43⟩ : ∃ z, z = (6 : Int32) * (v_39 : Int32) := ⟨_, rfl⟩
        have h_44 : v_42.toInt = 6 * v_39.toInt := by rw [e_43]; exact ti_mull (k := 6) (by decide) (by omega) (by omega)
        refine k_imul (v := v_42) C e_43.symm dX12_shift_122 ?_
        obtain ⟨v_45, e_46⟩ : ∃ z, z = (w110_3 : Int64) >>> ((v_42 : Int32).toInt64 &&& 63) := ⟨_, rfl⟩
        refine lv_lshr (v := v_45) C.1 C.2.1 dX12_shift_123 e_46.symm ?_
        refine lv_ldc2 (v := 63) C.1 C.2.1 C.2.2.2.1 (C.2.2.2.2.1 _ m_62_14) dX12_shift_124 ?_
        refine lv_land C.1 C.2.1 dX12_shift_127 ?_
        refine lv_lstore (lv' := [(8, .long (v_45 &&& 63)), (0, .ref (ad 0)), (1, .int w110_1), (2, .int w110_2), (3, .long w110_3), (5, .long w110_5), (7, .int w110_7)]) C.1 C.2.1 dX12_shift_128 hl (by decide) rfl (fun ls hl => ?_)
        have hl : lv_has ls 12 [(0, .ref (ad 0)), (1, .int w110_1), (2, .int w110_2), (3, .long w110_3), (5, .long w110_5), (7, .int w110_7), (8, .long (v_45 &&& 63))] := lv_sub hl [1, 2, 3, 4, 5, 6, 0] rfl
        refine lv_lload_n C.1 C.2.1 dX12_shift_130 rfl (lv_at hl 3 rfl) ?_
        refine lv_ldc2 (v := 63) C.1 C.2.1 C.2.2.2.1 (C.2.2.2.2.1 _ m_62_14) dX12_shift_131 ?_
        refine lv_land C.1 C.2.1 dX12_shift_134 ?_
        refine lv_lstore (lv' := [(10, .long (w110_3 &&& 63)), (0, .ref (ad 0)), (1, .int w110_1), (2, .int w110_2), (3, .long w110_3), (5, .long w110_5), (7, .int w110_7), (8, .long (v_45 &&& 63))]) C.1 C.2.1 dX12_shift_135 hl (by decide) rfl (fun ls hl => ?_)
        have hl : lv_has ls 12 [(0, .ref (ad 0)), (1, .int w110_1), (2, .int w110_2), (3, .long w110_3), (5, .long w110_5), (7, .int w110_7), (8, .long (v_45 &&& 63)), (10, .long (w110_3 &&& 63))] := lv_sub hl [1, 2, 3, 4, 5, 6, 7, 0] rfl
        refine lv_aload_n C.1 C.2.1 dX12_shift_137 rfl (lv_at hl 0 rfl) ?_
        obtain ⟨v_47, e_48⟩ : ∃ z, z = t1.1 0 17 := ⟨_, rfl⟩
        have h_49 : (0 : Int) ≤ v_47.toInt ∧ v_47.toInt ≤ 63 := by rw [e_48]; exact hok.1 0 17
        have h_50 : v_47.toInt = (t1.1 0 17).toInt := congrArg Int32.toInt e_48
        refine k_get (v := .int v_47) C hP 0 rfl rfl inlX12 17 (by decide) m_57_4 (by rw [e_48]; rfl) dX12_shift_138 ?_
        refine lv_iconst (v := 2) C.1 C.2.1 dX12_shift_141 (by decide) ?_
        obtain ⟨v_51, e_52⟩ : ∃ z, z = (v_47 : Int32) - (v_47 : Int32) / (2 : Int32) * (2 : Int32) := ⟨_, rfl⟩
        have h_53 : v_51.toInt = v_47.toInt % 2 := by rw [e_52]; exact z_remp (k := 2) (by decide) (by show (0 : Int) ≤ v_47.toInt; omega)
        refine k_irem (v := v_51) C (by decide) e_52.symm dX12_shift_142 ?_
        refine lv_if_ne (tgt := 172) C.1 C.2.1 dX12_shift_143 (by decide) (fun c_54 => ?_) (fun c_54 => ?_)
        · replace c_54 : ¬ v_51.toInt = 0 := i_ne c_54
          refine lv_lload_n C.1 C.2.1 dX12_shift_172 rfl (lv_at hl 3 rfl) ?_
          refine lv_bipush (v := 6) C.1 C.2.1 dX12_shift_173 (by decide) ?_
          obtain ⟨v_55, e_56⟩ : ∃ z, z = (w110_3 : Int64) >>> ((6 : Int32).toInt64 &&& 63) := ⟨_, rfl⟩
          refine lv_lshr (v := v_55) C.1 C.2.1 dX12_shift_175 e_56.symm ?_
          refine lv_aload_n C.1 C.2.1 dX12_shift_176 rfl (lv_at hl 0 rfl) ?_
          refine k_get (v := .int v_47) C hP 0 rfl rfl inlX12 17 (by decide) m_57_4 (by rw [e_48]; rfl) dX12_shift_177 ?_
          refine lv_iconst (v := 5) C.1 C.2.1 dX12_shift_180 (by decide) ?_
          refine lv_icmp_ne (tgt := 196) C.1 C.2.1 dX12_shift_181 (by decide) (fun c_57 => ?_) (fun c_57 => ?_)
          · replace c_57 : ¬ v_47.toInt = 5 := i_ne c_57
            refine lv_lconst (v := 0) C.1 C.2.1 dX12_shift_196 (by decide) ?_
            exact L_197 t1 w110_1 w110_2 w110_3 w110_5 w110_7 (v_45 &&& 63) (w110_3 &&& 63) v_55 0 _ _ _ hok hfr ⟨by omega, by omega⟩ ⟨by omega, by omega⟩ ⟨by omega, by omega⟩ (show (10 : Int) - w110_7.toInt < (fuel_110 : Int) + 1 from by omega) hP hD hS (lv_sub hl [0, 1, 2, 3, 4, 5, 6, 7] rfl)
          · replace c_57 : v_47.toInt = 5 := i_eq c_57
            refine lv_lload C.1 C.2.1 dX12_shift_184 (lv_at hl 7 rfl) ?_
            refine lv_bipush (v := 6) C.1 C.2.1 dX12_shift_186 (by decide) ?_
            refine lv_iload_n C.1 C.2.1 dX12_shift_188 rfl (lv_at hl 1 rfl) ?_
            refine lv_iconst (v := 1) C.1 C.2.1 dX12_shift_189 (by decide) ?_
            obtain ⟨v_58, e_59⟩ : ∃ z, z = (w110_1 : Int32) - (1 : Int32) := ⟨_, rfl⟩
            have h_60 : v_58.toInt = w110_1.toInt - 1 := by rw [e_59]; exact ti_isub (by show (_ : Int) ≤ w110_1.toInt - 1; omega) (by show w110_1.toInt - 1 < (_ : Int); omega)
            refine k_isub (v := v_58) C e_59.symm dX12_shift_190 ?_
            obtain ⟨v_61, e_62⟩ : ∃ z, z = (6 : Int32) * (v_58 : Int32) := ⟨_, rfl⟩
            have h_63 : v_61.toInt = 6 * v_58.toInt := by rw [e_62]; exact ti_mull (k := 6) (by decide) (by omega) (by omega)
            refine k_imul (v := v_61) C e_62.symm dX12_shift_191 ?_
            obtain ⟨v_64, e_65⟩ : ∃ z, z = ((w110_3 &&& 63) : Int64) <<< ((v_61 : Int32).toInt64 &&& 63) := ⟨_, rfl⟩
            refine lv_lshl (v := v_64) C.1 C.2.1 dX12_shift_192 e_65.symm ?_
            refine lv_goto (tgt := 197) C.1 C.2.1 dX12_shift_193 (by decide) ?_
            exact L_197 t1 w110_1 w110_2 w110_3 w110_5 w110_7 (v_45 &&& 63) (w110_3 &&& 63) v_55 v_64 _ _ _ hok hfr ⟨by omega, by omega⟩ ⟨by omega, by omega⟩ ⟨by omega, by omega⟩ (show (10 : Int) - w110_7.toInt < (fuel_110 : Int) + 1 from by omega) hP hD hS (lv_sub hl [0, 1, 2, 3, 4, 5, 6, 7] rfl)
        · replace c_54 : v_51.toInt = 0 := i_eq c_54
          refine lv_lload_n C.1 C.2.1 dX12_shift_146 rfl (lv_at hl 3 rfl) ?_
          refine lv_bipush (v := 6) C.1 C.2.1 dX12_shift_147 (by decide) ?_
          obtain ⟨v_66, e_67⟩ : ∃ z, z = (w110_3 : Int64) <<< ((6 : Int32).toInt64 &&& 63) := ⟨_, rfl⟩
          refine lv_lshl (v := v_66) C.1 C.2.1 dX12_shift_149 e_67.symm ?_
          refine lv_lload C.1 C.2.1 dX12_shift_150 (lv_at hl 4 rfl) ?_
          refine lv_land C.1 C.2.1 dX12_shift_152 ?_
          refine lv_aload_n C.1 C.2.1 dX12_shift_153 rfl (lv_at hl 0 rfl) ?_
          refine k_get (v := .int v_47) C hP 0 rfl rfl inlX12 17 (by decide) m_57_4 (by rw [e_48]; rfl) dX12_shift_154 ?_
          refine lv_iconst (v := 4) C.1 C.2.1 dX12_shift_157 (by decide) ?_
          refine lv_icmp_ne (tgt := 166) C.1 C.2.1 dX12_shift_158 (by decide) (fun c_68 => ?_) (fun c_68 => ?_)
          · replace c_68 : ¬ v_47.toInt = 4 := i_ne c_68
            refine lv_lconst (v := 0) C.1 C.2.1 dX12_shift_166 (by decide) ?_
            exact L_167 t1 w110_1 w110_2 w110_3 w110_5 w110_7 (v_45 &&& 63) (w110_3 &&& 63) (v_66 &&& w110_5) 0 _ _ _ hok hfr ⟨by omega, by omega⟩ ⟨by omega, by omega⟩ ⟨by omega, by omega⟩ (show (10 : Int) - w110_7.toInt < (fuel_110 : Int) + 1 from by omega) hP hD hS (lv_sub hl [0, 1, 2, 3, 4, 5, 6, 7] rfl)
          · replace c_68 : v_47.toInt = 4 := i_eq c_68
            refine lv_lload C.1 C.2.1 dX12_shift_161 (lv_at hl 6 rfl) ?_
            refine lv_goto (tgt := 167) C.1 C.2.1 dX12_shift_163 (by decide) ?_
            exact L_167 t1 w110_1 w110_2 w110_3 w110_5 w110_7 (v_45 &&& 63) (w110_3 &&& 63) (v_66 &&& w110_5) (v_45 &&& 63) _ _ _ hok hfr ⟨by omega, by omega⟩ ⟨by omega, by omega⟩ ⟨by omega, by omega⟩ (show (10 : Int) - w110_7.toInt < (fuel_110 : Int) + 1 from by omega) hP hD hS (lv_sub hl [0, 1, 2, 3, 4, 5, 6, 7] rfl)
  have L_96 : ∀ (t1 : tSt) (w96_1 : Int32) (w96_2 : Int32) (k96_0 : Int64) (H : Heap) (locs : List Loc) (ls : Array Slot), okM t1 → frI [] t t1 → (5 : Int) ≤ w96_1.toInt ∧ w96_1.toInt ≤ 10 → (-2147483648 : Int) ≤ w96_2.toInt ∧ w96_2.toInt ≤ 10 → va_P D vwCl (WM K ad t1) H → va_D A (WM K ad t1) → va_S A s.heap H locs → lv_has ls 12 [(0, .ref (ad 0)), (1, .int w96_1), (2, .int w96_2)] → W p l e (rmD 0 0 0) s m [.ref (ad 0)].toArray below meth c H locs 0 0 (MQ below (QV D K (fun (u : tSt) => okM u ∧ frI [] t u) (fun (u : tSt) => WM K ad u) A) [.ref (ad 0)].toArray s 0 0 A) (F0 m 96 ls [.long k96_0]) := by
    intro t1 w96_1 w96_2 k96_0 H locs ls hok hfr hw96_1 hw96_2 hP hD hS hl
    refine lv_lstore_n (lv' := [(3, .long k96_0), (0, .ref (ad 0)), (1, .int w96_1), (2, .int w96_2)]) C.1 C.2.1 dX12_shift_96 rfl hl (by decide) rfl (fun ls hl => ?_)
    have hl : lv_has ls 12 [(0, .ref (ad 0)), (1, .int w96_1), (2, .int w96_2), (3, .long k96_0)] := lv_sub hl [1, 2, 3, 0] rfl
    refine lv_lconst (v := 1) C.1 C.2.1 dX12_shift_97 (by decide) ?_
    refine lv_bipush (v := 6) C.1 C.2.1 dX12_shift_98 (by decide) ?_
    refine lv_iload_n C.1 C.2.1 dX12_shift_100 rfl (lv_at hl 1 rfl) ?_
    obtain ⟨v_69, e_70⟩ : ∃ z, z = (6 : Int32) * (w96_1 : Int32) := ⟨_, rfl⟩
    have h_71 : v_69.toInt = 6 * w96_1.toInt := by rw [e_70]; exact ti_mull (k := 6) (by decide) (by omega) (by omega)
    refine k_imul (v := v_69) C e_70.symm dX12_shift_101 ?_
    obtain ⟨v_72, e_73⟩ : ∃ z, z = (1 : Int64) <<< ((v_69 : Int32).toInt64 &&& 63) := ⟨_, rfl⟩
    refine lv_lshl (v := v_72) C.1 C.2.1 dX12_shift_102 e_73.symm ?_
    refine lv_lconst (v := 1) C.1 C.2.1 dX12_shift_103 (by decide) ?_
    obtain ⟨v_74, e_75⟩ : ∃ z, z = (v_72 : Int64) - (1 : Int64) := ⟨_, rfl⟩
    refine k_lsub (v := v_74) C e_75.symm dX12_shift_104 ?_
    refine lv_lstore (lv' := [(5, .long v_74), (0, .ref (ad 0)), (1, .int w96_1), (2, .int w96_2), (3, .long k96_0)]) C.1 C.2.1 dX12_shift_105 hl (by decide) rfl (fun ls hl => ?_)
    have hl : lv_has ls 12 [(0, .ref (ad 0)), (1, .int w96_1), (2, .int w96_2), (3, .long k96_0), (5, .long v_74)] := lv_sub hl [1, 2, 3, 4, 0] rfl
    refine lv_iconst (v := 0) C.1 C.2.1 dX12_shift_107 (by decide) ?_
    refine lv_istore (lv' := [(7, .int 0), (0, .ref (ad 0)), (1, .int w96_1), (2, .int w96_2), (3, .long k96_0), (5, .long v_74)]) C.1 C.2.1 dX12_shift_108 hl (by decide) rfl (fun ls hl => ?_)
    have hl : lv_has ls 12 [(0, .ref (ad 0)), (1, .int w96_1), (2, .int w96_2), (3, .long k96_0), (5, .long v_74), (7, .int 0)] := lv_sub hl [1, 2, 3, 4, 5, 0] rfl
    exact L_110 11 t1 w96_1 w96_2 k96_0 v_74 0 _ _ _ hok hfr ⟨by omega, by omega⟩ ⟨by omega, by omega⟩ ⟨by decide, by decide⟩ (show (10 : Int) - 0 < ((11 : Nat) : Int) from by omega) hP hD hS (lv_sub hl [0, 1, 2, 3, 4, 5] rfl)
  have L_49 : ∀ (t1 : tSt) (w49_1 : Int32) (k49_0 : Int32) (H : Heap) (locs : List Loc) (ls : Array Slot), okM t1 → frI [] t t1 → (5 : Int) ≤ w49_1.toInt ∧ w49_1.toInt ≤ 10 → (-2147483648 : Int) ≤ k49_0.toInt ∧ k49_0.toInt ≤ 10 → va_P D vwCl (WM K ad t1) H → va_D A (WM K ad t1) → va_S A s.heap H locs → lv_has ls 12 [(0, .ref (ad 0)), (1, .int w49_1)] → W p l e (rmD 0 0 0) s m [.ref (ad 0)].toArray below meth c H locs 0 0 (MQ below (QV D K (fun (u : tSt) => okM u ∧ frI [] t u) (fun (u : tSt) => WM K ad u) A) [.ref (ad 0)].toArray s 0 0 A) (F0 m 49 ls [.int k49_0]) := by
    intro t1 w49_1 k49_0 H locs ls hok hfr hw49_1 hk49_0 hP hD hS hl
    refine lv_istore_n (lv' := [(2, .int k49_0), (0, .ref (ad 0)), (1, .int w49_1)]) C.1 C.2.1 dX12_shift_49 rfl hl (by decide) rfl (fun ls hl => ?_)
    have hl : lv_has ls 12 [(0, .ref (ad 0)), (1, .int w49_1), (2, .int k49_0)] := lv_sub hl [1, 2, 0] rfl
    refine lv_aload_n C.1 C.2.1 dX12_shift_50 rfl (lv_at hl 0 rfl) ?_
    obtain ⟨v_76, e_77⟩ : ∃ z, z = t1.1 0 17 := ⟨_, rfl⟩
    have h_78 : (0 : Int) ≤ v_76.toInt ∧ v_76.toInt ≤ 63 := by rw [e_77]; exact hok.1 0 17
    have h_79 : v_76.toInt = (t1.1 0 17).toInt := congrArg Int32.toInt e_77
    refine k_get (v := .int v_76) C hP 0 rfl rfl inlX12 17 (by decide) m_57_4 (by rw [e_77]; rfl) dX12_shift_51 ?_
    refine lv_iconst (v := 2) C.1 C.2.1 dX12_shift_54 (by decide) ?_
    refine lv_icmp_ge (tgt := 71) C.1 C.2.1 dX12_shift_55 (by decide) (fun c_80 => ?_) (fun c_80 => ?_)
    · replace c_80 : 2 ≤ v_76.toInt := i_le c_80
      refine lv_aload_n C.1 C.2.1 dX12_shift_71 rfl (lv_at hl 0 rfl) ?_
      refine k_get (v := .ref (ad 3)) C hP 0 rfl rfl inlX12 4 (by decide) m_7_6 rfl dX12_shift_72 ?_
      refine lv_iconst (v := 0) C.1 C.2.1 dX12_shift_75 (by decide) ?_
      obtain ⟨v_81, e_82⟩ : ∃ z, z = t1.2.2.1 3 (0 : Int32).toNatClampNeg := ⟨_, rfl⟩
      refine k_ild (v := v_81) C hP 3 rfl (vin (by decide)) e_82.symm dX12_shift_76 ?_
      refine lv_ldc (v := 1073741823) C.1 C.2.1 C.2.2.2.1 (C.2.2.2.2.1 _ m_36_12) dX12_shift_77 ?_
      obtain ⟨v_83, e_84⟩ : ∃ z, z = (v_81 : Int32) &&& (1073741823 : Int32) := ⟨_, rfl⟩
      have h_85 : v_83.toInt = v_81.toInt % 2 ^ 30 := by rw [e_84]; exact Jvm.Kit.i32_mask _ _ (k := 30) (by decide) (by decide)
      refine k_iand (v := v_83) C e_84.symm dX12_shift_79 ?_
      refine lv_i2l (v := (v_83.toInt64)) C.1 C.2.1 dX12_shift_80 rfl ?_
      refine lv_bipush (v := 30) C.1 C.2.1 dX12_shift_81 (by decide) ?_
      obtain ⟨v_86, e_87⟩ : ∃ z, z = ((v_83.toInt64) : Int64) <<< ((30 : Int32).toInt64 &&& 63) := ⟨_, rfl⟩
      refine lv_lshl (v := v_86) C.1 C.2.1 dX12_shift_83 e_87.symm ?_
      refine lv_aload_n C.1 C.2.1 dX12_shift_84 rfl (lv_at hl 0 rfl) ?_
      refine k_get (v := .ref (ad 3)) C hP 0 rfl rfl inlX12 4 (by decide) m_7_6 rfl dX12_shift_85 ?_
      refine lv_bipush (v := 7) C.1 C.2.1 dX12_shift_88 (by decide) ?_
      obtain ⟨v_88, e_89⟩ : ∃ z, z = t1.2.2.1 3 (7 : Int32).toNatClampNeg := ⟨_, rfl⟩
      refine k_ild (v := v_88) C hP 3 rfl (vin (by decide)) e_89.symm dX12_shift_90 ?_
      refine lv_ldc (v := 1073741823) C.1 C.2.1 C.2.2.2.1 (C.2.2.2.2.1 _ m_36_12) dX12_shift_91 ?_
      obtain ⟨v_90, e_91⟩ : ∃ z, z = (v_88 : Int32) &&& (1073741823 : Int32) := ⟨_, rfl⟩
      have h_92 : v_90.toInt = v_88.toInt % 2 ^ 30 := by rw [e_91]; exact Jvm.Kit.i32_mask _ _ (k := 30) (by decide) (by decide)
      refine k_iand (v := v_90) C e_91.symm dX12_shift_93 ?_
      refine lv_i2l (v := (v_90.toInt64)) C.1 C.2.1 dX12_shift_94 rfl ?_
      refine lv_lor C.1 C.2.1 dX12_shift_95 ?_
      exact L_96 t1 w49_1 k49_0 (v_86 ||| (v_90.toInt64)) _ _ _ hok hfr ⟨by omega, by omega⟩ ⟨by omega, by omega⟩ hP hD hS (lv_sub hl [0, 1, 2] rfl)
    · replace c_80 : v_76.toInt < 2 := i_nle c_80
      refine lv_aload_n C.1 C.2.1 dX12_shift_58 rfl (lv_at hl 0 rfl) ?_
      refine k_get (v := .ref (ad 3)) C hP 0 rfl rfl inlX12 4 (by decide) m_7_6 rfl dX12_shift_59 ?_
      refine lv_iconst (v := 0) C.1 C.2.1 dX12_shift_62 (by decide) ?_
      obtain ⟨v_93, e_94⟩ : ∃ z, z = t1.2.2.1 3 (0 : Int32).toNatClampNeg := ⟨_, rfl⟩
      refine k_ild (v := v_93) C hP 3 rfl (vin (by decide)) e_94.symm dX12_shift_63 ?_
      refine lv_ldc (v := 1073741823) C.1 C.2.1 C.2.2.2.1 (C.2.2.2.2.1 _ m_36_12) dX12_shift_64 ?_
      obtain ⟨v_95, e_96⟩ : ∃ z, z = (v_93 : Int32) &&& (1073741823 : Int32) := ⟨_, rfl⟩
      have h_97 : v_95.toInt = v_93.toInt % 2 ^ 30 := by rw [e_96]; exact Jvm.Kit.i32_mask _ _ (k := 30) (by decide) (by decide)
      refine k_iand (v := v_95) C e_96.symm dX12_shift_66 ?_
      refine lv_i2l (v := (v_95.toInt64)) C.1 C.2.1 dX12_shift_67 rfl ?_
      refine lv_goto (tgt := 96) C.1 C.2.1 dX12_shift_68 (by decide) ?_
      exact L_96 t1 w49_1 k49_0 (v_95.toInt64) _ _ _ hok hfr ⟨by omega, by omega⟩ ⟨by omega, by omega⟩ hP hD hS (lv_sub hl [0, 1, 2] rfl)
  have L_14 : ∀ (t1 : tSt) (k14_0 : Int32) (H : Heap) (locs : List Loc) (ls : Array Slot), okM t1 → frI [] t t1 → (5 : Int) ≤ k14_0.toInt ∧ k14_0.toInt ≤ 10 → va_P D vwCl (WM K ad t1) H → va_D A (WM K ad t1) → va_S A s.heap H locs → lv_has ls 12 [(0, .ref (ad 0))] → W p l e (rmD 0 0 0) s m [.ref (ad 0)].toArray below meth c H locs 0 0 (MQ below (QV D K (fun (u : tSt) => okM u ∧ frI [] t u) (fun (u : tSt) => WM K ad u) A) [.ref (ad 0)].toArray s 0 0 A) (F0 m 14 ls [.int k14_0]) := by
    intro t1 k14_0 H locs ls hok hfr hk14_0 hP hD hS hl
    refine lv_istore_n (lv' := [(1, .int k14_0), (0, .ref (ad 0))]) C.1 C.2.1 dX12_shift_14 rfl hl (by decide) rfl (fun ls hl => ?_)
    have hl : lv_has ls 12 [(0, .ref (ad 0)), (1, .int k14_0)] := lv_sub hl [1, 0] rfl
    refine lv_aload_n C.1 C.2.1 dX12_shift_15 rfl (lv_at hl 0 rfl) ?_
    obtain ⟨v_98, e_99⟩ : ∃ z, z = t1.1 0 17 := ⟨_, rfl⟩
    have h_100 : (0 : Int) ≤ v_98.toInt ∧ v_98.toInt ≤ 63 := by rw [e_99]; exact hok.1 0 17
    have h_101 : v_98.toInt = (t1.1 0 17).toInt := congrArg Int32.toInt e_99
    refine k_get (v := .int v_98) C hP 0 rfl rfl inlX12 17 (by decide) m_57_4 (by rw [e_99]; rfl) dX12_shift_16 ?_
    refine lv_iconst (v := 3) C.1 C.2.1 dX12_shift_19 (by decide) ?_
    refine lv_icmp_le (tgt := 33) C.1 C.2.1 dX12_shift_20 (by decide) (fun c_102 => ?_) (fun c_102 => ?_)
    · replace c_102 : v_98.toInt ≤ 3 := i_le c_102
      refine lv_aload_n C.1 C.2.1 dX12_shift_33 rfl (lv_at hl 0 rfl) ?_
      obtain ⟨v_103, e_104⟩ : ∃ z, z = t1.1 0 18 := ⟨_, rfl⟩
      have h_105 : v_103.toInt = (t1.1 0 18).toInt := congrArg Int32.toInt e_104
      refine k_get (v := .int v_103) C hP 0 rfl rfl inlX12 18 (by decide) m_57_5 (by rw [e_104]; rfl) dX12_shift_34 ?_
      refine lv_iload_n C.1 C.2.1 dX12_shift_37 rfl (lv_at hl 1 rfl) ?_
      refine lv_icmp_le (tgt := 45) C.1 C.2.1 dX12_shift_38 (by decide) (fun c_106 => ?_) (fun c_106 => ?_)
      · replace c_106 : v_103.toInt ≤ k14_0.toInt := i_le c_106
        refine lv_aload_n C.1 C.2.1 dX12_shift_45 rfl (lv_at hl 0 rfl) ?_
        refine k_get (v := .int v_103) C hP 0 rfl rfl inlX12 18 (by decide) m_57_5 (by rw [e_104]; rfl) dX12_shift_46 ?_
        exact L_49 t1 k14_0 v_103 _ _ _ hok hfr ⟨by omega, by omega⟩ ⟨by omega, by omega⟩ hP hD hS (lv_sub hl [0, 1] rfl)
      · replace c_106 : k14_0.toInt < v_103.toInt := i_nle c_106
        refine lv_iload_n C.1 C.2.1 dX12_shift_41 rfl (lv_at hl 1 rfl) ?_
        refine lv_goto (tgt := 49) C.1 C.2.1 dX12_shift_42 (by decide) ?_
        exact L_49 t1 k14_0 k14_0 _ _ _ hok hfr ⟨by omega, by omega⟩ ⟨by omega, by omega⟩ hP hD hS (lv_sub hl [0, 1] rfl)
    · replace c_102 : 3 < v_98.toInt := i_nle c_102
      refine lv_aload_n C.1 C.2.1 dX12_shift_23 rfl (lv_at hl 0 rfl) ?_
      obtain ⟨v_107, e_108⟩ : ∃ z, z = t1.1 0 18 := ⟨_, rfl⟩
      have h_109 : v_107.toInt = (t1.1 0 18).toInt := congrArg Int32.toInt e_108
      refine k_get (v := .int v_107) C hP 0 rfl rfl inlX12 18 (by decide) m_57_5 (by rw [e_108]; rfl) dX12_shift_24 ?_
      refine lv_bipush (v := 10) C.1 C.2.1 dX12_shift_27 (by decide) ?_
      obtain ⟨v_110, e_111⟩ : ∃ z, z = (v_107 : Int32) - (v_107 : Int32) / (10 : Int32) * (10 : Int32) := ⟨_, rfl⟩
      have h_112 : (-10 : Int) < v_110.toInt ∧ v_110.toInt < 10 := by rw [e_111]; exact z_remb (k := 10) (by decide) (by decide)
      refine k_irem (v := v_110) C (by decide) e_111.symm dX12_shift_29 ?_
      refine lv_goto (tgt := 49) C.1 C.2.1 dX12_shift_30 (by decide) ?_
      exact L_49 t1 k14_0 v_110 _ _ _ hok hfr ⟨by omega, by omega⟩ ⟨by omega, by omega⟩ hP hD hS (lv_sub hl [0, 1] rfl)
  refine lv_aload_n C.1 C.2.1 dX12_shift_0 rfl (lv_at hl 0 rfl) ?_
  obtain ⟨v_113, e_114⟩ : ∃ z, z = t.1 0 17 := ⟨_, rfl⟩
  have h_115 : (0 : Int) ≤ v_113.toInt ∧ v_113.toInt ≤ 63 := by rw [e_114]; exact hok.1 0 17
  have h_116 : v_113.toInt = (t.1 0 17).toInt := congrArg Int32.toInt e_114
  refine k_get (v := .int v_113) C hP 0 rfl rfl inlX12 17 (by decide) m_57_4 (by rw [e_114]; rfl) dX12_shift_1 ?_
  refine lv_iconst (v := 2) C.1 C.2.1 dX12_shift_4 (by decide) ?_
  refine lv_icmp_ge (tgt := 12) C.1 C.2.1 dX12_shift_5 (by decide) (fun c_117 => ?_) (fun c_117 => ?_)
  · replace c_117 : 2 ≤ v_113.toInt := i_le c_117
    refine lv_bipush (v := 10) C.1 C.2.1 dX12_shift_12 (by decide) ?_
    exact L_14 t 10 _ _ _ hok hfr ⟨by decide, by decide⟩ hP hD hS (lv_sub hl [0] rfl)
  · replace c_117 : v_113.toInt < 2 := i_nle c_117
    refine lv_iconst (v := 5) C.1 C.2.1 dX12_shift_8 (by decide) ?_
    refine lv_goto (tgt := 14) C.1 C.2.1 dX12_shift_9 (by decide) ?_
    exact L_14 t 5 _ _ _ hok hfr ⟨by decide, by decide⟩ hP hD hS (lv_sub hl [0] rfl)

set_option maxHeartbeats 4000000 in
set_option maxRecDepth 100000 in
theorem T_X12_change (l : Launch) (D : va_G) (K : Nat → ClassId) (ad : Nat → Nat) (t : tSt) (hok : okM t) (x1 : Int32) (hx1 : (0 : Int) ≤ x1.toInt ∧ x1.toInt ≤ 7) : uMet l yX12_change cX12_change 4 none (rmD 2 0 0) D K X0 [.ref (ad 0), .int x1] (WM K ad t) (QV D K (fun (u : tSt) => okM u ∧ frI [(0, 5)] t u) (fun (u : tSt) => WM K ad u)) 0 0 := by
  refine k_met RX12 ⟨rfl, by decide +kernel⟩ (Nat.le_of_ble_eq_true rfl) ?_
  intro p e s m below meth c A ls C hX hr hlocks hin hA hP hD hS hl
  have hl : lv_has ls 4 [(0, .ref (ad 0)), (1, .int x1)] := hl
  have hfr : frI [(0, 5)] t t := frI_rf
  have L_35 : ∀ (t1 : tSt) (w35_1 : Int32) (w35_2 : Int32) (k35_0 : Int32) (H : Heap) (locs : List Loc) (ls : Array Slot), okM t1 → frI [(0, 5)] t t1 → (0 : Int) ≤ w35_1.toInt ∧ w35_1.toInt ≤ 7 → (0 : Int) ≤ w35_2.toInt ∧ w35_2.toInt ≤ 1073741824 → (2 : Int) ≤ (t1.1 0 17).toInt ∧ (t1.1 0 17).toInt ≤ 63 → va_P D vwCl (WM K ad t1) H → va_D A (WM K ad t1) → va_S A s.heap H locs → lv_has ls 4 [(0, .ref (ad 0)), (1, .int w35_1), (2, .int w35_2)] → W p l e (rmD 2 0 0) s m [.ref (ad 0), .int x1].toArray below meth c H locs 0 0 (MQ below (QV D K (fun (u : tSt) => okM u ∧ frI [(0, 5)] t u) (fun (u : tSt) => WM K ad u) A) [.ref (ad 0), .int x1].toArray s 0 0 A) (F0 m 35 ls [.int k35_0]) := by
    intro t1 w35_1 w35_2 k35_0 H locs ls hok hfr hw35_1 hw35_2 hf35_17 hP hD hS hl
    refine lv_istore_n (lv' := [(3, .int k35_0), (0, .ref (ad 0)), (1, .int w35_1), (2, .int w35_2)]) C.1 C.2.1 dX12_change_35 rfl hl (by decide) rfl (fun ls hl => ?_)
    have hl : lv_has ls 4 [(0, .ref (ad 0)), (1, .int w35_1), (2, .int w35_2), (3, .int k35_0)] := lv_sub hl [1, 2, 3, 0] rfl
    refine lv_aload_n C.1 C.2.1 dX12_change_36 rfl (lv_at hl 0 rfl) ?_
    refine k_get (v := .ref (ad 3)) C hP 0 rfl rfl inlX12 4 (by decide) m_7_6 rfl dX12_change_37 ?_
    refine lv_iload_n C.1 C.2.1 dX12_change_40 rfl (lv_at hl 1 rfl) ?_
    refine lv_aload_n C.1 C.2.1 dX12_change_41 rfl (lv_at hl 0 rfl) ?_
    refine k_get (v := .int (t1.1 0 17)) C hP 0 rfl rfl inlX12 17 (by decide) m_57_4 rfl dX12_change_42 ?_
    refine lv_iconst (v := 2) C.1 C.2.1 dX12_change_45 (by decide) ?_
    refine lv_icmp_ne (tgt := 53) C.1 C.2.1 dX12_change_46 (by decide) (fun c_1 => ?_) (fun c_1 => ?_)
    · replace c_1 : ¬ (t1.1 0 17).toInt = 2 := i_ne c_1
      refine lv_iload_n C.1 C.2.1 dX12_change_53 rfl (lv_at hl 3 rfl) ?_
      refine lv_ldc (v := 1073741824) C.1 C.2.1 C.2.2.2.1 (C.2.2.2.2.1 _ m_34_19) dX12_change_54 ?_
      obtain ⟨v_2, e_3⟩ : ∃ z, z = (k35_0 : Int32) ^^^ (1073741824 : Int32) := ⟨_, rfl⟩
      refine k_ixor (v := v_2) C e_3.symm dX12_change_56 ?_
      refine k_ist (ws' := WM K ad (uB t1 3 (w35_1 : Int32).toNatClampNeg v_2)) (x' := v_2) C hP hD hS 3 rfl (vp_in_iff.mpr ⟨by omega, by omega⟩) rfl rfl rfl dX12_change_57 (fun H locs hP hD hS => ?_)
      have hok : okM (uB t1 3 (w35_1 : Int32).toNatClampNeg v_2) := ⟨hok.1, okB_B hok.2 3 _ v_2 (show (-2147483648 : Int) ≤ (v_2 : Int32).toInt ∧ (v_2 : Int32).toInt ≤ 2147483647 from (i_rng _))⟩
      have hfr : frI [(0, 5)] t (uB t1 3 (w35_1 : Int32).toNatClampNeg v_2) := hfr
      refine lv_goto (tgt := 87) C.1 C.2.1 dX12_change_58 (by decide) ?_
      exact g_vret C hr hlocks hP hD hS (uB t1 3 (w35_1 : Int32).toNatClampNeg v_2) rfl ⟨hok, hfr⟩ (Nat.le_of_ble_eq_true rfl) (Nat.le_of_ble_eq_true rfl) dX12_change_87
    · replace c_1 : (t1.1 0 17).toInt = 2 := i_eq c_1
      refine lv_iload_n C.1 C.2.1 dX12_change_49 rfl (lv_at hl 3 rfl) ?_
      refine lv_goto (tgt := 57) C.1 C.2.1 dX12_change_50 (by decide) ?_
      refine k_ist (ws' := WM K ad (uB t1 3 (w35_1 : Int32).toNatClampNeg k35_0)) (x' := k35_0) C hP hD hS 3 rfl (vp_in_iff.mpr ⟨by omega, by omega⟩) rfl rfl rfl dX12_change_57 (fun H locs hP hD hS => ?_)
      have hok : okM (uB t1 3 (w35_1 : Int32).toNatClampNeg k35_0) := ⟨hok.1, okB_B hok.2 3 _ k35_0 (show (-2147483648 : Int) ≤ (k35_0 : Int32).toInt ∧ (k35_0 : Int32).toInt ≤ 2147483647 from (i_rng _))⟩
      have hfr : frI [(0, 5)] t (uB t1 3 (w35_1 : Int32).toNatClampNeg k35_0) := hfr
      refine lv_goto (tgt := 87) C.1 C.2.1 dX12_change_58 (by decide) ?_
      exact g_vret C hr hlocks hP hD hS (uB t1 3 (w35_1 : Int32).toNatClampNeg k35_0) rfl ⟨hok, hfr⟩ (Nat.le_of_ble_eq_true rfl) (Nat.le_of_ble_eq_true rfl) dX12_change_87
  refine lv_aload_n C.1 C.2.1 dX12_change_0 rfl (lv_at hl 0 rfl) ?_
  obtain ⟨v_4, e_5⟩ : ∃ z, z = t.1 0 17 := ⟨_, rfl⟩
  have h_6 : (0 : Int) ≤ v_4.toInt ∧ v_4.toInt ≤ 63 := by rw [e_5]; exact hok.1 0 17
  have h_7 : v_4.toInt = (t.1 0 17).toInt := congrArg Int32.toInt e_5
  refine k_get (v := .int v_4) C hP 0 rfl rfl inlX12 17 (by decide) m_57_4 (by rw [e_5]; rfl) dX12_change_1 ?_
  refine lv_iconst (v := 1) C.1 C.2.1 dX12_change_4 (by decide) ?_
  refine lv_icmp_le (tgt := 61) C.1 C.2.1 dX12_change_5 (by decide) (fun c_8 => ?_) (fun c_8 => ?_)
  · replace c_8 : v_4.toInt ≤ 1 := i_le c_8
    refine lv_aload_n C.1 C.2.1 dX12_change_61 rfl (lv_at hl 0 rfl) ?_
    refine lv_iload_n C.1 C.2.1 dX12_change_62 rfl (lv_at hl 1 rfl) ?_
    refine lv_aload_n C.1 C.2.1 dX12_change_63 rfl (lv_at hl 0 rfl) ?_
    refine k_get (v := .int v_4) C hP 0 rfl rfl inlX12 17 (by decide) m_57_4 (by rw [e_5]; rfl) dX12_change_64 ?_
    refine lv_if_ne (tgt := 78) C.1 C.2.1 dX12_change_67 (by decide) (fun c_9 => ?_) (fun c_9 => ?_)
    · replace c_9 : ¬ v_4.toInt = 0 := i_ne c_9
      refine lv_aload_n C.1 C.2.1 dX12_change_78 rfl (lv_at hl 0 rfl) ?_
      obtain ⟨v_10, e_11⟩ : ∃ z, z = t.1 0 18 := ⟨_, rfl⟩
      have h_12 : v_10.toInt = (t.1 0 18).toInt := congrArg Int32.toInt e_11
      refine k_get (v := .int v_10) C hP 0 rfl rfl inlX12 18 (by decide) m_57_5 (by rw [e_11]; rfl) dX12_change_79 ?_
      obtain ⟨v_13, e_14⟩ : ∃ z, z = -(v_10 : Int32) := ⟨_, rfl⟩
      refine k_ineg (v := v_13) C e_14.symm dX12_change_82 ?_
      refine lv_i2l (v := (v_13.toInt64)) C.1 C.2.1 dX12_change_83 rfl ?_
      refine g_Vv (As := [.int x1, .long (v_13.toInt64)]) (rest := []) C hP hD hS hA (T_X12_addTo l D K ad t hok (x1) (show (0 : Int) ≤ (x1 : Int32).toInt ∧ (x1 : Int32).toInt ≤ 7 from ⟨by omega, by omega⟩) ((v_13.toInt64))) X0_ok trivial (uwV m_61_14 m_61_15 m_61_16 m_1_5 m_61_17) (hdV 2 (by decide +kernel) rfl) ⟨Nat.le_of_ble_eq_true rfl, Nat.le_of_ble_eq_true rfl⟩ rfl rfl (ci := 11) (q0 := 0) rfl rfl rfl hl.1 (Nat.le_of_ble_eq_true rfl) dX12_change_84 ⟨Nat.le_of_ble_eq_true rfl, Nat.le_of_ble_eq_true rfl⟩ (fun t_15 H locs hw hP hD hS => ?_)
      obtain ⟨hok, f_17⟩ := hw
      have hfr : frI [(0, 5)] t t_15 := frI_tr (m1 := [(0, 5)]) hfr f_17 (by decide)
      have e_18 : v_4 = t_15.1 0 17 := e_5.trans (f_17 0 17 (by decide)).symm
      have e_19 : v_10 = t_15.1 0 18 := e_11.trans (f_17 0 18 (by decide)).symm
      exact g_vret C hr hlocks hP hD hS t_15 rfl ⟨hok, hfr⟩ (Nat.le_of_ble_eq_true rfl) (Nat.le_of_ble_eq_true rfl) dX12_change_87
    · replace c_9 : v_4.toInt = 0 := i_eq c_9
      refine lv_aload_n C.1 C.2.1 dX12_change_70 rfl (lv_at hl 0 rfl) ?_
      obtain ⟨v_20, e_21⟩ : ∃ z, z = t.1 0 18 := ⟨_, rfl⟩
      have h_22 : v_20.toInt = (t.1 0 18).toInt := congrArg Int32.toInt e_21
      refine k_get (v := .int v_20) C hP 0 rfl rfl inlX12 18 (by decide) m_57_5 (by rw [e_21]; rfl) dX12_change_71 ?_
      refine lv_i2l (v := (v_20.toInt64)) C.1 C.2.1 dX12_change_74 rfl ?_
      refine lv_goto (tgt := 84) C.1 C.2.1 dX12_change_75 (by decide) ?_
      refine g_Vv (As := [.int x1, .long (v_20.toInt64)]) (rest := []) C hP hD hS hA (T_X12_addTo l D K ad t hok (x1) (show (0 : Int) ≤ (x1 : Int32).toInt ∧ (x1 : Int32).toInt ≤ 7 from ⟨by omega, by omega⟩) ((v_20.toInt64))) X0_ok trivial (uwV m_61_14 m_61_15 m_61_16 m_1_5 m_61_17) (hdV 2 (by decide +kernel) rfl) ⟨Nat.le_of_ble_eq_true rfl, Nat.le_of_ble_eq_true rfl⟩ rfl rfl (ci := 11) (q0 := 0) rfl rfl rfl hl.1 (Nat.le_of_ble_eq_true rfl) dX12_change_84 ⟨Nat.le_of_ble_eq_true rfl, Nat.le_of_ble_eq_true rfl⟩ (fun t_23 H locs hw hP hD hS => ?_)
      obtain ⟨hok, f_25⟩ := hw
      have hfr : frI [(0, 5)] t t_23 := frI_tr (m1 := [(0, 5)]) hfr f_25 (by decide)
      have e_26 : v_4 = t_23.1 0 17 := e_5.trans (f_25 0 17 (by decide)).symm
      have e_27 : v_20 = t_23.1 0 18 := e_21.trans (f_25 0 18 (by decide)).symm
      exact g_vret C hr hlocks hP hD hS t_23 rfl ⟨hok, hfr⟩ (Nat.le_of_ble_eq_true rfl) (Nat.le_of_ble_eq_true rfl) dX12_change_87
  · replace c_8 : 1 < v_4.toInt := i_nle c_8
    refine lv_aload_n C.1 C.2.1 dX12_change_8 rfl (lv_at hl 0 rfl) ?_
    obtain ⟨v_28, e_29⟩ : ∃ z, z = t.1 0 15 := ⟨_, rfl⟩
    have h_30 : v_28.toInt = (t.1 0 15).toInt := congrArg Int32.toInt e_29
    refine k_get (v := .int v_28) C hP 0 rfl rfl inlX12 15 (by decide) m_57_2 (by rw [e_29]; rfl) dX12_change_9 ?_
    refine lv_ldc (v := 1073741824) C.1 C.2.1 C.2.2.2.1 (C.2.2.2.2.1 _ m_34_19) dX12_change_12 ?_
    obtain ⟨v_31, e_32⟩ : ∃ z, z = (v_28 : Int32) &&& (1073741824 : Int32) := ⟨_, rfl⟩
    refine k_iand (v := v_31) C e_32.symm dX12_change_14 ?_
    refine lv_istore_n (lv' := [(2, .int v_31), (0, .ref (ad 0)), (1, .int x1)]) C.1 C.2.1 dX12_change_15 rfl hl (by decide) rfl (fun ls hl => ?_)
    have hl : lv_has ls 4 [(0, .ref (ad 0)), (1, .int x1), (2, .int v_31)] := lv_sub hl [1, 2, 0] rfl
    refine lv_aload_n C.1 C.2.1 dX12_change_16 rfl (lv_at hl 0 rfl) ?_
    obtain ⟨v_34, e_35⟩ : ∃ z, z = t.1 0 18 := ⟨_, rfl⟩
    have h_36 : v_34.toInt = (t.1 0 18).toInt := congrArg Int32.toInt e_35
    refine k_get (v := .int v_34) C hP 0 rfl rfl inlX12 18 (by decide) m_57_5 (by rw [e_35]; rfl) dX12_change_17 ?_
    refine lv_if_ne (tgt := 27) C.1 C.2.1 dX12_change_20 (by decide) (fun c_37 => ?_) (fun c_37 => ?_)
    · replace c_37 : ¬ v_34.toInt = 0 := i_ne c_37
      refine lv_aload_n C.1 C.2.1 dX12_change_27 rfl (lv_at hl 0 rfl) ?_
      refine k_get (v := .int v_34) C hP 0 rfl rfl inlX12 18 (by decide) m_57_5 (by rw [e_35]; rfl) dX12_change_28 ?_
      refine lv_i2l (v := (v_34.toInt64)) C.1 C.2.1 dX12_change_31 rfl ?_
      refine g_Si (As := [.long (v_34.toInt64)]) (rest := []) C hP hD hS hA (T_X12_wordOf l D K ad t hok ((v_34.toInt64))) X0_ok trivial (uwS m_35_4 m_35_5 m_1_5 m_35_6) (hdS 1 (by decide +kernel) rfl) ⟨Nat.le_of_ble_eq_true rfl, Nat.le_of_ble_eq_true rfl⟩ rfl rfl rfl hl.1 (Nat.le_of_ble_eq_true rfl) dX12_change_32 ⟨Nat.le_of_ble_eq_true rfl, Nat.le_of_ble_eq_true rfl⟩ (fun r_39 t_38 H locs hw hP hD hS => ?_)
      obtain ⟨hok, f_40, h_41, h_42⟩ := hw
      have hfr : frI [(0, 5)] t t_38 := frI_tr (m1 := []) hfr f_40 (by decide)
      have e_43 : v_4 = t_38.1 0 17 := e_5.trans (f_40 0 17 (by decide)).symm
      have e_44 : v_28 = t_38.1 0 15 := e_29.trans (f_40 0 15 (by decide)).symm
      have e_45 : v_34 = t_38.1 0 18 := e_35.trans (f_40 0 18 (by decide)).symm
      exact L_35 t_38 x1 v_31 r_39 _ _ _ hok hfr ⟨by omega, by omega⟩ ⟨by omega, by omega⟩ (show (2 : Int) ≤ (v_4 : Int32).toInt ∧ (v_4 : Int32).toInt ≤ 63 from ⟨by omega, by omega⟩) hP hD hS (lv_sub hl [0, 1, 2] rfl)
    · replace c_37 : v_34.toInt = 0 := i_eq c_37
      refine lv_iload_n C.1 C.2.1 dX12_change_23 rfl (lv_at hl 2 rfl) ?_
      refine lv_goto (tgt := 35) C.1 C.2.1 dX12_change_24 (by decide) ?_
      exact L_35 t x1 v_31 v_31 _ _ _ hok hfr ⟨by omega, by omega⟩ ⟨by omega, by omega⟩ (show (2 : Int) ≤ (v_4 : Int32).toInt ∧ (v_4 : Int32).toInt ≤ 63 from ⟨by omega, by omega⟩) hP hD hS (lv_sub hl [0, 1, 2] rfl)

set_option maxHeartbeats 4000000 in
set_option maxRecDepth 100000 in
theorem T_X12_takeClock (l : Launch) (D : va_G) (K : Nat → ClassId) (ad : Nat → Nat) (t : tSt) (hok : okM t) (x1 : Int64) : uMet l yX12_takeClock cX12_takeClock 7 none (rmD 1 0 0) D K X0 [.ref (ad 0), .long x1] (WM K ad t) (QV D K (fun (u : tSt) => okM u ∧ frI [] t u) (fun (u : tSt) => WM K ad u)) 0 0 := by
  refine k_met RX12 ⟨rfl, by decide +kernel⟩ (Nat.le_of_ble_eq_true rfl) ?_
  intro p e s m below meth c A ls C hX hr hlocks hin hA hP hD hS hl
  have hl : lv_has ls 7 [(0, .ref (ad 0)), (1, .long x1)] := hl
  have hfr : frI [] t t := frI_rf
  have L_25 : ∀ (t1 : tSt) (w25_1 : Int64) (w25_3 : Int64) (k25_0 : Int64) (H : Heap) (locs : List Loc) (ls : Array Slot), okM t1 → frI [] t t1 → va_P D vwCl (WM K ad t1) H → va_D A (WM K ad t1) → va_S A s.heap H locs → lv_has ls 7 [(0, .ref (ad 0)), (1, .long w25_1), (3, .long w25_3)] → W p l e (rmD 1 0 0) s m [.ref (ad 0), .long x1].toArray below meth c H locs 0 0 (MQ below (QV D K (fun (u : tSt) => okM u ∧ frI [] t u) (fun (u : tSt) => WM K ad u) A) [.ref (ad 0), .long x1].toArray s 0 0 A) (F0 m 25 ls [.long k25_0]) := by
    intro t1 w25_1 w25_3 k25_0 H locs ls hok hfr hP hD hS hl
    refine lv_ldc2 (v := 1073741823) C.1 C.2.1 C.2.2.2.1 (C.2.2.2.2.1 _ m_36_3) dX12_takeClock_25 ?_
    refine lv_land C.1 C.2.1 dX12_takeClock_28 ?_
    refine lv_lstore (lv' := [(5, .long (k25_0 &&& 1073741823)), (0, .ref (ad 0)), (1, .long w25_1), (3, .long w25_3)]) C.1 C.2.1 dX12_takeClock_29 hl (by decide) rfl (fun ls hl => ?_)
    have hl : lv_has ls 7 [(0, .ref (ad 0)), (1, .long w25_1), (3, .long w25_3), (5, .long (k25_0 &&& 1073741823))] := lv_sub hl [1, 2, 3, 0] rfl
    refine lv_aload_n C.1 C.2.1 dX12_takeClock_31 rfl (lv_at hl 0 rfl) ?_
    refine lv_bipush (v := (-10)) C.1 C.2.1 dX12_takeClock_32 (by decide) ?_
    refine lv_lload C.1 C.2.1 dX12_takeClock_34 (lv_at hl 3 rfl) ?_
    refine lv_lconst (v := 0) C.1 C.2.1 dX12_takeClock_36 (by decide) ?_
    obtain ⟨v_1, e_2⟩ : ∃ z, z = lg_cmp ((k25_0 &&& 1073741823) : Int64) 0 := ⟨_, rfl⟩
    have h_3 : (-1 : Int) ≤ v_1.toInt ∧ v_1.toInt ≤ 1 := by rw [e_2]; exact cmp_rng _ _
    refine k_lcmp (v := v_1) C e_2.symm dX12_takeClock_37 ?_
    refine lv_if_le (tgt := 56) C.1 C.2.1 dX12_takeClock_38 (by decide) (fun c_4 => ?_) (fun c_4 => ?_)
    · replace c_4 : v_1.toInt ≤ 0 := i_le c_4
      refine lv_lload C.1 C.2.1 dX12_takeClock_56 (lv_at hl 3 rfl) ?_
      obtain ⟨v_5, e_6⟩ : ∃ z, z = ((k25_0 &&& 1073741823)).toInt32 := ⟨_, rfl⟩
      refine lv_l2i (v := v_5) C.1 C.2.1 dX12_takeClock_58 e_6.symm ?_
      refine g_Vv (As := [.int (-10), .int v_5]) (rest := []) C hP hD hS hA (T_X12_setMemory l D K ad t1 hok (-10) (show (-3999 : Int) ≤ ((-10) : Int32).toInt ∧ ((-10) : Int32).toInt ≤ 3999 from ⟨by decide, by decide⟩) (v_5)) X0_ok trivial (uwV m_38_15 m_38_16 m_38_17 m_1_5 m_38_18) (hdV 2 (by decide +kernel) rfl) ⟨Nat.le_of_ble_eq_true rfl, Nat.le_of_ble_eq_true rfl⟩ rfl rfl (ci := 11) (q0 := 0) rfl rfl rfl hl.1 (Nat.le_of_ble_eq_true rfl) dX12_takeClock_59 ⟨Nat.le_of_ble_eq_true rfl, Nat.le_of_ble_eq_true rfl⟩ (fun t_7 H locs hw hP hD hS => ?_)
      obtain ⟨hok, f_9⟩ := hw
      have hfr : frI [] t t_7 := frI_tr (m1 := []) hfr f_9 (by decide)
      exact g_vret C hr hlocks hP hD hS t_7 rfl ⟨hok, hfr⟩ (Nat.le_of_ble_eq_true rfl) (Nat.le_of_ble_eq_true rfl) dX12_takeClock_62
    · replace c_4 : 0 < v_1.toInt := i_nle c_4
      refine lv_lload_n C.1 C.2.1 dX12_takeClock_41 rfl (lv_at hl 2 rfl) ?_
      refine lv_lconst (v := 0) C.1 C.2.1 dX12_takeClock_42 (by decide) ?_
      obtain ⟨v_10, e_11⟩ : ∃ z, z = lg_cmp (w25_3 : Int64) 0 := ⟨_, rfl⟩
      have h_12 : (-1 : Int) ≤ v_10.toInt ∧ v_10.toInt ≤ 1 := by rw [e_11]; exact cmp_rng _ _
      refine k_lcmp (v := v_10) C e_11.symm dX12_takeClock_43 ?_
      refine lv_if_ge (tgt := 56) C.1 C.2.1 dX12_takeClock_44 (by decide) (fun c_13 => ?_) (fun c_13 => ?_)
      · replace c_13 : 0 ≤ v_10.toInt := i_le c_13
        refine lv_lload C.1 C.2.1 dX12_takeClock_56 (lv_at hl 3 rfl) ?_
        obtain ⟨v_14, e_15⟩ : ∃ z, z = ((k25_0 &&& 1073741823)).toInt32 := ⟨_, rfl⟩
        refine lv_l2i (v := v_14) C.1 C.2.1 dX12_takeClock_58 e_15.symm ?_
        refine g_Vv (As := [.int (-10), .int v_14]) (rest := []) C hP hD hS hA (T_X12_setMemory l D K ad t1 hok (-10) (show (-3999 : Int) ≤ ((-10) : Int32).toInt ∧ ((-10) : Int32).toInt ≤ 3999 from ⟨by decide, by decide⟩) (v_14)) X0_ok trivial (uwV m_38_15 m_38_16 m_38_17 m_1_5 m_38_18) (hdV 2 (by decide +kernel) rfl) ⟨Nat.le_of_ble_eq_true rfl, Nat.le_of_ble_eq_true rfl⟩ rfl rfl (ci := 11) (q0 := 0) rfl rfl rfl hl.1 (Nat.le_of_ble_eq_true rfl) dX12_takeClock_59 ⟨Nat.le_of_ble_eq_true rfl, Nat.le_of_ble_eq_true rfl⟩ (fun t_16 H locs hw hP hD hS => ?_)
        obtain ⟨hok, f_18⟩ := hw
        have hfr : frI [] t t_16 := frI_tr (m1 := []) hfr f_18 (by decide)
        exact g_vret C hr hlocks hP hD hS t_16 rfl ⟨hok, hfr⟩ (Nat.le_of_ble_eq_true rfl) (Nat.le_of_ble_eq_true rfl) dX12_takeClock_62
      · replace c_13 : v_10.toInt < 0 := i_nle c_13
        refine lv_ldc (v := 1073741824) C.1 C.2.1 C.2.2.2.1 (C.2.2.2.2.1 _ m_34_19) dX12_takeClock_47 ?_
        refine lv_lload C.1 C.2.1 dX12_takeClock_49 (lv_at hl 3 rfl) ?_
        obtain ⟨v_19, e_20⟩ : ∃ z, z = ((k25_0 &&& 1073741823)).toInt32 := ⟨_, rfl⟩
        refine lv_l2i (v := v_19) C.1 C.2.1 dX12_takeClock_51 e_20.symm ?_
        obtain ⟨v_21, e_22⟩ : ∃ z, z = (1073741824 : Int32) ||| (v_19 : Int32) := ⟨_, rfl⟩
        refine k_ior (v := v_21) C e_22.symm dX12_takeClock_52 ?_
        refine lv_goto (tgt := 59) C.1 C.2.1 dX12_takeClock_53 (by decide) ?_
        refine g_Vv (As := [.int (-10), .int v_21]) (rest := []) C hP hD hS hA (T_X12_setMemory l D K ad t1 hok (-10) (show (-3999 : Int) ≤ ((-10) : Int32).toInt ∧ ((-10) : Int32).toInt ≤ 3999 from ⟨by decide, by decide⟩) (v_21)) X0_ok trivial (uwV m_38_15 m_38_16 m_38_17 m_1_5 m_38_18) (hdV 2 (by decide +kernel) rfl) ⟨Nat.le_of_ble_eq_true rfl, Nat.le_of_ble_eq_true rfl⟩ rfl rfl (ci := 11) (q0 := 0) rfl rfl rfl hl.1 (Nat.le_of_ble_eq_true rfl) dX12_takeClock_59 ⟨Nat.le_of_ble_eq_true rfl, Nat.le_of_ble_eq_true rfl⟩ (fun t_23 H locs hw hP hD hS => ?_)
        obtain ⟨hok, f_25⟩ := hw
        have hfr : frI [] t t_23 := frI_tr (m1 := []) hfr f_25 (by decide)
        exact g_vret C hr hlocks hP hD hS t_23 rfl ⟨hok, hfr⟩ (Nat.le_of_ble_eq_true rfl) (Nat.le_of_ble_eq_true rfl) dX12_takeClock_62
  refine lv_aload_n C.1 C.2.1 dX12_takeClock_0 rfl (lv_at hl 0 rfl) ?_
  refine lv_bipush (v := (-10)) C.1 C.2.1 dX12_takeClock_1 (by decide) ?_
  refine g_Vi (As := [.int (-10)]) (rest := []) C hP hD hS hA (T_X12_memoryAt l D K ad t hok (-10) (show (-3999 : Int) ≤ ((-10) : Int32).toInt ∧ ((-10) : Int32).toInt ≤ 3999 from ⟨by decide, by decide⟩)) X0_ok trivial (uwV m_38_19 m_38_20 m_38_21 m_1_5 m_38_22) (hdV 1 (by decide +kernel) rfl) ⟨Nat.le_of_ble_eq_true rfl, Nat.le_of_ble_eq_true rfl⟩ rfl rfl (ci := 11) (q0 := 0) rfl rfl rfl hl.1 (Nat.le_of_ble_eq_true rfl) dX12_takeClock_3 ⟨Nat.le_of_ble_eq_true rfl, Nat.le_of_ble_eq_true rfl⟩ (fun r_27 t_26 H locs hw hP hD hS => ?_)
  obtain ⟨hok, f_28, h_29, h_30⟩ := hw
  have hfr : frI [] t t_26 := frI_tr (m1 := []) hfr f_28 (by decide)
  refine g_Si (As := [.int r_27]) (rest := []) C hP hD hS hA (T_X12_value l D K ad t_26 hok (r_27)) X0_ok trivial (uwS m_36_9 m_36_10 m_1_5 m_36_11) (hdS 1 (by decide +kernel) rfl) ⟨Nat.le_of_ble_eq_true rfl, Nat.le_of_ble_eq_true rfl⟩ rfl rfl rfl hl.1 (Nat.le_of_ble_eq_true rfl) dX12_takeClock_6 ⟨Nat.le_of_ble_eq_true rfl, Nat.le_of_ble_eq_true rfl⟩ (fun r_32 t_31 H locs hw hP hD hS => ?_)
  obtain ⟨hok, f_33, h_34, h_35⟩ := hw
  have hfr : frI [] t t_31 := frI_tr (m1 := []) hfr f_33 (by decide)
  refine lv_i2l (v := (r_32.toInt64)) C.1 C.2.1 dX12_takeClock_9 rfl ?_
  refine lv_lload_n C.1 C.2.1 dX12_takeClock_10 rfl (lv_at hl 1 rfl) ?_
  obtain ⟨v_36, e_37⟩ : ∃ z, z = ((r_32.toInt64) : Int64) - (x1 : Int64) := ⟨_, rfl⟩
  refine k_lsub (v := v_36) C e_37.symm dX12_takeClock_11 ?_
  refine lv_lstore_n (lv' := [(3, .long v_36), (0, .ref (ad 0)), (1, .long x1)]) C.1 C.2.1 dX12_takeClock_12 rfl hl (by decide) rfl (fun ls hl => ?_)
  have hl : lv_has ls 7 [(0, .ref (ad 0)), (1, .long x1), (3, .long v_36)] := lv_sub hl [1, 2, 0] rfl
  refine lv_lload_n C.1 C.2.1 dX12_takeClock_13 rfl (lv_at hl 2 rfl) ?_
  refine lv_lconst (v := 0) C.1 C.2.1 dX12_takeClock_14 (by decide) ?_
  obtain ⟨v_38, e_39⟩ : ∃ z, z = lg_cmp (v_36 : Int64) 0 := ⟨_, rfl⟩
  have h_40 : (-1 : Int) ≤ v_38.toInt ∧ v_38.toInt ≤ 1 := by rw [e_39]; exact cmp_rng _ _
  refine k_lcmp (v := v_38) C e_39.symm dX12_takeClock_15 ?_
  refine lv_if_ge (tgt := 24) C.1 C.2.1 dX12_takeClock_16 (by decide) (fun c_41 => ?_) (fun c_41 => ?_)
  · replace c_41 : 0 ≤ v_38.toInt := i_le c_41
    refine lv_lload_n C.1 C.2.1 dX12_takeClock_24 rfl (lv_at hl 2 rfl) ?_
    exact L_25 t_31 x1 v_36 v_36 _ _ _ hok hfr hP hD hS (lv_sub hl [0, 1, 2] rfl)
  · replace c_41 : v_38.toInt < 0 := i_nle c_41
    refine lv_lload_n C.1 C.2.1 dX12_takeClock_19 rfl (lv_at hl 2 rfl) ?_
    refine lv_lneg C.1 C.2.1 dX12_takeClock_20 ?_
    refine lv_goto (tgt := 25) C.1 C.2.1 dX12_takeClock_21 (by decide) ?_
    exact L_25 t_31 x1 v_36 (-v_36) _ _ _ hok hfr hP hD hS (lv_sub hl [0, 1, 2] rfl)

set_option maxHeartbeats 4000000 in
set_option maxRecDepth 100000 in
theorem T_X12_blockNow (l : Launch) (D : va_G) (K : Nat → ClassId) (ad : Nat → Nat) (t : tSt) (hok : okM t) (x1 : Int32) (hx1 : (0 : Int) ≤ x1.toInt ∧ x1.toInt ≤ 15) : uMet l yX12_blockNow cX12_blockNow 2 (some .int) (rmD 1 0 0) D K X0 [.ref (ad 0), .int x1] (WM K ad t) (QI D K (fun (r : Int32) (u : tSt) => okM u ∧ frI [] t u ∧ (-2147483648 : Int) ≤ r.toInt ∧ r.toInt ≤ 2147483647) (fun (u : tSt) => WM K ad u)) 0 0 := by
  refine k_met RX12 ⟨rfl, by decide +kernel⟩ (Nat.le_of_ble_eq_true rfl) ?_
  intro p e s m below meth c A ls C hX hr hlocks hin hA hP hD hS hl
  have hl : lv_has ls 2 [(0, .ref (ad 0)), (1, .int x1)] := hl
  have hfr : frI [] t t := frI_rf
  refine lv_iload_n C.1 C.2.1 dX12_blockNow_0 rfl (lv_at hl 1 rfl) ?_
  refine lv_bipush (v := 8) C.1 C.2.1 dX12_blockNow_1 (by decide) ?_
  refine lv_icmp_ge (tgt := 15) C.1 C.2.1 dX12_blockNow_3 (by decide) (fun c_1 => ?_) (fun c_1 => ?_)
  · replace c_1 : 8 ≤ x1.toInt := i_le c_1
    refine lv_aload_n C.1 C.2.1 dX12_blockNow_15 rfl (lv_at hl 0 rfl) ?_
    refine k_get (v := .ref (ad 3)) C hP 0 rfl rfl inlX12 4 (by decide) m_7_6 rfl dX12_blockNow_16 ?_
    refine lv_bipush (v := 7) C.1 C.2.1 dX12_blockNow_19 (by decide) ?_
    obtain ⟨v_2, e_3⟩ : ∃ z, z = t.2.2.1 3 (7 : Int32).toNatClampNeg := ⟨_, rfl⟩
    refine k_ild (v := v_2) C hP 3 rfl (vin (by decide)) e_3.symm dX12_blockNow_21 ?_
    refine g_Si (As := [.int v_2]) (rest := []) C hP hD hS hA (T_X12_value l D K ad t hok (v_2)) X0_ok trivial (uwS m_36_9 m_36_10 m_1_5 m_36_11) (hdS 1 (by decide +kernel) rfl) ⟨Nat.le_of_ble_eq_true rfl, Nat.le_of_ble_eq_true rfl⟩ rfl rfl rfl hl.1 (Nat.le_of_ble_eq_true rfl) dX12_blockNow_22 ⟨Nat.le_of_ble_eq_true rfl, Nat.le_of_ble_eq_true rfl⟩ (fun r_5 t_4 H locs hw hP hD hS => ?_)
    obtain ⟨hok, f_6, h_7, h_8⟩ := hw
    have hfr : frI [] t t_4 := frI_tr (m1 := []) hfr f_6 (by decide)
    exact g_iret C hr hlocks hP hD hS rfl t_4 rfl ⟨hok, hfr, (i_rng _).1, (i_rng _).2⟩ (Nat.le_of_ble_eq_true rfl) (Nat.le_of_ble_eq_true rfl) dX12_blockNow_25
  · replace c_1 : x1.toInt < 8 := i_nle c_1
    refine lv_aload_n C.1 C.2.1 dX12_blockNow_6 rfl (lv_at hl 0 rfl) ?_
    refine k_get (v := .ref (ad 9)) C hP 0 rfl rfl inlX12 24 (by decide) m_7_14 rfl dX12_blockNow_7 ?_
    refine lv_iload_n C.1 C.2.1 dX12_blockNow_10 rfl (lv_at hl 1 rfl) ?_
    obtain ⟨v_9, e_10⟩ : ∃ z, z = t.2.2.1 9 (x1 : Int32).toNatClampNeg := ⟨_, rfl⟩
    have h_11 : (0 : Int) ≤ v_9.toInt ∧ v_9.toInt ≤ 64 := by rw [e_10]; exact hok.2 9 _
    refine k_ild (v := v_9) C hP 9 rfl (vp_in_iff.mpr ⟨by omega, by omega⟩) e_10.symm dX12_blockNow_11 ?_
    refine lv_goto (tgt := 25) C.1 C.2.1 dX12_blockNow_12 (by decide) ?_
    exact g_iret C hr hlocks hP hD hS rfl t rfl ⟨hok, hfr, (i_rng _).1, (i_rng _).2⟩ (Nat.le_of_ble_eq_true rfl) (Nat.le_of_ble_eq_true rfl) dX12_blockNow_25

set_option maxHeartbeats 4000000 in
set_option maxRecDepth 100000 in
theorem T_X12_byteAt (l : Launch) (D : va_G) (K : Nat → ClassId) (ad : Nat → Nat) (t : tSt) (hok : okM t) (x1 : Int32) (hx1 : (1 : Int) ≤ x1.toInt ∧ x1.toInt ≤ 2147483647) : uMet l yX12_byteAt cX12_byteAt 2 (some .int) (rmD 0 0 0) D K X0 [.ref (ad 0), .int x1] (WM K ad t) (QI D K (fun (r : Int32) (u : tSt) => okM u ∧ frI [] t u ∧ (0 : Int) ≤ r.toInt ∧ r.toInt ≤ 63) (fun (u : tSt) => WM K ad u)) 0 0 := by
  refine k_met RX12 ⟨rfl, by decide +kernel⟩ (Nat.le_of_ble_eq_true rfl) ?_
  intro p e s m below meth c A ls C hX hr hlocks hin hA hP hD hS hl
  have hl : lv_has ls 2 [(0, .ref (ad 0)), (1, .int x1)] := hl
  have hfr : frI [] t t := frI_rf
  refine lv_iload_n C.1 C.2.1 dX12_byteAt_0 rfl (lv_at hl 1 rfl) ?_
  refine lv_bipush (v := 6) C.1 C.2.1 dX12_byteAt_1 (by decide) ?_
  refine lv_icmp_ge (tgt := 25) C.1 C.2.1 dX12_byteAt_3 (by decide) (fun c_1 => ?_) (fun c_1 => ?_)
  · replace c_1 : 6 ≤ x1.toInt := i_le c_1
    refine lv_aload_n C.1 C.2.1 dX12_byteAt_25 rfl (lv_at hl 0 rfl) ?_
    refine k_get (v := .ref (ad 3)) C hP 0 rfl rfl inlX12 4 (by decide) m_7_6 rfl dX12_byteAt_26 ?_
    refine lv_bipush (v := 7) C.1 C.2.1 dX12_byteAt_29 (by decide) ?_
    obtain ⟨v_2, e_3⟩ : ∃ z, z = t.2.2.1 3 (7 : Int32).toNatClampNeg := ⟨_, rfl⟩
    refine k_ild (v := v_2) C hP 3 rfl (vin (by decide)) e_3.symm dX12_byteAt_31 ?_
    refine lv_bipush (v := 6) C.1 C.2.1 dX12_byteAt_32 (by decide) ?_
    refine lv_bipush (v := 10) C.1 C.2.1 dX12_byteAt_34 (by decide) ?_
    refine lv_iload_n C.1 C.2.1 dX12_byteAt_36 rfl (lv_at hl 1 rfl) ?_
    obtain ⟨v_4, e_5⟩ : ∃ z, z = (10 : Int32) - (x1 : Int32) := ⟨_, rfl⟩
    have h_6 : v_4.toInt = 10 - x1.toInt := by rw [e_5]; exact ti_isub (by show (_ : Int) ≤ 10 - x1.toInt; omega) (by show 10 - x1.toInt < (_ : Int); omega)
    refine k_isub (v := v_4) C e_5.symm dX12_byteAt_37 ?_
    obtain ⟨v_7, e_8⟩ : ∃ z, z = (6 : Int32) * (v_4 : Int32) := ⟨_, rfl⟩
    refine k_imul (v := v_7) C e_8.symm dX12_byteAt_38 ?_
    obtain ⟨v_9, e_10⟩ : ∃ z, z = (v_2 : Int32) >>> ((v_7 : Int32) &&& 31) := ⟨_, rfl⟩
    refine k_ishr (v := v_9) C e_10.symm dX12_byteAt_39 ?_
    refine lv_bipush (v := 63) C.1 C.2.1 dX12_byteAt_40 (by decide) ?_
    obtain ⟨v_11, e_12⟩ : ∃ z, z = (v_9 : Int32) &&& (63 : Int32) := ⟨_, rfl⟩
    have h_13 : v_11.toInt = v_9.toInt % 2 ^ 6 := by rw [e_12]; exact Jvm.Kit.i32_mask _ _ (k := 6) (by decide) (by decide)
    refine k_iand (v := v_11) C e_12.symm dX12_byteAt_42 ?_
    exact g_iret C hr hlocks hP hD hS rfl t rfl ⟨hok, hfr, by omega, by omega⟩ (Nat.le_of_ble_eq_true rfl) (Nat.le_of_ble_eq_true rfl) dX12_byteAt_43
  · replace c_1 : x1.toInt < 6 := i_nle c_1
    refine lv_aload_n C.1 C.2.1 dX12_byteAt_6 rfl (lv_at hl 0 rfl) ?_
    refine k_get (v := .ref (ad 3)) C hP 0 rfl rfl inlX12 4 (by decide) m_7_6 rfl dX12_byteAt_7 ?_
    refine lv_iconst (v := 0) C.1 C.2.1 dX12_byteAt_10 (by decide) ?_
    obtain ⟨v_14, e_15⟩ : ∃ z, z = t.2.2.1 3 (0 : Int32).toNatClampNeg := ⟨_, rfl⟩
    refine k_ild (v := v_14) C hP 3 rfl (vin (by decide)) e_15.symm dX12_byteAt_11 ?_
    refine lv_bipush (v := 6) C.1 C.2.1 dX12_byteAt_12 (by decide) ?_
    refine lv_iconst (v := 5) C.1 C.2.1 dX12_byteAt_14 (by decide) ?_
    refine lv_iload_n C.1 C.2.1 dX12_byteAt_15 rfl (lv_at hl 1 rfl) ?_
    obtain ⟨v_16, e_17⟩ : ∃ z, z = (5 : Int32) - (x1 : Int32) := ⟨_, rfl⟩
    have h_18 : v_16.toInt = 5 - x1.toInt := by rw [e_17]; exact ti_isub (by show (_ : Int) ≤ 5 - x1.toInt; omega) (by show 5 - x1.toInt < (_ : Int); omega)
    refine k_isub (v := v_16) C e_17.symm dX12_byteAt_16 ?_
    obtain ⟨v_19, e_20⟩ : ∃ z, z = (6 : Int32) * (v_16 : Int32) := ⟨_, rfl⟩
    have h_21 : v_19.toInt = 6 * v_16.toInt := by rw [e_20]; exact ti_mull (k := 6) (by decide) (by omega) (by omega)
    refine k_imul (v := v_19) C e_20.symm dX12_byteAt_17 ?_
    obtain ⟨v_22, e_23⟩ : ∃ z, z = (v_14 : Int32) >>> ((v_19 : Int32) &&& 31) := ⟨_, rfl⟩
    refine k_ishr (v := v_22) C e_23.symm dX12_byteAt_18 ?_
    refine lv_bipush (v := 63) C.1 C.2.1 dX12_byteAt_19 (by decide) ?_
    obtain ⟨v_24, e_25⟩ : ∃ z, z = (v_22 : Int32) &&& (63 : Int32) := ⟨_, rfl⟩
    have h_26 : v_24.toInt = v_22.toInt % 2 ^ 6 := by rw [e_25]; exact Jvm.Kit.i32_mask _ _ (k := 6) (by decide) (by decide)
    refine k_iand (v := v_24) C e_25.symm dX12_byteAt_21 ?_
    refine lv_goto (tgt := 43) C.1 C.2.1 dX12_byteAt_22 (by decide) ?_
    exact g_iret C hr hlocks hP hD hS rfl t rfl ⟨hok, hfr, by omega, by omega⟩ (Nat.le_of_ble_eq_true rfl) (Nat.le_of_ble_eq_true rfl) dX12_byteAt_43

set_option maxHeartbeats 4000000 in
set_option maxRecDepth 100000 in
theorem T_X12_takes (l : Launch) (D : va_G) (K : Nat → ClassId) (ad : Nat → Nat) (t : tSt) (hok : okM t) (x0 : Int32) (hx0 : (0 : Int) ≤ x0.toInt ∧ x0.toInt ≤ 19) : uMet l yX12_takes cX12_takes 1 (some .int) (rmD 0 0 0) D K X0 [.int x0] (WM K ad t) (QI D K (fun (r : Int32) (u : tSt) => okM u ∧ frI [] t u ∧ (400 : Int) ≤ r.toInt ∧ r.toInt ≤ 3999) (fun (u : tSt) => WM K ad u)) 0 0 := by
  refine k_met RX12 ⟨rfl, by decide +kernel⟩ (Nat.le_of_ble_eq_true rfl) ?_
  intro p e s m below meth c A ls C hX hr hlocks hin hA hP hD hS hl
  have hl : lv_has ls 1 [(0, .int x0)] := hl
  have hfr : frI [] t t := frI_rf
  refine lv_iload_n C.1 C.2.1 dX12_takes_0 rfl (lv_at hl 0 rfl) ?_
  refine lv_bipush (v := 8) C.1 C.2.1 dX12_takes_1 (by decide) ?_
  refine lv_icmp_ge (tgt := 10) C.1 C.2.1 dX12_takes_3 (by decide) (fun c_1 => ?_) (fun c_1 => ?_)
  · replace c_1 : 8 ≤ x0.toInt := i_le c_1
    refine lv_iload_n C.1 C.2.1 dX12_takes_10 rfl (lv_at hl 0 rfl) ?_
    refine lv_bipush (v := 16) C.1 C.2.1 dX12_takes_11 (by decide) ?_
    refine lv_icmp_ge (tgt := 20) C.1 C.2.1 dX12_takes_13 (by decide) (fun c_2 => ?_) (fun c_2 => ?_)
    · replace c_2 : 16 ≤ x0.toInt := i_le c_2
      refine lv_iload_n C.1 C.2.1 dX12_takes_20 rfl (lv_at hl 0 rfl) ?_
      refine lv_bipush (v := 16) C.1 C.2.1 dX12_takes_21 (by decide) ?_
      refine lv_icmp_ne (tgt := 32) C.1 C.2.1 dX12_takes_23 (by decide) (fun c_3 => ?_) (fun c_3 => ?_)
      · replace c_3 : ¬ x0.toInt = 16 := i_ne c_3
        refine lv_iload_n C.1 C.2.1 dX12_takes_32 rfl (lv_at hl 0 rfl) ?_
        refine lv_bipush (v := 17) C.1 C.2.1 dX12_takes_33 (by decide) ?_
        refine lv_icmp_ne (tgt := 44) C.1 C.2.1 dX12_takes_35 (by decide) (fun c_4 => ?_) (fun c_4 => ?_)
        · replace c_4 : ¬ x0.toInt = 17 := i_ne c_4
          refine lv_iload_n C.1 C.2.1 dX12_takes_44 rfl (lv_at hl 0 rfl) ?_
          refine lv_bipush (v := 18) C.1 C.2.1 dX12_takes_45 (by decide) ?_
          refine lv_icmp_ne (tgt := 56) C.1 C.2.1 dX12_takes_47 (by decide) (fun c_5 => ?_) (fun c_5 => ?_)
          · replace c_5 : ¬ x0.toInt = 18 := i_ne c_5
            refine lv_sipush (v := 900) C.1 C.2.1 dX12_takes_56 (by decide) ?_
            exact g_iret C hr hlocks hP hD hS rfl t rfl ⟨hok, hfr, by decide, by decide⟩ (Nat.le_of_ble_eq_true rfl) (Nat.le_of_ble_eq_true rfl) dX12_takes_59
          · replace c_5 : x0.toInt = 18 := i_eq c_5
            refine lv_sipush (v := 750) C.1 C.2.1 dX12_takes_50 (by decide) ?_
            refine lv_goto (tgt := 59) C.1 C.2.1 dX12_takes_53 (by decide) ?_
            exact g_iret C hr hlocks hP hD hS rfl t rfl ⟨hok, hfr, by decide, by decide⟩ (Nat.le_of_ble_eq_true rfl) (Nat.le_of_ble_eq_true rfl) dX12_takes_59
        · replace c_4 : x0.toInt = 17 := i_eq c_4
          refine lv_sipush (v := 1500) C.1 C.2.1 dX12_takes_38 (by decide) ?_
          refine lv_goto (tgt := 59) C.1 C.2.1 dX12_takes_41 (by decide) ?_
          exact g_iret C hr hlocks hP hD hS rfl t rfl ⟨hok, hfr, by decide, by decide⟩ (Nat.le_of_ble_eq_true rfl) (Nat.le_of_ble_eq_true rfl) dX12_takes_59
      · replace c_3 : x0.toInt = 16 := i_eq c_3
        refine lv_sipush (v := 1000) C.1 C.2.1 dX12_takes_26 (by decide) ?_
        refine lv_goto (tgt := 59) C.1 C.2.1 dX12_takes_29 (by decide) ?_
        exact g_iret C hr hlocks hP hD hS rfl t rfl ⟨hok, hfr, by decide, by decide⟩ (Nat.le_of_ble_eq_true rfl) (Nat.le_of_ble_eq_true rfl) dX12_takes_59
    · replace c_2 : x0.toInt < 16 := i_nle c_2
      refine lv_sipush (v := 400) C.1 C.2.1 dX12_takes_16 (by decide) ?_
      exact g_iret C hr hlocks hP hD hS rfl t rfl ⟨hok, hfr, by decide, by decide⟩ (Nat.le_of_ble_eq_true rfl) (Nat.le_of_ble_eq_true rfl) dX12_takes_19
  · replace c_1 : x0.toInt < 8 := i_nle c_1
    refine lv_sipush (v := 500) C.1 C.2.1 dX12_takes_6 (by decide) ?_
    exact g_iret C hr hlocks hP hD hS rfl t rfl ⟨hok, hfr, by decide, by decide⟩ (Nat.le_of_ble_eq_true rfl) (Nat.le_of_ble_eq_true rfl) dX12_takes_9

set_option maxHeartbeats 4000000 in
set_option maxRecDepth 100000 in
theorem T_X12_unit (l : Launch) (D : va_G) (K : Nat → ClassId) (ad : Nat → Nat) (t : tSt) (hok : okM t) (x1 : Int32) : uMet l yX12_unit cX12_unit 2 (some .int) (rmD 1 0 0) D K X0 [.ref (ad 0), .int x1] (WM K ad t) (QI D K (fun (r : Int32) (u : tSt) => okM u ∧ frI [(0, 0)] t u ∧ (-1073741824 : Int) ≤ r.toInt ∧ r.toInt ≤ 2147483647) (fun (u : tSt) => WM K ad u)) 0 0 := by
  refine k_met RX12 ⟨rfl, by decide +kernel⟩ (Nat.le_of_ble_eq_true rfl) ?_
  intro p e s m below meth c A ls C hX hr hlocks hin hA hP hD hS hl
  have hl : lv_has ls 2 [(0, .ref (ad 0)), (1, .int x1)] := hl
  have hfr : frI [(0, 0)] t t := frI_rf
  have L_27 : ∀ (t1 : tSt) (w27_1 : Int32) (H : Heap) (locs : List Loc) (ls : Array Slot), okM t1 → frI [(0, 0)] t t1 → (0 : Int) ≤ (t1.1 0 0).toInt ∧ (t1.1 0 0).toInt ≤ 0 → va_P D vwCl (WM K ad t1) H → va_D A (WM K ad t1) → va_S A s.heap H locs → lv_has ls 2 [(0, .ref (ad 0)), (1, .int w27_1)] → W p l e (rmD 1 0 0) s m [.ref (ad 0), .int x1].toArray below meth c H locs 0 0 (MQ below (QI D K (fun (r : Int32) (u : tSt) => okM u ∧ frI [(0, 0)] t u ∧ (-1073741824 : Int) ≤ r.toInt ∧ r.toInt ≤ 2147483647) (fun (u : tSt) => WM K ad u) A) [.ref (ad 0), .int x1].toArray s 0 0 A) (F0 m 27 ls []) := by
    intro t1 w27_1 H locs ls hok hfr hf27_0 hP hD hS hl
    refine lv_iload_n C.1 C.2.1 dX12_unit_27 rfl (lv_at hl 1 rfl) ?_
    refine lv_bipush (v := 16) C.1 C.2.1 dX12_unit_28 (by decide) ?_
    refine lv_icmp_ne (tgt := 38) C.1 C.2.1 dX12_unit_30 (by decide) (fun c_1 => ?_) (fun c_1 => ?_)
    · replace c_1 : ¬ w27_1.toInt = 16 := i_ne c_1
      refine lv_iload_n C.1 C.2.1 dX12_unit_38 rfl (lv_at hl 1 rfl) ?_
      refine lv_if_lt (tgt := 57) C.1 C.2.1 dX12_unit_39 (by decide) (fun c_2 => ?_) (fun c_2 => ?_)
      · replace c_2 : w27_1.toInt < 0 := i_lt c_2
        refine lv_iconst (v := (-1)) C.1 C.2.1 dX12_unit_57 (by decide) ?_
        exact g_iret C hr hlocks hP hD hS rfl t1 rfl ⟨hok, hfr, by decide, by decide⟩ (Nat.le_of_ble_eq_true rfl) (Nat.le_of_ble_eq_true rfl) dX12_unit_58
      · replace c_2 : 0 ≤ w27_1.toInt := i_nlt c_2
        refine lv_iload_n C.1 C.2.1 dX12_unit_42 rfl (lv_at hl 1 rfl) ?_
        refine lv_bipush (v := 8) C.1 C.2.1 dX12_unit_43 (by decide) ?_
        refine lv_icmp_ge (tgt := 57) C.1 C.2.1 dX12_unit_45 (by decide) (fun c_3 => ?_) (fun c_3 => ?_)
        · replace c_3 : 8 ≤ w27_1.toInt := i_le c_3
          refine lv_iconst (v := (-1)) C.1 C.2.1 dX12_unit_57 (by decide) ?_
          exact g_iret C hr hlocks hP hD hS rfl t1 rfl ⟨hok, hfr, by decide, by decide⟩ (Nat.le_of_ble_eq_true rfl) (Nat.le_of_ble_eq_true rfl) dX12_unit_58
        · replace c_3 : w27_1.toInt < 8 := i_nle c_3
          refine lv_aload_n C.1 C.2.1 dX12_unit_48 rfl (lv_at hl 0 rfl) ?_
          refine k_get (v := .ref (ad 9)) C hP 0 rfl rfl inlX12 24 (by decide) m_7_14 rfl dX12_unit_49 ?_
          refine lv_iload_n C.1 C.2.1 dX12_unit_52 rfl (lv_at hl 1 rfl) ?_
          obtain ⟨v_4, e_5⟩ : ∃ z, z = t1.2.2.1 9 (w27_1 : Int32).toNatClampNeg := ⟨_, rfl⟩
          have h_6 : (0 : Int) ≤ v_4.toInt ∧ v_4.toInt ≤ 64 := by rw [e_5]; exact hok.2 9 _
          refine k_ild (v := v_4) C hP 9 rfl (vp_in_iff.mpr ⟨by omega, by omega⟩) e_5.symm dX12_unit_53 ?_
          refine lv_goto (tgt := 58) C.1 C.2.1 dX12_unit_54 (by decide) ?_
          exact g_iret C hr hlocks hP hD hS rfl t1 rfl ⟨hok, hfr, by omega, by omega⟩ (Nat.le_of_ble_eq_true rfl) (Nat.le_of_ble_eq_true rfl) dX12_unit_58
    · replace c_1 : w27_1.toInt = 16 := i_eq c_1
      refine lv_aload_n C.1 C.2.1 dX12_unit_33 rfl (lv_at hl 0 rfl) ?_
      refine g_Vi (As := []) (rest := []) C hP hD hS hA (T_X12_cardsLeft l D K ad t1 hok ) X0_ok trivial (uwV m_44_12 m_44_13 m_44_14 m_1_5 m_44_15) (hdV 0 (by decide +kernel) rfl) ⟨Nat.le_of_ble_eq_true rfl, Nat.le_of_ble_eq_true rfl⟩ rfl rfl (ci := 11) (q0 := 0) rfl rfl rfl hl.1 (Nat.le_of_ble_eq_true rfl) dX12_unit_34 ⟨Nat.le_of_ble_eq_true rfl, Nat.le_of_ble_eq_true rfl⟩ (fun r_8 t_7 H locs hw hP hD hS => ?_)
      obtain ⟨hok, f_9, h_10, h_11⟩ := hw
      have hfr : frI [(0, 0)] t t_7 := frI_tr (m1 := []) hfr f_9 (by decide)
      have e_12 : (t1.1 0 0) = t_7.1 0 0 := (f_9 0 0 (by decide)).symm
      exact g_iret C hr hlocks hP hD hS rfl t_7 rfl ⟨hok, hfr, by omega, by omega⟩ (Nat.le_of_ble_eq_true rfl) (Nat.le_of_ble_eq_true rfl) dX12_unit_37
  refine lv_aload_n C.1 C.2.1 dX12_unit_0 rfl (lv_at hl 0 rfl) ?_
  refine lv_iconst (v := 0) C.1 C.2.1 dX12_unit_1 (by decide) ?_
  refine k_put (ws' := WM K ad (uI t 0 0 0)) (v := .int 0) C hP hD hS 0 rfl rfl inlX12 tyX12_ok nmX12 0 (by decide) m_9_18 rfl rfl rfl rfl rfl dX12_unit_2 (fun H locs hP hD hS => ?_)
  have hok : okM (uI t 0 0 0) := ⟨okI_I hok.1 0 0 0 (show (0 : Int) ≤ (0 : Int32).toInt ∧ (0 : Int32).toInt ≤ 1 from ⟨by decide, by decide⟩), hok.2⟩
  have hfr : frI [(0, 0)] t (uI t 0 0 0) := frI_I hfr 0 0 _ (by decide)
  refine lv_iload_n C.1 C.2.1 dX12_unit_5 rfl (lv_at hl 1 rfl) ?_
  refine lv_bipush (v := 17) C.1 C.2.1 dX12_unit_6 (by decide) ?_
  refine lv_icmp_lt (tgt := 27) C.1 C.2.1 dX12_unit_8 (by decide) (fun c_13 => ?_) (fun c_13 => ?_)
  · replace c_13 : x1.toInt < 17 := i_lt c_13
    exact L_27 (uI t 0 0 0) x1 _ _ _ hok hfr (show (0 : Int) ≤ (0 : Int32).toInt ∧ (0 : Int32).toInt ≤ 0 from ⟨by decide, by decide⟩) hP hD hS (lv_sub hl [0, 1] rfl)
  · replace c_13 : 17 ≤ x1.toInt := i_nlt c_13
    refine lv_iload_n C.1 C.2.1 dX12_unit_11 rfl (lv_at hl 1 rfl) ?_
    refine lv_bipush (v := 19) C.1 C.2.1 dX12_unit_12 (by decide) ?_
    refine lv_icmp_gt (tgt := 27) C.1 C.2.1 dX12_unit_14 (by decide) (fun c_14 => ?_) (fun c_14 => ?_)
    · replace c_14 : 19 < x1.toInt := i_lt c_14
      exact L_27 (uI t 0 0 0) x1 _ _ _ hok hfr (show (0 : Int) ≤ (0 : Int32).toInt ∧ (0 : Int32).toInt ≤ 0 from ⟨by decide, by decide⟩) hP hD hS (lv_sub hl [0, 1] rfl)
    · replace c_14 : x1.toInt ≤ 19 := i_nlt c_14
      refine lv_aload_n C.1 C.2.1 dX12_unit_17 rfl (lv_at hl 0 rfl) ?_
      refine k_get (v := .ref (ad 13)) C hP 0 rfl rfl inlX12 28 (by decide) m_7_20 rfl dX12_unit_18 ?_
      refine lv_iload_n C.1 C.2.1 dX12_unit_21 rfl (lv_at hl 1 rfl) ?_
      refine lv_bipush (v := 17) C.1 C.2.1 dX12_unit_22 (by decide) ?_
      obtain ⟨v_15, e_16⟩ : ∃ z, z = (x1 : Int32) - (17 : Int32) := ⟨_, rfl⟩
      have h_17 : v_15.toInt = x1.toInt - 17 := by rw [e_16]; exact ti_isub (by show (_ : Int) ≤ x1.toInt - 17; omega) (by show x1.toInt - 17 < (_ : Int); omega)
      refine k_isub (v := v_15) C e_16.symm dX12_unit_24 ?_
      obtain ⟨v_18, e_19⟩ : ∃ z, z = (uI t 0 0 0).2.2.1 13 (v_15 : Int32).toNatClampNeg := ⟨_, rfl⟩
      have h_20 : (0 : Int) ≤ v_18.toInt ∧ v_18.toInt ≤ 300 := by rw [e_19]; exact hok.2 13 _
      refine k_ild (v := v_18) C hP 13 rfl (vp_in_iff.mpr ⟨by omega, by omega⟩) e_19.symm dX12_unit_25 ?_
      exact g_iret C hr hlocks hP hD hS rfl (uI t 0 0 0) rfl ⟨hok, hfr, by omega, by omega⟩ (Nat.le_of_ble_eq_true rfl) (Nat.le_of_ble_eq_true rfl) dX12_unit_26

set_option maxHeartbeats 4000000 in
set_option maxRecDepth 100000 in
theorem T_X12_told (l : Launch) (D : va_G) (K : Nat → ClassId) (ad : Nat → Nat) (t : tSt) (hok : okM t) (x0 : Int32) : uMet l yX12_told cX12_told 1 (some .int) (rmD 1 0 0) D K X0 [.int x0] (WM K ad t) (QI D K (fun (r : Int32) (u : tSt) => okM u ∧ frI [] t u ∧ (-2147483648 : Int) ≤ r.toInt ∧ r.toInt ≤ 2147483647) (fun (u : tSt) => WM K ad u)) 0 0 := by
  refine k_met RX12 ⟨rfl, by decide +kernel⟩ (Nat.le_of_ble_eq_true rfl) ?_
  intro p e s m below meth c A ls C hX hr hlocks hin hA hP hD hS hl
  have hl : lv_has ls 1 [(0, .int x0)] := hl
  have hfr : frI [] t t := frI_rf
  refine lv_iload_n C.1 C.2.1 dX12_told_0 rfl (lv_at hl 0 rfl) ?_
  refine lv_ldc (v := 1073741824) C.1 C.2.1 C.2.2.2.1 (C.2.2.2.2.1 _ m_34_19) dX12_told_1 ?_
  refine lv_icmp_ne (tgt := 11) C.1 C.2.1 dX12_told_3 (by decide) (fun c_1 => ?_) (fun c_1 => ?_)
  · replace c_1 : ¬ x0.toInt = 1073741824 := i_ne c_1
    refine lv_iload_n C.1 C.2.1 dX12_told_11 rfl (lv_at hl 0 rfl) ?_
    refine g_Si (As := [.int x0]) (rest := []) C hP hD hS hA (T_X12_value l D K ad t hok (x0)) X0_ok trivial (uwS m_36_9 m_36_10 m_1_5 m_36_11) (hdS 1 (by decide +kernel) rfl) ⟨Nat.le_of_ble_eq_true rfl, Nat.le_of_ble_eq_true rfl⟩ rfl rfl rfl hl.1 (Nat.le_of_ble_eq_true rfl) dX12_told_12 ⟨Nat.le_of_ble_eq_true rfl, Nat.le_of_ble_eq_true rfl⟩ (fun r_3 t_2 H locs hw hP hD hS => ?_)
    obtain ⟨hok, f_4, h_5, h_6⟩ := hw
    have hfr : frI [] t t_2 := frI_tr (m1 := []) hfr f_4 (by decide)
    exact g_iret C hr hlocks hP hD hS rfl t_2 rfl ⟨hok, hfr, (i_rng _).1, (i_rng _).2⟩ (Nat.le_of_ble_eq_true rfl) (Nat.le_of_ble_eq_true rfl) dX12_told_15
  · replace c_1 : x0.toInt = 1073741824 := i_eq c_1
    refine lv_ldc (v := (-2147483648)) C.1 C.2.1 C.2.2.2.1 (C.2.2.2.2.1 _ m_84_16) dX12_told_6 ?_
    refine lv_goto (tgt := 15) C.1 C.2.1 dX12_told_8 (by decide) ?_
    exact g_iret C hr hlocks hP hD hS rfl t rfl ⟨hok, hfr, (i_rng _).1, (i_rng _).2⟩ (Nat.le_of_ble_eq_true rfl) (Nat.le_of_ble_eq_true rfl) dX12_told_15

set_option maxHeartbeats 4000000 in
set_option maxRecDepth 100000 in
theorem T_X12_clearMachine (l : Launch) (D : va_G) (K : Nat → ClassId) (ad : Nat → Nat) (t : tSt) (hok : okM t)  : uMet l yX12_clearMachine cX12_clearMachine 2 none (rmD 1 0 0) D K X0 [.ref (ad 0)] (WM K ad t) (QV D K (fun (u : tSt) => okM u ∧ frI [(0, 5), (0, 6), (0, 7), (0, 9), (0, 10), (0, 11), (0, 12), (0, 91)] t u) (fun (u : tSt) => WM K ad u)) 0 0 := by
  refine k_met RX12 ⟨rfl, by decide +kernel⟩ (Nat.le_of_ble_eq_true rfl) ?_
  intro p e s m below meth c A ls C hX hr hlocks hin hA hP hD hS hl
  have hl : lv_has ls 2 [(0, .ref (ad 0))] := hl
  have hfr : frI [(0, 5), (0, 6), (0, 7), (0, 9), (0, 10), (0, 11), (0, 12), (0, 91)] t t := frI_rf
  have L_6 : ∀ (fuel_6 : Nat) (t1 : tSt) (w6_1 : Int32) (H : Heap) (locs : List Loc) (ls : Array Slot), okM t1 → frI [(0, 5), (0, 6), (0, 7), (0, 9), (0, 10), (0, 11), (0, 12), (0, 91)] t t1 → (0 : Int) ≤ w6_1.toInt ∧ w6_1.toInt ≤ 9 → (9 : Int) - w6_1.toInt < (fuel_6 : Int) → va_P D vwCl (WM K ad t1) H → va_D A (WM K ad t1) → va_S A s.heap H locs → lv_has ls 2 [(0, .ref (ad 0)), (1, .int w6_1)] → W p l e (rmD 1 0 0) s m [.ref (ad 0)].toArray below meth c H locs 0 0 (MQ below (QV D K (fun (u : tSt) => okM u ∧ frI [(0, 5), (0, 6), (0, 7), (0, 9), (0, 10), (0, 11), (0, 12), (0, 91)] t u) (fun (u : tSt) => WM K ad u) A) [.ref (ad 0)].toArray s 0 0 A) (F0 m 6 ls []) := by
    intro fuel_6
    induction fuel_6 with
    | zero =>
      intro t1 w6_1 H locs ls hok hfr hw6_1 hm6_6 hP hD hS hl
      exact absurd hm6_6 (by omega)
    | succ fuel_6 ih_6 =>
      intro t1 w6_1 H locs ls hok hfr hw6_1 hm6_6 hP hD hS hl
      have hm6_6 : (9 : Int) - w6_1.toInt < (fuel_6 : Int) + 1 := by omega
      refine lv_iload_n C.1 C.2.1 dX12_clearMachine_6 rfl (lv_at hl 1 rfl) ?_
      refine lv_bipush (v := 9) C.1 C.2.1 dX12_clearMachine_7 (by decide) ?_
      refine lv_icmp_ge (tgt := 25) C.1 C.2.1 dX12_clearMachine_9 (by decide) (fun c_1 => ?_) (fun c_1 => ?_)
      · replace c_1 : 9 ≤ w6_1.toInt := i_le c_1
        refine lv_aload_n C.1 C.2.1 dX12_clearMachine_25 rfl (lv_at hl 0 rfl) ?_
        refine lv_iconst (v := 0) C.1 C.2.1 dX12_clearMachine_26 (by decide) ?_
        refine k_put (ws' := WM K ad (uI t1 0 5 0)) (v := .int 0) C hP hD hS 0 rfl rfl inlX12 tyX12_ok nmX12 5 (by decide) m_29_21 rfl (by decide) (by decide) rfl rfl dX12_clearMachine_27 (fun H locs hP hD hS => ?_)
        have hok : okM (uI t1 0 5 0) := ⟨okI_I hok.1 0 5 0 (show (0 : Int) ≤ (0 : Int32).toInt ∧ (0 : Int32).toInt ≤ 1 from ⟨by decide, by decide⟩), hok.2⟩
        have hfr : frI [(0, 5), (0, 6), (0, 7), (0, 9), (0, 10), (0, 11), (0, 12), (0, 91)] t (uI t1 0 5 0) := frI_I hfr 0 5 _ (by decide)
        refine lv_aload_n C.1 C.2.1 dX12_clearMachine_30 rfl (lv_at hl 0 rfl) ?_
        refine lv_iconst (v := 1) C.1 C.2.1 dX12_clearMachine_31 (by decide) ?_
        refine k_put (ws' := WM K ad (uI (uI t1 0 5 0) 0 6 1)) (v := .int 1) C hP hD hS 0 rfl rfl inlX12 tyX12_ok nmX12 6 (by decide) m_7_7 rfl rfl rfl rfl rfl dX12_clearMachine_32 (fun H locs hP hD hS => ?_)
        have hok : okM (uI (uI t1 0 5 0) 0 6 1) := ⟨okI_I hok.1 0 6 1 (show (0 : Int) ≤ (1 : Int32).toInt ∧ (1 : Int32).toInt ≤ 7 from ⟨by decide, by decide⟩), hok.2⟩
        have hfr : frI [(0, 5), (0, 6), (0, 7), (0, 9), (0, 10), (0, 11), (0, 12), (0, 91)] t (uI (uI t1 0 5 0) 0 6 1) := frI_I hfr 0 6 _ (by decide)
        refine lv_aload_n C.1 C.2.1 dX12_clearMachine_35 rfl (lv_at hl 0 rfl) ?_
        refine lv_iconst (v := 0) C.1 C.2.1 dX12_clearMachine_36 (by decide) ?_
        refine k_put (ws' := WM K ad (uI (uI (uI t1 0 5 0) 0 6 1) 0 7 0)) (v := .int 0) C hP hD hS 0 rfl rfl inlX12 tyX12_ok nmX12 7 (by decide) m_29_22 rfl rfl rfl rfl rfl dX12_clearMachine_37 (fun H locs hP hD hS => ?_)
        have hok : okM (uI (uI (uI t1 0 5 0) 0 6 1) 0 7 0) := ⟨okI_I hok.1 0 7 0 (show (-3999 : Int) ≤ (0 : Int32).toInt ∧ (0 : Int32).toInt ≤ 4095 from ⟨by decide, by decide⟩), hok.2⟩
        have hfr : frI [(0, 5), (0, 6), (0, 7), (0, 9), (0, 10), (0, 11), (0, 12), (0, 91)] t (uI (uI (uI t1 0 5 0) 0 6 1) 0 7 0) := frI_I hfr 0 7 _ (by decide)
        refine lv_aload_n C.1 C.2.1 dX12_clearMachine_40 rfl (lv_at hl 0 rfl) ?_
        refine lv_lconst (v := 0) C.1 C.2.1 dX12_clearMachine_41 (by decide) ?_
        refine k_put (ws' := WM K ad (uJ (uI (uI (uI t1 0 5 0) 0 6 1) 0 7 0) 0 8 0)) (v := .long 0) C hP hD hS 0 rfl rfl inlX12 tyX12_ok nmX12 8 (by decide) m_29_23 rfl rfl rfl rfl rfl dX12_clearMachine_42 (fun H locs hP hD hS => ?_)
        have hok : okM (uJ (uI (uI (uI t1 0 5 0) 0 6 1) 0 7 0) 0 8 0) := hok
        have hfr : frI [(0, 5), (0, 6), (0, 7), (0, 9), (0, 10), (0, 11), (0, 12), (0, 91)] t (uJ (uI (uI (uI t1 0 5 0) 0 6 1) 0 7 0) 0 8 0) := hfr
        refine lv_aload_n C.1 C.2.1 dX12_clearMachine_45 rfl (lv_at hl 0 rfl) ?_
        refine lv_bipush (v := 9) C.1 C.2.1 dX12_clearMachine_46 (by decide) ?_
        refine k_put (ws' := WM K ad (uI (uJ (uI (uI (uI t1 0 5 0) 0 6 1) 0 7 0) 0 8 0) 0 9 9)) (v := .int 9) C hP hD hS 0 rfl rfl inlX12 tyX12_ok nmX12 9 (by decide) m_7_8 rfl rfl rfl rfl rfl dX12_clearMachine_48 (fun H locs hP hD hS => ?_)
        have hok : okM (uI (uJ (uI (uI (uI t1 0 5 0) 0 6 1) 0 7 0) 0 8 0) 0 9 9) := ⟨okI_I hok.1 0 9 9 (show (0 : Int) ≤ (9 : Int32).toInt ∧ (9 : Int32).toInt ≤ 10 from ⟨by decide, by decide⟩), hok.2⟩
        have hfr : frI [(0, 5), (0, 6), (0, 7), (0, 9), (0, 10), (0, 11), (0, 12), (0, 91)] t (uI (uJ (uI (uI (uI t1 0 5 0) 0 6 1) 0 7 0) 0 8 0) 0 9 9) := frI_I hfr 0 9 _ (by decide)
        refine lv_aload_n C.1 C.2.1 dX12_clearMachine_51 rfl (lv_at hl 0 rfl) ?_
        refine lv_iconst (v := 0) C.1 C.2.1 dX12_clearMachine_52 (by decide) ?_
        refine k_put (ws' := WM K ad (uI (uI (uJ (uI (uI (uI t1 0 5 0) 0 6 1) 0 7 0) 0 8 0) 0 9 9) 0 10 0)) (v := .int 0) C hP hD hS 0 rfl rfl inlX12 tyX12_ok nmX12 10 (by decide) m_30_0 rfl (by decide) (by decide) rfl rfl dX12_clearMachine_53 (fun H locs hP hD hS => ?_)
        have hok : okM (uI (uI (uJ (uI (uI (uI t1 0 5 0) 0 6 1) 0 7 0) 0 8 0) 0 9 9) 0 10 0) := ⟨okI_I hok.1 0 10 0 (show (0 : Int) ≤ (0 : Int32).toInt ∧ (0 : Int32).toInt ≤ 1 from ⟨by decide, by decide⟩), hok.2⟩
        have hfr : frI [(0, 5), (0, 6), (0, 7), (0, 9), (0, 10), (0, 11), (0, 12), (0, 91)] t (uI (uI (uJ (uI (uI (uI t1 0 5 0) 0 6 1) 0 7 0) 0 8 0) 0 9 9) 0 10 0) := frI_I hfr 0 10 _ (by decide)
        refine lv_aload_n C.1 C.2.1 dX12_clearMachine_56 rfl (lv_at hl 0 rfl) ?_
        refine lv_iconst (v := 0) C.1 C.2.1 dX12_clearMachine_57 (by decide) ?_
        refine k_put (ws' := WM K ad (uI (uI (uI (uJ (uI (uI (uI t1 0 5 0) 0 6 1) 0 7 0) 0 8 0) 0 9 9) 0 10 0) 0 11 0)) (v := .int 0) C hP hD hS 0 rfl rfl inlX12 tyX12_ok nmX12 11 (by decide) m_30_1 rfl (by decide) (by decide) rfl rfl dX12_clearMachine_58 (fun H locs hP hD hS => ?_)
        have hok : okM (uI (uI (uI (uJ (uI (uI (uI t1 0 5 0) 0 6 1) 0 7 0) 0 8 0) 0 9 9) 0 10 0) 0 11 0) := ⟨okI_I hok.1 0 11 0 (show (0 : Int) ≤ (0 : Int32).toInt ∧ (0 : Int32).toInt ≤ 1 from ⟨by decide, by decide⟩), hok.2⟩
        have hfr : frI [(0, 5), (0, 6), (0, 7), (0, 9), (0, 10), (0, 11), (0, 12), (0, 91)] t (uI (uI (uI (uJ (uI (uI (uI t1 0 5 0) 0 6 1) 0 7 0) 0 8 0) 0 9 9) 0 10 0) 0 11 0) := frI_I hfr 0 11 _ (by decide)
        refine lv_aload_n C.1 C.2.1 dX12_clearMachine_61 rfl (lv_at hl 0 rfl) ?_
        refine lv_iconst (v := 0) C.1 C.2.1 dX12_clearMachine_62 (by decide) ?_
        refine k_put (ws' := WM K ad (uI (uI (uI (uI (uJ (uI (uI (uI t1 0 5 0) 0 6 1) 0 7 0) 0 8 0) 0 9 9) 0 10 0) 0 11 0) 0 12 0)) (v := .int 0) C hP hD hS 0 rfl rfl inlX12 tyX12_ok nmX12 12 (by decide) m_30_2 rfl (by decide) (by decide) rfl rfl dX12_clearMachine_63 (fun H locs hP hD hS => ?_)
        have hok : okM (uI (uI (uI (uI (uJ (uI (uI (uI t1 0 5 0) 0 6 1) 0 7 0) 0 8 0) 0 9 9) 0 10 0) 0 11 0) 0 12 0) := ⟨okI_I hok.1 0 12 0 (show (0 : Int) ≤ (0 : Int32).toInt ∧ (0 : Int32).toInt ≤ 1 from ⟨by decide, by decide⟩), hok.2⟩
        have hfr : frI [(0, 5), (0, 6), (0, 7), (0, 9), (0, 10), (0, 11), (0, 12), (0, 91)] t (uI (uI (uI (uI (uJ (uI (uI (uI t1 0 5 0) 0 6 1) 0 7 0) 0 8 0) 0 9 9) 0 10 0) 0 11 0) 0 12 0) := frI_I hfr 0 12 _ (by decide)
        refine lv_aload_n C.1 C.2.1 dX12_clearMachine_66 rfl (lv_at hl 0 rfl) ?_
        refine lv_iconst (v := 0) C.1 C.2.1 dX12_clearMachine_67 (by decide) ?_
        refine k_put (ws' := WM K ad (uI (uI (uI (uI (uI (uJ (uI (uI (uI t1 0 5 0) 0 6 1) 0 7 0) 0 8 0) 0 9 9) 0 10 0) 0 11 0) 0 12 0) 0 91 0)) (v := .int 0) C hP hD hS 0 rfl rfl inlX12 tyX12_ok nmX12 91 (by decide) m_30_3 rfl rfl rfl rfl rfl dX12_clearMachine_68 (fun H locs hP hD hS => ?_)
        have hok : okM (uI (uI (uI (uI (uI (uJ (uI (uI (uI t1 0 5 0) 0 6 1) 0 7 0) 0 8 0) 0 9 9) 0 10 0) 0 11 0) 0 12 0) 0 91 0) := ⟨okI_I hok.1 0 91 0 (show (-2147483648 : Int) ≤ (0 : Int32).toInt ∧ (0 : Int32).toInt ≤ 2147483647 from (i_rng _)), hok.2⟩
        have hfr : frI [(0, 5), (0, 6), (0, 7), (0, 9), (0, 10), (0, 11), (0, 12), (0, 91)] t (uI (uI (uI (uI (uI (uJ (uI (uI (uI t1 0 5 0) 0 6 1) 0 7 0) 0 8 0) 0 9 9) 0 10 0) 0 11 0) 0 12 0) 0 91 0) := frI_I hfr 0 91 _ (by decide)
        refine lv_aload_n C.1 C.2.1 dX12_clearMachine_71 rfl (lv_at hl 0 rfl) ?_
        refine g_Vv (As := []) (rest := []) C hP hD hS hA (T_X12_freeUnits l D K ad (uI (uI (uI (uI (uI (uJ (uI (uI (uI t1 0 5 0) 0 6 1) 0 7 0) 0 8 0) 0 9 9) 0 10 0) 0 11 0) 0 12 0) 0 91 0) hok ) X0_ok trivial (uwV m_30_8 m_30_9 m_30_10 m_1_5 m_30_11) (hdV 0 (by decide +kernel) rfl) ⟨Nat.le_of_ble_eq_true rfl, Nat.le_of_ble_eq_true rfl⟩ rfl rfl (ci := 11) (q0 := 0) rfl rfl rfl hl.1 (Nat.le_of_ble_eq_true rfl) dX12_clearMachine_72 ⟨Nat.le_of_ble_eq_true rfl, Nat.le_of_ble_eq_true rfl⟩ (fun t_2 H locs hw hP hD hS => ?_)
        obtain ⟨hok, f_4⟩ := hw
        have hfr : frI [(0, 5), (0, 6), (0, 7), (0, 9), (0, 10), (0, 11), (0, 12), (0, 91)] t t_2 := frI_tr (m1 := []) hfr f_4 (by decide)
        have e_5 : (0 : Int32) = t_2.1 0 5 := (f_4 0 5 (by decide)).symm
        have e_6 : (1 : Int32) = t_2.1 0 6 := (f_4 0 6 (by decide)).symm
        have e_7 : (0 : Int32) = t_2.1 0 7 := (f_4 0 7 (by decide)).symm
        have e_8 : (9 : Int32) = t_2.1 0 9 := (f_4 0 9 (by decide)).symm
        have e_9 : (0 : Int32) = t_2.1 0 10 := (f_4 0 10 (by decide)).symm
        have e_10 : (0 : Int32) = t_2.1 0 11 := (f_4 0 11 (by decide)).symm
        have e_11 : (0 : Int32) = t_2.1 0 12 := (f_4 0 12 (by decide)).symm
        have e_12 : (0 : Int32) = t_2.1 0 91 := (f_4 0 91 (by decide)).symm
        exact g_vret C hr hlocks hP hD hS t_2 rfl ⟨hok, hfr⟩ (Nat.le_of_ble_eq_true rfl) (Nat.le_of_ble_eq_true rfl) dX12_clearMachine_75
      · replace c_1 : w6_1.toInt < 9 := i_nle c_1
        refine lv_aload_n C.1 C.2.1 dX12_clearMachine_12 rfl (lv_at hl 0 rfl) ?_
        refine k_get (v := .ref (ad 3)) C hP 0 rfl rfl inlX12 4 (by decide) m_7_6 rfl dX12_clearMachine_13 ?_
        refine lv_iload_n C.1 C.2.1 dX12_clearMachine_16 rfl (lv_at hl 1 rfl) ?_
        refine lv_iconst (v := 0) C.1 C.2.1 dX12_clearMachine_17 (by decide) ?_
        refine k_ist (ws' := WM K ad (uB t1 3 (w6_1 : Int32).toNatClampNeg 0)) (x' := 0) C hP hD hS 3 rfl (vp_in_iff.mpr ⟨by omega, by omega⟩) rfl rfl rfl dX12_clearMachine_18 (fun H locs hP hD hS => ?_)
        have hok : okM (uB t1 3 (w6_1 : Int32).toNatClampNeg 0) := ⟨hok.1, okB_B hok.2 3 _ 0 (show (-2147483648 : Int) ≤ (0 : Int32).toInt ∧ (0 : Int32).toInt ≤ 2147483647 from (i_rng _))⟩
        have hfr : frI [(0, 5), (0, 6), (0, 7), (0, 9), (0, 10), (0, 11), (0, 12), (0, 91)] t (uB t1 3 (w6_1 : Int32).toNatClampNeg 0) := hfr
        obtain ⟨v_13, e_14⟩ : ∃ z, z = w6_1 + 1 := ⟨_, rfl⟩
        have h_15 : v_13.toInt = w6_1.toInt + 1 := by rw [e_14]; exact ti_iadd (by show (_ : Int) ≤ w6_1.toInt + 1; omega) (by show w6_1.toInt + 1 < (_ : Int); omega)
        refine lv_iinc (v := v_13) (lv' := [(1, .int v_13), (0, .ref (ad 0))]) C.1 C.2.1 dX12_clearMachine_19 hl (k := 1) rfl e_14.symm (by decide) rfl (fun ls hl => ?_)
        have hl : lv_has ls 2 [(0, .ref (ad 0)), (1, .int v_13)] := lv_sub hl [1, 0] rfl
        refine lv_goto (tgt := 6) C.1 C.2.1 dX12_clearMachine_22 (by decide) ?_
        exact ih_6 (uB t1 3 (w6_1 : Int32).toNatClampNeg 0) v_13 _ _ _ hok hfr ⟨by omega, by omega⟩ (show (9 : Int) - v_13.toInt < (fuel_6 : Int) from by omega) hP hD hS (lv_sub hl [0, 1] rfl)
  refine lv_aload_n C.1 C.2.1 dX12_clearMachine_0 rfl (lv_at hl 0 rfl) ?_
  refine g_Vv (As := []) (rest := []) C hP hD hS hA (T_X12_clearMemory l D K ad t hok ) X0_ok trivial (uwV m_30_4 m_30_5 m_30_6 m_1_5 m_30_7) (hdV 0 (by decide +kernel) rfl) ⟨Nat.le_of_ble_eq_true rfl, Nat.le_of_ble_eq_true rfl⟩ rfl rfl (ci := 11) (q0 := 0) rfl rfl rfl hl.1 (Nat.le_of_ble_eq_true rfl) dX12_clearMachine_1 ⟨Nat.le_of_ble_eq_true rfl, Nat.le_of_ble_eq_true rfl⟩ (fun t_16 H locs hw hP hD hS => ?_)
  obtain ⟨hok, f_18⟩ := hw
  have hfr : frI [(0, 5), (0, 6), (0, 7), (0, 9), (0, 10), (0, 11), (0, 12), (0, 91)] t t_16 := frI_tr (m1 := []) hfr f_18 (by decide)
  refine lv_iconst (v := 0) C.1 C.2.1 dX12_clearMachine_4 (by decide) ?_
  refine lv_istore_n (lv' := [(1, .int 0), (0, .ref (ad 0))]) C.1 C.2.1 dX12_clearMachine_5 rfl hl (by decide) rfl (fun ls hl => ?_)
  have hl : lv_has ls 2 [(0, .ref (ad 0)), (1, .int 0)] := lv_sub hl [1, 0] rfl
  exact L_6 10 t_16 0 _ _ _ hok hfr ⟨by decide, by decide⟩ (show (9 : Int) - 0 < ((10 : Nat) : Int) from by omega) hP hD hS (lv_sub hl [0, 1] rfl)

set_option maxHeartbeats 4000000 in
set_option maxRecDepth 100000 in
theorem T_X12_addressFault (l : Launch) (D : va_G) (K : Nat → ClassId) (ad : Nat → Nat) (t : tSt) (hok : okM t)  : uMet l yX12_addressFault cX12_addressFault 2 (some .int) (rmD 2 0 0) D K X0 [.ref (ad 0)] (WM K ad t) (QI D K (fun (r : Int32) (u : tSt) => okM u ∧ frI [] t u ∧ (0 : Int) ≤ r.toInt ∧ r.toInt ≤ 2) (fun (u : tSt) => WM K ad u)) 0 0 := by
  refine k_met RX12 ⟨rfl, by decide +kernel⟩ (Nat.le_of_ble_eq_true rfl) ?_
  intro p e s m below meth c A ls C hX hr hlocks hin hA hP hD hS hl
  have hl : lv_has ls 2 [(0, .ref (ad 0))] := hl
  have hfr : frI [] t t := frI_rf
  have L_186 : ∀ (t1 : tSt) (w186_1 : Int32) (k186_1 : Int32) (k186_2 : Int32) (H : Heap) (locs : List Loc) (ls : Array Slot), okM t1 → frI [] t t1 → (0 : Int) ≤ w186_1.toInt ∧ w186_1.toInt ≤ 0 → (1 : Int) ≤ k186_2.toInt ∧ k186_2.toInt ≤ 100 → (36 : Int) ≤ (t1.1 0 16).toInt ∧ (t1.1 0 16).toInt ≤ 37 → va_P D vwCl (WM K ad t1) H → va_D A (WM K ad t1) → va_S A s.heap H locs → lv_has ls 2 [(0, .ref (ad 0)), (1, .int w186_1)] → W p l e (rmD 2 0 0) s m [.ref (ad 0)].toArray below meth c H locs 0 0 (MQ below (QI D K (fun (r : Int32) (u : tSt) => okM u ∧ frI [] t u ∧ (0 : Int) ≤ r.toInt ∧ r.toInt ≤ 2) (fun (u : tSt) => WM K ad u) A) [.ref (ad 0)].toArray s 0 0 A) (F0 m 186 ls [.int k186_2, .int k186_1, .ref (ad 0)]) := by
    intro t1 w186_1 k186_1 k186_2 H locs ls hok hfr hw186_1 hk186_2 hf186_16 hP hD hS hl
    refine g_Vi (As := [.int k186_1, .int k186_2]) (rest := []) C hP hD hS hA (T_X12_areHere l D K ad t1 hok (k186_1) (k186_2) (show (0 : Int) ≤ (k186_2 : Int32).toInt ∧ (k186_2 : Int32).toInt ≤ 100 from ⟨by omega, by omega⟩)) X0_ok trivial (uwV m_58_5 m_58_6 m_58_7 m_1_5 m_58_8) (hdV 2 (by decide +kernel) rfl) ⟨Nat.le_of_ble_eq_true rfl, Nat.le_of_ble_eq_true rfl⟩ rfl rfl (ci := 11) (q0 := 0) rfl rfl rfl hl.1 (Nat.le_of_ble_eq_true rfl) dX12_addressFault_186 ⟨Nat.le_of_ble_eq_true rfl, Nat.le_of_ble_eq_true rfl⟩ (fun r_2 t_1 H locs hw hP hD hS => ?_)
    obtain ⟨hok, f_3, h_4, h_5⟩ := hw
    have hfr : frI [] t t_1 := frI_tr (m1 := []) hfr f_3 (by decide)
    have e_6 : (t1.1 0 16) = t_1.1 0 16 := (f_3 0 16 (by decide)).symm
    refine lv_if_eq (tgt := 196) C.1 C.2.1 dX12_addressFault_189 (by decide) (fun c_7 => ?_) (fun c_7 => ?_)
    · replace c_7 : r_2.toInt = 0 := i_eq c_7
      refine lv_iconst (v := 2) C.1 C.2.1 dX12_addressFault_196 (by decide) ?_
      exact g_iret C hr hlocks hP hD hS rfl t_1 rfl ⟨hok, hfr, by decide, by decide⟩ (Nat.le_of_ble_eq_true rfl) (Nat.le_of_ble_eq_true rfl) dX12_addressFault_197
    · replace c_7 : ¬ r_2.toInt = 0 := i_ne c_7
      refine lv_iconst (v := 0) C.1 C.2.1 dX12_addressFault_192 (by decide) ?_
      refine lv_goto (tgt := 197) C.1 C.2.1 dX12_addressFault_193 (by decide) ?_
      exact g_iret C hr hlocks hP hD hS rfl t_1 rfl ⟨hok, hfr, by decide, by decide⟩ (Nat.le_of_ble_eq_true rfl) (Nat.le_of_ble_eq_true rfl) dX12_addressFault_197
  have L_161 : ∀ (t1 : tSt) (w161_1 : Int32) (H : Heap) (locs : List Loc) (ls : Array Slot), okM t1 → frI [] t t1 → (0 : Int) ≤ w161_1.toInt ∧ w161_1.toInt ≤ 0 → (36 : Int) ≤ (t1.1 0 16).toInt ∧ (t1.1 0 16).toInt ≤ 37 → va_P D vwCl (WM K ad t1) H → va_D A (WM K ad t1) → va_S A s.heap H locs → lv_has ls 2 [(0, .ref (ad 0)), (1, .int w161_1)] → W p l e (rmD 2 0 0) s m [.ref (ad 0)].toArray below meth c H locs 0 0 (MQ below (QI D K (fun (r : Int32) (u : tSt) => okM u ∧ frI [] t u ∧ (0 : Int) ≤ r.toInt ∧ r.toInt ≤ 2) (fun (u : tSt) => WM K ad u) A) [.ref (ad 0)].toArray s 0 0 A) (F0 m 161 ls []) := by
    intro t1 w161_1 H locs ls hok hfr hw161_1 hf161_16 hP hD hS hl
    refine lv_aload_n C.1 C.2.1 dX12_addressFault_161 rfl (lv_at hl 0 rfl) ?_
    refine lv_aload_n C.1 C.2.1 dX12_addressFault_162 rfl (lv_at hl 0 rfl) ?_
    obtain ⟨v_8, e_9⟩ : ∃ z, z = t1.1 0 18 := ⟨_, rfl⟩
    have h_10 : v_8.toInt = (t1.1 0 18).toInt := congrArg Int32.toInt e_9
    refine k_get (v := .int v_8) C hP 0 rfl rfl inlX12 18 (by decide) m_57_5 (by rw [e_9]; rfl) dX12_addressFault_163 ?_
    refine lv_aload_n C.1 C.2.1 dX12_addressFault_166 rfl (lv_at hl 0 rfl) ?_
    obtain ⟨v_11, e_12⟩ : ∃ z, z = t1.1 0 17 := ⟨_, rfl⟩
    have h_13 : (0 : Int) ≤ v_11.toInt ∧ v_11.toInt ≤ 63 := by rw [e_12]; exact hok.1 0 17
    have h_14 : v_11.toInt = (t1.1 0 17).toInt := congrArg Int32.toInt e_12
    refine k_get (v := .int v_11) C hP 0 rfl rfl inlX12 17 (by decide) m_57_4 (by rw [e_12]; rfl) dX12_addressFault_167 ?_
    refine lv_bipush (v := 20) C.1 C.2.1 dX12_addressFault_170 (by decide) ?_
    refine lv_icmp_ge (tgt := 185) C.1 C.2.1 dX12_addressFault_172 (by decide) (fun c_15 => ?_) (fun c_15 => ?_)
    · replace c_15 : 20 ≤ v_11.toInt := i_le c_15
      refine lv_iconst (v := 1) C.1 C.2.1 dX12_addressFault_185 (by decide) ?_
      exact L_186 t1 w161_1 v_8 1 _ _ _ hok hfr ⟨by omega, by omega⟩ ⟨by decide, by decide⟩ (show (36 : Int) ≤ ((t1.1 0 16) : Int32).toInt ∧ ((t1.1 0 16) : Int32).toInt ≤ 37 from ⟨by omega, by omega⟩) hP hD hS (lv_sub hl [0, 1] rfl)
    · replace c_15 : v_11.toInt < 20 := i_nle c_15
      refine lv_aload_n C.1 C.2.1 dX12_addressFault_175 rfl (lv_at hl 0 rfl) ?_
      refine k_get (v := .int v_11) C hP 0 rfl rfl inlX12 17 (by decide) m_57_4 (by rw [e_12]; rfl) dX12_addressFault_176 ?_
      refine g_Si (As := [.int v_11]) (rest := [.int v_8, .ref (ad 0)]) C hP hD hS hA (T_X12_sizeOf l D K ad t1 hok (v_11) (show (-1 : Int) ≤ (v_11 : Int32).toInt ∧ (v_11 : Int32).toInt ≤ 19 from ⟨by omega, by omega⟩)) X0_ok trivial (uwS m_56_19 m_56_20 m_1_5 m_56_21) (hdS 1 (by decide +kernel) rfl) ⟨Nat.le_of_ble_eq_true rfl, Nat.le_of_ble_eq_true rfl⟩ rfl rfl rfl hl.1 (Nat.le_of_ble_eq_true rfl) dX12_addressFault_179 ⟨Nat.le_of_ble_eq_true rfl, Nat.le_of_ble_eq_true rfl⟩ (fun r_17 t_16 H locs hw hP hD hS => ?_)
      obtain ⟨hok, f_18, h_19, h_20⟩ := hw
      have hfr : frI [] t t_16 := frI_tr (m1 := []) hfr f_18 (by decide)
      have e_21 : (t1.1 0 16) = t_16.1 0 16 := (f_18 0 16 (by decide)).symm
      have e_22 : v_8 = t_16.1 0 18 := e_9.trans (f_18 0 18 (by decide)).symm
      have e_23 : v_11 = t_16.1 0 17 := e_12.trans (f_18 0 17 (by decide)).symm
      refine lv_goto (tgt := 186) C.1 C.2.1 dX12_addressFault_182 (by decide) ?_
      exact L_186 t_16 w161_1 v_8 r_17 _ _ _ hok hfr ⟨by omega, by omega⟩ ⟨by omega, by omega⟩ (show (36 : Int) ≤ ((t1.1 0 16) : Int32).toInt ∧ ((t1.1 0 16) : Int32).toInt ≤ 37 from ⟨by omega, by omega⟩) hP hD hS (lv_sub hl [0, 1] rfl)
  have L_119 : ∀ (t1 : tSt) (k119_0 : Int32) (H : Heap) (locs : List Loc) (ls : Array Slot), okM t1 → frI [] t t1 → (0 : Int) ≤ k119_0.toInt ∧ k119_0.toInt ≤ 1 → va_P D vwCl (WM K ad t1) H → va_D A (WM K ad t1) → va_S A s.heap H locs → lv_has ls 2 [(0, .ref (ad 0))] → W p l e (rmD 2 0 0) s m [.ref (ad 0)].toArray below meth c H locs 0 0 (MQ below (QI D K (fun (r : Int32) (u : tSt) => okM u ∧ frI [] t u ∧ (0 : Int) ≤ r.toInt ∧ r.toInt ≤ 2) (fun (u : tSt) => WM K ad u) A) [.ref (ad 0)].toArray s 0 0 A) (F0 m 119 ls [.int k119_0]) := by
    intro t1 k119_0 H locs ls hok hfr hk119_0 hP hD hS hl
    refine lv_istore_n (lv' := [(1, .int k119_0), (0, .ref (ad 0))]) C.1 C.2.1 dX12_addressFault_119 rfl hl (by decide) rfl (fun ls hl => ?_)
    have hl : lv_has ls 2 [(0, .ref (ad 0)), (1, .int k119_0)] := lv_sub hl [1, 0] rfl
    refine lv_iload_n C.1 C.2.1 dX12_addressFault_120 rfl (lv_at hl 1 rfl) ?_
    refine lv_if_eq (tgt := 141) C.1 C.2.1 dX12_addressFault_121 (by decide) (fun c_24 => ?_) (fun c_24 => ?_)
    · replace c_24 : k119_0.toInt = 0 := i_eq c_24
      refine lv_aload_n C.1 C.2.1 dX12_addressFault_141 rfl (lv_at hl 0 rfl) ?_
      obtain ⟨v_25, e_26⟩ : ∃ z, z = t1.1 0 16 := ⟨_, rfl⟩
      have h_27 : (0 : Int) ≤ v_25.toInt ∧ v_25.toInt ≤ 63 := by rw [e_26]; exact hok.1 0 16
      have h_28 : v_25.toInt = (t1.1 0 16).toInt := congrArg Int32.toInt e_26
      refine k_get (v := .int v_25) C hP 0 rfl rfl inlX12 16 (by decide) m_57_3 (by rw [e_26]; rfl) dX12_addressFault_142 ?_
      refine lv_bipush (v := 36) C.1 C.2.1 dX12_addressFault_145 (by decide) ?_
      refine lv_icmp_eq (tgt := 161) C.1 C.2.1 dX12_addressFault_147 (by decide) (fun c_29 => ?_) (fun c_29 => ?_)
      · replace c_29 : v_25.toInt = 36 := i_eq c_29
        exact L_161 t1 k119_0 _ _ _ hok hfr ⟨by omega, by omega⟩ (show (36 : Int) ≤ (v_25 : Int32).toInt ∧ (v_25 : Int32).toInt ≤ 37 from ⟨by omega, by omega⟩) hP hD hS (lv_sub hl [0, 1] rfl)
      · replace c_29 : ¬ v_25.toInt = 36 := i_ne c_29
        refine lv_aload_n C.1 C.2.1 dX12_addressFault_150 rfl (lv_at hl 0 rfl) ?_
        refine k_get (v := .int v_25) C hP 0 rfl rfl inlX12 16 (by decide) m_57_3 (by rw [e_26]; rfl) dX12_addressFault_151 ?_
        refine lv_bipush (v := 37) C.1 C.2.1 dX12_addressFault_154 (by decide) ?_
        refine lv_icmp_eq (tgt := 161) C.1 C.2.1 dX12_addressFault_156 (by decide) (fun c_30 => ?_) (fun c_30 => ?_)
        · replace c_30 : v_25.toInt = 37 := i_eq c_30
          exact L_161 t1 k119_0 _ _ _ hok hfr ⟨by omega, by omega⟩ (show (36 : Int) ≤ (v_25 : Int32).toInt ∧ (v_25 : Int32).toInt ≤ 37 from ⟨by omega, by omega⟩) hP hD hS (lv_sub hl [0, 1] rfl)
        · replace c_30 : ¬ v_25.toInt = 37 := i_ne c_30
          refine lv_iconst (v := 0) C.1 C.2.1 dX12_addressFault_159 (by decide) ?_
          exact g_iret C hr hlocks hP hD hS rfl t1 rfl ⟨hok, hfr, by decide, by decide⟩ (Nat.le_of_ble_eq_true rfl) (Nat.le_of_ble_eq_true rfl) dX12_addressFault_160
    · replace c_24 : ¬ k119_0.toInt = 0 := i_ne c_24
      refine lv_aload_n C.1 C.2.1 dX12_addressFault_124 rfl (lv_at hl 0 rfl) ?_
      refine lv_aload_n C.1 C.2.1 dX12_addressFault_125 rfl (lv_at hl 0 rfl) ?_
      obtain ⟨v_31, e_32⟩ : ∃ z, z = t1.1 0 18 := ⟨_, rfl⟩
      have h_33 : v_31.toInt = (t1.1 0 18).toInt := congrArg Int32.toInt e_32
      refine k_get (v := .int v_31) C hP 0 rfl rfl inlX12 18 (by decide) m_57_5 (by rw [e_32]; rfl) dX12_addressFault_126 ?_
      refine g_Vi (As := [.int v_31]) (rest := []) C hP hD hS hA (T_X12_isHere l D K ad t1 hok (v_31)) X0_ok trivial (uwV m_57_7 m_57_8 m_57_9 m_1_5 m_57_10) (hdV 1 (by decide +kernel) rfl) ⟨Nat.le_of_ble_eq_true rfl, Nat.le_of_ble_eq_true rfl⟩ rfl rfl (ci := 11) (q0 := 0) rfl rfl rfl hl.1 (Nat.le_of_ble_eq_true rfl) dX12_addressFault_129 ⟨Nat.le_of_ble_eq_true rfl, Nat.le_of_ble_eq_true rfl⟩ (fun r_35 t_34 H locs hw hP hD hS => ?_)
      obtain ⟨hok, f_36, h_37, h_38⟩ := hw
      have hfr : frI [] t t_34 := frI_tr (m1 := []) hfr f_36 (by decide)
      have e_39 : v_31 = t_34.1 0 18 := e_32.trans (f_36 0 18 (by decide)).symm
      refine lv_if_eq (tgt := 139) C.1 C.2.1 dX12_addressFault_132 (by decide) (fun c_40 => ?_) (fun c_40 => ?_)
      · replace c_40 : r_35.toInt = 0 := i_eq c_40
        refine lv_iconst (v := 2) C.1 C.2.1 dX12_addressFault_139 (by decide) ?_
        exact g_iret C hr hlocks hP hD hS rfl t_34 rfl ⟨hok, hfr, by decide, by decide⟩ (Nat.le_of_ble_eq_true rfl) (Nat.le_of_ble_eq_true rfl) dX12_addressFault_140
      · replace c_40 : ¬ r_35.toInt = 0 := i_ne c_40
        refine lv_iconst (v := 0) C.1 C.2.1 dX12_addressFault_135 (by decide) ?_
        refine lv_goto (tgt := 140) C.1 C.2.1 dX12_addressFault_136 (by decide) ?_
        exact g_iret C hr hlocks hP hD hS rfl t_34 rfl ⟨hok, hfr, by decide, by decide⟩ (Nat.le_of_ble_eq_true rfl) (Nat.le_of_ble_eq_true rfl) dX12_addressFault_140
  have L_114 : ∀ (t1 : tSt) (H : Heap) (locs : List Loc) (ls : Array Slot), okM t1 → frI [] t t1 → (1 : Int) ≤ (t1.1 0 16).toInt ∧ (t1.1 0 16).toInt ≤ 63 → va_P D vwCl (WM K ad t1) H → va_D A (WM K ad t1) → va_S A s.heap H locs → lv_has ls 2 [(0, .ref (ad 0))] → W p l e (rmD 2 0 0) s m [.ref (ad 0)].toArray below meth c H locs 0 0 (MQ below (QI D K (fun (r : Int32) (u : tSt) => okM u ∧ frI [] t u ∧ (0 : Int) ≤ r.toInt ∧ r.toInt ≤ 2) (fun (u : tSt) => WM K ad u) A) [.ref (ad 0)].toArray s 0 0 A) (F0 m 114 ls []) := by
    intro t1 H locs ls hok hfr hf114_16 hP hD hS hl
    refine lv_iconst (v := 1) C.1 C.2.1 dX12_addressFault_114 (by decide) ?_
    refine lv_goto (tgt := 119) C.1 C.2.1 dX12_addressFault_115 (by decide) ?_
    exact L_119 t1 1 _ _ _ hok hfr ⟨by decide, by decide⟩ hP hD hS (lv_sub hl [0] rfl)
  have L_105 : ∀ (t1 : tSt) (H : Heap) (locs : List Loc) (ls : Array Slot), okM t1 → frI [] t t1 → va_P D vwCl (WM K ad t1) H → va_D A (WM K ad t1) → va_S A s.heap H locs → lv_has ls 2 [(0, .ref (ad 0))] → W p l e (rmD 2 0 0) s m [.ref (ad 0)].toArray below meth c H locs 0 0 (MQ below (QI D K (fun (r : Int32) (u : tSt) => okM u ∧ frI [] t u ∧ (0 : Int) ≤ r.toInt ∧ r.toInt ≤ 2) (fun (u : tSt) => WM K ad u) A) [.ref (ad 0)].toArray s 0 0 A) (F0 m 105 ls []) := by
    intro t1 H locs ls hok hfr hP hD hS hl
    refine lv_aload_n C.1 C.2.1 dX12_addressFault_105 rfl (lv_at hl 0 rfl) ?_
    obtain ⟨v_41, e_42⟩ : ∃ z, z = t1.1 0 16 := ⟨_, rfl⟩
    have h_43 : (0 : Int) ≤ v_41.toInt ∧ v_41.toInt ≤ 63 := by rw [e_42]; exact hok.1 0 16
    have h_44 : v_41.toInt = (t1.1 0 16).toInt := congrArg Int32.toInt e_42
    refine k_get (v := .int v_41) C hP 0 rfl rfl inlX12 16 (by decide) m_57_3 (by rw [e_42]; rfl) dX12_addressFault_106 ?_
    refine lv_bipush (v := 55) C.1 C.2.1 dX12_addressFault_109 (by decide) ?_
    refine lv_icmp_le (tgt := 118) C.1 C.2.1 dX12_addressFault_111 (by decide) (fun c_45 => ?_) (fun c_45 => ?_)
    · replace c_45 : v_41.toInt ≤ 55 := i_le c_45
      refine lv_iconst (v := 0) C.1 C.2.1 dX12_addressFault_118 (by decide) ?_
      exact L_119 t1 0 _ _ _ hok hfr ⟨by decide, by decide⟩ hP hD hS (lv_sub hl [0] rfl)
    · replace c_45 : 55 < v_41.toInt := i_nle c_45
      exact L_114 t1 _ _ _ hok hfr (show (1 : Int) ≤ (v_41 : Int32).toInt ∧ (v_41 : Int32).toInt ≤ 63 from ⟨by omega, by omega⟩) hP hD hS (lv_sub hl [0] rfl)
  have L_87 : ∀ (t1 : tSt) (H : Heap) (locs : List Loc) (ls : Array Slot), okM t1 → frI [] t t1 → va_P D vwCl (WM K ad t1) H → va_D A (WM K ad t1) → va_S A s.heap H locs → lv_has ls 2 [(0, .ref (ad 0))] → W p l e (rmD 2 0 0) s m [.ref (ad 0)].toArray below meth c H locs 0 0 (MQ below (QI D K (fun (r : Int32) (u : tSt) => okM u ∧ frI [] t u ∧ (0 : Int) ≤ r.toInt ∧ r.toInt ≤ 2) (fun (u : tSt) => WM K ad u) A) [.ref (ad 0)].toArray s 0 0 A) (F0 m 87 ls []) := by
    intro t1 H locs ls hok hfr hP hD hS hl
    refine lv_aload_n C.1 C.2.1 dX12_addressFault_87 rfl (lv_at hl 0 rfl) ?_
    obtain ⟨v_46, e_47⟩ : ∃ z, z = t1.1 0 16 := ⟨_, rfl⟩
    have h_48 : (0 : Int) ≤ v_46.toInt ∧ v_46.toInt ≤ 63 := by rw [e_47]; exact hok.1 0 16
    have h_49 : v_46.toInt = (t1.1 0 16).toInt := congrArg Int32.toInt e_47
    refine k_get (v := .int v_46) C hP 0 rfl rfl inlX12 16 (by decide) m_57_3 (by rw [e_47]; rfl) dX12_addressFault_88 ?_
    refine lv_bipush (v := 7) C.1 C.2.1 dX12_addressFault_91 (by decide) ?_
    refine lv_icmp_le (tgt := 105) C.1 C.2.1 dX12_addressFault_93 (by decide) (fun c_50 => ?_) (fun c_50 => ?_)
    · replace c_50 : v_46.toInt ≤ 7 := i_le c_50
      exact L_105 t1 _ _ _ hok hfr hP hD hS (lv_sub hl [0] rfl)
    · replace c_50 : 7 < v_46.toInt := i_nle c_50
      refine lv_aload_n C.1 C.2.1 dX12_addressFault_96 rfl (lv_at hl 0 rfl) ?_
      refine k_get (v := .int v_46) C hP 0 rfl rfl inlX12 16 (by decide) m_57_3 (by rw [e_47]; rfl) dX12_addressFault_97 ?_
      refine lv_bipush (v := 34) C.1 C.2.1 dX12_addressFault_100 (by decide) ?_
      refine lv_icmp_lt (tgt := 114) C.1 C.2.1 dX12_addressFault_102 (by decide) (fun c_51 => ?_) (fun c_51 => ?_)
      · replace c_51 : v_46.toInt < 34 := i_lt c_51
        exact L_114 t1 _ _ _ hok hfr (show (1 : Int) ≤ (v_46 : Int32).toInt ∧ (v_46 : Int32).toInt ≤ 63 from ⟨by omega, by omega⟩) hP hD hS (lv_sub hl [0] rfl)
      · replace c_51 : 34 ≤ v_46.toInt := i_nlt c_51
        exact L_105 t1 _ _ _ hok hfr hP hD hS (lv_sub hl [0] rfl)
  refine lv_aload_n C.1 C.2.1 dX12_addressFault_0 rfl (lv_at hl 0 rfl) ?_
  obtain ⟨v_52, e_53⟩ : ∃ z, z = t.1 0 16 := ⟨_, rfl⟩
  have h_54 : (0 : Int) ≤ v_52.toInt ∧ v_52.toInt ≤ 63 := by rw [e_53]; exact hok.1 0 16
  have h_55 : v_52.toInt = (t.1 0 16).toInt := congrArg Int32.toInt e_53
  refine k_get (v := .int v_52) C hP 0 rfl rfl inlX12 16 (by decide) m_57_3 (by rw [e_53]; rfl) dX12_addressFault_1 ?_
  refine lv_bipush (v := 6) C.1 C.2.1 dX12_addressFault_4 (by decide) ?_
  refine lv_icmp_ne (tgt := 22) C.1 C.2.1 dX12_addressFault_6 (by decide) (fun c_56 => ?_) (fun c_56 => ?_)
  · replace c_56 : ¬ v_52.toInt = 6 := i_ne c_56
    refine lv_aload_n C.1 C.2.1 dX12_addressFault_22 rfl (lv_at hl 0 rfl) ?_
    refine k_get (v := .int v_52) C hP 0 rfl rfl inlX12 16 (by decide) m_57_3 (by rw [e_53]; rfl) dX12_addressFault_23 ?_
    refine lv_bipush (v := 7) C.1 C.2.1 dX12_addressFault_26 (by decide) ?_
    refine lv_icmp_ne (tgt := 72) C.1 C.2.1 dX12_addressFault_28 (by decide) (fun c_57 => ?_) (fun c_57 => ?_)
    · replace c_57 : ¬ v_52.toInt = 7 := i_ne c_57
      refine lv_aload_n C.1 C.2.1 dX12_addressFault_72 rfl (lv_at hl 0 rfl) ?_
      refine k_get (v := .int v_52) C hP 0 rfl rfl inlX12 16 (by decide) m_57_3 (by rw [e_53]; rfl) dX12_addressFault_73 ?_
      refine lv_if_le (tgt := 87) C.1 C.2.1 dX12_addressFault_76 (by decide) (fun c_58 => ?_) (fun c_58 => ?_)
      · replace c_58 : v_52.toInt ≤ 0 := i_le c_58
        exact L_87 t _ _ _ hok hfr hP hD hS (lv_sub hl [0] rfl)
      · replace c_58 : 0 < v_52.toInt := i_nle c_58
        refine lv_aload_n C.1 C.2.1 dX12_addressFault_79 rfl (lv_at hl 0 rfl) ?_
        refine k_get (v := .int v_52) C hP 0 rfl rfl inlX12 16 (by decide) m_57_3 (by rw [e_53]; rfl) dX12_addressFault_80 ?_
        refine lv_iconst (v := 5) C.1 C.2.1 dX12_addressFault_83 (by decide) ?_
        refine lv_icmp_lt (tgt := 114) C.1 C.2.1 dX12_addressFault_84 (by decide) (fun c_59 => ?_) (fun c_59 => ?_)
        · replace c_59 : v_52.toInt < 5 := i_lt c_59
          exact L_114 t _ _ _ hok hfr (show (1 : Int) ≤ (v_52 : Int32).toInt ∧ (v_52 : Int32).toInt ≤ 63 from ⟨by omega, by omega⟩) hP hD hS (lv_sub hl [0] rfl)
        · replace c_59 : 5 ≤ v_52.toInt := i_nlt c_59
          exact L_87 t _ _ _ hok hfr hP hD hS (lv_sub hl [0] rfl)
    · replace c_57 : v_52.toInt = 7 := i_eq c_57
      refine lv_aload_n C.1 C.2.1 dX12_addressFault_31 rfl (lv_at hl 0 rfl) ?_
      refine lv_aload_n C.1 C.2.1 dX12_addressFault_32 rfl (lv_at hl 0 rfl) ?_
      obtain ⟨v_60, e_61⟩ : ∃ z, z = t.1 0 18 := ⟨_, rfl⟩
      have h_62 : v_60.toInt = (t.1 0 18).toInt := congrArg Int32.toInt e_61
      refine k_get (v := .int v_60) C hP 0 rfl rfl inlX12 18 (by decide) m_57_5 (by rw [e_61]; rfl) dX12_addressFault_33 ?_
      refine lv_aload_n C.1 C.2.1 dX12_addressFault_36 rfl (lv_at hl 0 rfl) ?_
      obtain ⟨v_63, e_64⟩ : ∃ z, z = t.1 0 17 := ⟨_, rfl⟩
      have h_65 : (0 : Int) ≤ v_63.toInt ∧ v_63.toInt ≤ 63 := by rw [e_64]; exact hok.1 0 17
      have h_66 : v_63.toInt = (t.1 0 17).toInt := congrArg Int32.toInt e_64
      refine k_get (v := .int v_63) C hP 0 rfl rfl inlX12 17 (by decide) m_57_4 (by rw [e_64]; rfl) dX12_addressFault_37 ?_
      refine g_Vi (As := [.int v_60, .int v_63]) (rest := []) C hP hD hS hA (T_X12_areHere l D K ad t hok (v_60) (v_63) (show (0 : Int) ≤ (v_63 : Int32).toInt ∧ (v_63 : Int32).toInt ≤ 100 from ⟨by omega, by omega⟩)) X0_ok trivial (uwV m_58_5 m_58_6 m_58_7 m_1_5 m_58_8) (hdV 2 (by decide +kernel) rfl) ⟨Nat.le_of_ble_eq_true rfl, Nat.le_of_ble_eq_true rfl⟩ rfl rfl (ci := 11) (q0 := 0) rfl rfl rfl hl.1 (Nat.le_of_ble_eq_true rfl) dX12_addressFault_40 ⟨Nat.le_of_ble_eq_true rfl, Nat.le_of_ble_eq_true rfl⟩ (fun r_68 t_67 H locs hw hP hD hS => ?_)
      obtain ⟨hok, f_69, h_70, h_71⟩ := hw
      have hfr : frI [] t t_67 := frI_tr (m1 := []) hfr f_69 (by decide)
      have e_72 : v_52 = t_67.1 0 16 := e_53.trans (f_69 0 16 (by decide)).symm
      have e_73 : v_60 = t_67.1 0 18 := e_61.trans (f_69 0 18 (by decide)).symm
      have e_74 : v_63 = t_67.1 0 17 := e_64.trans (f_69 0 17 (by decide)).symm
      refine lv_if_eq (tgt := 70) C.1 C.2.1 dX12_addressFault_43 (by decide) (fun c_75 => ?_) (fun c_75 => ?_)
      · replace c_75 : r_68.toInt = 0 := i_eq c_75
        refine lv_iconst (v := 2) C.1 C.2.1 dX12_addressFault_70 (by decide) ?_
        exact g_iret C hr hlocks hP hD hS rfl t_67 rfl ⟨hok, hfr, by decide, by decide⟩ (Nat.le_of_ble_eq_true rfl) (Nat.le_of_ble_eq_true rfl) dX12_addressFault_71
      · replace c_75 : ¬ r_68.toInt = 0 := i_ne c_75
        refine lv_aload_n C.1 C.2.1 dX12_addressFault_46 rfl (lv_at hl 0 rfl) ?_
        refine lv_aload_n C.1 C.2.1 dX12_addressFault_47 rfl (lv_at hl 0 rfl) ?_
        refine k_get (v := .ref (ad 3)) C hP 0 rfl rfl inlX12 4 (by decide) m_7_6 rfl dX12_addressFault_48 ?_
        refine lv_iconst (v := 1) C.1 C.2.1 dX12_addressFault_51 (by decide) ?_
        obtain ⟨v_76, e_77⟩ : ∃ z, z = t_67.2.2.1 3 (1 : Int32).toNatClampNeg := ⟨_, rfl⟩
        refine k_ild (v := v_76) C hP 3 rfl (vin (by decide)) e_77.symm dX12_addressFault_52 ?_
        refine g_Si (As := [.int v_76]) (rest := [.ref (ad 0)]) C hP hD hS hA (T_X12_value l D K ad t_67 hok (v_76)) X0_ok trivial (uwS m_36_9 m_36_10 m_1_5 m_36_11) (hdS 1 (by decide +kernel) rfl) ⟨Nat.le_of_ble_eq_true rfl, Nat.le_of_ble_eq_true rfl⟩ rfl rfl rfl hl.1 (Nat.le_of_ble_eq_true rfl) dX12_addressFault_53 ⟨Nat.le_of_ble_eq_true rfl, Nat.le_of_ble_eq_true rfl⟩ (fun r_79 t_78 H locs hw hP hD hS => ?_)
        obtain ⟨hok, f_80, h_81, h_82⟩ := hw
        have hfr : frI [] t t_78 := frI_tr (m1 := []) hfr f_80 (by decide)
        have e_83 : v_52 = t_78.1 0 16 := e_72.trans (f_80 0 16 (by decide)).symm
        have e_84 : v_60 = t_78.1 0 18 := e_73.trans (f_80 0 18 (by decide)).symm
        have e_85 : v_63 = t_78.1 0 17 := e_74.trans (f_80 0 17 (by decide)).symm
        refine lv_aload_n C.1 C.2.1 dX12_addressFault_56 rfl (lv_at hl 0 rfl) ?_
        refine k_get (v := .int v_63) C hP 0 rfl rfl inlX12 17 (by decide) m_57_4 (by rw [e_85]; rfl) dX12_addressFault_57 ?_
        refine g_Vi (As := [.int r_79, .int v_63]) (rest := []) C hP hD hS hA (T_X12_areHere l D K ad t_78 hok (r_79) (v_63) (show (0 : Int) ≤ (v_63 : Int32).toInt ∧ (v_63 : Int32).toInt ≤ 100 from ⟨by omega, by omega⟩)) X0_ok trivial (uwV m_58_5 m_58_6 m_58_7 m_1_5 m_58_8) (hdV 2 (by decide +kernel) rfl) ⟨Nat.le_of_ble_eq_true rfl, Nat.le_of_ble_eq_true rfl⟩ rfl rfl (ci := 11) (q0 := 0) rfl rfl rfl hl.1 (Nat.le_of_ble_eq_true rfl) dX12_addressFault_60 ⟨Nat.le_of_ble_eq_true rfl, Nat.le_of_ble_eq_true rfl⟩ (fun r_87 t_86 H locs hw hP hD hS => ?_)
        obtain ⟨hok, f_88, h_89, h_90⟩ := hw
        have hfr : frI [] t t_86 := frI_tr (m1 := []) hfr f_88 (by decide)
        have e_91 : v_52 = t_86.1 0 16 := e_83.trans (f_88 0 16 (by decide)).symm
        have e_92 : v_60 = t_86.1 0 18 := e_84.trans (f_88 0 18 (by decide)).symm
        have e_93 : v_63 = t_86.1 0 17 := e_85.trans (f_88 0 17 (by decide)).symm
        refine lv_if_eq (tgt := 70) C.1 C.2.1 dX12_addressFault_63 (by decide) (fun c_94 => ?_) (fun c_94 => ?_)
        · replace c_94 : r_87.toInt = 0 := i_eq c_94
          refine lv_iconst (v := 2) C.1 C.2.1 dX12_addressFault_70 (by decide) ?_
          exact g_iret C hr hlocks hP hD hS rfl t_86 rfl ⟨hok, hfr, by decide, by decide⟩ (Nat.le_of_ble_eq_true rfl) (Nat.le_of_ble_eq_true rfl) dX12_addressFault_71
        · replace c_94 : ¬ r_87.toInt = 0 := i_ne c_94
          refine lv_iconst (v := 0) C.1 C.2.1 dX12_addressFault_66 (by decide) ?_
          refine lv_goto (tgt := 71) C.1 C.2.1 dX12_addressFault_67 (by decide) ?_
          exact g_iret C hr hlocks hP hD hS rfl t_86 rfl ⟨hok, hfr, by decide, by decide⟩ (Nat.le_of_ble_eq_true rfl) (Nat.le_of_ble_eq_true rfl) dX12_addressFault_71
  · replace c_56 : v_52.toInt = 6 := i_eq c_56
    refine lv_aload_n C.1 C.2.1 dX12_addressFault_9 rfl (lv_at hl 0 rfl) ?_
    obtain ⟨v_95, e_96⟩ : ∃ z, z = t.1 0 18 := ⟨_, rfl⟩
    have h_97 : v_95.toInt = (t.1 0 18).toInt := congrArg Int32.toInt e_96
    refine k_get (v := .int v_95) C hP 0 rfl rfl inlX12 18 (by decide) m_57_5 (by rw [e_96]; rfl) dX12_addressFault_10 ?_
    refine lv_if_ge (tgt := 20) C.1 C.2.1 dX12_addressFault_13 (by decide) (fun c_98 => ?_) (fun c_98 => ?_)
    · replace c_98 : 0 ≤ v_95.toInt := i_le c_98
      refine lv_iconst (v := 0) C.1 C.2.1 dX12_addressFault_20 (by decide) ?_
      exact g_iret C hr hlocks hP hD hS rfl t rfl ⟨hok, hfr, by decide, by decide⟩ (Nat.le_of_ble_eq_true rfl) (Nat.le_of_ble_eq_true rfl) dX12_addressFault_21
    · replace c_98 : v_95.toInt < 0 := i_nle c_98
      refine lv_iconst (v := 2) C.1 C.2.1 dX12_addressFault_16 (by decide) ?_
      refine lv_goto (tgt := 21) C.1 C.2.1 dX12_addressFault_17 (by decide) ?_
      exact g_iret C hr hlocks hP hD hS rfl t rfl ⟨hok, hfr, by decide, by decide⟩ (Nat.le_of_ble_eq_true rfl) (Nat.le_of_ble_eq_true rfl) dX12_addressFault_21

set_option maxHeartbeats 4000000 in
set_option maxRecDepth 100000 in
theorem T_X12_convert (l : Launch) (D : va_G) (K : Nat → ClassId) (ad : Nat → Nat) (t : tSt) (hok : okM t)  : uMet l yX12_convert cX12_convert 6 none (rmD 1 0 0) D K X0 [.ref (ad 0)] (WM K ad t) (QV D K (fun (u : tSt) => okM u ∧ frI [] t u) (fun (u : tSt) => WM K ad u)) 0 0 := by
  refine k_met RX12 ⟨rfl, by decide +kernel⟩ (Nat.le_of_ble_eq_true rfl) ?_
  intro p e s m below meth c A ls C hX hr hlocks hin hA hP hD hS hl
  have hl : lv_has ls 6 [(0, .ref (ad 0))] := hl
  have hfr : frI [] t t := frI_rf
  have L_79 : ∀ (fuel_79 : Nat) (t1 : tSt) (w79_1 : Int32) (w79_2 : Int32) (w79_3 : Int32) (w79_4 : Int32) (H : Heap) (locs : List Loc) (ls : Array Slot), okM t1 → frI [] t t1 → (0 : Int) ≤ w79_1.toInt ∧ w79_1.toInt ≤ 1073741823 → (0 : Int) ≤ w79_2.toInt ∧ w79_2.toInt ≤ 1073741823 → (0 : Int) ≤ w79_3.toInt ∧ w79_3.toInt ≤ 1073741823 → (0 : Int) ≤ w79_4.toInt ∧ w79_4.toInt ≤ 10 → (1 : Int) ≤ (t1.1 0 17).toInt ∧ (t1.1 0 17).toInt ≤ 63 → (10 : Int) - w79_4.toInt < (fuel_79 : Int) → va_P D vwCl (WM K ad t1) H → va_D A (WM K ad t1) → va_S A s.heap H locs → lv_has ls 6 [(0, .ref (ad 0)), (1, .int w79_1), (2, .int w79_2), (3, .int w79_3), (4, .int w79_4)] → W p l e (rmD 1 0 0) s m [.ref (ad 0)].toArray below meth c H locs 0 0 (MQ below (QV D K (fun (u : tSt) => okM u ∧ frI [] t u) (fun (u : tSt) => WM K ad u) A) [.ref (ad 0)].toArray s 0 0 A) (F0 m 79 ls []) := by
    intro fuel_79
    induction fuel_79 with
    | zero =>
      intro t1 w79_1 w79_2 w79_3 w79_4 H locs ls hok hfr hw79_1 hw79_2 hw79_3 hw79_4 hf79_17 hm79_79 hP hD hS hl
      exact absurd hm79_79 (by omega)
    | succ fuel_79 ih_79 =>
      intro t1 w79_1 w79_2 w79_3 w79_4 H locs ls hok hfr hw79_1 hw79_2 hw79_3 hw79_4 hf79_17 hm79_79 hP hD hS hl
      have hm79_79 : (10 : Int) - w79_4.toInt < (fuel_79 : Int) + 1 := by omega
      have L_133 : ∀ (t1 : tSt) (w133_1 : Int32) (w133_2 : Int32) (w133_3 : Int32) (w133_4 : Int32) (w133_5 : Int32) (H : Heap) (locs : List Loc) (ls : Array Slot), okM t1 → frI [] t t1 → (0 : Int) ≤ w133_1.toInt ∧ w133_1.toInt ≤ 107374182 → (0 : Int) ≤ w133_2.toInt ∧ w133_2.toInt ≤ 1073741823 → (0 : Int) ≤ w133_3.toInt ∧ w133_3.toInt ≤ 1073741823 → (0 : Int) ≤ w133_4.toInt ∧ w133_4.toInt ≤ 9 → (30 : Int) ≤ w133_5.toInt ∧ w133_5.toInt ≤ 39 → (1 : Int) ≤ (t1.1 0 17).toInt ∧ (t1.1 0 17).toInt ≤ 63 → (10 : Int) - w133_4.toInt < (fuel_79 : Int) + 1 → va_P D vwCl (WM K ad t1) H → va_D A (WM K ad t1) → va_S A s.heap H locs → lv_has ls 6 [(0, .ref (ad 0)), (1, .int w133_1), (2, .int w133_2), (3, .int w133_3), (4, .int w133_4), (5, .int w133_5)] → W p l e (rmD 1 0 0) s m [.ref (ad 0)].toArray below meth c H locs 0 0 (MQ below (QV D K (fun (u : tSt) => okM u ∧ frI [] t u) (fun (u : tSt) => WM K ad u) A) [.ref (ad 0)].toArray s 0 0 A) (F0 m 133 ls []) := by
        intro t1 w133_1 w133_2 w133_3 w133_4 w133_5 H locs ls hok hfr hw133_1 hw133_2 hw133_3 hw133_4 hw133_5 hf133_17 hm133_79 hP hD hS hl
        obtain ⟨v_1, e_2⟩ : ∃ z, z = w133_4 + 1 := ⟨_, rfl⟩
        have h_3 : v_1.toInt = w133_4.toInt + 1 := by rw [e_2]; exact ti_iadd (by show (_ : Int) ≤ w133_4.toInt + 1; omega) (by show w133_4.toInt + 1 < (_ : Int); omega)
        refine lv_iinc (v := v_1) (lv' := [(4, .int v_1), (0, .ref (ad 0)), (1, .int w133_1), (2, .int w133_2), (3, .int w133_3), (5, .int w133_5)]) C.1 C.2.1 dX12_convert_133 hl (k := 4) rfl e_2.symm (by decide) rfl (fun ls hl => ?_)
        have hl : lv_has ls 6 [(0, .ref (ad 0)), (1, .int w133_1), (2, .int w133_2), (3, .int w133_3), (4, .int v_1), (5, .int w133_5)] := lv_sub hl [1, 2, 3, 4, 0, 5] rfl
        refine lv_goto (tgt := 79) C.1 C.2.1 dX12_convert_136 (by decide) ?_
        exact ih_79 t1 w133_1 w133_2 w133_3 v_1 _ _ _ hok hfr ⟨by omega, by omega⟩ ⟨by omega, by omega⟩ ⟨by omega, by omega⟩ ⟨by omega, by omega⟩ (show (1 : Int) ≤ ((t1.1 0 17) : Int32).toInt ∧ ((t1.1 0 17) : Int32).toInt ≤ 63 from ⟨by omega, by omega⟩) (show (10 : Int) - v_1.toInt < (fuel_79 : Int) from by omega) hP hD hS (lv_sub hl [0, 1, 2, 3, 4] rfl)
      refine lv_iload C.1 C.2.1 dX12_convert_79 (lv_at hl 4 rfl) ?_
      refine lv_bipush (v := 10) C.1 C.2.1 dX12_convert_81 (by decide) ?_
      refine lv_icmp_ge (tgt := 139) C.1 C.2.1 dX12_convert_83 (by decide) (fun c_4 => ?_) (fun c_4 => ?_)
      · replace c_4 : 10 ≤ w79_4.toInt := i_le c_4
        refine lv_aload_n C.1 C.2.1 dX12_convert_139 rfl (lv_at hl 0 rfl) ?_
        refine k_get (v := .ref (ad 3)) C hP 0 rfl rfl inlX12 4 (by decide) m_7_6 rfl dX12_convert_140 ?_
        refine lv_iconst (v := 0) C.1 C.2.1 dX12_convert_143 (by decide) ?_
        refine lv_aload_n C.1 C.2.1 dX12_convert_144 rfl (lv_at hl 0 rfl) ?_
        refine k_get (v := .ref (ad 3)) C hP 0 rfl rfl inlX12 4 (by decide) m_7_6 rfl dX12_convert_145 ?_
        refine lv_iconst (v := 0) C.1 C.2.1 dX12_convert_148 (by decide) ?_
        obtain ⟨v_5, e_6⟩ : ∃ z, z = t1.2.2.1 3 (0 : Int32).toNatClampNeg := ⟨_, rfl⟩
        refine k_ild (v := v_5) C hP 3 rfl (vin (by decide)) e_6.symm dX12_convert_149 ?_
        refine lv_ldc (v := 1073741824) C.1 C.2.1 C.2.2.2.1 (C.2.2.2.2.1 _ m_34_19) dX12_convert_150 ?_
        obtain ⟨v_7, e_8⟩ : ∃ z, z = (v_5 : Int32) &&& (1073741824 : Int32) := ⟨_, rfl⟩
        refine k_iand (v := v_7) C e_8.symm dX12_convert_152 ?_
        refine lv_iload_n C.1 C.2.1 dX12_convert_153 rfl (lv_at hl 2 rfl) ?_
        obtain ⟨v_10, e_11⟩ : ∃ z, z = (v_7 : Int32) ||| (w79_2 : Int32) := ⟨_, rfl⟩
        refine k_ior (v := v_10) C e_11.symm dX12_convert_154 ?_
        refine k_ist (ws' := WM K ad (uB t1 3 (0 : Int32).toNatClampNeg v_10)) (x' := v_10) C hP hD hS 3 rfl (vin (by decide)) rfl rfl rfl dX12_convert_155 (fun H locs hP hD hS => ?_)
        have hok : okM (uB t1 3 (0 : Int32).toNatClampNeg v_10) := ⟨hok.1, okB_B hok.2 3 _ v_10 (show (-2147483648 : Int) ≤ (v_10 : Int32).toInt ∧ (v_10 : Int32).toInt ≤ 2147483647 from (i_rng _))⟩
        have hfr : frI [] t (uB t1 3 (0 : Int32).toNatClampNeg v_10) := hfr
        refine lv_aload_n C.1 C.2.1 dX12_convert_156 rfl (lv_at hl 0 rfl) ?_
        refine k_get (v := .ref (ad 3)) C hP 0 rfl rfl inlX12 4 (by decide) m_7_6 rfl dX12_convert_157 ?_
        refine lv_bipush (v := 7) C.1 C.2.1 dX12_convert_160 (by decide) ?_
        refine lv_aload_n C.1 C.2.1 dX12_convert_162 rfl (lv_at hl 0 rfl) ?_
        refine k_get (v := .ref (ad 3)) C hP 0 rfl rfl inlX12 4 (by decide) m_7_6 rfl dX12_convert_163 ?_
        refine lv_bipush (v := 7) C.1 C.2.1 dX12_convert_166 (by decide) ?_
        obtain ⟨v_12, e_13⟩ : ∃ z, z = (uB t1 3 (0 : Int32).toNatClampNeg v_10).2.2.1 3 (7 : Int32).toNatClampNeg := ⟨_, rfl⟩
        refine k_ild (v := v_12) C hP 3 rfl (vin (by decide)) e_13.symm dX12_convert_168 ?_
        refine lv_ldc (v := 1073741824) C.1 C.2.1 C.2.2.2.1 (C.2.2.2.2.1 _ m_34_19) dX12_convert_169 ?_
        obtain ⟨v_14, e_15⟩ : ∃ z, z = (v_12 : Int32) &&& (1073741824 : Int32) := ⟨_, rfl⟩
        refine k_iand (v := v_14) C e_15.symm dX12_convert_171 ?_
        refine lv_iload_n C.1 C.2.1 dX12_convert_172 rfl (lv_at hl 3 rfl) ?_
        obtain ⟨v_17, e_18⟩ : ∃ z, z = (v_14 : Int32) ||| (w79_3 : Int32) := ⟨_, rfl⟩
        refine k_ior (v := v_17) C e_18.symm dX12_convert_173 ?_
        refine k_ist (ws' := WM K ad (uB (uB t1 3 (0 : Int32).toNatClampNeg v_10) 3 (7 : Int32).toNatClampNeg v_17)) (x' := v_17) C hP hD hS 3 rfl (vin (by decide)) rfl rfl rfl dX12_convert_174 (fun H locs hP hD hS => ?_)
        have hok : okM (uB (uB t1 3 (0 : Int32).toNatClampNeg v_10) 3 (7 : Int32).toNatClampNeg v_17) := ⟨hok.1, okB_B hok.2 3 _ v_17 (show (-2147483648 : Int) ≤ (v_17 : Int32).toInt ∧ (v_17 : Int32).toInt ≤ 2147483647 from (i_rng _))⟩
        have hfr : frI [] t (uB (uB t1 3 (0 : Int32).toNatClampNeg v_10) 3 (7 : Int32).toNatClampNeg v_17) := hfr
        exact g_vret C hr hlocks hP hD hS (uB (uB t1 3 (0 : Int32).toNatClampNeg v_10) 3 (7 : Int32).toNatClampNeg v_17) rfl ⟨hok, hfr⟩ (Nat.le_of_ble_eq_true rfl) (Nat.le_of_ble_eq_true rfl) dX12_convert_175
      · replace c_4 : w79_4.toInt < 10 := i_nle c_4
        refine lv_bipush (v := 30) C.1 C.2.1 dX12_convert_86 (by decide) ?_
        refine lv_iload_n C.1 C.2.1 dX12_convert_88 rfl (lv_at hl 1 rfl) ?_
        refine lv_bipush (v := 10) C.1 C.2.1 dX12_convert_89 (by decide) ?_
        obtain ⟨v_19, e_20⟩ : ∃ z, z = (w79_1 : Int32) - (w79_1 : Int32) / (10 : Int32) * (10 : Int32) := ⟨_, rfl⟩
        have h_21 : v_19.toInt = w79_1.toInt % 10 := by rw [e_20]; exact z_remp (k := 10) (by decide) (by show (0 : Int) ≤ w79_1.toInt; omega)
        refine k_irem (v := v_19) C (by decide) e_20.symm dX12_convert_91 ?_
        obtain ⟨v_22, e_23⟩ : ∃ z, z = (30 : Int32) + (v_19 : Int32) := ⟨_, rfl⟩
        have h_24 : v_22.toInt = 30 + v_19.toInt := by rw [e_23]; exact ti_iadd (by show (_ : Int) ≤ 30 + v_19.toInt; omega) (by show 30 + v_19.toInt < (_ : Int); omega)
        refine k_iadd (v := v_22) C e_23.symm dX12_convert_92 ?_
        refine lv_istore (lv' := [(5, .int v_22), (0, .ref (ad 0)), (1, .int w79_1), (2, .int w79_2), (3, .int w79_3), (4, .int w79_4)]) C.1 C.2.1 dX12_convert_93 hl (by decide) rfl (fun ls hl => ?_)
        have hl : lv_has ls 6 [(0, .ref (ad 0)), (1, .int w79_1), (2, .int w79_2), (3, .int w79_3), (4, .int w79_4), (5, .int v_22)] := lv_sub hl [1, 2, 3, 4, 5, 0] rfl
        refine lv_iload_n C.1 C.2.1 dX12_convert_95 rfl (lv_at hl 1 rfl) ?_
        refine lv_bipush (v := 10) C.1 C.2.1 dX12_convert_96 (by decide) ?_
        obtain ⟨v_25, e_26⟩ : ∃ z, z = (w79_1 : Int32) / (10 : Int32) := ⟨_, rfl⟩
        have h_27 : v_25.toInt = w79_1.toInt / 10 := by rw [e_26]; exact z_divp (k := 10) (by decide) (by decide) (by show (0 : Int) ≤ w79_1.toInt; omega)
        refine k_idiv (v := v_25) C (by decide) e_26.symm dX12_convert_98 ?_
        refine lv_istore_n (lv' := [(1, .int v_25), (0, .ref (ad 0)), (2, .int w79_2), (3, .int w79_3), (4, .int w79_4), (5, .int v_22)]) C.1 C.2.1 dX12_convert_99 rfl hl (by decide) rfl (fun ls hl => ?_)
        have hl : lv_has ls 6 [(0, .ref (ad 0)), (1, .int v_25), (2, .int w79_2), (3, .int w79_3), (4, .int w79_4), (5, .int v_22)] := lv_sub hl [1, 0, 2, 3, 4, 5] rfl
        refine lv_iload C.1 C.2.1 dX12_convert_100 (lv_at hl 4 rfl) ?_
        refine lv_iconst (v := 5) C.1 C.2.1 dX12_convert_102 (by decide) ?_
        refine lv_icmp_ge (tgt := 120) C.1 C.2.1 dX12_convert_103 (by decide) (fun c_28 => ?_) (fun c_28 => ?_)
        · replace c_28 : 5 ≤ w79_4.toInt := i_le c_28
          refine lv_iload_n C.1 C.2.1 dX12_convert_120 rfl (lv_at hl 2 rfl) ?_
          refine lv_iload C.1 C.2.1 dX12_convert_121 (lv_at hl 5 rfl) ?_
          refine lv_bipush (v := 6) C.1 C.2.1 dX12_convert_123 (by decide) ?_
          refine lv_iload C.1 C.2.1 dX12_convert_125 (lv_at hl 4 rfl) ?_
          refine lv_iconst (v := 5) C.1 C.2.1 dX12_convert_127 (by decide) ?_
          obtain ⟨v_29, e_30⟩ : ∃ z, z = (w79_4 : Int32) - (5 : Int32) := ⟨_, rfl⟩
          have h_31 : v_29.toInt = w79_4.toInt - 5 := by rw [e_30]; exact ti_isub (by show (_ : Int) ≤ w79_4.toInt - 5; omega) (by show w79_4.toInt - 5 < (_ : Int); omega)
          refine k_isub (v := v_29) C e_30.symm dX12_convert_128 ?_
          obtain ⟨v_32, e_33⟩ : ∃ z, z = (6 : Int32) * (v_29 : Int32) := ⟨_, rfl⟩
          have h_34 : v_32.toInt = 6 * v_29.toInt := by rw [e_33]; exact ti_mull (k := 6) (by decide) (by omega) (by omega)
          refine k_imul (v := v_32) C e_33.symm dX12_convert_129 ?_
          obtain ⟨v_35, e_36⟩ : ∃ z, z = (v_22 : Int32) <<< ((v_32 : Int32) &&& 31) := ⟨_, rfl⟩
          refine k_ishl (v := v_35) C e_36.symm dX12_convert_130 ?_
          obtain ⟨v_38, e_39⟩ : ∃ z, z = (w79_2 : Int32) ||| (v_35 : Int32) := ⟨_, rfl⟩
          refine k_ior (v := v_38) C e_39.symm dX12_convert_131 ?_
          refine lv_istore_n (lv' := [(2, .int v_38), (0, .ref (ad 0)), (1, .int v_25), (3, .int w79_3), (4, .int w79_4), (5, .int v_22)]) C.1 C.2.1 dX12_convert_132 rfl hl (by decide) rfl (fun ls hl => ?_)
          have hl : lv_has ls 6 [(0, .ref (ad 0)), (1, .int v_25), (2, .int v_38), (3, .int w79_3), (4, .int w79_4), (5, .int v_22)] := lv_sub hl [1, 2, 0, 3, 4, 5] rfl
          exact L_133 t1 v_25 v_38 w79_3 w79_4 v_22 _ _ _ hok hfr ⟨by omega, by omega⟩ ⟨by omega, by omega⟩ ⟨by omega, by omega⟩ ⟨by omega, by omega⟩ ⟨by omega, by omega⟩ (show (1 : Int) ≤ ((t1.1 0 17) : Int32).toInt ∧ ((t1.1 0 17) : Int32).toInt ≤ 63 from ⟨by omega, by omega⟩) (show (10 : Int) - w79_4.toInt < (fuel_79 : Int) + 1 from by omega) hP hD hS (lv_sub hl [0, 1, 2, 3, 4, 5] rfl)
        · replace c_28 : w79_4.toInt < 5 := i_nle c_28
          refine lv_iload_n C.1 C.2.1 dX12_convert_106 rfl (lv_at hl 3 rfl) ?_
          refine lv_iload C.1 C.2.1 dX12_convert_107 (lv_at hl 5 rfl) ?_
          refine lv_bipush (v := 6) C.1 C.2.1 dX12_convert_109 (by decide) ?_
          refine lv_iload C.1 C.2.1 dX12_convert_111 (lv_at hl 4 rfl) ?_
          obtain ⟨v_40, e_41⟩ : ∃ z, z = (6 : Int32) * (w79_4 : Int32) := ⟨_, rfl⟩
          have h_42 : v_40.toInt = 6 * w79_4.toInt := by rw [e_41]; exact ti_mull (k := 6) (by decide) (by omega) (by omega)
          refine k_imul (v := v_40) C e_41.symm dX12_convert_113 ?_
          obtain ⟨v_43, e_44⟩ : ∃ z, z = (v_22 : Int32) <<< ((v_40 : Int32) &&& 31) := ⟨_, rfl⟩
          refine k_ishl (v := v_43) C e_44.symm dX12_convert_114 ?_
          obtain ⟨v_46, e_47⟩ : ∃ z, z = (w79_3 : Int32) ||| (v_43 : Int32) := ⟨_, rfl⟩
          refine k_ior (v := v_46) C e_47.symm dX12_convert_115 ?_
          refine lv_istore_n (lv' := [(3, .int v_46), (0, .ref (ad 0)), (1, .int v_25), (2, .int w79_2), (4, .int w79_4), (5, .int v_22)]) C.1 C.2.1 dX12_convert_116 rfl hl (by decide) rfl (fun ls hl => ?_)
          have hl : lv_has ls 6 [(0, .ref (ad 0)), (1, .int v_25), (2, .int w79_2), (3, .int v_46), (4, .int w79_4), (5, .int v_22)] := lv_sub hl [1, 2, 3, 0, 4, 5] rfl
          refine lv_goto (tgt := 133) C.1 C.2.1 dX12_convert_117 (by decide) ?_
          exact L_133 t1 v_25 w79_2 v_46 w79_4 v_22 _ _ _ hok hfr ⟨by omega, by omega⟩ ⟨by omega, by omega⟩ ⟨by omega, by omega⟩ ⟨by omega, by omega⟩ ⟨by omega, by omega⟩ (show (1 : Int) ≤ ((t1.1 0 17) : Int32).toInt ∧ ((t1.1 0 17) : Int32).toInt ≤ 63 from ⟨by omega, by omega⟩) (show (10 : Int) - w79_4.toInt < (fuel_79 : Int) + 1 from by omega) hP hD hS (lv_sub hl [0, 1, 2, 3, 4, 5] rfl)
  have L_11 : ∀ (fuel_11 : Nat) (t1 : tSt) (w11_1 : Int64) (w11_3 : Int32) (H : Heap) (locs : List Loc) (ls : Array Slot), okM t1 → frI [] t t1 → (1 : Int) ≤ w11_3.toInt ∧ w11_3.toInt ≤ 15 → (0 : Int) ≤ (t1.1 0 17).toInt ∧ (t1.1 0 17).toInt ≤ 0 → (15 : Int) - w11_3.toInt < (fuel_11 : Int) → va_P D vwCl (WM K ad t1) H → va_D A (WM K ad t1) → va_S A s.heap H locs → lv_has ls 6 [(0, .ref (ad 0)), (1, .long w11_1), (3, .int w11_3)] → W p l e (rmD 1 0 0) s m [.ref (ad 0)].toArray below meth c H locs 0 0 (MQ below (QV D K (fun (u : tSt) => okM u ∧ frI [] t u) (fun (u : tSt) => WM K ad u) A) [.ref (ad 0)].toArray s 0 0 A) (F0 m 11 ls []) := by
    intro fuel_11
    induction fuel_11 with
    | zero =>
      intro t1 w11_1 w11_3 H locs ls hok hfr hw11_3 hf11_17 hm11_11 hP hD hS hl
      exact absurd hm11_11 (by omega)
    | succ fuel_11 ih_11 =>
      intro t1 w11_1 w11_3 H locs ls hok hfr hw11_3 hf11_17 hm11_11 hP hD hS hl
      have hm11_11 : (15 : Int) - w11_3.toInt < (fuel_11 : Int) + 1 := by omega
      refine lv_iload_n C.1 C.2.1 dX12_convert_11 rfl (lv_at hl 2 rfl) ?_
      refine lv_bipush (v := 11) C.1 C.2.1 dX12_convert_12 (by decide) ?_
      refine lv_icmp_ge (tgt := 39) C.1 C.2.1 dX12_convert_14 (by decide) (fun c_48 => ?_) (fun c_48 => ?_)
      · replace c_48 : 11 ≤ w11_3.toInt := i_le c_48
        refine lv_aload_n C.1 C.2.1 dX12_convert_39 rfl (lv_at hl 0 rfl) ?_
        refine k_get (v := .ref (ad 3)) C hP 0 rfl rfl inlX12 4 (by decide) m_7_6 rfl dX12_convert_40 ?_
        refine lv_iconst (v := 0) C.1 C.2.1 dX12_convert_43 (by decide) ?_
        refine lv_aload_n C.1 C.2.1 dX12_convert_44 rfl (lv_at hl 0 rfl) ?_
        refine k_get (v := .ref (ad 3)) C hP 0 rfl rfl inlX12 4 (by decide) m_7_6 rfl dX12_convert_45 ?_
        refine lv_iconst (v := 0) C.1 C.2.1 dX12_convert_48 (by decide) ?_
        obtain ⟨v_49, e_50⟩ : ∃ z, z = t1.2.2.1 3 (0 : Int32).toNatClampNeg := ⟨_, rfl⟩
        refine k_ild (v := v_49) C hP 3 rfl (vin (by decide)) e_50.symm dX12_convert_49 ?_
        refine lv_ldc (v := 1073741824) C.1 C.2.1 C.2.2.2.1 (C.2.2.2.2.1 _ m_34_19) dX12_convert_50 ?_
        obtain ⟨v_51, e_52⟩ : ∃ z, z = (v_49 : Int32) &&& (1073741824 : Int32) := ⟨_, rfl⟩
        refine k_iand (v := v_51) C e_52.symm dX12_convert_52 ?_
        refine lv_lload_n C.1 C.2.1 dX12_convert_53 rfl (lv_at hl 1 rfl) ?_
        refine lv_ldc2 (v := 1073741823) C.1 C.2.1 C.2.2.2.1 (C.2.2.2.2.1 _ m_36_3) dX12_convert_54 ?_
        refine lv_land C.1 C.2.1 dX12_convert_57 ?_
        obtain ⟨v_54, e_55⟩ : ∃ z, z = ((w11_1 &&& 1073741823)).toInt32 := ⟨_, rfl⟩
        refine lv_l2i (v := v_54) C.1 C.2.1 dX12_convert_58 e_55.symm ?_
        obtain ⟨v_56, e_57⟩ : ∃ z, z = (v_51 : Int32) ||| (v_54 : Int32) := ⟨_, rfl⟩
        refine k_ior (v := v_56) C e_57.symm dX12_convert_59 ?_
        refine k_ist (ws' := WM K ad (uB t1 3 (0 : Int32).toNatClampNeg v_56)) (x' := v_56) C hP hD hS 3 rfl (vin (by decide)) rfl rfl rfl dX12_convert_60 (fun H locs hP hD hS => ?_)
        have hok : okM (uB t1 3 (0 : Int32).toNatClampNeg v_56) := ⟨hok.1, okB_B hok.2 3 _ v_56 (show (-2147483648 : Int) ≤ (v_56 : Int32).toInt ∧ (v_56 : Int32).toInt ≤ 2147483647 from (i_rng _))⟩
        have hfr : frI [] t (uB t1 3 (0 : Int32).toNatClampNeg v_56) := hfr
        exact g_vret C hr hlocks hP hD hS (uB t1 3 (0 : Int32).toNatClampNeg v_56) rfl ⟨hok, hfr⟩ (Nat.le_of_ble_eq_true rfl) (Nat.le_of_ble_eq_true rfl) dX12_convert_61
      · replace c_48 : w11_3.toInt < 11 := i_nle c_48
        refine lv_ldc2 (v := 10) C.1 C.2.1 C.2.2.2.1 (C.2.2.2.2.1 _ m_36_4) dX12_convert_17 ?_
        refine lv_lload_n C.1 C.2.1 dX12_convert_20 rfl (lv_at hl 1 rfl) ?_
        obtain ⟨v_58, e_59⟩ : ∃ z, z = (10 : Int64) * (w11_1 : Int64) := ⟨_, rfl⟩
        refine k_lmul (v := v_58) C e_59.symm dX12_convert_21 ?_
        refine lv_aload_n C.1 C.2.1 dX12_convert_22 rfl (lv_at hl 0 rfl) ?_
        refine lv_iload_n C.1 C.2.1 dX12_convert_23 rfl (lv_at hl 2 rfl) ?_
        refine g_Vi (As := [.int w11_3]) (rest := [.long v_58]) C hP hD hS hA (T_X12_byteAt l D K ad t1 hok (w11_3) (show (1 : Int) ≤ (w11_3 : Int32).toInt ∧ (w11_3 : Int32).toInt ≤ 2147483647 from ⟨by omega, by omega⟩)) X0_ok trivial (uwV m_62_6 m_62_7 m_62_8 m_1_5 m_62_9) (hdV 1 (by decide +kernel) rfl) ⟨Nat.le_of_ble_eq_true rfl, Nat.le_of_ble_eq_true rfl⟩ rfl rfl (ci := 11) (q0 := 0) rfl rfl rfl hl.1 (Nat.le_of_ble_eq_true rfl) dX12_convert_24 ⟨Nat.le_of_ble_eq_true rfl, Nat.le_of_ble_eq_true rfl⟩ (fun r_61 t_60 H locs hw hP hD hS => ?_)
        obtain ⟨hok, f_62, h_63, h_64⟩ := hw
        have hfr : frI [] t t_60 := frI_tr (m1 := []) hfr f_62 (by decide)
        have e_65 : (t1.1 0 17) = t_60.1 0 17 := (f_62 0 17 (by decide)).symm
        refine lv_bipush (v := 10) C.1 C.2.1 dX12_convert_27 (by decide) ?_
        obtain ⟨v_66, e_67⟩ : ∃ z, z = (r_61 : Int32) - (r_61 : Int32) / (10 : Int32) * (10 : Int32) := ⟨_, rfl⟩
        have h_68 : v_66.toInt = r_61.toInt % 10 := by rw [e_67]; exact z_remp (k := 10) (by decide) (by show (0 : Int) ≤ r_61.toInt; omega)
        refine k_irem (v := v_66) C (by decide) e_67.symm dX12_convert_29 ?_
        refine lv_i2l (v := (v_66.toInt64)) C.1 C.2.1 dX12_convert_30 rfl ?_
        obtain ⟨v_69, e_70⟩ : ∃ z, z = (v_58 : Int64) + ((v_66.toInt64) : Int64) := ⟨_, rfl⟩
        refine k_ladd (v := v_69) C e_70.symm dX12_convert_31 ?_
        refine lv_lstore_n (lv' := [(1, .long v_69), (0, .ref (ad 0)), (3, .int w11_3)]) C.1 C.2.1 dX12_convert_32 rfl hl (by decide) rfl (fun ls hl => ?_)
        have hl : lv_has ls 6 [(0, .ref (ad 0)), (1, .long v_69), (3, .int w11_3)] := lv_sub hl [1, 0, 2] rfl
        obtain ⟨v_71, e_72⟩ : ∃ z, z = w11_3 + 1 := ⟨_, rfl⟩
        have h_73 : v_71.toInt = w11_3.toInt + 1 := by rw [e_72]; exact ti_iadd (by show (_ : Int) ≤ w11_3.toInt + 1; omega) (by show w11_3.toInt + 1 < (_ : Int); omega)
        refine lv_iinc (v := v_71) (lv' := [(3, .int v_71), (0, .ref (ad 0)), (1, .long v_69)]) C.1 C.2.1 dX12_convert_33 hl (k := 2) rfl e_72.symm (by decide) rfl (fun ls hl => ?_)
        have hl : lv_has ls 6 [(0, .ref (ad 0)), (1, .long v_69), (3, .int v_71)] := lv_sub hl [1, 2, 0] rfl
        refine lv_goto (tgt := 11) C.1 C.2.1 dX12_convert_36 (by decide) ?_
        exact ih_11 t_60 v_69 v_71 _ _ _ hok hfr ⟨by omega, by omega⟩ (show (0 : Int) ≤ ((t1.1 0 17) : Int32).toInt ∧ ((t1.1 0 17) : Int32).toInt ≤ 0 from ⟨by omega, by omega⟩) (show (15 : Int) - v_71.toInt < (fuel_11 : Int) from by omega) hP hD hS (lv_sub hl [0, 1, 2] rfl)
  refine lv_aload_n C.1 C.2.1 dX12_convert_0 rfl (lv_at hl 0 rfl) ?_
  obtain ⟨v_74, e_75⟩ : ∃ z, z = t.1 0 17 := ⟨_, rfl⟩
  have h_76 : (0 : Int) ≤ v_74.toInt ∧ v_74.toInt ≤ 63 := by rw [e_75]; exact hok.1 0 17
  have h_77 : v_74.toInt = (t.1 0 17).toInt := congrArg Int32.toInt e_75
  refine k_get (v := .int v_74) C hP 0 rfl rfl inlX12 17 (by decide) m_57_4 (by rw [e_75]; rfl) dX12_convert_1 ?_
  refine lv_if_ne (tgt := 62) C.1 C.2.1 dX12_convert_4 (by decide) (fun c_78 => ?_) (fun c_78 => ?_)
  · replace c_78 : ¬ v_74.toInt = 0 := i_ne c_78
    refine lv_aload_n C.1 C.2.1 dX12_convert_62 rfl (lv_at hl 0 rfl) ?_
    refine k_get (v := .ref (ad 3)) C hP 0 rfl rfl inlX12 4 (by decide) m_7_6 rfl dX12_convert_63 ?_
    refine lv_iconst (v := 0) C.1 C.2.1 dX12_convert_66 (by decide) ?_
    obtain ⟨v_79, e_80⟩ : ∃ z, z = t.2.2.1 3 (0 : Int32).toNatClampNeg := ⟨_, rfl⟩
    refine k_ild (v := v_79) C hP 3 rfl (vin (by decide)) e_80.symm dX12_convert_67 ?_
    refine lv_ldc (v := 1073741823) C.1 C.2.1 C.2.2.2.1 (C.2.2.2.2.1 _ m_36_12) dX12_convert_68 ?_
    obtain ⟨v_81, e_82⟩ : ∃ z, z = (v_79 : Int32) &&& (1073741823 : Int32) := ⟨_, rfl⟩
    have h_83 : v_81.toInt = v_79.toInt % 2 ^ 30 := by rw [e_82]; exact Jvm.Kit.i32_mask _ _ (k := 30) (by decide) (by decide)
    refine k_iand (v := v_81) C e_82.symm dX12_convert_70 ?_
    refine lv_istore_n (lv' := [(1, .int v_81), (0, .ref (ad 0))]) C.1 C.2.1 dX12_convert_71 rfl hl (by decide) rfl (fun ls hl => ?_)
    have hl : lv_has ls 6 [(0, .ref (ad 0)), (1, .int v_81)] := lv_sub hl [1, 0] rfl
    refine lv_iconst (v := 0) C.1 C.2.1 dX12_convert_72 (by decide) ?_
    refine lv_istore_n (lv' := [(2, .int 0), (0, .ref (ad 0)), (1, .int v_81)]) C.1 C.2.1 dX12_convert_73 rfl hl (by decide) rfl (fun ls hl => ?_)
    have hl : lv_has ls 6 [(0, .ref (ad 0)), (1, .int v_81), (2, .int 0)] := lv_sub hl [1, 2, 0] rfl
    refine lv_iconst (v := 0) C.1 C.2.1 dX12_convert_74 (by decide) ?_
    refine lv_istore_n (lv' := [(3, .int 0), (0, .ref (ad 0)), (1, .int v_81), (2, .int 0)]) C.1 C.2.1 dX12_convert_75 rfl hl (by decide) rfl (fun ls hl => ?_)
    have hl : lv_has ls 6 [(0, .ref (ad 0)), (1, .int v_81), (2, .int 0), (3, .int 0)] := lv_sub hl [1, 2, 3, 0] rfl
    refine lv_iconst (v := 0) C.1 C.2.1 dX12_convert_76 (by decide) ?_
    refine lv_istore (lv' := [(4, .int 0), (0, .ref (ad 0)), (1, .int v_81), (2, .int 0), (3, .int 0)]) C.1 C.2.1 dX12_convert_77 hl (by decide) rfl (fun ls hl => ?_)
    have hl : lv_has ls 6 [(0, .ref (ad 0)), (1, .int v_81), (2, .int 0), (3, .int 0), (4, .int 0)] := lv_sub hl [1, 2, 3, 4, 0] rfl
    exact L_79 11 t v_81 0 0 0 _ _ _ hok hfr ⟨by omega, by omega⟩ ⟨by decide, by decide⟩ ⟨by decide, by decide⟩ ⟨by decide, by decide⟩ (show (1 : Int) ≤ (v_74 : Int32).toInt ∧ (v_74 : Int32).toInt ≤ 63 from ⟨by omega, by omega⟩) (show (10 : Int) - 0 < ((11 : Nat) : Int) from by omega) hP hD hS (lv_sub hl [0, 1, 2, 3, 4] rfl)
  · replace c_78 : v_74.toInt = 0 := i_eq c_78
    refine lv_lconst (v := 0) C.1 C.2.1 dX12_convert_7 (by decide) ?_
    refine lv_lstore_n (lv' := [(1, .long 0), (0, .ref (ad 0))]) C.1 C.2.1 dX12_convert_8 rfl hl (by decide) rfl (fun ls hl => ?_)
    have hl : lv_has ls 6 [(0, .ref (ad 0)), (1, .long 0)] := lv_sub hl [1, 0] rfl
    refine lv_iconst (v := 1) C.1 C.2.1 dX12_convert_9 (by decide) ?_
    refine lv_istore_n (lv' := [(3, .int 1), (0, .ref (ad 0)), (1, .long 0)]) C.1 C.2.1 dX12_convert_10 rfl hl (by decide) rfl (fun ls hl => ?_)
    have hl : lv_has ls 6 [(0, .ref (ad 0)), (1, .long 0), (3, .int 1)] := lv_sub hl [1, 2, 0] rfl
    exact L_11 15 t 0 1 _ _ _ hok hfr ⟨by decide, by decide⟩ (show (0 : Int) ≤ (v_74 : Int32).toInt ∧ (v_74 : Int32).toInt ≤ 0 from ⟨by omega, by omega⟩) (show (15 : Int) - 1 < ((15 : Nat) : Int) from by omega) hP hD hS (lv_sub hl [0, 1, 2] rfl)
