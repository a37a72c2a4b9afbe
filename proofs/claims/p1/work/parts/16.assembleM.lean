theorem dX12_copyText_0 : decode cX12_copyText 0 = .ok (.iconst 0, 1) := by decide +kernel
theorem dX12_copyText_1 : decode cX12_copyText 1 = .ok (.istore_n 3, 1) := by decide +kernel
theorem dX12_copyText_2 : decode cX12_copyText 2 = .ok (.iload_n 3, 1) := by decide +kernel
theorem dX12_copyText_22 : decode cX12_copyText 22 = .ok (.aload_n 0, 1) := by decide +kernel
theorem dX12_copyText_23 : decode cX12_copyText 23 = .ok (.iload_n 2, 1) := by decide +kernel
theorem dX12_copyText_24 : decode cX12_copyText 24 = .ok (.putfield 433, 3) := by decide +kernel
theorem dX12_copyText_27 : decode cX12_copyText 27 = .ok (.return_, 1) := by decide +kernel
theorem dX12_copyText_3 : decode cX12_copyText 3 = .ok (.iload_n 2, 1) := by decide +kernel
theorem dX12_copyText_4 : decode cX12_copyText 4 = .ok (.if_icmp .ge 18, 3) := by decide +kernel
theorem dX12_clearMemory_0 : decode cX12_clearMemory 0 = .ok (.iconst 0, 1) := by decide +kernel
theorem dX12_clearMemory_1 : decode cX12_clearMemory 1 = .ok (.istore_n 1, 1) := by decide +kernel
theorem dX12_clearMemory_10 : decode cX12_clearMemory 10 = .ok (.getfield 13, 3) := by decide +kernel
theorem dX12_clearMemory_13 : decode cX12_clearMemory 13 = .ok (.iload_n 1, 1) := by decide +kernel
theorem dX12_clearMemory_14 : decode cX12_clearMemory 14 = .ok (.iconst 0, 1) := by decide +kernel
theorem dX12_clearMemory_15 : decode cX12_clearMemory 15 = .ok (.iastore, 1) := by decide +kernel
theorem dX12_clearMemory_16 : decode cX12_clearMemory 16 = .ok (.iinc 1 1, 3) := by decide +kernel
theorem dX12_clearMemory_19 : decode cX12_clearMemory 19 = .ok (.goto (-17), 3) := by decide +kernel
theorem dX12_clearMemory_2 : decode cX12_clearMemory 2 = .ok (.iload_n 1, 1) := by decide +kernel
theorem dX12_clearMemory_22 : decode cX12_clearMemory 22 = .ok (.return_, 1) := by decide +kernel
theorem dX12_clearMemory_3 : decode cX12_clearMemory 3 = .ok (.sipush 7999, 3) := by decide +kernel
theorem dX12_clearMemory_6 : decode cX12_clearMemory 6 = .ok (.if_icmp .ge 16, 3) := by decide +kernel
theorem dX12_clearMemory_9 : decode cX12_clearMemory 9 = .ok (.aload_n 0, 1) := by decide +kernel
theorem dX12_freeUnits_0 : decode cX12_freeUnits 0 = .ok (.iconst 0, 1) := by decide +kernel
theorem dX12_freeUnits_1 : decode cX12_freeUnits 1 = .ok (.istore_n 1, 1) := by decide +kernel
theorem dX12_freeUnits_12 : decode cX12_freeUnits 12 = .ok (.iload_n 1, 1) := by decide +kernel
theorem dX12_freeUnits_13 : decode cX12_freeUnits 13 = .ok (.lconst 0, 1) := by decide +kernel
theorem dX12_freeUnits_14 : decode cX12_freeUnits 14 = .ok (.lastore, 1) := by decide +kernel
theorem dX12_freeUnits_15 : decode cX12_freeUnits 15 = .ok (.aload_n 0, 1) := by decide +kernel
theorem dX12_freeUnits_16 : decode cX12_freeUnits 16 = .ok (.getfield 31, 3) := by decide +kernel
theorem dX12_freeUnits_19 : decode cX12_freeUnits 19 = .ok (.iload_n 1, 1) := by decide +kernel
theorem dX12_freeUnits_2 : decode cX12_freeUnits 2 = .ok (.iload_n 1, 1) := by decide +kernel
theorem dX12_freeUnits_20 : decode cX12_freeUnits 20 = .ok (.iconst 0, 1) := by decide +kernel
theorem dX12_freeUnits_21 : decode cX12_freeUnits 21 = .ok (.bastore, 1) := by decide +kernel
theorem dX12_freeUnits_22 : decode cX12_freeUnits 22 = .ok (.iinc 1 1, 3) := by decide +kernel
theorem dX12_freeUnits_25 : decode cX12_freeUnits 25 = .ok (.goto (-23), 3) := by decide +kernel
theorem dX12_freeUnits_28 : decode cX12_freeUnits 28 = .ok (.return_, 1) := by decide +kernel
theorem dX12_freeUnits_3 : decode cX12_freeUnits 3 = .ok (.bipush 20, 2) := by decide +kernel
theorem dX12_freeUnits_5 : decode cX12_freeUnits 5 = .ok (.if_icmp .ge 23, 3) := by decide +kernel
theorem dX12_freeUnits_8 : decode cX12_freeUnits 8 = .ok (.aload_n 0, 1) := by decide +kernel
theorem dX12_freeUnits_9 : decode cX12_freeUnits 9 = .ok (.getfield 27, 3) := by decide +kernel
theorem dX12_clearMachine_0 : decode cX12_clearMachine 0 = .ok (.aload_n 0, 1) := by decide +kernel
theorem dX12_clearMachine_1 : decode cX12_clearMachine 1 = .ok (.invokevirtual 627, 3) := by decide +kernel
theorem dX12_clearMachine_12 : decode cX12_clearMachine 12 = .ok (.aload_n 0, 1) := by decide +kernel
theorem dX12_clearMachine_13 : decode cX12_clearMachine 13 = .ok (.getfield 17, 3) := by decide +kernel
theorem dX12_clearMachine_16 : decode cX12_clearMachine 16 = .ok (.iload_n 1, 1) := by decide +kernel
theorem dX12_clearMachine_17 : decode cX12_clearMachine 17 = .ok (.iconst 0, 1) := by decide +kernel
theorem dX12_clearMachine_18 : decode cX12_clearMachine 18 = .ok (.iastore, 1) := by decide +kernel
theorem dX12_clearMachine_19 : decode cX12_clearMachine 19 = .ok (.iinc 1 1, 3) := by decide +kernel
theorem dX12_clearMachine_22 : decode cX12_clearMachine 22 = .ok (.goto (-16), 3) := by decide +kernel
theorem dX12_clearMachine_25 : decode cX12_clearMachine 25 = .ok (.aload_n 0, 1) := by decide +kernel
theorem dX12_clearMachine_26 : decode cX12_clearMachine 26 = .ok (.iconst 0, 1) := by decide +kernel
theorem dX12_clearMachine_27 : decode cX12_clearMachine 27 = .ok (.putfield 314, 3) := by decide +kernel
theorem dX12_clearMachine_30 : decode cX12_clearMachine 30 = .ok (.aload_n 0, 1) := by decide +kernel
theorem dX12_clearMachine_31 : decode cX12_clearMachine 31 = .ok (.iconst 1, 1) := by decide +kernel
theorem dX12_clearMachine_32 : decode cX12_clearMachine 32 = .ok (.putfield 20, 3) := by decide +kernel
theorem dX12_clearMachine_35 : decode cX12_clearMachine 35 = .ok (.aload_n 0, 1) := by decide +kernel
theorem dX12_clearMachine_36 : decode cX12_clearMachine 36 = .ok (.iconst 0, 1) := by decide +kernel
theorem dX12_clearMachine_37 : decode cX12_clearMachine 37 = .ok (.putfield 378, 3) := by decide +kernel
theorem dX12_clearMachine_4 : decode cX12_clearMachine 4 = .ok (.iconst 0, 1) := by decide +kernel
theorem dX12_clearMachine_40 : decode cX12_clearMachine 40 = .ok (.aload_n 0, 1) := by decide +kernel
theorem dX12_clearMachine_41 : decode cX12_clearMachine 41 = .ok (.lconst 0, 1) := by decide +kernel
theorem dX12_clearMachine_42 : decode cX12_clearMachine 42 = .ok (.putfield 272, 3) := by decide +kernel
theorem dX12_clearMachine_45 : decode cX12_clearMachine 45 = .ok (.aload_n 0, 1) := by decide +kernel
theorem dX12_clearMachine_46 : decode cX12_clearMachine 46 = .ok (.bipush 9, 2) := by decide +kernel
theorem dX12_clearMachine_48 : decode cX12_clearMachine 48 = .ok (.putfield 24, 3) := by decide +kernel
theorem dX12_clearMachine_5 : decode cX12_clearMachine 5 = .ok (.istore_n 1, 1) := by decide +kernel
theorem dX12_clearMachine_51 : decode cX12_clearMachine 51 = .ok (.aload_n 0, 1) := by decide +kernel
theorem dX12_clearMachine_52 : decode cX12_clearMachine 52 = .ok (.iconst 0, 1) := by decide +kernel
theorem dX12_clearMachine_53 : decode cX12_clearMachine 53 = .ok (.putfield 241, 3) := by decide +kernel
theorem dX12_clearMachine_56 : decode cX12_clearMachine 56 = .ok (.aload_n 0, 1) := by decide +kernel
theorem dX12_clearMachine_57 : decode cX12_clearMachine 57 = .ok (.iconst 0, 1) := by decide +kernel
theorem dX12_clearMachine_58 : decode cX12_clearMachine 58 = .ok (.putfield 238, 3) := by decide +kernel
theorem dX12_clearMachine_6 : decode cX12_clearMachine 6 = .ok (.iload_n 1, 1) := by decide +kernel
theorem dX12_clearMachine_61 : decode cX12_clearMachine 61 = .ok (.aload_n 0, 1) := by decide +kernel
theorem dX12_clearMachine_62 : decode cX12_clearMachine 62 = .ok (.iconst 0, 1) := by decide +kernel
theorem dX12_clearMachine_63 : decode cX12_clearMachine 63 = .ok (.putfield 235, 3) := by decide +kernel
theorem dX12_clearMachine_66 : decode cX12_clearMachine 66 = .ok (.aload_n 0, 1) := by decide +kernel
theorem dX12_clearMachine_67 : decode cX12_clearMachine 67 = .ok (.iconst 0, 1) := by decide +kernel
theorem dX12_clearMachine_68 : decode cX12_clearMachine 68 = .ok (.putfield 415, 3) := by decide +kernel
theorem dX12_clearMachine_7 : decode cX12_clearMachine 7 = .ok (.bipush 9, 2) := by decide +kernel
theorem dX12_clearMachine_71 : decode cX12_clearMachine 71 = .ok (.aload_n 0, 1) := by decide +kernel
theorem dX12_clearMachine_72 : decode cX12_clearMachine 72 = .ok (.invokevirtual 630, 3) := by decide +kernel
theorem dX12_clearMachine_75 : decode cX12_clearMachine 75 = .ok (.return_, 1) := by decide +kernel
theorem dX12_clearMachine_9 : decode cX12_clearMachine 9 = .ok (.if_icmp .ge 16, 3) := by decide +kernel
theorem dX12_findLines_0 : decode cX12_findLines 0 = .ok (.aload_n 0, 1) := by decide +kernel
theorem dX12_findLines_1 : decode cX12_findLines 1 = .ok (.iconst 0, 1) := by decide +kernel
theorem dX12_findLines_12 : decode cX12_findLines 12 = .ok (.if_icmp .ge 59, 3) := by decide +kernel
theorem dX12_findLines_2 : decode cX12_findLines 2 = .ok (.putfield 436, 3) := by decide +kernel
theorem dX12_findLines_5 : decode cX12_findLines 5 = .ok (.iconst 0, 1) := by decide +kernel
theorem dX12_findLines_6 : decode cX12_findLines 6 = .ok (.istore_n 1, 1) := by decide +kernel
theorem dX12_findLines_7 : decode cX12_findLines 7 = .ok (.iload_n 1, 1) := by decide +kernel
theorem dX12_findLines_71 : decode cX12_findLines 71 = .ok (.return_, 1) := by decide +kernel
theorem dX12_findLines_8 : decode cX12_findLines 8 = .ok (.aload_n 0, 1) := by decide +kernel
theorem dX12_findLines_9 : decode cX12_findLines 9 = .ok (.getfield 433, 3) := by decide +kernel
theorem dX12_clearAssembling_0 : decode cX12_clearAssembling 0 = .ok (.aload_n 0, 1) := by decide +kernel
theorem dX12_clearAssembling_1 : decode cX12_clearAssembling 1 = .ok (.iconst 0, 1) := by decide +kernel
theorem dX12_clearAssembling_10 : decode cX12_clearAssembling 10 = .ok (.aload_n 0, 1) := by decide +kernel
theorem dX12_clearAssembling_11 : decode cX12_clearAssembling 11 = .ok (.iconst 0, 1) := by decide +kernel
theorem dX12_clearAssembling_12 : decode cX12_clearAssembling 12 = .ok (.putfield 494, 3) := by decide +kernel
theorem dX12_clearAssembling_15 : decode cX12_clearAssembling 15 = .ok (.aload_n 0, 1) := by decide +kernel
theorem dX12_clearAssembling_16 : decode cX12_clearAssembling 16 = .ok (.iconst 0, 1) := by decide +kernel
theorem dX12_clearAssembling_17 : decode cX12_clearAssembling 17 = .ok (.putfield 569, 3) := by decide +kernel
theorem dX12_clearAssembling_2 : decode cX12_clearAssembling 2 = .ok (.putfield 633, 3) := by decide +kernel
theorem dX12_clearAssembling_20 : decode cX12_clearAssembling 20 = .ok (.aload_n 0, 1) := by decide +kernel
theorem dX12_clearAssembling_21 : decode cX12_clearAssembling 21 = .ok (.iconst 0, 1) := by decide +kernel
theorem dX12_clearAssembling_22 : decode cX12_clearAssembling 22 = .ok (.putfield 602, 3) := by decide +kernel
theorem dX12_clearAssembling_25 : decode cX12_clearAssembling 25 = .ok (.aload_n 0, 1) := by decide +kernel
theorem dX12_clearAssembling_26 : decode cX12_clearAssembling 26 = .ok (.iconst 0, 1) := by decide +kernel
theorem dX12_clearAssembling_27 : decode cX12_clearAssembling 27 = .ok (.putfield 463, 3) := by decide +kernel
theorem dX12_clearAssembling_30 : decode cX12_clearAssembling 30 = .ok (.aload_n 0, 1) := by decide +kernel
theorem dX12_clearAssembling_31 : decode cX12_clearAssembling 31 = .ok (.iconst 0, 1) := by decide +kernel
theorem dX12_clearAssembling_32 : decode cX12_clearAssembling 32 = .ok (.putfield 572, 3) := by decide +kernel
theorem dX12_clearAssembling_35 : decode cX12_clearAssembling 35 = .ok (.iconst 0, 1) := by decide +kernel
theorem dX12_clearAssembling_36 : decode cX12_clearAssembling 36 = .ok (.istore_n 1, 1) := by decide +kernel
theorem dX12_clearAssembling_37 : decode cX12_clearAssembling 37 = .ok (.iload_n 1, 1) := by decide +kernel
theorem dX12_clearAssembling_38 : decode cX12_clearAssembling 38 = .ok (.sipush 7999, 3) := by decide +kernel
theorem dX12_clearAssembling_41 : decode cX12_clearAssembling 41 = .ok (.if_icmp .ge 16, 3) := by decide +kernel
theorem dX12_clearAssembling_44 : decode cX12_clearAssembling 44 = .ok (.aload_n 0, 1) := by decide +kernel
theorem dX12_clearAssembling_45 : decode cX12_clearAssembling 45 = .ok (.getfield 83, 3) := by decide +kernel
theorem dX12_clearAssembling_48 : decode cX12_clearAssembling 48 = .ok (.iload_n 1, 1) := by decide +kernel
theorem dX12_clearAssembling_49 : decode cX12_clearAssembling 49 = .ok (.iconst 0, 1) := by decide +kernel
theorem dX12_clearAssembling_5 : decode cX12_clearAssembling 5 = .ok (.aload_n 0, 1) := by decide +kernel
theorem dX12_clearAssembling_50 : decode cX12_clearAssembling 50 = .ok (.bastore, 1) := by decide +kernel
theorem dX12_clearAssembling_51 : decode cX12_clearAssembling 51 = .ok (.iinc 1 1, 3) := by decide +kernel
theorem dX12_clearAssembling_54 : decode cX12_clearAssembling 54 = .ok (.goto (-17), 3) := by decide +kernel
theorem dX12_clearAssembling_57 : decode cX12_clearAssembling 57 = .ok (.iconst 0, 1) := by decide +kernel
theorem dX12_clearAssembling_58 : decode cX12_clearAssembling 58 = .ok (.istore_n 1, 1) := by decide +kernel
theorem dX12_clearAssembling_59 : decode cX12_clearAssembling 59 = .ok (.iload_n 1, 1) := by decide +kernel
theorem dX12_clearAssembling_6 : decode cX12_clearAssembling 6 = .ok (.iconst 0, 1) := by decide +kernel
theorem dX12_clearAssembling_60 : decode cX12_clearAssembling 60 = .ok (.bipush 10, 2) := by decide +kernel
theorem dX12_clearAssembling_62 : decode cX12_clearAssembling 62 = .ok (.if_icmp .ge 16, 3) := by decide +kernel
theorem dX12_clearAssembling_65 : decode cX12_clearAssembling 65 = .ok (.aload_n 0, 1) := by decide +kernel
theorem dX12_clearAssembling_66 : decode cX12_clearAssembling 66 = .ok (.getfield 107, 3) := by decide +kernel
theorem dX12_clearAssembling_69 : decode cX12_clearAssembling 69 = .ok (.iload_n 1, 1) := by decide +kernel
theorem dX12_clearAssembling_7 : decode cX12_clearAssembling 7 = .ok (.putfield 469, 3) := by decide +kernel
theorem dX12_clearAssembling_70 : decode cX12_clearAssembling 70 = .ok (.iconst 0, 1) := by decide +kernel
theorem dX12_clearAssembling_71 : decode cX12_clearAssembling 71 = .ok (.bastore, 1) := by decide +kernel
theorem dX12_clearAssembling_72 : decode cX12_clearAssembling 72 = .ok (.iinc 1 1, 3) := by decide +kernel
theorem dX12_clearAssembling_75 : decode cX12_clearAssembling 75 = .ok (.goto (-16), 3) := by decide +kernel
theorem dX12_clearAssembling_78 : decode cX12_clearAssembling 78 = .ok (.aload_n 0, 1) := by decide +kernel
theorem dX12_clearAssembling_79 : decode cX12_clearAssembling 79 = .ok (.invokevirtual 636, 3) := by decide +kernel
theorem dX12_clearAssembling_82 : decode cX12_clearAssembling 82 = .ok (.return_, 1) := by decide +kernel
theorem dX12_fail_0 : decode cX12_fail 0 = .ok (.aload_n 0, 1) := by decide +kernel
theorem dX12_fail_1 : decode cX12_fail 1 = .ok (.getfield 469, 3) := by decide +kernel
theorem dX12_fail_12 : decode cX12_fail 12 = .ok (.return_, 1) := by decide +kernel
theorem dX12_fail_4 : decode cX12_fail 4 = .ok (.ifCond .ne 8, 3) := by decide +kernel
theorem dX12_fail_7 : decode cX12_fail 7 = .ok (.aload_n 0, 1) := by decide +kernel
theorem dX12_fail_8 : decode cX12_fail 8 = .ok (.iload_n 1, 1) := by decide +kernel
theorem dX12_fail_9 : decode cX12_fail 9 = .ok (.putfield 469, 3) := by decide +kernel
theorem dX12_assembleText_0 : decode cX12_assembleText 0 = .ok (.aload_n 0, 1) := by decide +kernel
theorem dX12_assembleText_1 : decode cX12_assembleText 1 = .ok (.invokevirtual 639, 3) := by decide +kernel
theorem dX12_assembleText_10 : decode cX12_assembleText 10 = .ok (.aload_n 0, 1) := by decide +kernel
theorem dX12_assembleText_102 : decode cX12_assembleText 102 = .ok (.aload_n 0, 1) := by decide +kernel
theorem dX12_assembleText_103 : decode cX12_assembleText 103 = .ok (.getfield 469, 3) := by decide +kernel
theorem dX12_assembleText_106 : decode cX12_assembleText 106 = .ok (.ifCond .le 7, 3) := by decide +kernel
theorem dX12_assembleText_109 : decode cX12_assembleText 109 = .ok (.aload_n 0, 1) := by decide +kernel
theorem dX12_assembleText_11 : decode cX12_assembleText 11 = .ok (.iconst 0, 1) := by decide +kernel
theorem dX12_assembleText_110 : decode cX12_assembleText 110 = .ok (.invokevirtual 627, 3) := by decide +kernel
theorem dX12_assembleText_113 : decode cX12_assembleText 113 = .ok (.aload_n 0, 1) := by decide +kernel
theorem dX12_assembleText_114 : decode cX12_assembleText 114 = .ok (.aload_n 0, 1) := by decide +kernel
theorem dX12_assembleText_115 : decode cX12_assembleText 115 = .ok (.getfield 469, 3) := by decide +kernel
theorem dX12_assembleText_118 : decode cX12_assembleText 118 = .ok (.ifCond .ne 7, 3) := by decide +kernel
theorem dX12_assembleText_12 : decode cX12_assembleText 12 = .ok (.putfield 443, 3) := by decide +kernel
theorem dX12_assembleText_125 : decode cX12_assembleText 125 = .ok (.iconst 0, 1) := by decide +kernel
theorem dX12_assembleText_126 : decode cX12_assembleText 126 = .ok (.putfield 633, 3) := by decide +kernel
theorem dX12_assembleText_129 : decode cX12_assembleText 129 = .ok (.aload_n 0, 1) := by decide +kernel
theorem dX12_assembleText_130 : decode cX12_assembleText 130 = .ok (.getfield 633, 3) := by decide +kernel
theorem dX12_assembleText_133 : decode cX12_assembleText 133 = .ok (.ireturn, 1) := by decide +kernel
theorem dX12_assembleText_15 : decode cX12_assembleText 15 = .ok (.aload_n 0, 1) := by decide +kernel
theorem dX12_assembleText_16 : decode cX12_assembleText 16 = .ok (.getfield 443, 3) := by decide +kernel
theorem dX12_assembleText_19 : decode cX12_assembleText 19 = .ok (.aload_n 0, 1) := by decide +kernel
theorem dX12_assembleText_20 : decode cX12_assembleText 20 = .ok (.getfield 436, 3) := by decide +kernel
theorem dX12_assembleText_23 : decode cX12_assembleText 23 = .ok (.if_icmp .ge 43, 3) := by decide +kernel
theorem dX12_assembleText_4 : decode cX12_assembleText 4 = .ok (.aload_n 0, 1) := by decide +kernel
theorem dX12_assembleText_5 : decode cX12_assembleText 5 = .ok (.invokevirtual 642, 3) := by decide +kernel
theorem dX12_assembleText_66 : decode cX12_assembleText 66 = .ok (.iload_n 1, 1) := by decide +kernel
theorem dX12_assembleText_67 : decode cX12_assembleText 67 = .ok (.ifCond .ne 9, 3) := by decide +kernel
theorem dX12_assembleText_70 : decode cX12_assembleText 70 = .ok (.aload_n 0, 1) := by decide +kernel
theorem dX12_assembleText_71 : decode cX12_assembleText 71 = .ok (.bipush 7, 2) := by decide +kernel
theorem dX12_assembleText_73 : decode cX12_assembleText 73 = .ok (.invokevirtual 478, 3) := by decide +kernel
theorem dX12_assembleText_76 : decode cX12_assembleText 76 = .ok (.aload_n 0, 1) := by decide +kernel
theorem dX12_assembleText_77 : decode cX12_assembleText 77 = .ok (.aload_n 0, 1) := by decide +kernel
theorem dX12_assembleText_78 : decode cX12_assembleText 78 = .ok (.getfield 469, 3) := by decide +kernel
theorem dX12_assembleText_8 : decode cX12_assembleText 8 = .ok (.iconst 0, 1) := by decide +kernel
theorem dX12_assembleText_81 : decode cX12_assembleText 81 = .ok (.putfield 648, 3) := by decide +kernel
theorem dX12_assembleText_84 : decode cX12_assembleText 84 = .ok (.aload_n 0, 1) := by decide +kernel
theorem dX12_assembleText_85 : decode cX12_assembleText 85 = .ok (.aload_n 0, 1) := by decide +kernel
theorem dX12_assembleText_86 : decode cX12_assembleText 86 = .ok (.getfield 443, 3) := by decide +kernel
theorem dX12_assembleText_89 : decode cX12_assembleText 89 = .ok (.iconst 1, 1) := by decide +kernel
theorem dX12_assembleText_9 : decode cX12_assembleText 9 = .ok (.istore_n 1, 1) := by decide +kernel
theorem dX12_assembleText_90 : decode cX12_assembleText 90 = .ok (.iadd, 1) := by decide +kernel
theorem dX12_assembleText_91 : decode cX12_assembleText 91 = .ok (.putfield 651, 3) := by decide +kernel
theorem dX12_assembleText_94 : decode cX12_assembleText 94 = .ok (.aload_n 0, 1) := by decide +kernel
theorem dX12_assembleText_95 : decode cX12_assembleText 95 = .ok (.aload_n 0, 1) := by decide +kernel
theorem dX12_assembleText_96 : decode cX12_assembleText 96 = .ok (.getfield 443, 3) := by decide +kernel
theorem dX12_assembleText_99 : decode cX12_assembleText 99 = .ok (.putfield 654, 3) := by decide +kernel
theorem dX12_assemble_0 : decode cX12_assemble 0 = .ok (.aload_n 0, 1) := by decide +kernel
theorem dX12_assemble_1 : decode cX12_assemble 1 = .ok (.iconst 0, 1) := by decide +kernel
theorem dX12_assemble_10 : decode cX12_assemble 10 = .ok (.aload_n 0, 1) := by decide +kernel
theorem dX12_assemble_11 : decode cX12_assemble 11 = .ok (.getfield 176, 3) := by decide +kernel
theorem dX12_assemble_14 : decode cX12_assemble 14 = .ok (.invokevirtual 657, 3) := by decide +kernel
theorem dX12_assemble_17 : decode cX12_assemble 17 = .ok (.aload_n 0, 1) := by decide +kernel
theorem dX12_assemble_18 : decode cX12_assemble 18 = .ok (.iconst 0, 1) := by decide +kernel
theorem dX12_assemble_19 : decode cX12_assemble 19 = .ok (.putfield 176, 3) := by decide +kernel
theorem dX12_assemble_2 : decode cX12_assemble 2 = .ok (.putfield 155, 3) := by decide +kernel
theorem dX12_assemble_22 : decode cX12_assemble 22 = .ok (.aload_n 0, 1) := by decide +kernel
theorem dX12_assemble_23 : decode cX12_assemble 23 = .ok (.iconst 0, 1) := by decide +kernel
theorem dX12_assemble_24 : decode cX12_assemble 24 = .ok (.putfield 596, 3) := by decide +kernel
theorem dX12_assemble_27 : decode cX12_assemble 27 = .ok (.aload_n 0, 1) := by decide +kernel
theorem dX12_assemble_28 : decode cX12_assemble 28 = .ok (.invokevirtual 661, 3) := by decide +kernel
theorem dX12_assemble_31 : decode cX12_assemble 31 = .ok (.ifCond .ne 10, 3) := by decide +kernel
theorem dX12_assemble_34 : decode cX12_assemble 34 = .ok (.iconst (-1), 1) := by decide +kernel
theorem dX12_assemble_35 : decode cX12_assemble 35 = .ok (.aload_n 0, 1) := by decide +kernel
theorem dX12_assemble_36 : decode cX12_assemble 36 = .ok (.getfield 651, 3) := by decide +kernel
theorem dX12_assemble_39 : decode cX12_assemble 39 = .ok (.isub, 1) := by decide +kernel
theorem dX12_assemble_40 : decode cX12_assemble 40 = .ok (.ireturn, 1) := by decide +kernel
theorem dX12_assemble_5 : decode cX12_assemble 5 = .ok (.aload_n 0, 1) := by decide +kernel
theorem dX12_assemble_6 : decode cX12_assemble 6 = .ok (.aload_n 0, 1) := by decide +kernel
theorem dX12_assemble_7 : decode cX12_assemble 7 = .ok (.getfield 9, 3) := by decide +kernel
set_option maxHeartbeats 4000000 in
set_option maxRecDepth 100000 in
theorem c_X12_copyText (l : Launch) (D : va_G) (K : Nat → ClassId) (a0 : Nat) (a1 : Nat) (s0 : List Value) (n0 : s0.length = 94) : uMet l yX12_copyText cX12_copyText 4 none (rmD 0 0 0) D K X0 [.ref a0, .ref a1, .int 0] [(a0, .inr (11, s0))] (QV D K (fun (u : Nat → Nat) => True) (fun (u : Nat → Nat) => [(a0, .inr (11, (s0.set 38 (.int 0))))])) 0 0 := by
  refine k_met RX12 ⟨rfl, by decide +kernel⟩ (Nat.le_of_ble_eq_true rfl) ?_
  intro p e s m below meth c A ls C hX hr hlocks hin hA hP hD hS hl
  have hl : lv_has ls 4 [(0, .ref a0), (1, .ref a1), (2, .int 0)] := hl
  refine lv_iconst (v := 0) C.1 C.2.1 dX12_copyText_0 (by decide) ?_
  refine lv_istore_n (lv' := [(3, .int 0), (0, .ref a0), (1, .ref a1), (2, .int 0)]) C.1 C.2.1 dX12_copyText_1 rfl hl (by decide) rfl (fun ls hl => ?_)
  refine lv_iload_n C.1 C.2.1 dX12_copyText_2 rfl (lv_at hl 0 rfl) ?_
  refine lv_iload_n C.1 C.2.1 dX12_copyText_3 rfl (lv_at hl 3 rfl) ?_
  refine lv_icmp_ge (tgt := 22) C.1 C.2.1 dX12_copyText_4 (by decide) (fun _ => ?_) (fun h => absurd (by decide) h)
  refine lv_aload_n C.1 C.2.1 dX12_copyText_22 rfl (lv_at hl 1 rfl) ?_
  refine lv_iload_n C.1 C.2.1 dX12_copyText_23 rfl (lv_at hl 3 rfl) ?_
  refine k_put (ws' := [(a0, .inr (11, (s0.set 38 (.int 0))))]) (v := .int 0) C hP hD hS 0 rfl rfl inlX12 tyX12_ok nmX12 38 (by decide) m_29_6 rfl rfl rfl n0 rfl dX12_copyText_24 (fun H locs hP hD hS => ?_)
  exact k_vret C hr hlocks hP hD hS (fun _ => 0) [0] rfl rfl trivial (Nat.le_of_ble_eq_true rfl) (Nat.le_of_ble_eq_true rfl) dX12_copyText_27
set_option maxHeartbeats 4000000 in
set_option maxRecDepth 100000 in
theorem c_X12_clearMemory (l : Launch) (D : va_G) (K : Nat → ClassId) (a0 : Nat) (a1 : Nat) (s0 : List Value) (n0 : s0.length = 94) (f1 : Nat → Int32) (e0_3 : s0[3]? = some (.ref a1)) : uMet l yX12_clearMemory cX12_clearMemory 2 none (rmD 0 0 0) D K X0 [.ref a0] [(a0, .inr (11, s0)), (a1, .inl (K 0, 7999, .inl f1))] (QV D K (fun (u : Nat → Nat) => True) (fun (u : Nat → Nat) => [(a0, .inr (11, s0)), (a1, .inl (K 0, 7999, .inl (fun _ => 0)))])) 0 0 := by
  refine k_met RX12 ⟨rfl, by decide +kernel⟩ (Nat.le_of_ble_eq_true rfl) ?_
  intro p e s m below meth c A ls C hX hr hlocks hin hA hP hD hS hl
  have hl : lv_has ls 2 [(0, .ref a0)] := hl
  refine lv_iconst (v := 0) C.1 C.2.1 dX12_clearMemory_0 (by decide) ?_
  refine lv_istore_n (lv' := [(1, .int 0), (0, .ref a0)]) C.1 C.2.1 dX12_clearMemory_1 rfl hl (by decide) rfl (fun ls hl => ?_)
  refine k_loopI (h2 := 6) (h3 := 15) (ex := 22) C 7999 (by decide) 0 0 rfl (q0 := 0) (q1 := 1) (by decide) rfl rfl inlX12 (k := 3) (by decide) m_7_5 e0_3 rfl (by decide) dX12_clearMemory_2 (fun _ _ _ _ k => lv_sipush (v := nI 7999) C.1 C.2.1 dX12_clearMemory_3 (by decide) k) dX12_clearMemory_6 (by decide) dX12_clearMemory_9 dX12_clearMemory_10 dX12_clearMemory_13 (fun _ _ _ _ k => lv_iconst (v := 0) C.1 C.2.1 dX12_clearMemory_14 (by decide) k) dX12_clearMemory_15 dX12_clearMemory_16 dX12_clearMemory_19 (by decide) (fun H locs ls hP hD hS hl => ?_) _ _ _ hP hD hS (lv_sub hl [0, 1] rfl)
  have hP : va_P D vwCl [(a0, .inr (11, s0)), (a1, .inl (K 0, 7999, .inl (fun _ => 0)))] H := hP
  have hD : va_D A [(a0, .inr (11, s0)), (a1, .inl (K 0, 7999, .inl (fun _ => 0)))] := hD
  have hl : lv_has ls 2 [(1, .int 7999), (0, .ref a0)] := hl
  exact k_vret C hr hlocks hP hD hS (fun _ => 0) [0, 1] rfl rfl trivial (Nat.le_of_ble_eq_true rfl) (Nat.le_of_ble_eq_true rfl) dX12_clearMemory_22
set_option maxHeartbeats 4000000 in
set_option maxRecDepth 100000 in
theorem c_X12_freeUnits (l : Launch) (D : va_G) (K : Nat → ClassId) (a0 : Nat) (a1 : Nat) (a2 : Nat) (s0 : List Value) (n0 : s0.length = 94) (f1 : Nat → Int64) (f2 : Nat → Int32) (e0_19 : s0[19]? = some (.ref a1)) (e0_20 : s0[20]? = some (.ref a2)) : uMet l yX12_freeUnits cX12_freeUnits 2 none (rmD 0 0 0) D K X0 [.ref a0] [(a0, .inr (11, s0)), (a1, .inl (K 1, 20, .inr (.inl f1))), (a2, .inl (K 3, 20, .inl f2))] (QV D K (fun (u : Nat → Nat) => True) (fun (u : Nat → Nat) => [(a0, .inr (11, s0)), (a1, .inl (K 1, 20, .inr (.inl (vp_updL (vp_updL (vp_updL (vp_updL (vp_updL (vp_updL (vp_updL (vp_updL (vp_updL (vp_updL (vp_updL (vp_updL (vp_updL (vp_updL (vp_updL (vp_updL (vp_updL (vp_updL (vp_updL (vp_updL f1 0 0) 1 0) 2 0) 3 0) 4 0) 5 0) 6 0) 7 0) 8 0) 9 0) 10 0) 11 0) 12 0) 13 0) 14 0) 15 0) 16 0) 17 0) 18 0) 19 0)))), (a2, .inl (K 3, 20, .inl (upd (upd (upd (upd (upd (upd (upd (upd (upd (upd (upd (upd (upd (upd (upd (upd (upd (upd (upd (upd f2 0 0) 1 0) 2 0) 3 0) 4 0) 5 0) 6 0) 7 0) 8 0) 9 0) 10 0) 11 0) 12 0) 13 0) 14 0) 15 0) 16 0) 17 0) 18 0) 19 0)))])) 0 0 := by
  refine k_met RX12 ⟨rfl, by decide +kernel⟩ (Nat.le_of_ble_eq_true rfl) ?_
  intro p e s m below meth c A ls C hX hr hlocks hin hA hP hD hS hl
  have hl : lv_has ls 2 [(0, .ref a0)] := hl
  refine lv_iconst (v := 0) C.1 C.2.1 dX12_freeUnits_0 (by decide) ?_
  refine lv_istore_n (lv' := [(1, .int 0), (0, .ref a0)]) C.1 C.2.1 dX12_freeUnits_1 rfl hl (by decide) rfl (fun ls hl => ?_)
  refine lv_iload_n C.1 C.2.1 dX12_freeUnits_2 rfl (lv_at hl 0 rfl) ?_
  refine lv_bipush (v := 20) C.1 C.2.1 dX12_freeUnits_3 (by decide) ?_
  refine lv_icmp_ge (tgt := 28) C.1 C.2.1 dX12_freeUnits_5 (by decide) (fun h => absurd h (by decide)) (fun _ => ?_)
  refine lv_aload_n C.1 C.2.1 dX12_freeUnits_8 rfl (lv_at hl 1 rfl) ?_
  refine k_get (v := .ref a1) C hP 0 rfl rfl inlX12 19 (by decide) m_7_9 e0_19 dX12_freeUnits_9 ?_
  refine lv_iload_n C.1 C.2.1 dX12_freeUnits_12 rfl (lv_at hl 0 rfl) ?_
  refine lv_lconst (v := 0) C.1 C.2.1 dX12_freeUnits_13 (by decide) ?_
  refine k_lst (ws' := [(a0, .inr (11, s0)), (a1, .inl (K 1, 20, .inr (.inl (vp_updL f1 0 0)))), (a2, .inl (K 3, 20, .inl f2))]) (j := 0) (x' := 0) C hP hD hS 1 rfl (vin (by decide)) (by decide) rfl rfl dX12_freeUnits_14 (fun H locs hP hD hS => ?_)
  refine lv_aload_n C.1 C.2.1 dX12_freeUnits_15 rfl (lv_at hl 1 rfl) ?_
  refine k_get (v := .ref a2) C hP 0 rfl rfl inlX12 20 (by decide) m_7_10 e0_20 dX12_freeUnits_16 ?_
  refine lv_iload_n C.1 C.2.1 dX12_freeUnits_19 rfl (lv_at hl 0 rfl) ?_
  refine lv_iconst (v := 0) C.1 C.2.1 dX12_freeUnits_20 (by decide) ?_
  refine k_zst (ws' := [(a0, .inr (11, s0)), (a1, .inl (K 1, 20, .inr (.inl (vp_updL f1 0 0)))), (a2, .inl (K 3, 20, .inl (upd f2 0 0)))]) (j := 0) (x' := 0) C hP hD hS 2 rfl (vin (by decide)) (by decide) (by decide) rfl dX12_freeUnits_21 (fun H locs hP hD hS => ?_)
  refine lv_iinc (v := 1) (lv' := [(1, .int 1), (0, .ref a0)]) C.1 C.2.1 dX12_freeUnits_22 hl (k := 0) rfl (by decide) (by decide) rfl (fun ls hl => ?_)
  refine lv_goto (tgt := 2) C.1 C.2.1 dX12_freeUnits_25 (by decide) ?_
  refine lv_iload_n C.1 C.2.1 dX12_freeUnits_2 rfl (lv_at hl 0 rfl) ?_
  refine lv_bipush (v := 20) C.1 C.2.1 dX12_freeUnits_3 (by decide) ?_
  refine lv_icmp_ge (tgt := 28) C.1 C.2.1 dX12_freeUnits_5 (by decide) (fun h => absurd h (by decide)) (fun _ => ?_)
  refine lv_aload_n C.1 C.2.1 dX12_freeUnits_8 rfl (lv_at hl 1 rfl) ?_
  refine k_get (v := .ref a1) C hP 0 rfl rfl inlX12 19 (by decide) m_7_9 e0_19 dX12_freeUnits_9 ?_
  refine lv_iload_n C.1 C.2.1 dX12_freeUnits_12 rfl (lv_at hl 0 rfl) ?_
  refine lv_lconst (v := 0) C.1 C.2.1 dX12_freeUnits_13 (by decide) ?_
  refine k_lst (ws' := [(a0, .inr (11, s0)), (a1, .inl (K 1, 20, .inr (.inl (vp_updL (vp_updL f1 0 0) 1 0)))), (a2, .inl (K 3, 20, .inl (upd f2 0 0)))]) (j := 1) (x' := 0) C hP hD hS 1 rfl (vin (by decide)) (by decide) rfl rfl dX12_freeUnits_14 (fun H locs hP hD hS => ?_)
  refine lv_aload_n C.1 C.2.1 dX12_freeUnits_15 rfl (lv_at hl 1 rfl) ?_
  refine k_get (v := .ref a2) C hP 0 rfl rfl inlX12 20 (by decide) m_7_10 e0_20 dX12_freeUnits_16 ?_
  refine lv_iload_n C.1 C.2.1 dX12_freeUnits_19 rfl (lv_at hl 0 rfl) ?_
  refine lv_iconst (v := 0) C.1 C.2.1 dX12_freeUnits_20 (by decide) ?_
  refine k_zst (ws' := [(a0, .inr (11, s0)), (a1, .inl (K 1, 20, .inr (.inl (vp_updL (vp_updL f1 0 0) 1 0)))), (a2, .inl (K 3, 20, .inl (upd (upd f2 0 0) 1 0)))]) (j := 1) (x' := 0) C hP hD hS 2 rfl (vin (by decide)) (by decide) (by decide) rfl dX12_freeUnits_21 (fun H locs hP hD hS => ?_)
  refine lv_iinc (v := 2) (lv' := [(1, .int 2), (0, .ref a0)]) C.1 C.2.1 dX12_freeUnits_22 hl (k := 0) rfl (by decide) (by decide) rfl (fun ls hl => ?_)
  refine lv_goto (tgt := 2) C.1 C.2.1 dX12_freeUnits_25 (by decide) ?_
  refine lv_iload_n C.1 C.2.1 dX12_freeUnits_2 rfl (lv_at hl 0 rfl) ?_
  refine lv_bipush (v := 20) C.1 C.2.1 dX12_freeUnits_3 (by decide) ?_
  refine lv_icmp_ge (tgt := 28) C.1 C.2.1 dX12_freeUnits_5 (by decide) (fun h => absurd h (by decide)) (fun _ => ?_)
  refine lv_aload_n C.1 C.2.1 dX12_freeUnits_8 rfl (lv_at hl 1 rfl) ?_
  refine k_get (v := .ref a1) C hP 0 rfl rfl inlX12 19 (by decide) m_7_9 e0_19 dX12_freeUnits_9 ?_
  refine lv_iload_n C.1 C.2.1 dX12_freeUnits_12 rfl (lv_at hl 0 rfl) ?_
  refine lv_lconst (v := 0) C.1 C.2.1 dX12_freeUnits_13 (by decide) ?_
  refine k_lst (ws' := [(a0, .inr (11, s0)), (a1, .inl (K 1, 20, .inr (.inl (vp_updL (vp_updL (vp_updL f1 0 0) 1 0) 2 0)))), (a2, .inl (K 3, 20, .inl (upd (upd f2 0 0) 1 0)))]) (j := 2) (x' := 0) C hP hD hS 1 rfl (vin (by decide)) (by decide) rfl rfl dX12_freeUnits_14 (fun H locs hP hD hS => ?_)
  refine lv_aload_n C.1 C.2.1 dX12_freeUnits_15 rfl (lv_at hl 1 rfl) ?_
  refine k_get (v := .ref a2) C hP 0 rfl rfl inlX12 20 (by decide) m_7_10 e0_20 dX12_freeUnits_16 ?_
  refine lv_iload_n C.1 C.2.1 dX12_freeUnits_19 rfl (lv_at hl 0 rfl) ?_
  refine lv_iconst (v := 0) C.1 C.2.1 dX12_freeUnits_20 (by decide) ?_
  refine k_zst (ws' := [(a0, .inr (11, s0)), (a1, .inl (K 1, 20, .inr (.inl (vp_updL (vp_updL (vp_updL f1 0 0) 1 0) 2 0)))), (a2, .inl (K 3, 20, .inl (upd (upd (upd f2 0 0) 1 0) 2 0)))]) (j := 2) (x' := 0) C hP hD hS 2 rfl (vin (by decide)) (by decide) (by decide) rfl dX12_freeUnits_21 (fun H locs hP hD hS => ?_)
  refine lv_iinc (v := 3) (lv' := [(1, .int 3), (0, .ref a0)]) C.1 C.2.1 dX12_freeUnits_22 hl (k := 0) rfl (by decide) (by decide) rfl (fun ls hl => ?_)
  refine lv_goto (tgt := 2) C.1 C.2.1 dX12_freeUnits_25 (by decide) ?_
  refine lv_iload_n C.1 C.2.1 dX12_freeUnits_2 rfl (lv_at hl 0 rfl) ?_
  refine lv_bipush (v := 20) C.1 C.2.1 dX12_freeUnits_3 (by decide) ?_
  refine lv_icmp_ge (tgt := 28) C.1 C.2.1 dX12_freeUnits_5 (by decide) (fun h => absurd h (by decide)) (fun _ => ?_)
  refine lv_aload_n C.1 C.2.1 dX12_freeUnits_8 rfl (lv_at hl 1 rfl) ?_
  refine k_get (v := .ref a1) C hP 0 rfl rfl inlX12 19 (by decide) m_7_9 e0_19 dX12_freeUnits_9 ?_
  refine lv_iload_n C.1 C.2.1 dX12_freeUnits_12 rfl (lv_at hl 0 rfl) ?_
  refine lv_lconst (v := 0) C.1 C.2.1 dX12_freeUnits_13 (by decide) ?_
  refine k_lst (ws' := [(a0, .inr (11, s0)), (a1, .inl (K 1, 20, .inr (.inl (vp_updL (vp_updL (vp_updL (vp_updL f1 0 0) 1 0) 2 0) 3 0)))), (a2, .inl (K 3, 20, .inl (upd (upd (upd f2 0 0) 1 0) 2 0)))]) (j := 3) (x' := 0) C hP hD hS 1 rfl (vin (by decide)) (by decide) rfl rfl dX12_freeUnits_14 (fun H locs hP hD hS => ?_)
  refine lv_aload_n C.1 C.2.1 dX12_freeUnits_15 rfl (lv_at hl 1 rfl) ?_
  refine k_get (v := .ref a2) C hP 0 rfl rfl inlX12 20 (by decide) m_7_10 e0_20 dX12_freeUnits_16 ?_
  refine lv_iload_n C.1 C.2.1 dX12_freeUnits_19 rfl (lv_at hl 0 rfl) ?_
  refine lv_iconst (v := 0) C.1 C.2.1 dX12_freeUnits_20 (by decide) ?_
  refine k_zst (ws' := [(a0, .inr (11, s0)), (a1, .inl (K 1, 20, .inr (.inl (vp_updL (vp_updL (vp_updL (vp_updL f1 0 0) 1 0) 2 0) 3 0)))), (a2, .inl (K 3, 20, .inl (upd (upd (upd (upd f2 0 0) 1 0) 2 0) 3 0)))]) (j := 3) (x' := 0) C hP hD hS 2 rfl (vin (by decide)) (by decide) (by decide) rfl dX12_freeUnits_21 (fun H locs hP hD hS => ?_)
  refine lv_iinc (v := 4) (lv' := [(1, .int 4), (0, .ref a0)]) C.1 C.2.1 dX12_freeUnits_22 hl (k := 0) rfl (by decide) (by decide) rfl (fun ls hl => ?_)
  refine lv_goto (tgt := 2) C.1 C.2.1 dX12_freeUnits_25 (by decide) ?_
  refine lv_iload_n C.1 C.2.1 dX12_freeUnits_2 rfl (lv_at hl 0 rfl) ?_
  refine lv_bipush (v := 20) C.1 C.2.1 dX12_freeUnits_3 (by decide) ?_
  refine lv_icmp_ge (tgt := 28) C.1 C.2.1 dX12_freeUnits_5 (by decide) (fun h => absurd h (by decide)) (fun _ => ?_)
  refine lv_aload_n C.1 C.2.1 dX12_freeUnits_8 rfl (lv_at hl 1 rfl) ?_
  refine k_get (v := .ref a1) C hP 0 rfl rfl inlX12 19 (by decide) m_7_9 e0_19 dX12_freeUnits_9 ?_
  refine lv_iload_n C.1 C.2.1 dX12_freeUnits_12 rfl (lv_at hl 0 rfl) ?_
  refine lv_lconst (v := 0) C.1 C.2.1 dX12_freeUnits_13 (by decide) ?_
  refine k_lst (ws' := [(a0, .inr (11, s0)), (a1, .inl (K 1, 20, .inr (.inl (vp_updL (vp_updL (vp_updL (vp_updL (vp_updL f1 0 0) 1 0) 2 0) 3 0) 4 0)))), (a2, .inl (K 3, 20, .inl (upd (upd (upd (upd f2 0 0) 1 0) 2 0) 3 0)))]) (j := 4) (x' := 0) C hP hD hS 1 rfl (vin (by decide)) (by decide) rfl rfl dX12_freeUnits_14 (fun H locs hP hD hS => ?_)
  refine lv_aload_n C.1 C.2.1 dX12_freeUnits_15 rfl (lv_at hl 1 rfl) ?_
  refine k_get (v := .ref a2) C hP 0 rfl rfl inlX12 20 (by decide) m_7_10 e0_20 dX12_freeUnits_16 ?_
  refine lv_iload_n C.1 C.2.1 dX12_freeUnits_19 rfl (lv_at hl 0 rfl) ?_
  refine lv_iconst (v := 0) C.1 C.2.1 dX12_freeUnits_20 (by decide) ?_
  refine k_zst (ws' := [(a0, .inr (11, s0)), (a1, .inl (K 1, 20, .inr (.inl (vp_updL (vp_updL (vp_updL (vp_updL (vp_updL f1 0 0) 1 0) 2 0) 3 0) 4 0)))), (a2, .inl (K 3, 20, .inl (upd (upd (upd (upd (upd f2 0 0) 1 0) 2 0) 3 0) 4 0)))]) (j := 4) (x' := 0) C hP hD hS 2 rfl (vin (by decide)) (by decide) (by decide) rfl dX12_freeUnits_21 (fun H locs hP hD hS => ?_)
  refine lv_iinc (v := 5) (lv' := [(1, .int 5), (0, .ref a0)]) C.1 C.2.1 dX12_freeUnits_22 hl (k := 0) rfl (by decide) (by decide) rfl (fun ls hl => ?_)
  refine lv_goto (tgt := 2) C.1 C.2.1 dX12_freeUnits_25 (by decide) ?_
  refine lv_iload_n C.1 C.2.1 dX12_freeUnits_2 rfl (lv_at hl 0 rfl) ?_
  refine lv_bipush (v := 20) C.1 C.2.1 dX12_freeUnits_3 (by decide) ?_
  refine lv_icmp_ge (tgt := 28) C.1 C.2.1 dX12_freeUnits_5 (by decide) (fun h => absurd h (by decide)) (fun _ => ?_)
  refine lv_aload_n C.1 C.2.1 dX12_freeUnits_8 rfl (lv_at hl 1 rfl) ?_
  refine k_get (v := .ref a1) C hP 0 rfl rfl inlX12 19 (by decide) m_7_9 e0_19 dX12_freeUnits_9 ?_
  refine lv_iload_n C.1 C.2.1 dX12_freeUnits_12 rfl (lv_at hl 0 rfl) ?_
  refine lv_lconst (v := 0) C.1 C.2.1 dX12_freeUnits_13 (by decide) ?_
  refine k_lst (ws' := [(a0, .inr (11, s0)), (a1, .inl (K 1, 20, .inr (.inl (vp_updL (vp_updL (vp_updL (vp_updL (vp_updL (vp_updL f1 0 0) 1 0) 2 0) 3 0) 4 0) 5 0)))), (a2, .inl (K 3, 20, .inl (upd (upd (upd (upd (upd f2 0 0) 1 0) 2 0) 3 0) 4 0)))]) (j := 5) (x' := 0) C hP hD hS 1 rfl (vin (by decide)) (by decide) rfl rfl dX12_freeUnits_14 (fun H locs hP hD hS => ?_)
  refine lv_aload_n C.1 C.2.1 dX12_freeUnits_15 rfl (lv_at hl 1 rfl) ?_
  refine k_get (v := .ref a2) C hP 0 rfl rfl inlX12 20 (by decide) m_7_10 e0_20 dX12_freeUnits_16 ?_
  refine lv_iload_n C.1 C.2.1 dX12_freeUnits_19 rfl (lv_at hl 0 rfl) ?_
  refine lv_iconst (v := 0) C.1 C.2.1 dX12_freeUnits_20 (by decide) ?_
  refine k_zst (ws' := [(a0, .inr (11, s0)), (a1, .inl (K 1, 20, .inr (.inl (vp_updL (vp_updL (vp_updL (vp_updL (vp_updL (vp_updL f1 0 0) 1 0) 2 0) 3 0) 4 0) 5 0)))), (a2, .inl (K 3, 20, .inl (upd (upd (upd (upd (upd (upd f2 0 0) 1 0) 2 0) 3 0) 4 0) 5 0)))]) (j := 5) (x' := 0) C hP hD hS 2 rfl (vin (by decide)) (by decide) (by decide) rfl dX12_freeUnits_21 (fun H locs hP hD hS => ?_)
  refine lv_iinc (v := 6) (lv' := [(1, .int 6), (0, .ref a0)]) C.1 C.2.1 dX12_freeUnits_22 hl (k := 0) rfl (by decide) (by decide) rfl (fun ls hl => ?_)
  refine lv_goto (tgt := 2) C.1 C.2.1 dX12_freeUnits_25 (by decide) ?_
  refine lv_iload_n C.1 C.2.1 dX12_freeUnits_2 rfl (lv_at hl 0 rfl) ?_
  refine lv_bipush (v := 20) C.1 C.2.1 dX12_freeUnits_3 (by decide) ?_
  refine lv_icmp_ge (tgt := 28) C.1 C.2.1 dX12_freeUnits_5 (by decide) (fun h => absurd h (by decide)) (fun _ => ?_)
  refine lv_aload_n C.1 C.2.1 dX12_freeUnits_8 rfl (lv_at hl 1 rfl) ?_
  refine k_get (v := .ref a1) C hP 0 rfl rfl inlX12 19 (by decide) m_7_9 e0_19 dX12_freeUnits_9 ?_
  refine lv_iload_n C.1 C.2.1 dX12_freeUnits_12 rfl (lv_at hl 0 rfl) ?_
  refine lv_lconst (v := 0) C.1 C.2.1 dX12_freeUnits_13 (by decide) ?_
  refine k_lst (ws' := [(a0, .inr (11, s0)), (a1, .inl (K 1, 20, .inr (.inl (vp_updL (vp_updL (vp_updL (vp_updL (vp_updL (vp_updL (vp_updL f1 0 0) 1 0) 2 0) 3 0) 4 0) 5 0) 6 0)))), (a2, .inl (K 3, 20, .inl (upd (upd (upd (upd (upd (upd f2 0 0) 1 0) 2 0) 3 0) 4 0) 5 0)))]) (j := 6) (x' := 0) C hP hD hS 1 rfl (vin (by decide)) (by decide) rfl rfl dX12_freeUnits_14 (fun H locs hP hD hS => ?_)
  refine lv_aload_n C.1 C.2.1 dX12_freeUnits_15 rfl (lv_at hl 1 rfl) ?_
  refine k_get (v := .ref a2) C hP 0 rfl rfl inlX12 20 (by decide) m_7_10 e0_20 dX12_freeUnits_16 ?_
  refine lv_iload_n C.1 C.2.1 dX12_freeUnits_19 rfl (lv_at hl 0 rfl) ?_
  refine lv_iconst (v := 0) C.1 C.2.1 dX12_freeUnits_20 (by decide) ?_
  refine k_zst (ws' := [(a0, .inr (11, s0)), (a1, .inl (K 1, 20, .inr (.inl (vp_updL (vp_updL (vp_updL (vp_updL (vp_updL (vp_updL (vp_updL f1 0 0) 1 0) 2 0) 3 0) 4 0) 5 0) 6 0)))), (a2, .inl (K 3, 20, .inl (upd (upd (upd (upd (upd (upd (upd f2 0 0) 1 0) 2 0) 3 0) 4 0) 5 0) 6 0)))]) (j := 6) (x' := 0) C hP hD hS 2 rfl (vin (by decide)) (by decide) (by decide) rfl dX12_freeUnits_21 (fun H locs hP hD hS => ?_)
  refine lv_iinc (v := 7) (lv' := [(1, .int 7), (0, .ref a0)]) C.1 C.2.1 dX12_freeUnits_22 hl (k := 0) rfl (by decide) (by decide) rfl (fun ls hl => ?_)
  refine lv_goto (tgt := 2) C.1 C.2.1 dX12_freeUnits_25 (by decide) ?_
  refine lv_iload_n C.1 C.2.1 dX12_freeUnits_2 rfl (lv_at hl 0 rfl) ?_
  refine lv_bipush (v := 20) C.1 C.2.1 dX12_freeUnits_3 (by decide) ?_
  refine lv_icmp_ge (tgt := 28) C.1 C.2.1 dX12_freeUnits_5 (by decide) (fun h => absurd h (by decide)) (fun _ => ?_)
  refine lv_aload_n C.1 C.2.1 dX12_freeUnits_8 rfl (lv_at hl 1 rfl) ?_
  refine k_get (v := .ref a1) C hP 0 rfl rfl inlX12 19 (by decide) m_7_9 e0_19 dX12_freeUnits_9 ?_
  refine lv_iload_n C.1 C.2.1 dX12_freeUnits_12 rfl (lv_at hl 0 rfl) ?_
  refine lv_lconst (v := 0) C.1 C.2.1 dX12_freeUnits_13 (by decide) ?_
  refine k_lst (ws' := [(a0, .inr (11, s0)), (a1, .inl (K 1, 20, .inr (.inl (vp_updL (vp_updL (vp_updL (vp_updL (vp_updL (vp_updL (vp_updL (vp_updL f1 0 0) 1 0) 2 0) 3 0) 4 0) 5 0) 6 0) 7 0)))), (a2, .inl (K 3, 20, .inl (upd (upd (upd (upd (upd (upd (upd f2 0 0) 1 0) 2 0) 3 0) 4 0) 5 0) 6 0)))]) (j := 7) (x' := 0) C hP hD hS 1 rfl (vin (by decide)) (by decide) rfl rfl dX12_freeUnits_14 (fun H locs hP hD hS => ?_)
  refine lv_aload_n C.1 C.2.1 dX12_freeUnits_15 rfl (lv_at hl 1 rfl) ?_
  refine k_get (v := .ref a2) C hP 0 rfl rfl inlX12 20 (by decide) m_7_10 e0_20 dX12_freeUnits_16 ?_
  refine lv_iload_n C.1 C.2.1 dX12_freeUnits_19 rfl (lv_at hl 0 rfl) ?_
  refine lv_iconst (v := 0) C.1 C.2.1 dX12_freeUnits_20 (by decide) ?_
  refine k_zst (ws' := [(a0, .inr (11, s0)), (a1, .inl (K 1, 20, .inr (.inl (vp_updL (vp_updL (vp_updL (vp_updL (vp_updL (vp_updL (vp_updL (vp_updL f1 0 0) 1 0) 2 0) 3 0) 4 0) 5 0) 6 0) 7 0)))), (a2, .inl (K 3, 20, .inl (upd (upd (upd (upd (upd (upd (upd (upd f2 0 0) 1 0) 2 0) 3 0) 4 0) 5 0) 6 0) 7 0)))]) (j := 7) (x' := 0) C hP hD hS 2 rfl (vin (by decide)) (by decide) (by decide) rfl dX12_freeUnits_21 (fun H locs hP hD hS => ?_)
  refine lv_iinc (v := 8) (lv' := [(1, .int 8), (0, .ref a0)]) C.1 C.2.1 dX12_freeUnits_22 hl (k := 0) rfl (by decide) (by decide) rfl (fun ls hl => ?_)
  refine lv_goto (tgt := 2) C.1 C.2.1 dX12_freeUnits_25 (by decide) ?_
  refine lv_iload_n C.1 C.2.1 dX12_freeUnits_2 rfl (lv_at hl 0 rfl) ?_
  refine lv_bipush (v := 20) C.1 C.2.1 dX12_freeUnits_3 (by decide) ?_
  refine lv_icmp_ge (tgt := 28) C.1 C.2.1 dX12_freeUnits_5 (by decide) (fun h => absurd h (by decide)) (fun _ => ?_)
  refine lv_aload_n C.1 C.2.1 dX12_freeUnits_8 rfl (lv_at hl 1 rfl) ?_
  refine k_get (v := .ref a1) C hP 0 rfl rfl inlX12 19 (by decide) m_7_9 e0_19 dX12_freeUnits_9 ?_
  refine lv_iload_n C.1 C.2.1 dX12_freeUnits_12 rfl (lv_at hl 0 rfl) ?_
  refine lv_lconst (v := 0) C.1 C.2.1 dX12_freeUnits_13 (by decide) ?_
  refine k_lst (ws' := [(a0, .inr (11, s0)), (a1, .inl (K 1, 20, .inr (.inl (vp_updL (vp_updL (vp_updL (vp_updL (vp_updL (vp_updL (vp_updL (vp_updL (vp_updL f1 0 0) 1 0) 2 0) 3 0) 4 0) 5 0) 6 0) 7 0) 8 0)))), (a2, .inl (K 3, 20, .inl (upd (upd (upd (upd (upd (upd (upd (upd f2 0 0) 1 0) 2 0) 3 0) 4 0) 5 0) 6 0) 7 0)))]) (j := 8) (x' := 0) C hP hD hS 1 rfl (vin (by decide)) (by decide) rfl rfl dX12_freeUnits_14 (fun H locs hP hD hS => ?_)
  refine lv_aload_n C.1 C.2.1 dX12_freeUnits_15 rfl (lv_at hl 1 rfl) ?_
  refine k_get (v := .ref a2) C hP 0 rfl rfl inlX12 20 (by decide) m_7_10 e0_20 dX12_freeUnits_16 ?_
  refine lv_iload_n C.1 C.2.1 dX12_freeUnits_19 rfl (lv_at hl 0 rfl) ?_
  refine lv_iconst (v := 0) C.1 C.2.1 dX12_freeUnits_20 (by decide) ?_
  refine k_zst (ws' := [(a0, .inr (11, s0)), (a1, .inl (K 1, 20, .inr (.inl (vp_updL (vp_updL (vp_updL (vp_updL (vp_updL (vp_updL (vp_updL (vp_updL (vp_updL f1 0 0) 1 0) 2 0) 3 0) 4 0) 5 0) 6 0) 7 0) 8 0)))), (a2, .inl (K 3, 20, .inl (upd (upd (upd (upd (upd (upd (upd (upd (upd f2 0 0) 1 0) 2 0) 3 0) 4 0) 5 0) 6 0) 7 0) 8 0)))]) (j := 8) (x' := 0) C hP hD hS 2 rfl (vin (by decide)) (by decide) (by decide) rfl dX12_freeUnits_21 (fun H locs hP hD hS => ?_)
  refine lv_iinc (v := 9) (lv' := [(1, .int 9), (0, .ref a0)]) C.1 C.2.1 dX12_freeUnits_22 hl (k := 0) rfl (by decide) (by decide) rfl (fun ls hl => ?_)
  refine lv_goto (tgt := 2) C.1 C.2.1 dX12_freeUnits_25 (by decide) ?_
  refine lv_iload_n C.1 C.2.1 dX12_freeUnits_2 rfl (lv_at hl 0 rfl) ?_
  refine lv_bipush (v := 20) C.1 C.2.1 dX12_freeUnits_3 (by decide) ?_
  refine lv_icmp_ge (tgt := 28) C.1 C.2.1 dX12_freeUnits_5 (by decide) (fun h => absurd h (by decide)) (fun _ => ?_)
  refine lv_aload_n C.1 C.2.1 dX12_freeUnits_8 rfl (lv_at hl 1 rfl) ?_
  refine k_get (v := .ref a1) C hP 0 rfl rfl inlX12 19 (by decide) m_7_9 e0_19 dX12_freeUnits_9 ?_
  refine lv_iload_n C.1 C.2.1 dX12_freeUnits_12 rfl (lv_at hl 0 rfl) ?_
  refine lv_lconst (v := 0) C.1 C.2.1 dX12_freeUnits_13 (by decide) ?_
  refine k_lst (ws' := [(a0, .inr (11, s0)), (a1, .inl (K 1, 20, .inr (.inl (vp_updL (vp_updL (vp_updL (vp_updL (vp_updL (vp_updL (vp_updL (vp_updL (vp_updL (vp_updL f1 0 0) 1 0) 2 0) 3 0) 4 0) 5 0) 6 0) 7 0) 8 0) 9 0)))), (a2, .inl (K 3, 20, .inl (upd (upd (upd (upd (upd (upd (upd (upd (upd f2 0 0) 1 0) 2 0) 3 0) 4 0) 5 0) 6 0) 7 0) 8 0)))]) (j := 9) (x' := 0) C hP hD hS 1 rfl (vin (by decide)) (by decide) rfl rfl dX12_freeUnits_14 (fun H locs hP hD hS => ?_)
  refine lv_aload_n C.1 C.2.1 dX12_freeUnits_15 rfl (lv_at hl 1 rfl) ?_
  refine k_get (v := .ref a2) C hP 0 rfl rfl inlX12 20 (by decide) m_7_10 e0_20 dX12_freeUnits_16 ?_
  refine lv_iload_n C.1 C.2.1 dX12_freeUnits_19 rfl (lv_at hl 0 rfl) ?_
  refine lv_iconst (v := 0) C.1 C.2.1 dX12_freeUnits_20 (by decide) ?_
  refine k_zst (ws' := [(a0, .inr (11, s0)), (a1, .inl (K 1, 20, .inr (.inl (vp_updL (vp_updL (vp_updL (vp_updL (vp_updL (vp_updL (vp_updL (vp_updL (vp_updL (vp_updL f1 0 0) 1 0) 2 0) 3 0) 4 0) 5 0) 6 0) 7 0) 8 0) 9 0)))), (a2, .inl (K 3, 20, .inl (upd (upd (upd (upd (upd (upd (upd (upd (upd (upd f2 0 0) 1 0) 2 0) 3 0) 4 0) 5 0) 6 0) 7 0) 8 0) 9 0)))]) (j := 9) (x' := 0) C hP hD hS 2 rfl (vin (by decide)) (by decide) (by decide) rfl dX12_freeUnits_21 (fun H locs hP hD hS => ?_)
  refine lv_iinc (v := 10) (lv' := [(1, .int 10), (0, .ref a0)]) C.1 C.2.1 dX12_freeUnits_22 hl (k := 0) rfl (by decide) (by decide) rfl (fun ls hl => ?_)
  refine lv_goto (tgt := 2) C.1 C.2.1 dX12_freeUnits_25 (by decide) ?_
  refine lv_iload_n C.1 C.2.1 dX12_freeUnits_2 rfl (lv_at hl 0 rfl) ?_
  refine lv_bipush (v := 20) C.1 C.2.1 dX12_freeUnits_3 (by decide) ?_
  refine lv_icmp_ge (tgt := 28) C.1 C.2.1 dX12_freeUnits_5 (by decide) (fun h => absurd h (by decide)) (fun _ => ?_)
  refine lv_aload_n C.1 C.2.1 dX12_freeUnits_8 rfl (lv_at hl 1 rfl) ?_
  refine k_get (v := .ref a1) C hP 0 rfl rfl inlX12 19 (by decide) m_7_9 e0_19 dX12_freeUnits_9 ?_
  refine lv_iload_n C.1 C.2.1 dX12_freeUnits_12 rfl (lv_at hl 0 rfl) ?_
  refine lv_lconst (v := 0) C.1 C.2.1 dX12_freeUnits_13 (by decide) ?_
  refine k_lst (ws' := [(a0, .inr (11, s0)), (a1, .inl (K 1, 20, .inr (.inl (vp_updL (vp_updL (vp_updL (vp_updL (vp_updL (vp_updL (vp_updL (vp_updL (vp_updL (vp_updL (vp_updL f1 0 0) 1 0) 2 0) 3 0) 4 0) 5 0) 6 0) 7 0) 8 0) 9 0) 10 0)))), (a2, .inl (K 3, 20, .inl (upd (upd (upd (upd (upd (upd (upd (upd (upd (upd f2 0 0) 1 0) 2 0) 3 0) 4 0) 5 0) 6 0) 7 0) 8 0) 9 0)))]) (j := 10) (x' := 0) C hP hD hS 1 rfl (vin (by decide)) (by decide) rfl rfl dX12_freeUnits_14 (fun H locs hP hD hS => ?_)
  refine lv_aload_n C.1 C.2.1 dX12_freeUnits_15 rfl (lv_at hl 1 rfl) ?_
  refine k_get (v := .ref a2) C hP 0 rfl rfl inlX12 20 (by decide) m_7_10 e0_20 dX12_freeUnits_16 ?_
  refine lv_iload_n C.1 C.2.1 dX12_freeUnits_19 rfl (lv_at hl 0 rfl) ?_
  refine lv_iconst (v := 0) C.1 C.2.1 dX12_freeUnits_20 (by decide) ?_
  refine k_zst (ws' := [(a0, .inr (11, s0)), (a1, .inl (K 1, 20, .inr (.inl (vp_updL (vp_updL (vp_updL (vp_updL (vp_updL (vp_updL (vp_updL (vp_updL (vp_updL (vp_updL (vp_updL f1 0 0) 1 0) 2 0) 3 0) 4 0) 5 0) 6 0) 7 0) 8 0) 9 0) 10 0)))), (a2, .inl (K 3, 20, .inl (upd (upd (upd (upd (upd (upd (upd (upd (upd (upd (upd f2 0 0) 1 0) 2 0) 3 0) 4 0) 5 0) 6 0) 7 0) 8 0) 9 0) 10 0)))]) (j := 10) (x' := 0) C hP hD hS 2 rfl (vin (by decide)) (by decide) (by decide) rfl dX12_freeUnits_21 (fun H locs hP hD hS => ?_)
  refine lv_iinc (v := 11) (lv' := [(1, .int 11), (0, .ref a0)]) C.1 C.2.1 dX12_freeUnits_22 hl (k := 0) rfl (by decide) (by decide) rfl (fun ls hl => ?_)
  refine lv_goto (tgt := 2) C.1 C.2.1 dX12_freeUnits_25 (by decide) ?_
  refine lv_iload_n C.1 C.2.1 dX12_freeUnits_2 rfl (lv_at hl 0 rfl) ?_
  refine lv_bipush (v := 20) C.1 C.2.1 dX12_freeUnits_3 (by decide) ?_
  refine lv_icmp_ge (tgt := 28) C.1 C.2.1 dX12_freeUnits_5 (by decide) (fun h => absurd h (by decide)) (fun _ => ?_)
  refine lv_aload_n C.1 C.2.1 dX12_freeUnits_8 rfl (lv_at hl 1 rfl) ?_
  refine k_get (v := .ref a1) C hP 0 rfl rfl inlX12 19 (by decide) m_7_9 e0_19 dX12_freeUnits_9 ?_
  refine lv_iload_n C.1 C.2.1 dX12_freeUnits_12 rfl (lv_at hl 0 rfl) ?_
  refine lv_lconst (v := 0) C.1 C.2.1 dX12_freeUnits_13 (by decide) ?_
  refine k_lst (ws' := [(a0, .inr (11, s0)), (a1, .inl (K 1, 20, .inr (.inl (vp_updL (vp_updL (vp_updL (vp_updL (vp_updL (vp_updL (vp_updL (vp_updL (vp_updL (vp_updL (vp_updL (vp_updL f1 0 0) 1 0) 2 0) 3 0) 4 0) 5 0) 6 0) 7 0) 8 0) 9 0) 10 0) 11 0)))), (a2, .inl (K 3, 20, .inl (upd (upd (upd (upd (upd (upd (upd (upd (upd (upd (upd f2 0 0) 1 0) 2 0) 3 0) 4 0) 5 0) 6 0) 7 0) 8 0) 9 0) 10 0)))]) (j := 11) (x' := 0) C hP hD hS 1 rfl (vin (by decide)) (by decide) rfl rfl dX12_freeUnits_14 (fun H locs hP hD hS => ?_)
  refine lv_aload_n C.1 C.2.1 dX12_freeUnits_15 rfl (lv_at hl 1 rfl) ?_
  refine k_get (v := .ref a2) C hP 0 rfl rfl inlX12 20 (by decide) m_7_10 e0_20 dX12_freeUnits_16 ?_
  refine lv_iload_n C.1 C.2.1 dX12_freeUnits_19 rfl (lv_at hl 0 rfl) ?_
  refine lv_iconst (v := 0) C.1 C.2.1 dX12_freeUnits_20 (by decide) ?_
  refine k_zst (ws' := [(a0, .inr (11, s0)), (a1, .inl (K 1, 20, .inr (.inl (vp_updL (vp_updL (vp_updL (vp_updL (vp_updL (vp_updL (vp_updL (vp_updL (vp_updL (vp_updL (vp_updL (vp_updL f1 0 0) 1 0) 2 0) 3 0) 4 0) 5 0) 6 0) 7 0) 8 0) 9 0) 10 0) 11 0)))), (a2, .inl (K 3, 20, .inl (upd (upd (upd (upd (upd (upd (upd (upd (upd (upd (upd (upd f2 0 0) 1 0) 2 0) 3 0) 4 0) 5 0) 6 0) 7 0) 8 0) 9 0) 10 0) 11 0)))]) (j := 11) (x' := 0) C hP hD hS 2 rfl (vin (by decide)) (by decide) (by decide) rfl dX12_freeUnits_21 (fun H locs hP hD hS => ?_)
  refine lv_iinc (v := 12) (lv' := [(1, .int 12), (0, .ref a0)]) C.1 C.2.1 dX12_freeUnits_22 hl (k := 0) rfl (by decide) (by decide) rfl (fun ls hl => ?_)
  refine lv_goto (tgt := 2) C.1 C.2.1 dX12_freeUnits_25 (by decide) ?_
  refine lv_iload_n C.1 C.2.1 dX12_freeUnits_2 rfl (lv_at hl 0 rfl) ?_
  refine lv_bipush (v := 20) C.1 C.2.1 dX12_freeUnits_3 (by decide) ?_
  refine lv_icmp_ge (tgt := 28) C.1 C.2.1 dX12_freeUnits_5 (by decide) (fun h => absurd h (by decide)) (fun _ => ?_)
  refine lv_aload_n C.1 C.2.1 dX12_freeUnits_8 rfl (lv_at hl 1 rfl) ?_
  refine k_get (v := .ref a1) C hP 0 rfl rfl inlX12 19 (by decide) m_7_9 e0_19 dX12_freeUnits_9 ?_
  refine lv_iload_n C.1 C.2.1 dX12_freeUnits_12 rfl (lv_at hl 0 rfl) ?_
  refine lv_lconst (v := 0) C.1 C.2.1 dX12_freeUnits_13 (by decide) ?_
  refine k_lst (ws' := [(a0, .inr (11, s0)), (a1, .inl (K 1, 20, .inr (.inl (vp_updL (vp_updL (vp_updL (vp_updL (vp_updL (vp_updL (vp_updL (vp_updL (vp_updL (vp_updL (vp_updL (vp_updL (vp_updL f1 0 0) 1 0) 2 0) 3 0) 4 0) 5 0) 6 0) 7 0) 8 0) 9 0) 10 0) 11 0) 12 0)))), (a2, .inl (K 3, 20, .inl (upd (upd (upd (upd (upd (upd (upd (upd (upd (upd (upd (upd f2 0 0) 1 0) 2 0) 3 0) 4 0) 5 0) 6 0) 7 0) 8 0) 9 0) 10 0) 11 0)))]) (j := 12) (x' := 0) C hP hD hS 1 rfl (vin (by decide)) (by decide) rfl rfl dX12_freeUnits_14 (fun H locs hP hD hS => ?_)
  refine lv_aload_n C.1 C.2.1 dX12_freeUnits_15 rfl (lv_at hl 1 rfl) ?_
  refine k_get (v := .ref a2) C hP 0 rfl rfl inlX12 20 (by decide) m_7_10 e0_20 dX12_freeUnits_16 ?_
  refine lv_iload_n C.1 C.2.1 dX12_freeUnits_19 rfl (lv_at hl 0 rfl) ?_
  refine lv_iconst (v := 0) C.1 C.2.1 dX12_freeUnits_20 (by decide) ?_
  refine k_zst (ws' := [(a0, .inr (11, s0)), (a1, .inl (K 1, 20, .inr (.inl (vp_updL (vp_updL (vp_updL (vp_updL (vp_updL (vp_updL (vp_updL (vp_updL (vp_updL (vp_updL (vp_updL (vp_updL (vp_updL f1 0 0) 1 0) 2 0) 3 0) 4 0) 5 0) 6 0) 7 0) 8 0) 9 0) 10 0) 11 0) 12 0)))), (a2, .inl (K 3, 20, .inl (upd (upd (upd (upd (upd (upd (upd (upd (upd (upd (upd (upd (upd f2 0 0) 1 0) 2 0) 3 0) 4 0) 5 0) 6 0) 7 0) 8 0) 9 0) 10 0) 11 0) 12 0)))]) (j := 12) (x' := 0) C hP hD hS 2 rfl (vin (by decide)) (by decide) (by decide) rfl dX12_freeUnits_21 (fun H locs hP hD hS => ?_)
  refine lv_iinc (v := 13) (lv' := [(1, .int 13), (0, .ref a0)]) C.1 C.2.1 dX12_freeUnits_22 hl (k := 0) rfl (by decide) (by decide) rfl (fun ls hl => ?_)
  refine lv_goto (tgt := 2) C.1 C.2.1 dX12_freeUnits_25 (by decide) ?_
  refine lv_iload_n C.1 C.2.1 dX12_freeUnits_2 rfl (lv_at hl 0 rfl) ?_
  refine lv_bipush (v := 20) C.1 C.2.1 dX12_freeUnits_3 (by decide) ?_
  refine lv_icmp_ge (tgt := 28) C.1 C.2.1 dX12_freeUnits_5 (by decide) (fun h => absurd h (by decide)) (fun _ => ?_)
  refine lv_aload_n C.1 C.2.1 dX12_freeUnits_8 rfl (lv_at hl 1 rfl) ?_
  refine k_get (v := .ref a1) C hP 0 rfl rfl inlX12 19 (by decide) m_7_9 e0_19 dX12_freeUnits_9 ?_
  refine lv_iload_n C.1 C.2.1 dX12_freeUnits_12 rfl (lv_at hl 0 rfl) ?_
  refine lv_lconst (v := 0) C.1 C.2.1 dX12_freeUnits_13 (by decide) ?_
  refine k_lst (ws' := [(a0, .inr (11, s0)), (a1, .inl (K 1, 20, .inr (.inl (vp_updL (vp_updL (vp_updL (vp_updL (vp_updL (vp_updL (vp_updL (vp_updL (vp_updL (vp_updL (vp_updL (vp_updL (vp_updL (vp_updL f1 0 0) 1 0) 2 0) 3 0) 4 0) 5 0) 6 0) 7 0) 8 0) 9 0) 10 0) 11 0) 12 0) 13 0)))), (a2, .inl (K 3, 20, .inl (upd (upd (upd (upd (upd (upd (upd (upd (upd (upd (upd (upd (upd f2 0 0) 1 0) 2 0) 3 0) 4 0) 5 0) 6 0) 7 0) 8 0) 9 0) 10 0) 11 0) 12 0)))]) (j := 13) (x' := 0) C hP hD hS 1 rfl (vin (by decide)) (by decide) rfl rfl dX12_freeUnits_14 (fun H locs hP hD hS => ?_)
  refine lv_aload_n C.1 C.2.1 dX12_freeUnits_15 rfl (lv_at hl 1 rfl) ?_
  refine k_get (v := .ref a2) C hP 0 rfl rfl inlX12 20 (by decide) m_7_10 e0_20 dX12_freeUnits_16 ?_
  refine lv_iload_n C.1 C.2.1 dX12_freeUnits_19 rfl (lv_at hl 0 rfl) ?_
  refine lv_iconst (v := 0) C.1 C.2.1 dX12_freeUnits_20 (by decide) ?_
  refine k_zst (ws' := [(a0, .inr (11, s0)), (a1, .inl (K 1, 20, .inr (.inl (vp_updL (vp_updL (vp_updL (vp_updL (vp_updL (vp_updL (vp_updL (vp_updL (vp_updL (vp_updL (vp_updL (vp_updL (vp_updL (vp_updL f1 0 0) 1 0) 2 0) 3 0) 4 0) 5 0) 6 0) 7 0) 8 0) 9 0) 10 0) 11 0) 12 0) 13 0)))), (a2, .inl (K 3, 20, .inl (upd (upd (upd (upd (upd (upd (upd (upd (upd (upd (upd (upd (upd (upd f2 0 0) 1 0) 2 0) 3 0) 4 0) 5 0) 6 0) 7 0) 8 0) 9 0) 10 0) 11 0) 12 0) 13 0)))]) (j := 13) (x' := 0) C hP hD hS 2 rfl (vin (by decide)) (by decide) (by decide) rfl dX12_freeUnits_21 (fun H locs hP hD hS => ?_)
  refine lv_iinc (v := 14) (lv' := [(1, .int 14), (0, .ref a0)]) C.1 C.2.1 dX12_freeUnits_22 hl (k := 0) rfl (by decide) (by decide) rfl (fun ls hl => ?_)
  refine lv_goto (tgt := 2) C.1 C.2.1 dX12_freeUnits_25 (by decide) ?_
  refine lv_iload_n C.1 C.2.1 dX12_freeUnits_2 rfl (lv_at hl 0 rfl) ?_
  refine lv_bipush (v := 20) C.1 C.2.1 dX12_freeUnits_3 (by decide) ?_
  refine lv_icmp_ge (tgt := 28) C.1 C.2.1 dX12_freeUnits_5 (by decide) (fun h => absurd h (by decide)) (fun _ => ?_)
  refine lv_aload_n C.1 C.2.1 dX12_freeUnits_8 rfl (lv_at hl 1 rfl) ?_
  refine k_get (v := .ref a1) C hP 0 rfl rfl inlX12 19 (by decide) m_7_9 e0_19 dX12_freeUnits_9 ?_
  refine lv_iload_n C.1 C.2.1 dX12_freeUnits_12 rfl (lv_at hl 0 rfl) ?_
  refine lv_lconst (v := 0) C.1 C.2.1 dX12_freeUnits_13 (by decide) ?_
  refine k_lst (ws' := [(a0, .inr (11, s0)), (a1, .inl (K 1, 20, .inr (.inl (vp_updL (vp_updL (vp_updL (vp_updL (vp_updL (vp_updL (vp_updL (vp_updL (vp_updL (vp_updL (vp_updL (vp_updL (vp_updL (vp_updL (vp_updL f1 0 0) 1 0) 2 0) 3 0) 4 0) 5 0) 6 0) 7 0) 8 0) 9 0) 10 0) 11 0) 12 0) 13 0) 14 0)))), (a2, .inl (K 3, 20, .inl (upd (upd (upd (upd (upd (upd (upd (upd (upd (upd (upd (upd (upd (upd f2 0 0) 1 0) 2 0) 3 0) 4 0) 5 0) 6 0) 7 0) 8 0) 9 0) 10 0) 11 0) 12 0) 13 0)))]) (j := 14) (x' := 0) C hP hD hS 1 rfl (vin (by decide)) (by decide) rfl rfl dX12_freeUnits_14 (fun H locs hP hD hS => ?_)
  refine lv_aload_n C.1 C.2.1 dX12_freeUnits_15 rfl (lv_at hl 1 rfl) ?_
  refine k_get (v := .ref a2) C hP 0 rfl rfl inlX12 20 (by decide) m_7_10 e0_20 dX12_freeUnits_16 ?_
  refine lv_iload_n C.1 C.2.1 dX12_freeUnits_19 rfl (lv_at hl 0 rfl) ?_
  refine lv_iconst (v := 0) C.1 C.2.1 dX12_freeUnits_20 (by decide) ?_
  refine k_zst (ws' := [(a0, .inr (11, s0)), (a1, .inl (K 1, 20, .inr (.inl (vp_updL (vp_updL (vp_updL (vp_updL (vp_updL (vp_updL (vp_updL (vp_updL (vp_updL (vp_updL (vp_updL (vp_updL (vp_updL (vp_updL (vp_updL f1 0 0) 1 0) 2 0) 3 0) 4 0) 5 0) 6 0) 7 0) 8 0) 9 0) 10 0) 11 0) 12 0) 13 0) 14 0)))), (a2, .inl (K 3, 20, .inl (upd (upd (upd (upd (upd (upd (upd (upd (upd (upd (upd (upd (upd (upd (upd f2 0 0) 1 0) 2 0) 3 0) 4 0) 5 0) 6 0) 7 0) 8 0) 9 0) 10 0) 11 0) 12 0) 13 0) 14 0)))]) (j := 14) (x' := 0) C hP hD hS 2 rfl (vin (by decide)) (by decide) (by decide) rfl dX12_freeUnits_21 (fun H locs hP hD hS => ?_)
  refine lv_iinc (v := 15) (lv' := [(1, .int 15), (0, .ref a0)]) C.1 C.2.1 dX12_freeUnits_22 hl (k := 0) rfl (by decide) (by decide) rfl (fun ls hl => ?_)
  refine lv_goto (tgt := 2) C.1 C.2.1 dX12_freeUnits_25 (by decide) ?_
  refine lv_iload_n C.1 C.2.1 dX12_freeUnits_2 rfl (lv_at hl 0 rfl) ?_
  refine lv_bipush (v := 20) C.1 C.2.1 dX12_freeUnits_3 (by decide) ?_
  refine lv_icmp_ge (tgt := 28) C.1 C.2.1 dX12_freeUnits_5 (by decide) (fun h => absurd h (by decide)) (fun _ => ?_)
  refine lv_aload_n C.1 C.2.1 dX12_freeUnits_8 rfl (lv_at hl 1 rfl) ?_
  refine k_get (v := .ref a1) C hP 0 rfl rfl inlX12 19 (by decide) m_7_9 e0_19 dX12_freeUnits_9 ?_
  refine lv_iload_n C.1 C.2.1 dX12_freeUnits_12 rfl (lv_at hl 0 rfl) ?_
  refine lv_lconst (v := 0) C.1 C.2.1 dX12_freeUnits_13 (by decide) ?_
  refine k_lst (ws' := [(a0, .inr (11, s0)), (a1, .inl (K 1, 20, .inr (.inl (vp_updL (vp_updL (vp_updL (vp_updL (vp_updL (vp_updL (vp_updL (vp_updL (vp_updL (vp_updL (vp_updL (vp_updL (vp_updL (vp_updL (vp_updL (vp_updL f1 0 0) 1 0) 2 0) 3 0) 4 0) 5 0) 6 0) 7 0) 8 0) 9 0) 10 0) 11 0) 12 0) 13 0) 14 0) 15 0)))), (a2, .inl (K 3, 20, .inl (upd (upd (upd (upd (upd (upd (upd (upd (upd (upd (upd (upd (upd (upd (upd f2 0 0) 1 0) 2 0) 3 0) 4 0) 5 0) 6 0) 7 0) 8 0) 9 0) 10 0) 11 0) 12 0) 13 0) 14 0)))]) (j := 15) (x' := 0) C hP hD hS 1 rfl (vin (by decide)) (by decide) rfl rfl dX12_freeUnits_14 (fun H locs hP hD hS => ?_)
  refine lv_aload_n C.1 C.2.1 dX12_freeUnits_15 rfl (lv_at hl 1 rfl) ?_
  refine k_get (v := .ref a2) C hP 0 rfl rfl inlX12 20 (by decide) m_7_10 e0_20 dX12_freeUnits_16 ?_
  refine lv_iload_n C.1 C.2.1 dX12_freeUnits_19 rfl (lv_at hl 0 rfl) ?_
  refine lv_iconst (v := 0) C.1 C.2.1 dX12_freeUnits_20 (by decide) ?_
  refine k_zst (ws' := [(a0, .inr (11, s0)), (a1, .inl (K 1, 20, .inr (.inl (vp_updL (vp_updL (vp_updL (vp_updL (vp_updL (vp_updL (vp_updL (vp_updL (vp_updL (vp_updL (vp_updL (vp_updL (vp_updL (vp_updL (vp_updL (vp_updL f1 0 0) 1 0) 2 0) 3 0) 4 0) 5 0) 6 0) 7 0) 8 0) 9 0) 10 0) 11 0) 12 0) 13 0) 14 0) 15 0)))), (a2, .inl (K 3, 20, .inl (upd (upd (upd (upd (upd (upd (upd (upd (upd (upd (upd (upd (upd (upd (upd (upd f2 0 0) 1 0) 2 0) 3 0) 4 0) 5 0) 6 0) 7 0) 8 0) 9 0) 10 0) 11 0) 12 0) 13 0) 14 0) 15 0)))]) (j := 15) (x' := 0) C hP hD hS 2 rfl (vin (by decide)) (by decide) (by decide) rfl dX12_freeUnits_21 (fun H locs hP hD hS => ?_)
  refine lv_iinc (v := 16) (lv' := [(1, .int 16), (0, .ref a0)]) C.1 C.2.1 dX12_freeUnits_22 hl (k := 0) rfl (by decide) (by decide) rfl (fun ls hl => ?_)
  refine lv_goto (tgt := 2) C.1 C.2.1 dX12_freeUnits_25 (by decide) ?_
  refine lv_iload_n C.1 C.2.1 dX12_freeUnits_2 rfl (lv_at hl 0 rfl) ?_
  refine lv_bipush (v := 20) C.1 C.2.1 dX12_freeUnits_3 (by decide) ?_
  refine lv_icmp_ge (tgt := 28) C.1 C.2.1 dX12_freeUnits_5 (by decide) (fun h => absurd h (by decide)) (fun _ => ?_)
  refine lv_aload_n C.1 C.2.1 dX12_freeUnits_8 rfl (lv_at hl 1 rfl) ?_
  refine k_get (v := .ref a1) C hP 0 rfl rfl inlX12 19 (by decide) m_7_9 e0_19 dX12_freeUnits_9 ?_
  refine lv_iload_n C.1 C.2.1 dX12_freeUnits_12 rfl (lv_at hl 0 rfl) ?_
  refine lv_lconst (v := 0) C.1 C.2.1 dX12_freeUnits_13 (by decide) ?_
  refine k_lst (ws' := [(a0, .inr (11, s0)), (a1, .inl (K 1, 20, .inr (.inl (vp_updL (vp_updL (vp_updL (vp_updL (vp_updL (vp_updL (vp_updL (vp_updL (vp_updL (vp_updL (vp_updL (vp_updL (vp_updL (vp_updL (vp_updL (vp_updL (vp_updL f1 0 0) 1 0) 2 0) 3 0) 4 0) 5 0) 6 0) 7 0) 8 0) 9 0) 10 0) 11 0) 12 0) 13 0) 14 0) 15 0) 16 0)))), (a2, .inl (K 3, 20, .inl (upd (upd (upd (upd (upd (upd (upd (upd (upd (upd (upd (upd (upd (upd (upd (upd f2 0 0) 1 0) 2 0) 3 0) 4 0) 5 0) 6 0) 7 0) 8 0) 9 0) 10 0) 11 0) 12 0) 13 0) 14 0) 15 0)))]) (j := 16) (x' := 0) C hP hD hS 1 rfl (vin (by decide)) (by decide) rfl rfl dX12_freeUnits_14 (fun H locs hP hD hS => ?_)
  refine lv_aload_n C.1 C.2.1 dX12_freeUnits_15 rfl (lv_at hl 1 rfl) ?_
  refine k_get (v := .ref a2) C hP 0 rfl rfl inlX12 20 (by decide) m_7_10 e0_20 dX12_freeUnits_16 ?_
  refine lv_iload_n C.1 C.2.1 dX12_freeUnits_19 rfl (lv_at hl 0 rfl) ?_
  refine lv_iconst (v := 0) C.1 C.2.1 dX12_freeUnits_20 (by decide) ?_
  refine k_zst (ws' := [(a0, .inr (11, s0)), (a1, .inl (K 1, 20, .inr (.inl (vp_updL (vp_updL (vp_updL (vp_updL (vp_updL (vp_updL (vp_updL (vp_updL (vp_updL (vp_updL (vp_updL (vp_updL (vp_updL (vp_updL (vp_updL (vp_updL (vp_updL f1 0 0) 1 0) 2 0) 3 0) 4 0) 5 0) 6 0) 7 0) 8 0) 9 0) 10 0) 11 0) 12 0) 13 0) 14 0) 15 0) 16 0)))), (a2, .inl (K 3, 20, .inl (upd (upd (upd (upd (upd (upd (upd (upd (upd (upd (upd (upd (upd (upd (upd (upd (upd f2 0 0) 1 0) 2 0) 3 0) 4 0) 5 0) 6 0) 7 0) 8 0) 9 0) 10 0) 11 0) 12 0) 13 0) 14 0) 15 0) 16 0)))]) (j := 16) (x' := 0) C hP hD hS 2 rfl (vin (by decide)) (by decide) (by decide) rfl dX12_freeUnits_21 (fun H locs hP hD hS => ?_)
  refine lv_iinc (v := 17) (lv' := [(1, .int 17), (0, .ref a0)]) C.1 C.2.1 dX12_freeUnits_22 hl (k := 0) rfl (by decide) (by decide) rfl (fun ls hl => ?_)
  refine lv_goto (tgt := 2) C.1 C.2.1 dX12_freeUnits_25 (by decide) ?_
  refine lv_iload_n C.1 C.2.1 dX12_freeUnits_2 rfl (lv_at hl 0 rfl) ?_
  refine lv_bipush (v := 20) C.1 C.2.1 dX12_freeUnits_3 (by decide) ?_
  refine lv_icmp_ge (tgt := 28) C.1 C.2.1 dX12_freeUnits_5 (by decide) (fun h => absurd h (by decide)) (fun _ => ?_)
  refine lv_aload_n C.1 C.2.1 dX12_freeUnits_8 rfl (lv_at hl 1 rfl) ?_
  refine k_get (v := .ref a1) C hP 0 rfl rfl inlX12 19 (by decide) m_7_9 e0_19 dX12_freeUnits_9 ?_
  refine lv_iload_n C.1 C.2.1 dX12_freeUnits_12 rfl (lv_at hl 0 rfl) ?_
  refine lv_lconst (v := 0) C.1 C.2.1 dX12_freeUnits_13 (by decide) ?_
  refine k_lst (ws' := [(a0, .inr (11, s0)), (a1, .inl (K 1, 20, .inr (.inl (vp_updL (vp_updL (vp_updL (vp_updL (vp_updL (vp_updL (vp_updL (vp_updL (vp_updL (vp_updL (vp_updL (vp_updL (vp_updL (vp_updL (vp_updL (vp_updL (vp_updL (vp_updL f1 0 0) 1 0) 2 0) 3 0) 4 0) 5 0) 6 0) 7 0) 8 0) 9 0) 10 0) 11 0) 12 0) 13 0) 14 0) 15 0) 16 0) 17 0)))), (a2, .inl (K 3, 20, .inl (upd (upd (upd (upd (upd (upd (upd (upd (upd (upd (upd (upd (upd (upd (upd (upd (upd f2 0 0) 1 0) 2 0) 3 0) 4 0) 5 0) 6 0) 7 0) 8 0) 9 0) 10 0) 11 0) 12 0) 13 0) 14 0) 15 0) 16 0)))]) (j := 17) (x' := 0) C hP hD hS 1 rfl (vin (by decide)) (by decide) rfl rfl dX12_freeUnits_14 (fun H locs hP hD hS => ?_)
  refine lv_aload_n C.1 C.2.1 dX12_freeUnits_15 rfl (lv_at hl 1 rfl) ?_
  refine k_get (v := .ref a2) C hP 0 rfl rfl inlX12 20 (by decide) m_7_10 e0_20 dX12_freeUnits_16 ?_
  refine lv_iload_n C.1 C.2.1 dX12_freeUnits_19 rfl (lv_at hl 0 rfl) ?_
  refine lv_iconst (v := 0) C.1 C.2.1 dX12_freeUnits_20 (by decide) ?_
  refine k_zst (ws' := [(a0, .inr (11, s0)), (a1, .inl (K 1, 20, .inr (.inl (vp_updL (vp_updL (vp_updL (vp_updL (vp_updL (vp_updL (vp_updL (vp_updL (vp_updL (vp_updL (vp_updL (vp_updL (vp_updL (vp_updL (vp_updL (vp_updL (vp_updL (vp_updL f1 0 0) 1 0) 2 0) 3 0) 4 0) 5 0) 6 0) 7 0) 8 0) 9 0) 10 0) 11 0) 12 0) 13 0) 14 0) 15 0) 16 0) 17 0)))), (a2, .inl (K 3, 20, .inl (upd (upd (upd (upd (upd (upd (upd (upd (upd (upd (upd (upd (upd (upd (upd (upd (upd (upd f2 0 0) 1 0) 2 0) 3 0) 4 0) 5 0) 6 0) 7 0) 8 0) 9 0) 10 0) 11 0) 12 0) 13 0) 14 0) 15 0) 16 0) 17 0)))]) (j := 17) (x' := 0) C hP hD hS 2 rfl (vin (by decide)) (by decide) (by decide) rfl dX12_freeUnits_21 (fun H locs hP hD hS => ?_)
  refine lv_iinc (v := 18) (lv' := [(1, .int 18), (0, .ref a0)]) C.1 C.2.1 dX12_freeUnits_22 hl (k := 0) rfl (by decide) (by decide) rfl (fun ls hl => ?_)
  refine lv_goto (tgt := 2) C.1 C.2.1 dX12_freeUnits_25 (by decide) ?_
  refine lv_iload_n C.1 C.2.1 dX12_freeUnits_2 rfl (lv_at hl 0 rfl) ?_
  refine lv_bipush (v := 20) C.1 C.2.1 dX12_freeUnits_3 (by decide) ?_
  refine lv_icmp_ge (tgt := 28) C.1 C.2.1 dX12_freeUnits_5 (by decide) (fun h => absurd h (by decide)) (fun _ => ?_)
  refine lv_aload_n C.1 C.2.1 dX12_freeUnits_8 rfl (lv_at hl 1 rfl) ?_
  refine k_get (v := .ref a1) C hP 0 rfl rfl inlX12 19 (by decide) m_7_9 e0_19 dX12_freeUnits_9 ?_
  refine lv_iload_n C.1 C.2.1 dX12_freeUnits_12 rfl (lv_at hl 0 rfl) ?_
  refine lv_lconst (v := 0) C.1 C.2.1 dX12_freeUnits_13 (by decide) ?_
  refine k_lst (ws' := [(a0, .inr (11, s0)), (a1, .inl (K 1, 20, .inr (.inl (vp_updL (vp_updL (vp_updL (vp_updL (vp_updL (vp_updL (vp_updL (vp_updL (vp_updL (vp_updL (vp_updL (vp_updL (vp_updL (vp_updL (vp_updL (vp_updL (vp_updL (vp_updL (vp_updL f1 0 0) 1 0) 2 0) 3 0) 4 0) 5 0) 6 0) 7 0) 8 0) 9 0) 10 0) 11 0) 12 0) 13 0) 14 0) 15 0) 16 0) 17 0) 18 0)))), (a2, .inl (K 3, 20, .inl (upd (upd (upd (upd (upd (upd (upd (upd (upd (upd (upd (upd (upd (upd (upd (upd (upd (upd f2 0 0) 1 0) 2 0) 3 0) 4 0) 5 0) 6 0) 7 0) 8 0) 9 0) 10 0) 11 0) 12 0) 13 0) 14 0) 15 0) 16 0) 17 0)))]) (j := 18) (x' := 0) C hP hD hS 1 rfl (vin (by decide)) (by decide) rfl rfl dX12_freeUnits_14 (fun H locs hP hD hS => ?_)
  refine lv_aload_n C.1 C.2.1 dX12_freeUnits_15 rfl (lv_at hl 1 rfl) ?_
  refine k_get (v := .ref a2) C hP 0 rfl rfl inlX12 20 (by decide) m_7_10 e0_20 dX12_freeUnits_16 ?_
  refine lv_iload_n C.1 C.2.1 dX12_freeUnits_19 rfl (lv_at hl 0 rfl) ?_
  refine lv_iconst (v := 0) C.1 C.2.1 dX12_freeUnits_20 (by decide) ?_
  refine k_zst (ws' := [(a0, .inr (11, s0)), (a1, .inl (K 1, 20, .inr (.inl (vp_updL (vp_updL (vp_updL (vp_updL (vp_updL (vp_updL (vp_updL (vp_updL (vp_updL (vp_updL (vp_updL (vp_updL (vp_updL (vp_updL (vp_updL (vp_updL (vp_updL (vp_updL (vp_updL f1 0 0) 1 0) 2 0) 3 0) 4 0) 5 0) 6 0) 7 0) 8 0) 9 0) 10 0) 11 0) 12 0) 13 0) 14 0) 15 0) 16 0) 17 0) 18 0)))), (a2, .inl (K 3, 20, .inl (upd (upd (upd (upd (upd (upd (upd (upd (upd (upd (upd (upd (upd (upd (upd (upd (upd (upd (upd f2 0 0) 1 0) 2 0) 3 0) 4 0) 5 0) 6 0) 7 0) 8 0) 9 0) 10 0) 11 0) 12 0) 13 0) 14 0) 15 0) 16 0) 17 0) 18 0)))]) (j := 18) (x' := 0) C hP hD hS 2 rfl (vin (by decide)) (by decide) (by decide) rfl dX12_freeUnits_21 (fun H locs hP hD hS => ?_)
  refine lv_iinc (v := 19) (lv' := [(1, .int 19), (0, .ref a0)]) C.1 C.2.1 dX12_freeUnits_22 hl (k := 0) rfl (by decide) (by decide) rfl (fun ls hl => ?_)
  refine lv_goto (tgt := 2) C.1 C.2.1 dX12_freeUnits_25 (by decide) ?_
  refine lv_iload_n C.1 C.2.1 dX12_freeUnits_2 rfl (lv_at hl 0 rfl) ?_
  refine lv_bipush (v := 20) C.1 C.2.1 dX12_freeUnits_3 (by decide) ?_
  refine lv_icmp_ge (tgt := 28) C.1 C.2.1 dX12_freeUnits_5 (by decide) (fun h => absurd h (by decide)) (fun _ => ?_)
  refine lv_aload_n C.1 C.2.1 dX12_freeUnits_8 rfl (lv_at hl 1 rfl) ?_
  refine k_get (v := .ref a1) C hP 0 rfl rfl inlX12 19 (by decide) m_7_9 e0_19 dX12_freeUnits_9 ?_
  refine lv_iload_n C.1 C.2.1 dX12_freeUnits_12 rfl (lv_at hl 0 rfl) ?_
  refine lv_lconst (v := 0) C.1 C.2.1 dX12_freeUnits_13 (by decide) ?_
  refine k_lst (ws' := [(a0, .inr (11, s0)), (a1, .inl (K 1, 20, .inr (.inl (vp_updL (vp_updL (vp_updL (vp_updL (vp_updL (vp_updL (vp_updL (vp_updL (vp_updL (vp_updL (vp_updL (vp_updL (vp_updL (vp_updL (vp_updL (vp_updL (vp_updL (vp_updL (vp_updL (vp_updL f1 0 0) 1 0) 2 0) 3 0) 4 0) 5 0) 6 0) 7 0) 8 0) 9 0) 10 0) 11 0) 12 0) 13 0) 14 0) 15 0) 16 0) 17 0) 18 0) 19 0)))), (a2, .inl (K 3, 20, .inl (upd (upd (upd (upd (upd (upd (upd (upd (upd (upd (upd (upd (upd (upd (upd (upd (upd (upd (upd f2 0 0) 1 0) 2 0) 3 0) 4 0) 5 0) 6 0) 7 0) 8 0) 9 0) 10 0) 11 0) 12 0) 13 0) 14 0) 15 0) 16 0) 17 0) 18 0)))]) (j := 19) (x' := 0) C hP hD hS 1 rfl (vin (by decide)) (by decide) rfl rfl dX12_freeUnits_14 (fun H locs hP hD hS => ?_)
  refine lv_aload_n C.1 C.2.1 dX12_freeUnits_15 rfl (lv_at hl 1 rfl) ?_
  refine k_get (v := .ref a2) C hP 0 rfl rfl inlX12 20 (by decide) m_7_10 e0_20 dX12_freeUnits_16 ?_
  refine lv_iload_n C.1 C.2.1 dX12_freeUnits_19 rfl (lv_at hl 0 rfl) ?_
  refine lv_iconst (v := 0) C.1 C.2.1 dX12_freeUnits_20 (by decide) ?_
  refine k_zst (ws' := [(a0, .inr (11, s0)), (a1, .inl (K 1, 20, .inr (.inl (vp_updL (vp_updL (vp_updL (vp_updL (vp_updL (vp_updL (vp_updL (vp_updL (vp_updL (vp_updL (vp_updL (vp_updL (vp_updL (vp_updL (vp_updL (vp_updL (vp_updL (vp_updL (vp_updL (vp_updL f1 0 0) 1 0) 2 0) 3 0) 4 0) 5 0) 6 0) 7 0) 8 0) 9 0) 10 0) 11 0) 12 0) 13 0) 14 0) 15 0) 16 0) 17 0) 18 0) 19 0)))), (a2, .inl (K 3, 20, .inl (upd (upd (upd (upd (upd (upd (upd (upd (upd (upd (upd (upd (upd (upd (upd (upd (upd (upd (upd (upd f2 0 0) 1 0) 2 0) 3 0) 4 0) 5 0) 6 0) 7 0) 8 0) 9 0) 10 0) 11 0) 12 0) 13 0) 14 0) 15 0) 16 0) 17 0) 18 0) 19 0)))]) (j := 19) (x' := 0) C hP hD hS 2 rfl (vin (by decide)) (by decide) (by decide) rfl dX12_freeUnits_21 (fun H locs hP hD hS => ?_)
  refine lv_iinc (v := 20) (lv' := [(1, .int 20), (0, .ref a0)]) C.1 C.2.1 dX12_freeUnits_22 hl (k := 0) rfl (by decide) (by decide) rfl (fun ls hl => ?_)
  refine lv_goto (tgt := 2) C.1 C.2.1 dX12_freeUnits_25 (by decide) ?_
  refine lv_iload_n C.1 C.2.1 dX12_freeUnits_2 rfl (lv_at hl 0 rfl) ?_
  refine lv_bipush (v := 20) C.1 C.2.1 dX12_freeUnits_3 (by decide) ?_
  refine lv_icmp_ge (tgt := 28) C.1 C.2.1 dX12_freeUnits_5 (by decide) (fun _ => ?_) (fun h => absurd (by decide) h)
  exact k_vret C hr hlocks hP hD hS (fun _ => 0) [0, 1, 2] rfl rfl trivial (Nat.le_of_ble_eq_true rfl) (Nat.le_of_ble_eq_true rfl) dX12_freeUnits_28
set_option maxHeartbeats 4000000 in
set_option maxRecDepth 100000 in
theorem c_X12_clearMachine (l : Launch) (D : va_G) (K : Nat → ClassId) (a0 : Nat) (a1 : Nat) (a2 : Nat) (a3 : Nat) (a4 : Nat) (s0 : List Value) (n0 : s0.length = 94) (f1 : Nat → Int32) (f2 : Nat → Int32) (f3 : Nat → Int64) (f4 : Nat → Int32) (e0_3 : s0[3]? = some (.ref a1)) (e0_4 : s0[4]? = some (.ref a2)) (e0_19 : s0[19]? = some (.ref a3)) (e0_20 : s0[20]? = some (.ref a4)) : uMet l yX12_clearMachine cX12_clearMachine 2 none (rmD 1 0 0) D K X0 [.ref a0] [(a0, .inr (11, s0)), (a1, .inl (K 0, 7999, .inl f1)), (a2, .inl (K 0, 9, .inl f2)), (a3, .inl (K 1, 20, .inr (.inl f3))), (a4, .inl (K 3, 20, .inl f4))] (QV D K (fun (u : Nat → Nat) => True) (fun (u : Nat → Nat) => [(a0, .inr (11, (((((((((s0.set 5 (.int 0)).set 6 (.int 1)).set 7 (.int 0)).set 8 (.long 0)).set 9 (.int 9)).set 10 (.int 0)).set 11 (.int 0)).set 12 (.int 0)).set 91 (.int 0)))), (a1, .inl (K 0, 7999, .inl (fun _ => 0))), (a2, .inl (K 0, 9, .inl (fun _ => 0))), (a3, .inl (K 1, 20, .inr (.inl (vp_updL (vp_updL (vp_updL (vp_updL (vp_updL (vp_updL (vp_updL (vp_updL (vp_updL (vp_updL (vp_updL (vp_updL (vp_updL (vp_updL (vp_updL (vp_updL (vp_updL (vp_updL (vp_updL (vp_updL f3 0 0) 1 0) 2 0) 3 0) 4 0) 5 0) 6 0) 7 0) 8 0) 9 0) 10 0) 11 0) 12 0) 13 0) 14 0) 15 0) 16 0) 17 0) 18 0) 19 0)))), (a4, .inl (K 3, 20, .inl (upd (upd (upd (upd (upd (upd (upd (upd (upd (upd (upd (upd (upd (upd (upd (upd (upd (upd (upd (upd f4 0 0) 1 0) 2 0) 3 0) 4 0) 5 0) 6 0) 7 0) 8 0) 9 0) 10 0) 11 0) 12 0) 13 0) 14 0) 15 0) 16 0) 17 0) 18 0) 19 0)))])) 0 0 := by
  refine k_met RX12 ⟨rfl, by decide +kernel⟩ (Nat.le_of_ble_eq_true rfl) ?_
  intro p e s m below meth c A ls C hX hr hlocks hin hA hP hD hS hl
  have hl : lv_has ls 2 [(0, .ref a0)] := hl
  refine lv_aload_n C.1 C.2.1 dX12_clearMachine_0 rfl (lv_at hl 0 rfl) ?_
  refine k_Vv (As := []) (rest := []) C hP hD hS hA (c_X12_clearMemory l D K a0 a1 s0 n0 f1 e0_3) X0_ok trivial (uwV m_30_4 m_30_5 m_30_6 m_1_5 m_30_7) (hdV 0 (by decide +kernel) rfl) ⟨Nat.le_of_ble_eq_true rfl, Nat.le_of_ble_eq_true rfl⟩ rfl rfl (ci := 11) rfl rfl (isC := [0, 1]) (isR := [2, 3, 4]) (wr := [(a2, .inl (K 0, 9, .inl f2)), (a3, .inl (K 1, 20, .inr (.inl f3))), (a4, .inl (K 3, 20, .inl f4))]) ⟨rfl, rfl, rfl, rfl, by decide⟩ rfl hl.1 (Nat.le_of_ble_eq_true rfl) dX12_clearMachine_1 ⟨Nat.le_of_ble_eq_true rfl, Nat.le_of_ble_eq_true rfl⟩ (fun u_1 H locs hw hP hD hS => ?_)
  have hP : va_P D vwCl [(a2, .inl (K 0, 9, .inl f2)), (a3, .inl (K 1, 20, .inr (.inl f3))), (a4, .inl (K 3, 20, .inl f4)), (a0, .inr (11, s0)), (a1, .inl (K 0, 7999, .inl (fun _ => 0)))] H := hP
  have hD : va_D A [(a2, .inl (K 0, 9, .inl f2)), (a3, .inl (K 1, 20, .inr (.inl f3))), (a4, .inl (K 3, 20, .inl f4)), (a0, .inr (11, s0)), (a1, .inl (K 0, 7999, .inl (fun _ => 0)))] := hD
  refine lv_iconst (v := 0) C.1 C.2.1 dX12_clearMachine_4 (by decide) ?_
  refine lv_istore_n (lv' := [(1, .int 0), (0, .ref a0)]) C.1 C.2.1 dX12_clearMachine_5 rfl hl (by decide) rfl (fun ls hl => ?_)
  refine k_loopI (h2 := 9) (h3 := 18) (ex := 25) C 9 (by decide) 0 0 rfl (q0 := 3) (q1 := 0) (by decide) rfl rfl inlX12 (k := 4) (by decide) m_7_6 e0_4 rfl (by decide) dX12_clearMachine_6 (fun _ _ _ _ k => lv_bipush (v := nI 9) C.1 C.2.1 dX12_clearMachine_7 (by decide) k) dX12_clearMachine_9 (by decide) dX12_clearMachine_12 dX12_clearMachine_13 dX12_clearMachine_16 (fun _ _ _ _ k => lv_iconst (v := 0) C.1 C.2.1 dX12_clearMachine_17 (by decide) k) dX12_clearMachine_18 dX12_clearMachine_19 dX12_clearMachine_22 (by decide) (fun H locs ls hP hD hS hl => ?_) _ _ _ hP hD hS (lv_sub hl [0, 1] rfl)
  have hP : va_P D vwCl [(a2, .inl (K 0, 9, .inl (fun _ => 0))), (a3, .inl (K 1, 20, .inr (.inl f3))), (a4, .inl (K 3, 20, .inl f4)), (a0, .inr (11, s0)), (a1, .inl (K 0, 7999, .inl (fun _ => 0)))] H := hP
  have hD : va_D A [(a2, .inl (K 0, 9, .inl (fun _ => 0))), (a3, .inl (K 1, 20, .inr (.inl f3))), (a4, .inl (K 3, 20, .inl f4)), (a0, .inr (11, s0)), (a1, .inl (K 0, 7999, .inl (fun _ => 0)))] := hD
  have hl : lv_has ls 2 [(1, .int 9), (0, .ref a0)] := hl
  refine lv_aload_n C.1 C.2.1 dX12_clearMachine_25 rfl (lv_at hl 1 rfl) ?_
  refine lv_iconst (v := 0) C.1 C.2.1 dX12_clearMachine_26 (by decide) ?_
  refine k_put (ws' := [(a2, .inl (K 0, 9, .inl (fun _ => 0))), (a3, .inl (K 1, 20, .inr (.inl f3))), (a4, .inl (K 3, 20, .inl f4)), (a0, .inr (11, (s0.set 5 (.int 0)))), (a1, .inl (K 0, 7999, .inl (fun _ => 0)))]) (v := .int 0) C hP hD hS 3 rfl rfl inlX12 tyX12_ok nmX12 5 (by decide) m_29_21 rfl (by decide) (by decide) n0 rfl dX12_clearMachine_27 (fun H locs hP hD hS => ?_)
  refine lv_aload_n C.1 C.2.1 dX12_clearMachine_30 rfl (lv_at hl 1 rfl) ?_
  refine lv_iconst (v := 1) C.1 C.2.1 dX12_clearMachine_31 (by decide) ?_
  refine k_put (ws' := [(a2, .inl (K 0, 9, .inl (fun _ => 0))), (a3, .inl (K 1, 20, .inr (.inl f3))), (a4, .inl (K 3, 20, .inl f4)), (a0, .inr (11, ((s0.set 5 (.int 0)).set 6 (.int 1)))), (a1, .inl (K 0, 7999, .inl (fun _ => 0)))]) (v := .int 1) C hP hD hS 3 rfl rfl inlX12 tyX12_ok nmX12 6 (by decide) m_7_7 rfl rfl rfl (sl n0) rfl dX12_clearMachine_32 (fun H locs hP hD hS => ?_)
  refine lv_aload_n C.1 C.2.1 dX12_clearMachine_35 rfl (lv_at hl 1 rfl) ?_
  refine lv_iconst (v := 0) C.1 C.2.1 dX12_clearMachine_36 (by decide) ?_
  refine k_put (ws' := [(a2, .inl (K 0, 9, .inl (fun _ => 0))), (a3, .inl (K 1, 20, .inr (.inl f3))), (a4, .inl (K 3, 20, .inl f4)), (a0, .inr (11, (((s0.set 5 (.int 0)).set 6 (.int 1)).set 7 (.int 0)))), (a1, .inl (K 0, 7999, .inl (fun _ => 0)))]) (v := .int 0) C hP hD hS 3 rfl rfl inlX12 tyX12_ok nmX12 7 (by decide) m_29_22 rfl rfl rfl (sl (sl n0)) rfl dX12_clearMachine_37 (fun H locs hP hD hS => ?_)
  refine lv_aload_n C.1 C.2.1 dX12_clearMachine_40 rfl (lv_at hl 1 rfl) ?_
  refine lv_lconst (v := 0) C.1 C.2.1 dX12_clearMachine_41 (by decide) ?_
  refine k_put (ws' := [(a2, .inl (K 0, 9, .inl (fun _ => 0))), (a3, .inl (K 1, 20, .inr (.inl f3))), (a4, .inl (K 3, 20, .inl f4)), (a0, .inr (11, ((((s0.set 5 (.int 0)).set 6 (.int 1)).set 7 (.int 0)).set 8 (.long 0)))), (a1, .inl (K 0, 7999, .inl (fun _ => 0)))]) (v := .long 0) C hP hD hS 3 rfl rfl inlX12 tyX12_ok nmX12 8 (by decide) m_29_23 rfl rfl rfl (sl (sl (sl n0))) rfl dX12_clearMachine_42 (fun H locs hP hD hS => ?_)
  refine lv_aload_n C.1 C.2.1 dX12_clearMachine_45 rfl (lv_at hl 1 rfl) ?_
  refine lv_bipush (v := 9) C.1 C.2.1 dX12_clearMachine_46 (by decide) ?_
  refine k_put (ws' := [(a2, .inl (K 0, 9, .inl (fun _ => 0))), (a3, .inl (K 1, 20, .inr (.inl f3))), (a4, .inl (K 3, 20, .inl f4)), (a0, .inr (11, (((((s0.set 5 (.int 0)).set 6 (.int 1)).set 7 (.int 0)).set 8 (.long 0)).set 9 (.int 9)))), (a1, .inl (K 0, 7999, .inl (fun _ => 0)))]) (v := .int 9) C hP hD hS 3 rfl rfl inlX12 tyX12_ok nmX12 9 (by decide) m_7_8 rfl rfl rfl (sl (sl (sl (sl n0)))) rfl dX12_clearMachine_48 (fun H locs hP hD hS => ?_)
  refine lv_aload_n C.1 C.2.1 dX12_clearMachine_51 rfl (lv_at hl 1 rfl) ?_
  refine lv_iconst (v := 0) C.1 C.2.1 dX12_clearMachine_52 (by decide) ?_
  refine k_put (ws' := [(a2, .inl (K 0, 9, .inl (fun _ => 0))), (a3, .inl (K 1, 20, .inr (.inl f3))), (a4, .inl (K 3, 20, .inl f4)), (a0, .inr (11, ((((((s0.set 5 (.int 0)).set 6 (.int 1)).set 7 (.int 0)).set 8 (.long 0)).set 9 (.int 9)).set 10 (.int 0)))), (a1, .inl (K 0, 7999, .inl (fun _ => 0)))]) (v := .int 0) C hP hD hS 3 rfl rfl inlX12 tyX12_ok nmX12 10 (by decide) m_30_0 rfl (by decide) (by decide) (sl (sl (sl (sl (sl n0))))) rfl dX12_clearMachine_53 (fun H locs hP hD hS => ?_)
  refine lv_aload_n C.1 C.2.1 dX12_clearMachine_56 rfl (lv_at hl 1 rfl) ?_
  refine lv_iconst (v := 0) C.1 C.2.1 dX12_clearMachine_57 (by decide) ?_
  refine k_put (ws' := [(a2, .inl (K 0, 9, .inl (fun _ => 0))), (a3, .inl (K 1, 20, .inr (.inl f3))), (a4, .inl (K 3, 20, .inl f4)), (a0, .inr (11, (((((((s0.set 5 (.int 0)).set 6 (.int 1)).set 7 (.int 0)).set 8 (.long 0)).set 9 (.int 9)).set 10 (.int 0)).set 11 (.int 0)))), (a1, .inl (K 0, 7999, .inl (fun _ => 0)))]) (v := .int 0) C hP hD hS 3 rfl rfl inlX12 tyX12_ok nmX12 11 (by decide) m_30_1 rfl (by decide) (by decide) (sl (sl (sl (sl (sl (sl n0)))))) rfl dX12_clearMachine_58 (fun H locs hP hD hS => ?_)
  refine lv_aload_n C.1 C.2.1 dX12_clearMachine_61 rfl (lv_at hl 1 rfl) ?_
  refine lv_iconst (v := 0) C.1 C.2.1 dX12_clearMachine_62 (by decide) ?_
  refine k_put (ws' := [(a2, .inl (K 0, 9, .inl (fun _ => 0))), (a3, .inl (K 1, 20, .inr (.inl f3))), (a4, .inl (K 3, 20, .inl f4)), (a0, .inr (11, ((((((((s0.set 5 (.int 0)).set 6 (.int 1)).set 7 (.int 0)).set 8 (.long 0)).set 9 (.int 9)).set 10 (.int 0)).set 11 (.int 0)).set 12 (.int 0)))), (a1, .inl (K 0, 7999, .inl (fun _ => 0)))]) (v := .int 0) C hP hD hS 3 rfl rfl inlX12 tyX12_ok nmX12 12 (by decide) m_30_2 rfl (by decide) (by decide) (sl (sl (sl (sl (sl (sl (sl n0))))))) rfl dX12_clearMachine_63 (fun H locs hP hD hS => ?_)
  refine lv_aload_n C.1 C.2.1 dX12_clearMachine_66 rfl (lv_at hl 1 rfl) ?_
  refine lv_iconst (v := 0) C.1 C.2.1 dX12_clearMachine_67 (by decide) ?_
  refine k_put (ws' := [(a2, .inl (K 0, 9, .inl (fun _ => 0))), (a3, .inl (K 1, 20, .inr (.inl f3))), (a4, .inl (K 3, 20, .inl f4)), (a0, .inr (11, (((((((((s0.set 5 (.int 0)).set 6 (.int 1)).set 7 (.int 0)).set 8 (.long 0)).set 9 (.int 9)).set 10 (.int 0)).set 11 (.int 0)).set 12 (.int 0)).set 91 (.int 0)))), (a1, .inl (K 0, 7999, .inl (fun _ => 0)))]) (v := .int 0) C hP hD hS 3 rfl rfl inlX12 tyX12_ok nmX12 91 (by decide) m_30_3 rfl rfl rfl (sl (sl (sl (sl (sl (sl (sl (sl n0)))))))) rfl dX12_clearMachine_68 (fun H locs hP hD hS => ?_)
  refine lv_aload_n C.1 C.2.1 dX12_clearMachine_71 rfl (lv_at hl 1 rfl) ?_
  refine k_Vv (As := []) (rest := []) C hP hD hS hA (c_X12_freeUnits l D K a0 a3 a4 ((((((((((s0.set 5 (.int 0)).set 6 (.int 1)).set 7 (.int 0)).set 8 (.long 0)).set 9 (.int 9)).set 10 (.int 0)).set 11 (.int 0)).set 12 (.int 0)).set 91 (.int 0))) (sl (sl (sl (sl (sl (sl (sl (sl (sl n0))))))))) f3 f4 (sn (by decide) (sn (by decide) (sn (by decide) (sn (by decide) (sn (by decide) (sn (by decide) (sn (by decide) (sn (by decide) (sn (by decide) e0_19))))))))) (sn (by decide) (sn (by decide) (sn (by decide) (sn (by decide) (sn (by decide) (sn (by decide) (sn (by decide) (sn (by decide) (sn (by decide) e0_20)))))))))) X0_ok trivial (uwV m_30_8 m_30_9 m_30_10 m_1_5 m_30_11) (hdV 0 (by decide +kernel) rfl) ⟨Nat.le_of_ble_eq_true rfl, Nat.le_of_ble_eq_true rfl⟩ rfl rfl (ci := 11) rfl rfl (isC := [3, 1, 2]) (isR := [0, 4]) (wr := [(a2, .inl (K 0, 9, .inl (fun _ => 0))), (a1, .inl (K 0, 7999, .inl (fun _ => 0)))]) ⟨rfl, rfl, rfl, rfl, by decide⟩ rfl hl.1 (Nat.le_of_ble_eq_true rfl) dX12_clearMachine_72 ⟨Nat.le_of_ble_eq_true rfl, Nat.le_of_ble_eq_true rfl⟩ (fun u_3 H locs hw hP hD hS => ?_)
  have hP : va_P D vwCl [(a2, .inl (K 0, 9, .inl (fun _ => 0))), (a1, .inl (K 0, 7999, .inl (fun _ => 0))), (a0, .inr (11, (((((((((s0.set 5 (.int 0)).set 6 (.int 1)).set 7 (.int 0)).set 8 (.long 0)).set 9 (.int 9)).set 10 (.int 0)).set 11 (.int 0)).set 12 (.int 0)).set 91 (.int 0)))), (a3, .inl (K 1, 20, .inr (.inl (vp_updL (vp_updL (vp_updL (vp_updL (vp_updL (vp_updL (vp_updL (vp_updL (vp_updL (vp_updL (vp_updL (vp_updL (vp_updL (vp_updL (vp_updL (vp_updL (vp_updL (vp_updL (vp_updL (vp_updL f3 0 0) 1 0) 2 0) 3 0) 4 0) 5 0) 6 0) 7 0) 8 0) 9 0) 10 0) 11 0) 12 0) 13 0) 14 0) 15 0) 16 0) 17 0) 18 0) 19 0)))), (a4, .inl (K 3, 20, .inl (upd (upd (upd (upd (upd (upd (upd (upd (upd (upd (upd (upd (upd (upd (upd (upd (upd (upd (upd (upd f4 0 0) 1 0) 2 0) 3 0) 4 0) 5 0) 6 0) 7 0) 8 0) 9 0) 10 0) 11 0) 12 0) 13 0) 14 0) 15 0) 16 0) 17 0) 18 0) 19 0)))] H := hP
  have hD : va_D A [(a2, .inl (K 0, 9, .inl (fun _ => 0))), (a1, .inl (K 0, 7999, .inl (fun _ => 0))), (a0, .inr (11, (((((((((s0.set 5 (.int 0)).set 6 (.int 1)).set 7 (.int 0)).set 8 (.long 0)).set 9 (.int 9)).set 10 (.int 0)).set 11 (.int 0)).set 12 (.int 0)).set 91 (.int 0)))), (a3, .inl (K 1, 20, .inr (.inl (vp_updL (vp_updL (vp_updL (vp_updL (vp_updL (vp_updL (vp_updL (vp_updL (vp_updL (vp_updL (vp_updL (vp_updL (vp_updL (vp_updL (vp_updL (vp_updL (vp_updL (vp_updL (vp_updL (vp_updL f3 0 0) 1 0) 2 0) 3 0) 4 0) 5 0) 6 0) 7 0) 8 0) 9 0) 10 0) 11 0) 12 0) 13 0) 14 0) 15 0) 16 0) 17 0) 18 0) 19 0)))), (a4, .inl (K 3, 20, .inl (upd (upd (upd (upd (upd (upd (upd (upd (upd (upd (upd (upd (upd (upd (upd (upd (upd (upd (upd (upd f4 0 0) 1 0) 2 0) 3 0) 4 0) 5 0) 6 0) 7 0) 8 0) 9 0) 10 0) 11 0) 12 0) 13 0) 14 0) 15 0) 16 0) 17 0) 18 0) 19 0)))] := hD
  exact k_vret C hr hlocks hP hD hS (fun _ => 0) [2, 1, 0, 3, 4] rfl rfl trivial (Nat.le_of_ble_eq_true rfl) (Nat.le_of_ble_eq_true rfl) dX12_clearMachine_75
set_option maxHeartbeats 4000000 in
set_option maxRecDepth 100000 in
theorem c_X12_findLines (l : Launch) (D : va_G) (K : Nat → ClassId) (a0 : Nat) (s0 : List Value) (n0 : s0.length = 94) (e0_38 : s0[38]? = some (.int 0)) : uMet l yX12_findLines cX12_findLines 2 none (rmD 0 0 0) D K X0 [.ref a0] [(a0, .inr (11, s0))] (QV D K (fun (u : Nat → Nat) => True) (fun (u : Nat → Nat) => [(a0, .inr (11, (s0.set 41 (.int 0))))])) 0 0 := by
  refine k_met RX12 ⟨rfl, by decide +kernel⟩ (Nat.le_of_ble_eq_true rfl) ?_
  intro p e s m below meth c A ls C hX hr hlocks hin hA hP hD hS hl
  have hl : lv_has ls 2 [(0, .ref a0)] := hl
  refine lv_aload_n C.1 C.2.1 dX12_findLines_0 rfl (lv_at hl 0 rfl) ?_
  refine lv_iconst (v := 0) C.1 C.2.1 dX12_findLines_1 (by decide) ?_
  refine k_put (ws' := [(a0, .inr (11, (s0.set 41 (.int 0))))]) (v := .int 0) C hP hD hS 0 rfl rfl inlX12 tyX12_ok nmX12 41 (by decide) m_29_12 rfl rfl rfl n0 rfl dX12_findLines_2 (fun H locs hP hD hS => ?_)
  refine lv_iconst (v := 0) C.1 C.2.1 dX12_findLines_5 (by decide) ?_
  refine lv_istore_n (lv' := [(1, .int 0), (0, .ref a0)]) C.1 C.2.1 dX12_findLines_6 rfl hl (by decide) rfl (fun ls hl => ?_)
  refine lv_iload_n C.1 C.2.1 dX12_findLines_7 rfl (lv_at hl 0 rfl) ?_
  refine lv_aload_n C.1 C.2.1 dX12_findLines_8 rfl (lv_at hl 1 rfl) ?_
  refine k_get (v := .int 0) C hP 0 rfl rfl inlX12 38 (by decide) m_29_6 (sn (by decide) e0_38) dX12_findLines_9 ?_
  refine lv_icmp_ge (tgt := 71) C.1 C.2.1 dX12_findLines_12 (by decide) (fun _ => ?_) (fun h => absurd (by decide) h)
  exact k_vret C hr hlocks hP hD hS (fun _ => 0) [0] rfl rfl trivial (Nat.le_of_ble_eq_true rfl) (Nat.le_of_ble_eq_true rfl) dX12_findLines_71
set_option maxHeartbeats 4000000 in
set_option maxRecDepth 100000 in
theorem c_X12_clearAssembling (l : Launch) (D : va_G) (K : Nat → ClassId) (a0 : Nat) (a1 : Nat) (a2 : Nat) (s0 : List Value) (n0 : s0.length = 94) (f1 : Nat → Int32) (f2 : Nat → Int32) (e0_49 : s0[49]? = some (.ref a1)) (e0_59 : s0[59]? = some (.ref a2)) (e0_38 : s0[38]? = some (.int 0)) : uMet l yX12_clearAssembling cX12_clearAssembling 2 none (rmD 1 0 0) D K X0 [.ref a0] [(a0, .inr (11, s0)), (a1, .inl (K 3, 7999, .inl f1)), (a2, .inl (K 3, 10, .inl f2))] (QV D K (fun (u : Nat → Nat) => True) (fun (u : Nat → Nat) => [(a0, .inr (11, ((((((((s0.set 42 (.int 0)).set 70 (.int 0)).set 47 (.int 0)).set 48 (.int 0)).set 45 (.int 0)).set 52 (.int 0)).set 60 (.int 0)).set 41 (.int 0)))), (a1, .inl (K 3, 7999, .inl (fun _ => 0))), (a2, .inl (K 3, 10, .inl (fun _ => 0)))])) 0 0 := by
  refine k_met RX12 ⟨rfl, by decide +kernel⟩ (Nat.le_of_ble_eq_true rfl) ?_
  intro p e s m below meth c A ls C hX hr hlocks hin hA hP hD hS hl
  have hl : lv_has ls 2 [(0, .ref a0)] := hl
  refine lv_aload_n C.1 C.2.1 dX12_clearAssembling_0 rfl (lv_at hl 0 rfl) ?_
  refine lv_iconst (v := 0) C.1 C.2.1 dX12_clearAssembling_1 (by decide) ?_
  refine k_put (ws' := [(a0, .inr (11, (s0.set 42 (.int 0)))), (a1, .inl (K 3, 7999, .inl f1)), (a2, .inl (K 3, 10, .inl f2))]) (v := .int 0) C hP hD hS 0 rfl rfl inlX12 tyX12_ok nmX12 42 (by decide) m_29_16 rfl (by decide) (by decide) n0 rfl dX12_clearAssembling_2 (fun H locs hP hD hS => ?_)
  refine lv_aload_n C.1 C.2.1 dX12_clearAssembling_5 rfl (lv_at hl 0 rfl) ?_
  refine lv_iconst (v := 0) C.1 C.2.1 dX12_clearAssembling_6 (by decide) ?_
  refine k_put (ws' := [(a0, .inr (11, ((s0.set 42 (.int 0)).set 70 (.int 0)))), (a1, .inl (K 3, 7999, .inl f1)), (a2, .inl (K 3, 10, .inl f2))]) (v := .int 0) C hP hD hS 0 rfl rfl inlX12 tyX12_ok nmX12 70 (by decide) m_29_13 rfl rfl rfl (sl n0) rfl dX12_clearAssembling_7 (fun H locs hP hD hS => ?_)
  refine lv_aload_n C.1 C.2.1 dX12_clearAssembling_10 rfl (lv_at hl 0 rfl) ?_
  refine lv_iconst (v := 0) C.1 C.2.1 dX12_clearAssembling_11 (by decide) ?_
  refine k_put (ws' := [(a0, .inr (11, (((s0.set 42 (.int 0)).set 70 (.int 0)).set 47 (.int 0)))), (a1, .inl (K 3, 7999, .inl f1)), (a2, .inl (K 3, 10, .inl f2))]) (v := .int 0) C hP hD hS 0 rfl rfl inlX12 tyX12_ok nmX12 47 (by decide) m_30_16 rfl rfl rfl (sl (sl n0)) rfl dX12_clearAssembling_12 (fun H locs hP hD hS => ?_)
  refine lv_aload_n C.1 C.2.1 dX12_clearAssembling_15 rfl (lv_at hl 0 rfl) ?_
  refine lv_iconst (v := 0) C.1 C.2.1 dX12_clearAssembling_16 (by decide) ?_
  refine k_put (ws' := [(a0, .inr (11, ((((s0.set 42 (.int 0)).set 70 (.int 0)).set 47 (.int 0)).set 48 (.int 0)))), (a1, .inl (K 3, 7999, .inl f1)), (a2, .inl (K 3, 10, .inl f2))]) (v := .int 0) C hP hD hS 0 rfl rfl inlX12 tyX12_ok nmX12 48 (by decide) m_29_1 rfl rfl rfl (sl (sl (sl n0))) rfl dX12_clearAssembling_17 (fun H locs hP hD hS => ?_)
  refine lv_aload_n C.1 C.2.1 dX12_clearAssembling_20 rfl (lv_at hl 0 rfl) ?_
  refine lv_iconst (v := 0) C.1 C.2.1 dX12_clearAssembling_21 (by decide) ?_
  refine k_put (ws' := [(a0, .inr (11, (((((s0.set 42 (.int 0)).set 70 (.int 0)).set 47 (.int 0)).set 48 (.int 0)).set 45 (.int 0)))), (a1, .inl (K 3, 7999, .inl f1)), (a2, .inl (K 3, 10, .inl f2))]) (v := .int 0) C hP hD hS 0 rfl rfl inlX12 tyX12_ok nmX12 45 (by decide) m_29_0 rfl rfl rfl (sl (sl (sl (sl n0)))) rfl dX12_clearAssembling_22 (fun H locs hP hD hS => ?_)
  refine lv_aload_n C.1 C.2.1 dX12_clearAssembling_25 rfl (lv_at hl 0 rfl) ?_
  refine lv_iconst (v := 0) C.1 C.2.1 dX12_clearAssembling_26 (by decide) ?_
  refine k_put (ws' := [(a0, .inr (11, ((((((s0.set 42 (.int 0)).set 70 (.int 0)).set 47 (.int 0)).set 48 (.int 0)).set 45 (.int 0)).set 52 (.int 0)))), (a1, .inl (K 3, 7999, .inl f1)), (a2, .inl (K 3, 10, .inl f2))]) (v := .int 0) C hP hD hS 0 rfl rfl inlX12 tyX12_ok nmX12 52 (by decide) m_30_17 rfl rfl rfl (sl (sl (sl (sl (sl n0))))) rfl dX12_clearAssembling_27 (fun H locs hP hD hS => ?_)
  refine lv_aload_n C.1 C.2.1 dX12_clearAssembling_30 rfl (lv_at hl 0 rfl) ?_
  refine lv_iconst (v := 0) C.1 C.2.1 dX12_clearAssembling_31 (by decide) ?_
  refine k_put (ws' := [(a0, .inr (11, (((((((s0.set 42 (.int 0)).set 70 (.int 0)).set 47 (.int 0)).set 48 (.int 0)).set 45 (.int 0)).set 52 (.int 0)).set 60 (.int 0)))), (a1, .inl (K 3, 7999, .inl f1)), (a2, .inl (K 3, 10, .inl f2))]) (v := .int 0) C hP hD hS 0 rfl rfl inlX12 tyX12_ok nmX12 60 (by decide) m_30_18 rfl rfl rfl (sl (sl (sl (sl (sl (sl n0)))))) rfl dX12_clearAssembling_32 (fun H locs hP hD hS => ?_)
  refine lv_iconst (v := 0) C.1 C.2.1 dX12_clearAssembling_35 (by decide) ?_
  refine lv_istore_n (lv' := [(1, .int 0), (0, .ref a0)]) C.1 C.2.1 dX12_clearAssembling_36 rfl hl (by decide) rfl (fun ls hl => ?_)
  refine k_loopZ (h2 := 41) (h3 := 50) (ex := 57) C 7999 (by decide) 0 0 (by decide) (q0 := 0) (q1 := 1) (by decide) rfl rfl inlX12 (k := 49) (by decide) m_8_5 (sn (by decide) (sn (by decide) (sn (by decide) (sn (by decide) (sn (by decide) (sn (by decide) (sn (by decide) e0_49))))))) rfl (by decide) dX12_clearAssembling_37 (fun _ _ _ _ k => lv_sipush (v := nI 7999) C.1 C.2.1 dX12_clearAssembling_38 (by decide) k) dX12_clearAssembling_41 (by decide) dX12_clearAssembling_44 dX12_clearAssembling_45 dX12_clearAssembling_48 (fun _ _ _ _ k => lv_iconst (v := 0) C.1 C.2.1 dX12_clearAssembling_49 (by decide) k) dX12_clearAssembling_50 dX12_clearAssembling_51 dX12_clearAssembling_54 (by decide) (fun H locs ls hP hD hS hl => ?_) _ _ _ hP hD hS (lv_sub hl [0, 1] rfl)
  have hP : va_P D vwCl [(a0, .inr (11, (((((((s0.set 42 (.int 0)).set 70 (.int 0)).set 47 (.int 0)).set 48 (.int 0)).set 45 (.int 0)).set 52 (.int 0)).set 60 (.int 0)))), (a1, .inl (K 3, 7999, .inl (fun _ => 0))), (a2, .inl (K 3, 10, .inl f2))] H := hP
  have hD : va_D A [(a0, .inr (11, (((((((s0.set 42 (.int 0)).set 70 (.int 0)).set 47 (.int 0)).set 48 (.int 0)).set 45 (.int 0)).set 52 (.int 0)).set 60 (.int 0)))), (a1, .inl (K 3, 7999, .inl (fun _ => 0))), (a2, .inl (K 3, 10, .inl f2))] := hD
  have hl : lv_has ls 2 [(1, .int 7999), (0, .ref a0)] := hl
  refine lv_iconst (v := 0) C.1 C.2.1 dX12_clearAssembling_57 (by decide) ?_
  refine lv_istore_n (lv' := [(1, .int 0), (0, .ref a0)]) C.1 C.2.1 dX12_clearAssembling_58 rfl hl (by decide) rfl (fun ls hl => ?_)
  refine k_loopZ (h2 := 62) (h3 := 71) (ex := 78) C 10 (by decide) 0 0 (by decide) (q0 := 0) (q1 := 2) (by decide) rfl rfl inlX12 (k := 59) (by decide) m_8_13 (sn (by decide) (sn (by decide) (sn (by decide) (sn (by decide) (sn (by decide) (sn (by decide) (sn (by decide) e0_59))))))) rfl (by decide) dX12_clearAssembling_59 (fun _ _ _ _ k => lv_bipush (v := nI 10) C.1 C.2.1 dX12_clearAssembling_60 (by decide) k) dX12_clearAssembling_62 (by decide) dX12_clearAssembling_65 dX12_clearAssembling_66 dX12_clearAssembling_69 (fun _ _ _ _ k => lv_iconst (v := 0) C.1 C.2.1 dX12_clearAssembling_70 (by decide) k) dX12_clearAssembling_71 dX12_clearAssembling_72 dX12_clearAssembling_75 (by decide) (fun H locs ls hP hD hS hl => ?_) _ _ _ hP hD hS (lv_sub hl [0, 1] rfl)
  have hP : va_P D vwCl [(a0, .inr (11, (((((((s0.set 42 (.int 0)).set 70 (.int 0)).set 47 (.int 0)).set 48 (.int 0)).set 45 (.int 0)).set 52 (.int 0)).set 60 (.int 0)))), (a1, .inl (K 3, 7999, .inl (fun _ => 0))), (a2, .inl (K 3, 10, .inl (fun _ => 0)))] H := hP
  have hD : va_D A [(a0, .inr (11, (((((((s0.set 42 (.int 0)).set 70 (.int 0)).set 47 (.int 0)).set 48 (.int 0)).set 45 (.int 0)).set 52 (.int 0)).set 60 (.int 0)))), (a1, .inl (K 3, 7999, .inl (fun _ => 0))), (a2, .inl (K 3, 10, .inl (fun _ => 0)))] := hD
  have hl : lv_has ls 2 [(1, .int 10), (0, .ref a0)] := hl
  refine lv_aload_n C.1 C.2.1 dX12_clearAssembling_78 rfl (lv_at hl 1 rfl) ?_
  refine k_Vv (As := []) (rest := []) C hP hD hS hA (c_X12_findLines l D K a0 ((((((((s0.set 42 (.int 0)).set 70 (.int 0)).set 47 (.int 0)).set 48 (.int 0)).set 45 (.int 0)).set 52 (.int 0)).set 60 (.int 0))) (sl (sl (sl (sl (sl (sl (sl n0))))))) (sn (by decide) (sn (by decide) (sn (by decide) (sn (by decide) (sn (by decide) (sn (by decide) (sn (by decide) e0_38)))))))) X0_ok trivial (uwV m_30_19 m_30_20 m_30_21 m_1_5 m_30_22) (hdV 0 (by decide +kernel) rfl) ⟨Nat.le_of_ble_eq_true rfl, Nat.le_of_ble_eq_true rfl⟩ rfl rfl (ci := 11) rfl rfl (isC := [0]) (isR := [1, 2]) (wr := [(a1, .inl (K 3, 7999, .inl (fun _ => 0))), (a2, .inl (K 3, 10, .inl (fun _ => 0)))]) ⟨rfl, rfl, rfl, rfl, by decide⟩ rfl hl.1 (Nat.le_of_ble_eq_true rfl) dX12_clearAssembling_79 ⟨Nat.le_of_ble_eq_true rfl, Nat.le_of_ble_eq_true rfl⟩ (fun u_1 H locs hw hP hD hS => ?_)
  have hP : va_P D vwCl [(a1, .inl (K 3, 7999, .inl (fun _ => 0))), (a2, .inl (K 3, 10, .inl (fun _ => 0))), (a0, .inr (11, ((((((((s0.set 42 (.int 0)).set 70 (.int 0)).set 47 (.int 0)).set 48 (.int 0)).set 45 (.int 0)).set 52 (.int 0)).set 60 (.int 0)).set 41 (.int 0))))] H := hP
  have hD : va_D A [(a1, .inl (K 3, 7999, .inl (fun _ => 0))), (a2, .inl (K 3, 10, .inl (fun _ => 0))), (a0, .inr (11, ((((((((s0.set 42 (.int 0)).set 70 (.int 0)).set 47 (.int 0)).set 48 (.int 0)).set 45 (.int 0)).set 52 (.int 0)).set 60 (.int 0)).set 41 (.int 0))))] := hD
  exact k_vret C hr hlocks hP hD hS (fun _ => 0) [2, 0, 1] rfl rfl trivial (Nat.le_of_ble_eq_true rfl) (Nat.le_of_ble_eq_true rfl) dX12_clearAssembling_82
set_option maxHeartbeats 4000000 in
set_option maxRecDepth 100000 in
theorem c_X12_fail (l : Launch) (D : va_G) (K : Nat → ClassId) (a0 : Nat) (s0 : List Value) (n0 : s0.length = 94) (e0_70 : s0[70]? = some (.int 0)) : uMet l yX12_fail cX12_fail 2 none (rmD 0 0 0) D K X0 [.ref a0, .int 7] [(a0, .inr (11, s0))] (QV D K (fun (u : Nat → Nat) => True) (fun (u : Nat → Nat) => [(a0, .inr (11, (s0.set 70 (.int 7))))])) 0 0 := by
  refine k_met RX12 ⟨rfl, by decide +kernel⟩ (Nat.le_of_ble_eq_true rfl) ?_
  intro p e s m below meth c A ls C hX hr hlocks hin hA hP hD hS hl
  have hl : lv_has ls 2 [(0, .ref a0), (1, .int 7)] := hl
  refine lv_aload_n C.1 C.2.1 dX12_fail_0 rfl (lv_at hl 0 rfl) ?_
  refine k_get (v := .int 0) C hP 0 rfl rfl inlX12 70 (by decide) m_29_13 e0_70 dX12_fail_1 ?_
  refine lv_if_ne (tgt := 12) C.1 C.2.1 dX12_fail_4 (by decide) (fun h => absurd h (by decide)) (fun _ => ?_)
  refine lv_aload_n C.1 C.2.1 dX12_fail_7 rfl (lv_at hl 0 rfl) ?_
  refine lv_iload_n C.1 C.2.1 dX12_fail_8 rfl (lv_at hl 1 rfl) ?_
  refine k_put (ws' := [(a0, .inr (11, (s0.set 70 (.int 7))))]) (v := .int 7) C hP hD hS 0 rfl rfl inlX12 tyX12_ok nmX12 70 (by decide) m_29_13 rfl rfl rfl n0 rfl dX12_fail_9 (fun H locs hP hD hS => ?_)
  exact k_vret C hr hlocks hP hD hS (fun _ => 0) [0] rfl rfl trivial (Nat.le_of_ble_eq_true rfl) (Nat.le_of_ble_eq_true rfl) dX12_fail_12
set_option maxHeartbeats 4000000 in
set_option maxRecDepth 100000 in
theorem c_X12_assembleText (l : Launch) (D : va_G) (K : Nat → ClassId) (a0 : Nat) (a1 : Nat) (a2 : Nat) (a3 : Nat) (a4 : Nat) (a5 : Nat) (a6 : Nat) (s0 : List Value) (n0 : s0.length = 94) (f1 : Nat → Int32) (f2 : Nat → Int32) (f3 : Nat → Int64) (f4 : Nat → Int32) (f5 : Nat → Int32) (f6 : Nat → Int32) (e0_3 : s0[3]? = some (.ref a1)) (e0_4 : s0[4]? = some (.ref a2)) (e0_19 : s0[19]? = some (.ref a3)) (e0_20 : s0[20]? = some (.ref a4)) (e0_49 : s0[49]? = some (.ref a5)) (e0_59 : s0[59]? = some (.ref a6)) (e0_38 : s0[38]? = some (.int 0)) : uMet l yX12_assembleText cX12_assembleText 2 (some .boolean) (rmD 2 0 0) D K X0 [.ref a0] [(a0, .inr (11, s0)), (a1, .inl (K 0, 7999, .inl f1)), (a2, .inl (K 0, 9, .inl f2)), (a3, .inl (K 1, 20, .inr (.inl f3))), (a4, .inl (K 3, 20, .inl f4)), (a5, .inl (K 3, 7999, .inl f5)), (a6, .inl (K 3, 10, .inl f6))] (QI D K (fun (r : Int32) (u : Nat → Nat) => r = 0) (fun (u : Nat → Nat) => [(a0, .inr (11, (((((((((((((((((((((((s0.set 5 (.int 0)).set 6 (.int 1)).set 7 (.int 0)).set 8 (.long 0)).set 9 (.int 9)).set 10 (.int 0)).set 11 (.int 0)).set 12 (.int 0)).set 91 (.int 0)).set 42 (.int 0)).set 70 (.int 0)).set 47 (.int 0)).set 48 (.int 0)).set 45 (.int 0)).set 52 (.int 0)).set 60 (.int 0)).set 41 (.int 0)).set 67 (.int 0)).set 70 (.int 7)).set 43 (.int 7)).set 44 (.int 1)).set 51 (.int 0)).set 42 (.int 0)))), (a1, .inl (K 0, 7999, .inl (fun _ => 0))), (a2, .inl (K 0, 9, .inl (fun _ => 0))), (a3, .inl (K 1, 20, .inr (.inl (vp_updL (vp_updL (vp_updL (vp_updL (vp_updL (vp_updL (vp_updL (vp_updL (vp_updL (vp_updL (vp_updL (vp_updL (vp_updL (vp_updL (vp_updL (vp_updL (vp_updL (vp_updL (vp_updL (vp_updL f3 0 0) 1 0) 2 0) 3 0) 4 0) 5 0) 6 0) 7 0) 8 0) 9 0) 10 0) 11 0) 12 0) 13 0) 14 0) 15 0) 16 0) 17 0) 18 0) 19 0)))), (a4, .inl (K 3, 20, .inl (upd (upd (upd (upd (upd (upd (upd (upd (upd (upd (upd (upd (upd (upd (upd (upd (upd (upd (upd (upd f4 0 0) 1 0) 2 0) 3 0) 4 0) 5 0) 6 0) 7 0) 8 0) 9 0) 10 0) 11 0) 12 0) 13 0) 14 0) 15 0) 16 0) 17 0) 18 0) 19 0))), (a5, .inl (K 3, 7999, .inl (fun _ => 0))), (a6, .inl (K 3, 10, .inl (fun _ => 0)))])) 0 0 := by
  refine k_met RX12 ⟨rfl, by decide +kernel⟩ (Nat.le_of_ble_eq_true rfl) ?_
  intro p e s m below meth c A ls C hX hr hlocks hin hA hP hD hS hl
  have hl : lv_has ls 2 [(0, .ref a0)] := hl
  refine lv_aload_n C.1 C.2.1 dX12_assembleText_0 rfl (lv_at hl 0 rfl) ?_
  refine k_Vv (As := []) (rest := []) C hP hD hS hA (c_X12_clearMachine l D K a0 a1 a2 a3 a4 s0 n0 f1 f2 f3 f4 e0_3 e0_4 e0_19 e0_20) X0_ok trivial (uwV m_29_17 m_29_18 m_29_19 m_1_5 m_29_20) (hdV 0 (by decide +kernel) rfl) ⟨Nat.le_of_ble_eq_true rfl, Nat.le_of_ble_eq_true rfl⟩ rfl rfl (ci := 11) rfl rfl (isC := [0, 1, 2, 3, 4]) (isR := [5, 6]) (wr := [(a5, .inl (K 3, 7999, .inl f5)), (a6, .inl (K 3, 10, .inl f6))]) ⟨rfl, rfl, rfl, rfl, by decide⟩ rfl hl.1 (Nat.le_of_ble_eq_true rfl) dX12_assembleText_1 ⟨Nat.le_of_ble_eq_true rfl, Nat.le_of_ble_eq_true rfl⟩ (fun u_1 H locs hw hP hD hS => ?_)
  have hP : va_P D vwCl [(a5, .inl (K 3, 7999, .inl f5)), (a6, .inl (K 3, 10, .inl f6)), (a0, .inr (11, (((((((((s0.set 5 (.int 0)).set 6 (.int 1)).set 7 (.int 0)).set 8 (.long 0)).set 9 (.int 9)).set 10 (.int 0)).set 11 (.int 0)).set 12 (.int 0)).set 91 (.int 0)))), (a1, .inl (K 0, 7999, .inl (fun _ => 0))), (a2, .inl (K 0, 9, .inl (fun _ => 0))), (a3, .inl (K 1, 20, .inr (.inl (vp_updL (vp_updL (vp_updL (vp_updL (vp_updL (vp_updL (vp_updL (vp_updL (vp_updL (vp_updL (vp_updL (vp_updL (vp_updL (vp_updL (vp_updL (vp_updL (vp_updL (vp_updL (vp_updL (vp_updL f3 0 0) 1 0) 2 0) 3 0) 4 0) 5 0) 6 0) 7 0) 8 0) 9 0) 10 0) 11 0) 12 0) 13 0) 14 0) 15 0) 16 0) 17 0) 18 0) 19 0)))), (a4, .inl (K 3, 20, .inl (upd (upd (upd (upd (upd (upd (upd (upd (upd (upd (upd (upd (upd (upd (upd (upd (upd (upd (upd (upd f4 0 0) 1 0) 2 0) 3 0) 4 0) 5 0) 6 0) 7 0) 8 0) 9 0) 10 0) 11 0) 12 0) 13 0) 14 0) 15 0) 16 0) 17 0) 18 0) 19 0)))] H := hP
  have hD : va_D A [(a5, .inl (K 3, 7999, .inl f5)), (a6, .inl (K 3, 10, .inl f6)), (a0, .inr (11, (((((((((s0.set 5 (.int 0)).set 6 (.int 1)).set 7 (.int 0)).set 8 (.long 0)).set 9 (.int 9)).set 10 (.int 0)).set 11 (.int 0)).set 12 (.int 0)).set 91 (.int 0)))), (a1, .inl (K 0, 7999, .inl (fun _ => 0))), (a2, .inl (K 0, 9, .inl (fun _ => 0))), (a3, .inl (K 1, 20, .inr (.inl (vp_updL (vp_updL (vp_updL (vp_updL (vp_updL (vp_updL (vp_updL (vp_updL (vp_updL (vp_updL (vp_updL (vp_updL (vp_updL (vp_updL (vp_updL (vp_updL (vp_updL (vp_updL (vp_updL (vp_updL f3 0 0) 1 0) 2 0) 3 0) 4 0) 5 0) 6 0) 7 0) 8 0) 9 0) 10 0) 11 0) 12 0) 13 0) 14 0) 15 0) 16 0) 17 0) 18 0) 19 0)))), (a4, .inl (K 3, 20, .inl (upd (upd (upd (upd (upd (upd (upd (upd (upd (upd (upd (upd (upd (upd (upd (upd (upd (upd (upd (upd f4 0 0) 1 0) 2 0) 3 0) 4 0) 5 0) 6 0) 7 0) 8 0) 9 0) 10 0) 11 0) 12 0) 13 0) 14 0) 15 0) 16 0) 17 0) 18 0) 19 0)))] := hD
  refine lv_aload_n C.1 C.2.1 dX12_assembleText_4 rfl (lv_at hl 0 rfl) ?_
  refine k_Vv (As := []) (rest := []) C hP hD hS hA (c_X12_clearAssembling l D K a0 a5 a6 ((((((((((s0.set 5 (.int 0)).set 6 (.int 1)).set 7 (.int 0)).set 8 (.long 0)).set 9 (.int 9)).set 10 (.int 0)).set 11 (.int 0)).set 12 (.int 0)).set 91 (.int 0))) (sl (sl (sl (sl (sl (sl (sl (sl (sl n0))))))))) f5 f6 (sn (by decide) (sn (by decide) (sn (by decide) (sn (by decide) (sn (by decide) (sn (by decide) (sn (by decide) (sn (by decide) (sn (by decide) e0_49))))))))) (sn (by decide) (sn (by decide) (sn (by decide) (sn (by decide) (sn (by decide) (sn (by decide) (sn (by decide) (sn (by decide) (sn (by decide) e0_59))))))))) (sn (by decide) (sn (by decide) (sn (by decide) (sn (by decide) (sn (by decide) (sn (by decide) (sn (by decide) (sn (by decide) (sn (by decide) e0_38)))))))))) X0_ok trivial (uwV m_30_12 m_30_13 m_30_14 m_1_5 m_30_15) (hdV 0 (by decide +kernel) rfl) ⟨Nat.le_of_ble_eq_true rfl, Nat.le_of_ble_eq_true rfl⟩ rfl rfl (ci := 11) rfl rfl (isC := [2, 0, 1]) (isR := [3, 4, 5, 6]) (wr := [(a1, .inl (K 0, 7999, .inl (fun _ => 0))), (a2, .inl (K 0, 9, .inl (fun _ => 0))), (a3, .inl (K 1, 20, .inr (.inl (vp_updL (vp_updL (vp_updL (vp_updL (vp_updL (vp_updL (vp_updL (vp_updL (vp_updL (vp_updL (vp_updL (vp_updL (vp_updL (vp_updL (vp_updL (vp_updL (vp_updL (vp_updL (vp_updL (vp_updL f3 0 0) 1 0) 2 0) 3 0) 4 0) 5 0) 6 0) 7 0) 8 0) 9 0) 10 0) 11 0) 12 0) 13 0) 14 0) 15 0) 16 0) 17 0) 18 0) 19 0)))), (a4, .inl (K 3, 20, .inl (upd (upd (upd (upd (upd (upd (upd (upd (upd (upd (upd (upd (upd (upd (upd (upd (upd (upd (upd (upd f4 0 0) 1 0) 2 0) 3 0) 4 0) 5 0) 6 0) 7 0) 8 0) 9 0) 10 0) 11 0) 12 0) 13 0) 14 0) 15 0) 16 0) 17 0) 18 0) 19 0)))]) ⟨rfl, rfl, rfl, rfl, by decide⟩ rfl hl.1 (Nat.le_of_ble_eq_true rfl) dX12_assembleText_5 ⟨Nat.le_of_ble_eq_true rfl, Nat.le_of_ble_eq_true rfl⟩ (fun u_3 H locs hw hP hD hS => ?_)
  have hP : va_P D vwCl [(a1, .inl (K 0, 7999, .inl (fun _ => 0))), (a2, .inl (K 0, 9, .inl (fun _ => 0))), (a3, .inl (K 1, 20, .inr (.inl (vp_updL (vp_updL (vp_updL (vp_updL (vp_updL (vp_updL (vp_updL (vp_updL (vp_updL (vp_updL (vp_updL (vp_updL (vp_updL (vp_updL (vp_updL (vp_updL (vp_updL (vp_updL (vp_updL (vp_updL f3 0 0) 1 0) 2 0) 3 0) 4 0) 5 0) 6 0) 7 0) 8 0) 9 0) 10 0) 11 0) 12 0) 13 0) 14 0) 15 0) 16 0) 17 0) 18 0) 19 0)))), (a4, .inl (K 3, 20, .inl (upd (upd (upd (upd (upd (upd (upd (upd (upd (upd (upd (upd (upd (upd (upd (upd (upd (upd (upd (upd f4 0 0) 1 0) 2 0) 3 0) 4 0) 5 0) 6 0) 7 0) 8 0) 9 0) 10 0) 11 0) 12 0) 13 0) 14 0) 15 0) 16 0) 17 0) 18 0) 19 0))), (a0, .inr (11, (((((((((((((((((s0.set 5 (.int 0)).set 6 (.int 1)).set 7 (.int 0)).set 8 (.long 0)).set 9 (.int 9)).set 10 (.int 0)).set 11 (.int 0)).set 12 (.int 0)).set 91 (.int 0)).set 42 (.int 0)).set 70 (.int 0)).set 47 (.int 0)).set 48 (.int 0)).set 45 (.int 0)).set 52 (.int 0)).set 60 (.int 0)).set 41 (.int 0)))), (a5, .inl (K 3, 7999, .inl (fun _ => 0))), (a6, .inl (K 3, 10, .inl (fun _ => 0)))] H := hP
  have hD : va_D A [(a1, .inl (K 0, 7999, .inl (fun _ => 0))), (a2, .inl (K 0, 9, .inl (fun _ => 0))), (a3, .inl (K 1, 20, .inr (.inl (vp_updL (vp_updL (vp_updL (vp_updL (vp_updL (vp_updL (vp_updL (vp_updL (vp_updL (vp_updL (vp_updL (vp_updL (vp_updL (vp_updL (vp_updL (vp_updL (vp_updL (vp_updL (vp_updL (vp_updL f3 0 0) 1 0) 2 0) 3 0) 4 0) 5 0) 6 0) 7 0) 8 0) 9 0) 10 0) 11 0) 12 0) 13 0) 14 0) 15 0) 16 0) 17 0) 18 0) 19 0)))), (a4, .inl (K 3, 20, .inl (upd (upd (upd (upd (upd (upd (upd (upd (upd (upd (upd (upd (upd (upd (upd (upd (upd (upd (upd (upd f4 0 0) 1 0) 2 0) 3 0) 4 0) 5 0) 6 0) 7 0) 8 0) 9 0) 10 0) 11 0) 12 0) 13 0) 14 0) 15 0) 16 0) 17 0) 18 0) 19 0))), (a0, .inr (11, (((((((((((((((((s0.set 5 (.int 0)).set 6 (.int 1)).set 7 (.int 0)).set 8 (.long 0)).set 9 (.int 9)).set 10 (.int 0)).set 11 (.int 0)).set 12 (.int 0)).set 91 (.int 0)).set 42 (.int 0)).set 70 (.int 0)).set 47 (.int 0)).set 48 (.int 0)).set 45 (.int 0)).set 52 (.int 0)).set 60 (.int 0)).set 41 (.int 0)))), (a5, .inl (K 3, 7999, .inl (fun _ => 0))), (a6, .inl (K 3, 10, .inl (fun _ => 0)))] := hD
  refine lv_iconst (v := 0) C.1 C.2.1 dX12_assembleText_8 (by decide) ?_
  refine lv_istore_n (lv' := [(1, .int 0), (0, .ref a0)]) C.1 C.2.1 dX12_assembleText_9 rfl hl (by decide) rfl (fun ls hl => ?_)
  refine lv_aload_n C.1 C.2.1 dX12_assembleText_10 rfl (lv_at hl 1 rfl) ?_
  refine lv_iconst (v := 0) C.1 C.2.1 dX12_assembleText_11 (by decide) ?_
  refine k_put (ws' := [(a1, .inl (K 0, 7999, .inl (fun _ => 0))), (a2, .inl (K 0, 9, .inl (fun _ => 0))), (a3, .inl (K 1, 20, .inr (.inl (vp_updL (vp_updL (vp_updL (vp_updL (vp_updL (vp_updL (vp_updL (vp_updL (vp_updL (vp_updL (vp_updL (vp_updL (vp_updL (vp_updL (vp_updL (vp_updL (vp_updL (vp_updL (vp_updL (vp_updL f3 0 0) 1 0) 2 0) 3 0) 4 0) 5 0) 6 0) 7 0) 8 0) 9 0) 10 0) 11 0) 12 0) 13 0) 14 0) 15 0) 16 0) 17 0) 18 0) 19 0)))), (a4, .inl (K 3, 20, .inl (upd (upd (upd (upd (upd (upd (upd (upd (upd (upd (upd (upd (upd (upd (upd (upd (upd (upd (upd (upd f4 0 0) 1 0) 2 0) 3 0) 4 0) 5 0) 6 0) 7 0) 8 0) 9 0) 10 0) 11 0) 12 0) 13 0) 14 0) 15 0) 16 0) 17 0) 18 0) 19 0))), (a0, .inr (11, ((((((((((((((((((s0.set 5 (.int 0)).set 6 (.int 1)).set 7 (.int 0)).set 8 (.long 0)).set 9 (.int 9)).set 10 (.int 0)).set 11 (.int 0)).set 12 (.int 0)).set 91 (.int 0)).set 42 (.int 0)).set 70 (.int 0)).set 47 (.int 0)).set 48 (.int 0)).set 45 (.int 0)).set 52 (.int 0)).set 60 (.int 0)).set 41 (.int 0)).set 67 (.int 0)))), (a5, .inl (K 3, 7999, .inl (fun _ => 0))), (a6, .inl (K 3, 10, .inl (fun _ => 0)))]) (v := .int 0) C hP hD hS 4 rfl rfl inlX12 tyX12_ok nmX12 67 (by decide) m_29_11 rfl rfl rfl (sl (sl (sl (sl (sl (sl (sl (sl (sl (sl (sl (sl (sl (sl (sl (sl (sl n0))))))))))))))))) rfl dX12_assembleText_12 (fun H locs hP hD hS => ?_)
  refine lv_aload_n C.1 C.2.1 dX12_assembleText_15 rfl (lv_at hl 1 rfl) ?_
  refine k_get (v := .int 0) C hP 4 rfl rfl inlX12 67 (by decide) m_29_11 (ss (sk (sl (sl (sl (sl (sl (sl (sl (sl (sl (sl (sl (sl (sl (sl (sl (sl (sl n0))))))))))))))))) (by decide))) dX12_assembleText_16 ?_
  refine lv_aload_n C.1 C.2.1 dX12_assembleText_19 rfl (lv_at hl 1 rfl) ?_
  refine k_get (v := .int 0) C hP 4 rfl rfl inlX12 41 (by decide) m_29_12 (sn (by decide) (ss (sk (sl (sl (sl (sl (sl (sl (sl (sl (sl (sl (sl (sl (sl (sl (sl (sl n0)))))))))))))))) (by decide)))) dX12_assembleText_20 ?_
  refine lv_icmp_ge (tgt := 66) C.1 C.2.1 dX12_assembleText_23 (by decide) (fun _ => ?_) (fun h => absurd (by decide) h)
  refine lv_iload_n C.1 C.2.1 dX12_assembleText_66 rfl (lv_at hl 0 rfl) ?_
  refine lv_if_ne (tgt := 76) C.1 C.2.1 dX12_assembleText_67 (by decide) (fun h => absurd h (by decide)) (fun _ => ?_)
  refine lv_aload_n C.1 C.2.1 dX12_assembleText_70 rfl (lv_at hl 1 rfl) ?_
  refine lv_bipush (v := 7) C.1 C.2.1 dX12_assembleText_71 (by decide) ?_
  refine k_Vv (As := [.int 7]) (rest := []) C hP hD hS hA (c_X12_fail l D K a0 (((((((((((((((((((s0.set 5 (.int 0)).set 6 (.int 1)).set 7 (.int 0)).set 8 (.long 0)).set 9 (.int 9)).set 10 (.int 0)).set 11 (.int 0)).set 12 (.int 0)).set 91 (.int 0)).set 42 (.int 0)).set 70 (.int 0)).set 47 (.int 0)).set 48 (.int 0)).set 45 (.int 0)).set 52 (.int 0)).set 60 (.int 0)).set 41 (.int 0)).set 67 (.int 0))) (sl (sl (sl (sl (sl (sl (sl (sl (sl (sl (sl (sl (sl (sl (sl (sl (sl (sl n0)))))))))))))))))) (sn (by decide) (sn (by decide) (sn (by decide) (sn (by decide) (sn (by decide) (sn (by decide) (sn (by decide) (ss (sk (sl (sl (sl (sl (sl (sl (sl (sl (sl (sl n0)))))))))) (by decide))))))))))) X0_ok trivial (uwV m_32_22 m_32_23 m_33_0 m_1_5 m_33_1) (hdV 1 (by decide +kernel) rfl) ⟨Nat.le_of_ble_eq_true rfl, Nat.le_of_ble_eq_true rfl⟩ rfl rfl (ci := 11) rfl rfl (isC := [4]) (isR := [0, 1, 2, 3, 5, 6]) (wr := [(a1, .inl (K 0, 7999, .inl (fun _ => 0))), (a2, .inl (K 0, 9, .inl (fun _ => 0))), (a3, .inl (K 1, 20, .inr (.inl (vp_updL (vp_updL (vp_updL (vp_updL (vp_updL (vp_updL (vp_updL (vp_updL (vp_updL (vp_updL (vp_updL (vp_updL (vp_updL (vp_updL (vp_updL (vp_updL (vp_updL (vp_updL (vp_updL (vp_updL f3 0 0) 1 0) 2 0) 3 0) 4 0) 5 0) 6 0) 7 0) 8 0) 9 0) 10 0) 11 0) 12 0) 13 0) 14 0) 15 0) 16 0) 17 0) 18 0) 19 0)))), (a4, .inl (K 3, 20, .inl (upd (upd (upd (upd (upd (upd (upd (upd (upd (upd (upd (upd (upd (upd (upd (upd (upd (upd (upd (upd f4 0 0) 1 0) 2 0) 3 0) 4 0) 5 0) 6 0) 7 0) 8 0) 9 0) 10 0) 11 0) 12 0) 13 0) 14 0) 15 0) 16 0) 17 0) 18 0) 19 0))), (a5, .inl (K 3, 7999, .inl (fun _ => 0))), (a6, .inl (K 3, 10, .inl (fun _ => 0)))]) ⟨rfl, rfl, rfl, rfl, by decide⟩ rfl hl.1 (Nat.le_of_ble_eq_true rfl) dX12_assembleText_73 ⟨Nat.le_of_ble_eq_true rfl, Nat.le_of_ble_eq_true rfl⟩ (fun u_5 H locs hw hP hD hS => ?_)
  have hP : va_P D vwCl [(a1, .inl (K 0, 7999, .inl (fun _ => 0))), (a2, .inl (K 0, 9, .inl (fun _ => 0))), (a3, .inl (K 1, 20, .inr (.inl (vp_updL (vp_updL (vp_updL (vp_updL (vp_updL (vp_updL (vp_updL (vp_updL (vp_updL (vp_updL (vp_updL (vp_updL (vp_updL (vp_updL (vp_updL (vp_updL (vp_updL (vp_updL (vp_updL (vp_updL f3 0 0) 1 0) 2 0) 3 0) 4 0) 5 0) 6 0) 7 0) 8 0) 9 0) 10 0) 11 0) 12 0) 13 0) 14 0) 15 0) 16 0) 17 0) 18 0) 19 0)))), (a4, .inl (K 3, 20, .inl (upd (upd (upd (upd (upd (upd (upd (upd (upd (upd (upd (upd (upd (upd (upd (upd (upd (upd (upd (upd f4 0 0) 1 0) 2 0) 3 0) 4 0) 5 0) 6 0) 7 0) 8 0) 9 0) 10 0) 11 0) 12 0) 13 0) 14 0) 15 0) 16 0) 17 0) 18 0) 19 0))), (a5, .inl (K 3, 7999, .inl (fun _ => 0))), (a6, .inl (K 3, 10, .inl (fun _ => 0))), (a0, .inr (11, (((((((((((((((((((s0.set 5 (.int 0)).set 6 (.int 1)).set 7 (.int 0)).set 8 (.long 0)).set 9 (.int 9)).set 10 (.int 0)).set 11 (.int 0)).set 12 (.int 0)).set 91 (.int 0)).set 42 (.int 0)).set 70 (.int 0)).set 47 (.int 0)).set 48 (.int 0)).set 45 (.int 0)).set 52 (.int 0)).set 60 (.int 0)).set 41 (.int 0)).set 67 (.int 0)).set 70 (.int 7))))] H := hP
  have hD : va_D A [(a1, .inl (K 0, 7999, .inl (fun _ => 0))), (a2, .inl (K 0, 9, .inl (fun _ => 0))), (a3, .inl (K 1, 20, .inr (.inl (vp_updL (vp_updL (vp_updL (vp_updL (vp_updL (vp_updL (vp_updL (vp_updL (vp_updL (vp_updL (vp_updL (vp_updL (vp_updL (vp_updL (vp_updL (vp_updL (vp_updL (vp_updL (vp_updL (vp_updL f3 0 0) 1 0) 2 0) 3 0) 4 0) 5 0) 6 0) 7 0) 8 0) 9 0) 10 0) 11 0) 12 0) 13 0) 14 0) 15 0) 16 0) 17 0) 18 0) 19 0)))), (a4, .inl (K 3, 20, .inl (upd (upd (upd (upd (upd (upd (upd (upd (upd (upd (upd (upd (upd (upd (upd (upd (upd (upd (upd (upd f4 0 0) 1 0) 2 0) 3 0) 4 0) 5 0) 6 0) 7 0) 8 0) 9 0) 10 0) 11 0) 12 0) 13 0) 14 0) 15 0) 16 0) 17 0) 18 0) 19 0))), (a5, .inl (K 3, 7999, .inl (fun _ => 0))), (a6, .inl (K 3, 10, .inl (fun _ => 0))), (a0, .inr (11, (((((((((((((((((((s0.set 5 (.int 0)).set 6 (.int 1)).set 7 (.int 0)).set 8 (.long 0)).set 9 (.int 9)).set 10 (.int 0)).set 11 (.int 0)).set 12 (.int 0)).set 91 (.int 0)).set 42 (.int 0)).set 70 (.int 0)).set 47 (.int 0)).set 48 (.int 0)).set 45 (.int 0)).set 52 (.int 0)).set 60 (.int 0)).set 41 (.int 0)).set 67 (.int 0)).set 70 (.int 7))))] := hD
  refine lv_aload_n C.1 C.2.1 dX12_assembleText_76 rfl (lv_at hl 1 rfl) ?_
  refine lv_aload_n C.1 C.2.1 dX12_assembleText_77 rfl (lv_at hl 1 rfl) ?_
  refine k_get (v := .int 7) C hP 6 rfl rfl inlX12 70 (by decide) m_29_13 (ss (sk (sl (sl (sl (sl (sl (sl (sl (sl (sl (sl (sl (sl (sl (sl (sl (sl (sl (sl n0)))))))))))))))))) (by decide))) dX12_assembleText_78 ?_
  refine k_put (ws' := [(a1, .inl (K 0, 7999, .inl (fun _ => 0))), (a2, .inl (K 0, 9, .inl (fun _ => 0))), (a3, .inl (K 1, 20, .inr (.inl (vp_updL (vp_updL (vp_updL (vp_updL (vp_updL (vp_updL (vp_updL (vp_updL (vp_updL (vp_updL (vp_updL (vp_updL (vp_updL (vp_updL (vp_updL (vp_updL (vp_updL (vp_updL (vp_updL (vp_updL f3 0 0) 1 0) 2 0) 3 0) 4 0) 5 0) 6 0) 7 0) 8 0) 9 0) 10 0) 11 0) 12 0) 13 0) 14 0) 15 0) 16 0) 17 0) 18 0) 19 0)))), (a4, .inl (K 3, 20, .inl (upd (upd (upd (upd (upd (upd (upd (upd (upd (upd (upd (upd (upd (upd (upd (upd (upd (upd (upd (upd f4 0 0) 1 0) 2 0) 3 0) 4 0) 5 0) 6 0) 7 0) 8 0) 9 0) 10 0) 11 0) 12 0) 13 0) 14 0) 15 0) 16 0) 17 0) 18 0) 19 0))), (a5, .inl (K 3, 7999, .inl (fun _ => 0))), (a6, .inl (K 3, 10, .inl (fun _ => 0))), (a0, .inr (11, ((((((((((((((((((((s0.set 5 (.int 0)).set 6 (.int 1)).set 7 (.int 0)).set 8 (.long 0)).set 9 (.int 9)).set 10 (.int 0)).set 11 (.int 0)).set 12 (.int 0)).set 91 (.int 0)).set 42 (.int 0)).set 70 (.int 0)).set 47 (.int 0)).set 48 (.int 0)).set 45 (.int 0)).set 52 (.int 0)).set 60 (.int 0)).set 41 (.int 0)).set 67 (.int 0)).set 70 (.int 7)).set 43 (.int 7))))]) (v := .int 7) C hP hD hS 6 rfl rfl inlX12 tyX12_ok nmX12 43 (by decide) m_29_14 rfl rfl rfl (sl (sl (sl (sl (sl (sl (sl (sl (sl (sl (sl (sl (sl (sl (sl (sl (sl (sl (sl n0))))))))))))))))))) rfl dX12_assembleText_81 (fun H locs hP hD hS => ?_)
  refine lv_aload_n C.1 C.2.1 dX12_assembleText_84 rfl (lv_at hl 1 rfl) ?_
  refine lv_aload_n C.1 C.2.1 dX12_assembleText_85 rfl (lv_at hl 1 rfl) ?_
  refine k_get (v := .int 0) C hP 6 rfl rfl inlX12 67 (by decide) m_29_11 (sn (by decide) (sn (by decide) (ss (sk (sl (sl (sl (sl (sl (sl (sl (sl (sl (sl (sl (sl (sl (sl (sl (sl (sl n0))))))))))))))))) (by decide))))) dX12_assembleText_86 ?_
  refine lv_iconst (v := 1) C.1 C.2.1 dX12_assembleText_89 (by decide) ?_
  refine k_iadd (v := 1) C (by decide) dX12_assembleText_90 ?_
  refine k_put (ws' := [(a1, .inl (K 0, 7999, .inl (fun _ => 0))), (a2, .inl (K 0, 9, .inl (fun _ => 0))), (a3, .inl (K 1, 20, .inr (.inl (vp_updL (vp_updL (vp_updL (vp_updL (vp_updL (vp_updL (vp_updL (vp_updL (vp_updL (vp_updL (vp_updL (vp_updL (vp_updL (vp_updL (vp_updL (vp_updL (vp_updL (vp_updL (vp_updL (vp_updL f3 0 0) 1 0) 2 0) 3 0) 4 0) 5 0) 6 0) 7 0) 8 0) 9 0) 10 0) 11 0) 12 0) 13 0) 14 0) 15 0) 16 0) 17 0) 18 0) 19 0)))), (a4, .inl (K 3, 20, .inl (upd (upd (upd (upd (upd (upd (upd (upd (upd (upd (upd (upd (upd (upd (upd (upd (upd (upd (upd (upd f4 0 0) 1 0) 2 0) 3 0) 4 0) 5 0) 6 0) 7 0) 8 0) 9 0) 10 0) 11 0) 12 0) 13 0) 14 0) 15 0) 16 0) 17 0) 18 0) 19 0))), (a5, .inl (K 3, 7999, .inl (fun _ => 0))), (a6, .inl (K 3, 10, .inl (fun _ => 0))), (a0, .inr (11, (((((((((((((((((((((s0.set 5 (.int 0)).set 6 (.int 1)).set 7 (.int 0)).set 8 (.long 0)).set 9 (.int 9)).set 10 (.int 0)).set 11 (.int 0)).set 12 (.int 0)).set 91 (.int 0)).set 42 (.int 0)).set 70 (.int 0)).set 47 (.int 0)).set 48 (.int 0)).set 45 (.int 0)).set 52 (.int 0)).set 60 (.int 0)).set 41 (.int 0)).set 67 (.int 0)).set 70 (.int 7)).set 43 (.int 7)).set 44 (.int 1))))]) (v := .int 1) C hP hD hS 6 rfl rfl inlX12 tyX12_ok nmX12 44 (by decide) m_28_23 rfl rfl rfl (sl (sl (sl (sl (sl (sl (sl (sl (sl (sl (sl (sl (sl (sl (sl (sl (sl (sl (sl (sl n0)))))))))))))))))))) rfl dX12_assembleText_91 (fun H locs hP hD hS => ?_)
  refine lv_aload_n C.1 C.2.1 dX12_assembleText_94 rfl (lv_at hl 1 rfl) ?_
  refine lv_aload_n C.1 C.2.1 dX12_assembleText_95 rfl (lv_at hl 1 rfl) ?_
  refine k_get (v := .int 0) C hP 6 rfl rfl inlX12 67 (by decide) m_29_11 (sn (by decide) (sn (by decide) (sn (by decide) (ss (sk (sl (sl (sl (sl (sl (sl (sl (sl (sl (sl (sl (sl (sl (sl (sl (sl (sl n0))))))))))))))))) (by decide)))))) dX12_assembleText_96 ?_
  refine k_put (ws' := [(a1, .inl (K 0, 7999, .inl (fun _ => 0))), (a2, .inl (K 0, 9, .inl (fun _ => 0))), (a3, .inl (K 1, 20, .inr (.inl (vp_updL (vp_updL (vp_updL (vp_updL (vp_updL (vp_updL (vp_updL (vp_updL (vp_updL (vp_updL (vp_updL (vp_updL (vp_updL (vp_updL (vp_updL (vp_updL (vp_updL (vp_updL (vp_updL (vp_updL f3 0 0) 1 0) 2 0) 3 0) 4 0) 5 0) 6 0) 7 0) 8 0) 9 0) 10 0) 11 0) 12 0) 13 0) 14 0) 15 0) 16 0) 17 0) 18 0) 19 0)))), (a4, .inl (K 3, 20, .inl (upd (upd (upd (upd (upd (upd (upd (upd (upd (upd (upd (upd (upd (upd (upd (upd (upd (upd (upd (upd f4 0 0) 1 0) 2 0) 3 0) 4 0) 5 0) 6 0) 7 0) 8 0) 9 0) 10 0) 11 0) 12 0) 13 0) 14 0) 15 0) 16 0) 17 0) 18 0) 19 0))), (a5, .inl (K 3, 7999, .inl (fun _ => 0))), (a6, .inl (K 3, 10, .inl (fun _ => 0))), (a0, .inr (11, ((((((((((((((((((((((s0.set 5 (.int 0)).set 6 (.int 1)).set 7 (.int 0)).set 8 (.long 0)).set 9 (.int 9)).set 10 (.int 0)).set 11 (.int 0)).set 12 (.int 0)).set 91 (.int 0)).set 42 (.int 0)).set 70 (.int 0)).set 47 (.int 0)).set 48 (.int 0)).set 45 (.int 0)).set 52 (.int 0)).set 60 (.int 0)).set 41 (.int 0)).set 67 (.int 0)).set 70 (.int 7)).set 43 (.int 7)).set 44 (.int 1)).set 51 (.int 0))))]) (v := .int 0) C hP hD hS 6 rfl rfl inlX12 tyX12_ok nmX12 51 (by decide) m_29_15 rfl rfl rfl (sl (sl (sl (sl (sl (sl (sl (sl (sl (sl (sl (sl (sl (sl (sl (sl (sl (sl (sl (sl (sl n0))))))))))))))))))))) rfl dX12_assembleText_99 (fun H locs hP hD hS => ?_)
  refine lv_aload_n C.1 C.2.1 dX12_assembleText_102 rfl (lv_at hl 1 rfl) ?_
  refine k_get (v := .int 7) C hP 6 rfl rfl inlX12 70 (by decide) m_29_13 (sn (by decide) (sn (by decide) (sn (by decide) (ss (sk (sl (sl (sl (sl (sl (sl (sl (sl (sl (sl (sl (sl (sl (sl (sl (sl (sl (sl n0)))))))))))))))))) (by decide)))))) dX12_assembleText_103 ?_
  refine lv_if_le (tgt := 113) C.1 C.2.1 dX12_assembleText_106 (by decide) (fun h => absurd h (by decide)) (fun _ => ?_)
  refine lv_aload_n C.1 C.2.1 dX12_assembleText_109 rfl (lv_at hl 1 rfl) ?_
  refine k_Vv (As := []) (rest := []) C hP hD hS hA (c_X12_clearMemory l D K a0 a1 (((((((((((((((((((((((s0.set 5 (.int 0)).set 6 (.int 1)).set 7 (.int 0)).set 8 (.long 0)).set 9 (.int 9)).set 10 (.int 0)).set 11 (.int 0)).set 12 (.int 0)).set 91 (.int 0)).set 42 (.int 0)).set 70 (.int 0)).set 47 (.int 0)).set 48 (.int 0)).set 45 (.int 0)).set 52 (.int 0)).set 60 (.int 0)).set 41 (.int 0)).set 67 (.int 0)).set 70 (.int 7)).set 43 (.int 7)).set 44 (.int 1)).set 51 (.int 0))) (sl (sl (sl (sl (sl (sl (sl (sl (sl (sl (sl (sl (sl (sl (sl (sl (sl (sl (sl (sl (sl (sl n0)))))))))))))))))))))) (fun _ => 0) (sn (by decide) (sn (by decide) (sn (by decide) (sn (by decide) (sn (by decide) (sn (by decide) (sn (by decide) (sn (by decide) (sn (by decide) (sn (by decide) (sn (by decide) (sn (by decide) (sn (by decide) (sn (by decide) (sn (by decide) (sn (by decide) (sn (by decide) (sn (by decide) (sn (by decide) (sn (by decide) (sn (by decide) (sn (by decide) e0_3))))))))))))))))))))))) X0_ok trivial (uwV m_30_4 m_30_5 m_30_6 m_1_5 m_30_7) (hdV 0 (by decide +kernel) rfl) ⟨Nat.le_of_ble_eq_true rfl, Nat.le_of_ble_eq_true rfl⟩ rfl rfl (ci := 11) rfl rfl (isC := [6, 0]) (isR := [1, 2, 3, 4, 5]) (wr := [(a2, .inl (K 0, 9, .inl (fun _ => 0))), (a3, .inl (K 1, 20, .inr (.inl (vp_updL (vp_updL (vp_updL (vp_updL (vp_updL (vp_updL (vp_updL (vp_updL (vp_updL (vp_updL (vp_updL (vp_updL (vp_updL (vp_updL (vp_updL (vp_updL (vp_updL (vp_updL (vp_updL (vp_updL f3 0 0) 1 0) 2 0) 3 0) 4 0) 5 0) 6 0) 7 0) 8 0) 9 0) 10 0) 11 0) 12 0) 13 0) 14 0) 15 0) 16 0) 17 0) 18 0) 19 0)))), (a4, .inl (K 3, 20, .inl (upd (upd (upd (upd (upd (upd (upd (upd (upd (upd (upd (upd (upd (upd (upd (upd (upd (upd (upd (upd f4 0 0) 1 0) 2 0) 3 0) 4 0) 5 0) 6 0) 7 0) 8 0) 9 0) 10 0) 11 0) 12 0) 13 0) 14 0) 15 0) 16 0) 17 0) 18 0) 19 0))), (a5, .inl (K 3, 7999, .inl (fun _ => 0))), (a6, .inl (K 3, 10, .inl (fun _ => 0)))]) ⟨rfl, rfl, rfl, rfl, by decide⟩ rfl hl.1 (Nat.le_of_ble_eq_true rfl) dX12_assembleText_110 ⟨Nat.le_of_ble_eq_true rfl, Nat.le_of_ble_eq_true rfl⟩ (fun u_7 H locs hw hP hD hS => ?_)
  have hP : va_P D vwCl [(a2, .inl (K 0, 9, .inl (fun _ => 0))), (a3, .inl (K 1, 20, .inr (.inl (vp_updL (vp_updL (vp_updL (vp_updL (vp_updL (vp_updL (vp_updL (vp_updL (vp_updL (vp_updL (vp_updL (vp_updL (vp_updL (vp_updL (vp_updL (vp_updL (vp_updL (vp_updL (vp_updL (vp_updL f3 0 0) 1 0) 2 0) 3 0) 4 0) 5 0) 6 0) 7 0) 8 0) 9 0) 10 0) 11 0) 12 0) 13 0) 14 0) 15 0) 16 0) 17 0) 18 0) 19 0)))), (a4, .inl (K 3, 20, .inl (upd (upd (upd (upd (upd (upd (upd (upd (upd (upd (upd (upd (upd (upd (upd (upd (upd (upd (upd (upd f4 0 0) 1 0) 2 0) 3 0) 4 0) 5 0) 6 0) 7 0) 8 0) 9 0) 10 0) 11 0) 12 0) 13 0) 14 0) 15 0) 16 0) 17 0) 18 0) 19 0))), (a5, .inl (K 3, 7999, .inl (fun _ => 0))), (a6, .inl (K 3, 10, .inl (fun _ => 0))), (a0, .inr (11, ((((((((((((((((((((((s0.set 5 (.int 0)).set 6 (.int 1)).set 7 (.int 0)).set 8 (.long 0)).set 9 (.int 9)).set 10 (.int 0)).set 11 (.int 0)).set 12 (.int 0)).set 91 (.int 0)).set 42 (.int 0)).set 70 (.int 0)).set 47 (.int 0)).set 48 (.int 0)).set 45 (.int 0)).set 52 (.int 0)).set 60 (.int 0)).set 41 (.int 0)).set 67 (.int 0)).set 70 (.int 7)).set 43 (.int 7)).set 44 (.int 1)).set 51 (.int 0)))), (a1, .inl (K 0, 7999, .inl (fun _ => 0)))] H := hP
  have hD : va_D A [(a2, .inl (K 0, 9, .inl (fun _ => 0))), (a3, .inl (K 1, 20, .inr (.inl (vp_updL (vp_updL (vp_updL (vp_updL (vp_updL (vp_updL (vp_updL (vp_updL (vp_updL (vp_updL (vp_updL (vp_updL (vp_updL (vp_updL (vp_updL (vp_updL (vp_updL (vp_updL (vp_updL (vp_updL f3 0 0) 1 0) 2 0) 3 0) 4 0) 5 0) 6 0) 7 0) 8 0) 9 0) 10 0) 11 0) 12 0) 13 0) 14 0) 15 0) 16 0) 17 0) 18 0) 19 0)))), (a4, .inl (K 3, 20, .inl (upd (upd (upd (upd (upd (upd (upd (upd (upd (upd (upd (upd (upd (upd (upd (upd (upd (upd (upd (upd f4 0 0) 1 0) 2 0) 3 0) 4 0) 5 0) 6 0) 7 0) 8 0) 9 0) 10 0) 11 0) 12 0) 13 0) 14 0) 15 0) 16 0) 17 0) 18 0) 19 0))), (a5, .inl (K 3, 7999, .inl (fun _ => 0))), (a6, .inl (K 3, 10, .inl (fun _ => 0))), (a0, .inr (11, ((((((((((((((((((((((s0.set 5 (.int 0)).set 6 (.int 1)).set 7 (.int 0)).set 8 (.long 0)).set 9 (.int 9)).set 10 (.int 0)).set 11 (.int 0)).set 12 (.int 0)).set 91 (.int 0)).set 42 (.int 0)).set 70 (.int 0)).set 47 (.int 0)).set 48 (.int 0)).set 45 (.int 0)).set 52 (.int 0)).set 60 (.int 0)).set 41 (.int 0)).set 67 (.int 0)).set 70 (.int 7)).set 43 (.int 7)).set 44 (.int 1)).set 51 (.int 0)))), (a1, .inl (K 0, 7999, .inl (fun _ => 0)))] := hD
  refine lv_aload_n C.1 C.2.1 dX12_assembleText_113 rfl (lv_at hl 1 rfl) ?_
  refine lv_aload_n C.1 C.2.1 dX12_assembleText_114 rfl (lv_at hl 1 rfl) ?_
  refine k_get (v := .int 7) C hP 5 rfl rfl inlX12 70 (by decide) m_29_13 (sn (by decide) (sn (by decide) (sn (by decide) (ss (sk (sl (sl (sl (sl (sl (sl (sl (sl (sl (sl (sl (sl (sl (sl (sl (sl (sl (sl n0)))))))))))))))))) (by decide)))))) dX12_assembleText_115 ?_
  refine lv_if_ne (tgt := 125) C.1 C.2.1 dX12_assembleText_118 (by decide) (fun _ => ?_) (fun h => absurd h (by decide))
  refine lv_iconst (v := 0) C.1 C.2.1 dX12_assembleText_125 (by decide) ?_
  refine k_put (ws' := [(a2, .inl (K 0, 9, .inl (fun _ => 0))), (a3, .inl (K 1, 20, .inr (.inl (vp_updL (vp_updL (vp_updL (vp_updL (vp_updL (vp_updL (vp_updL (vp_updL (vp_updL (vp_updL (vp_updL (vp_updL (vp_updL (vp_updL (vp_updL (vp_updL (vp_updL (vp_updL (vp_updL (vp_updL f3 0 0) 1 0) 2 0) 3 0) 4 0) 5 0) 6 0) 7 0) 8 0) 9 0) 10 0) 11 0) 12 0) 13 0) 14 0) 15 0) 16 0) 17 0) 18 0) 19 0)))), (a4, .inl (K 3, 20, .inl (upd (upd (upd (upd (upd (upd (upd (upd (upd (upd (upd (upd (upd (upd (upd (upd (upd (upd (upd (upd f4 0 0) 1 0) 2 0) 3 0) 4 0) 5 0) 6 0) 7 0) 8 0) 9 0) 10 0) 11 0) 12 0) 13 0) 14 0) 15 0) 16 0) 17 0) 18 0) 19 0))), (a5, .inl (K 3, 7999, .inl (fun _ => 0))), (a6, .inl (K 3, 10, .inl (fun _ => 0))), (a0, .inr (11, (((((((((((((((((((((((s0.set 5 (.int 0)).set 6 (.int 1)).set 7 (.int 0)).set 8 (.long 0)).set 9 (.int 9)).set 10 (.int 0)).set 11 (.int 0)).set 12 (.int 0)).set 91 (.int 0)).set 42 (.int 0)).set 70 (.int 0)).set 47 (.int 0)).set 48 (.int 0)).set 45 (.int 0)).set 52 (.int 0)).set 60 (.int 0)).set 41 (.int 0)).set 67 (.int 0)).set 70 (.int 7)).set 43 (.int 7)).set 44 (.int 1)).set 51 (.int 0)).set 42 (.int 0)))), (a1, .inl (K 0, 7999, .inl (fun _ => 0)))]) (v := .int 0) C hP hD hS 5 rfl rfl inlX12 tyX12_ok nmX12 42 (by decide) m_29_16 rfl (by decide) (by decide) (sl (sl (sl (sl (sl (sl (sl (sl (sl (sl (sl (sl (sl (sl (sl (sl (sl (sl (sl (sl (sl (sl n0)))))))))))))))))))))) rfl dX12_assembleText_126 (fun H locs hP hD hS => ?_)
  refine lv_aload_n C.1 C.2.1 dX12_assembleText_129 rfl (lv_at hl 1 rfl) ?_
  refine k_get (v := .int 0) C hP 5 rfl rfl inlX12 42 (by decide) m_29_16 (ss (sk (sl (sl (sl (sl (sl (sl (sl (sl (sl (sl (sl (sl (sl (sl (sl (sl (sl (sl (sl (sl (sl (sl n0)))))))))))))))))))))) (by decide))) dX12_assembleText_130 ?_
  exact k_iret C hr hlocks hP hD hS (by decide) (fun _ => 0) [5, 6, 0, 1, 2, 3, 4] rfl rfl rfl (Nat.le_of_ble_eq_true rfl) (Nat.le_of_ble_eq_true rfl) dX12_assembleText_133
set_option maxHeartbeats 4000000 in
set_option maxRecDepth 100000 in
theorem t_X12_assemble (l : Launch) (D : va_G) (K : Nat → ClassId) (a0 : Nat) (a1 : Nat) (a2 : Nat) (a3 : Nat) (a4 : Nat) (a5 : Nat) (a6 : Nat) (a7 : Nat) (s0 : List Value) (n0 : s0.length = 94) (f1 : Nat → Int32) (f2 : Nat → Int32) (f3 : Nat → Int64) (f4 : Nat → Int32) (f5 : Nat → Int32) (f6 : Nat → Int32) (e0_1 : s0[1]? = some (.ref a1)) (e0_2 : s0[2]? = some (.int 0)) (e0_3 : s0[3]? = some (.ref a2)) (e0_4 : s0[4]? = some (.ref a3)) (e0_19 : s0[19]? = some (.ref a4)) (e0_20 : s0[20]? = some (.ref a5)) (e0_49 : s0[49]? = some (.ref a6)) (e0_59 : s0[59]? = some (.ref a7)) : uMet l yX12_assemble cX12_assemble 1 (some .int) (rmD 3 0 0) D K X0 [.ref a0] [(a0, .inr (11, s0)), (a2, .inl (K 0, 7999, .inl f1)), (a3, .inl (K 0, 9, .inl f2)), (a4, .inl (K 1, 20, .inr (.inl f3))), (a5, .inl (K 3, 20, .inl f4)), (a6, .inl (K 3, 7999, .inl f5)), (a7, .inl (K 3, 10, .inl f6))] (QI D K (fun (r : Int32) (u : Nat → Nat) => r = (-2)) (fun (u : Nat → Nat) => [])) 0 0 := by
  refine k_met RX12 ⟨rfl, by decide +kernel⟩ (Nat.le_of_ble_eq_true rfl) ?_
  intro p e s m below meth c A ls C hX hr hlocks hin hA hP hD hS hl
  have hl : lv_has ls 1 [(0, .ref a0)] := hl
  refine lv_aload_n C.1 C.2.1 dX12_assemble_0 rfl (lv_at hl 0 rfl) ?_
  refine lv_iconst (v := 0) C.1 C.2.1 dX12_assemble_1 (by decide) ?_
  refine k_put (ws' := [(a0, .inr (11, (s0.set 0 (.int 0)))), (a2, .inl (K 0, 7999, .inl f1)), (a3, .inl (K 0, 9, .inl f2)), (a4, .inl (K 1, 20, .inr (.inl f3))), (a5, .inl (K 3, 20, .inl f4)), (a6, .inl (K 3, 7999, .inl f5)), (a7, .inl (K 3, 10, .inl f6))]) (v := .int 0) C hP hD hS 0 rfl rfl inlX12 tyX12_ok nmX12 0 (by decide) m_9_18 rfl rfl rfl n0 rfl dX12_assemble_2 (fun H locs hP hD hS => ?_)
  refine lv_aload_n C.1 C.2.1 dX12_assemble_5 rfl (lv_at hl 0 rfl) ?_
  refine lv_aload_n C.1 C.2.1 dX12_assemble_6 rfl (lv_at hl 0 rfl) ?_
  refine k_get (v := .ref a1) C hP 0 rfl rfl inlX12 1 (by decide) m_7_4 (sn (by decide) e0_1) dX12_assemble_7 ?_
  refine lv_aload_n C.1 C.2.1 dX12_assemble_10 rfl (lv_at hl 0 rfl) ?_
  refine k_get (v := .int 0) C hP 0 rfl rfl inlX12 2 (by decide) m_9_19 (sn (by decide) e0_2) dX12_assemble_11 ?_
  refine k_Vv (As := [.ref a1, .int 0]) (rest := []) C hP hD hS hA (c_X12_copyText l D K a0 a1 ((s0.set 0 (.int 0))) (sl n0)) X0_ok trivial (uwV m_29_2 m_29_3 m_29_4 m_1_5 m_29_5) (hdV 2 (by decide +kernel) rfl) ⟨Nat.le_of_ble_eq_true rfl, Nat.le_of_ble_eq_true rfl⟩ rfl rfl (ci := 11) rfl rfl (isC := [0]) (isR := [1, 2, 3, 4, 5, 6]) (wr := [(a2, .inl (K 0, 7999, .inl f1)), (a3, .inl (K 0, 9, .inl f2)), (a4, .inl (K 1, 20, .inr (.inl f3))), (a5, .inl (K 3, 20, .inl f4)), (a6, .inl (K 3, 7999, .inl f5)), (a7, .inl (K 3, 10, .inl f6))]) ⟨rfl, rfl, rfl, rfl, by decide⟩ rfl hl.1 (Nat.le_of_ble_eq_true rfl) dX12_assemble_14 ⟨Nat.le_of_ble_eq_true rfl, Nat.le_of_ble_eq_true rfl⟩ (fun u_1 H locs hw hP hD hS => ?_)
  have hP : va_P D vwCl [(a2, .inl (K 0, 7999, .inl f1)), (a3, .inl (K 0, 9, .inl f2)), (a4, .inl (K 1, 20, .inr (.inl f3))), (a5, .inl (K 3, 20, .inl f4)), (a6, .inl (K 3, 7999, .inl f5)), (a7, .inl (K 3, 10, .inl f6)), (a0, .inr (11, ((s0.set 0 (.int 0)).set 38 (.int 0))))] H := hP
  have hD : va_D A [(a2, .inl (K 0, 7999, .inl f1)), (a3, .inl (K 0, 9, .inl f2)), (a4, .inl (K 1, 20, .inr (.inl f3))), (a5, .inl (K 3, 20, .inl f4)), (a6, .inl (K 3, 7999, .inl f5)), (a7, .inl (K 3, 10, .inl f6)), (a0, .inr (11, ((s0.set 0 (.int 0)).set 38 (.int 0))))] := hD
  refine lv_aload_n C.1 C.2.1 dX12_assemble_17 rfl (lv_at hl 0 rfl) ?_
  refine lv_iconst (v := 0) C.1 C.2.1 dX12_assemble_18 (by decide) ?_
  refine k_put (ws' := [(a2, .inl (K 0, 7999, .inl f1)), (a3, .inl (K 0, 9, .inl f2)), (a4, .inl (K 1, 20, .inr (.inl f3))), (a5, .inl (K 3, 20, .inl f4)), (a6, .inl (K 3, 7999, .inl f5)), (a7, .inl (K 3, 10, .inl f6)), (a0, .inr (11, (((s0.set 0 (.int 0)).set 38 (.int 0)).set 2 (.int 0))))]) (v := .int 0) C hP hD hS 6 rfl rfl inlX12 tyX12_ok nmX12 2 (by decide) m_9_19 rfl rfl rfl (sl (sl n0)) rfl dX12_assemble_19 (fun H locs hP hD hS => ?_)
  refine lv_aload_n C.1 C.2.1 dX12_assemble_22 rfl (lv_at hl 0 rfl) ?_
  refine lv_iconst (v := 0) C.1 C.2.1 dX12_assemble_23 (by decide) ?_
  refine k_put (ws' := [(a2, .inl (K 0, 7999, .inl f1)), (a3, .inl (K 0, 9, .inl f2)), (a4, .inl (K 1, 20, .inr (.inl f3))), (a5, .inl (K 3, 20, .inl f4)), (a6, .inl (K 3, 7999, .inl f5)), (a7, .inl (K 3, 10, .inl f6)), (a0, .inr (11, ((((s0.set 0 (.int 0)).set 38 (.int 0)).set 2 (.int 0)).set 46 (.int 0))))]) (v := .int 0) C hP hD hS 6 rfl rfl inlX12 tyX12_ok nmX12 46 (by decide) m_28_22 rfl (by decide) (by decide) (sl (sl (sl n0))) rfl dX12_assemble_24 (fun H locs hP hD hS => ?_)
  refine lv_aload_n C.1 C.2.1 dX12_assemble_27 rfl (lv_at hl 0 rfl) ?_
  refine k_Vi (As := []) (rest := []) C hP hD hS hA (c_X12_assembleText l D K a0 a2 a3 a4 a5 a6 a7 (((((s0.set 0 (.int 0)).set 38 (.int 0)).set 2 (.int 0)).set 46 (.int 0))) (sl (sl (sl (sl n0)))) f1 f2 f3 f4 f5 f6 (sn (by decide) (sn (by decide) (sn (by decide) (sn (by decide) e0_3)))) (sn (by decide) (sn (by decide) (sn (by decide) (sn (by decide) e0_4)))) (sn (by decide) (sn (by decide) (sn (by decide) (sn (by decide) e0_19)))) (sn (by decide) (sn (by decide) (sn (by decide) (sn (by decide) e0_20)))) (sn (by decide) (sn (by decide) (sn (by decide) (sn (by decide) e0_49)))) (sn (by decide) (sn (by decide) (sn (by decide) (sn (by decide) e0_59)))) (sn (by decide) (sn (by decide) (ss (sk (sl n0) (by decide)))))) X0_ok trivial (uwV m_29_7 m_29_8 m_29_9 m_1_5 m_29_10) (hdV 0 (by decide +kernel) rfl) ⟨Nat.le_of_ble_eq_true rfl, Nat.le_of_ble_eq_true rfl⟩ rfl rfl (ci := 11) rfl rfl (isC := [6, 0, 1, 2, 3, 4, 5]) (isR := []) (wr := []) ⟨rfl, rfl, rfl, rfl, by decide⟩ rfl hl.1 (Nat.le_of_ble_eq_true rfl) dX12_assemble_28 ⟨Nat.le_of_ble_eq_true rfl, Nat.le_of_ble_eq_true rfl⟩ (fun r_4 u_3 H locs hw hP hD hS => ?_)
  obtain rfl := hw
  have hP : va_P D vwCl [(a0, .inr (11, (((((((((((((((((((((((((((s0.set 0 (.int 0)).set 38 (.int 0)).set 2 (.int 0)).set 46 (.int 0)).set 5 (.int 0)).set 6 (.int 1)).set 7 (.int 0)).set 8 (.long 0)).set 9 (.int 9)).set 10 (.int 0)).set 11 (.int 0)).set 12 (.int 0)).set 91 (.int 0)).set 42 (.int 0)).set 70 (.int 0)).set 47 (.int 0)).set 48 (.int 0)).set 45 (.int 0)).set 52 (.int 0)).set 60 (.int 0)).set 41 (.int 0)).set 67 (.int 0)).set 70 (.int 7)).set 43 (.int 7)).set 44 (.int 1)).set 51 (.int 0)).set 42 (.int 0)))), (a2, .inl (K 0, 7999, .inl (fun _ => 0))), (a3, .inl (K 0, 9, .inl (fun _ => 0))), (a4, .inl (K 1, 20, .inr (.inl (vp_updL (vp_updL (vp_updL (vp_updL (vp_updL (vp_updL (vp_updL (vp_updL (vp_updL (vp_updL (vp_updL (vp_updL (vp_updL (vp_updL (vp_updL (vp_updL (vp_updL (vp_updL (vp_updL (vp_updL f3 0 0) 1 0) 2 0) 3 0) 4 0) 5 0) 6 0) 7 0) 8 0) 9 0) 10 0) 11 0) 12 0) 13 0) 14 0) 15 0) 16 0) 17 0) 18 0) 19 0)))), (a5, .inl (K 3, 20, .inl (upd (upd (upd (upd (upd (upd (upd (upd (upd (upd (upd (upd (upd (upd (upd (upd (upd (upd (upd (upd f4 0 0) 1 0) 2 0) 3 0) 4 0) 5 0) 6 0) 7 0) 8 0) 9 0) 10 0) 11 0) 12 0) 13 0) 14 0) 15 0) 16 0) 17 0) 18 0) 19 0))), (a6, .inl (K 3, 7999, .inl (fun _ => 0))), (a7, .inl (K 3, 10, .inl (fun _ => 0)))] H := hP
  have hD : va_D A [(a0, .inr (11, (((((((((((((((((((((((((((s0.set 0 (.int 0)).set 38 (.int 0)).set 2 (.int 0)).set 46 (.int 0)).set 5 (.int 0)).set 6 (.int 1)).set 7 (.int 0)).set 8 (.long 0)).set 9 (.int 9)).set 10 (.int 0)).set 11 (.int 0)).set 12 (.int 0)).set 91 (.int 0)).set 42 (.int 0)).set 70 (.int 0)).set 47 (.int 0)).set 48 (.int 0)).set 45 (.int 0)).set 52 (.int 0)).set 60 (.int 0)).set 41 (.int 0)).set 67 (.int 0)).set 70 (.int 7)).set 43 (.int 7)).set 44 (.int 1)).set 51 (.int 0)).set 42 (.int 0)))), (a2, .inl (K 0, 7999, .inl (fun _ => 0))), (a3, .inl (K 0, 9, .inl (fun _ => 0))), (a4, .inl (K 1, 20, .inr (.inl (vp_updL (vp_updL (vp_updL (vp_updL (vp_updL (vp_updL (vp_updL (vp_updL (vp_updL (vp_updL (vp_updL (vp_updL (vp_updL (vp_updL (vp_updL (vp_updL (vp_updL (vp_updL (vp_updL (vp_updL f3 0 0) 1 0) 2 0) 3 0) 4 0) 5 0) 6 0) 7 0) 8 0) 9 0) 10 0) 11 0) 12 0) 13 0) 14 0) 15 0) 16 0) 17 0) 18 0) 19 0)))), (a5, .inl (K 3, 20, .inl (upd (upd (upd (upd (upd (upd (upd (upd (upd (upd (upd (upd (upd (upd (upd (upd (upd (upd (upd (upd f4 0 0) 1 0) 2 0) 3 0) 4 0) 5 0) 6 0) 7 0) 8 0) 9 0) 10 0) 11 0) 12 0) 13 0) 14 0) 15 0) 16 0) 17 0) 18 0) 19 0))), (a6, .inl (K 3, 7999, .inl (fun _ => 0))), (a7, .inl (K 3, 10, .inl (fun _ => 0)))] := hD
  refine lv_if_ne (tgt := 41) C.1 C.2.1 dX12_assemble_31 (by decide) (fun h => absurd h (by decide)) (fun _ => ?_)
  refine lv_iconst (v := (-1)) C.1 C.2.1 dX12_assemble_34 (by decide) ?_
  refine lv_aload_n C.1 C.2.1 dX12_assemble_35 rfl (lv_at hl 0 rfl) ?_
  refine k_get (v := .int 1) C hP 0 rfl rfl inlX12 44 (by decide) m_28_23 (sn (by decide) (sn (by decide) (ss (sk (sl (sl (sl (sl (sl (sl (sl (sl (sl (sl (sl (sl (sl (sl (sl (sl (sl (sl (sl (sl (sl (sl (sl (sl n0)))))))))))))))))))))))) (by decide))))) dX12_assemble_36 ?_
  refine k_isub (v := (-2)) C (by decide) dX12_assemble_39 ?_
  exact k_iret C hr hlocks hP hD hS rfl (fun _ => 0) [] rfl rfl rfl (Nat.le_of_ble_eq_true rfl) (Nat.le_of_ble_eq_true rfl) dX12_assemble_40
