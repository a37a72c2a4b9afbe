theorem dX11_end_0 : decode cX11_end 0 = .ok (.iload_n 1, 1) := by decide +kernel
theorem dX11_end_1 : decode cX11_end 1 = .ok (.ifCond .lt 11, 3) := by decide +kernel
theorem dX11_end_12 : decode cX11_end 12 = .ok (.iconst 0, 1) := by decide +kernel
theorem dX11_end_13 : decode cX11_end 13 = .ok (.ireturn, 1) := by decide +kernel
theorem dX11_end_14 : decode cX11_end 14 = .ok (.aload_n 0, 1) := by decide +kernel
theorem dX11_end_15 : decode cX11_end 15 = .ok (.iload_n 1, 1) := by decide +kernel
theorem dX11_end_16 : decode cX11_end 16 = .ok (.putfield 70, 3) := by decide +kernel
theorem dX11_end_19 : decode cX11_end 19 = .ok (.iconst 1, 1) := by decide +kernel
theorem dX11_end_20 : decode cX11_end 20 = .ok (.ireturn, 1) := by decide +kernel
theorem dX11_end_4 : decode cX11_end 4 = .ok (.iload_n 1, 1) := by decide +kernel
theorem dX11_end_5 : decode cX11_end 5 = .ok (.aload_n 0, 1) := by decide +kernel
theorem dX11_end_6 : decode cX11_end 6 = .ok (.getfield 70, 3) := by decide +kernel
theorem dX11_end_9 : decode cX11_end 9 = .ok (.if_icmp .le 5, 3) := by decide +kernel
theorem dX12_end_0 : decode cX12_end 0 = .ok (.aload_n 0, 1) := by decide +kernel
theorem dX12_end_1 : decode cX12_end 1 = .ok (.iconst 0, 1) := by decide +kernel
theorem dX12_end_10 : decode cX12_end 10 = .ok (.aload_n 0, 1) := by decide +kernel
theorem dX12_end_11 : decode cX12_end 11 = .ok (.getfield 176, 3) := by decide +kernel
theorem dX12_end_14 : decode cX12_end 14 = .ok (.if_icmp .le 5, 3) := by decide +kernel
theorem dX12_end_17 : decode cX12_end 17 = .ok (.iconst 0, 1) := by decide +kernel
theorem dX12_end_18 : decode cX12_end 18 = .ok (.ireturn, 1) := by decide +kernel
theorem dX12_end_19 : decode cX12_end 19 = .ok (.aload_n 0, 1) := by decide +kernel
theorem dX12_end_2 : decode cX12_end 2 = .ok (.putfield 155, 3) := by decide +kernel
theorem dX12_end_20 : decode cX12_end 20 = .ok (.iload_n 1, 1) := by decide +kernel
theorem dX12_end_21 : decode cX12_end 21 = .ok (.putfield 176, 3) := by decide +kernel
theorem dX12_end_24 : decode cX12_end 24 = .ok (.iconst 1, 1) := by decide +kernel
theorem dX12_end_25 : decode cX12_end 25 = .ok (.ireturn, 1) := by decide +kernel
theorem dX12_end_5 : decode cX12_end 5 = .ok (.iload_n 1, 1) := by decide +kernel
theorem dX12_end_6 : decode cX12_end 6 = .ok (.ifCond .lt 11, 3) := by decide +kernel
theorem dX12_end_9 : decode cX12_end 9 = .ok (.iload_n 1, 1) := by decide +kernel
theorem dX11_error_0 : decode cX11_error 0 = .ok (.aload_n 0, 1) := by decide +kernel
theorem dX11_error_1 : decode cX11_error 1 = .ok (.getfield 48, 3) := by decide +kernel
theorem dX11_error_4 : decode cX11_error 4 = .ok (.getfield 121, 3) := by decide +kernel
theorem dX11_error_7 : decode cX11_error 7 = .ok (.ireturn, 1) := by decide +kernel
theorem dX12_error_0 : decode cX12_error 0 = .ok (.aload_n 0, 1) := by decide +kernel
theorem dX12_error_1 : decode cX12_error 1 = .ok (.iconst 0, 1) := by decide +kernel
theorem dX12_error_2 : decode cX12_error 2 = .ok (.putfield 155, 3) := by decide +kernel
theorem dX12_error_5 : decode cX12_error 5 = .ok (.aload_n 0, 1) := by decide +kernel
theorem dX12_error_6 : decode cX12_error 6 = .ok (.getfield 648, 3) := by decide +kernel
theorem dX12_error_9 : decode cX12_error 9 = .ok (.ireturn, 1) := by decide +kernel
theorem dX11_useUpTape_0 : decode cX11_useUpTape 0 = .ok (.aload_n 0, 1) := by decide +kernel
theorem dX11_useUpTape_1 : decode cX11_useUpTape 1 = .ok (.getfield 70, 3) := by decide +kernel
theorem dX11_useUpTape_10 : decode cX11_useUpTape 10 = .ok (.iload_n 1, 1) := by decide +kernel
theorem dX11_useUpTape_11 : decode cX11_useUpTape 11 = .ok (.ireturn, 1) := by decide +kernel
theorem dX11_useUpTape_4 : decode cX11_useUpTape 4 = .ok (.istore_n 1, 1) := by decide +kernel
theorem dX11_useUpTape_5 : decode cX11_useUpTape 5 = .ok (.aload_n 0, 1) := by decide +kernel
theorem dX11_useUpTape_6 : decode cX11_useUpTape 6 = .ok (.iconst 0, 1) := by decide +kernel
theorem dX11_useUpTape_7 : decode cX11_useUpTape 7 = .ok (.putfield 70, 3) := by decide +kernel
theorem dX9_reopen_0 : decode cX9_reopen 0 = .ok (.aload_n 0, 1) := by decide +kernel
theorem dX9_reopen_1 : decode cX9_reopen 1 = .ok (.aload_n 0, 1) := by decide +kernel
theorem dX9_reopen_10 : decode cX9_reopen 10 = .ok (.putfield 40, 3) := by decide +kernel
theorem dX9_reopen_13 : decode cX9_reopen 13 = .ok (.return_, 1) := by decide +kernel
theorem dX9_reopen_2 : decode cX9_reopen 2 = .ok (.getfield 24, 3) := by decide +kernel
theorem dX9_reopen_5 : decode cX9_reopen 5 = .ok (.putfield 37, 3) := by decide +kernel
theorem dX9_reopen_8 : decode cX9_reopen 8 = .ok (.aload_n 0, 1) := by decide +kernel
theorem dX9_reopen_9 : decode cX9_reopen 9 = .ok (.iconst 0, 1) := by decide +kernel
theorem dX9_open_0 : decode cX9_open 0 = .ok (.aload_n 0, 1) := by decide +kernel
theorem dX9_open_1 : decode cX9_open 1 = .ok (.iload_n 1, 1) := by decide +kernel
theorem dX9_open_10 : decode cX9_open 10 = .ok (.iload_n 2, 1) := by decide +kernel
theorem dX9_open_11 : decode cX9_open 11 = .ok (.aload_n 0, 1) := by decide +kernel
theorem dX9_open_12 : decode cX9_open 12 = .ok (.getfield 15, 3) := by decide +kernel
theorem dX9_open_15 : decode cX9_open 15 = .ok (.arraylength, 1) := by decide +kernel
theorem dX9_open_16 : decode cX9_open 16 = .ok (.invokestatic 28, 3) := by decide +kernel
theorem dX9_open_19 : decode cX9_open 19 = .ok (.putfield 31, 3) := by decide +kernel
theorem dX9_open_2 : decode cX9_open 2 = .ok (.iconst 0, 1) := by decide +kernel
theorem dX9_open_22 : decode cX9_open 22 = .ok (.aload_n 0, 1) := by decide +kernel
theorem dX9_open_23 : decode cX9_open 23 = .ok (.invokevirtual 34, 3) := by decide +kernel
theorem dX9_open_26 : decode cX9_open 26 = .ok (.return_, 1) := by decide +kernel
theorem dX9_open_3 : decode cX9_open 3 = .ok (.invokestatic 18, 3) := by decide +kernel
theorem dX9_open_6 : decode cX9_open 6 = .ok (.putfield 24, 3) := by decide +kernel
theorem dX9_open_9 : decode cX9_open 9 = .ok (.aload_n 0, 1) := by decide +kernel
theorem dX9_advance_0 : decode cX9_advance 0 = .ok (.aload_n 0, 1) := by decide +kernel
theorem dX9_advance_1 : decode cX9_advance 1 = .ok (.dup, 1) := by decide +kernel
theorem dX9_advance_10 : decode cX9_advance 10 = .ok (.aload_n 0, 1) := by decide +kernel
theorem dX9_advance_11 : decode cX9_advance 11 = .ok (.getfield 37, 3) := by decide +kernel
theorem dX9_advance_14 : decode cX9_advance 14 = .ok (.aload_n 0, 1) := by decide +kernel
theorem dX9_advance_15 : decode cX9_advance 15 = .ok (.getfield 31, 3) := by decide +kernel
theorem dX9_advance_18 : decode cX9_advance 18 = .ok (.if_icmp .lt 5, 3) := by decide +kernel
theorem dX9_advance_2 : decode cX9_advance 2 = .ok (.getfield 40, 3) := by decide +kernel
theorem dX9_advance_21 : decode cX9_advance 21 = .ok (.iconst 0, 1) := by decide +kernel
theorem dX9_advance_22 : decode cX9_advance 22 = .ok (.ireturn, 1) := by decide +kernel
theorem dX9_advance_5 : decode cX9_advance 5 = .ok (.iconst 1, 1) := by decide +kernel
theorem dX9_advance_6 : decode cX9_advance 6 = .ok (.iadd, 1) := by decide +kernel
theorem dX9_advance_7 : decode cX9_advance 7 = .ok (.putfield 40, 3) := by decide +kernel
theorem dX11_cards_0 : decode cX11_cards 0 = .ok (.aload_n 0, 1) := by decide +kernel
theorem dX11_cards_1 : decode cX11_cards 1 = .ok (.invokevirtual 78, 3) := by decide +kernel
theorem dX11_cards_107 : decode cX11_cards 107 = .ok (.iload_n 3, 1) := by decide +kernel
theorem dX11_cards_108 : decode cX11_cards 108 = .ok (.ireturn, 1) := by decide +kernel
theorem dX11_cards_12 : decode cX11_cards 12 = .ok (.astore_n 2, 1) := by decide +kernel
theorem dX11_cards_13 : decode cX11_cards 13 = .ok (.aload_n 0, 1) := by decide +kernel
theorem dX11_cards_14 : decode cX11_cards 14 = .ok (.getfield 40, 3) := by decide +kernel
theorem dX11_cards_17 : decode cX11_cards 17 = .ok (.getfield 127, 3) := by decide +kernel
theorem dX11_cards_20 : decode cX11_cards 20 = .ok (.getfield 131, 3) := by decide +kernel
theorem dX11_cards_23 : decode cX11_cards 23 = .ok (.istore_n 3, 1) := by decide +kernel
theorem dX11_cards_24 : decode cX11_cards 24 = .ok (.aload_n 2, 1) := by decide +kernel
theorem dX11_cards_25 : decode cX11_cards 25 = .ok (.iconst 0, 1) := by decide +kernel
theorem dX11_cards_26 : decode cX11_cards 26 = .ok (.iload_n 1, 1) := by decide +kernel
theorem dX11_cards_27 : decode cX11_cards 27 = .ok (.invokevirtual 136, 3) := by decide +kernel
theorem dX11_cards_30 : decode cX11_cards 30 = .ok (.iconst 0, 1) := by decide +kernel
theorem dX11_cards_31 : decode cX11_cards 31 = .ok (.istore 4, 2) := by decide +kernel
theorem dX11_cards_33 : decode cX11_cards 33 = .ok (.iload 4, 2) := by decide +kernel
theorem dX11_cards_35 : decode cX11_cards 35 = .ok (.sipush 8192, 3) := by decide +kernel
theorem dX11_cards_38 : decode cX11_cards 38 = .ok (.if_icmp .ge 19, 3) := by decide +kernel
theorem dX11_cards_4 : decode cX11_cards 4 = .ok (.istore_n 1, 1) := by decide +kernel
theorem dX11_cards_41 : decode cX11_cards 41 = .ok (.aload_n 2, 1) := by decide +kernel
theorem dX11_cards_42 : decode cX11_cards 42 = .ok (.invokevirtual 139, 3) := by decide +kernel
theorem dX11_cards_45 : decode cX11_cards 45 = .ok (.ifCond .eq 12, 3) := by decide +kernel
theorem dX11_cards_5 : decode cX11_cards 5 = .ok (.aload_n 0, 1) := by decide +kernel
theorem dX11_cards_57 : decode cX11_cards 57 = .ok (.iload_n 3, 1) := by decide +kernel
theorem dX11_cards_58 : decode cX11_cards 58 = .ok (.sipush 400, 3) := by decide +kernel
theorem dX11_cards_6 : decode cX11_cards 6 = .ok (.getfield 66, 3) := by decide +kernel
theorem dX11_cards_61 : decode cX11_cards 61 = .ok (.if_icmp .le 5, 3) := by decide +kernel
theorem dX11_cards_66 : decode cX11_cards 66 = .ok (.aload_n 2, 1) := by decide +kernel
theorem dX11_cards_67 : decode cX11_cards 67 = .ok (.iconst 0, 1) := by decide +kernel
theorem dX11_cards_68 : decode cX11_cards 68 = .ok (.iload_n 1, 1) := by decide +kernel
theorem dX11_cards_69 : decode cX11_cards 69 = .ok (.invokevirtual 136, 3) := by decide +kernel
theorem dX11_cards_72 : decode cX11_cards 72 = .ok (.iconst 0, 1) := by decide +kernel
theorem dX11_cards_73 : decode cX11_cards 73 = .ok (.istore 4, 2) := by decide +kernel
theorem dX11_cards_75 : decode cX11_cards 75 = .ok (.iload 4, 2) := by decide +kernel
theorem dX11_cards_77 : decode cX11_cards 77 = .ok (.sipush 8192, 3) := by decide +kernel
theorem dX11_cards_80 : decode cX11_cards 80 = .ok (.if_icmp .ge 27, 3) := by decide +kernel
theorem dX11_cards_83 : decode cX11_cards 83 = .ok (.aload_n 2, 1) := by decide +kernel
theorem dX11_cards_84 : decode cX11_cards 84 = .ok (.invokevirtual 139, 3) := by decide +kernel
theorem dX11_cards_87 : decode cX11_cards 87 = .ok (.ifCond .eq 20, 3) := by decide +kernel
theorem dX11_cards_9 : decode cX11_cards 9 = .ok (.getfield 124, 3) := by decide +kernel
theorem dX12_cardsLeft_0 : decode cX12_cardsLeft 0 = .ok (.aload_n 0, 1) := by decide +kernel
theorem dX12_cardsLeft_1 : decode cX12_cardsLeft 1 = .ok (.getfield 226, 3) := by decide +kernel
theorem dX12_cardsLeft_4 : decode cX12_cardsLeft 4 = .ok (.aload_n 0, 1) := by decide +kernel
theorem dX12_cardsLeft_5 : decode cX12_cardsLeft 5 = .ok (.getfield 229, 3) := by decide +kernel
theorem dX12_cardsLeft_8 : decode cX12_cardsLeft 8 = .ok (.isub, 1) := by decide +kernel
theorem dX12_cardsLeft_9 : decode cX12_cardsLeft 9 = .ok (.ireturn, 1) := by decide +kernel
theorem dX12_gatherCards_0 : decode cX12_gatherCards 0 = .ok (.iconst 0, 1) := by decide +kernel
theorem dX12_gatherCards_1 : decode cX12_gatherCards 1 = .ok (.istore_n 1, 1) := by decide +kernel
theorem dX12_gatherCards_10 : decode cX12_gatherCards 10 = .ok (.iload_n 2, 1) := by decide +kernel
theorem dX12_gatherCards_106 : decode cX12_gatherCards 106 = .ok (.aload_n 0, 1) := by decide +kernel
theorem dX12_gatherCards_107 : decode cX12_gatherCards 107 = .ok (.iconst 0, 1) := by decide +kernel
theorem dX12_gatherCards_108 : decode cX12_gatherCards 108 = .ok (.putfield 229, 3) := by decide +kernel
theorem dX12_gatherCards_11 : decode cX12_gatherCards 11 = .ok (.if_icmp .ge 95, 3) := by decide +kernel
theorem dX12_gatherCards_111 : decode cX12_gatherCards 111 = .ok (.aload_n 0, 1) := by decide +kernel
theorem dX12_gatherCards_112 : decode cX12_gatherCards 112 = .ok (.iload_n 2, 1) := by decide +kernel
theorem dX12_gatherCards_113 : decode cX12_gatherCards 113 = .ok (.putfield 226, 3) := by decide +kernel
theorem dX12_gatherCards_116 : decode cX12_gatherCards 116 = .ok (.return_, 1) := by decide +kernel
theorem dX12_gatherCards_2 : decode cX12_gatherCards 2 = .ok (.aload_n 0, 1) := by decide +kernel
theorem dX12_gatherCards_3 : decode cX12_gatherCards 3 = .ok (.invokevirtual 232, 3) := by decide +kernel
theorem dX12_gatherCards_6 : decode cX12_gatherCards 6 = .ok (.istore_n 2, 1) := by decide +kernel
theorem dX12_gatherCards_7 : decode cX12_gatherCards 7 = .ok (.iconst 0, 1) := by decide +kernel
theorem dX12_gatherCards_8 : decode cX12_gatherCards 8 = .ok (.istore_n 3, 1) := by decide +kernel
theorem dX12_gatherCards_9 : decode cX12_gatherCards 9 = .ok (.iload_n 3, 1) := by decide +kernel
theorem dX12_cards_0 : decode cX12_cards 0 = .ok (.aload_n 0, 1) := by decide +kernel
theorem dX12_cards_1 : decode cX12_cards 1 = .ok (.iconst 0, 1) := by decide +kernel
theorem dX12_cards_10 : decode cX12_cards 10 = .ok (.aload_n 0, 1) := by decide +kernel
theorem dX12_cards_100 : decode cX12_cards 100 = .ok (.aload_n 0, 1) := by decide +kernel
theorem dX12_cards_101 : decode cX12_cards 101 = .ok (.invokevirtual 232, 3) := by decide +kernel
theorem dX12_cards_104 : decode cX12_cards 104 = .ok (.ireturn, 1) := by decide +kernel
theorem dX12_cards_11 : decode cX12_cards 11 = .ok (.iconst 0, 1) := by decide +kernel
theorem dX12_cards_12 : decode cX12_cards 12 = .ok (.putfield 176, 3) := by decide +kernel
theorem dX12_cards_15 : decode cX12_cards 15 = .ok (.iconst 0, 1) := by decide +kernel
theorem dX12_cards_16 : decode cX12_cards 16 = .ok (.istore_n 2, 1) := by decide +kernel
theorem dX12_cards_17 : decode cX12_cards 17 = .ok (.iconst 0, 1) := by decide +kernel
theorem dX12_cards_18 : decode cX12_cards 18 = .ok (.istore_n 3, 1) := by decide +kernel
theorem dX12_cards_19 : decode cX12_cards 19 = .ok (.iload_n 3, 1) := by decide +kernel
theorem dX12_cards_2 : decode cX12_cards 2 = .ok (.putfield 155, 3) := by decide +kernel
theorem dX12_cards_20 : decode cX12_cards 20 = .ok (.iload_n 1, 1) := by decide +kernel
theorem dX12_cards_21 : decode cX12_cards 21 = .ok (.if_icmp .ge 21, 3) := by decide +kernel
theorem dX12_cards_42 : decode cX12_cards 42 = .ok (.aload_n 0, 1) := by decide +kernel
theorem dX12_cards_43 : decode cX12_cards 43 = .ok (.invokevirtual 232, 3) := by decide +kernel
theorem dX12_cards_46 : decode cX12_cards 46 = .ok (.iload_n 2, 1) := by decide +kernel
theorem dX12_cards_47 : decode cX12_cards 47 = .ok (.iadd, 1) := by decide +kernel
theorem dX12_cards_48 : decode cX12_cards 48 = .ok (.sipush 400, 3) := by decide +kernel
theorem dX12_cards_5 : decode cX12_cards 5 = .ok (.aload_n 0, 1) := by decide +kernel
theorem dX12_cards_51 : decode cX12_cards 51 = .ok (.if_icmp .le 5, 3) := by decide +kernel
theorem dX12_cards_56 : decode cX12_cards 56 = .ok (.aload_n 0, 1) := by decide +kernel
theorem dX12_cards_57 : decode cX12_cards 57 = .ok (.invokevirtual 718, 3) := by decide +kernel
theorem dX12_cards_6 : decode cX12_cards 6 = .ok (.getfield 176, 3) := by decide +kernel
theorem dX12_cards_60 : decode cX12_cards 60 = .ok (.iconst 0, 1) := by decide +kernel
theorem dX12_cards_61 : decode cX12_cards 61 = .ok (.istore_n 3, 1) := by decide +kernel
theorem dX12_cards_62 : decode cX12_cards 62 = .ok (.iload_n 3, 1) := by decide +kernel
theorem dX12_cards_63 : decode cX12_cards 63 = .ok (.iload_n 1, 1) := by decide +kernel
theorem dX12_cards_64 : decode cX12_cards 64 = .ok (.if_icmp .ge 36, 3) := by decide +kernel
theorem dX12_cards_9 : decode cX12_cards 9 = .ok (.istore_n 1, 1) := by decide +kernel
theorem dX11_advance_0 : decode cX11_advance 0 = .ok (.iconst 0, 1) := by decide +kernel
theorem dX11_advance_1 : decode cX11_advance 1 = .ok (.istore_n 3, 1) := by decide +kernel
theorem dX11_advance_10 : decode cX11_advance 10 = .ok (.if_icmp .ge 48, 3) := by decide +kernel
theorem dX11_advance_13 : decode cX11_advance 13 = .ok (.iload_n 3, 1) := by decide +kernel
theorem dX11_advance_14 : decode cX11_advance 14 = .ok (.iload_n 1, 1) := by decide +kernel
theorem dX11_advance_15 : decode cX11_advance 15 = .ok (.if_icmp .ge 43, 3) := by decide +kernel
theorem dX11_advance_18 : decode cX11_advance 18 = .ok (.aload_n 0, 1) := by decide +kernel
theorem dX11_advance_19 : decode cX11_advance 19 = .ok (.getfield 44, 3) := by decide +kernel
theorem dX11_advance_2 : decode cX11_advance 2 = .ok (.iconst 0, 1) := by decide +kernel
theorem dX11_advance_22 : decode cX11_advance 22 = .ok (.getfield 220, 3) := by decide +kernel
theorem dX11_advance_25 : decode cX11_advance 25 = .ok (.ifCond .ne 33, 3) := by decide +kernel
theorem dX11_advance_3 : decode cX11_advance 3 = .ok (.istore 4, 2) := by decide +kernel
theorem dX11_advance_5 : decode cX11_advance 5 = .ok (.iload 4, 2) := by decide +kernel
theorem dX11_advance_58 : decode cX11_advance 58 = .ok (.iload_n 3, 1) := by decide +kernel
theorem dX11_advance_59 : decode cX11_advance 59 = .ok (.ireturn, 1) := by decide +kernel
theorem dX11_advance_7 : decode cX11_advance 7 = .ok (.iconst 2, 1) := by decide +kernel
theorem dX11_advance_8 : decode cX11_advance 8 = .ok (.iload_n 1, 1) := by decide +kernel
theorem dX11_advance_9 : decode cX11_advance 9 = .ok (.imul, 1) := by decide +kernel
theorem dX11_run_0 : decode cX11_run 0 = .ok (.iload_n 1, 1) := by decide +kernel
theorem dX11_run_1 : decode cX11_run 1 = .ok (.ifCond .lt 9, 3) := by decide +kernel
theorem dX11_run_10 : decode cX11_run 10 = .ok (.iconst 0, 1) := by decide +kernel
theorem dX11_run_11 : decode cX11_run 11 = .ok (.goto 9, 3) := by decide +kernel
theorem dX11_run_14 : decode cX11_run 14 = .ok (.aload_n 0, 1) := by decide +kernel
theorem dX11_run_15 : decode cX11_run 15 = .ok (.iload_n 1, 1) := by decide +kernel
theorem dX11_run_16 : decode cX11_run 16 = .ok (.iconst 0, 1) := by decide +kernel
theorem dX11_run_17 : decode cX11_run 17 = .ok (.invokevirtual 147, 3) := by decide +kernel
theorem dX11_run_20 : decode cX11_run 20 = .ok (.ireturn, 1) := by decide +kernel
theorem dX11_run_4 : decode cX11_run 4 = .ok (.iload_n 1, 1) := by decide +kernel
theorem dX11_run_5 : decode cX11_run 5 = .ok (.ldc 146, 2) := by decide +kernel
theorem dX11_run_7 : decode cX11_run 7 = .ok (.if_icmp .le 7, 3) := by decide +kernel
theorem dX12_goOn_0 : decode cX12_goOn 0 = .ok (.iconst 0, 1) := by decide +kernel
theorem dX12_goOn_1 : decode cX12_goOn 1 = .ok (.istore_n 2, 1) := by decide +kernel
theorem dX12_goOn_11 : decode cX12_goOn 11 = .ok (.ifCond .ne 58, 3) := by decide +kernel
theorem dX12_goOn_2 : decode cX12_goOn 2 = .ok (.iload_n 2, 1) := by decide +kernel
theorem dX12_goOn_3 : decode cX12_goOn 3 = .ok (.iload_n 1, 1) := by decide +kernel
theorem dX12_goOn_4 : decode cX12_goOn 4 = .ok (.if_icmp .ge 65, 3) := by decide +kernel
theorem dX12_goOn_69 : decode cX12_goOn 69 = .ok (.iload_n 2, 1) := by decide +kernel
theorem dX12_goOn_7 : decode cX12_goOn 7 = .ok (.aload_n 0, 1) := by decide +kernel
theorem dX12_goOn_70 : decode cX12_goOn 70 = .ok (.ireturn, 1) := by decide +kernel
theorem dX12_goOn_8 : decode cX12_goOn 8 = .ok (.getfield 24, 3) := by decide +kernel
theorem dX12_run_0 : decode cX12_run 0 = .ok (.aload_n 0, 1) := by decide +kernel
theorem dX12_run_1 : decode cX12_run 1 = .ok (.iconst 0, 1) := by decide +kernel
theorem dX12_run_10 : decode cX12_run 10 = .ok (.ldc_w 711, 3) := by decide +kernel
theorem dX12_run_13 : decode cX12_run 13 = .ok (.if_icmp .le 7, 3) := by decide +kernel
theorem dX12_run_16 : decode cX12_run 16 = .ok (.iconst 0, 1) := by decide +kernel
theorem dX12_run_17 : decode cX12_run 17 = .ok (.goto 8, 3) := by decide +kernel
theorem dX12_run_2 : decode cX12_run 2 = .ok (.putfield 155, 3) := by decide +kernel
theorem dX12_run_20 : decode cX12_run 20 = .ok (.aload_n 0, 1) := by decide +kernel
theorem dX12_run_21 : decode cX12_run 21 = .ok (.iload_n 1, 1) := by decide +kernel
theorem dX12_run_22 : decode cX12_run 22 = .ok (.invokevirtual 712, 3) := by decide +kernel
theorem dX12_run_25 : decode cX12_run 25 = .ok (.ireturn, 1) := by decide +kernel
theorem dX12_run_5 : decode cX12_run 5 = .ok (.iload_n 1, 1) := by decide +kernel
theorem dX12_run_6 : decode cX12_run 6 = .ok (.ifCond .lt 10, 3) := by decide +kernel
theorem dX12_run_9 : decode cX12_run 9 = .ok (.iload_n 1, 1) := by decide +kernel
theorem dX6_hasCard_0 : decode cX6_hasCard 0 = .ok (.aload_n 0, 1) := by decide +kernel
theorem dX6_hasCard_1 : decode cX6_hasCard 1 = .ok (.getfield 18, 3) := by decide +kernel
theorem dX6_hasCard_4 : decode cX6_hasCard 4 = .ok (.ifCond .le 43, 3) := by decide +kernel
theorem dX6_hasCard_47 : decode cX6_hasCard 47 = .ok (.iconst 0, 1) := by decide +kernel
theorem dX6_hasCard_48 : decode cX6_hasCard 48 = .ok (.ireturn, 1) := by decide +kernel
theorem dX11_go_0 : decode cX11_go 0 = .ok (.aload_n 0, 1) := by decide +kernel
theorem dX11_go_1 : decode cX11_go 1 = .ok (.getfield 40, 3) := by decide +kernel
theorem dX11_go_11 : decode cX11_go 11 = .ok (.ifCond .ne 5, 3) := by decide +kernel
theorem dX11_go_14 : decode cX11_go 14 = .ok (.iconst 0, 1) := by decide +kernel
theorem dX11_go_15 : decode cX11_go 15 = .ok (.ireturn, 1) := by decide +kernel
theorem dX11_go_4 : decode cX11_go 4 = .ok (.getfield 127, 3) := by decide +kernel
theorem dX11_go_7 : decode cX11_go 7 = .ok (.iconst 0, 1) := by decide +kernel
theorem dX11_go_8 : decode cX11_go 8 = .ok (.invokevirtual 149, 3) := by decide +kernel
theorem dX12_go_0 : decode cX12_go 0 = .ok (.aload_n 0, 1) := by decide +kernel
theorem dX12_go_1 : decode cX12_go 1 = .ok (.iconst 0, 1) := by decide +kernel
theorem dX12_go_12 : decode cX12_go 12 = .ok (.iconst 0, 1) := by decide +kernel
theorem dX12_go_13 : decode cX12_go 13 = .ok (.ireturn, 1) := by decide +kernel
theorem dX12_go_2 : decode cX12_go 2 = .ok (.putfield 155, 3) := by decide +kernel
theorem dX12_go_5 : decode cX12_go 5 = .ok (.aload_n 0, 1) := by decide +kernel
theorem dX12_go_6 : decode cX12_go 6 = .ok (.invokevirtual 232, 3) := by decide +kernel
theorem dX12_go_9 : decode cX12_go 9 = .ok (.ifCond .ne 5, 3) := by decide +kernel
theorem dX11_deck_0 : decode cX11_deck 0 = .ok (.aload_n 0, 1) := by decide +kernel
theorem dX11_deck_1 : decode cX11_deck 1 = .ok (.getfield 48, 3) := by decide +kernel
theorem dX11_deck_20 : decode cX11_deck 20 = .ok (.iconst (-1), 1) := by decide +kernel
theorem dX11_deck_21 : decode cX11_deck 21 = .ok (.ireturn, 1) := by decide +kernel
theorem dX11_deck_4 : decode cX11_deck 4 = .ok (.getfield 153, 3) := by decide +kernel
theorem dX11_deck_7 : decode cX11_deck 7 = .ok (.ifCond .eq 13, 3) := by decide +kernel
theorem dX12_deck_0 : decode cX12_deck 0 = .ok (.aload_n 0, 1) := by decide +kernel
theorem dX12_deck_1 : decode cX12_deck 1 = .ok (.iconst 0, 1) := by decide +kernel
theorem dX12_deck_19 : decode cX12_deck 19 = .ok (.iconst (-1), 1) := by decide +kernel
theorem dX12_deck_2 : decode cX12_deck 2 = .ok (.putfield 155, 3) := by decide +kernel
theorem dX12_deck_20 : decode cX12_deck 20 = .ok (.ireturn, 1) := by decide +kernel
theorem dX12_deck_5 : decode cX12_deck 5 = .ok (.aload_n 0, 1) := by decide +kernel
theorem dX12_deck_6 : decode cX12_deck 6 = .ok (.getfield 633, 3) := by decide +kernel
theorem dX12_deck_9 : decode cX12_deck 9 = .ok (.ifCond .eq 10, 3) := by decide +kernel
theorem dX11_list_0 : decode cX11_list 0 = .ok (.aload_n 0, 1) := by decide +kernel
theorem dX11_list_1 : decode cX11_list 1 = .ok (.getfield 48, 3) := by decide +kernel
theorem dX11_list_23 : decode cX11_list 23 = .ok (.iconst (-1), 1) := by decide +kernel
theorem dX11_list_24 : decode cX11_list 24 = .ok (.ireturn, 1) := by decide +kernel
theorem dX11_list_4 : decode cX11_list 4 = .ok (.getfield 153, 3) := by decide +kernel
theorem dX11_list_7 : decode cX11_list 7 = .ok (.ifCond .eq 16, 3) := by decide +kernel
theorem dX12_list_0 : decode cX12_list 0 = .ok (.aload_n 0, 1) := by decide +kernel
theorem dX12_list_1 : decode cX12_list 1 = .ok (.iconst 0, 1) := by decide +kernel
theorem dX12_list_19 : decode cX12_list 19 = .ok (.iconst (-1), 1) := by decide +kernel
theorem dX12_list_2 : decode cX12_list 2 = .ok (.putfield 155, 3) := by decide +kernel
theorem dX12_list_20 : decode cX12_list 20 = .ok (.ireturn, 1) := by decide +kernel
theorem dX12_list_5 : decode cX12_list 5 = .ok (.aload_n 0, 1) := by decide +kernel
theorem dX12_list_6 : decode cX12_list 6 = .ok (.getfield 633, 3) := by decide +kernel
theorem dX12_list_9 : decode cX12_list 9 = .ok (.ifCond .eq 10, 3) := by decide +kernel
theorem dX11_listing_0 : decode cX11_listing 0 = .ok (.aload_n 0, 1) := by decide +kernel
theorem dX11_listing_1 : decode cX11_listing 1 = .ok (.getfield 48, 3) := by decide +kernel
theorem dX11_listing_20 : decode cX11_listing 20 = .ok (.iconst (-1), 1) := by decide +kernel
theorem dX11_listing_21 : decode cX11_listing 21 = .ok (.ireturn, 1) := by decide +kernel
theorem dX11_listing_4 : decode cX11_listing 4 = .ok (.getfield 153, 3) := by decide +kernel
theorem dX11_listing_7 : decode cX11_listing 7 = .ok (.ifCond .eq 13, 3) := by decide +kernel
theorem dX12_listing_0 : decode cX12_listing 0 = .ok (.aload_n 0, 1) := by decide +kernel
theorem dX12_listing_1 : decode cX12_listing 1 = .ok (.iconst 0, 1) := by decide +kernel
theorem dX12_listing_12 : decode cX12_listing 12 = .ok (.iconst (-1), 1) := by decide +kernel
theorem dX12_listing_13 : decode cX12_listing 13 = .ok (.ireturn, 1) := by decide +kernel
theorem dX12_listing_2 : decode cX12_listing 2 = .ok (.putfield 155, 3) := by decide +kernel
theorem dX12_listing_5 : decode cX12_listing 5 = .ok (.aload_n 0, 1) := by decide +kernel
theorem dX12_listing_6 : decode cX12_listing 6 = .ok (.getfield 633, 3) := by decide +kernel
theorem dX12_listing_9 : decode cX12_listing 9 = .ok (.ifCond .ne 5, 3) := by decide +kernel
theorem dX11_names_0 : decode cX11_names 0 = .ok (.aload_n 0, 1) := by decide +kernel
theorem dX11_names_1 : decode cX11_names 1 = .ok (.getfield 48, 3) := by decide +kernel
theorem dX11_names_24 : decode cX11_names 24 = .ok (.iconst (-1), 1) := by decide +kernel
theorem dX11_names_25 : decode cX11_names 25 = .ok (.ireturn, 1) := by decide +kernel
theorem dX11_names_4 : decode cX11_names 4 = .ok (.getfield 153, 3) := by decide +kernel
theorem dX11_names_7 : decode cX11_names 7 = .ok (.ifCond .eq 17, 3) := by decide +kernel
theorem dX12_names_0 : decode cX12_names 0 = .ok (.aload_n 0, 1) := by decide +kernel
theorem dX12_names_1 : decode cX12_names 1 = .ok (.iconst 0, 1) := by decide +kernel
theorem dX12_names_2 : decode cX12_names 2 = .ok (.putfield 155, 3) := by decide +kernel
theorem dX12_names_21 : decode cX12_names 21 = .ok (.iconst (-1), 1) := by decide +kernel
theorem dX12_names_22 : decode cX12_names 22 = .ok (.ireturn, 1) := by decide +kernel
theorem dX12_names_5 : decode cX12_names 5 = .ok (.aload_n 0, 1) := by decide +kernel
theorem dX12_names_6 : decode cX12_names 6 = .ok (.getfield 633, 3) := by decide +kernel
theorem dX12_names_9 : decode cX12_names 9 = .ok (.ifCond .eq 12, 3) := by decide +kernel
theorem dX11_trace_0 : decode cX11_trace 0 = .ok (.iload_n 1, 1) := by decide +kernel
theorem dX11_trace_1 : decode cX11_trace 1 = .ok (.ifCond .lt 10, 3) := by decide +kernel
theorem dX11_trace_11 : decode cX11_trace 11 = .ok (.iconst 0, 1) := by decide +kernel
theorem dX11_trace_12 : decode cX11_trace 12 = .ok (.goto 9, 3) := by decide +kernel
theorem dX11_trace_15 : decode cX11_trace 15 = .ok (.aload_n 0, 1) := by decide +kernel
theorem dX11_trace_16 : decode cX11_trace 16 = .ok (.iload_n 1, 1) := by decide +kernel
theorem dX11_trace_17 : decode cX11_trace 17 = .ok (.iconst 1, 1) := by decide +kernel
theorem dX11_trace_18 : decode cX11_trace 18 = .ok (.invokevirtual 147, 3) := by decide +kernel
theorem dX11_trace_21 : decode cX11_trace 21 = .ok (.ireturn, 1) := by decide +kernel
theorem dX11_trace_4 : decode cX11_trace 4 = .ok (.iload_n 1, 1) := by decide +kernel
theorem dX11_trace_5 : decode cX11_trace 5 = .ok (.sipush 300, 3) := by decide +kernel
theorem dX11_trace_8 : decode cX11_trace 8 = .ok (.if_icmp .le 7, 3) := by decide +kernel
theorem dX12_trace_0 : decode cX12_trace 0 = .ok (.aload_n 0, 1) := by decide +kernel
theorem dX12_trace_1 : decode cX12_trace 1 = .ok (.iconst 0, 1) := by decide +kernel
theorem dX12_trace_10 : decode cX12_trace 10 = .ok (.sipush 300, 3) := by decide +kernel
theorem dX12_trace_13 : decode cX12_trace 13 = .ok (.if_icmp .le 5, 3) := by decide +kernel
theorem dX12_trace_16 : decode cX12_trace 16 = .ok (.iconst 0, 1) := by decide +kernel
theorem dX12_trace_17 : decode cX12_trace 17 = .ok (.ireturn, 1) := by decide +kernel
theorem dX12_trace_18 : decode cX12_trace 18 = .ok (.aload_n 0, 1) := by decide +kernel
theorem dX12_trace_19 : decode cX12_trace 19 = .ok (.iload_n 1, 1) := by decide +kernel
theorem dX12_trace_2 : decode cX12_trace 2 = .ok (.putfield 155, 3) := by decide +kernel
theorem dX12_trace_20 : decode cX12_trace 20 = .ok (.putfield 415, 3) := by decide +kernel
theorem dX12_trace_23 : decode cX12_trace 23 = .ok (.aload_n 0, 1) := by decide +kernel
theorem dX12_trace_24 : decode cX12_trace 24 = .ok (.iload_n 1, 1) := by decide +kernel
theorem dX12_trace_25 : decode cX12_trace 25 = .ok (.invokevirtual 712, 3) := by decide +kernel
theorem dX12_trace_28 : decode cX12_trace 28 = .ok (.istore_n 2, 1) := by decide +kernel
theorem dX12_trace_29 : decode cX12_trace 29 = .ok (.aload_n 0, 1) := by decide +kernel
theorem dX12_trace_30 : decode cX12_trace 30 = .ok (.iconst 0, 1) := by decide +kernel
theorem dX12_trace_31 : decode cX12_trace 31 = .ok (.putfield 415, 3) := by decide +kernel
theorem dX12_trace_34 : decode cX12_trace 34 = .ok (.iload_n 2, 1) := by decide +kernel
theorem dX12_trace_35 : decode cX12_trace 35 = .ok (.ireturn, 1) := by decide +kernel
theorem dX12_trace_5 : decode cX12_trace 5 = .ok (.iload_n 1, 1) := by decide +kernel
theorem dX12_trace_6 : decode cX12_trace 6 = .ok (.ifCond .lt 10, 3) := by decide +kernel
theorem dX12_trace_9 : decode cX12_trace 9 = .ok (.iload_n 1, 1) := by decide +kernel
theorem dX11_mount_0 : decode cX11_mount 0 = .ok (.aload_n 0, 1) := by decide +kernel
theorem dX11_mount_1 : decode cX11_mount 1 = .ok (.invokevirtual 78, 3) := by decide +kernel
theorem dX11_mount_10 : decode cX11_mount 10 = .ok (.istore 4, 2) := by decide +kernel
theorem dX11_mount_100 : decode cX11_mount 100 = .ok (.ireturn, 1) := by decide +kernel
theorem dX11_mount_12 : decode cX11_mount 12 = .ok (.iload 4, 2) := by decide +kernel
theorem dX11_mount_14 : decode cX11_mount 14 = .ok (.bipush 100, 2) := by decide +kernel
theorem dX11_mount_16 : decode cX11_mount 16 = .ok (.iadd, 1) := by decide +kernel
theorem dX11_mount_17 : decode cX11_mount 17 = .ok (.iconst 1, 1) := by decide +kernel
theorem dX11_mount_18 : decode cX11_mount 18 = .ok (.isub, 1) := by decide +kernel
theorem dX11_mount_19 : decode cX11_mount 19 = .ok (.bipush 100, 2) := by decide +kernel
theorem dX11_mount_21 : decode cX11_mount 21 = .ok (.idiv, 1) := by decide +kernel
theorem dX11_mount_22 : decode cX11_mount 22 = .ok (.istore 5, 2) := by decide +kernel
theorem dX11_mount_24 : decode cX11_mount 24 = .ok (.iload_n 1, 1) := by decide +kernel
theorem dX11_mount_25 : decode cX11_mount 25 = .ok (.ifCond .lt 28, 3) := by decide +kernel
theorem dX11_mount_28 : decode cX11_mount 28 = .ok (.iload_n 1, 1) := by decide +kernel
theorem dX11_mount_29 : decode cX11_mount 29 = .ok (.bipush 16, 2) := by decide +kernel
theorem dX11_mount_31 : decode cX11_mount 31 = .ok (.if_icmp .ge 22, 3) := by decide +kernel
theorem dX11_mount_34 : decode cX11_mount 34 = .ok (.iload_n 2, 1) := by decide +kernel
theorem dX11_mount_35 : decode cX11_mount 35 = .ok (.ifCond .lt 18, 3) := by decide +kernel
theorem dX11_mount_38 : decode cX11_mount 38 = .ok (.iload_n 2, 1) := by decide +kernel
theorem dX11_mount_39 : decode cX11_mount 39 = .ok (.bipush 64, 2) := by decide +kernel
theorem dX11_mount_4 : decode cX11_mount 4 = .ok (.istore_n 3, 1) := by decide +kernel
theorem dX11_mount_41 : decode cX11_mount 41 = .ok (.if_icmp .ge 12, 3) := by decide +kernel
theorem dX11_mount_44 : decode cX11_mount 44 = .ok (.iload_n 2, 1) := by decide +kernel
theorem dX11_mount_45 : decode cX11_mount 45 = .ok (.iload 5, 2) := by decide +kernel
theorem dX11_mount_47 : decode cX11_mount 47 = .ok (.iadd, 1) := by decide +kernel
theorem dX11_mount_48 : decode cX11_mount 48 = .ok (.bipush 64, 2) := by decide +kernel
theorem dX11_mount_5 : decode cX11_mount 5 = .ok (.iload_n 3, 1) := by decide +kernel
theorem dX11_mount_50 : decode cX11_mount 50 = .ok (.if_icmp .le 5, 3) := by decide +kernel
theorem dX11_mount_53 : decode cX11_mount 53 = .ok (.iconst (-1), 1) := by decide +kernel
theorem dX11_mount_54 : decode cX11_mount 54 = .ok (.ireturn, 1) := by decide +kernel
theorem dX11_mount_55 : decode cX11_mount 55 = .ok (.iconst 0, 1) := by decide +kernel
theorem dX11_mount_56 : decode cX11_mount 56 = .ok (.istore 6, 2) := by decide +kernel
theorem dX11_mount_58 : decode cX11_mount 58 = .ok (.iload 6, 2) := by decide +kernel
theorem dX11_mount_6 : decode cX11_mount 6 = .ok (.iconst 4, 1) := by decide +kernel
theorem dX11_mount_60 : decode cX11_mount 60 = .ok (.iload 5, 2) := by decide +kernel
theorem dX11_mount_62 : decode cX11_mount 62 = .ok (.bipush 100, 2) := by decide +kernel
theorem dX11_mount_64 : decode cX11_mount 64 = .ok (.imul, 1) := by decide +kernel
theorem dX11_mount_65 : decode cX11_mount 65 = .ok (.if_icmp .ge 33, 3) := by decide +kernel
theorem dX11_mount_7 : decode cX11_mount 7 = .ok (.iadd, 1) := by decide +kernel
theorem dX11_mount_8 : decode cX11_mount 8 = .ok (.iconst 5, 1) := by decide +kernel
theorem dX11_mount_9 : decode cX11_mount 9 = .ok (.idiv, 1) := by decide +kernel
theorem dX11_mount_98 : decode cX11_mount 98 = .ok (.iload 5, 2) := by decide +kernel
theorem dX12_mount_0 : decode cX12_mount 0 = .ok (.aload_n 0, 1) := by decide +kernel
theorem dX12_mount_1 : decode cX12_mount 1 = .ok (.iconst 0, 1) := by decide +kernel
theorem dX12_mount_10 : decode cX12_mount 10 = .ok (.iadd, 1) := by decide +kernel
theorem dX12_mount_11 : decode cX12_mount 11 = .ok (.iconst 5, 1) := by decide +kernel
theorem dX12_mount_12 : decode cX12_mount 12 = .ok (.idiv, 1) := by decide +kernel
theorem dX12_mount_13 : decode cX12_mount 13 = .ok (.istore_n 3, 1) := by decide +kernel
theorem dX12_mount_14 : decode cX12_mount 14 = .ok (.iload_n 3, 1) := by decide +kernel
theorem dX12_mount_15 : decode cX12_mount 15 = .ok (.bipush 99, 2) := by decide +kernel
theorem dX12_mount_17 : decode cX12_mount 17 = .ok (.iadd, 1) := by decide +kernel
theorem dX12_mount_177 : decode cX12_mount 177 = .ok (.iload 4, 2) := by decide +kernel
theorem dX12_mount_179 : decode cX12_mount 179 = .ok (.ireturn, 1) := by decide +kernel
theorem dX12_mount_18 : decode cX12_mount 18 = .ok (.bipush 100, 2) := by decide +kernel
theorem dX12_mount_2 : decode cX12_mount 2 = .ok (.putfield 155, 3) := by decide +kernel
theorem dX12_mount_20 : decode cX12_mount 20 = .ok (.idiv, 1) := by decide +kernel
theorem dX12_mount_21 : decode cX12_mount 21 = .ok (.istore 4, 2) := by decide +kernel
theorem dX12_mount_23 : decode cX12_mount 23 = .ok (.iload_n 1, 1) := by decide +kernel
theorem dX12_mount_24 : decode cX12_mount 24 = .ok (.ifCond .lt 23, 3) := by decide +kernel
theorem dX12_mount_27 : decode cX12_mount 27 = .ok (.iload_n 1, 1) := by decide +kernel
theorem dX12_mount_28 : decode cX12_mount 28 = .ok (.bipush 16, 2) := by decide +kernel
theorem dX12_mount_30 : decode cX12_mount 30 = .ok (.if_icmp .ge 17, 3) := by decide +kernel
theorem dX12_mount_33 : decode cX12_mount 33 = .ok (.iload_n 2, 1) := by decide +kernel
theorem dX12_mount_34 : decode cX12_mount 34 = .ok (.ifCond .lt 13, 3) := by decide +kernel
theorem dX12_mount_37 : decode cX12_mount 37 = .ok (.iload_n 2, 1) := by decide +kernel
theorem dX12_mount_38 : decode cX12_mount 38 = .ok (.bipush 64, 2) := by decide +kernel
theorem dX12_mount_40 : decode cX12_mount 40 = .ok (.if_icmp .ge 7, 3) := by decide +kernel
theorem dX12_mount_43 : decode cX12_mount 43 = .ok (.iconst 1, 1) := by decide +kernel
theorem dX12_mount_44 : decode cX12_mount 44 = .ok (.goto 4, 3) := by decide +kernel
theorem dX12_mount_47 : decode cX12_mount 47 = .ok (.iconst 0, 1) := by decide +kernel
theorem dX12_mount_48 : decode cX12_mount 48 = .ok (.istore 5, 2) := by decide +kernel
theorem dX12_mount_5 : decode cX12_mount 5 = .ok (.aload_n 0, 1) := by decide +kernel
theorem dX12_mount_50 : decode cX12_mount 50 = .ok (.aload_n 0, 1) := by decide +kernel
theorem dX12_mount_51 : decode cX12_mount 51 = .ok (.getfield 176, 3) := by decide +kernel
theorem dX12_mount_54 : decode cX12_mount 54 = .ok (.istore 6, 2) := by decide +kernel
theorem dX12_mount_56 : decode cX12_mount 56 = .ok (.aload_n 0, 1) := by decide +kernel
theorem dX12_mount_57 : decode cX12_mount 57 = .ok (.iconst 0, 1) := by decide +kernel
theorem dX12_mount_58 : decode cX12_mount 58 = .ok (.putfield 176, 3) := by decide +kernel
theorem dX12_mount_6 : decode cX12_mount 6 = .ok (.getfield 176, 3) := by decide +kernel
theorem dX12_mount_61 : decode cX12_mount 61 = .ok (.iload 5, 2) := by decide +kernel
theorem dX12_mount_63 : decode cX12_mount 63 = .ok (.ifCond .eq 12, 3) := by decide +kernel
theorem dX12_mount_66 : decode cX12_mount 66 = .ok (.iload_n 2, 1) := by decide +kernel
theorem dX12_mount_67 : decode cX12_mount 67 = .ok (.iload 4, 2) := by decide +kernel
theorem dX12_mount_69 : decode cX12_mount 69 = .ok (.iadd, 1) := by decide +kernel
theorem dX12_mount_70 : decode cX12_mount 70 = .ok (.bipush 64, 2) := by decide +kernel
theorem dX12_mount_72 : decode cX12_mount 72 = .ok (.if_icmp .le 5, 3) := by decide +kernel
theorem dX12_mount_75 : decode cX12_mount 75 = .ok (.iconst (-1), 1) := by decide +kernel
theorem dX12_mount_76 : decode cX12_mount 76 = .ok (.ireturn, 1) := by decide +kernel
theorem dX12_mount_77 : decode cX12_mount 77 = .ok (.iconst 0, 1) := by decide +kernel
theorem dX12_mount_78 : decode cX12_mount 78 = .ok (.istore 7, 2) := by decide +kernel
theorem dX12_mount_80 : decode cX12_mount 80 = .ok (.iload 7, 2) := by decide +kernel
theorem dX12_mount_82 : decode cX12_mount 82 = .ok (.bipush 100, 2) := by decide +kernel
theorem dX12_mount_84 : decode cX12_mount 84 = .ok (.iload 4, 2) := by decide +kernel
theorem dX12_mount_86 : decode cX12_mount 86 = .ok (.imul, 1) := by decide +kernel
theorem dX12_mount_87 : decode cX12_mount 87 = .ok (.if_icmp .ge 90, 3) := by decide +kernel
theorem dX12_mount_9 : decode cX12_mount 9 = .ok (.iconst 4, 1) := by decide +kernel
theorem dX3_seek_0 : decode cX3_seek 0 = .ok (.iconst 0, 1) := by decide +kernel
theorem dX3_seek_1 : decode cX3_seek 1 = .ok (.istore_n 1, 1) := by decide +kernel
theorem dX3_seek_101 : decode cX3_seek 101 = .ok (.iconst 0, 1) := by decide +kernel
theorem dX3_seek_102 : decode cX3_seek 102 = .ok (.ireturn, 1) := by decide +kernel
theorem dX3_seek_11 : decode cX3_seek 11 = .ok (.aload_n 0, 1) := by decide +kernel
theorem dX3_seek_12 : decode cX3_seek 12 = .ok (.getfield 21, 3) := by decide +kernel
theorem dX3_seek_15 : decode cX3_seek 15 = .ok (.invokevirtual 36, 3) := by decide +kernel
theorem dX3_seek_18 : decode cX3_seek 18 = .ok (.ifCond .eq 83, 3) := by decide +kernel
theorem dX3_seek_2 : decode cX3_seek 2 = .ok (.iconst 0, 1) := by decide +kernel
theorem dX3_seek_3 : decode cX3_seek 3 = .ok (.istore_n 2, 1) := by decide +kernel
theorem dX3_seek_4 : decode cX3_seek 4 = .ok (.iload_n 2, 1) := by decide +kernel
theorem dX3_seek_5 : decode cX3_seek 5 = .ok (.sipush 8192, 3) := by decide +kernel
theorem dX3_seek_8 : decode cX3_seek 8 = .ok (.if_icmp .gt 93, 3) := by decide +kernel
theorem dX11_jobs_0 : decode cX11_jobs 0 = .ok (.aload_n 0, 1) := by decide +kernel
theorem dX11_jobs_1 : decode cX11_jobs 1 = .ok (.invokevirtual 78, 3) := by decide +kernel
theorem dX11_jobs_12 : decode cX11_jobs 12 = .ok (.iconst 0, 1) := by decide +kernel
theorem dX11_jobs_13 : decode cX11_jobs 13 = .ok (.iload_n 1, 1) := by decide +kernel
theorem dX11_jobs_14 : decode cX11_jobs 14 = .ok (.invokevirtual 136, 3) := by decide +kernel
theorem dX11_jobs_159 : decode cX11_jobs 159 = .ok (.iload_n 2, 1) := by decide +kernel
theorem dX11_jobs_160 : decode cX11_jobs 160 = .ok (.ireturn, 1) := by decide +kernel
theorem dX11_jobs_17 : decode cX11_jobs 17 = .ok (.iconst 0, 1) := by decide +kernel
theorem dX11_jobs_18 : decode cX11_jobs 18 = .ok (.istore_n 2, 1) := by decide +kernel
theorem dX11_jobs_19 : decode cX11_jobs 19 = .ok (.iconst 0, 1) := by decide +kernel
theorem dX11_jobs_20 : decode cX11_jobs 20 = .ok (.istore_n 3, 1) := by decide +kernel
theorem dX11_jobs_21 : decode cX11_jobs 21 = .ok (.iload_n 3, 1) := by decide +kernel
theorem dX11_jobs_22 : decode cX11_jobs 22 = .ok (.sipush 512, 3) := by decide +kernel
theorem dX11_jobs_25 : decode cX11_jobs 25 = .ok (.if_icmp .ge 134, 3) := by decide +kernel
theorem dX11_jobs_28 : decode cX11_jobs 28 = .ok (.aload_n 0, 1) := by decide +kernel
theorem dX11_jobs_29 : decode cX11_jobs 29 = .ok (.getfield 66, 3) := by decide +kernel
theorem dX11_jobs_32 : decode cX11_jobs 32 = .ok (.invokevirtual 185, 3) := by decide +kernel
theorem dX11_jobs_35 : decode cX11_jobs 35 = .ok (.ifCond .eq 124, 3) := by decide +kernel
theorem dX11_jobs_4 : decode cX11_jobs 4 = .ok (.istore_n 1, 1) := by decide +kernel
theorem dX11_jobs_5 : decode cX11_jobs 5 = .ok (.aload_n 0, 1) := by decide +kernel
theorem dX11_jobs_6 : decode cX11_jobs 6 = .ok (.getfield 66, 3) := by decide +kernel
theorem dX11_jobs_9 : decode cX11_jobs 9 = .ok (.getfield 124, 3) := by decide +kernel
theorem dX12_jobs_0 : decode cX12_jobs 0 = .ok (.aload_n 0, 1) := by decide +kernel
theorem dX12_jobs_1 : decode cX12_jobs 1 = .ok (.iconst 0, 1) := by decide +kernel
theorem dX12_jobs_10 : decode cX12_jobs 10 = .ok (.iconst 0, 1) := by decide +kernel
theorem dX12_jobs_106 : decode cX12_jobs 106 = .ok (.aload_n 0, 1) := by decide +kernel
theorem dX12_jobs_107 : decode cX12_jobs 107 = .ok (.iconst 0, 1) := by decide +kernel
theorem dX12_jobs_108 : decode cX12_jobs 108 = .ok (.putfield 176, 3) := by decide +kernel
theorem dX12_jobs_11 : decode cX12_jobs 11 = .ok (.istore_n 1, 1) := by decide +kernel
theorem dX12_jobs_111 : decode cX12_jobs 111 = .ok (.aload_n 0, 1) := by decide +kernel
theorem dX12_jobs_112 : decode cX12_jobs 112 = .ok (.iconst 0, 1) := by decide +kernel
theorem dX12_jobs_113 : decode cX12_jobs 113 = .ok (.putfield 770, 3) := by decide +kernel
theorem dX12_jobs_116 : decode cX12_jobs 116 = .ok (.aload_n 0, 1) := by decide +kernel
theorem dX12_jobs_117 : decode cX12_jobs 117 = .ok (.iconst 0, 1) := by decide +kernel
theorem dX12_jobs_118 : decode cX12_jobs 118 = .ok (.putfield 773, 3) := by decide +kernel
theorem dX12_jobs_12 : decode cX12_jobs 12 = .ok (.iload_n 1, 1) := by decide +kernel
theorem dX12_jobs_121 : decode cX12_jobs 121 = .ok (.iconst 0, 1) := by decide +kernel
theorem dX12_jobs_122 : decode cX12_jobs 122 = .ok (.istore_n 1, 1) := by decide +kernel
theorem dX12_jobs_123 : decode cX12_jobs 123 = .ok (.iload_n 1, 1) := by decide +kernel
theorem dX12_jobs_124 : decode cX12_jobs 124 = .ok (.aload_n 0, 1) := by decide +kernel
theorem dX12_jobs_125 : decode cX12_jobs 125 = .ok (.getfield 764, 3) := by decide +kernel
theorem dX12_jobs_128 : decode cX12_jobs 128 = .ok (.if_icmp .ge 121, 3) := by decide +kernel
theorem dX12_jobs_13 : decode cX12_jobs 13 = .ok (.aload_n 0, 1) := by decide +kernel
theorem dX12_jobs_14 : decode cX12_jobs 14 = .ok (.getfield 176, 3) := by decide +kernel
theorem dX12_jobs_17 : decode cX12_jobs 17 = .ok (.if_icmp .ge 61, 3) := by decide +kernel
theorem dX12_jobs_2 : decode cX12_jobs 2 = .ok (.putfield 155, 3) := by decide +kernel
theorem dX12_jobs_249 : decode cX12_jobs 249 = .ok (.aload_n 0, 1) := by decide +kernel
theorem dX12_jobs_250 : decode cX12_jobs 250 = .ok (.getfield 773, 3) := by decide +kernel
theorem dX12_jobs_253 : decode cX12_jobs 253 = .ok (.ireturn, 1) := by decide +kernel
theorem dX12_jobs_5 : decode cX12_jobs 5 = .ok (.aload_n 0, 1) := by decide +kernel
theorem dX12_jobs_6 : decode cX12_jobs 6 = .ok (.iconst 0, 1) := by decide +kernel
theorem dX12_jobs_7 : decode cX12_jobs 7 = .ok (.putfield 764, 3) := by decide +kernel
theorem dX12_jobs_78 : decode cX12_jobs 78 = .ok (.iconst 0, 1) := by decide +kernel
theorem dX12_jobs_79 : decode cX12_jobs 79 = .ok (.istore_n 1, 1) := by decide +kernel
theorem dX12_jobs_80 : decode cX12_jobs 80 = .ok (.iload_n 1, 1) := by decide +kernel
theorem dX12_jobs_81 : decode cX12_jobs 81 = .ok (.aload_n 0, 1) := by decide +kernel
theorem dX12_jobs_82 : decode cX12_jobs 82 = .ok (.getfield 176, 3) := by decide +kernel
theorem dX12_jobs_85 : decode cX12_jobs 85 = .ok (.if_icmp .ge 21, 3) := by decide +kernel
theorem dX3_entry_0 : decode cX3_entry 0 = .ok (.iload_n 1, 1) := by decide +kernel
theorem dX3_entry_1 : decode cX3_entry 1 = .ok (.ifCond .lt 33, 3) := by decide +kernel
theorem dX3_entry_34 : decode cX3_entry 34 = .ok (.iconst (-1), 1) := by decide +kernel
theorem dX3_entry_35 : decode cX3_entry 35 = .ok (.ireturn, 1) := by decide +kernel
theorem dX3_entry_4 : decode cX3_entry 4 = .ok (.iload_n 1, 1) := by decide +kernel
theorem dX3_entry_5 : decode cX3_entry 5 = .ok (.aload_n 0, 1) := by decide +kernel
theorem dX3_entry_6 : decode cX3_entry 6 = .ok (.getfield 25, 3) := by decide +kernel
theorem dX3_entry_9 : decode cX3_entry 9 = .ok (.if_icmp .ge 25, 3) := by decide +kernel
theorem dX11_account_0 : decode cX11_account 0 = .ok (.aload_n 0, 1) := by decide +kernel
theorem dX11_account_1 : decode cX11_account 1 = .ok (.getfield 66, 3) := by decide +kernel
theorem dX11_account_4 : decode cX11_account 4 = .ok (.iload_n 1, 1) := by decide +kernel
theorem dX11_account_5 : decode cX11_account 5 = .ok (.iload_n 2, 1) := by decide +kernel
theorem dX11_account_6 : decode cX11_account 6 = .ok (.invokevirtual 210, 3) := by decide +kernel
theorem dX11_account_9 : decode cX11_account 9 = .ok (.ireturn, 1) := by decide +kernel
theorem dX12_account_0 : decode cX12_account 0 = .ok (.aload_n 0, 1) := by decide +kernel
theorem dX12_account_1 : decode cX12_account 1 = .ok (.iconst 0, 1) := by decide +kernel
theorem dX12_account_10 : decode cX12_account 10 = .ok (.aload_n 0, 1) := by decide +kernel
theorem dX12_account_11 : decode cX12_account 11 = .ok (.getfield 849, 3) := by decide +kernel
theorem dX12_account_14 : decode cX12_account 14 = .ok (.if_icmp .ge 12, 3) := by decide +kernel
theorem dX12_account_2 : decode cX12_account 2 = .ok (.putfield 155, 3) := by decide +kernel
theorem dX12_account_26 : decode cX12_account 26 = .ok (.iconst (-1), 1) := by decide +kernel
theorem dX12_account_27 : decode cX12_account 27 = .ok (.ireturn, 1) := by decide +kernel
theorem dX12_account_5 : decode cX12_account 5 = .ok (.iload_n 1, 1) := by decide +kernel
theorem dX12_account_6 : decode cX12_account 6 = .ok (.ifCond .lt 20, 3) := by decide +kernel
theorem dX12_account_9 : decode cX12_account 9 = .ok (.iload_n 1, 1) := by decide +kernel
theorem dX11_summary_0 : decode cX11_summary 0 = .ok (.aload_n 0, 1) := by decide +kernel
theorem dX11_summary_1 : decode cX11_summary 1 = .ok (.getfield 66, 3) := by decide +kernel
theorem dX11_summary_10 : decode cX11_summary 10 = .ok (.iconst (-1), 1) := by decide +kernel
theorem dX11_summary_11 : decode cX11_summary 11 = .ok (.goto 14, 3) := by decide +kernel
theorem dX11_summary_25 : decode cX11_summary 25 = .ok (.ireturn, 1) := by decide +kernel
theorem dX11_summary_4 : decode cX11_summary 4 = .ok (.getfield 213, 3) := by decide +kernel
theorem dX11_summary_7 : decode cX11_summary 7 = .ok (.ifCond .ne 7, 3) := by decide +kernel
theorem dX12_summary_0 : decode cX12_summary 0 = .ok (.aload_n 0, 1) := by decide +kernel
theorem dX12_summary_1 : decode cX12_summary 1 = .ok (.iconst 0, 1) := by decide +kernel
theorem dX12_summary_12 : decode cX12_summary 12 = .ok (.iconst (-1), 1) := by decide +kernel
theorem dX12_summary_13 : decode cX12_summary 13 = .ok (.ireturn, 1) := by decide +kernel
theorem dX12_summary_2 : decode cX12_summary 2 = .ok (.putfield 155, 3) := by decide +kernel
theorem dX12_summary_5 : decode cX12_summary 5 = .ok (.aload_n 0, 1) := by decide +kernel
theorem dX12_summary_6 : decode cX12_summary 6 = .ok (.getfield 849, 3) := by decide +kernel
theorem dX12_summary_9 : decode cX12_summary 9 = .ok (.ifCond .ne 5, 3) := by decide +kernel
theorem dX11_state_0 : decode cX11_state 0 = .ok (.aload_n 0, 1) := by decide +kernel
theorem dX11_state_1 : decode cX11_state 1 = .ok (.getfield 44, 3) := by decide +kernel
theorem dX11_state_4 : decode cX11_state 4 = .ok (.getfield 220, 3) := by decide +kernel
theorem dX11_state_7 : decode cX11_state 7 = .ok (.ireturn, 1) := by decide +kernel
theorem dX12_state_0 : decode cX12_state 0 = .ok (.aload_n 0, 1) := by decide +kernel
theorem dX12_state_1 : decode cX12_state 1 = .ok (.iconst 0, 1) := by decide +kernel
theorem dX12_state_2 : decode cX12_state 2 = .ok (.putfield 155, 3) := by decide +kernel
theorem dX12_state_5 : decode cX12_state 5 = .ok (.aload_n 0, 1) := by decide +kernel
theorem dX12_state_6 : decode cX12_state 6 = .ok (.getfield 24, 3) := by decide +kernel
theorem dX12_state_9 : decode cX12_state 9 = .ok (.ireturn, 1) := by decide +kernel
theorem dX11_time_0 : decode cX11_time 0 = .ok (.aload_n 0, 1) := by decide +kernel
theorem dX11_time_1 : decode cX11_time 1 = .ok (.getfield 44, 3) := by decide +kernel
theorem dX11_time_4 : decode cX11_time 4 = .ok (.getfield 244, 3) := by decide +kernel
theorem dX11_time_7 : decode cX11_time 7 = .ok (.lreturn, 1) := by decide +kernel
theorem dX12_time_0 : decode cX12_time 0 = .ok (.aload_n 0, 1) := by decide +kernel
theorem dX12_time_1 : decode cX12_time 1 = .ok (.iconst 0, 1) := by decide +kernel
theorem dX12_time_2 : decode cX12_time 2 = .ok (.putfield 155, 3) := by decide +kernel
theorem dX12_time_5 : decode cX12_time 5 = .ok (.aload_n 0, 1) := by decide +kernel
theorem dX12_time_6 : decode cX12_time 6 = .ok (.getfield 272, 3) := by decide +kernel
theorem dX12_time_9 : decode cX12_time 9 = .ok (.lreturn, 1) := by decide +kernel
theorem dX10_paper_0 : decode cX10_paper 0 = .ok (.iload_n 1, 1) := by decide +kernel
theorem dX10_paper_1 : decode cX10_paper 1 = .ok (.bipush 17, 2) := by decide +kernel
theorem dX10_paper_10 : decode cX10_paper 10 = .ok (.areturn, 1) := by decide +kernel
theorem dX10_paper_11 : decode cX10_paper 11 = .ok (.iload_n 1, 1) := by decide +kernel
theorem dX10_paper_12 : decode cX10_paper 12 = .ok (.bipush 18, 2) := by decide +kernel
theorem dX10_paper_14 : decode cX10_paper 14 = .ok (.if_icmp .ne 10, 3) := by decide +kernel
theorem dX10_paper_17 : decode cX10_paper 17 = .ok (.aload_n 0, 1) := by decide +kernel
theorem dX10_paper_18 : decode cX10_paper 18 = .ok (.getfield 51, 3) := by decide +kernel
theorem dX10_paper_21 : decode cX10_paper 21 = .ok (.goto 7, 3) := by decide +kernel
theorem dX10_paper_24 : decode cX10_paper 24 = .ok (.aload_n 0, 1) := by decide +kernel
theorem dX10_paper_25 : decode cX10_paper 25 = .ok (.getfield 54, 3) := by decide +kernel
theorem dX10_paper_28 : decode cX10_paper 28 = .ok (.areturn, 1) := by decide +kernel
theorem dX10_paper_3 : decode cX10_paper 3 = .ok (.if_icmp .ne 8, 3) := by decide +kernel
theorem dX10_paper_6 : decode cX10_paper 6 = .ok (.aload_n 0, 1) := by decide +kernel
theorem dX10_paper_7 : decode cX10_paper 7 = .ok (.getfield 47, 3) := by decide +kernel
theorem dX11_unit_0 : decode cX11_unit 0 = .ok (.iload_n 1, 1) := by decide +kernel
theorem dX11_unit_1 : decode cX11_unit 1 = .ok (.ifCond .lt 19, 3) := by decide +kernel
theorem dX11_unit_10 : decode cX11_unit 10 = .ok (.aload_n 0, 1) := by decide +kernel
theorem dX11_unit_11 : decode cX11_unit 11 = .ok (.getfield 40, 3) := by decide +kernel
theorem dX11_unit_14 : decode cX11_unit 14 = .ok (.getfield 266, 3) := by decide +kernel
theorem dX11_unit_17 : decode cX11_unit 17 = .ok (.iload_n 1, 1) := by decide +kernel
theorem dX11_unit_18 : decode cX11_unit 18 = .ok (.iaload, 1) := by decide +kernel
theorem dX11_unit_19 : decode cX11_unit 19 = .ok (.ireturn, 1) := by decide +kernel
theorem dX11_unit_20 : decode cX11_unit 20 = .ok (.iload_n 1, 1) := by decide +kernel
theorem dX11_unit_21 : decode cX11_unit 21 = .ok (.bipush 16, 2) := by decide +kernel
theorem dX11_unit_23 : decode cX11_unit 23 = .ok (.if_icmp .ne 14, 3) := by decide +kernel
theorem dX11_unit_26 : decode cX11_unit 26 = .ok (.aload_n 0, 1) := by decide +kernel
theorem dX11_unit_27 : decode cX11_unit 27 = .ok (.getfield 40, 3) := by decide +kernel
theorem dX11_unit_30 : decode cX11_unit 30 = .ok (.getfield 127, 3) := by decide +kernel
theorem dX11_unit_33 : decode cX11_unit 33 = .ok (.getfield 131, 3) := by decide +kernel
theorem dX11_unit_36 : decode cX11_unit 36 = .ok (.ireturn, 1) := by decide +kernel
theorem dX11_unit_37 : decode cX11_unit 37 = .ok (.iload_n 1, 1) := by decide +kernel
theorem dX11_unit_38 : decode cX11_unit 38 = .ok (.bipush 17, 2) := by decide +kernel
theorem dX11_unit_4 : decode cX11_unit 4 = .ok (.iload_n 1, 1) := by decide +kernel
theorem dX11_unit_40 : decode cX11_unit 40 = .ok (.if_icmp .lt 23, 3) := by decide +kernel
theorem dX11_unit_43 : decode cX11_unit 43 = .ok (.iload_n 1, 1) := by decide +kernel
theorem dX11_unit_44 : decode cX11_unit 44 = .ok (.bipush 19, 2) := by decide +kernel
theorem dX11_unit_46 : decode cX11_unit 46 = .ok (.if_icmp .gt 17, 3) := by decide +kernel
theorem dX11_unit_49 : decode cX11_unit 49 = .ok (.aload_n 0, 1) := by decide +kernel
theorem dX11_unit_5 : decode cX11_unit 5 = .ok (.bipush 8, 2) := by decide +kernel
theorem dX11_unit_50 : decode cX11_unit 50 = .ok (.getfield 40, 3) := by decide +kernel
theorem dX11_unit_53 : decode cX11_unit 53 = .ok (.iload_n 1, 1) := by decide +kernel
theorem dX11_unit_54 : decode cX11_unit 54 = .ok (.invokevirtual 269, 3) := by decide +kernel
theorem dX11_unit_57 : decode cX11_unit 57 = .ok (.getfield 273, 3) := by decide +kernel
theorem dX11_unit_60 : decode cX11_unit 60 = .ok (.goto 4, 3) := by decide +kernel
theorem dX11_unit_63 : decode cX11_unit 63 = .ok (.iconst (-1), 1) := by decide +kernel
theorem dX11_unit_64 : decode cX11_unit 64 = .ok (.ireturn, 1) := by decide +kernel
theorem dX11_unit_7 : decode cX11_unit 7 = .ok (.if_icmp .ge 13, 3) := by decide +kernel
theorem dX12_unit_0 : decode cX12_unit 0 = .ok (.aload_n 0, 1) := by decide +kernel
theorem dX12_unit_1 : decode cX12_unit 1 = .ok (.iconst 0, 1) := by decide +kernel
theorem dX12_unit_11 : decode cX12_unit 11 = .ok (.iload_n 1, 1) := by decide +kernel
theorem dX12_unit_12 : decode cX12_unit 12 = .ok (.bipush 19, 2) := by decide +kernel
theorem dX12_unit_14 : decode cX12_unit 14 = .ok (.if_icmp .gt 13, 3) := by decide +kernel
theorem dX12_unit_17 : decode cX12_unit 17 = .ok (.aload_n 0, 1) := by decide +kernel
theorem dX12_unit_18 : decode cX12_unit 18 = .ok (.getfield 58, 3) := by decide +kernel
theorem dX12_unit_2 : decode cX12_unit 2 = .ok (.putfield 155, 3) := by decide +kernel
theorem dX12_unit_21 : decode cX12_unit 21 = .ok (.iload_n 1, 1) := by decide +kernel
theorem dX12_unit_22 : decode cX12_unit 22 = .ok (.bipush 17, 2) := by decide +kernel
theorem dX12_unit_24 : decode cX12_unit 24 = .ok (.isub, 1) := by decide +kernel
theorem dX12_unit_25 : decode cX12_unit 25 = .ok (.iaload, 1) := by decide +kernel
theorem dX12_unit_26 : decode cX12_unit 26 = .ok (.ireturn, 1) := by decide +kernel
theorem dX12_unit_27 : decode cX12_unit 27 = .ok (.iload_n 1, 1) := by decide +kernel
theorem dX12_unit_28 : decode cX12_unit 28 = .ok (.bipush 16, 2) := by decide +kernel
theorem dX12_unit_30 : decode cX12_unit 30 = .ok (.if_icmp .ne 8, 3) := by decide +kernel
theorem dX12_unit_33 : decode cX12_unit 33 = .ok (.aload_n 0, 1) := by decide +kernel
theorem dX12_unit_34 : decode cX12_unit 34 = .ok (.invokevirtual 232, 3) := by decide +kernel
theorem dX12_unit_37 : decode cX12_unit 37 = .ok (.ireturn, 1) := by decide +kernel
theorem dX12_unit_38 : decode cX12_unit 38 = .ok (.iload_n 1, 1) := by decide +kernel
theorem dX12_unit_39 : decode cX12_unit 39 = .ok (.ifCond .lt 18, 3) := by decide +kernel
theorem dX12_unit_42 : decode cX12_unit 42 = .ok (.iload_n 1, 1) := by decide +kernel
theorem dX12_unit_43 : decode cX12_unit 43 = .ok (.bipush 8, 2) := by decide +kernel
theorem dX12_unit_45 : decode cX12_unit 45 = .ok (.if_icmp .ge 12, 3) := by decide +kernel
theorem dX12_unit_48 : decode cX12_unit 48 = .ok (.aload_n 0, 1) := by decide +kernel
theorem dX12_unit_49 : decode cX12_unit 49 = .ok (.getfield 44, 3) := by decide +kernel
theorem dX12_unit_5 : decode cX12_unit 5 = .ok (.iload_n 1, 1) := by decide +kernel
theorem dX12_unit_52 : decode cX12_unit 52 = .ok (.iload_n 1, 1) := by decide +kernel
theorem dX12_unit_53 : decode cX12_unit 53 = .ok (.iaload, 1) := by decide +kernel
theorem dX12_unit_54 : decode cX12_unit 54 = .ok (.goto 4, 3) := by decide +kernel
theorem dX12_unit_57 : decode cX12_unit 57 = .ok (.iconst (-1), 1) := by decide +kernel
theorem dX12_unit_58 : decode cX12_unit 58 = .ok (.ireturn, 1) := by decide +kernel
theorem dX12_unit_6 : decode cX12_unit 6 = .ok (.bipush 17, 2) := by decide +kernel
theorem dX12_unit_8 : decode cX12_unit 8 = .ok (.if_icmp .lt 19, 3) := by decide +kernel
theorem dX4_letterAt_0 : decode cX4_letterAt 0 = .ok (.iload_n 1, 1) := by decide +kernel
theorem dX4_letterAt_1 : decode cX4_letterAt 1 = .ok (.ifCond .lt 34, 3) := by decide +kernel
theorem dX4_letterAt_35 : decode cX4_letterAt 35 = .ok (.iconst (-1), 1) := by decide +kernel
theorem dX4_letterAt_36 : decode cX4_letterAt 36 = .ok (.ireturn, 1) := by decide +kernel
theorem dX4_letterAt_4 : decode cX4_letterAt 4 = .ok (.iload_n 1, 1) := by decide +kernel
theorem dX4_letterAt_5 : decode cX4_letterAt 5 = .ok (.aload_n 0, 1) := by decide +kernel
theorem dX4_letterAt_6 : decode cX4_letterAt 6 = .ok (.getfield 64, 3) := by decide +kernel
theorem dX4_letterAt_9 : decode cX4_letterAt 9 = .ok (.if_icmp .ge 26, 3) := by decide +kernel
theorem dX11_letter_0 : decode cX11_letter 0 = .ok (.iload_n 1, 1) := by decide +kernel
theorem dX11_letter_1 : decode cX11_letter 1 = .ok (.bipush 17, 2) := by decide +kernel
theorem dX11_letter_12 : decode cX11_letter 12 = .ok (.aload_n 0, 1) := by decide +kernel
theorem dX11_letter_13 : decode cX11_letter 13 = .ok (.getfield 40, 3) := by decide +kernel
theorem dX11_letter_16 : decode cX11_letter 16 = .ok (.iload_n 1, 1) := by decide +kernel
theorem dX11_letter_17 : decode cX11_letter 17 = .ok (.invokevirtual 269, 3) := by decide +kernel
theorem dX11_letter_20 : decode cX11_letter 20 = .ok (.iload_n 2, 1) := by decide +kernel
theorem dX11_letter_21 : decode cX11_letter 21 = .ok (.iload_n 3, 1) := by decide +kernel
theorem dX11_letter_22 : decode cX11_letter 22 = .ok (.invokevirtual 276, 3) := by decide +kernel
theorem dX11_letter_25 : decode cX11_letter 25 = .ok (.goto 4, 3) := by decide +kernel
theorem dX11_letter_28 : decode cX11_letter 28 = .ok (.iconst (-1), 1) := by decide +kernel
theorem dX11_letter_29 : decode cX11_letter 29 = .ok (.ireturn, 1) := by decide +kernel
theorem dX11_letter_3 : decode cX11_letter 3 = .ok (.if_icmp .lt 25, 3) := by decide +kernel
theorem dX11_letter_6 : decode cX11_letter 6 = .ok (.iload_n 1, 1) := by decide +kernel
theorem dX11_letter_7 : decode cX11_letter 7 = .ok (.bipush 19, 2) := by decide +kernel
theorem dX11_letter_9 : decode cX11_letter 9 = .ok (.if_icmp .gt 19, 3) := by decide +kernel
theorem dX12_letter_0 : decode cX12_letter 0 = .ok (.aload_n 0, 1) := by decide +kernel
theorem dX12_letter_1 : decode cX12_letter 1 = .ok (.iconst 0, 1) := by decide +kernel
theorem dX12_letter_11 : decode cX12_letter 11 = .ok (.iload_n 1, 1) := by decide +kernel
theorem dX12_letter_12 : decode cX12_letter 12 = .ok (.bipush 19, 2) := by decide +kernel
theorem dX12_letter_14 : decode cX12_letter 14 = .ok (.if_icmp .gt 11, 3) := by decide +kernel
theorem dX12_letter_17 : decode cX12_letter 17 = .ok (.iload_n 2, 1) := by decide +kernel
theorem dX12_letter_18 : decode cX12_letter 18 = .ok (.ifCond .lt 7, 3) := by decide +kernel
theorem dX12_letter_2 : decode cX12_letter 2 = .ok (.putfield 155, 3) := by decide +kernel
theorem dX12_letter_21 : decode cX12_letter 21 = .ok (.iload_n 3, 1) := by decide +kernel
theorem dX12_letter_22 : decode cX12_letter 22 = .ok (.ifCond .ge 5, 3) := by decide +kernel
theorem dX12_letter_25 : decode cX12_letter 25 = .ok (.iconst (-1), 1) := by decide +kernel
theorem dX12_letter_26 : decode cX12_letter 26 = .ok (.ireturn, 1) := by decide +kernel
theorem dX12_letter_27 : decode cX12_letter 27 = .ok (.iload_n 2, 1) := by decide +kernel
theorem dX12_letter_28 : decode cX12_letter 28 = .ok (.aload_n 0, 1) := by decide +kernel
theorem dX12_letter_29 : decode cX12_letter 29 = .ok (.getfield 58, 3) := by decide +kernel
theorem dX12_letter_32 : decode cX12_letter 32 = .ok (.iload_n 1, 1) := by decide +kernel
theorem dX12_letter_33 : decode cX12_letter 33 = .ok (.bipush 17, 2) := by decide +kernel
theorem dX12_letter_35 : decode cX12_letter 35 = .ok (.isub, 1) := by decide +kernel
theorem dX12_letter_36 : decode cX12_letter 36 = .ok (.iaload, 1) := by decide +kernel
theorem dX12_letter_37 : decode cX12_letter 37 = .ok (.if_icmp .lt 5, 3) := by decide +kernel
theorem dX12_letter_40 : decode cX12_letter 40 = .ok (.iconst (-1), 1) := by decide +kernel
theorem dX12_letter_41 : decode cX12_letter 41 = .ok (.ireturn, 1) := by decide +kernel
theorem dX12_letter_5 : decode cX12_letter 5 = .ok (.iload_n 1, 1) := by decide +kernel
theorem dX12_letter_6 : decode cX12_letter 6 = .ok (.bipush 17, 2) := by decide +kernel
theorem dX12_letter_8 : decode cX12_letter 8 = .ok (.if_icmp .lt 17, 3) := by decide +kernel
theorem dX11_tear_0 : decode cX11_tear 0 = .ok (.aload_n 0, 1) := by decide +kernel
theorem dX11_tear_1 : decode cX11_tear 1 = .ok (.getfield 40, 3) := by decide +kernel
theorem dX11_tear_11 : decode cX11_tear 11 = .ok (.aload_n 0, 1) := by decide +kernel
theorem dX11_tear_12 : decode cX11_tear 12 = .ok (.getfield 40, 3) := by decide +kernel
theorem dX11_tear_15 : decode cX11_tear 15 = .ok (.getfield 286, 3) := by decide +kernel
theorem dX11_tear_18 : decode cX11_tear 18 = .ok (.iconst 0, 1) := by decide +kernel
theorem dX11_tear_19 : decode cX11_tear 19 = .ok (.putfield 273, 3) := by decide +kernel
theorem dX11_tear_22 : decode cX11_tear 22 = .ok (.aload_n 0, 1) := by decide +kernel
theorem dX11_tear_23 : decode cX11_tear 23 = .ok (.getfield 40, 3) := by decide +kernel
theorem dX11_tear_26 : decode cX11_tear 26 = .ok (.getfield 289, 3) := by decide +kernel
theorem dX11_tear_29 : decode cX11_tear 29 = .ok (.iconst 0, 1) := by decide +kernel
theorem dX11_tear_30 : decode cX11_tear 30 = .ok (.putfield 273, 3) := by decide +kernel
theorem dX11_tear_33 : decode cX11_tear 33 = .ok (.return_, 1) := by decide +kernel
theorem dX11_tear_4 : decode cX11_tear 4 = .ok (.getfield 282, 3) := by decide +kernel
theorem dX11_tear_7 : decode cX11_tear 7 = .ok (.iconst 0, 1) := by decide +kernel
theorem dX11_tear_8 : decode cX11_tear 8 = .ok (.putfield 273, 3) := by decide +kernel
theorem dX12_tear_0 : decode cX12_tear 0 = .ok (.aload_n 0, 1) := by decide +kernel
theorem dX12_tear_1 : decode cX12_tear 1 = .ok (.iconst 0, 1) := by decide +kernel
theorem dX12_tear_12 : decode cX12_tear 12 = .ok (.aload_n 0, 1) := by decide +kernel
theorem dX12_tear_13 : decode cX12_tear 13 = .ok (.getfield 58, 3) := by decide +kernel
theorem dX12_tear_16 : decode cX12_tear 16 = .ok (.iload_n 1, 1) := by decide +kernel
theorem dX12_tear_17 : decode cX12_tear 17 = .ok (.iconst 0, 1) := by decide +kernel
theorem dX12_tear_18 : decode cX12_tear 18 = .ok (.iastore, 1) := by decide +kernel
theorem dX12_tear_19 : decode cX12_tear 19 = .ok (.iinc 1 1, 3) := by decide +kernel
theorem dX12_tear_2 : decode cX12_tear 2 = .ok (.putfield 155, 3) := by decide +kernel
theorem dX12_tear_22 : decode cX12_tear 22 = .ok (.goto (-15), 3) := by decide +kernel
theorem dX12_tear_25 : decode cX12_tear 25 = .ok (.return_, 1) := by decide +kernel
theorem dX12_tear_5 : decode cX12_tear 5 = .ok (.iconst 0, 1) := by decide +kernel
theorem dX12_tear_6 : decode cX12_tear 6 = .ok (.istore_n 1, 1) := by decide +kernel
theorem dX12_tear_7 : decode cX12_tear 7 = .ok (.iload_n 1, 1) := by decide +kernel
theorem dX12_tear_8 : decode cX12_tear 8 = .ok (.iconst 3, 1) := by decide +kernel
theorem dX12_tear_9 : decode cX12_tear 9 = .ok (.if_icmp .ge 16, 3) := by decide +kernel
set_option maxHeartbeats 4000000 in
set_option maxRecDepth 100000 in
theorem t_X11_end (l : Launch) (D : va_G) (K : Nat → ClassId) (a0 : Nat) (s0 : List Value) (n0 : s0.length = 8) (x1 : Int32) (e0_1 : s0[1]? = some (.int 0)) : uMet l yX11_end cX11_end 2 (some .boolean) (rmD 0 0 0) D K X0 [.ref a0, .int x1] [(a0, .inr (10, s0))] (QI D K (fun (r : Int32) (u : Nat → Nat) => ((x1 < 0) ∧ r = 0) ∨ ((¬ x1 < 0) ∧ (x1 ≤ 0) ∧ r = 1) ∨ ((¬ x1 < 0) ∧ (¬ x1 ≤ 0) ∧ r = 0)) (fun (u : Nat → Nat) => [])) 0 0 := by
  refine k_met RX11 ⟨rfl, by decide +kernel⟩ (Nat.le_of_ble_eq_true rfl) ?_
  intro p e s m below meth c A ls C hX hr hlocks hin hA hP hD hS hl
  have hl : lv_has ls 2 [(0, .ref a0), (1, .int x1)] := hl
  refine lv_iload_n C.1 C.2.1 dX11_end_0 rfl (lv_at hl 1 rfl) ?_
  refine lv_if_lt (tgt := 12) C.1 C.2.1 dX11_end_1 (by decide) (fun c_1 => ?_) (fun c_1 => ?_)
  · refine lv_iconst (v := 0) C.1 C.2.1 dX11_end_12 (by decide) ?_
    exact k_iret C hr hlocks hP hD hS (by decide) (fun _ => 0) [] rfl rfl (Or.inl ⟨c_1, rfl⟩) (Nat.le_of_ble_eq_true rfl) (Nat.le_of_ble_eq_true rfl) dX11_end_13
  · refine lv_iload_n C.1 C.2.1 dX11_end_4 rfl (lv_at hl 1 rfl) ?_
    refine lv_aload_n C.1 C.2.1 dX11_end_5 rfl (lv_at hl 0 rfl) ?_
    refine k_get (v := .int 0) C hP 0 rfl rfl inlX11 1 (by decide) m_9_9 e0_1 dX11_end_6 ?_
    refine lv_icmp_le (tgt := 14) C.1 C.2.1 dX11_end_9 (by decide) (fun c_2 => ?_) (fun c_2 => ?_)
    · refine lv_aload_n C.1 C.2.1 dX11_end_14 rfl (lv_at hl 0 rfl) ?_
      refine lv_iload_n C.1 C.2.1 dX11_end_15 rfl (lv_at hl 1 rfl) ?_
      refine k_put (ws' := [(a0, .inr (10, (s0.set 1 (.int x1))))]) (v := .int x1) C hP hD hS 0 rfl rfl inlX11 tyX11_ok nmX11 1 (by decide) m_9_9 rfl rfl rfl n0 rfl dX11_end_16 (fun H locs hP hD hS => ?_)
      refine lv_iconst (v := 1) C.1 C.2.1 dX11_end_19 (by decide) ?_
      exact k_iret C hr hlocks hP hD hS (by decide) (fun _ => 0) [] rfl rfl (Or.inr (Or.inl ⟨c_1, c_2, rfl⟩)) (Nat.le_of_ble_eq_true rfl) (Nat.le_of_ble_eq_true rfl) dX11_end_20
    · refine lv_iconst (v := 0) C.1 C.2.1 dX11_end_12 (by decide) ?_
      exact k_iret C hr hlocks hP hD hS (by decide) (fun _ => 0) [] rfl rfl (Or.inr (Or.inr ⟨c_1, c_2, rfl⟩)) (Nat.le_of_ble_eq_true rfl) (Nat.le_of_ble_eq_true rfl) dX11_end_13
set_option maxHeartbeats 4000000 in
set_option maxRecDepth 100000 in
theorem t_X12_end (l : Launch) (D : va_G) (K : Nat → ClassId) (a0 : Nat) (s0 : List Value) (n0 : s0.length = 94) (x1 : Int32) (e0_2 : s0[2]? = some (.int 0)) : uMet l yX12_end cX12_end 2 (some .boolean) (rmD 0 0 0) D K X0 [.ref a0, .int x1] [(a0, .inr (11, s0))] (QI D K (fun (r : Int32) (u : Nat → Nat) => ((x1 < 0) ∧ r = 0) ∨ ((¬ x1 < 0) ∧ (x1 ≤ 0) ∧ r = 1) ∨ ((¬ x1 < 0) ∧ (¬ x1 ≤ 0) ∧ r = 0)) (fun (u : Nat → Nat) => [])) 0 0 := by
  refine k_met RX12 ⟨rfl, by decide +kernel⟩ (Nat.le_of_ble_eq_true rfl) ?_
  intro p e s m below meth c A ls C hX hr hlocks hin hA hP hD hS hl
  have hl : lv_has ls 2 [(0, .ref a0), (1, .int x1)] := hl
  refine lv_aload_n C.1 C.2.1 dX12_end_0 rfl (lv_at hl 0 rfl) ?_
  refine lv_iconst (v := 0) C.1 C.2.1 dX12_end_1 (by decide) ?_
  refine k_put (ws' := [(a0, .inr (11, (s0.set 0 (.int 0))))]) (v := .int 0) C hP hD hS 0 rfl rfl inlX12 tyX12_ok nmX12 0 (by decide) m_9_18 rfl rfl rfl n0 rfl dX12_end_2 (fun H locs hP hD hS => ?_)
  refine lv_iload_n C.1 C.2.1 dX12_end_5 rfl (lv_at hl 1 rfl) ?_
  refine lv_if_lt (tgt := 17) C.1 C.2.1 dX12_end_6 (by decide) (fun c_1 => ?_) (fun c_1 => ?_)
  · refine lv_iconst (v := 0) C.1 C.2.1 dX12_end_17 (by decide) ?_
    exact k_iret C hr hlocks hP hD hS (by decide) (fun _ => 0) [] rfl rfl (Or.inl ⟨c_1, rfl⟩) (Nat.le_of_ble_eq_true rfl) (Nat.le_of_ble_eq_true rfl) dX12_end_18
  · refine lv_iload_n C.1 C.2.1 dX12_end_9 rfl (lv_at hl 1 rfl) ?_
    refine lv_aload_n C.1 C.2.1 dX12_end_10 rfl (lv_at hl 0 rfl) ?_
    refine k_get (v := .int 0) C hP 0 rfl rfl inlX12 2 (by decide) m_9_19 (sn (by decide) e0_2) dX12_end_11 ?_
    refine lv_icmp_le (tgt := 19) C.1 C.2.1 dX12_end_14 (by decide) (fun c_2 => ?_) (fun c_2 => ?_)
    · refine lv_aload_n C.1 C.2.1 dX12_end_19 rfl (lv_at hl 0 rfl) ?_
      refine lv_iload_n C.1 C.2.1 dX12_end_20 rfl (lv_at hl 1 rfl) ?_
      refine k_put (ws' := [(a0, .inr (11, ((s0.set 0 (.int 0)).set 2 (.int x1))))]) (v := .int x1) C hP hD hS 0 rfl rfl inlX12 tyX12_ok nmX12 2 (by decide) m_9_19 rfl rfl rfl (sl n0) rfl dX12_end_21 (fun H locs hP hD hS => ?_)
      refine lv_iconst (v := 1) C.1 C.2.1 dX12_end_24 (by decide) ?_
      exact k_iret C hr hlocks hP hD hS (by decide) (fun _ => 0) [] rfl rfl (Or.inr (Or.inl ⟨c_1, c_2, rfl⟩)) (Nat.le_of_ble_eq_true rfl) (Nat.le_of_ble_eq_true rfl) dX12_end_25
    · refine lv_iconst (v := 0) C.1 C.2.1 dX12_end_17 (by decide) ?_
      exact k_iret C hr hlocks hP hD hS (by decide) (fun _ => 0) [] rfl rfl (Or.inr (Or.inr ⟨c_1, c_2, rfl⟩)) (Nat.le_of_ble_eq_true rfl) (Nat.le_of_ble_eq_true rfl) dX12_end_18
set_option maxHeartbeats 4000000 in
set_option maxRecDepth 100000 in
theorem t_X11_error (l : Launch) (D : va_G) (K : Nat → ClassId) (a0 : Nat) (a1 : Nat) (s0 : List Value) (n0 : s0.length = 8) (s1 : List Value) (n1 : s1.length = 20) (e0_5 : s0[5]? = some (.ref a1)) (e1_18 : s1[18]? = some (.int 0)) : uMet l yX11_error cX11_error 1 (some .int) (rmD 0 0 0) D K X0 [.ref a0] [(a0, .inr (10, s0)), (a1, .inr (0, s1))] (QI D K (fun (r : Int32) (u : Nat → Nat) => r = 0) (fun (u : Nat → Nat) => [])) 0 0 := by
  refine k_met RX11 ⟨rfl, by decide +kernel⟩ (Nat.le_of_ble_eq_true rfl) ?_
  intro p e s m below meth c A ls C hX hr hlocks hin hA hP hD hS hl
  have hl : lv_has ls 1 [(0, .ref a0)] := hl
  refine lv_aload_n C.1 C.2.1 dX11_error_0 rfl (lv_at hl 0 rfl) ?_
  refine k_get (v := .ref a1) C hP 0 rfl rfl inlX11 5 (by decide) m_2_10 e0_5 dX11_error_1 ?_
  refine k_get (v := .int 0) C hP 1 rfl rfl inlX0 18 (by decide) m_43_6 e1_18 dX11_error_4 ?_
  exact k_iret C hr hlocks hP hD hS rfl (fun _ => 0) [] rfl rfl rfl (Nat.le_of_ble_eq_true rfl) (Nat.le_of_ble_eq_true rfl) dX11_error_7
set_option maxHeartbeats 4000000 in
set_option maxRecDepth 100000 in
theorem t_X12_error (l : Launch) (D : va_G) (K : Nat → ClassId) (a0 : Nat) (s0 : List Value) (n0 : s0.length = 94) (e0_43 : s0[43]? = some (.int 0)) : uMet l yX12_error cX12_error 1 (some .int) (rmD 0 0 0) D K X0 [.ref a0] [(a0, .inr (11, s0))] (QI D K (fun (r : Int32) (u : Nat → Nat) => r = 0) (fun (u : Nat → Nat) => [])) 0 0 := by
  refine k_met RX12 ⟨rfl, by decide +kernel⟩ (Nat.le_of_ble_eq_true rfl) ?_
  intro p e s m below meth c A ls C hX hr hlocks hin hA hP hD hS hl
  have hl : lv_has ls 1 [(0, .ref a0)] := hl
  refine lv_aload_n C.1 C.2.1 dX12_error_0 rfl (lv_at hl 0 rfl) ?_
  refine lv_iconst (v := 0) C.1 C.2.1 dX12_error_1 (by decide) ?_
  refine k_put (ws' := [(a0, .inr (11, (s0.set 0 (.int 0))))]) (v := .int 0) C hP hD hS 0 rfl rfl inlX12 tyX12_ok nmX12 0 (by decide) m_9_18 rfl rfl rfl n0 rfl dX12_error_2 (fun H locs hP hD hS => ?_)
  refine lv_aload_n C.1 C.2.1 dX12_error_5 rfl (lv_at hl 0 rfl) ?_
  refine k_get (v := .int 0) C hP 0 rfl rfl inlX12 43 (by decide) m_29_14 (sn (by decide) e0_43) dX12_error_6 ?_
  exact k_iret C hr hlocks hP hD hS rfl (fun _ => 0) [] rfl rfl rfl (Nat.le_of_ble_eq_true rfl) (Nat.le_of_ble_eq_true rfl) dX12_error_9
set_option maxHeartbeats 4000000 in
set_option maxRecDepth 100000 in
theorem c_X11_useUpTape (l : Launch) (D : va_G) (K : Nat → ClassId) (a0 : Nat) (s0 : List Value) (n0 : s0.length = 8) (e0_1 : s0[1]? = some (.int 0)) : uMet l yX11_useUpTape cX11_useUpTape 2 (some .int) (rmD 0 0 0) D K X0 [.ref a0] [(a0, .inr (10, s0))] (QI D K (fun (r : Int32) (u : Nat → Nat) => r = 0) (fun (u : Nat → Nat) => [(a0, .inr (10, (s0.set 1 (.int 0))))])) 0 0 := by
  refine k_met RX11 ⟨rfl, by decide +kernel⟩ (Nat.le_of_ble_eq_true rfl) ?_
  intro p e s m below meth c A ls C hX hr hlocks hin hA hP hD hS hl
  have hl : lv_has ls 2 [(0, .ref a0)] := hl
  refine lv_aload_n C.1 C.2.1 dX11_useUpTape_0 rfl (lv_at hl 0 rfl) ?_
  refine k_get (v := .int 0) C hP 0 rfl rfl inlX11 1 (by decide) m_9_9 e0_1 dX11_useUpTape_1 ?_
  refine lv_istore_n (lv' := [(1, .int 0), (0, .ref a0)]) C.1 C.2.1 dX11_useUpTape_4 rfl hl (by decide) rfl (fun ls hl => ?_)
  refine lv_aload_n C.1 C.2.1 dX11_useUpTape_5 rfl (lv_at hl 1 rfl) ?_
  refine lv_iconst (v := 0) C.1 C.2.1 dX11_useUpTape_6 (by decide) ?_
  refine k_put (ws' := [(a0, .inr (10, (s0.set 1 (.int 0))))]) (v := .int 0) C hP hD hS 0 rfl rfl inlX11 tyX11_ok nmX11 1 (by decide) m_9_9 rfl rfl rfl n0 rfl dX11_useUpTape_7 (fun H locs hP hD hS => ?_)
  refine lv_iload_n C.1 C.2.1 dX11_useUpTape_10 rfl (lv_at hl 0 rfl) ?_
  exact k_iret C hr hlocks hP hD hS rfl (fun _ => 0) [0] rfl rfl rfl (Nat.le_of_ble_eq_true rfl) (Nat.le_of_ble_eq_true rfl) dX11_useUpTape_11
set_option maxHeartbeats 4000000 in
set_option maxRecDepth 100000 in
theorem c_X9_reopen (l : Launch) (D : va_G) (K : Nat → ClassId) (a0 : Nat) (s0 : List Value) (n0 : s0.length = 8) (e0_6 : s0[6]? = some (.int 0)) : uMet l yX9_reopen cX9_reopen 1 none (rmD 0 0 0) D K X0 [.ref a0] [(a0, .inr (8, s0))] (QV D K (fun (u : Nat → Nat) => True) (fun (u : Nat → Nat) => [(a0, .inr (8, ((s0.set 4 (.int 0)).set 5 (.int 0))))])) 0 0 := by
  refine k_met RX9 ⟨rfl, by decide +kernel⟩ (Nat.le_of_ble_eq_true rfl) ?_
  intro p e s m below meth c A ls C hX hr hlocks hin hA hP hD hS hl
  have hl : lv_has ls 1 [(0, .ref a0)] := hl
  refine lv_aload_n C.1 C.2.1 dX9_reopen_0 rfl (lv_at hl 0 rfl) ?_
  refine lv_aload_n C.1 C.2.1 dX9_reopen_1 rfl (lv_at hl 0 rfl) ?_
  refine k_get (v := .int 0) C hP 0 rfl rfl inlX9 6 (by decide) m_12_17 e0_6 dX9_reopen_2 ?_
  refine k_put (ws' := [(a0, .inr (8, (s0.set 4 (.int 0))))]) (v := .int 0) C hP hD hS 0 rfl rfl inlX9 tyX9_ok nmX9 4 (by decide) m_13_2 rfl rfl rfl n0 rfl dX9_reopen_5 (fun H locs hP hD hS => ?_)
  refine lv_aload_n C.1 C.2.1 dX9_reopen_8 rfl (lv_at hl 0 rfl) ?_
  refine lv_iconst (v := 0) C.1 C.2.1 dX9_reopen_9 (by decide) ?_
  refine k_put (ws' := [(a0, .inr (8, ((s0.set 4 (.int 0)).set 5 (.int 0))))]) (v := .int 0) C hP hD hS 0 rfl rfl inlX9 tyX9_ok nmX9 5 (by decide) m_13_3 rfl rfl rfl (sl n0) rfl dX9_reopen_10 (fun H locs hP hD hS => ?_)
  exact k_vret C hr hlocks hP hD hS (fun _ => 0) [0] rfl rfl trivial (Nat.le_of_ble_eq_true rfl) (Nat.le_of_ble_eq_true rfl) dX9_reopen_13
set_option maxHeartbeats 4000000 in
set_option maxRecDepth 100000 in
theorem c_X9_open (l : Launch) (D : va_G) (K : Nat → ClassId) (a0 : Nat) (a1 : Nat) (s0 : List Value) (n0 : s0.length = 8) (f1 : Nat → Int32) (e0_0 : s0[0]? = some (.ref a1)) : uMet l yX9_open cX9_open 3 none (rmD 1 0 0) D K X0 [.ref a0, .int 0, .int 0] [(a0, .inr (8, s0)), (a1, .inl (K 2, 8192, .inl f1))] (QV D K (fun (u : Nat → Nat) => True) (fun (u : Nat → Nat) => [(a0, .inr (8, ((((s0.set 6 (.int 0)).set 7 (.int 0)).set 4 (.int 0)).set 5 (.int 0)))), (a1, .inl (K 2, 8192, .inl f1))])) 0 0 := by
  refine k_met RX9 ⟨rfl, by decide +kernel⟩ (Nat.le_of_ble_eq_true rfl) ?_
  intro p e s m below meth c A ls C hX hr hlocks hin hA hP hD hS hl
  have hl : lv_has ls 3 [(0, .ref a0), (1, .int 0), (2, .int 0)] := hl
  refine lv_aload_n C.1 C.2.1 dX9_open_0 rfl (lv_at hl 0 rfl) ?_
  refine lv_iload_n C.1 C.2.1 dX9_open_1 rfl (lv_at hl 1 rfl) ?_
  refine lv_iconst (v := 0) C.1 C.2.1 dX9_open_2 (by decide) ?_
  refine k_mmax (v := 0) C hl.1 m_12_13 m_12_14 m_12_15 m_12_16 (Nat.le_of_ble_eq_true rfl) (Nat.le_of_ble_eq_true rfl) (Nat.le_of_ble_eq_true rfl) (Nat.le_of_ble_eq_true rfl) (by decide) dX9_open_3 ?_
  refine k_put (ws' := [(a0, .inr (8, (s0.set 6 (.int 0)))), (a1, .inl (K 2, 8192, .inl f1))]) (v := .int 0) C hP hD hS 0 rfl rfl inlX9 tyX9_ok nmX9 6 (by decide) m_12_17 rfl rfl rfl n0 rfl dX9_open_6 (fun H locs hP hD hS => ?_)
  refine lv_aload_n C.1 C.2.1 dX9_open_9 rfl (lv_at hl 0 rfl) ?_
  refine lv_iload_n C.1 C.2.1 dX9_open_10 rfl (lv_at hl 2 rfl) ?_
  refine lv_aload_n C.1 C.2.1 dX9_open_11 rfl (lv_at hl 0 rfl) ?_
  refine k_get (v := .ref a1) C hP 0 rfl rfl inlX9 0 (by decide) m_3_0 (sn (by decide) e0_0) dX9_open_12 ?_
  refine k_len (v := 8192) C hP 1 2 rfl rfl rfl dX9_open_15 ?_
  refine k_mmin (v := 0) C hl.1 m_12_18 m_12_19 m_12_15 m_12_20 (Nat.le_of_ble_eq_true rfl) (Nat.le_of_ble_eq_true rfl) (Nat.le_of_ble_eq_true rfl) (Nat.le_of_ble_eq_true rfl) (by decide) dX9_open_16 ?_
  refine k_put (ws' := [(a0, .inr (8, ((s0.set 6 (.int 0)).set 7 (.int 0)))), (a1, .inl (K 2, 8192, .inl f1))]) (v := .int 0) C hP hD hS 0 rfl rfl inlX9 tyX9_ok nmX9 7 (by decide) m_12_21 rfl rfl rfl (sl n0) rfl dX9_open_19 (fun H locs hP hD hS => ?_)
  refine lv_aload_n C.1 C.2.1 dX9_open_22 rfl (lv_at hl 0 rfl) ?_
  refine k_Vv (As := []) (rest := []) C hP hD hS hA (c_X9_reopen l D K a0 (((s0.set 6 (.int 0)).set 7 (.int 0))) (sl (sl n0)) (sn (by decide) (ss (sk n0 (by decide))))) X0_ok trivial (uwV m_12_22 m_12_23 m_13_0 m_1_17 m_13_1) (hdV 0 (by decide +kernel) rfl) ⟨Nat.le_of_ble_eq_true rfl, Nat.le_of_ble_eq_true rfl⟩ rfl rfl (ci := 8) rfl rfl (isC := [0]) (isR := [1]) (wr := [(a1, .inl (K 2, 8192, .inl f1))]) ⟨rfl, rfl, rfl, rfl, by decide⟩ rfl hl.1 (Nat.le_of_ble_eq_true rfl) dX9_open_23 ⟨Nat.le_of_ble_eq_true rfl, Nat.le_of_ble_eq_true rfl⟩ (fun u_1 H locs hw hP hD hS => ?_)
  have hP : va_P D vwCl [(a1, .inl (K 2, 8192, .inl f1)), (a0, .inr (8, ((((s0.set 6 (.int 0)).set 7 (.int 0)).set 4 (.int 0)).set 5 (.int 0))))] H := hP
  have hD : va_D A [(a1, .inl (K 2, 8192, .inl f1)), (a0, .inr (8, ((((s0.set 6 (.int 0)).set 7 (.int 0)).set 4 (.int 0)).set 5 (.int 0))))] := hD
  exact k_vret C hr hlocks hP hD hS (fun _ => 0) [1, 0] rfl rfl trivial (Nat.le_of_ble_eq_true rfl) (Nat.le_of_ble_eq_true rfl) dX9_open_26
set_option maxHeartbeats 4000000 in
set_option maxRecDepth 100000 in
theorem c_X9_advance (l : Launch) (D : va_G) (K : Nat → ClassId) (a0 : Nat) (s0 : List Value) (n0 : s0.length = 8) (e0_5 : s0[5]? = some (.int 0)) (e0_4 : s0[4]? = some (.int 0)) (e0_7 : s0[7]? = some (.int 0)) : uMet l yX9_advance cX9_advance 3 (some .boolean) (rmD 0 0 0) D K X0 [.ref a0] [(a0, .inr (8, s0))] (QI D K (fun (r : Int32) (u : Nat → Nat) => r = 0) (fun (u : Nat → Nat) => [(a0, .inr (8, (s0.set 5 (.int 1))))])) 0 0 := by
  refine k_met RX9 ⟨rfl, by decide +kernel⟩ (Nat.le_of_ble_eq_true rfl) ?_
  intro p e s m below meth c A ls C hX hr hlocks hin hA hP hD hS hl
  have hl : lv_has ls 3 [(0, .ref a0)] := hl
  refine lv_aload_n C.1 C.2.1 dX9_advance_0 rfl (lv_at hl 0 rfl) ?_
  refine lv_dup C.1 C.2.1 dX9_advance_1 rfl ?_
  refine k_get (v := .int 0) C hP 0 rfl rfl inlX9 5 (by decide) m_13_3 e0_5 dX9_advance_2 ?_
  refine lv_iconst (v := 1) C.1 C.2.1 dX9_advance_5 (by decide) ?_
  refine k_iadd (v := 1) C (by decide) dX9_advance_6 ?_
  refine k_put (ws' := [(a0, .inr (8, (s0.set 5 (.int 1))))]) (v := .int 1) C hP hD hS 0 rfl rfl inlX9 tyX9_ok nmX9 5 (by decide) m_13_3 rfl rfl rfl n0 rfl dX9_advance_7 (fun H locs hP hD hS => ?_)
  refine lv_aload_n C.1 C.2.1 dX9_advance_10 rfl (lv_at hl 0 rfl) ?_
  refine k_get (v := .int 0) C hP 0 rfl rfl inlX9 4 (by decide) m_13_2 (sn (by decide) e0_4) dX9_advance_11 ?_
  refine lv_aload_n C.1 C.2.1 dX9_advance_14 rfl (lv_at hl 0 rfl) ?_
  refine k_get (v := .int 0) C hP 0 rfl rfl inlX9 7 (by decide) m_12_21 (sn (by decide) e0_7) dX9_advance_15 ?_
  refine lv_icmp_lt (tgt := 23) C.1 C.2.1 dX9_advance_18 (by decide) (fun h => absurd h (by decide)) (fun _ => ?_)
  refine lv_iconst (v := 0) C.1 C.2.1 dX9_advance_21 (by decide) ?_
  exact k_iret C hr hlocks hP hD hS (by decide) (fun _ => 0) [0] rfl rfl rfl (Nat.le_of_ble_eq_true rfl) (Nat.le_of_ble_eq_true rfl) dX9_advance_22
set_option maxHeartbeats 4000000 in
set_option maxRecDepth 100000 in
theorem t_X11_cards (l : Launch) (D : va_G) (K : Nat → ClassId) (a0 : Nat) (a1 : Nat) (a2 : Nat) (a3 : Nat) (a4 : Nat) (a5 : Nat) (s0 : List Value) (n0 : s0.length = 8) (s1 : List Value) (n1 : s1.length = 16) (s2 : List Value) (n2 : s2.length = 13) (s3 : List Value) (n3 : s3.length = 4) (s4 : List Value) (n4 : s4.length = 8) (f5 : Nat → Int32) (e0_1 : s0[1]? = some (.int 0)) (e0_7 : s0[7]? = some (.ref a1)) (e1_0 : s1[0]? = some (.ref a2)) (e0_3 : s0[3]? = some (.ref a3)) (e2_9 : s2[9]? = some (.ref a4)) (e3_3 : s3[3]? = some (.int 0)) (e4_0 : s4[0]? = some (.ref a5)) : uMet l yX11_cards cX11_cards 5 (some .int) (rmD 2 0 0) D K X0 [.ref a0] [(a0, .inr (10, s0)), (a1, .inr (2, s1)), (a3, .inr (9, s2)), (a4, .inr (5, s3)), (a2, .inr (8, s4)), (a5, .inl (K 2, 8192, .inl f5))] (QI D K (fun (r : Int32) (u : Nat → Nat) => r = 0) (fun (u : Nat → Nat) => [])) 0 0 := by
  refine k_met RX11 ⟨rfl, by decide +kernel⟩ (Nat.le_of_ble_eq_true rfl) ?_
  intro p e s m below meth c A ls C hX hr hlocks hin hA hP hD hS hl
  have hl : lv_has ls 5 [(0, .ref a0)] := hl
  refine lv_aload_n C.1 C.2.1 dX11_cards_0 rfl (lv_at hl 0 rfl) ?_
  refine k_Vi (As := []) (rest := []) C hP hD hS hA (c_X11_useUpTape l D K a0 s0 n0 e0_1) X0_ok trivial (uwV m_10_20 m_10_21 m_10_22 m_1_2 m_10_23) (hdV 0 (by decide +kernel) rfl) ⟨Nat.le_of_ble_eq_true rfl, Nat.le_of_ble_eq_true rfl⟩ rfl rfl (ci := 10) rfl rfl (isC := [0]) (isR := [1, 2, 3, 4, 5]) (wr := [(a1, .inr (2, s1)), (a3, .inr (9, s2)), (a4, .inr (5, s3)), (a2, .inr (8, s4)), (a5, .inl (K 2, 8192, .inl f5))]) ⟨rfl, rfl, rfl, rfl, by decide⟩ rfl hl.1 (Nat.le_of_ble_eq_true rfl) dX11_cards_1 ⟨Nat.le_of_ble_eq_true rfl, Nat.le_of_ble_eq_true rfl⟩ (fun r_2 u_1 H locs hw hP hD hS => ?_)
  obtain rfl := hw
  have hP : va_P D vwCl [(a1, .inr (2, s1)), (a3, .inr (9, s2)), (a4, .inr (5, s3)), (a2, .inr (8, s4)), (a5, .inl (K 2, 8192, .inl f5)), (a0, .inr (10, (s0.set 1 (.int 0))))] H := hP
  have hD : va_D A [(a1, .inr (2, s1)), (a3, .inr (9, s2)), (a4, .inr (5, s3)), (a2, .inr (8, s4)), (a5, .inl (K 2, 8192, .inl f5)), (a0, .inr (10, (s0.set 1 (.int 0))))] := hD
  refine lv_istore_n (lv' := [(1, .int 0), (0, .ref a0)]) C.1 C.2.1 dX11_cards_4 rfl hl (by decide) rfl (fun ls hl => ?_)
  refine lv_aload_n C.1 C.2.1 dX11_cards_5 rfl (lv_at hl 1 rfl) ?_
  refine k_get (v := .ref a1) C hP 5 rfl rfl inlX11 7 (by decide) m_2_18 (sn (by decide) e0_7) dX11_cards_6 ?_
  refine k_get (v := .ref a2) C hP 0 rfl rfl inlX3 0 (by decide) m_43_15 e1_0 dX11_cards_9 ?_
  refine lv_astore_n (lv' := [(2, .ref a2), (1, .int 0), (0, .ref a0)]) C.1 C.2.1 dX11_cards_12 rfl hl (by decide) rfl (fun ls hl => ?_)
  refine lv_aload_n C.1 C.2.1 dX11_cards_13 rfl (lv_at hl 2 rfl) ?_
  refine k_get (v := .ref a3) C hP 5 rfl rfl inlX11 3 (by decide) m_2_8 (sn (by decide) e0_3) dX11_cards_14 ?_
  refine k_get (v := .ref a4) C hP 1 rfl rfl inlX10 9 (by decide) m_43_16 e2_9 dX11_cards_17 ?_
  refine k_get (v := .int 0) C hP 2 rfl rfl inlX6 3 (by decide) m_43_17 e3_3 dX11_cards_20 ?_
  refine lv_istore_n (lv' := [(3, .int 0), (2, .ref a2), (1, .int 0), (0, .ref a0)]) C.1 C.2.1 dX11_cards_23 rfl hl (by decide) rfl (fun ls hl => ?_)
  refine lv_aload_n C.1 C.2.1 dX11_cards_24 rfl (lv_at hl 1 rfl) ?_
  refine lv_iconst (v := 0) C.1 C.2.1 dX11_cards_25 (by decide) ?_
  refine lv_iload_n C.1 C.2.1 dX11_cards_26 rfl (lv_at hl 2 rfl) ?_
  refine k_Vv (As := [.int 0, .int 0]) (rest := []) C hP hD hS hA (c_X9_open l D K a2 a5 s4 n4 f5 e4_0) X0_ok trivial (uwV m_43_18 m_12_10 m_12_11 m_1_17 m_12_12) (hdV 2 (by decide +kernel) rfl) ⟨Nat.le_of_ble_eq_true rfl, Nat.le_of_ble_eq_true rfl⟩ rfl rfl (ci := 8) rfl rfl (isC := [3, 4]) (isR := [0, 1, 2, 5]) (wr := [(a1, .inr (2, s1)), (a3, .inr (9, s2)), (a4, .inr (5, s3)), (a0, .inr (10, (s0.set 1 (.int 0))))]) ⟨rfl, rfl, rfl, rfl, by decide⟩ rfl hl.1 (Nat.le_of_ble_eq_true rfl) dX11_cards_27 ⟨Nat.le_of_ble_eq_true rfl, Nat.le_of_ble_eq_true rfl⟩ (fun u_3 H locs hw hP hD hS => ?_)
  have hP : va_P D vwCl [(a1, .inr (2, s1)), (a3, .inr (9, s2)), (a4, .inr (5, s3)), (a0, .inr (10, (s0.set 1 (.int 0)))), (a2, .inr (8, ((((s4.set 6 (.int 0)).set 7 (.int 0)).set 4 (.int 0)).set 5 (.int 0)))), (a5, .inl (K 2, 8192, .inl f5))] H := hP
  have hD : va_D A [(a1, .inr (2, s1)), (a3, .inr (9, s2)), (a4, .inr (5, s3)), (a0, .inr (10, (s0.set 1 (.int 0)))), (a2, .inr (8, ((((s4.set 6 (.int 0)).set 7 (.int 0)).set 4 (.int 0)).set 5 (.int 0)))), (a5, .inl (K 2, 8192, .inl f5))] := hD
  refine lv_iconst (v := 0) C.1 C.2.1 dX11_cards_30 (by decide) ?_
  refine lv_istore (lv' := [(4, .int 0), (3, .int 0), (2, .ref a2), (1, .int 0), (0, .ref a0)]) C.1 C.2.1 dX11_cards_31 hl (by decide) rfl (fun ls hl => ?_)
  refine lv_iload C.1 C.2.1 dX11_cards_33 (lv_at hl 0 rfl) ?_
  refine lv_sipush (v := 8192) C.1 C.2.1 dX11_cards_35 (by decide) ?_
  refine lv_icmp_ge (tgt := 57) C.1 C.2.1 dX11_cards_38 (by decide) (fun h => absurd h (by decide)) (fun _ => ?_)
  refine lv_aload_n C.1 C.2.1 dX11_cards_41 rfl (lv_at hl 2 rfl) ?_
  refine k_Vi (As := []) (rest := []) C hP hD hS hA (c_X9_advance l D K a2 (((((s4.set 6 (.int 0)).set 7 (.int 0)).set 4 (.int 0)).set 5 (.int 0))) (sl (sl (sl (sl n4)))) (ss (sk (sl (sl (sl n4))) (by decide))) (sn (by decide) (ss (sk (sl (sl n4)) (by decide)))) (sn (by decide) (sn (by decide) (ss (sk (sl n4) (by decide)))))) X0_ok trivial (uwV m_43_19 m_13_19 m_13_20 m_1_17 m_13_21) (hdV 0 (by decide +kernel) rfl) ⟨Nat.le_of_ble_eq_true rfl, Nat.le_of_ble_eq_true rfl⟩ rfl rfl (ci := 8) rfl rfl (isC := [4]) (isR := [0, 1, 2, 3, 5]) (wr := [(a1, .inr (2, s1)), (a3, .inr (9, s2)), (a4, .inr (5, s3)), (a0, .inr (10, (s0.set 1 (.int 0)))), (a5, .inl (K 2, 8192, .inl f5))]) ⟨rfl, rfl, rfl, rfl, by decide⟩ rfl hl.1 (Nat.le_of_ble_eq_true rfl) dX11_cards_42 ⟨Nat.le_of_ble_eq_true rfl, Nat.le_of_ble_eq_true rfl⟩ (fun r_6 u_5 H locs hw hP hD hS => ?_)
  obtain rfl := hw
  have hP : va_P D vwCl [(a1, .inr (2, s1)), (a3, .inr (9, s2)), (a4, .inr (5, s3)), (a0, .inr (10, (s0.set 1 (.int 0)))), (a5, .inl (K 2, 8192, .inl f5)), (a2, .inr (8, (((((s4.set 6 (.int 0)).set 7 (.int 0)).set 4 (.int 0)).set 5 (.int 0)).set 5 (.int 1))))] H := hP
  have hD : va_D A [(a1, .inr (2, s1)), (a3, .inr (9, s2)), (a4, .inr (5, s3)), (a0, .inr (10, (s0.set 1 (.int 0)))), (a5, .inl (K 2, 8192, .inl f5)), (a2, .inr (8, (((((s4.set 6 (.int 0)).set 7 (.int 0)).set 4 (.int 0)).set 5 (.int 0)).set 5 (.int 1))))] := hD
  refine lv_if_eq (tgt := 57) C.1 C.2.1 dX11_cards_45 (by decide) (fun _ => ?_) (fun h => absurd (by decide) h)
  refine lv_iload_n C.1 C.2.1 dX11_cards_57 rfl (lv_at hl 1 rfl) ?_
  refine lv_sipush (v := 400) C.1 C.2.1 dX11_cards_58 (by decide) ?_
  refine lv_icmp_le (tgt := 66) C.1 C.2.1 dX11_cards_61 (by decide) (fun _ => ?_) (fun h => absurd (by decide) h)
  refine lv_aload_n C.1 C.2.1 dX11_cards_66 rfl (lv_at hl 2 rfl) ?_
  refine lv_iconst (v := 0) C.1 C.2.1 dX11_cards_67 (by decide) ?_
  refine lv_iload_n C.1 C.2.1 dX11_cards_68 rfl (lv_at hl 3 rfl) ?_
  refine k_Vv (As := [.int 0, .int 0]) (rest := []) C hP hD hS hA (c_X9_open l D K a2 a5 ((((((s4.set 6 (.int 0)).set 7 (.int 0)).set 4 (.int 0)).set 5 (.int 0)).set 5 (.int 1))) (sl (sl (sl (sl (sl n4))))) f5 (sn (by decide) (sn (by decide) (sn (by decide) (sn (by decide) (sn (by decide) e4_0)))))) X0_ok trivial (uwV m_43_18 m_12_10 m_12_11 m_1_17 m_12_12) (hdV 2 (by decide +kernel) rfl) ⟨Nat.le_of_ble_eq_true rfl, Nat.le_of_ble_eq_true rfl⟩ rfl rfl (ci := 8) rfl rfl (isC := [5, 4]) (isR := [0, 1, 2, 3]) (wr := [(a1, .inr (2, s1)), (a3, .inr (9, s2)), (a4, .inr (5, s3)), (a0, .inr (10, (s0.set 1 (.int 0))))]) ⟨rfl, rfl, rfl, rfl, by decide⟩ rfl hl.1 (Nat.le_of_ble_eq_true rfl) dX11_cards_69 ⟨Nat.le_of_ble_eq_true rfl, Nat.le_of_ble_eq_true rfl⟩ (fun u_7 H locs hw hP hD hS => ?_)
  have hP : va_P D vwCl [(a1, .inr (2, s1)), (a3, .inr (9, s2)), (a4, .inr (5, s3)), (a0, .inr (10, (s0.set 1 (.int 0)))), (a2, .inr (8, (((((((((s4.set 6 (.int 0)).set 7 (.int 0)).set 4 (.int 0)).set 5 (.int 0)).set 5 (.int 1)).set 6 (.int 0)).set 7 (.int 0)).set 4 (.int 0)).set 5 (.int 0)))), (a5, .inl (K 2, 8192, .inl f5))] H := hP
  have hD : va_D A [(a1, .inr (2, s1)), (a3, .inr (9, s2)), (a4, .inr (5, s3)), (a0, .inr (10, (s0.set 1 (.int 0)))), (a2, .inr (8, (((((((((s4.set 6 (.int 0)).set 7 (.int 0)).set 4 (.int 0)).set 5 (.int 0)).set 5 (.int 1)).set 6 (.int 0)).set 7 (.int 0)).set 4 (.int 0)).set 5 (.int 0)))), (a5, .inl (K 2, 8192, .inl f5))] := hD
  refine lv_iconst (v := 0) C.1 C.2.1 dX11_cards_72 (by decide) ?_
  refine lv_istore (lv' := [(4, .int 0), (3, .int 0), (2, .ref a2), (1, .int 0), (0, .ref a0)]) C.1 C.2.1 dX11_cards_73 hl (by decide) rfl (fun ls hl => ?_)
  refine lv_iload C.1 C.2.1 dX11_cards_75 (lv_at hl 0 rfl) ?_
  refine lv_sipush (v := 8192) C.1 C.2.1 dX11_cards_77 (by decide) ?_
  refine lv_icmp_ge (tgt := 107) C.1 C.2.1 dX11_cards_80 (by decide) (fun h => absurd h (by decide)) (fun _ => ?_)
  refine lv_aload_n C.1 C.2.1 dX11_cards_83 rfl (lv_at hl 2 rfl) ?_
  refine k_Vi (As := []) (rest := []) C hP hD hS hA (c_X9_advance l D K a2 ((((((((((s4.set 6 (.int 0)).set 7 (.int 0)).set 4 (.int 0)).set 5 (.int 0)).set 5 (.int 1)).set 6 (.int 0)).set 7 (.int 0)).set 4 (.int 0)).set 5 (.int 0))) (sl (sl (sl (sl (sl (sl (sl (sl (sl n4))))))))) (ss (sk (sl (sl (sl (sl (sl (sl (sl (sl n4)))))))) (by decide))) (sn (by decide) (ss (sk (sl (sl (sl (sl (sl (sl (sl n4))))))) (by decide)))) (sn (by decide) (sn (by decide) (ss (sk (sl (sl (sl (sl (sl (sl n4)))))) (by decide)))))) X0_ok trivial (uwV m_43_19 m_13_19 m_13_20 m_1_17 m_13_21) (hdV 0 (by decide +kernel) rfl) ⟨Nat.le_of_ble_eq_true rfl, Nat.le_of_ble_eq_true rfl⟩ rfl rfl (ci := 8) rfl rfl (isC := [4]) (isR := [0, 1, 2, 3, 5]) (wr := [(a1, .inr (2, s1)), (a3, .inr (9, s2)), (a4, .inr (5, s3)), (a0, .inr (10, (s0.set 1 (.int 0)))), (a5, .inl (K 2, 8192, .inl f5))]) ⟨rfl, rfl, rfl, rfl, by decide⟩ rfl hl.1 (Nat.le_of_ble_eq_true rfl) dX11_cards_84 ⟨Nat.le_of_ble_eq_true rfl, Nat.le_of_ble_eq_true rfl⟩ (fun r_10 u_9 H locs hw hP hD hS => ?_)
  obtain rfl := hw
  have hP : va_P D vwCl [(a1, .inr (2, s1)), (a3, .inr (9, s2)), (a4, .inr (5, s3)), (a0, .inr (10, (s0.set 1 (.int 0)))), (a5, .inl (K 2, 8192, .inl f5)), (a2, .inr (8, ((((((((((s4.set 6 (.int 0)).set 7 (.int 0)).set 4 (.int 0)).set 5 (.int 0)).set 5 (.int 1)).set 6 (.int 0)).set 7 (.int 0)).set 4 (.int 0)).set 5 (.int 0)).set 5 (.int 1))))] H := hP
  have hD : va_D A [(a1, .inr (2, s1)), (a3, .inr (9, s2)), (a4, .inr (5, s3)), (a0, .inr (10, (s0.set 1 (.int 0)))), (a5, .inl (K 2, 8192, .inl f5)), (a2, .inr (8, ((((((((((s4.set 6 (.int 0)).set 7 (.int 0)).set 4 (.int 0)).set 5 (.int 0)).set 5 (.int 1)).set 6 (.int 0)).set 7 (.int 0)).set 4 (.int 0)).set 5 (.int 0)).set 5 (.int 1))))] := hD
  refine lv_if_eq (tgt := 107) C.1 C.2.1 dX11_cards_87 (by decide) (fun _ => ?_) (fun h => absurd (by decide) h)
  refine lv_iload_n C.1 C.2.1 dX11_cards_107 rfl (lv_at hl 1 rfl) ?_
  exact k_iret C hr hlocks hP hD hS rfl (fun _ => 0) [] rfl rfl rfl (Nat.le_of_ble_eq_true rfl) (Nat.le_of_ble_eq_true rfl) dX11_cards_108
set_option maxHeartbeats 4000000 in
set_option maxRecDepth 100000 in
theorem c_X12_cardsLeft (l : Launch) (D : va_G) (K : Nat → ClassId) (a0 : Nat) (s0 : List Value) (n0 : s0.length = 94) (e0_36 : s0[36]? = some (.int 0)) (e0_35 : s0[35]? = some (.int 0)) : uMet l yX12_cardsLeft cX12_cardsLeft 1 (some .int) (rmD 0 0 0) D K X0 [.ref a0] [(a0, .inr (11, s0))] (QI D K (fun (r : Int32) (u : Nat → Nat) => r = 0) (fun (u : Nat → Nat) => [(a0, .inr (11, s0))])) 0 0 := by
  refine k_met RX12 ⟨rfl, by decide +kernel⟩ (Nat.le_of_ble_eq_true rfl) ?_
  intro p e s m below meth c A ls C hX hr hlocks hin hA hP hD hS hl
  have hl : lv_has ls 1 [(0, .ref a0)] := hl
  refine lv_aload_n C.1 C.2.1 dX12_cardsLeft_0 rfl (lv_at hl 0 rfl) ?_
  refine k_get (v := .int 0) C hP 0 rfl rfl inlX12 36 (by decide) m_44_16 e0_36 dX12_cardsLeft_1 ?_
  refine lv_aload_n C.1 C.2.1 dX12_cardsLeft_4 rfl (lv_at hl 0 rfl) ?_
  refine k_get (v := .int 0) C hP 0 rfl rfl inlX12 35 (by decide) m_44_17 e0_35 dX12_cardsLeft_5 ?_
  refine k_isub (v := 0) C (by decide) dX12_cardsLeft_8 ?_
  exact k_iret C hr hlocks hP hD hS rfl (fun _ => 0) [0] rfl rfl rfl (Nat.le_of_ble_eq_true rfl) (Nat.le_of_ble_eq_true rfl) dX12_cardsLeft_9
set_option maxHeartbeats 4000000 in
set_option maxRecDepth 100000 in
theorem c_X12_gatherCards (l : Launch) (D : va_G) (K : Nat → ClassId) (a0 : Nat) (s0 : List Value) (n0 : s0.length = 94) (e0_36 : s0[36]? = some (.int 0)) (e0_35 : s0[35]? = some (.int 0)) : uMet l yX12_gatherCards cX12_gatherCards 7 none (rmD 1 0 0) D K X0 [.ref a0] [(a0, .inr (11, s0))] (QV D K (fun (u : Nat → Nat) => True) (fun (u : Nat → Nat) => [(a0, .inr (11, ((s0.set 35 (.int 0)).set 36 (.int 0))))])) 0 0 := by
  refine k_met RX12 ⟨rfl, by decide +kernel⟩ (Nat.le_of_ble_eq_true rfl) ?_
  intro p e s m below meth c A ls C hX hr hlocks hin hA hP hD hS hl
  have hl : lv_has ls 7 [(0, .ref a0)] := hl
  refine lv_iconst (v := 0) C.1 C.2.1 dX12_gatherCards_0 (by decide) ?_
  refine lv_istore_n (lv' := [(1, .int 0), (0, .ref a0)]) C.1 C.2.1 dX12_gatherCards_1 rfl hl (by decide) rfl (fun ls hl => ?_)
  refine lv_aload_n C.1 C.2.1 dX12_gatherCards_2 rfl (lv_at hl 1 rfl) ?_
  refine k_Vi (As := []) (rest := []) C hP hD hS hA (c_X12_cardsLeft l D K a0 s0 n0 e0_36 e0_35) X0_ok trivial (uwV m_44_12 m_44_13 m_44_14 m_1_5 m_44_15) (hdV 0 (by decide +kernel) rfl) ⟨Nat.le_of_ble_eq_true rfl, Nat.le_of_ble_eq_true rfl⟩ rfl rfl (ci := 11) rfl rfl (isC := [0]) (isR := []) (wr := []) ⟨rfl, rfl, rfl, rfl, by decide⟩ rfl hl.1 (Nat.le_of_ble_eq_true rfl) dX12_gatherCards_3 ⟨Nat.le_of_ble_eq_true rfl, Nat.le_of_ble_eq_true rfl⟩ (fun r_2 u_1 H locs hw hP hD hS => ?_)
  obtain rfl := hw
  have hP : va_P D vwCl [(a0, .inr (11, s0))] H := hP
  have hD : va_D A [(a0, .inr (11, s0))] := hD
  refine lv_istore_n (lv' := [(2, .int 0), (1, .int 0), (0, .ref a0)]) C.1 C.2.1 dX12_gatherCards_6 rfl hl (by decide) rfl (fun ls hl => ?_)
  refine lv_iconst (v := 0) C.1 C.2.1 dX12_gatherCards_7 (by decide) ?_
  refine lv_istore_n (lv' := [(3, .int 0), (2, .int 0), (1, .int 0), (0, .ref a0)]) C.1 C.2.1 dX12_gatherCards_8 rfl hl (by decide) rfl (fun ls hl => ?_)
  refine lv_iload_n C.1 C.2.1 dX12_gatherCards_9 rfl (lv_at hl 0 rfl) ?_
  refine lv_iload_n C.1 C.2.1 dX12_gatherCards_10 rfl (lv_at hl 1 rfl) ?_
  refine lv_icmp_ge (tgt := 106) C.1 C.2.1 dX12_gatherCards_11 (by decide) (fun _ => ?_) (fun h => absurd (by decide) h)
  refine lv_aload_n C.1 C.2.1 dX12_gatherCards_106 rfl (lv_at hl 3 rfl) ?_
  refine lv_iconst (v := 0) C.1 C.2.1 dX12_gatherCards_107 (by decide) ?_
  refine k_put (ws' := [(a0, .inr (11, (s0.set 35 (.int 0))))]) (v := .int 0) C hP hD hS 0 rfl rfl inlX12 tyX12_ok nmX12 35 (by decide) m_44_17 rfl rfl rfl n0 rfl dX12_gatherCards_108 (fun H locs hP hD hS => ?_)
  refine lv_aload_n C.1 C.2.1 dX12_gatherCards_111 rfl (lv_at hl 3 rfl) ?_
  refine lv_iload_n C.1 C.2.1 dX12_gatherCards_112 rfl (lv_at hl 1 rfl) ?_
  refine k_put (ws' := [(a0, .inr (11, ((s0.set 35 (.int 0)).set 36 (.int 0))))]) (v := .int 0) C hP hD hS 0 rfl rfl inlX12 tyX12_ok nmX12 36 (by decide) m_44_16 rfl rfl rfl (sl n0) rfl dX12_gatherCards_113 (fun H locs hP hD hS => ?_)
  exact k_vret C hr hlocks hP hD hS (fun _ => 0) [0] rfl rfl trivial (Nat.le_of_ble_eq_true rfl) (Nat.le_of_ble_eq_true rfl) dX12_gatherCards_116
set_option maxHeartbeats 4000000 in
set_option maxRecDepth 100000 in
theorem t_X12_cards (l : Launch) (D : va_G) (K : Nat → ClassId) (a0 : Nat) (s0 : List Value) (n0 : s0.length = 94) (e0_2 : s0[2]? = some (.int 0)) (e0_36 : s0[36]? = some (.int 0)) (e0_35 : s0[35]? = some (.int 0)) : uMet l yX12_cards cX12_cards 4 (some .int) (rmD 2 0 0) D K X0 [.ref a0] [(a0, .inr (11, s0))] (QI D K (fun (r : Int32) (u : Nat → Nat) => r = 0) (fun (u : Nat → Nat) => [])) 0 0 := by
  refine k_met RX12 ⟨rfl, by decide +kernel⟩ (Nat.le_of_ble_eq_true rfl) ?_
  intro p e s m below meth c A ls C hX hr hlocks hin hA hP hD hS hl
  have hl : lv_has ls 4 [(0, .ref a0)] := hl
  refine lv_aload_n C.1 C.2.1 dX12_cards_0 rfl (lv_at hl 0 rfl) ?_
  refine lv_iconst (v := 0) C.1 C.2.1 dX12_cards_1 (by decide) ?_
  refine k_put (ws' := [(a0, .inr (11, (s0.set 0 (.int 0))))]) (v := .int 0) C hP hD hS 0 rfl rfl inlX12 tyX12_ok nmX12 0 (by decide) m_9_18 rfl rfl rfl n0 rfl dX12_cards_2 (fun H locs hP hD hS => ?_)
  refine lv_aload_n C.1 C.2.1 dX12_cards_5 rfl (lv_at hl 0 rfl) ?_
  refine k_get (v := .int 0) C hP 0 rfl rfl inlX12 2 (by decide) m_9_19 (sn (by decide) e0_2) dX12_cards_6 ?_
  refine lv_istore_n (lv' := [(1, .int 0), (0, .ref a0)]) C.1 C.2.1 dX12_cards_9 rfl hl (by decide) rfl (fun ls hl => ?_)
  refine lv_aload_n C.1 C.2.1 dX12_cards_10 rfl (lv_at hl 1 rfl) ?_
  refine lv_iconst (v := 0) C.1 C.2.1 dX12_cards_11 (by decide) ?_
  refine k_put (ws' := [(a0, .inr (11, ((s0.set 0 (.int 0)).set 2 (.int 0))))]) (v := .int 0) C hP hD hS 0 rfl rfl inlX12 tyX12_ok nmX12 2 (by decide) m_9_19 rfl rfl rfl (sl n0) rfl dX12_cards_12 (fun H locs hP hD hS => ?_)
  refine lv_iconst (v := 0) C.1 C.2.1 dX12_cards_15 (by decide) ?_
  refine lv_istore_n (lv' := [(2, .int 0), (1, .int 0), (0, .ref a0)]) C.1 C.2.1 dX12_cards_16 rfl hl (by decide) rfl (fun ls hl => ?_)
  refine lv_iconst (v := 0) C.1 C.2.1 dX12_cards_17 (by decide) ?_
  refine lv_istore_n (lv' := [(3, .int 0), (2, .int 0), (1, .int 0), (0, .ref a0)]) C.1 C.2.1 dX12_cards_18 rfl hl (by decide) rfl (fun ls hl => ?_)
  refine lv_iload_n C.1 C.2.1 dX12_cards_19 rfl (lv_at hl 0 rfl) ?_
  refine lv_iload_n C.1 C.2.1 dX12_cards_20 rfl (lv_at hl 2 rfl) ?_
  refine lv_icmp_ge (tgt := 42) C.1 C.2.1 dX12_cards_21 (by decide) (fun _ => ?_) (fun h => absurd (by decide) h)
  refine lv_aload_n C.1 C.2.1 dX12_cards_42 rfl (lv_at hl 3 rfl) ?_
  refine k_Vi (As := []) (rest := []) C hP hD hS hA (c_X12_cardsLeft l D K a0 (((s0.set 0 (.int 0)).set 2 (.int 0))) (sl (sl n0)) (sn (by decide) (sn (by decide) e0_36)) (sn (by decide) (sn (by decide) e0_35))) X0_ok trivial (uwV m_44_12 m_44_13 m_44_14 m_1_5 m_44_15) (hdV 0 (by decide +kernel) rfl) ⟨Nat.le_of_ble_eq_true rfl, Nat.le_of_ble_eq_true rfl⟩ rfl rfl (ci := 11) rfl rfl (isC := [0]) (isR := []) (wr := []) ⟨rfl, rfl, rfl, rfl, by decide⟩ rfl hl.1 (Nat.le_of_ble_eq_true rfl) dX12_cards_43 ⟨Nat.le_of_ble_eq_true rfl, Nat.le_of_ble_eq_true rfl⟩ (fun r_2 u_1 H locs hw hP hD hS => ?_)
  obtain rfl := hw
  have hP : va_P D vwCl [(a0, .inr (11, ((s0.set 0 (.int 0)).set 2 (.int 0))))] H := hP
  have hD : va_D A [(a0, .inr (11, ((s0.set 0 (.int 0)).set 2 (.int 0))))] := hD
  refine lv_iload_n C.1 C.2.1 dX12_cards_46 rfl (lv_at hl 1 rfl) ?_
  refine k_iadd (v := 0) C (by decide) dX12_cards_47 ?_
  refine lv_sipush (v := 400) C.1 C.2.1 dX12_cards_48 (by decide) ?_
  refine lv_icmp_le (tgt := 56) C.1 C.2.1 dX12_cards_51 (by decide) (fun _ => ?_) (fun h => absurd (by decide) h)
  refine lv_aload_n C.1 C.2.1 dX12_cards_56 rfl (lv_at hl 3 rfl) ?_
  refine k_Vv (As := []) (rest := []) C hP hD hS hA (c_X12_gatherCards l D K a0 (((s0.set 0 (.int 0)).set 2 (.int 0))) (sl (sl n0)) (sn (by decide) (sn (by decide) e0_36)) (sn (by decide) (sn (by decide) e0_35))) X0_ok trivial (uwV m_44_18 m_44_19 m_44_20 m_1_5 m_44_21) (hdV 0 (by decide +kernel) rfl) ⟨Nat.le_of_ble_eq_true rfl, Nat.le_of_ble_eq_true rfl⟩ rfl rfl (ci := 11) rfl rfl (isC := [0]) (isR := []) (wr := []) ⟨rfl, rfl, rfl, rfl, by decide⟩ rfl hl.1 (Nat.le_of_ble_eq_true rfl) dX12_cards_57 ⟨Nat.le_of_ble_eq_true rfl, Nat.le_of_ble_eq_true rfl⟩ (fun u_3 H locs hw hP hD hS => ?_)
  have hP : va_P D vwCl [(a0, .inr (11, ((((s0.set 0 (.int 0)).set 2 (.int 0)).set 35 (.int 0)).set 36 (.int 0))))] H := hP
  have hD : va_D A [(a0, .inr (11, ((((s0.set 0 (.int 0)).set 2 (.int 0)).set 35 (.int 0)).set 36 (.int 0))))] := hD
  refine lv_iconst (v := 0) C.1 C.2.1 dX12_cards_60 (by decide) ?_
  refine lv_istore_n (lv' := [(3, .int 0), (2, .int 0), (1, .int 0), (0, .ref a0)]) C.1 C.2.1 dX12_cards_61 rfl hl (by decide) rfl (fun ls hl => ?_)
  refine lv_iload_n C.1 C.2.1 dX12_cards_62 rfl (lv_at hl 0 rfl) ?_
  refine lv_iload_n C.1 C.2.1 dX12_cards_63 rfl (lv_at hl 2 rfl) ?_
  refine lv_icmp_ge (tgt := 100) C.1 C.2.1 dX12_cards_64 (by decide) (fun _ => ?_) (fun h => absurd (by decide) h)
  refine lv_aload_n C.1 C.2.1 dX12_cards_100 rfl (lv_at hl 3 rfl) ?_
  refine k_Vi (As := []) (rest := []) C hP hD hS hA (c_X12_cardsLeft l D K a0 (((((s0.set 0 (.int 0)).set 2 (.int 0)).set 35 (.int 0)).set 36 (.int 0))) (sl (sl (sl (sl n0)))) (ss (sk (sl (sl (sl n0))) (by decide))) (sn (by decide) (ss (sk (sl (sl n0)) (by decide))))) X0_ok trivial (uwV m_44_12 m_44_13 m_44_14 m_1_5 m_44_15) (hdV 0 (by decide +kernel) rfl) ⟨Nat.le_of_ble_eq_true rfl, Nat.le_of_ble_eq_true rfl⟩ rfl rfl (ci := 11) rfl rfl (isC := [0]) (isR := []) (wr := []) ⟨rfl, rfl, rfl, rfl, by decide⟩ rfl hl.1 (Nat.le_of_ble_eq_true rfl) dX12_cards_101 ⟨Nat.le_of_ble_eq_true rfl, Nat.le_of_ble_eq_true rfl⟩ (fun r_6 u_5 H locs hw hP hD hS => ?_)
  obtain rfl := hw
  have hP : va_P D vwCl [(a0, .inr (11, ((((s0.set 0 (.int 0)).set 2 (.int 0)).set 35 (.int 0)).set 36 (.int 0))))] H := hP
  have hD : va_D A [(a0, .inr (11, ((((s0.set 0 (.int 0)).set 2 (.int 0)).set 35 (.int 0)).set 36 (.int 0))))] := hD
  exact k_iret C hr hlocks hP hD hS rfl (fun _ => 0) [] rfl rfl rfl (Nat.le_of_ble_eq_true rfl) (Nat.le_of_ble_eq_true rfl) dX12_cards_104
set_option maxHeartbeats 4000000 in
set_option maxRecDepth 100000 in
theorem c_X11_advance (l : Launch) (D : va_G) (K : Nat → ClassId) (a0 : Nat) (a1 : Nat) (s0 : List Value) (n0 : s0.length = 8) (s1 : List Value) (n1 : s1.length = 16) (x1 : Int32) (e0_4 : s0[4]? = some (.ref a1)) (e1_8 : s1[8]? = some (.int 9)) : uMet l yX11_advance cX11_advance 5 (some .int) (rmD 0 0 0) D K X0 [.ref a0, .int x1, .int 0] [(a0, .inr (10, s0)), (a1, .inr (1, s1))] (QI D K (fun (r : Int32) (u : Nat → Nat) => r = 0) (fun (u : Nat → Nat) => [(a0, .inr (10, s0)), (a1, .inr (1, s1))])) 0 0 := by
  refine k_met RX11 ⟨rfl, by decide +kernel⟩ (Nat.le_of_ble_eq_true rfl) ?_
  intro p e s m below meth c A ls C hX hr hlocks hin hA hP hD hS hl
  have hl : lv_has ls 5 [(0, .ref a0), (1, .int x1), (2, .int 0)] := hl
  refine lv_iconst (v := 0) C.1 C.2.1 dX11_advance_0 (by decide) ?_
  refine lv_istore_n (lv' := [(3, .int 0), (0, .ref a0), (1, .int x1), (2, .int 0)]) C.1 C.2.1 dX11_advance_1 rfl hl (by decide) rfl (fun ls hl => ?_)
  refine lv_iconst (v := 0) C.1 C.2.1 dX11_advance_2 (by decide) ?_
  refine lv_istore (lv' := [(4, .int 0), (3, .int 0), (0, .ref a0), (1, .int x1), (2, .int 0)]) C.1 C.2.1 dX11_advance_3 hl (by decide) rfl (fun ls hl => ?_)
  refine lv_iload C.1 C.2.1 dX11_advance_5 (lv_at hl 0 rfl) ?_
  refine lv_iconst (v := 2) C.1 C.2.1 dX11_advance_7 (by decide) ?_
  refine lv_iload_n C.1 C.2.1 dX11_advance_8 rfl (lv_at hl 3 rfl) ?_
  refine k_imul (v := (2 * x1)) C rfl dX11_advance_9 ?_
  refine lv_icmp_ge (tgt := 58) C.1 C.2.1 dX11_advance_10 (by decide) (fun c_1 => ?_) (fun c_1 => ?_)
  · refine lv_iload_n C.1 C.2.1 dX11_advance_58 rfl (lv_at hl 1 rfl) ?_
    exact k_iret C hr hlocks hP hD hS rfl (fun _ => 0) [0, 1] rfl rfl rfl (Nat.le_of_ble_eq_true rfl) (Nat.le_of_ble_eq_true rfl) dX11_advance_59
  · refine lv_iload_n C.1 C.2.1 dX11_advance_13 rfl (lv_at hl 1 rfl) ?_
    refine lv_iload_n C.1 C.2.1 dX11_advance_14 rfl (lv_at hl 3 rfl) ?_
    refine lv_icmp_ge (tgt := 58) C.1 C.2.1 dX11_advance_15 (by decide) (fun c_2 => ?_) (fun c_2 => ?_)
    · refine lv_iload_n C.1 C.2.1 dX11_advance_58 rfl (lv_at hl 1 rfl) ?_
      exact k_iret C hr hlocks hP hD hS rfl (fun _ => 0) [0, 1] rfl rfl rfl (Nat.le_of_ble_eq_true rfl) (Nat.le_of_ble_eq_true rfl) dX11_advance_59
    · refine lv_aload_n C.1 C.2.1 dX11_advance_18 rfl (lv_at hl 2 rfl) ?_
      refine k_get (v := .ref a1) C hP 0 rfl rfl inlX11 4 (by decide) m_2_9 e0_4 dX11_advance_19 ?_
      refine k_get (v := .int 9) C hP 1 rfl rfl inlX2 8 (by decide) m_45_11 e1_8 dX11_advance_22 ?_
      refine lv_if_ne (tgt := 58) C.1 C.2.1 dX11_advance_25 (by decide) (fun _ => ?_) (fun h => absurd h (by decide))
      refine lv_iload_n C.1 C.2.1 dX11_advance_58 rfl (lv_at hl 1 rfl) ?_
      exact k_iret C hr hlocks hP hD hS rfl (fun _ => 0) [0, 1] rfl rfl rfl (Nat.le_of_ble_eq_true rfl) (Nat.le_of_ble_eq_true rfl) dX11_advance_59
set_option maxHeartbeats 4000000 in
set_option maxRecDepth 100000 in
theorem t_X11_run (l : Launch) (D : va_G) (K : Nat → ClassId) (a0 : Nat) (a1 : Nat) (s0 : List Value) (n0 : s0.length = 8) (s1 : List Value) (n1 : s1.length = 16) (x1 : Int32) (e0_4 : s0[4]? = some (.ref a1)) (e1_8 : s1[8]? = some (.int 9)) : uMet l yX11_run cX11_run 2 (some .int) (rmD 1 0 0) D K X0 [.ref a0, .int x1] [(a0, .inr (10, s0)), (a1, .inr (1, s1))] (QI D K (fun (r : Int32) (u : Nat → Nat) => r = 0) (fun (u : Nat → Nat) => [])) 0 0 := by
  refine k_met RX11 ⟨rfl, by decide +kernel⟩ (Nat.le_of_ble_eq_true rfl) ?_
  intro p e s m below meth c A ls C hX hr hlocks hin hA hP hD hS hl
  have hl : lv_has ls 2 [(0, .ref a0), (1, .int x1)] := hl
  refine lv_iload_n C.1 C.2.1 dX11_run_0 rfl (lv_at hl 1 rfl) ?_
  refine lv_if_lt (tgt := 10) C.1 C.2.1 dX11_run_1 (by decide) (fun c_1 => ?_) (fun c_1 => ?_)
  · refine lv_iconst (v := 0) C.1 C.2.1 dX11_run_10 (by decide) ?_
    refine lv_goto (tgt := 20) C.1 C.2.1 dX11_run_11 (by decide) ?_
    exact k_iret C hr hlocks hP hD hS rfl (fun _ => 0) [] rfl rfl rfl (Nat.le_of_ble_eq_true rfl) (Nat.le_of_ble_eq_true rfl) dX11_run_20
  · refine lv_iload_n C.1 C.2.1 dX11_run_4 rfl (lv_at hl 1 rfl) ?_
    refine lv_ldc (v := 100000) C.1 C.2.1 C.2.2.2.1 (C.2.2.2.2.1 _ m_45_6) dX11_run_5 ?_
    refine lv_icmp_le (tgt := 14) C.1 C.2.1 dX11_run_7 (by decide) (fun c_2 => ?_) (fun c_2 => ?_)
    · refine lv_aload_n C.1 C.2.1 dX11_run_14 rfl (lv_at hl 0 rfl) ?_
      refine lv_iload_n C.1 C.2.1 dX11_run_15 rfl (lv_at hl 1 rfl) ?_
      refine lv_iconst (v := 0) C.1 C.2.1 dX11_run_16 (by decide) ?_
      refine k_Vi (As := [.int x1, .int 0]) (rest := []) C hP hD hS hA (c_X11_advance l D K a0 a1 s0 n0 s1 n1 x1 e0_4 e1_8) X0_ok trivial (uwV m_45_7 m_45_8 m_45_9 m_1_2 m_45_10) (hdV 2 (by decide +kernel) rfl) ⟨Nat.le_of_ble_eq_true rfl, Nat.le_of_ble_eq_true rfl⟩ rfl rfl (ci := 10) rfl rfl (isC := [0, 1]) (isR := []) (wr := []) ⟨rfl, rfl, rfl, rfl, by decide⟩ rfl hl.1 (Nat.le_of_ble_eq_true rfl) dX11_run_17 ⟨Nat.le_of_ble_eq_true rfl, Nat.le_of_ble_eq_true rfl⟩ (fun r_4 u_3 H locs hw hP hD hS => ?_)
      obtain rfl := hw
      have hP : va_P D vwCl [(a0, .inr (10, s0)), (a1, .inr (1, s1))] H := hP
      have hD : va_D A [(a0, .inr (10, s0)), (a1, .inr (1, s1))] := hD
      exact k_iret C hr hlocks hP hD hS rfl (fun _ => 0) [] rfl rfl rfl (Nat.le_of_ble_eq_true rfl) (Nat.le_of_ble_eq_true rfl) dX11_run_20
    · refine lv_iconst (v := 0) C.1 C.2.1 dX11_run_10 (by decide) ?_
      refine lv_goto (tgt := 20) C.1 C.2.1 dX11_run_11 (by decide) ?_
      exact k_iret C hr hlocks hP hD hS rfl (fun _ => 0) [] rfl rfl rfl (Nat.le_of_ble_eq_true rfl) (Nat.le_of_ble_eq_true rfl) dX11_run_20
set_option maxHeartbeats 4000000 in
set_option maxRecDepth 100000 in
theorem c_X12_goOn (l : Launch) (D : va_G) (K : Nat → ClassId) (a0 : Nat) (s0 : List Value) (n0 : s0.length = 94) (x1 : Int32) (e0_9 : s0[9]? = some (.int 9)) : uMet l yX12_goOn cX12_goOn 4 (some .int) (rmD 0 0 0) D K X0 [.ref a0, .int x1] [(a0, .inr (11, s0))] (QI D K (fun (r : Int32) (u : Nat → Nat) => r = 0) (fun (u : Nat → Nat) => [(a0, .inr (11, s0))])) 0 0 := by
  refine k_met RX12 ⟨rfl, by decide +kernel⟩ (Nat.le_of_ble_eq_true rfl) ?_
  intro p e s m below meth c A ls C hX hr hlocks hin hA hP hD hS hl
  have hl : lv_has ls 4 [(0, .ref a0), (1, .int x1)] := hl
  refine lv_iconst (v := 0) C.1 C.2.1 dX12_goOn_0 (by decide) ?_
  refine lv_istore_n (lv' := [(2, .int 0), (0, .ref a0), (1, .int x1)]) C.1 C.2.1 dX12_goOn_1 rfl hl (by decide) rfl (fun ls hl => ?_)
  refine lv_iload_n C.1 C.2.1 dX12_goOn_2 rfl (lv_at hl 0 rfl) ?_
  refine lv_iload_n C.1 C.2.1 dX12_goOn_3 rfl (lv_at hl 2 rfl) ?_
  refine lv_icmp_ge (tgt := 69) C.1 C.2.1 dX12_goOn_4 (by decide) (fun c_1 => ?_) (fun c_1 => ?_)
  · refine lv_iload_n C.1 C.2.1 dX12_goOn_69 rfl (lv_at hl 0 rfl) ?_
    exact k_iret C hr hlocks hP hD hS rfl (fun _ => 0) [0] rfl rfl rfl (Nat.le_of_ble_eq_true rfl) (Nat.le_of_ble_eq_true rfl) dX12_goOn_70
  · refine lv_aload_n C.1 C.2.1 dX12_goOn_7 rfl (lv_at hl 1 rfl) ?_
    refine k_get (v := .int 9) C hP 0 rfl rfl inlX12 9 (by decide) m_7_8 e0_9 dX12_goOn_8 ?_
    refine lv_if_ne (tgt := 69) C.1 C.2.1 dX12_goOn_11 (by decide) (fun _ => ?_) (fun h => absurd h (by decide))
    refine lv_iload_n C.1 C.2.1 dX12_goOn_69 rfl (lv_at hl 0 rfl) ?_
    exact k_iret C hr hlocks hP hD hS rfl (fun _ => 0) [0] rfl rfl rfl (Nat.le_of_ble_eq_true rfl) (Nat.le_of_ble_eq_true rfl) dX12_goOn_70
set_option maxHeartbeats 4000000 in
set_option maxRecDepth 100000 in
theorem t_X12_run (l : Launch) (D : va_G) (K : Nat → ClassId) (a0 : Nat) (s0 : List Value) (n0 : s0.length = 94) (x1 : Int32) (e0_9 : s0[9]? = some (.int 9)) : uMet l yX12_run cX12_run 2 (some .int) (rmD 1 0 0) D K X0 [.ref a0, .int x1] [(a0, .inr (11, s0))] (QI D K (fun (r : Int32) (u : Nat → Nat) => r = 0) (fun (u : Nat → Nat) => [])) 0 0 := by
  refine k_met RX12 ⟨rfl, by decide +kernel⟩ (Nat.le_of_ble_eq_true rfl) ?_
  intro p e s m below meth c A ls C hX hr hlocks hin hA hP hD hS hl
  have hl : lv_has ls 2 [(0, .ref a0), (1, .int x1)] := hl
  refine lv_aload_n C.1 C.2.1 dX12_run_0 rfl (lv_at hl 0 rfl) ?_
  refine lv_iconst (v := 0) C.1 C.2.1 dX12_run_1 (by decide) ?_
  refine k_put (ws' := [(a0, .inr (11, (s0.set 0 (.int 0))))]) (v := .int 0) C hP hD hS 0 rfl rfl inlX12 tyX12_ok nmX12 0 (by decide) m_9_18 rfl rfl rfl n0 rfl dX12_run_2 (fun H locs hP hD hS => ?_)
  refine lv_iload_n C.1 C.2.1 dX12_run_5 rfl (lv_at hl 1 rfl) ?_
  refine lv_if_lt (tgt := 16) C.1 C.2.1 dX12_run_6 (by decide) (fun c_1 => ?_) (fun c_1 => ?_)
  · refine lv_iconst (v := 0) C.1 C.2.1 dX12_run_16 (by decide) ?_
    refine lv_goto (tgt := 25) C.1 C.2.1 dX12_run_17 (by decide) ?_
    exact k_iret C hr hlocks hP hD hS rfl (fun _ => 0) [] rfl rfl rfl (Nat.le_of_ble_eq_true rfl) (Nat.le_of_ble_eq_true rfl) dX12_run_25
  · refine lv_iload_n C.1 C.2.1 dX12_run_9 rfl (lv_at hl 1 rfl) ?_
    refine lv_ldcw (v := 100000) C.1 C.2.1 C.2.2.2.1 (C.2.2.2.2.1 _ m_56_9) dX12_run_10 ?_
    refine lv_icmp_le (tgt := 20) C.1 C.2.1 dX12_run_13 (by decide) (fun c_2 => ?_) (fun c_2 => ?_)
    · refine lv_aload_n C.1 C.2.1 dX12_run_20 rfl (lv_at hl 0 rfl) ?_
      refine lv_iload_n C.1 C.2.1 dX12_run_21 rfl (lv_at hl 1 rfl) ?_
      refine k_Vi (As := [.int x1]) (rest := []) C hP hD hS hA (c_X12_goOn l D K a0 ((s0.set 0 (.int 0))) (sl n0) x1 (sn (by decide) e0_9)) X0_ok trivial (uwV m_56_10 m_56_11 m_56_12 m_1_5 m_56_13) (hdV 1 (by decide +kernel) rfl) ⟨Nat.le_of_ble_eq_true rfl, Nat.le_of_ble_eq_true rfl⟩ rfl rfl (ci := 11) rfl rfl (isC := [0]) (isR := []) (wr := []) ⟨rfl, rfl, rfl, rfl, by decide⟩ rfl hl.1 (Nat.le_of_ble_eq_true rfl) dX12_run_22 ⟨Nat.le_of_ble_eq_true rfl, Nat.le_of_ble_eq_true rfl⟩ (fun r_4 u_3 H locs hw hP hD hS => ?_)
      obtain rfl := hw
      have hP : va_P D vwCl [(a0, .inr (11, (s0.set 0 (.int 0))))] H := hP
      have hD : va_D A [(a0, .inr (11, (s0.set 0 (.int 0))))] := hD
      exact k_iret C hr hlocks hP hD hS rfl (fun _ => 0) [] rfl rfl rfl (Nat.le_of_ble_eq_true rfl) (Nat.le_of_ble_eq_true rfl) dX12_run_25
    · refine lv_iconst (v := 0) C.1 C.2.1 dX12_run_16 (by decide) ?_
      refine lv_goto (tgt := 25) C.1 C.2.1 dX12_run_17 (by decide) ?_
      exact k_iret C hr hlocks hP hD hS rfl (fun _ => 0) [] rfl rfl rfl (Nat.le_of_ble_eq_true rfl) (Nat.le_of_ble_eq_true rfl) dX12_run_25
set_option maxHeartbeats 4000000 in
set_option maxRecDepth 100000 in
theorem c_X6_hasCard (l : Launch) (D : va_G) (K : Nat → ClassId) (a0 : Nat) (s0 : List Value) (n0 : s0.length = 4) (e0_3 : s0[3]? = some (.int 0)) : uMet l yX6_hasCard cX6_hasCard 2 (some .boolean) (rmD 0 0 0) D K X0 [.ref a0, .int 0] [(a0, .inr (5, s0))] (QI D K (fun (r : Int32) (u : Nat → Nat) => r = 0) (fun (u : Nat → Nat) => [(a0, .inr (5, s0))])) 0 0 := by
  refine k_met RX6 ⟨rfl, by decide +kernel⟩ (Nat.le_of_ble_eq_true rfl) ?_
  intro p e s m below meth c A ls C hX hr hlocks hin hA hP hD hS hl
  have hl : lv_has ls 2 [(0, .ref a0), (1, .int 0)] := hl
  refine lv_aload_n C.1 C.2.1 dX6_hasCard_0 rfl (lv_at hl 0 rfl) ?_
  refine k_get (v := .int 0) C hP 0 rfl rfl inlX6 3 (by decide) m_44_7 e0_3 dX6_hasCard_1 ?_
  refine lv_if_le (tgt := 47) C.1 C.2.1 dX6_hasCard_4 (by decide) (fun _ => ?_) (fun h => absurd (by decide) h)
  refine lv_iconst (v := 0) C.1 C.2.1 dX6_hasCard_47 (by decide) ?_
  exact k_iret C hr hlocks hP hD hS (by decide) (fun _ => 0) [0] rfl rfl rfl (Nat.le_of_ble_eq_true rfl) (Nat.le_of_ble_eq_true rfl) dX6_hasCard_48
set_option maxHeartbeats 4000000 in
set_option maxRecDepth 100000 in
theorem t_X11_go (l : Launch) (D : va_G) (K : Nat → ClassId) (a0 : Nat) (a1 : Nat) (a2 : Nat) (s0 : List Value) (n0 : s0.length = 8) (s1 : List Value) (n1 : s1.length = 13) (s2 : List Value) (n2 : s2.length = 4) (e0_3 : s0[3]? = some (.ref a1)) (e1_9 : s1[9]? = some (.ref a2)) (e2_3 : s2[3]? = some (.int 0)) : uMet l yX11_go cX11_go 1 (some .boolean) (rmD 1 0 0) D K X0 [.ref a0] [(a0, .inr (10, s0)), (a1, .inr (9, s1)), (a2, .inr (5, s2))] (QI D K (fun (r : Int32) (u : Nat → Nat) => r = 0) (fun (u : Nat → Nat) => [])) 0 0 := by
  refine k_met RX11 ⟨rfl, by decide +kernel⟩ (Nat.le_of_ble_eq_true rfl) ?_
  intro p e s m below meth c A ls C hX hr hlocks hin hA hP hD hS hl
  have hl : lv_has ls 1 [(0, .ref a0)] := hl
  refine lv_aload_n C.1 C.2.1 dX11_go_0 rfl (lv_at hl 0 rfl) ?_
  refine k_get (v := .ref a1) C hP 0 rfl rfl inlX11 3 (by decide) m_2_8 e0_3 dX11_go_1 ?_
  refine k_get (v := .ref a2) C hP 1 rfl rfl inlX10 9 (by decide) m_43_16 e1_9 dX11_go_4 ?_
  refine lv_iconst (v := 0) C.1 C.2.1 dX11_go_7 (by decide) ?_
  refine k_Vi (As := [.int 0]) (rest := []) C hP hD hS hA (c_X6_hasCard l D K a2 s2 n2 e2_3) X0_ok trivial (uwV m_64_18 m_49_20 m_49_21 m_3_16 m_49_22) (hdV 1 (by decide +kernel) rfl) ⟨Nat.le_of_ble_eq_true rfl, Nat.le_of_ble_eq_true rfl⟩ rfl rfl (ci := 5) rfl rfl (isC := [2]) (isR := [0, 1]) (wr := [(a0, .inr (10, s0)), (a1, .inr (9, s1))]) ⟨rfl, rfl, rfl, rfl, by decide⟩ rfl hl.1 (Nat.le_of_ble_eq_true rfl) dX11_go_8 ⟨Nat.le_of_ble_eq_true rfl, Nat.le_of_ble_eq_true rfl⟩ (fun r_2 u_1 H locs hw hP hD hS => ?_)
  obtain rfl := hw
  have hP : va_P D vwCl [(a0, .inr (10, s0)), (a1, .inr (9, s1)), (a2, .inr (5, s2))] H := hP
  have hD : va_D A [(a0, .inr (10, s0)), (a1, .inr (9, s1)), (a2, .inr (5, s2))] := hD
  refine lv_if_ne (tgt := 16) C.1 C.2.1 dX11_go_11 (by decide) (fun h => absurd h (by decide)) (fun _ => ?_)
  refine lv_iconst (v := 0) C.1 C.2.1 dX11_go_14 (by decide) ?_
  exact k_iret C hr hlocks hP hD hS (by decide) (fun _ => 0) [] rfl rfl rfl (Nat.le_of_ble_eq_true rfl) (Nat.le_of_ble_eq_true rfl) dX11_go_15
set_option maxHeartbeats 4000000 in
set_option maxRecDepth 100000 in
theorem t_X12_go (l : Launch) (D : va_G) (K : Nat → ClassId) (a0 : Nat) (s0 : List Value) (n0 : s0.length = 94) (e0_36 : s0[36]? = some (.int 0)) (e0_35 : s0[35]? = some (.int 0)) : uMet l yX12_go cX12_go 2 (some .boolean) (rmD 1 0 0) D K X0 [.ref a0] [(a0, .inr (11, s0))] (QI D K (fun (r : Int32) (u : Nat → Nat) => r = 0) (fun (u : Nat → Nat) => [])) 0 0 := by
  refine k_met RX12 ⟨rfl, by decide +kernel⟩ (Nat.le_of_ble_eq_true rfl) ?_
  intro p e s m below meth c A ls C hX hr hlocks hin hA hP hD hS hl
  have hl : lv_has ls 2 [(0, .ref a0)] := hl
  refine lv_aload_n C.1 C.2.1 dX12_go_0 rfl (lv_at hl 0 rfl) ?_
  refine lv_iconst (v := 0) C.1 C.2.1 dX12_go_1 (by decide) ?_
  refine k_put (ws' := [(a0, .inr (11, (s0.set 0 (.int 0))))]) (v := .int 0) C hP hD hS 0 rfl rfl inlX12 tyX12_ok nmX12 0 (by decide) m_9_18 rfl rfl rfl n0 rfl dX12_go_2 (fun H locs hP hD hS => ?_)
  refine lv_aload_n C.1 C.2.1 dX12_go_5 rfl (lv_at hl 0 rfl) ?_
  refine k_Vi (As := []) (rest := []) C hP hD hS hA (c_X12_cardsLeft l D K a0 ((s0.set 0 (.int 0))) (sl n0) (sn (by decide) e0_36) (sn (by decide) e0_35)) X0_ok trivial (uwV m_44_12 m_44_13 m_44_14 m_1_5 m_44_15) (hdV 0 (by decide +kernel) rfl) ⟨Nat.le_of_ble_eq_true rfl, Nat.le_of_ble_eq_true rfl⟩ rfl rfl (ci := 11) rfl rfl (isC := [0]) (isR := []) (wr := []) ⟨rfl, rfl, rfl, rfl, by decide⟩ rfl hl.1 (Nat.le_of_ble_eq_true rfl) dX12_go_6 ⟨Nat.le_of_ble_eq_true rfl, Nat.le_of_ble_eq_true rfl⟩ (fun r_2 u_1 H locs hw hP hD hS => ?_)
  obtain rfl := hw
  have hP : va_P D vwCl [(a0, .inr (11, (s0.set 0 (.int 0))))] H := hP
  have hD : va_D A [(a0, .inr (11, (s0.set 0 (.int 0))))] := hD
  refine lv_if_ne (tgt := 14) C.1 C.2.1 dX12_go_9 (by decide) (fun h => absurd h (by decide)) (fun _ => ?_)
  refine lv_iconst (v := 0) C.1 C.2.1 dX12_go_12 (by decide) ?_
  exact k_iret C hr hlocks hP hD hS (by decide) (fun _ => 0) [] rfl rfl rfl (Nat.le_of_ble_eq_true rfl) (Nat.le_of_ble_eq_true rfl) dX12_go_13
set_option maxHeartbeats 4000000 in
set_option maxRecDepth 100000 in
theorem t_X11_deck (l : Launch) (D : va_G) (K : Nat → ClassId) (a0 : Nat) (a1 : Nat) (s0 : List Value) (n0 : s0.length = 8) (s1 : List Value) (n1 : s1.length = 20) (e0_5 : s0[5]? = some (.ref a1)) (e1_19 : s1[19]? = some (.int 0)) : uMet l yX11_deck cX11_deck 1 (some .int) (rmD 0 0 0) D K X0 [.ref a0] [(a0, .inr (10, s0)), (a1, .inr (0, s1))] (QI D K (fun (r : Int32) (u : Nat → Nat) => r = (-1)) (fun (u : Nat → Nat) => [])) 0 0 := by
  refine k_met RX11 ⟨rfl, by decide +kernel⟩ (Nat.le_of_ble_eq_true rfl) ?_
  intro p e s m below meth c A ls C hX hr hlocks hin hA hP hD hS hl
  have hl : lv_has ls 1 [(0, .ref a0)] := hl
  refine lv_aload_n C.1 C.2.1 dX11_deck_0 rfl (lv_at hl 0 rfl) ?_
  refine k_get (v := .ref a1) C hP 0 rfl rfl inlX11 5 (by decide) m_2_10 e0_5 dX11_deck_1 ?_
  refine k_get (v := .int 0) C hP 1 rfl rfl inlX0 19 (by decide) m_64_16 e1_19 dX11_deck_4 ?_
  refine lv_if_eq (tgt := 20) C.1 C.2.1 dX11_deck_7 (by decide) (fun _ => ?_) (fun h => absurd (by decide) h)
  refine lv_iconst (v := (-1)) C.1 C.2.1 dX11_deck_20 (by decide) ?_
  exact k_iret C hr hlocks hP hD hS rfl (fun _ => 0) [] rfl rfl rfl (Nat.le_of_ble_eq_true rfl) (Nat.le_of_ble_eq_true rfl) dX11_deck_21
set_option maxHeartbeats 4000000 in
set_option maxRecDepth 100000 in
theorem t_X12_deck (l : Launch) (D : va_G) (K : Nat → ClassId) (a0 : Nat) (s0 : List Value) (n0 : s0.length = 94) (e0_42 : s0[42]? = some (.int 0)) : uMet l yX12_deck cX12_deck 1 (some .int) (rmD 0 0 0) D K X0 [.ref a0] [(a0, .inr (11, s0))] (QI D K (fun (r : Int32) (u : Nat → Nat) => r = (-1)) (fun (u : Nat → Nat) => [])) 0 0 := by
  refine k_met RX12 ⟨rfl, by decide +kernel⟩ (Nat.le_of_ble_eq_true rfl) ?_
  intro p e s m below meth c A ls C hX hr hlocks hin hA hP hD hS hl
  have hl : lv_has ls 1 [(0, .ref a0)] := hl
  refine lv_aload_n C.1 C.2.1 dX12_deck_0 rfl (lv_at hl 0 rfl) ?_
  refine lv_iconst (v := 0) C.1 C.2.1 dX12_deck_1 (by decide) ?_
  refine k_put (ws' := [(a0, .inr (11, (s0.set 0 (.int 0))))]) (v := .int 0) C hP hD hS 0 rfl rfl inlX12 tyX12_ok nmX12 0 (by decide) m_9_18 rfl rfl rfl n0 rfl dX12_deck_2 (fun H locs hP hD hS => ?_)
  refine lv_aload_n C.1 C.2.1 dX12_deck_5 rfl (lv_at hl 0 rfl) ?_
  refine k_get (v := .int 0) C hP 0 rfl rfl inlX12 42 (by decide) m_29_16 (sn (by decide) e0_42) dX12_deck_6 ?_
  refine lv_if_eq (tgt := 19) C.1 C.2.1 dX12_deck_9 (by decide) (fun _ => ?_) (fun h => absurd (by decide) h)
  refine lv_iconst (v := (-1)) C.1 C.2.1 dX12_deck_19 (by decide) ?_
  exact k_iret C hr hlocks hP hD hS rfl (fun _ => 0) [] rfl rfl rfl (Nat.le_of_ble_eq_true rfl) (Nat.le_of_ble_eq_true rfl) dX12_deck_20
set_option maxHeartbeats 4000000 in
set_option maxRecDepth 100000 in
theorem t_X11_list (l : Launch) (D : va_G) (K : Nat → ClassId) (a0 : Nat) (a1 : Nat) (s0 : List Value) (n0 : s0.length = 8) (s1 : List Value) (n1 : s1.length = 20) (e0_5 : s0[5]? = some (.ref a1)) (e1_19 : s1[19]? = some (.int 0)) : uMet l yX11_list cX11_list 1 (some .int) (rmD 0 0 0) D K X0 [.ref a0] [(a0, .inr (10, s0)), (a1, .inr (0, s1))] (QI D K (fun (r : Int32) (u : Nat → Nat) => r = (-1)) (fun (u : Nat → Nat) => [])) 0 0 := by
  refine k_met RX11 ⟨rfl, by decide +kernel⟩ (Nat.le_of_ble_eq_true rfl) ?_
  intro p e s m below meth c A ls C hX hr hlocks hin hA hP hD hS hl
  have hl : lv_has ls 1 [(0, .ref a0)] := hl
  refine lv_aload_n C.1 C.2.1 dX11_list_0 rfl (lv_at hl 0 rfl) ?_
  refine k_get (v := .ref a1) C hP 0 rfl rfl inlX11 5 (by decide) m_2_10 e0_5 dX11_list_1 ?_
  refine k_get (v := .int 0) C hP 1 rfl rfl inlX0 19 (by decide) m_64_16 e1_19 dX11_list_4 ?_
  refine lv_if_eq (tgt := 23) C.1 C.2.1 dX11_list_7 (by decide) (fun _ => ?_) (fun h => absurd (by decide) h)
  refine lv_iconst (v := (-1)) C.1 C.2.1 dX11_list_23 (by decide) ?_
  exact k_iret C hr hlocks hP hD hS rfl (fun _ => 0) [] rfl rfl rfl (Nat.le_of_ble_eq_true rfl) (Nat.le_of_ble_eq_true rfl) dX11_list_24
set_option maxHeartbeats 4000000 in
set_option maxRecDepth 100000 in
theorem t_X12_list (l : Launch) (D : va_G) (K : Nat → ClassId) (a0 : Nat) (s0 : List Value) (n0 : s0.length = 94) (e0_42 : s0[42]? = some (.int 0)) : uMet l yX12_list cX12_list 1 (some .int) (rmD 0 0 0) D K X0 [.ref a0] [(a0, .inr (11, s0))] (QI D K (fun (r : Int32) (u : Nat → Nat) => r = (-1)) (fun (u : Nat → Nat) => [])) 0 0 := by
  refine k_met RX12 ⟨rfl, by decide +kernel⟩ (Nat.le_of_ble_eq_true rfl) ?_
  intro p e s m below meth c A ls C hX hr hlocks hin hA hP hD hS hl
  have hl : lv_has ls 1 [(0, .ref a0)] := hl
  refine lv_aload_n C.1 C.2.1 dX12_list_0 rfl (lv_at hl 0 rfl) ?_
  refine lv_iconst (v := 0) C.1 C.2.1 dX12_list_1 (by decide) ?_
  refine k_put (ws' := [(a0, .inr (11, (s0.set 0 (.int 0))))]) (v := .int 0) C hP hD hS 0 rfl rfl inlX12 tyX12_ok nmX12 0 (by decide) m_9_18 rfl rfl rfl n0 rfl dX12_list_2 (fun H locs hP hD hS => ?_)
  refine lv_aload_n C.1 C.2.1 dX12_list_5 rfl (lv_at hl 0 rfl) ?_
  refine k_get (v := .int 0) C hP 0 rfl rfl inlX12 42 (by decide) m_29_16 (sn (by decide) e0_42) dX12_list_6 ?_
  refine lv_if_eq (tgt := 19) C.1 C.2.1 dX12_list_9 (by decide) (fun _ => ?_) (fun h => absurd (by decide) h)
  refine lv_iconst (v := (-1)) C.1 C.2.1 dX12_list_19 (by decide) ?_
  exact k_iret C hr hlocks hP hD hS rfl (fun _ => 0) [] rfl rfl rfl (Nat.le_of_ble_eq_true rfl) (Nat.le_of_ble_eq_true rfl) dX12_list_20
set_option maxHeartbeats 4000000 in
set_option maxRecDepth 100000 in
theorem t_X11_listing (l : Launch) (D : va_G) (K : Nat → ClassId) (a0 : Nat) (a1 : Nat) (s0 : List Value) (n0 : s0.length = 8) (s1 : List Value) (n1 : s1.length = 20) (e0_5 : s0[5]? = some (.ref a1)) (e1_19 : s1[19]? = some (.int 0)) : uMet l yX11_listing cX11_listing 1 (some .int) (rmD 0 0 0) D K X0 [.ref a0] [(a0, .inr (10, s0)), (a1, .inr (0, s1))] (QI D K (fun (r : Int32) (u : Nat → Nat) => r = (-1)) (fun (u : Nat → Nat) => [])) 0 0 := by
  refine k_met RX11 ⟨rfl, by decide +kernel⟩ (Nat.le_of_ble_eq_true rfl) ?_
  intro p e s m below meth c A ls C hX hr hlocks hin hA hP hD hS hl
  have hl : lv_has ls 1 [(0, .ref a0)] := hl
  refine lv_aload_n C.1 C.2.1 dX11_listing_0 rfl (lv_at hl 0 rfl) ?_
  refine k_get (v := .ref a1) C hP 0 rfl rfl inlX11 5 (by decide) m_2_10 e0_5 dX11_listing_1 ?_
  refine k_get (v := .int 0) C hP 1 rfl rfl inlX0 19 (by decide) m_64_16 e1_19 dX11_listing_4 ?_
  refine lv_if_eq (tgt := 20) C.1 C.2.1 dX11_listing_7 (by decide) (fun _ => ?_) (fun h => absurd (by decide) h)
  refine lv_iconst (v := (-1)) C.1 C.2.1 dX11_listing_20 (by decide) ?_
  exact k_iret C hr hlocks hP hD hS rfl (fun _ => 0) [] rfl rfl rfl (Nat.le_of_ble_eq_true rfl) (Nat.le_of_ble_eq_true rfl) dX11_listing_21
set_option maxHeartbeats 4000000 in
set_option maxRecDepth 100000 in
theorem t_X12_listing (l : Launch) (D : va_G) (K : Nat → ClassId) (a0 : Nat) (s0 : List Value) (n0 : s0.length = 94) (e0_42 : s0[42]? = some (.int 0)) : uMet l yX12_listing cX12_listing 2 (some .int) (rmD 0 0 0) D K X0 [.ref a0] [(a0, .inr (11, s0))] (QI D K (fun (r : Int32) (u : Nat → Nat) => r = (-1)) (fun (u : Nat → Nat) => [])) 0 0 := by
  refine k_met RX12 ⟨rfl, by decide +kernel⟩ (Nat.le_of_ble_eq_true rfl) ?_
  intro p e s m below meth c A ls C hX hr hlocks hin hA hP hD hS hl
  have hl : lv_has ls 2 [(0, .ref a0)] := hl
  refine lv_aload_n C.1 C.2.1 dX12_listing_0 rfl (lv_at hl 0 rfl) ?_
  refine lv_iconst (v := 0) C.1 C.2.1 dX12_listing_1 (by decide) ?_
  refine k_put (ws' := [(a0, .inr (11, (s0.set 0 (.int 0))))]) (v := .int 0) C hP hD hS 0 rfl rfl inlX12 tyX12_ok nmX12 0 (by decide) m_9_18 rfl rfl rfl n0 rfl dX12_listing_2 (fun H locs hP hD hS => ?_)
  refine lv_aload_n C.1 C.2.1 dX12_listing_5 rfl (lv_at hl 0 rfl) ?_
  refine k_get (v := .int 0) C hP 0 rfl rfl inlX12 42 (by decide) m_29_16 (sn (by decide) e0_42) dX12_listing_6 ?_
  refine lv_if_ne (tgt := 14) C.1 C.2.1 dX12_listing_9 (by decide) (fun h => absurd h (by decide)) (fun _ => ?_)
  refine lv_iconst (v := (-1)) C.1 C.2.1 dX12_listing_12 (by decide) ?_
  exact k_iret C hr hlocks hP hD hS rfl (fun _ => 0) [] rfl rfl rfl (Nat.le_of_ble_eq_true rfl) (Nat.le_of_ble_eq_true rfl) dX12_listing_13
set_option maxHeartbeats 4000000 in
set_option maxRecDepth 100000 in
theorem t_X11_names (l : Launch) (D : va_G) (K : Nat → ClassId) (a0 : Nat) (a1 : Nat) (s0 : List Value) (n0 : s0.length = 8) (s1 : List Value) (n1 : s1.length = 20) (e0_5 : s0[5]? = some (.ref a1)) (e1_19 : s1[19]? = some (.int 0)) : uMet l yX11_names cX11_names 1 (some .int) (rmD 0 0 0) D K X0 [.ref a0] [(a0, .inr (10, s0)), (a1, .inr (0, s1))] (QI D K (fun (r : Int32) (u : Nat → Nat) => r = (-1)) (fun (u : Nat → Nat) => [])) 0 0 := by
  refine k_met RX11 ⟨rfl, by decide +kernel⟩ (Nat.le_of_ble_eq_true rfl) ?_
  intro p e s m below meth c A ls C hX hr hlocks hin hA hP hD hS hl
  have hl : lv_has ls 1 [(0, .ref a0)] := hl
  refine lv_aload_n C.1 C.2.1 dX11_names_0 rfl (lv_at hl 0 rfl) ?_
  refine k_get (v := .ref a1) C hP 0 rfl rfl inlX11 5 (by decide) m_2_10 e0_5 dX11_names_1 ?_
  refine k_get (v := .int 0) C hP 1 rfl rfl inlX0 19 (by decide) m_64_16 e1_19 dX11_names_4 ?_
  refine lv_if_eq (tgt := 24) C.1 C.2.1 dX11_names_7 (by decide) (fun _ => ?_) (fun h => absurd (by decide) h)
  refine lv_iconst (v := (-1)) C.1 C.2.1 dX11_names_24 (by decide) ?_
  exact k_iret C hr hlocks hP hD hS rfl (fun _ => 0) [] rfl rfl rfl (Nat.le_of_ble_eq_true rfl) (Nat.le_of_ble_eq_true rfl) dX11_names_25
set_option maxHeartbeats 4000000 in
set_option maxRecDepth 100000 in
theorem t_X12_names (l : Launch) (D : va_G) (K : Nat → ClassId) (a0 : Nat) (s0 : List Value) (n0 : s0.length = 94) (e0_42 : s0[42]? = some (.int 0)) : uMet l yX12_names cX12_names 1 (some .int) (rmD 0 0 0) D K X0 [.ref a0] [(a0, .inr (11, s0))] (QI D K (fun (r : Int32) (u : Nat → Nat) => r = (-1)) (fun (u : Nat → Nat) => [])) 0 0 := by
  refine k_met RX12 ⟨rfl, by decide +kernel⟩ (Nat.le_of_ble_eq_true rfl) ?_
  intro p e s m below meth c A ls C hX hr hlocks hin hA hP hD hS hl
  have hl : lv_has ls 1 [(0, .ref a0)] := hl
  refine lv_aload_n C.1 C.2.1 dX12_names_0 rfl (lv_at hl 0 rfl) ?_
  refine lv_iconst (v := 0) C.1 C.2.1 dX12_names_1 (by decide) ?_
  refine k_put (ws' := [(a0, .inr (11, (s0.set 0 (.int 0))))]) (v := .int 0) C hP hD hS 0 rfl rfl inlX12 tyX12_ok nmX12 0 (by decide) m_9_18 rfl rfl rfl n0 rfl dX12_names_2 (fun H locs hP hD hS => ?_)
  refine lv_aload_n C.1 C.2.1 dX12_names_5 rfl (lv_at hl 0 rfl) ?_
  refine k_get (v := .int 0) C hP 0 rfl rfl inlX12 42 (by decide) m_29_16 (sn (by decide) e0_42) dX12_names_6 ?_
  refine lv_if_eq (tgt := 21) C.1 C.2.1 dX12_names_9 (by decide) (fun _ => ?_) (fun h => absurd (by decide) h)
  refine lv_iconst (v := (-1)) C.1 C.2.1 dX12_names_21 (by decide) ?_
  exact k_iret C hr hlocks hP hD hS rfl (fun _ => 0) [] rfl rfl rfl (Nat.le_of_ble_eq_true rfl) (Nat.le_of_ble_eq_true rfl) dX12_names_22
set_option maxHeartbeats 4000000 in
set_option maxRecDepth 100000 in
theorem c_X11_advance_2 (l : Launch) (D : va_G) (K : Nat → ClassId) (a0 : Nat) (a1 : Nat) (s0 : List Value) (n0 : s0.length = 8) (s1 : List Value) (n1 : s1.length = 16) (x1 : Int32) (e0_4 : s0[4]? = some (.ref a1)) (e1_8 : s1[8]? = some (.int 9)) : uMet l yX11_advance cX11_advance 5 (some .int) (rmD 0 0 0) D K X0 [.ref a0, .int x1, .int 1] [(a0, .inr (10, s0)), (a1, .inr (1, s1))] (QI D K (fun (r : Int32) (u : Nat → Nat) => r = 0) (fun (u : Nat → Nat) => [(a0, .inr (10, s0)), (a1, .inr (1, s1))])) 0 0 := by
  refine k_met RX11 ⟨rfl, by decide +kernel⟩ (Nat.le_of_ble_eq_true rfl) ?_
  intro p e s m below meth c A ls C hX hr hlocks hin hA hP hD hS hl
  have hl : lv_has ls 5 [(0, .ref a0), (1, .int x1), (2, .int 1)] := hl
  refine lv_iconst (v := 0) C.1 C.2.1 dX11_advance_0 (by decide) ?_
  refine lv_istore_n (lv' := [(3, .int 0), (0, .ref a0), (1, .int x1), (2, .int 1)]) C.1 C.2.1 dX11_advance_1 rfl hl (by decide) rfl (fun ls hl => ?_)
  refine lv_iconst (v := 0) C.1 C.2.1 dX11_advance_2 (by decide) ?_
  refine lv_istore (lv' := [(4, .int 0), (3, .int 0), (0, .ref a0), (1, .int x1), (2, .int 1)]) C.1 C.2.1 dX11_advance_3 hl (by decide) rfl (fun ls hl => ?_)
  refine lv_iload C.1 C.2.1 dX11_advance_5 (lv_at hl 0 rfl) ?_
  refine lv_iconst (v := 2) C.1 C.2.1 dX11_advance_7 (by decide) ?_
  refine lv_iload_n C.1 C.2.1 dX11_advance_8 rfl (lv_at hl 3 rfl) ?_
  refine k_imul (v := (2 * x1)) C rfl dX11_advance_9 ?_
  refine lv_icmp_ge (tgt := 58) C.1 C.2.1 dX11_advance_10 (by decide) (fun c_1 => ?_) (fun c_1 => ?_)
  · refine lv_iload_n C.1 C.2.1 dX11_advance_58 rfl (lv_at hl 1 rfl) ?_
    exact k_iret C hr hlocks hP hD hS rfl (fun _ => 0) [0, 1] rfl rfl rfl (Nat.le_of_ble_eq_true rfl) (Nat.le_of_ble_eq_true rfl) dX11_advance_59
  · refine lv_iload_n C.1 C.2.1 dX11_advance_13 rfl (lv_at hl 1 rfl) ?_
    refine lv_iload_n C.1 C.2.1 dX11_advance_14 rfl (lv_at hl 3 rfl) ?_
    refine lv_icmp_ge (tgt := 58) C.1 C.2.1 dX11_advance_15 (by decide) (fun c_2 => ?_) (fun c_2 => ?_)
    · refine lv_iload_n C.1 C.2.1 dX11_advance_58 rfl (lv_at hl 1 rfl) ?_
      exact k_iret C hr hlocks hP hD hS rfl (fun _ => 0) [0, 1] rfl rfl rfl (Nat.le_of_ble_eq_true rfl) (Nat.le_of_ble_eq_true rfl) dX11_advance_59
    · refine lv_aload_n C.1 C.2.1 dX11_advance_18 rfl (lv_at hl 2 rfl) ?_
      refine k_get (v := .ref a1) C hP 0 rfl rfl inlX11 4 (by decide) m_2_9 e0_4 dX11_advance_19 ?_
      refine k_get (v := .int 9) C hP 1 rfl rfl inlX2 8 (by decide) m_45_11 e1_8 dX11_advance_22 ?_
      refine lv_if_ne (tgt := 58) C.1 C.2.1 dX11_advance_25 (by decide) (fun _ => ?_) (fun h => absurd h (by decide))
      refine lv_iload_n C.1 C.2.1 dX11_advance_58 rfl (lv_at hl 1 rfl) ?_
      exact k_iret C hr hlocks hP hD hS rfl (fun _ => 0) [0, 1] rfl rfl rfl (Nat.le_of_ble_eq_true rfl) (Nat.le_of_ble_eq_true rfl) dX11_advance_59
set_option maxHeartbeats 4000000 in
set_option maxRecDepth 100000 in
theorem t_X11_trace (l : Launch) (D : va_G) (K : Nat → ClassId) (a0 : Nat) (a1 : Nat) (s0 : List Value) (n0 : s0.length = 8) (s1 : List Value) (n1 : s1.length = 16) (x1 : Int32) (e0_4 : s0[4]? = some (.ref a1)) (e1_8 : s1[8]? = some (.int 9)) : uMet l yX11_trace cX11_trace 2 (some .int) (rmD 1 0 0) D K X0 [.ref a0, .int x1] [(a0, .inr (10, s0)), (a1, .inr (1, s1))] (QI D K (fun (r : Int32) (u : Nat → Nat) => r = 0) (fun (u : Nat → Nat) => [])) 0 0 := by
  refine k_met RX11 ⟨rfl, by decide +kernel⟩ (Nat.le_of_ble_eq_true rfl) ?_
  intro p e s m below meth c A ls C hX hr hlocks hin hA hP hD hS hl
  have hl : lv_has ls 2 [(0, .ref a0), (1, .int x1)] := hl
  refine lv_iload_n C.1 C.2.1 dX11_trace_0 rfl (lv_at hl 1 rfl) ?_
  refine lv_if_lt (tgt := 11) C.1 C.2.1 dX11_trace_1 (by decide) (fun c_1 => ?_) (fun c_1 => ?_)
  · refine lv_iconst (v := 0) C.1 C.2.1 dX11_trace_11 (by decide) ?_
    refine lv_goto (tgt := 21) C.1 C.2.1 dX11_trace_12 (by decide) ?_
    exact k_iret C hr hlocks hP hD hS rfl (fun _ => 0) [] rfl rfl rfl (Nat.le_of_ble_eq_true rfl) (Nat.le_of_ble_eq_true rfl) dX11_trace_21
  · refine lv_iload_n C.1 C.2.1 dX11_trace_4 rfl (lv_at hl 1 rfl) ?_
    refine lv_sipush (v := 300) C.1 C.2.1 dX11_trace_5 (by decide) ?_
    refine lv_icmp_le (tgt := 15) C.1 C.2.1 dX11_trace_8 (by decide) (fun c_2 => ?_) (fun c_2 => ?_)
    · refine lv_aload_n C.1 C.2.1 dX11_trace_15 rfl (lv_at hl 0 rfl) ?_
      refine lv_iload_n C.1 C.2.1 dX11_trace_16 rfl (lv_at hl 1 rfl) ?_
      refine lv_iconst (v := 1) C.1 C.2.1 dX11_trace_17 (by decide) ?_
      refine k_Vi (As := [.int x1, .int 1]) (rest := []) C hP hD hS hA (c_X11_advance_2 l D K a0 a1 s0 n0 s1 n1 x1 e0_4 e1_8) X0_ok trivial (uwV m_45_7 m_45_8 m_45_9 m_1_2 m_45_10) (hdV 2 (by decide +kernel) rfl) ⟨Nat.le_of_ble_eq_true rfl, Nat.le_of_ble_eq_true rfl⟩ rfl rfl (ci := 10) rfl rfl (isC := [0, 1]) (isR := []) (wr := []) ⟨rfl, rfl, rfl, rfl, by decide⟩ rfl hl.1 (Nat.le_of_ble_eq_true rfl) dX11_trace_18 ⟨Nat.le_of_ble_eq_true rfl, Nat.le_of_ble_eq_true rfl⟩ (fun r_4 u_3 H locs hw hP hD hS => ?_)
      obtain rfl := hw
      have hP : va_P D vwCl [(a0, .inr (10, s0)), (a1, .inr (1, s1))] H := hP
      have hD : va_D A [(a0, .inr (10, s0)), (a1, .inr (1, s1))] := hD
      exact k_iret C hr hlocks hP hD hS rfl (fun _ => 0) [] rfl rfl rfl (Nat.le_of_ble_eq_true rfl) (Nat.le_of_ble_eq_true rfl) dX11_trace_21
    · refine lv_iconst (v := 0) C.1 C.2.1 dX11_trace_11 (by decide) ?_
      refine lv_goto (tgt := 21) C.1 C.2.1 dX11_trace_12 (by decide) ?_
      exact k_iret C hr hlocks hP hD hS rfl (fun _ => 0) [] rfl rfl rfl (Nat.le_of_ble_eq_true rfl) (Nat.le_of_ble_eq_true rfl) dX11_trace_21
set_option maxHeartbeats 4000000 in
set_option maxRecDepth 100000 in
theorem t_X12_trace (l : Launch) (D : va_G) (K : Nat → ClassId) (a0 : Nat) (s0 : List Value) (n0 : s0.length = 94) (x1 : Int32) (e0_9 : s0[9]? = some (.int 9)) : uMet l yX12_trace cX12_trace 3 (some .int) (rmD 1 0 0) D K X0 [.ref a0, .int x1] [(a0, .inr (11, s0))] (QI D K (fun (r : Int32) (u : Nat → Nat) => r = 0) (fun (u : Nat → Nat) => [])) 0 0 := by
  refine k_met RX12 ⟨rfl, by decide +kernel⟩ (Nat.le_of_ble_eq_true rfl) ?_
  intro p e s m below meth c A ls C hX hr hlocks hin hA hP hD hS hl
  have hl : lv_has ls 3 [(0, .ref a0), (1, .int x1)] := hl
  refine lv_aload_n C.1 C.2.1 dX12_trace_0 rfl (lv_at hl 0 rfl) ?_
  refine lv_iconst (v := 0) C.1 C.2.1 dX12_trace_1 (by decide) ?_
  refine k_put (ws' := [(a0, .inr (11, (s0.set 0 (.int 0))))]) (v := .int 0) C hP hD hS 0 rfl rfl inlX12 tyX12_ok nmX12 0 (by decide) m_9_18 rfl rfl rfl n0 rfl dX12_trace_2 (fun H locs hP hD hS => ?_)
  refine lv_iload_n C.1 C.2.1 dX12_trace_5 rfl (lv_at hl 1 rfl) ?_
  refine lv_if_lt (tgt := 16) C.1 C.2.1 dX12_trace_6 (by decide) (fun c_1 => ?_) (fun c_1 => ?_)
  · refine lv_iconst (v := 0) C.1 C.2.1 dX12_trace_16 (by decide) ?_
    exact k_iret C hr hlocks hP hD hS rfl (fun _ => 0) [] rfl rfl rfl (Nat.le_of_ble_eq_true rfl) (Nat.le_of_ble_eq_true rfl) dX12_trace_17
  · refine lv_iload_n C.1 C.2.1 dX12_trace_9 rfl (lv_at hl 1 rfl) ?_
    refine lv_sipush (v := 300) C.1 C.2.1 dX12_trace_10 (by decide) ?_
    refine lv_icmp_le (tgt := 18) C.1 C.2.1 dX12_trace_13 (by decide) (fun c_2 => ?_) (fun c_2 => ?_)
    · refine lv_aload_n C.1 C.2.1 dX12_trace_18 rfl (lv_at hl 0 rfl) ?_
      refine lv_iload_n C.1 C.2.1 dX12_trace_19 rfl (lv_at hl 1 rfl) ?_
      refine k_put (ws' := [(a0, .inr (11, ((s0.set 0 (.int 0)).set 91 (.int x1))))]) (v := .int x1) C hP hD hS 0 rfl rfl inlX12 tyX12_ok nmX12 91 (by decide) m_30_3 rfl rfl rfl (sl n0) rfl dX12_trace_20 (fun H locs hP hD hS => ?_)
      refine lv_aload_n C.1 C.2.1 dX12_trace_23 rfl (lv_at hl 0 rfl) ?_
      refine lv_iload_n C.1 C.2.1 dX12_trace_24 rfl (lv_at hl 1 rfl) ?_
      refine k_Vi (As := [.int x1]) (rest := []) C hP hD hS hA (c_X12_goOn l D K a0 (((s0.set 0 (.int 0)).set 91 (.int x1))) (sl (sl n0)) x1 (sn (by decide) (sn (by decide) e0_9))) X0_ok trivial (uwV m_56_10 m_56_11 m_56_12 m_1_5 m_56_13) (hdV 1 (by decide +kernel) rfl) ⟨Nat.le_of_ble_eq_true rfl, Nat.le_of_ble_eq_true rfl⟩ rfl rfl (ci := 11) rfl rfl (isC := [0]) (isR := []) (wr := []) ⟨rfl, rfl, rfl, rfl, by decide⟩ rfl hl.1 (Nat.le_of_ble_eq_true rfl) dX12_trace_25 ⟨Nat.le_of_ble_eq_true rfl, Nat.le_of_ble_eq_true rfl⟩ (fun r_4 u_3 H locs hw hP hD hS => ?_)
      obtain rfl := hw
      have hP : va_P D vwCl [(a0, .inr (11, ((s0.set 0 (.int 0)).set 91 (.int x1))))] H := hP
      have hD : va_D A [(a0, .inr (11, ((s0.set 0 (.int 0)).set 91 (.int x1))))] := hD
      refine lv_istore_n (lv' := [(2, .int 0), (0, .ref a0), (1, .int x1)]) C.1 C.2.1 dX12_trace_28 rfl hl (by decide) rfl (fun ls hl => ?_)
      refine lv_aload_n C.1 C.2.1 dX12_trace_29 rfl (lv_at hl 1 rfl) ?_
      refine lv_iconst (v := 0) C.1 C.2.1 dX12_trace_30 (by decide) ?_
      refine k_put (ws' := [(a0, .inr (11, (((s0.set 0 (.int 0)).set 91 (.int x1)).set 91 (.int 0))))]) (v := .int 0) C hP hD hS 0 rfl rfl inlX12 tyX12_ok nmX12 91 (by decide) m_30_3 rfl rfl rfl (sl (sl n0)) rfl dX12_trace_31 (fun H locs hP hD hS => ?_)
      refine lv_iload_n C.1 C.2.1 dX12_trace_34 rfl (lv_at hl 0 rfl) ?_
      exact k_iret C hr hlocks hP hD hS rfl (fun _ => 0) [] rfl rfl rfl (Nat.le_of_ble_eq_true rfl) (Nat.le_of_ble_eq_true rfl) dX12_trace_35
    · refine lv_iconst (v := 0) C.1 C.2.1 dX12_trace_16 (by decide) ?_
      exact k_iret C hr hlocks hP hD hS rfl (fun _ => 0) [] rfl rfl rfl (Nat.le_of_ble_eq_true rfl) (Nat.le_of_ble_eq_true rfl) dX12_trace_17
set_option maxHeartbeats 4000000 in
set_option maxRecDepth 100000 in
theorem t_X11_mount (l : Launch) (D : va_G) (K : Nat → ClassId) (a0 : Nat) (s0 : List Value) (n0 : s0.length = 8) (x1 : Int32) (x2 : Int32) (e0_1 : s0[1]? = some (.int 0)) : uMet l yX11_mount cX11_mount 7 (some .int) (rmD 1 0 0) D K X0 [.ref a0, .int x1, .int x2] [(a0, .inr (10, s0))] (QI D K (fun (r : Int32) (u : Nat → Nat) => ((x1 < 0) ∧ r = (-1)) ∨ ((¬ x1 < 0) ∧ (16 ≤ x1) ∧ r = (-1)) ∨ ((¬ x1 < 0) ∧ (¬ 16 ≤ x1) ∧ (x2 < 0) ∧ r = (-1)) ∨ ((¬ x1 < 0) ∧ (¬ 16 ≤ x1) ∧ (¬ x2 < 0) ∧ (64 ≤ x2) ∧ r = (-1)) ∨ ((¬ x1 < 0) ∧ (¬ 16 ≤ x1) ∧ (¬ x2 < 0) ∧ (¬ 64 ≤ x2) ∧ r = 0)) (fun (u : Nat → Nat) => [])) 0 0 := by
  refine k_met RX11 ⟨rfl, by decide +kernel⟩ (Nat.le_of_ble_eq_true rfl) ?_
  intro p e s m below meth c A ls C hX hr hlocks hin hA hP hD hS hl
  have hl : lv_has ls 7 [(0, .ref a0), (1, .int x1), (2, .int x2)] := hl
  refine lv_aload_n C.1 C.2.1 dX11_mount_0 rfl (lv_at hl 0 rfl) ?_
  refine k_Vi (As := []) (rest := []) C hP hD hS hA (c_X11_useUpTape l D K a0 s0 n0 e0_1) X0_ok trivial (uwV m_10_20 m_10_21 m_10_22 m_1_2 m_10_23) (hdV 0 (by decide +kernel) rfl) ⟨Nat.le_of_ble_eq_true rfl, Nat.le_of_ble_eq_true rfl⟩ rfl rfl (ci := 10) rfl rfl (isC := [0]) (isR := []) (wr := []) ⟨rfl, rfl, rfl, rfl, by decide⟩ rfl hl.1 (Nat.le_of_ble_eq_true rfl) dX11_mount_1 ⟨Nat.le_of_ble_eq_true rfl, Nat.le_of_ble_eq_true rfl⟩ (fun r_2 u_1 H locs hw hP hD hS => ?_)
  obtain rfl := hw
  have hP : va_P D vwCl [(a0, .inr (10, (s0.set 1 (.int 0))))] H := hP
  have hD : va_D A [(a0, .inr (10, (s0.set 1 (.int 0))))] := hD
  refine lv_istore_n (lv' := [(3, .int 0), (0, .ref a0), (1, .int x1), (2, .int x2)]) C.1 C.2.1 dX11_mount_4 rfl hl (by decide) rfl (fun ls hl => ?_)
  refine lv_iload_n C.1 C.2.1 dX11_mount_5 rfl (lv_at hl 0 rfl) ?_
  refine lv_iconst (v := 4) C.1 C.2.1 dX11_mount_6 (by decide) ?_
  refine k_iadd (v := 4) C (by decide) dX11_mount_7 ?_
  refine lv_iconst (v := 5) C.1 C.2.1 dX11_mount_8 (by decide) ?_
  refine k_idiv (v := 0) C (by decide) (by decide) dX11_mount_9 ?_
  refine lv_istore (lv' := [(4, .int 0), (3, .int 0), (0, .ref a0), (1, .int x1), (2, .int x2)]) C.1 C.2.1 dX11_mount_10 hl (by decide) rfl (fun ls hl => ?_)
  refine lv_iload C.1 C.2.1 dX11_mount_12 (lv_at hl 0 rfl) ?_
  refine lv_bipush (v := 100) C.1 C.2.1 dX11_mount_14 (by decide) ?_
  refine k_iadd (v := 100) C (by decide) dX11_mount_16 ?_
  refine lv_iconst (v := 1) C.1 C.2.1 dX11_mount_17 (by decide) ?_
  refine k_isub (v := 99) C (by decide) dX11_mount_18 ?_
  refine lv_bipush (v := 100) C.1 C.2.1 dX11_mount_19 (by decide) ?_
  refine k_idiv (v := 0) C (by decide) (by decide) dX11_mount_21 ?_
  refine lv_istore (lv' := [(5, .int 0), (4, .int 0), (3, .int 0), (0, .ref a0), (1, .int x1), (2, .int x2)]) C.1 C.2.1 dX11_mount_22 hl (by decide) rfl (fun ls hl => ?_)
  refine lv_iload_n C.1 C.2.1 dX11_mount_24 rfl (lv_at hl 4 rfl) ?_
  refine lv_if_lt (tgt := 53) C.1 C.2.1 dX11_mount_25 (by decide) (fun c_3 => ?_) (fun c_3 => ?_)
  · refine lv_iconst (v := (-1)) C.1 C.2.1 dX11_mount_53 (by decide) ?_
    exact k_iret C hr hlocks hP hD hS rfl (fun _ => 0) [] rfl rfl (Or.inl ⟨c_3, rfl⟩) (Nat.le_of_ble_eq_true rfl) (Nat.le_of_ble_eq_true rfl) dX11_mount_54
  · refine lv_iload_n C.1 C.2.1 dX11_mount_28 rfl (lv_at hl 4 rfl) ?_
    refine lv_bipush (v := 16) C.1 C.2.1 dX11_mount_29 (by decide) ?_
    refine lv_icmp_ge (tgt := 53) C.1 C.2.1 dX11_mount_31 (by decide) (fun c_4 => ?_) (fun c_4 => ?_)
    · refine lv_iconst (v := (-1)) C.1 C.2.1 dX11_mount_53 (by decide) ?_
      exact k_iret C hr hlocks hP hD hS rfl (fun _ => 0) [] rfl rfl (Or.inr (Or.inl ⟨c_3, c_4, rfl⟩)) (Nat.le_of_ble_eq_true rfl) (Nat.le_of_ble_eq_true rfl) dX11_mount_54
    · refine lv_iload_n C.1 C.2.1 dX11_mount_34 rfl (lv_at hl 5 rfl) ?_
      refine lv_if_lt (tgt := 53) C.1 C.2.1 dX11_mount_35 (by decide) (fun c_5 => ?_) (fun c_5 => ?_)
      · refine lv_iconst (v := (-1)) C.1 C.2.1 dX11_mount_53 (by decide) ?_
        exact k_iret C hr hlocks hP hD hS rfl (fun _ => 0) [] rfl rfl (Or.inr (Or.inr (Or.inl ⟨c_3, c_4, c_5, rfl⟩))) (Nat.le_of_ble_eq_true rfl) (Nat.le_of_ble_eq_true rfl) dX11_mount_54
      · refine lv_iload_n C.1 C.2.1 dX11_mount_38 rfl (lv_at hl 5 rfl) ?_
        refine lv_bipush (v := 64) C.1 C.2.1 dX11_mount_39 (by decide) ?_
        refine lv_icmp_ge (tgt := 53) C.1 C.2.1 dX11_mount_41 (by decide) (fun c_6 => ?_) (fun c_6 => ?_)
        · refine lv_iconst (v := (-1)) C.1 C.2.1 dX11_mount_53 (by decide) ?_
          exact k_iret C hr hlocks hP hD hS rfl (fun _ => 0) [] rfl rfl (Or.inr (Or.inr (Or.inr (Or.inl ⟨c_3, c_4, c_5, c_6, rfl⟩)))) (Nat.le_of_ble_eq_true rfl) (Nat.le_of_ble_eq_true rfl) dX11_mount_54
        · refine lv_iload_n C.1 C.2.1 dX11_mount_44 rfl (lv_at hl 5 rfl) ?_
          refine lv_iload C.1 C.2.1 dX11_mount_45 (lv_at hl 0 rfl) ?_
          refine k_iadd (v := (x2 + 0)) C rfl dX11_mount_47 ?_
          refine lv_bipush (v := 64) C.1 C.2.1 dX11_mount_48 (by decide) ?_
          refine lv_icmp_le (tgt := 55) C.1 C.2.1 dX11_mount_50 (by decide) (fun _ => ?_) (fun h => absurd (by simp only [Int32.lt_iff_toInt_lt, Int32.le_iff_toInt_le, ← Int32.toInt_inj] at c_3 c_4 c_5 c_6 ⊢; have k0 : (0 : Int32).toInt = 0 := (by decide); have k1 : (16 : Int32).toInt = 16 := (by decide); have k2 : (64 : Int32).toInt = 64 := (by decide); have k3 := ti_iadd (x := x2) (y := 0) (by omega) (by omega); omega) h)
          refine lv_iconst (v := 0) C.1 C.2.1 dX11_mount_55 (by decide) ?_
          refine lv_istore (lv' := [(6, .int 0), (5, .int 0), (4, .int 0), (3, .int 0), (0, .ref a0), (1, .int x1), (2, .int x2)]) C.1 C.2.1 dX11_mount_56 hl (by decide) rfl (fun ls hl => ?_)
          refine lv_iload C.1 C.2.1 dX11_mount_58 (lv_at hl 0 rfl) ?_
          refine lv_iload C.1 C.2.1 dX11_mount_60 (lv_at hl 1 rfl) ?_
          refine lv_bipush (v := 100) C.1 C.2.1 dX11_mount_62 (by decide) ?_
          refine k_imul (v := 0) C (by decide) dX11_mount_64 ?_
          refine lv_icmp_ge (tgt := 98) C.1 C.2.1 dX11_mount_65 (by decide) (fun _ => ?_) (fun h => absurd (by decide) h)
          refine lv_iload C.1 C.2.1 dX11_mount_98 (lv_at hl 1 rfl) ?_
          exact k_iret C hr hlocks hP hD hS rfl (fun _ => 0) [] rfl rfl (Or.inr (Or.inr (Or.inr (Or.inr ⟨c_3, c_4, c_5, c_6, rfl⟩)))) (Nat.le_of_ble_eq_true rfl) (Nat.le_of_ble_eq_true rfl) dX11_mount_100
set_option maxHeartbeats 4000000 in
set_option maxRecDepth 100000 in
theorem t_X12_mount (l : Launch) (D : va_G) (K : Nat → ClassId) (a0 : Nat) (s0 : List Value) (n0 : s0.length = 94) (x1 : Int32) (x2 : Int32) (e0_2 : s0[2]? = some (.int 0)) : uMet l yX12_mount cX12_mount 10 (some .int) (rmD 0 0 0) D K X0 [.ref a0, .int x1, .int x2] [(a0, .inr (11, s0))] (QI D K (fun (r : Int32) (u : Nat → Nat) => ((x1 < 0) ∧ r = (-1)) ∨ ((¬ x1 < 0) ∧ (16 ≤ x1) ∧ r = (-1)) ∨ ((¬ x1 < 0) ∧ (¬ 16 ≤ x1) ∧ (x2 < 0) ∧ r = (-1)) ∨ ((¬ x1 < 0) ∧ (¬ 16 ≤ x1) ∧ (¬ x2 < 0) ∧ (64 ≤ x2) ∧ r = (-1)) ∨ ((¬ x1 < 0) ∧ (¬ 16 ≤ x1) ∧ (¬ x2 < 0) ∧ (¬ 64 ≤ x2) ∧ r = 0)) (fun (u : Nat → Nat) => [])) 0 0 := by
  refine k_met RX12 ⟨rfl, by decide +kernel⟩ (Nat.le_of_ble_eq_true rfl) ?_
  intro p e s m below meth c A ls C hX hr hlocks hin hA hP hD hS hl
  have hl : lv_has ls 10 [(0, .ref a0), (1, .int x1), (2, .int x2)] := hl
  refine lv_aload_n C.1 C.2.1 dX12_mount_0 rfl (lv_at hl 0 rfl) ?_
  refine lv_iconst (v := 0) C.1 C.2.1 dX12_mount_1 (by decide) ?_
  refine k_put (ws' := [(a0, .inr (11, (s0.set 0 (.int 0))))]) (v := .int 0) C hP hD hS 0 rfl rfl inlX12 tyX12_ok nmX12 0 (by decide) m_9_18 rfl rfl rfl n0 rfl dX12_mount_2 (fun H locs hP hD hS => ?_)
  refine lv_aload_n C.1 C.2.1 dX12_mount_5 rfl (lv_at hl 0 rfl) ?_
  refine k_get (v := .int 0) C hP 0 rfl rfl inlX12 2 (by decide) m_9_19 (sn (by decide) e0_2) dX12_mount_6 ?_
  refine lv_iconst (v := 4) C.1 C.2.1 dX12_mount_9 (by decide) ?_
  refine k_iadd (v := 4) C (by decide) dX12_mount_10 ?_
  refine lv_iconst (v := 5) C.1 C.2.1 dX12_mount_11 (by decide) ?_
  refine k_idiv (v := 0) C (by decide) (by decide) dX12_mount_12 ?_
  refine lv_istore_n (lv' := [(3, .int 0), (0, .ref a0), (1, .int x1), (2, .int x2)]) C.1 C.2.1 dX12_mount_13 rfl hl (by decide) rfl (fun ls hl => ?_)
  refine lv_iload_n C.1 C.2.1 dX12_mount_14 rfl (lv_at hl 0 rfl) ?_
  refine lv_bipush (v := 99) C.1 C.2.1 dX12_mount_15 (by decide) ?_
  refine k_iadd (v := 99) C (by decide) dX12_mount_17 ?_
  refine lv_bipush (v := 100) C.1 C.2.1 dX12_mount_18 (by decide) ?_
  refine k_idiv (v := 0) C (by decide) (by decide) dX12_mount_20 ?_
  refine lv_istore (lv' := [(4, .int 0), (3, .int 0), (0, .ref a0), (1, .int x1), (2, .int x2)]) C.1 C.2.1 dX12_mount_21 hl (by decide) rfl (fun ls hl => ?_)
  refine lv_iload_n C.1 C.2.1 dX12_mount_23 rfl (lv_at hl 3 rfl) ?_
  refine lv_if_lt (tgt := 47) C.1 C.2.1 dX12_mount_24 (by decide) (fun c_1 => ?_) (fun c_1 => ?_)
  · refine lv_iconst (v := 0) C.1 C.2.1 dX12_mount_47 (by decide) ?_
    refine lv_istore (lv' := [(5, .int 0), (4, .int 0), (3, .int 0), (0, .ref a0), (1, .int x1), (2, .int x2)]) C.1 C.2.1 dX12_mount_48 hl (by decide) rfl (fun ls hl => ?_)
    refine lv_aload_n C.1 C.2.1 dX12_mount_50 rfl (lv_at hl 3 rfl) ?_
    refine k_get (v := .int 0) C hP 0 rfl rfl inlX12 2 (by decide) m_9_19 (sn (by decide) e0_2) dX12_mount_51 ?_
    refine lv_istore (lv' := [(6, .int 0), (5, .int 0), (4, .int 0), (3, .int 0), (0, .ref a0), (1, .int x1), (2, .int x2)]) C.1 C.2.1 dX12_mount_54 hl (by decide) rfl (fun ls hl => ?_)
    refine lv_aload_n C.1 C.2.1 dX12_mount_56 rfl (lv_at hl 4 rfl) ?_
    refine lv_iconst (v := 0) C.1 C.2.1 dX12_mount_57 (by decide) ?_
    refine k_put (ws' := [(a0, .inr (11, ((s0.set 0 (.int 0)).set 2 (.int 0))))]) (v := .int 0) C hP hD hS 0 rfl rfl inlX12 tyX12_ok nmX12 2 (by decide) m_9_19 rfl rfl rfl (sl n0) rfl dX12_mount_58 (fun H locs hP hD hS => ?_)
    refine lv_iload C.1 C.2.1 dX12_mount_61 (lv_at hl 1 rfl) ?_
    refine lv_if_eq (tgt := 75) C.1 C.2.1 dX12_mount_63 (by decide) (fun _ => ?_) (fun h => absurd (by decide) h)
    refine lv_iconst (v := (-1)) C.1 C.2.1 dX12_mount_75 (by decide) ?_
    exact k_iret C hr hlocks hP hD hS rfl (fun _ => 0) [] rfl rfl (Or.inl ⟨c_1, rfl⟩) (Nat.le_of_ble_eq_true rfl) (Nat.le_of_ble_eq_true rfl) dX12_mount_76
  · refine lv_iload_n C.1 C.2.1 dX12_mount_27 rfl (lv_at hl 3 rfl) ?_
    refine lv_bipush (v := 16) C.1 C.2.1 dX12_mount_28 (by decide) ?_
    refine lv_icmp_ge (tgt := 47) C.1 C.2.1 dX12_mount_30 (by decide) (fun c_2 => ?_) (fun c_2 => ?_)
    · refine lv_iconst (v := 0) C.1 C.2.1 dX12_mount_47 (by decide) ?_
      refine lv_istore (lv' := [(5, .int 0), (4, .int 0), (3, .int 0), (0, .ref a0), (1, .int x1), (2, .int x2)]) C.1 C.2.1 dX12_mount_48 hl (by decide) rfl (fun ls hl => ?_)
      refine lv_aload_n C.1 C.2.1 dX12_mount_50 rfl (lv_at hl 3 rfl) ?_
      refine k_get (v := .int 0) C hP 0 rfl rfl inlX12 2 (by decide) m_9_19 (sn (by decide) e0_2) dX12_mount_51 ?_
      refine lv_istore (lv' := [(6, .int 0), (5, .int 0), (4, .int 0), (3, .int 0), (0, .ref a0), (1, .int x1), (2, .int x2)]) C.1 C.2.1 dX12_mount_54 hl (by decide) rfl (fun ls hl => ?_)
      refine lv_aload_n C.1 C.2.1 dX12_mount_56 rfl (lv_at hl 4 rfl) ?_
      refine lv_iconst (v := 0) C.1 C.2.1 dX12_mount_57 (by decide) ?_
      refine k_put (ws' := [(a0, .inr (11, ((s0.set 0 (.int 0)).set 2 (.int 0))))]) (v := .int 0) C hP hD hS 0 rfl rfl inlX12 tyX12_ok nmX12 2 (by decide) m_9_19 rfl rfl rfl (sl n0) rfl dX12_mount_58 (fun H locs hP hD hS => ?_)
      refine lv_iload C.1 C.2.1 dX12_mount_61 (lv_at hl 1 rfl) ?_
      refine lv_if_eq (tgt := 75) C.1 C.2.1 dX12_mount_63 (by decide) (fun _ => ?_) (fun h => absurd (by decide) h)
      refine lv_iconst (v := (-1)) C.1 C.2.1 dX12_mount_75 (by decide) ?_
      exact k_iret C hr hlocks hP hD hS rfl (fun _ => 0) [] rfl rfl (Or.inr (Or.inl ⟨c_1, c_2, rfl⟩)) (Nat.le_of_ble_eq_true rfl) (Nat.le_of_ble_eq_true rfl) dX12_mount_76
    · refine lv_iload_n C.1 C.2.1 dX12_mount_33 rfl (lv_at hl 4 rfl) ?_
      refine lv_if_lt (tgt := 47) C.1 C.2.1 dX12_mount_34 (by decide) (fun c_3 => ?_) (fun c_3 => ?_)
      · refine lv_iconst (v := 0) C.1 C.2.1 dX12_mount_47 (by decide) ?_
        refine lv_istore (lv' := [(5, .int 0), (4, .int 0), (3, .int 0), (0, .ref a0), (1, .int x1), (2, .int x2)]) C.1 C.2.1 dX12_mount_48 hl (by decide) rfl (fun ls hl => ?_)
        refine lv_aload_n C.1 C.2.1 dX12_mount_50 rfl (lv_at hl 3 rfl) ?_
        refine k_get (v := .int 0) C hP 0 rfl rfl inlX12 2 (by decide) m_9_19 (sn (by decide) e0_2) dX12_mount_51 ?_
        refine lv_istore (lv' := [(6, .int 0), (5, .int 0), (4, .int 0), (3, .int 0), (0, .ref a0), (1, .int x1), (2, .int x2)]) C.1 C.2.1 dX12_mount_54 hl (by decide) rfl (fun ls hl => ?_)
        refine lv_aload_n C.1 C.2.1 dX12_mount_56 rfl (lv_at hl 4 rfl) ?_
        refine lv_iconst (v := 0) C.1 C.2.1 dX12_mount_57 (by decide) ?_
        refine k_put (ws' := [(a0, .inr (11, ((s0.set 0 (.int 0)).set 2 (.int 0))))]) (v := .int 0) C hP hD hS 0 rfl rfl inlX12 tyX12_ok nmX12 2 (by decide) m_9_19 rfl rfl rfl (sl n0) rfl dX12_mount_58 (fun H locs hP hD hS => ?_)
        refine lv_iload C.1 C.2.1 dX12_mount_61 (lv_at hl 1 rfl) ?_
        refine lv_if_eq (tgt := 75) C.1 C.2.1 dX12_mount_63 (by decide) (fun _ => ?_) (fun h => absurd (by decide) h)
        refine lv_iconst (v := (-1)) C.1 C.2.1 dX12_mount_75 (by decide) ?_
        exact k_iret C hr hlocks hP hD hS rfl (fun _ => 0) [] rfl rfl (Or.inr (Or.inr (Or.inl ⟨c_1, c_2, c_3, rfl⟩))) (Nat.le_of_ble_eq_true rfl) (Nat.le_of_ble_eq_true rfl) dX12_mount_76
      · refine lv_iload_n C.1 C.2.1 dX12_mount_37 rfl (lv_at hl 4 rfl) ?_
        refine lv_bipush (v := 64) C.1 C.2.1 dX12_mount_38 (by decide) ?_
        refine lv_icmp_ge (tgt := 47) C.1 C.2.1 dX12_mount_40 (by decide) (fun c_4 => ?_) (fun c_4 => ?_)
        · refine lv_iconst (v := 0) C.1 C.2.1 dX12_mount_47 (by decide) ?_
          refine lv_istore (lv' := [(5, .int 0), (4, .int 0), (3, .int 0), (0, .ref a0), (1, .int x1), (2, .int x2)]) C.1 C.2.1 dX12_mount_48 hl (by decide) rfl (fun ls hl => ?_)
          refine lv_aload_n C.1 C.2.1 dX12_mount_50 rfl (lv_at hl 3 rfl) ?_
          refine k_get (v := .int 0) C hP 0 rfl rfl inlX12 2 (by decide) m_9_19 (sn (by decide) e0_2) dX12_mount_51 ?_
          refine lv_istore (lv' := [(6, .int 0), (5, .int 0), (4, .int 0), (3, .int 0), (0, .ref a0), (1, .int x1), (2, .int x2)]) C.1 C.2.1 dX12_mount_54 hl (by decide) rfl (fun ls hl => ?_)
          refine lv_aload_n C.1 C.2.1 dX12_mount_56 rfl (lv_at hl 4 rfl) ?_
          refine lv_iconst (v := 0) C.1 C.2.1 dX12_mount_57 (by decide) ?_
          refine k_put (ws' := [(a0, .inr (11, ((s0.set 0 (.int 0)).set 2 (.int 0))))]) (v := .int 0) C hP hD hS 0 rfl rfl inlX12 tyX12_ok nmX12 2 (by decide) m_9_19 rfl rfl rfl (sl n0) rfl dX12_mount_58 (fun H locs hP hD hS => ?_)
          refine lv_iload C.1 C.2.1 dX12_mount_61 (lv_at hl 1 rfl) ?_
          refine lv_if_eq (tgt := 75) C.1 C.2.1 dX12_mount_63 (by decide) (fun _ => ?_) (fun h => absurd (by decide) h)
          refine lv_iconst (v := (-1)) C.1 C.2.1 dX12_mount_75 (by decide) ?_
          exact k_iret C hr hlocks hP hD hS rfl (fun _ => 0) [] rfl rfl (Or.inr (Or.inr (Or.inr (Or.inl ⟨c_1, c_2, c_3, c_4, rfl⟩)))) (Nat.le_of_ble_eq_true rfl) (Nat.le_of_ble_eq_true rfl) dX12_mount_76
        · refine lv_iconst (v := 1) C.1 C.2.1 dX12_mount_43 (by decide) ?_
          refine lv_goto (tgt := 48) C.1 C.2.1 dX12_mount_44 (by decide) ?_
          refine lv_istore (lv' := [(5, .int 1), (4, .int 0), (3, .int 0), (0, .ref a0), (1, .int x1), (2, .int x2)]) C.1 C.2.1 dX12_mount_48 hl (by decide) rfl (fun ls hl => ?_)
          refine lv_aload_n C.1 C.2.1 dX12_mount_50 rfl (lv_at hl 3 rfl) ?_
          refine k_get (v := .int 0) C hP 0 rfl rfl inlX12 2 (by decide) m_9_19 (sn (by decide) e0_2) dX12_mount_51 ?_
          refine lv_istore (lv' := [(6, .int 0), (5, .int 1), (4, .int 0), (3, .int 0), (0, .ref a0), (1, .int x1), (2, .int x2)]) C.1 C.2.1 dX12_mount_54 hl (by decide) rfl (fun ls hl => ?_)
          refine lv_aload_n C.1 C.2.1 dX12_mount_56 rfl (lv_at hl 4 rfl) ?_
          refine lv_iconst (v := 0) C.1 C.2.1 dX12_mount_57 (by decide) ?_
          refine k_put (ws' := [(a0, .inr (11, ((s0.set 0 (.int 0)).set 2 (.int 0))))]) (v := .int 0) C hP hD hS 0 rfl rfl inlX12 tyX12_ok nmX12 2 (by decide) m_9_19 rfl rfl rfl (sl n0) rfl dX12_mount_58 (fun H locs hP hD hS => ?_)
          refine lv_iload C.1 C.2.1 dX12_mount_61 (lv_at hl 1 rfl) ?_
          refine lv_if_eq (tgt := 75) C.1 C.2.1 dX12_mount_63 (by decide) (fun h => absurd h (by decide)) (fun _ => ?_)
          refine lv_iload_n C.1 C.2.1 dX12_mount_66 rfl (lv_at hl 6 rfl) ?_
          refine lv_iload C.1 C.2.1 dX12_mount_67 (lv_at hl 2 rfl) ?_
          refine k_iadd (v := (x2 + 0)) C rfl dX12_mount_69 ?_
          refine lv_bipush (v := 64) C.1 C.2.1 dX12_mount_70 (by decide) ?_
          refine lv_icmp_le (tgt := 77) C.1 C.2.1 dX12_mount_72 (by decide) (fun _ => ?_) (fun h => absurd (by simp only [Int32.lt_iff_toInt_lt, Int32.le_iff_toInt_le, ← Int32.toInt_inj] at c_1 c_2 c_3 c_4 ⊢; have k0 : (0 : Int32).toInt = 0 := (by decide); have k1 : (16 : Int32).toInt = 16 := (by decide); have k2 : (64 : Int32).toInt = 64 := (by decide); have k3 := ti_iadd (x := x2) (y := 0) (by omega) (by omega); omega) h)
          refine lv_iconst (v := 0) C.1 C.2.1 dX12_mount_77 (by decide) ?_
          refine lv_istore (lv' := [(7, .int 0), (6, .int 0), (5, .int 1), (4, .int 0), (3, .int 0), (0, .ref a0), (1, .int x1), (2, .int x2)]) C.1 C.2.1 dX12_mount_78 hl (by decide) rfl (fun ls hl => ?_)
          refine lv_iload C.1 C.2.1 dX12_mount_80 (lv_at hl 0 rfl) ?_
          refine lv_bipush (v := 100) C.1 C.2.1 dX12_mount_82 (by decide) ?_
          refine lv_iload C.1 C.2.1 dX12_mount_84 (lv_at hl 3 rfl) ?_
          refine k_imul (v := 0) C (by decide) dX12_mount_86 ?_
          refine lv_icmp_ge (tgt := 177) C.1 C.2.1 dX12_mount_87 (by decide) (fun _ => ?_) (fun h => absurd (by decide) h)
          refine lv_iload C.1 C.2.1 dX12_mount_177 (lv_at hl 3 rfl) ?_
          exact k_iret C hr hlocks hP hD hS rfl (fun _ => 0) [] rfl rfl (Or.inr (Or.inr (Or.inr (Or.inr ⟨c_1, c_2, c_3, c_4, rfl⟩)))) (Nat.le_of_ble_eq_true rfl) (Nat.le_of_ble_eq_true rfl) dX12_mount_179
set_option maxHeartbeats 4000000 in
set_option maxRecDepth 100000 in
theorem c_X3_seek (l : Launch) (D : va_G) (K : Nat → ClassId) (a0 : Nat) (a1 : Nat) (s0 : List Value) (n0 : s0.length = 16) (s1 : List Value) (n1 : s1.length = 8) (e0_0 : s0[0]? = some (.ref a1)) (e1_5 : s1[5]? = some (.int 0)) (e1_4 : s1[4]? = some (.int 0)) (e1_7 : s1[7]? = some (.int 0)) : uMet l yX3_seek cX3_seek 3 (some .boolean) (rmD 1 0 0) D K X0 [.ref a0] [(a0, .inr (2, s0)), (a1, .inr (8, s1))] (QI D K (fun (r : Int32) (u : Nat → Nat) => r = 0) (fun (u : Nat → Nat) => [(a0, .inr (2, s0)), (a1, .inr (8, (s1.set 5 (.int 1))))])) 0 0 := by
  refine k_met RX3 ⟨rfl, by decide +kernel⟩ (Nat.le_of_ble_eq_true rfl) ?_
  intro p e s m below meth c A ls C hX hr hlocks hin hA hP hD hS hl
  have hl : lv_has ls 3 [(0, .ref a0)] := hl
  refine lv_iconst (v := 0) C.1 C.2.1 dX3_seek_0 (by decide) ?_
  refine lv_istore_n (lv' := [(1, .int 0), (0, .ref a0)]) C.1 C.2.1 dX3_seek_1 rfl hl (by decide) rfl (fun ls hl => ?_)
  refine lv_iconst (v := 0) C.1 C.2.1 dX3_seek_2 (by decide) ?_
  refine lv_istore_n (lv' := [(2, .int 0), (1, .int 0), (0, .ref a0)]) C.1 C.2.1 dX3_seek_3 rfl hl (by decide) rfl (fun ls hl => ?_)
  refine lv_iload_n C.1 C.2.1 dX3_seek_4 rfl (lv_at hl 0 rfl) ?_
  refine lv_sipush (v := 8192) C.1 C.2.1 dX3_seek_5 (by decide) ?_
  refine lv_icmp_gt (tgt := 101) C.1 C.2.1 dX3_seek_8 (by decide) (fun h => absurd h (by decide)) (fun _ => ?_)
  refine lv_aload_n C.1 C.2.1 dX3_seek_11 rfl (lv_at hl 2 rfl) ?_
  refine k_get (v := .ref a1) C hP 0 rfl rfl inlX3 0 (by decide) m_6_23 e0_0 dX3_seek_12 ?_
  refine k_Vi (As := []) (rest := []) C hP hD hS hA (c_X9_advance l D K a1 s1 n1 e1_5 e1_4 e1_7) X0_ok trivial (uwV m_71_18 m_13_19 m_13_20 m_1_17 m_13_21) (hdV 0 (by decide +kernel) rfl) ⟨Nat.le_of_ble_eq_true rfl, Nat.le_of_ble_eq_true rfl⟩ rfl rfl (ci := 8) rfl rfl (isC := [1]) (isR := [0]) (wr := [(a0, .inr (2, s0))]) ⟨rfl, rfl, rfl, rfl, by decide⟩ rfl hl.1 (Nat.le_of_ble_eq_true rfl) dX3_seek_15 ⟨Nat.le_of_ble_eq_true rfl, Nat.le_of_ble_eq_true rfl⟩ (fun r_2 u_1 H locs hw hP hD hS => ?_)
  obtain rfl := hw
  have hP : va_P D vwCl [(a0, .inr (2, s0)), (a1, .inr (8, (s1.set 5 (.int 1))))] H := hP
  have hD : va_D A [(a0, .inr (2, s0)), (a1, .inr (8, (s1.set 5 (.int 1))))] := hD
  refine lv_if_eq (tgt := 101) C.1 C.2.1 dX3_seek_18 (by decide) (fun _ => ?_) (fun h => absurd (by decide) h)
  refine lv_iconst (v := 0) C.1 C.2.1 dX3_seek_101 (by decide) ?_
  exact k_iret C hr hlocks hP hD hS (by decide) (fun _ => 0) [0, 1] rfl rfl rfl (Nat.le_of_ble_eq_true rfl) (Nat.le_of_ble_eq_true rfl) dX3_seek_102
set_option maxHeartbeats 4000000 in
set_option maxRecDepth 100000 in
theorem t_X11_jobs (l : Launch) (D : va_G) (K : Nat → ClassId) (a0 : Nat) (a1 : Nat) (a2 : Nat) (a3 : Nat) (s0 : List Value) (n0 : s0.length = 8) (s1 : List Value) (n1 : s1.length = 16) (s2 : List Value) (n2 : s2.length = 8) (f3 : Nat → Int32) (e0_1 : s0[1]? = some (.int 0)) (e0_7 : s0[7]? = some (.ref a1)) (e1_0 : s1[0]? = some (.ref a2)) (e2_0 : s2[0]? = some (.ref a3)) : uMet l yX11_jobs cX11_jobs 5 (some .int) (rmD 2 0 0) D K X0 [.ref a0] [(a0, .inr (10, s0)), (a1, .inr (2, s1)), (a2, .inr (8, s2)), (a3, .inl (K 2, 8192, .inl f3))] (QI D K (fun (r : Int32) (u : Nat → Nat) => r = 0) (fun (u : Nat → Nat) => [])) 0 0 := by
  refine k_met RX11 ⟨rfl, by decide +kernel⟩ (Nat.le_of_ble_eq_true rfl) ?_
  intro p e s m below meth c A ls C hX hr hlocks hin hA hP hD hS hl
  have hl : lv_has ls 5 [(0, .ref a0)] := hl
  refine lv_aload_n C.1 C.2.1 dX11_jobs_0 rfl (lv_at hl 0 rfl) ?_
  refine k_Vi (As := []) (rest := []) C hP hD hS hA (c_X11_useUpTape l D K a0 s0 n0 e0_1) X0_ok trivial (uwV m_10_20 m_10_21 m_10_22 m_1_2 m_10_23) (hdV 0 (by decide +kernel) rfl) ⟨Nat.le_of_ble_eq_true rfl, Nat.le_of_ble_eq_true rfl⟩ rfl rfl (ci := 10) rfl rfl (isC := [0]) (isR := [1, 2, 3]) (wr := [(a1, .inr (2, s1)), (a2, .inr (8, s2)), (a3, .inl (K 2, 8192, .inl f3))]) ⟨rfl, rfl, rfl, rfl, by decide⟩ rfl hl.1 (Nat.le_of_ble_eq_true rfl) dX11_jobs_1 ⟨Nat.le_of_ble_eq_true rfl, Nat.le_of_ble_eq_true rfl⟩ (fun r_2 u_1 H locs hw hP hD hS => ?_)
  obtain rfl := hw
  have hP : va_P D vwCl [(a1, .inr (2, s1)), (a2, .inr (8, s2)), (a3, .inl (K 2, 8192, .inl f3)), (a0, .inr (10, (s0.set 1 (.int 0))))] H := hP
  have hD : va_D A [(a1, .inr (2, s1)), (a2, .inr (8, s2)), (a3, .inl (K 2, 8192, .inl f3)), (a0, .inr (10, (s0.set 1 (.int 0))))] := hD
  refine lv_istore_n (lv' := [(1, .int 0), (0, .ref a0)]) C.1 C.2.1 dX11_jobs_4 rfl hl (by decide) rfl (fun ls hl => ?_)
  refine lv_aload_n C.1 C.2.1 dX11_jobs_5 rfl (lv_at hl 1 rfl) ?_
  refine k_get (v := .ref a1) C hP 3 rfl rfl inlX11 7 (by decide) m_2_18 (sn (by decide) e0_7) dX11_jobs_6 ?_
  refine k_get (v := .ref a2) C hP 0 rfl rfl inlX3 0 (by decide) m_43_15 e1_0 dX11_jobs_9 ?_
  refine lv_iconst (v := 0) C.1 C.2.1 dX11_jobs_12 (by decide) ?_
  refine lv_iload_n C.1 C.2.1 dX11_jobs_13 rfl (lv_at hl 0 rfl) ?_
  refine k_Vv (As := [.int 0, .int 0]) (rest := []) C hP hD hS hA (c_X9_open l D K a2 a3 s2 n2 f3 e2_0) X0_ok trivial (uwV m_43_18 m_12_10 m_12_11 m_1_17 m_12_12) (hdV 2 (by decide +kernel) rfl) ⟨Nat.le_of_ble_eq_true rfl, Nat.le_of_ble_eq_true rfl⟩ rfl rfl (ci := 8) rfl rfl (isC := [1, 2]) (isR := [0, 3]) (wr := [(a1, .inr (2, s1)), (a0, .inr (10, (s0.set 1 (.int 0))))]) ⟨rfl, rfl, rfl, rfl, by decide⟩ rfl hl.1 (Nat.le_of_ble_eq_true rfl) dX11_jobs_14 ⟨Nat.le_of_ble_eq_true rfl, Nat.le_of_ble_eq_true rfl⟩ (fun u_3 H locs hw hP hD hS => ?_)
  have hP : va_P D vwCl [(a1, .inr (2, s1)), (a0, .inr (10, (s0.set 1 (.int 0)))), (a2, .inr (8, ((((s2.set 6 (.int 0)).set 7 (.int 0)).set 4 (.int 0)).set 5 (.int 0)))), (a3, .inl (K 2, 8192, .inl f3))] H := hP
  have hD : va_D A [(a1, .inr (2, s1)), (a0, .inr (10, (s0.set 1 (.int 0)))), (a2, .inr (8, ((((s2.set 6 (.int 0)).set 7 (.int 0)).set 4 (.int 0)).set 5 (.int 0)))), (a3, .inl (K 2, 8192, .inl f3))] := hD
  refine lv_iconst (v := 0) C.1 C.2.1 dX11_jobs_17 (by decide) ?_
  refine lv_istore_n (lv' := [(2, .int 0), (1, .int 0), (0, .ref a0)]) C.1 C.2.1 dX11_jobs_18 rfl hl (by decide) rfl (fun ls hl => ?_)
  refine lv_iconst (v := 0) C.1 C.2.1 dX11_jobs_19 (by decide) ?_
  refine lv_istore_n (lv' := [(3, .int 0), (2, .int 0), (1, .int 0), (0, .ref a0)]) C.1 C.2.1 dX11_jobs_20 rfl hl (by decide) rfl (fun ls hl => ?_)
  refine lv_iload_n C.1 C.2.1 dX11_jobs_21 rfl (lv_at hl 0 rfl) ?_
  refine lv_sipush (v := 512) C.1 C.2.1 dX11_jobs_22 (by decide) ?_
  refine lv_icmp_ge (tgt := 159) C.1 C.2.1 dX11_jobs_25 (by decide) (fun h => absurd h (by decide)) (fun _ => ?_)
  refine lv_aload_n C.1 C.2.1 dX11_jobs_28 rfl (lv_at hl 3 rfl) ?_
  refine k_get (v := .ref a1) C hP 1 rfl rfl inlX11 7 (by decide) m_2_18 (sn (by decide) e0_7) dX11_jobs_29 ?_
  refine k_Vi (As := []) (rest := []) C hP hD hS hA (c_X3_seek l D K a1 a2 s1 n1 (((((s2.set 6 (.int 0)).set 7 (.int 0)).set 4 (.int 0)).set 5 (.int 0))) (sl (sl (sl (sl n2)))) e1_0 (ss (sk (sl (sl (sl n2))) (by decide))) (sn (by decide) (ss (sk (sl (sl n2)) (by decide)))) (sn (by decide) (sn (by decide) (ss (sk (sl n2) (by decide)))))) X0_ok trivial (uwV m_71_12 m_71_13 m_71_14 m_2_17 m_71_15) (hdV 0 (by decide +kernel) rfl) ⟨Nat.le_of_ble_eq_true rfl, Nat.le_of_ble_eq_true rfl⟩ rfl rfl (ci := 2) rfl rfl (isC := [0, 2]) (isR := [1, 3]) (wr := [(a0, .inr (10, (s0.set 1 (.int 0)))), (a3, .inl (K 2, 8192, .inl f3))]) ⟨rfl, rfl, rfl, rfl, by decide⟩ rfl hl.1 (Nat.le_of_ble_eq_true rfl) dX11_jobs_32 ⟨Nat.le_of_ble_eq_true rfl, Nat.le_of_ble_eq_true rfl⟩ (fun r_6 u_5 H locs hw hP hD hS => ?_)
  obtain rfl := hw
  have hP : va_P D vwCl [(a0, .inr (10, (s0.set 1 (.int 0)))), (a3, .inl (K 2, 8192, .inl f3)), (a1, .inr (2, s1)), (a2, .inr (8, (((((s2.set 6 (.int 0)).set 7 (.int 0)).set 4 (.int 0)).set 5 (.int 0)).set 5 (.int 1))))] H := hP
  have hD : va_D A [(a0, .inr (10, (s0.set 1 (.int 0)))), (a3, .inl (K 2, 8192, .inl f3)), (a1, .inr (2, s1)), (a2, .inr (8, (((((s2.set 6 (.int 0)).set 7 (.int 0)).set 4 (.int 0)).set 5 (.int 0)).set 5 (.int 1))))] := hD
  refine lv_if_eq (tgt := 159) C.1 C.2.1 dX11_jobs_35 (by decide) (fun _ => ?_) (fun h => absurd (by decide) h)
  refine lv_iload_n C.1 C.2.1 dX11_jobs_159 rfl (lv_at hl 1 rfl) ?_
  exact k_iret C hr hlocks hP hD hS rfl (fun _ => 0) [] rfl rfl rfl (Nat.le_of_ble_eq_true rfl) (Nat.le_of_ble_eq_true rfl) dX11_jobs_160
set_option maxHeartbeats 4000000 in
set_option maxRecDepth 100000 in
theorem t_X12_jobs (l : Launch) (D : va_G) (K : Nat → ClassId) (a0 : Nat) (s0 : List Value) (n0 : s0.length = 94) (e0_2 : s0[2]? = some (.int 0)) : uMet l yX12_jobs cX12_jobs 5 (some .int) (rmD 0 0 0) D K X0 [.ref a0] [(a0, .inr (11, s0))] (QI D K (fun (r : Int32) (u : Nat → Nat) => r = 0) (fun (u : Nat → Nat) => [])) 0 0 := by
  refine k_met RX12 ⟨rfl, by decide +kernel⟩ (Nat.le_of_ble_eq_true rfl) ?_
  intro p e s m below meth c A ls C hX hr hlocks hin hA hP hD hS hl
  have hl : lv_has ls 5 [(0, .ref a0)] := hl
  refine lv_aload_n C.1 C.2.1 dX12_jobs_0 rfl (lv_at hl 0 rfl) ?_
  refine lv_iconst (v := 0) C.1 C.2.1 dX12_jobs_1 (by decide) ?_
  refine k_put (ws' := [(a0, .inr (11, (s0.set 0 (.int 0))))]) (v := .int 0) C hP hD hS 0 rfl rfl inlX12 tyX12_ok nmX12 0 (by decide) m_9_18 rfl rfl rfl n0 rfl dX12_jobs_2 (fun H locs hP hD hS => ?_)
  refine lv_aload_n C.1 C.2.1 dX12_jobs_5 rfl (lv_at hl 0 rfl) ?_
  refine lv_iconst (v := 0) C.1 C.2.1 dX12_jobs_6 (by decide) ?_
  refine k_put (ws' := [(a0, .inr (11, ((s0.set 0 (.int 0)).set 77 (.int 0))))]) (v := .int 0) C hP hD hS 0 rfl rfl inlX12 tyX12_ok nmX12 77 (by decide) m_78_14 rfl rfl rfl (sl n0) rfl dX12_jobs_7 (fun H locs hP hD hS => ?_)
  refine lv_iconst (v := 0) C.1 C.2.1 dX12_jobs_10 (by decide) ?_
  refine lv_istore_n (lv' := [(1, .int 0), (0, .ref a0)]) C.1 C.2.1 dX12_jobs_11 rfl hl (by decide) rfl (fun ls hl => ?_)
  refine lv_iload_n C.1 C.2.1 dX12_jobs_12 rfl (lv_at hl 0 rfl) ?_
  refine lv_aload_n C.1 C.2.1 dX12_jobs_13 rfl (lv_at hl 1 rfl) ?_
  refine k_get (v := .int 0) C hP 0 rfl rfl inlX12 2 (by decide) m_9_19 (sn (by decide) (sn (by decide) e0_2)) dX12_jobs_14 ?_
  refine lv_icmp_ge (tgt := 78) C.1 C.2.1 dX12_jobs_17 (by decide) (fun _ => ?_) (fun h => absurd (by decide) h)
  refine lv_iconst (v := 0) C.1 C.2.1 dX12_jobs_78 (by decide) ?_
  refine lv_istore_n (lv' := [(1, .int 0), (0, .ref a0)]) C.1 C.2.1 dX12_jobs_79 rfl hl (by decide) rfl (fun ls hl => ?_)
  refine lv_iload_n C.1 C.2.1 dX12_jobs_80 rfl (lv_at hl 0 rfl) ?_
  refine lv_aload_n C.1 C.2.1 dX12_jobs_81 rfl (lv_at hl 1 rfl) ?_
  refine k_get (v := .int 0) C hP 0 rfl rfl inlX12 2 (by decide) m_9_19 (sn (by decide) (sn (by decide) e0_2)) dX12_jobs_82 ?_
  refine lv_icmp_ge (tgt := 106) C.1 C.2.1 dX12_jobs_85 (by decide) (fun _ => ?_) (fun h => absurd (by decide) h)
  refine lv_aload_n C.1 C.2.1 dX12_jobs_106 rfl (lv_at hl 1 rfl) ?_
  refine lv_iconst (v := 0) C.1 C.2.1 dX12_jobs_107 (by decide) ?_
  refine k_put (ws' := [(a0, .inr (11, (((s0.set 0 (.int 0)).set 77 (.int 0)).set 2 (.int 0))))]) (v := .int 0) C hP hD hS 0 rfl rfl inlX12 tyX12_ok nmX12 2 (by decide) m_9_19 rfl rfl rfl (sl (sl n0)) rfl dX12_jobs_108 (fun H locs hP hD hS => ?_)
  refine lv_aload_n C.1 C.2.1 dX12_jobs_111 rfl (lv_at hl 1 rfl) ?_
  refine lv_iconst (v := 0) C.1 C.2.1 dX12_jobs_112 (by decide) ?_
  refine k_put (ws' := [(a0, .inr (11, ((((s0.set 0 (.int 0)).set 77 (.int 0)).set 2 (.int 0)).set 88 (.int 0))))]) (v := .int 0) C hP hD hS 0 rfl rfl inlX12 tyX12_ok nmX12 88 (by decide) m_78_15 rfl (by decide) (by decide) (sl (sl (sl n0))) rfl dX12_jobs_113 (fun H locs hP hD hS => ?_)
  refine lv_aload_n C.1 C.2.1 dX12_jobs_116 rfl (lv_at hl 1 rfl) ?_
  refine lv_iconst (v := 0) C.1 C.2.1 dX12_jobs_117 (by decide) ?_
  refine k_put (ws' := [(a0, .inr (11, (((((s0.set 0 (.int 0)).set 77 (.int 0)).set 2 (.int 0)).set 88 (.int 0)).set 83 (.int 0))))]) (v := .int 0) C hP hD hS 0 rfl rfl inlX12 tyX12_ok nmX12 83 (by decide) m_78_16 rfl rfl rfl (sl (sl (sl (sl n0)))) rfl dX12_jobs_118 (fun H locs hP hD hS => ?_)
  refine lv_iconst (v := 0) C.1 C.2.1 dX12_jobs_121 (by decide) ?_
  refine lv_istore_n (lv' := [(1, .int 0), (0, .ref a0)]) C.1 C.2.1 dX12_jobs_122 rfl hl (by decide) rfl (fun ls hl => ?_)
  refine lv_iload_n C.1 C.2.1 dX12_jobs_123 rfl (lv_at hl 0 rfl) ?_
  refine lv_aload_n C.1 C.2.1 dX12_jobs_124 rfl (lv_at hl 1 rfl) ?_
  refine k_get (v := .int 0) C hP 0 rfl rfl inlX12 77 (by decide) m_78_14 (sn (by decide) (sn (by decide) (sn (by decide) (ss (sk (sl n0) (by decide)))))) dX12_jobs_125 ?_
  refine lv_icmp_ge (tgt := 249) C.1 C.2.1 dX12_jobs_128 (by decide) (fun _ => ?_) (fun h => absurd (by decide) h)
  refine lv_aload_n C.1 C.2.1 dX12_jobs_249 rfl (lv_at hl 1 rfl) ?_
  refine k_get (v := .int 0) C hP 0 rfl rfl inlX12 83 (by decide) m_78_16 (ss (sk (sl (sl (sl (sl n0)))) (by decide))) dX12_jobs_250 ?_
  exact k_iret C hr hlocks hP hD hS rfl (fun _ => 0) [] rfl rfl rfl (Nat.le_of_ble_eq_true rfl) (Nat.le_of_ble_eq_true rfl) dX12_jobs_253
set_option maxHeartbeats 4000000 in
set_option maxRecDepth 100000 in
theorem c_X3_entry (l : Launch) (D : va_G) (K : Nat → ClassId) (a0 : Nat) (s0 : List Value) (n0 : s0.length = 16) (x1 : Int32) (x2 : Int32) (e0_12 : s0[12]? = some (.int 0)) : uMet l yX3_entry cX3_entry 3 (some .int) (rmD 0 0 0) D K X0 [.ref a0, .int x1, .int x2] [(a0, .inr (2, s0))] (QI D K (fun (r : Int32) (u : Nat → Nat) => r = (-1)) (fun (u : Nat → Nat) => [(a0, .inr (2, s0))])) 0 0 := by
  refine k_met RX3 ⟨rfl, by decide +kernel⟩ (Nat.le_of_ble_eq_true rfl) ?_
  intro p e s m below meth c A ls C hX hr hlocks hin hA hP hD hS hl
  have hl : lv_has ls 3 [(0, .ref a0), (1, .int x1), (2, .int x2)] := hl
  refine lv_iload_n C.1 C.2.1 dX3_entry_0 rfl (lv_at hl 1 rfl) ?_
  refine lv_if_lt (tgt := 34) C.1 C.2.1 dX3_entry_1 (by decide) (fun c_1 => ?_) (fun c_1 => ?_)
  · refine lv_iconst (v := (-1)) C.1 C.2.1 dX3_entry_34 (by decide) ?_
    exact k_iret C hr hlocks hP hD hS rfl (fun _ => 0) [0] rfl rfl rfl (Nat.le_of_ble_eq_true rfl) (Nat.le_of_ble_eq_true rfl) dX3_entry_35
  · refine lv_iload_n C.1 C.2.1 dX3_entry_4 rfl (lv_at hl 1 rfl) ?_
    refine lv_aload_n C.1 C.2.1 dX3_entry_5 rfl (lv_at hl 0 rfl) ?_
    refine k_get (v := .int 0) C hP 0 rfl rfl inlX3 12 (by decide) m_74_8 e0_12 dX3_entry_6 ?_
    refine lv_icmp_ge (tgt := 34) C.1 C.2.1 dX3_entry_9 (by decide) (fun _ => ?_) (fun h => absurd (by simp only [Int32.lt_iff_toInt_lt, Int32.le_iff_toInt_le, ← Int32.toInt_inj] at c_1 ⊢; have k0 : (0 : Int32).toInt = 0 := (by decide); omega) h)
    refine lv_iconst (v := (-1)) C.1 C.2.1 dX3_entry_34 (by decide) ?_
    exact k_iret C hr hlocks hP hD hS rfl (fun _ => 0) [0] rfl rfl rfl (Nat.le_of_ble_eq_true rfl) (Nat.le_of_ble_eq_true rfl) dX3_entry_35
set_option maxHeartbeats 4000000 in
set_option maxRecDepth 100000 in
theorem t_X11_account (l : Launch) (D : va_G) (K : Nat → ClassId) (a0 : Nat) (a1 : Nat) (s0 : List Value) (n0 : s0.length = 8) (s1 : List Value) (n1 : s1.length = 16) (x1 : Int32) (x2 : Int32) (e0_7 : s0[7]? = some (.ref a1)) (e1_12 : s1[12]? = some (.int 0)) : uMet l yX11_account cX11_account 3 (some .int) (rmD 1 0 0) D K X0 [.ref a0, .int x1, .int x2] [(a0, .inr (10, s0)), (a1, .inr (2, s1))] (QI D K (fun (r : Int32) (u : Nat → Nat) => r = (-1)) (fun (u : Nat → Nat) => [])) 0 0 := by
  refine k_met RX11 ⟨rfl, by decide +kernel⟩ (Nat.le_of_ble_eq_true rfl) ?_
  intro p e s m below meth c A ls C hX hr hlocks hin hA hP hD hS hl
  have hl : lv_has ls 3 [(0, .ref a0), (1, .int x1), (2, .int x2)] := hl
  refine lv_aload_n C.1 C.2.1 dX11_account_0 rfl (lv_at hl 0 rfl) ?_
  refine k_get (v := .ref a1) C hP 0 rfl rfl inlX11 7 (by decide) m_2_18 e0_7 dX11_account_1 ?_
  refine lv_iload_n C.1 C.2.1 dX11_account_4 rfl (lv_at hl 1 rfl) ?_
  refine lv_iload_n C.1 C.2.1 dX11_account_5 rfl (lv_at hl 2 rfl) ?_
  refine k_Vi (As := [.int x1, .int x2]) (rest := []) C hP hD hS hA (c_X3_entry l D K a1 s1 n1 x1 x2 e1_12) X0_ok trivial (uwV m_82_11 m_77_18 m_77_19 m_2_17 m_77_20) (hdV 2 (by decide +kernel) rfl) ⟨Nat.le_of_ble_eq_true rfl, Nat.le_of_ble_eq_true rfl⟩ rfl rfl (ci := 2) rfl rfl (isC := [1]) (isR := [0]) (wr := [(a0, .inr (10, s0))]) ⟨rfl, rfl, rfl, rfl, by decide⟩ rfl hl.1 (Nat.le_of_ble_eq_true rfl) dX11_account_6 ⟨Nat.le_of_ble_eq_true rfl, Nat.le_of_ble_eq_true rfl⟩ (fun r_2 u_1 H locs hw hP hD hS => ?_)
  obtain rfl := hw
  have hP : va_P D vwCl [(a0, .inr (10, s0)), (a1, .inr (2, s1))] H := hP
  have hD : va_D A [(a0, .inr (10, s0)), (a1, .inr (2, s1))] := hD
  exact k_iret C hr hlocks hP hD hS rfl (fun _ => 0) [] rfl rfl rfl (Nat.le_of_ble_eq_true rfl) (Nat.le_of_ble_eq_true rfl) dX11_account_9
set_option maxHeartbeats 4000000 in
set_option maxRecDepth 100000 in
theorem t_X12_account (l : Launch) (D : va_G) (K : Nat → ClassId) (a0 : Nat) (s0 : List Value) (n0 : s0.length = 94) (x1 : Int32) (x2 : Int32) (e0_82 : s0[82]? = some (.int 0)) : uMet l yX12_account cX12_account 3 (some .int) (rmD 0 0 0) D K X0 [.ref a0, .int x1, .int x2] [(a0, .inr (11, s0))] (QI D K (fun (r : Int32) (u : Nat → Nat) => r = (-1)) (fun (u : Nat → Nat) => [])) 0 0 := by
  refine k_met RX12 ⟨rfl, by decide +kernel⟩ (Nat.le_of_ble_eq_true rfl) ?_
  intro p e s m below meth c A ls C hX hr hlocks hin hA hP hD hS hl
  have hl : lv_has ls 3 [(0, .ref a0), (1, .int x1), (2, .int x2)] := hl
  refine lv_aload_n C.1 C.2.1 dX12_account_0 rfl (lv_at hl 0 rfl) ?_
  refine lv_iconst (v := 0) C.1 C.2.1 dX12_account_1 (by decide) ?_
  refine k_put (ws' := [(a0, .inr (11, (s0.set 0 (.int 0))))]) (v := .int 0) C hP hD hS 0 rfl rfl inlX12 tyX12_ok nmX12 0 (by decide) m_9_18 rfl rfl rfl n0 rfl dX12_account_2 (fun H locs hP hD hS => ?_)
  refine lv_iload_n C.1 C.2.1 dX12_account_5 rfl (lv_at hl 1 rfl) ?_
  refine lv_if_lt (tgt := 26) C.1 C.2.1 dX12_account_6 (by decide) (fun c_1 => ?_) (fun c_1 => ?_)
  · refine lv_iconst (v := (-1)) C.1 C.2.1 dX12_account_26 (by decide) ?_
    exact k_iret C hr hlocks hP hD hS rfl (fun _ => 0) [] rfl rfl rfl (Nat.le_of_ble_eq_true rfl) (Nat.le_of_ble_eq_true rfl) dX12_account_27
  · refine lv_iload_n C.1 C.2.1 dX12_account_9 rfl (lv_at hl 1 rfl) ?_
    refine lv_aload_n C.1 C.2.1 dX12_account_10 rfl (lv_at hl 0 rfl) ?_
    refine k_get (v := .int 0) C hP 0 rfl rfl inlX12 82 (by decide) m_81_19 (sn (by decide) e0_82) dX12_account_11 ?_
    refine lv_icmp_ge (tgt := 26) C.1 C.2.1 dX12_account_14 (by decide) (fun _ => ?_) (fun h => absurd (by simp only [Int32.lt_iff_toInt_lt, Int32.le_iff_toInt_le, ← Int32.toInt_inj] at c_1 ⊢; have k0 : (0 : Int32).toInt = 0 := (by decide); omega) h)
    refine lv_iconst (v := (-1)) C.1 C.2.1 dX12_account_26 (by decide) ?_
    exact k_iret C hr hlocks hP hD hS rfl (fun _ => 0) [] rfl rfl rfl (Nat.le_of_ble_eq_true rfl) (Nat.le_of_ble_eq_true rfl) dX12_account_27
set_option maxHeartbeats 4000000 in
set_option maxRecDepth 100000 in
theorem t_X11_summary (l : Launch) (D : va_G) (K : Nat → ClassId) (a0 : Nat) (a1 : Nat) (s0 : List Value) (n0 : s0.length = 8) (s1 : List Value) (n1 : s1.length = 16) (e0_7 : s0[7]? = some (.ref a1)) (e1_12 : s1[12]? = some (.int 0)) : uMet l yX11_summary cX11_summary 1 (some .int) (rmD 0 0 0) D K X0 [.ref a0] [(a0, .inr (10, s0)), (a1, .inr (2, s1))] (QI D K (fun (r : Int32) (u : Nat → Nat) => r = (-1)) (fun (u : Nat → Nat) => [])) 0 0 := by
  refine k_met RX11 ⟨rfl, by decide +kernel⟩ (Nat.le_of_ble_eq_true rfl) ?_
  intro p e s m below meth c A ls C hX hr hlocks hin hA hP hD hS hl
  have hl : lv_has ls 1 [(0, .ref a0)] := hl
  refine lv_aload_n C.1 C.2.1 dX11_summary_0 rfl (lv_at hl 0 rfl) ?_
  refine k_get (v := .ref a1) C hP 0 rfl rfl inlX11 7 (by decide) m_2_18 e0_7 dX11_summary_1 ?_
  refine k_get (v := .int 0) C hP 1 rfl rfl inlX3 12 (by decide) m_82_20 e1_12 dX11_summary_4 ?_
  refine lv_if_ne (tgt := 14) C.1 C.2.1 dX11_summary_7 (by decide) (fun h => absurd h (by decide)) (fun _ => ?_)
  refine lv_iconst (v := (-1)) C.1 C.2.1 dX11_summary_10 (by decide) ?_
  refine lv_goto (tgt := 25) C.1 C.2.1 dX11_summary_11 (by decide) ?_
  exact k_iret C hr hlocks hP hD hS rfl (fun _ => 0) [] rfl rfl rfl (Nat.le_of_ble_eq_true rfl) (Nat.le_of_ble_eq_true rfl) dX11_summary_25
set_option maxHeartbeats 4000000 in
set_option maxRecDepth 100000 in
theorem t_X12_summary (l : Launch) (D : va_G) (K : Nat → ClassId) (a0 : Nat) (s0 : List Value) (n0 : s0.length = 94) (e0_82 : s0[82]? = some (.int 0)) : uMet l yX12_summary cX12_summary 5 (some .int) (rmD 0 0 0) D K X0 [.ref a0] [(a0, .inr (11, s0))] (QI D K (fun (r : Int32) (u : Nat → Nat) => r = (-1)) (fun (u : Nat → Nat) => [])) 0 0 := by
  refine k_met RX12 ⟨rfl, by decide +kernel⟩ (Nat.le_of_ble_eq_true rfl) ?_
  intro p e s m below meth c A ls C hX hr hlocks hin hA hP hD hS hl
  have hl : lv_has ls 5 [(0, .ref a0)] := hl
  refine lv_aload_n C.1 C.2.1 dX12_summary_0 rfl (lv_at hl 0 rfl) ?_
  refine lv_iconst (v := 0) C.1 C.2.1 dX12_summary_1 (by decide) ?_
  refine k_put (ws' := [(a0, .inr (11, (s0.set 0 (.int 0))))]) (v := .int 0) C hP hD hS 0 rfl rfl inlX12 tyX12_ok nmX12 0 (by decide) m_9_18 rfl rfl rfl n0 rfl dX12_summary_2 (fun H locs hP hD hS => ?_)
  refine lv_aload_n C.1 C.2.1 dX12_summary_5 rfl (lv_at hl 0 rfl) ?_
  refine k_get (v := .int 0) C hP 0 rfl rfl inlX12 82 (by decide) m_81_19 (sn (by decide) e0_82) dX12_summary_6 ?_
  refine lv_if_ne (tgt := 14) C.1 C.2.1 dX12_summary_9 (by decide) (fun h => absurd h (by decide)) (fun _ => ?_)
  refine lv_iconst (v := (-1)) C.1 C.2.1 dX12_summary_12 (by decide) ?_
  exact k_iret C hr hlocks hP hD hS rfl (fun _ => 0) [] rfl rfl rfl (Nat.le_of_ble_eq_true rfl) (Nat.le_of_ble_eq_true rfl) dX12_summary_13
set_option maxHeartbeats 4000000 in
set_option maxRecDepth 100000 in
theorem t_X11_state (l : Launch) (D : va_G) (K : Nat → ClassId) (a0 : Nat) (a1 : Nat) (s0 : List Value) (n0 : s0.length = 8) (s1 : List Value) (n1 : s1.length = 16) (e0_4 : s0[4]? = some (.ref a1)) (e1_8 : s1[8]? = some (.int 9)) : uMet l yX11_state cX11_state 1 (some .int) (rmD 0 0 0) D K X0 [.ref a0] [(a0, .inr (10, s0)), (a1, .inr (1, s1))] (QI D K (fun (r : Int32) (u : Nat → Nat) => r = 9) (fun (u : Nat → Nat) => [])) 0 0 := by
  refine k_met RX11 ⟨rfl, by decide +kernel⟩ (Nat.le_of_ble_eq_true rfl) ?_
  intro p e s m below meth c A ls C hX hr hlocks hin hA hP hD hS hl
  have hl : lv_has ls 1 [(0, .ref a0)] := hl
  refine lv_aload_n C.1 C.2.1 dX11_state_0 rfl (lv_at hl 0 rfl) ?_
  refine k_get (v := .ref a1) C hP 0 rfl rfl inlX11 4 (by decide) m_2_9 e0_4 dX11_state_1 ?_
  refine k_get (v := .int 9) C hP 1 rfl rfl inlX2 8 (by decide) m_45_11 e1_8 dX11_state_4 ?_
  exact k_iret C hr hlocks hP hD hS rfl (fun _ => 0) [] rfl rfl rfl (Nat.le_of_ble_eq_true rfl) (Nat.le_of_ble_eq_true rfl) dX11_state_7
set_option maxHeartbeats 4000000 in
set_option maxRecDepth 100000 in
theorem t_X12_state (l : Launch) (D : va_G) (K : Nat → ClassId) (a0 : Nat) (s0 : List Value) (n0 : s0.length = 94) (e0_9 : s0[9]? = some (.int 9)) : uMet l yX12_state cX12_state 1 (some .int) (rmD 0 0 0) D K X0 [.ref a0] [(a0, .inr (11, s0))] (QI D K (fun (r : Int32) (u : Nat → Nat) => r = 9) (fun (u : Nat → Nat) => [])) 0 0 := by
  refine k_met RX12 ⟨rfl, by decide +kernel⟩ (Nat.le_of_ble_eq_true rfl) ?_
  intro p e s m below meth c A ls C hX hr hlocks hin hA hP hD hS hl
  have hl : lv_has ls 1 [(0, .ref a0)] := hl
  refine lv_aload_n C.1 C.2.1 dX12_state_0 rfl (lv_at hl 0 rfl) ?_
  refine lv_iconst (v := 0) C.1 C.2.1 dX12_state_1 (by decide) ?_
  refine k_put (ws' := [(a0, .inr (11, (s0.set 0 (.int 0))))]) (v := .int 0) C hP hD hS 0 rfl rfl inlX12 tyX12_ok nmX12 0 (by decide) m_9_18 rfl rfl rfl n0 rfl dX12_state_2 (fun H locs hP hD hS => ?_)
  refine lv_aload_n C.1 C.2.1 dX12_state_5 rfl (lv_at hl 0 rfl) ?_
  refine k_get (v := .int 9) C hP 0 rfl rfl inlX12 9 (by decide) m_7_8 (sn (by decide) e0_9) dX12_state_6 ?_
  exact k_iret C hr hlocks hP hD hS rfl (fun _ => 0) [] rfl rfl rfl (Nat.le_of_ble_eq_true rfl) (Nat.le_of_ble_eq_true rfl) dX12_state_9
set_option maxHeartbeats 4000000 in
set_option maxRecDepth 100000 in
theorem t_X11_time (l : Launch) (D : va_G) (K : Nat → ClassId) (a0 : Nat) (a1 : Nat) (s0 : List Value) (n0 : s0.length = 8) (s1 : List Value) (n1 : s1.length = 16) (e0_4 : s0[4]? = some (.ref a1)) (e1_6 : s1[6]? = some (.long 0)) : uMet l yX11_time cX11_time 1 (some .long) (rmD 0 0 0) D K X0 [.ref a0] [(a0, .inr (10, s0)), (a1, .inr (1, s1))] (QL D K (fun (r : Int64) (u : Nat → Nat) => r = 0) (fun (u : Nat → Nat) => [])) 0 0 := by
  refine k_met RX11 ⟨rfl, by decide +kernel⟩ (Nat.le_of_ble_eq_true rfl) ?_
  intro p e s m below meth c A ls C hX hr hlocks hin hA hP hD hS hl
  have hl : lv_has ls 1 [(0, .ref a0)] := hl
  refine lv_aload_n C.1 C.2.1 dX11_time_0 rfl (lv_at hl 0 rfl) ?_
  refine k_get (v := .ref a1) C hP 0 rfl rfl inlX11 4 (by decide) m_2_9 e0_4 dX11_time_1 ?_
  refine k_get (v := .long 0) C hP 1 rfl rfl inlX2 6 (by decide) m_77_5 e1_6 dX11_time_4 ?_
  exact k_lret C hr hlocks hP hD hS (fun _ => 0) [] rfl rfl rfl (Nat.le_of_ble_eq_true rfl) (Nat.le_of_ble_eq_true rfl) dX11_time_7
set_option maxHeartbeats 4000000 in
set_option maxRecDepth 100000 in
theorem t_X12_time (l : Launch) (D : va_G) (K : Nat → ClassId) (a0 : Nat) (s0 : List Value) (n0 : s0.length = 94) (e0_8 : s0[8]? = some (.long 0)) : uMet l yX12_time cX12_time 1 (some .long) (rmD 0 0 0) D K X0 [.ref a0] [(a0, .inr (11, s0))] (QL D K (fun (r : Int64) (u : Nat → Nat) => r = 0) (fun (u : Nat → Nat) => [])) 0 0 := by
  refine k_met RX12 ⟨rfl, by decide +kernel⟩ (Nat.le_of_ble_eq_true rfl) ?_
  intro p e s m below meth c A ls C hX hr hlocks hin hA hP hD hS hl
  have hl : lv_has ls 1 [(0, .ref a0)] := hl
  refine lv_aload_n C.1 C.2.1 dX12_time_0 rfl (lv_at hl 0 rfl) ?_
  refine lv_iconst (v := 0) C.1 C.2.1 dX12_time_1 (by decide) ?_
  refine k_put (ws' := [(a0, .inr (11, (s0.set 0 (.int 0))))]) (v := .int 0) C hP hD hS 0 rfl rfl inlX12 tyX12_ok nmX12 0 (by decide) m_9_18 rfl rfl rfl n0 rfl dX12_time_2 (fun H locs hP hD hS => ?_)
  refine lv_aload_n C.1 C.2.1 dX12_time_5 rfl (lv_at hl 0 rfl) ?_
  refine k_get (v := .long 0) C hP 0 rfl rfl inlX12 8 (by decide) m_29_23 (sn (by decide) e0_8) dX12_time_6 ?_
  exact k_lret C hr hlocks hP hD hS (fun _ => 0) [] rfl rfl rfl (Nat.le_of_ble_eq_true rfl) (Nat.le_of_ble_eq_true rfl) dX12_time_9
set_option maxHeartbeats 4000000 in
set_option maxRecDepth 100000 in
theorem c_X10_paper (l : Launch) (D : va_G) (K : Nat → ClassId) (a0 : Nat) (a1 : Nat) (a2 : Nat) (a3 : Nat) (s0 : List Value) (n0 : s0.length = 13) (x1 : Int32) (e0_12 : s0[12]? = some (.ref a1)) (e0_11 : s0[11]? = some (.ref a2)) (e0_10 : s0[10]? = some (.ref a3)) : uMet l yX10_paper cX10_paper 2 (some (.object "SixBitBoard$Paper")) (rmD 0 0 0) D K X0 [.ref a0, .int x1] [(a0, .inr (9, s0))] (QR D K (fun (u : Nat → Nat) => ((¬ x1 = 17) ∧ (¬ x1 = 18) ∧ u 0 = a1) ∨ ((¬ x1 = 17) ∧ (x1 = 18) ∧ u 0 = a2) ∨ ((x1 = 17) ∧ u 0 = a3)) (fun (u : Nat → Nat) => u 0) (fun (u : Nat → Nat) => [(a0, .inr (9, s0))])) 0 0 := by
  refine k_met RX10 ⟨rfl, by decide +kernel⟩ (Nat.le_of_ble_eq_true rfl) ?_
  intro p e s m below meth c A ls C hX hr hlocks hin hA hP hD hS hl
  have hl : lv_has ls 2 [(0, .ref a0), (1, .int x1)] := hl
  refine lv_iload_n C.1 C.2.1 dX10_paper_0 rfl (lv_at hl 1 rfl) ?_
  refine lv_bipush (v := 17) C.1 C.2.1 dX10_paper_1 (by decide) ?_
  refine lv_icmp_ne (tgt := 11) C.1 C.2.1 dX10_paper_3 (by decide) (fun c_1 => ?_) (fun c_1 => ?_)
  · refine lv_iload_n C.1 C.2.1 dX10_paper_11 rfl (lv_at hl 1 rfl) ?_
    refine lv_bipush (v := 18) C.1 C.2.1 dX10_paper_12 (by decide) ?_
    refine lv_icmp_ne (tgt := 24) C.1 C.2.1 dX10_paper_14 (by decide) (fun c_2 => ?_) (fun c_2 => ?_)
    · refine lv_aload_n C.1 C.2.1 dX10_paper_24 rfl (lv_at hl 0 rfl) ?_
      refine k_get (v := .ref a1) C hP 0 rfl rfl inlX10 12 (by decide) m_3_23 e0_12 dX10_paper_25 ?_
      exact k_aret C hr (Or.inl ⟨_, rfl⟩) hlocks hP hD hS (fun _ => a1) rfl [0] rfl rfl (Or.inl ⟨c_1, c_2, rfl⟩) (Nat.le_of_ble_eq_true rfl) (Nat.le_of_ble_eq_true rfl) dX10_paper_28
    · refine lv_aload_n C.1 C.2.1 dX10_paper_17 rfl (lv_at hl 0 rfl) ?_
      refine k_get (v := .ref a2) C hP 0 rfl rfl inlX10 11 (by decide) m_3_22 e0_11 dX10_paper_18 ?_
      refine lv_goto (tgt := 28) C.1 C.2.1 dX10_paper_21 (by decide) ?_
      exact k_aret C hr (Or.inl ⟨_, rfl⟩) hlocks hP hD hS (fun _ => a2) rfl [0] rfl rfl (Or.inr (Or.inl ⟨c_1, c_2, rfl⟩)) (Nat.le_of_ble_eq_true rfl) (Nat.le_of_ble_eq_true rfl) dX10_paper_28
  · refine lv_aload_n C.1 C.2.1 dX10_paper_6 rfl (lv_at hl 0 rfl) ?_
    refine k_get (v := .ref a3) C hP 0 rfl rfl inlX10 10 (by decide) m_3_21 e0_10 dX10_paper_7 ?_
    exact k_aret C hr (Or.inl ⟨_, rfl⟩) hlocks hP hD hS (fun _ => a3) rfl [0] rfl rfl (Or.inr (Or.inr ⟨c_1, rfl⟩)) (Nat.le_of_ble_eq_true rfl) (Nat.le_of_ble_eq_true rfl) dX10_paper_10
set_option maxHeartbeats 4000000 in
set_option maxRecDepth 100000 in
theorem t_X11_unit (l : Launch) (D : va_G) (K : Nat → ClassId) (a0 : Nat) (a1 : Nat) (a2 : Nat) (a3 : Nat) (a4 : Nat) (a5 : Nat) (a6 : Nat) (s0 : List Value) (n0 : s0.length = 8) (s1 : List Value) (n1 : s1.length = 13) (s2 : List Value) (n2 : s2.length = 4) (s3 : List Value) (n3 : s3.length = 4) (s4 : List Value) (n4 : s4.length = 4) (s5 : List Value) (n5 : s5.length = 4) (x1 : Int32) (e0_3 : s0[3]? = some (.ref a1)) (e1_12 : s1[12]? = some (.ref a2)) (e1_11 : s1[11]? = some (.ref a3)) (e1_10 : s1[10]? = some (.ref a4)) (e2_3 : s2[3]? = some (.int 0)) (e3_3 : s3[3]? = some (.int 0)) (e4_3 : s4[3]? = some (.int 0)) (e1_9 : s1[9]? = some (.ref a5)) (e5_3 : s5[3]? = some (.int 0)) (e1_2 : s1[2]? = some (.ref a6)) : uMet l yX11_unit cX11_unit 2 (some .int) (rmD 1 0 0) D K X0 [.ref a0, .int x1] [(a0, .inr (10, s0)), (a1, .inr (9, s1)), (a2, .inr (3, s2)), (a3, .inr (3, s3)), (a4, .inr (3, s4)), (a5, .inr (5, s5)), (a6, .inl (K 0, 8, .inl (fun _ => 0)))] (QI D K (fun (r : Int32) (u : Nat → Nat) => ((x1 < 0) ∧ r = (-1)) ∨ ((¬ x1 < 0) ∧ (8 ≤ x1) ∧ (¬ x1 = 16) ∧ (x1 < 17) ∧ r = (-1)) ∨ ((¬ x1 < 0) ∧ (8 ≤ x1) ∧ (¬ x1 = 16) ∧ (¬ x1 < 17) ∧ (19 < x1) ∧ r = (-1)) ∨ ((¬ x1 < 0) ∧ (8 ≤ x1) ∧ (¬ x1 = 16) ∧ (¬ x1 < 17) ∧ (¬ 19 < x1) ∧ (¬ x1 = 17) ∧ (¬ x1 = 18) ∧ r = 0) ∨ ((¬ x1 < 0) ∧ (8 ≤ x1) ∧ (¬ x1 = 16) ∧ (¬ x1 < 17) ∧ (¬ 19 < x1) ∧ (¬ x1 = 17) ∧ (x1 = 18) ∧ r = 0) ∨ ((¬ x1 < 0) ∧ (8 ≤ x1) ∧ (¬ x1 = 16) ∧ (¬ x1 < 17) ∧ (¬ 19 < x1) ∧ (x1 = 17) ∧ r = 0) ∨ ((¬ x1 < 0) ∧ (8 ≤ x1) ∧ (x1 = 16) ∧ r = 0) ∨ ((¬ x1 < 0) ∧ (¬ 8 ≤ x1) ∧ r = 0)) (fun (u : Nat → Nat) => [])) 0 0 := by
  refine k_met RX11 ⟨rfl, by decide +kernel⟩ (Nat.le_of_ble_eq_true rfl) ?_
  intro p e s m below meth c A ls C hX hr hlocks hin hA hP hD hS hl
  have hl : lv_has ls 2 [(0, .ref a0), (1, .int x1)] := hl
  refine lv_iload_n C.1 C.2.1 dX11_unit_0 rfl (lv_at hl 1 rfl) ?_
  refine lv_if_lt (tgt := 20) C.1 C.2.1 dX11_unit_1 (by decide) (fun c_1 => ?_) (fun c_1 => ?_)
  · refine lv_iload_n C.1 C.2.1 dX11_unit_20 rfl (lv_at hl 1 rfl) ?_
    refine lv_bipush (v := 16) C.1 C.2.1 dX11_unit_21 (by decide) ?_
    refine lv_icmp_ne (tgt := 37) C.1 C.2.1 dX11_unit_23 (by decide) (fun _ => ?_) (fun h => absurd h (by simp only [Int32.lt_iff_toInt_lt, Int32.le_iff_toInt_le, ← Int32.toInt_inj] at c_1 ⊢; have k0 : (0 : Int32).toInt = 0 := (by decide); have k1 : (16 : Int32).toInt = 16 := (by decide); omega))
    refine lv_iload_n C.1 C.2.1 dX11_unit_37 rfl (lv_at hl 1 rfl) ?_
    refine lv_bipush (v := 17) C.1 C.2.1 dX11_unit_38 (by decide) ?_
    refine lv_icmp_lt (tgt := 63) C.1 C.2.1 dX11_unit_40 (by decide) (fun _ => ?_) (fun h => absurd (by simp only [Int32.lt_iff_toInt_lt, Int32.le_iff_toInt_le, ← Int32.toInt_inj] at c_1 ⊢; have k0 : (0 : Int32).toInt = 0 := (by decide); have k1 : (17 : Int32).toInt = 17 := (by decide); omega) h)
    refine lv_iconst (v := (-1)) C.1 C.2.1 dX11_unit_63 (by decide) ?_
    exact k_iret C hr hlocks hP hD hS rfl (fun _ => 0) [] rfl rfl (Or.inl ⟨c_1, rfl⟩) (Nat.le_of_ble_eq_true rfl) (Nat.le_of_ble_eq_true rfl) dX11_unit_64
  · refine lv_iload_n C.1 C.2.1 dX11_unit_4 rfl (lv_at hl 1 rfl) ?_
    refine lv_bipush (v := 8) C.1 C.2.1 dX11_unit_5 (by decide) ?_
    refine lv_icmp_ge (tgt := 20) C.1 C.2.1 dX11_unit_7 (by decide) (fun c_4 => ?_) (fun c_4 => ?_)
    · refine lv_iload_n C.1 C.2.1 dX11_unit_20 rfl (lv_at hl 1 rfl) ?_
      refine lv_bipush (v := 16) C.1 C.2.1 dX11_unit_21 (by decide) ?_
      refine lv_icmp_ne (tgt := 37) C.1 C.2.1 dX11_unit_23 (by decide) (fun c_5 => ?_) (fun c_5 => ?_)
      · refine lv_iload_n C.1 C.2.1 dX11_unit_37 rfl (lv_at hl 1 rfl) ?_
        refine lv_bipush (v := 17) C.1 C.2.1 dX11_unit_38 (by decide) ?_
        refine lv_icmp_lt (tgt := 63) C.1 C.2.1 dX11_unit_40 (by decide) (fun c_6 => ?_) (fun c_6 => ?_)
        · refine lv_iconst (v := (-1)) C.1 C.2.1 dX11_unit_63 (by decide) ?_
          exact k_iret C hr hlocks hP hD hS rfl (fun _ => 0) [] rfl rfl (Or.inr (Or.inl ⟨c_1, c_4, c_5, c_6, rfl⟩)) (Nat.le_of_ble_eq_true rfl) (Nat.le_of_ble_eq_true rfl) dX11_unit_64
        · refine lv_iload_n C.1 C.2.1 dX11_unit_43 rfl (lv_at hl 1 rfl) ?_
          refine lv_bipush (v := 19) C.1 C.2.1 dX11_unit_44 (by decide) ?_
          refine lv_icmp_gt (tgt := 63) C.1 C.2.1 dX11_unit_46 (by decide) (fun c_7 => ?_) (fun c_7 => ?_)
          · refine lv_iconst (v := (-1)) C.1 C.2.1 dX11_unit_63 (by decide) ?_
            exact k_iret C hr hlocks hP hD hS rfl (fun _ => 0) [] rfl rfl (Or.inr (Or.inr (Or.inl ⟨c_1, c_4, c_5, c_6, c_7, rfl⟩))) (Nat.le_of_ble_eq_true rfl) (Nat.le_of_ble_eq_true rfl) dX11_unit_64
          · refine lv_aload_n C.1 C.2.1 dX11_unit_49 rfl (lv_at hl 0 rfl) ?_
            refine k_get (v := .ref a1) C hP 0 rfl rfl inlX11 3 (by decide) m_2_8 e0_3 dX11_unit_50 ?_
            refine lv_iload_n C.1 C.2.1 dX11_unit_53 rfl (lv_at hl 1 rfl) ?_
            refine k_Vr (As := [.int x1]) (rest := []) C hP hD hS hA (c_X10_paper l D K a1 a2 a3 a4 s1 n1 x1 e1_12 e1_11 e1_10) X0_ok trivial (uwV m_86_21 m_53_22 m_53_23 m_1_20 m_54_0) (hdV 1 (by decide +kernel) rfl) ⟨Nat.le_of_ble_eq_true rfl, Nat.le_of_ble_eq_true rfl⟩ rfl rfl (ci := 9) rfl rfl (isC := [1]) (isR := [0, 2, 3, 4, 5, 6]) (wr := [(a0, .inr (10, s0)), (a2, .inr (3, s2)), (a3, .inr (3, s3)), (a4, .inr (3, s4)), (a5, .inr (5, s5)), (a6, .inl (K 0, 8, .inl (fun _ => 0)))]) ⟨rfl, rfl, rfl, rfl, by decide⟩ rfl hl.1 (Nat.le_of_ble_eq_true rfl) dX11_unit_54 ⟨Nat.le_of_ble_eq_true rfl, Nat.le_of_ble_eq_true rfl⟩ (fun u_8 H locs hw hP hD hS => ?_)
            rcases hw with ⟨c_10, c_11, he_12⟩ | ⟨c_13, c_14, he_15⟩ | ⟨c_16, he_17⟩
            · rw [he_12]
              have hP : va_P D vwCl [(a0, .inr (10, s0)), (a2, .inr (3, s2)), (a3, .inr (3, s3)), (a4, .inr (3, s4)), (a5, .inr (5, s5)), (a6, .inl (K 0, 8, .inl (fun _ => 0))), (a1, .inr (9, s1))] H := hP
              have hD : va_D A [(a0, .inr (10, s0)), (a2, .inr (3, s2)), (a3, .inr (3, s3)), (a4, .inr (3, s4)), (a5, .inr (5, s5)), (a6, .inl (K 0, 8, .inl (fun _ => 0))), (a1, .inr (9, s1))] := hD
              refine k_get (v := .int 0) C hP 1 rfl rfl inlX4 3 (by decide) m_86_20 e2_3 dX11_unit_57 ?_
              refine lv_goto (tgt := 64) C.1 C.2.1 dX11_unit_60 (by decide) ?_
              exact k_iret C hr hlocks hP hD hS rfl (fun _ => 0) [] rfl rfl (Or.inr (Or.inr (Or.inr (Or.inl ⟨c_1, c_4, c_5, c_6, c_7, c_10, c_11, rfl⟩)))) (Nat.le_of_ble_eq_true rfl) (Nat.le_of_ble_eq_true rfl) dX11_unit_64
            · rw [he_15]
              have hP : va_P D vwCl [(a0, .inr (10, s0)), (a2, .inr (3, s2)), (a3, .inr (3, s3)), (a4, .inr (3, s4)), (a5, .inr (5, s5)), (a6, .inl (K 0, 8, .inl (fun _ => 0))), (a1, .inr (9, s1))] H := hP
              have hD : va_D A [(a0, .inr (10, s0)), (a2, .inr (3, s2)), (a3, .inr (3, s3)), (a4, .inr (3, s4)), (a5, .inr (5, s5)), (a6, .inl (K 0, 8, .inl (fun _ => 0))), (a1, .inr (9, s1))] := hD
              refine k_get (v := .int 0) C hP 2 rfl rfl inlX4 3 (by decide) m_86_20 e3_3 dX11_unit_57 ?_
              refine lv_goto (tgt := 64) C.1 C.2.1 dX11_unit_60 (by decide) ?_
              exact k_iret C hr hlocks hP hD hS rfl (fun _ => 0) [] rfl rfl (Or.inr (Or.inr (Or.inr (Or.inr (Or.inl ⟨c_1, c_4, c_5, c_6, c_7, c_13, c_14, rfl⟩))))) (Nat.le_of_ble_eq_true rfl) (Nat.le_of_ble_eq_true rfl) dX11_unit_64
            · rw [he_17]
              have hP : va_P D vwCl [(a0, .inr (10, s0)), (a2, .inr (3, s2)), (a3, .inr (3, s3)), (a4, .inr (3, s4)), (a5, .inr (5, s5)), (a6, .inl (K 0, 8, .inl (fun _ => 0))), (a1, .inr (9, s1))] H := hP
              have hD : va_D A [(a0, .inr (10, s0)), (a2, .inr (3, s2)), (a3, .inr (3, s3)), (a4, .inr (3, s4)), (a5, .inr (5, s5)), (a6, .inl (K 0, 8, .inl (fun _ => 0))), (a1, .inr (9, s1))] := hD
              refine k_get (v := .int 0) C hP 3 rfl rfl inlX4 3 (by decide) m_86_20 e4_3 dX11_unit_57 ?_
              refine lv_goto (tgt := 64) C.1 C.2.1 dX11_unit_60 (by decide) ?_
              exact k_iret C hr hlocks hP hD hS rfl (fun _ => 0) [] rfl rfl (Or.inr (Or.inr (Or.inr (Or.inr (Or.inr (Or.inl ⟨c_1, c_4, c_5, c_6, c_7, c_16, rfl⟩)))))) (Nat.le_of_ble_eq_true rfl) (Nat.le_of_ble_eq_true rfl) dX11_unit_64
      · refine lv_aload_n C.1 C.2.1 dX11_unit_26 rfl (lv_at hl 0 rfl) ?_
        refine k_get (v := .ref a1) C hP 0 rfl rfl inlX11 3 (by decide) m_2_8 e0_3 dX11_unit_27 ?_
        refine k_get (v := .ref a5) C hP 1 rfl rfl inlX10 9 (by decide) m_43_16 e1_9 dX11_unit_30 ?_
        refine k_get (v := .int 0) C hP 5 rfl rfl inlX6 3 (by decide) m_43_17 e5_3 dX11_unit_33 ?_
        exact k_iret C hr hlocks hP hD hS rfl (fun _ => 0) [] rfl rfl (Or.inr (Or.inr (Or.inr (Or.inr (Or.inr (Or.inr (Or.inl ⟨c_1, c_4, c_5, rfl⟩))))))) (Nat.le_of_ble_eq_true rfl) (Nat.le_of_ble_eq_true rfl) dX11_unit_36
    · refine lv_aload_n C.1 C.2.1 dX11_unit_10 rfl (lv_at hl 0 rfl) ?_
      refine k_get (v := .ref a1) C hP 0 rfl rfl inlX11 3 (by decide) m_2_8 e0_3 dX11_unit_11 ?_
      refine k_get (v := .ref a6) C hP 1 rfl rfl inlX10 2 (by decide) m_86_19 e1_2 dX11_unit_14 ?_
      refine lv_iload_n C.1 C.2.1 dX11_unit_17 rfl (lv_at hl 1 rfl) ?_
      refine k_ild (v := 0) C hP 6 rfl (vp_in_iff.mpr (by simp only [Int32.lt_iff_toInt_lt, Int32.le_iff_toInt_le, ← Int32.toInt_inj] at c_1 c_4 ⊢; have k0 : (0 : Int32).toInt = 0 := (by decide); have k1 : (8 : Int32).toInt = 8 := (by decide); exact ⟨by omega, by omega⟩)) rfl dX11_unit_18 ?_
      exact k_iret C hr hlocks hP hD hS rfl (fun _ => 0) [] rfl rfl (Or.inr (Or.inr (Or.inr (Or.inr (Or.inr (Or.inr (Or.inr ⟨c_1, c_4, rfl⟩))))))) (Nat.le_of_ble_eq_true rfl) (Nat.le_of_ble_eq_true rfl) dX11_unit_19
set_option maxHeartbeats 4000000 in
set_option maxRecDepth 100000 in
theorem t_X12_unit (l : Launch) (D : va_G) (K : Nat → ClassId) (a0 : Nat) (a1 : Nat) (a2 : Nat) (s0 : List Value) (n0 : s0.length = 94) (x1 : Int32) (e0_24 : s0[24]? = some (.ref a1)) (e0_36 : s0[36]? = some (.int 0)) (e0_35 : s0[35]? = some (.int 0)) (e0_28 : s0[28]? = some (.ref a2)) : uMet l yX12_unit cX12_unit 2 (some .int) (rmD 1 0 0) D K X0 [.ref a0, .int x1] [(a0, .inr (11, s0)), (a1, .inl (K 0, 8, .inl (fun _ => 0))), (a2, .inl (K 0, 3, .inl (fun _ => 0)))] (QI D K (fun (r : Int32) (u : Nat → Nat) => ((x1 < 17) ∧ (¬ x1 = 16) ∧ (x1 < 0) ∧ r = (-1)) ∨ ((x1 < 17) ∧ (¬ x1 = 16) ∧ (¬ x1 < 0) ∧ (8 ≤ x1) ∧ r = (-1)) ∨ ((x1 < 17) ∧ (¬ x1 = 16) ∧ (¬ x1 < 0) ∧ (¬ 8 ≤ x1) ∧ r = 0) ∨ ((x1 < 17) ∧ (x1 = 16) ∧ r = 0) ∨ ((¬ x1 < 17) ∧ (19 < x1) ∧ r = (-1)) ∨ ((¬ x1 < 17) ∧ (¬ 19 < x1) ∧ r = 0)) (fun (u : Nat → Nat) => [])) 0 0 := by
  refine k_met RX12 ⟨rfl, by decide +kernel⟩ (Nat.le_of_ble_eq_true rfl) ?_
  intro p e s m below meth c A ls C hX hr hlocks hin hA hP hD hS hl
  have hl : lv_has ls 2 [(0, .ref a0), (1, .int x1)] := hl
  refine lv_aload_n C.1 C.2.1 dX12_unit_0 rfl (lv_at hl 0 rfl) ?_
  refine lv_iconst (v := 0) C.1 C.2.1 dX12_unit_1 (by decide) ?_
  refine k_put (ws' := [(a0, .inr (11, (s0.set 0 (.int 0)))), (a1, .inl (K 0, 8, .inl (fun _ => 0))), (a2, .inl (K 0, 3, .inl (fun _ => 0)))]) (v := .int 0) C hP hD hS 0 rfl rfl inlX12 tyX12_ok nmX12 0 (by decide) m_9_18 rfl rfl rfl n0 rfl dX12_unit_2 (fun H locs hP hD hS => ?_)
  refine lv_iload_n C.1 C.2.1 dX12_unit_5 rfl (lv_at hl 1 rfl) ?_
  refine lv_bipush (v := 17) C.1 C.2.1 dX12_unit_6 (by decide) ?_
  refine lv_icmp_lt (tgt := 27) C.1 C.2.1 dX12_unit_8 (by decide) (fun c_1 => ?_) (fun c_1 => ?_)
  · refine lv_iload_n C.1 C.2.1 dX12_unit_27 rfl (lv_at hl 1 rfl) ?_
    refine lv_bipush (v := 16) C.1 C.2.1 dX12_unit_28 (by decide) ?_
    refine lv_icmp_ne (tgt := 38) C.1 C.2.1 dX12_unit_30 (by decide) (fun c_2 => ?_) (fun c_2 => ?_)
    · refine lv_iload_n C.1 C.2.1 dX12_unit_38 rfl (lv_at hl 1 rfl) ?_
      refine lv_if_lt (tgt := 57) C.1 C.2.1 dX12_unit_39 (by decide) (fun c_3 => ?_) (fun c_3 => ?_)
      · refine lv_iconst (v := (-1)) C.1 C.2.1 dX12_unit_57 (by decide) ?_
        exact k_iret C hr hlocks hP hD hS rfl (fun _ => 0) [] rfl rfl (Or.inl ⟨c_1, c_2, c_3, rfl⟩) (Nat.le_of_ble_eq_true rfl) (Nat.le_of_ble_eq_true rfl) dX12_unit_58
      · refine lv_iload_n C.1 C.2.1 dX12_unit_42 rfl (lv_at hl 1 rfl) ?_
        refine lv_bipush (v := 8) C.1 C.2.1 dX12_unit_43 (by decide) ?_
        refine lv_icmp_ge (tgt := 57) C.1 C.2.1 dX12_unit_45 (by decide) (fun c_4 => ?_) (fun c_4 => ?_)
        · refine lv_iconst (v := (-1)) C.1 C.2.1 dX12_unit_57 (by decide) ?_
          exact k_iret C hr hlocks hP hD hS rfl (fun _ => 0) [] rfl rfl (Or.inr (Or.inl ⟨c_1, c_2, c_3, c_4, rfl⟩)) (Nat.le_of_ble_eq_true rfl) (Nat.le_of_ble_eq_true rfl) dX12_unit_58
        · refine lv_aload_n C.1 C.2.1 dX12_unit_48 rfl (lv_at hl 0 rfl) ?_
          refine k_get (v := .ref a1) C hP 0 rfl rfl inlX12 24 (by decide) m_7_14 (sn (by decide) e0_24) dX12_unit_49 ?_
          refine lv_iload_n C.1 C.2.1 dX12_unit_52 rfl (lv_at hl 1 rfl) ?_
          refine k_ild (v := 0) C hP 1 rfl (vp_in_iff.mpr (by simp only [Int32.lt_iff_toInt_lt, Int32.le_iff_toInt_le, ← Int32.toInt_inj] at c_1 c_2 c_3 c_4 ⊢; have k0 : (17 : Int32).toInt = 17 := (by decide); have k1 : (16 : Int32).toInt = 16 := (by decide); have k2 : (0 : Int32).toInt = 0 := (by decide); have k3 : (8 : Int32).toInt = 8 := (by decide); exact ⟨by omega, by omega⟩)) rfl dX12_unit_53 ?_
          refine lv_goto (tgt := 58) C.1 C.2.1 dX12_unit_54 (by decide) ?_
          exact k_iret C hr hlocks hP hD hS rfl (fun _ => 0) [] rfl rfl (Or.inr (Or.inr (Or.inl ⟨c_1, c_2, c_3, c_4, rfl⟩))) (Nat.le_of_ble_eq_true rfl) (Nat.le_of_ble_eq_true rfl) dX12_unit_58
    · refine lv_aload_n C.1 C.2.1 dX12_unit_33 rfl (lv_at hl 0 rfl) ?_
      refine k_Vi (As := []) (rest := []) C hP hD hS hA (c_X12_cardsLeft l D K a0 ((s0.set 0 (.int 0))) (sl n0) (sn (by decide) e0_36) (sn (by decide) e0_35)) X0_ok trivial (uwV m_44_12 m_44_13 m_44_14 m_1_5 m_44_15) (hdV 0 (by decide +kernel) rfl) ⟨Nat.le_of_ble_eq_true rfl, Nat.le_of_ble_eq_true rfl⟩ rfl rfl (ci := 11) rfl rfl (isC := [0]) (isR := [1, 2]) (wr := [(a1, .inl (K 0, 8, .inl (fun _ => 0))), (a2, .inl (K 0, 3, .inl (fun _ => 0)))]) ⟨rfl, rfl, rfl, rfl, by decide⟩ rfl hl.1 (Nat.le_of_ble_eq_true rfl) dX12_unit_34 ⟨Nat.le_of_ble_eq_true rfl, Nat.le_of_ble_eq_true rfl⟩ (fun r_6 u_5 H locs hw hP hD hS => ?_)
      obtain rfl := hw
      have hP : va_P D vwCl [(a1, .inl (K 0, 8, .inl (fun _ => 0))), (a2, .inl (K 0, 3, .inl (fun _ => 0))), (a0, .inr (11, (s0.set 0 (.int 0))))] H := hP
      have hD : va_D A [(a1, .inl (K 0, 8, .inl (fun _ => 0))), (a2, .inl (K 0, 3, .inl (fun _ => 0))), (a0, .inr (11, (s0.set 0 (.int 0))))] := hD
      exact k_iret C hr hlocks hP hD hS rfl (fun _ => 0) [] rfl rfl (Or.inr (Or.inr (Or.inr (Or.inl ⟨c_1, c_2, rfl⟩)))) (Nat.le_of_ble_eq_true rfl) (Nat.le_of_ble_eq_true rfl) dX12_unit_37
  · refine lv_iload_n C.1 C.2.1 dX12_unit_11 rfl (lv_at hl 1 rfl) ?_
    refine lv_bipush (v := 19) C.1 C.2.1 dX12_unit_12 (by decide) ?_
    refine lv_icmp_gt (tgt := 27) C.1 C.2.1 dX12_unit_14 (by decide) (fun c_7 => ?_) (fun c_7 => ?_)
    · refine lv_iload_n C.1 C.2.1 dX12_unit_27 rfl (lv_at hl 1 rfl) ?_
      refine lv_bipush (v := 16) C.1 C.2.1 dX12_unit_28 (by decide) ?_
      refine lv_icmp_ne (tgt := 38) C.1 C.2.1 dX12_unit_30 (by decide) (fun _ => ?_) (fun h => absurd h (by simp only [Int32.lt_iff_toInt_lt, Int32.le_iff_toInt_le, ← Int32.toInt_inj] at c_1 c_7 ⊢; have k0 : (17 : Int32).toInt = 17 := (by decide); have k1 : (19 : Int32).toInt = 19 := (by decide); have k2 : (16 : Int32).toInt = 16 := (by decide); omega))
      refine lv_iload_n C.1 C.2.1 dX12_unit_38 rfl (lv_at hl 1 rfl) ?_
      refine lv_if_lt (tgt := 57) C.1 C.2.1 dX12_unit_39 (by decide) (fun h => absurd h (by simp only [Int32.lt_iff_toInt_lt, Int32.le_iff_toInt_le, ← Int32.toInt_inj] at c_1 c_7 ⊢; have k0 : (17 : Int32).toInt = 17 := (by decide); have k1 : (19 : Int32).toInt = 19 := (by decide); have k2 : (0 : Int32).toInt = 0 := (by decide); omega)) (fun _ => ?_)
      refine lv_iload_n C.1 C.2.1 dX12_unit_42 rfl (lv_at hl 1 rfl) ?_
      refine lv_bipush (v := 8) C.1 C.2.1 dX12_unit_43 (by decide) ?_
      refine lv_icmp_ge (tgt := 57) C.1 C.2.1 dX12_unit_45 (by decide) (fun _ => ?_) (fun h => absurd (by simp only [Int32.lt_iff_toInt_lt, Int32.le_iff_toInt_le, ← Int32.toInt_inj] at c_1 c_7 ⊢; have k0 : (17 : Int32).toInt = 17 := (by decide); have k1 : (19 : Int32).toInt = 19 := (by decide); have k2 : (8 : Int32).toInt = 8 := (by decide); omega) h)
      refine lv_iconst (v := (-1)) C.1 C.2.1 dX12_unit_57 (by decide) ?_
      exact k_iret C hr hlocks hP hD hS rfl (fun _ => 0) [] rfl rfl (Or.inr (Or.inr (Or.inr (Or.inr (Or.inl ⟨c_1, c_7, rfl⟩))))) (Nat.le_of_ble_eq_true rfl) (Nat.le_of_ble_eq_true rfl) dX12_unit_58
    · refine lv_aload_n C.1 C.2.1 dX12_unit_17 rfl (lv_at hl 0 rfl) ?_
      refine k_get (v := .ref a2) C hP 0 rfl rfl inlX12 28 (by decide) m_7_20 (sn (by decide) e0_28) dX12_unit_18 ?_
      refine lv_iload_n C.1 C.2.1 dX12_unit_21 rfl (lv_at hl 1 rfl) ?_
      refine lv_bipush (v := 17) C.1 C.2.1 dX12_unit_22 (by decide) ?_
      refine k_isub (v := (x1 - 17)) C rfl dX12_unit_24 ?_
      refine k_ild (v := 0) C hP 2 rfl (vp_in_iff.mpr (by simp only [Int32.lt_iff_toInt_lt, Int32.le_iff_toInt_le, ← Int32.toInt_inj] at c_1 c_7 ⊢; have k0 : (17 : Int32).toInt = 17 := (by decide); have k1 : (19 : Int32).toInt = 19 := (by decide); have k2 := ti_isub (x := x1) (y := 17) (by omega) (by omega); exact ⟨by omega, by omega⟩)) rfl dX12_unit_25 ?_
      exact k_iret C hr hlocks hP hD hS rfl (fun _ => 0) [] rfl rfl (Or.inr (Or.inr (Or.inr (Or.inr (Or.inr ⟨c_1, c_7, rfl⟩))))) (Nat.le_of_ble_eq_true rfl) (Nat.le_of_ble_eq_true rfl) dX12_unit_26
set_option maxHeartbeats 4000000 in
set_option maxRecDepth 100000 in
theorem c_X4_letterAt (l : Launch) (D : va_G) (K : Nat → ClassId) (a0 : Nat) (s0 : List Value) (n0 : s0.length = 4) (x1 : Int32) (x2 : Int32) (e0_3 : s0[3]? = some (.int 0)) : uMet l yX4_letterAt cX4_letterAt 3 (some .int) (rmD 0 0 0) D K X0 [.ref a0, .int x1, .int x2] [(a0, .inr (3, s0))] (QI D K (fun (r : Int32) (u : Nat → Nat) => r = (-1)) (fun (u : Nat → Nat) => [(a0, .inr (3, s0))])) 0 0 := by
  refine k_met RX4 ⟨rfl, by decide +kernel⟩ (Nat.le_of_ble_eq_true rfl) ?_
  intro p e s m below meth c A ls C hX hr hlocks hin hA hP hD hS hl
  have hl : lv_has ls 3 [(0, .ref a0), (1, .int x1), (2, .int x2)] := hl
  refine lv_iload_n C.1 C.2.1 dX4_letterAt_0 rfl (lv_at hl 1 rfl) ?_
  refine lv_if_lt (tgt := 35) C.1 C.2.1 dX4_letterAt_1 (by decide) (fun c_1 => ?_) (fun c_1 => ?_)
  · refine lv_iconst (v := (-1)) C.1 C.2.1 dX4_letterAt_35 (by decide) ?_
    exact k_iret C hr hlocks hP hD hS rfl (fun _ => 0) [0] rfl rfl rfl (Nat.le_of_ble_eq_true rfl) (Nat.le_of_ble_eq_true rfl) dX4_letterAt_36
  · refine lv_iload_n C.1 C.2.1 dX4_letterAt_4 rfl (lv_at hl 1 rfl) ?_
    refine lv_aload_n C.1 C.2.1 dX4_letterAt_5 rfl (lv_at hl 0 rfl) ?_
    refine k_get (v := .int 0) C hP 0 rfl rfl inlX4 3 (by decide) m_41_11 e0_3 dX4_letterAt_6 ?_
    refine lv_icmp_ge (tgt := 35) C.1 C.2.1 dX4_letterAt_9 (by decide) (fun _ => ?_) (fun h => absurd (by simp only [Int32.lt_iff_toInt_lt, Int32.le_iff_toInt_le, ← Int32.toInt_inj] at c_1 ⊢; have k0 : (0 : Int32).toInt = 0 := (by decide); omega) h)
    refine lv_iconst (v := (-1)) C.1 C.2.1 dX4_letterAt_35 (by decide) ?_
    exact k_iret C hr hlocks hP hD hS rfl (fun _ => 0) [0] rfl rfl rfl (Nat.le_of_ble_eq_true rfl) (Nat.le_of_ble_eq_true rfl) dX4_letterAt_36
set_option maxHeartbeats 4000000 in
set_option maxRecDepth 100000 in
theorem t_X11_letter (l : Launch) (D : va_G) (K : Nat → ClassId) (a0 : Nat) (a1 : Nat) (a2 : Nat) (a3 : Nat) (a4 : Nat) (s0 : List Value) (n0 : s0.length = 8) (s1 : List Value) (n1 : s1.length = 13) (s2 : List Value) (n2 : s2.length = 4) (s3 : List Value) (n3 : s3.length = 4) (s4 : List Value) (n4 : s4.length = 4) (x1 : Int32) (x2 : Int32) (x3 : Int32) (e0_3 : s0[3]? = some (.ref a1)) (e1_12 : s1[12]? = some (.ref a2)) (e1_11 : s1[11]? = some (.ref a3)) (e1_10 : s1[10]? = some (.ref a4)) (e2_3 : s2[3]? = some (.int 0)) (e3_3 : s3[3]? = some (.int 0)) (e4_3 : s4[3]? = some (.int 0)) : uMet l yX11_letter cX11_letter 4 (some .int) (rmD 1 0 0) D K X0 [.ref a0, .int x1, .int x2, .int x3] [(a0, .inr (10, s0)), (a1, .inr (9, s1)), (a2, .inr (3, s2)), (a3, .inr (3, s3)), (a4, .inr (3, s4))] (QI D K (fun (r : Int32) (u : Nat → Nat) => r = (-1)) (fun (u : Nat → Nat) => [])) 0 0 := by
  refine k_met RX11 ⟨rfl, by decide +kernel⟩ (Nat.le_of_ble_eq_true rfl) ?_
  intro p e s m below meth c A ls C hX hr hlocks hin hA hP hD hS hl
  have hl : lv_has ls 4 [(0, .ref a0), (1, .int x1), (2, .int x2), (3, .int x3)] := hl
  refine lv_iload_n C.1 C.2.1 dX11_letter_0 rfl (lv_at hl 1 rfl) ?_
  refine lv_bipush (v := 17) C.1 C.2.1 dX11_letter_1 (by decide) ?_
  refine lv_icmp_lt (tgt := 28) C.1 C.2.1 dX11_letter_3 (by decide) (fun c_1 => ?_) (fun c_1 => ?_)
  · refine lv_iconst (v := (-1)) C.1 C.2.1 dX11_letter_28 (by decide) ?_
    exact k_iret C hr hlocks hP hD hS rfl (fun _ => 0) [] rfl rfl rfl (Nat.le_of_ble_eq_true rfl) (Nat.le_of_ble_eq_true rfl) dX11_letter_29
  · refine lv_iload_n C.1 C.2.1 dX11_letter_6 rfl (lv_at hl 1 rfl) ?_
    refine lv_bipush (v := 19) C.1 C.2.1 dX11_letter_7 (by decide) ?_
    refine lv_icmp_gt (tgt := 28) C.1 C.2.1 dX11_letter_9 (by decide) (fun c_2 => ?_) (fun c_2 => ?_)
    · refine lv_iconst (v := (-1)) C.1 C.2.1 dX11_letter_28 (by decide) ?_
      exact k_iret C hr hlocks hP hD hS rfl (fun _ => 0) [] rfl rfl rfl (Nat.le_of_ble_eq_true rfl) (Nat.le_of_ble_eq_true rfl) dX11_letter_29
    · refine lv_aload_n C.1 C.2.1 dX11_letter_12 rfl (lv_at hl 0 rfl) ?_
      refine k_get (v := .ref a1) C hP 0 rfl rfl inlX11 3 (by decide) m_2_8 e0_3 dX11_letter_13 ?_
      refine lv_iload_n C.1 C.2.1 dX11_letter_16 rfl (lv_at hl 1 rfl) ?_
      refine k_Vr (As := [.int x1]) (rest := []) C hP hD hS hA (c_X10_paper l D K a1 a2 a3 a4 s1 n1 x1 e1_12 e1_11 e1_10) X0_ok trivial (uwV m_86_21 m_53_22 m_53_23 m_1_20 m_54_0) (hdV 1 (by decide +kernel) rfl) ⟨Nat.le_of_ble_eq_true rfl, Nat.le_of_ble_eq_true rfl⟩ rfl rfl (ci := 9) rfl rfl (isC := [1]) (isR := [0, 2, 3, 4]) (wr := [(a0, .inr (10, s0)), (a2, .inr (3, s2)), (a3, .inr (3, s3)), (a4, .inr (3, s4))]) ⟨rfl, rfl, rfl, rfl, by decide⟩ rfl hl.1 (Nat.le_of_ble_eq_true rfl) dX11_letter_17 ⟨Nat.le_of_ble_eq_true rfl, Nat.le_of_ble_eq_true rfl⟩ (fun u_3 H locs hw hP hD hS => ?_)
      rcases hw with ⟨c_5, c_6, he_7⟩ | ⟨c_8, c_9, he_10⟩ | ⟨c_11, he_12⟩
      · rw [he_7]
        have hP : va_P D vwCl [(a0, .inr (10, s0)), (a2, .inr (3, s2)), (a3, .inr (3, s3)), (a4, .inr (3, s4)), (a1, .inr (9, s1))] H := hP
        have hD : va_D A [(a0, .inr (10, s0)), (a2, .inr (3, s2)), (a3, .inr (3, s3)), (a4, .inr (3, s4)), (a1, .inr (9, s1))] := hD
        refine lv_iload_n C.1 C.2.1 dX11_letter_20 rfl (lv_at hl 2 rfl) ?_
        refine lv_iload_n C.1 C.2.1 dX11_letter_21 rfl (lv_at hl 3 rfl) ?_
        refine k_Vi (As := [.int x2, .int x3]) (rest := []) C hP hD hS hA (c_X4_letterAt l D K a2 s2 n2 x2 x3 e2_3) X0_ok trivial (uwV m_87_6 m_87_7 m_87_8 m_3_20 m_87_9) (hdV 2 (by decide +kernel) rfl) ⟨Nat.le_of_ble_eq_true rfl, Nat.le_of_ble_eq_true rfl⟩ rfl rfl (ci := 3) rfl rfl (isC := [1]) (isR := [0, 2, 3, 4]) (wr := [(a0, .inr (10, s0)), (a3, .inr (3, s3)), (a4, .inr (3, s4)), (a1, .inr (9, s1))]) ⟨rfl, rfl, rfl, rfl, by decide⟩ rfl hl.1 (Nat.le_of_ble_eq_true rfl) dX11_letter_22 ⟨Nat.le_of_ble_eq_true rfl, Nat.le_of_ble_eq_true rfl⟩ (fun r_14 u_13 H locs hw hP hD hS => ?_)
        obtain rfl := hw
        have hP : va_P D vwCl [(a0, .inr (10, s0)), (a3, .inr (3, s3)), (a4, .inr (3, s4)), (a1, .inr (9, s1)), (a2, .inr (3, s2))] H := hP
        have hD : va_D A [(a0, .inr (10, s0)), (a3, .inr (3, s3)), (a4, .inr (3, s4)), (a1, .inr (9, s1)), (a2, .inr (3, s2))] := hD
        refine lv_goto (tgt := 29) C.1 C.2.1 dX11_letter_25 (by decide) ?_
        exact k_iret C hr hlocks hP hD hS rfl (fun _ => 0) [] rfl rfl rfl (Nat.le_of_ble_eq_true rfl) (Nat.le_of_ble_eq_true rfl) dX11_letter_29
      · rw [he_10]
        have hP : va_P D vwCl [(a0, .inr (10, s0)), (a2, .inr (3, s2)), (a3, .inr (3, s3)), (a4, .inr (3, s4)), (a1, .inr (9, s1))] H := hP
        have hD : va_D A [(a0, .inr (10, s0)), (a2, .inr (3, s2)), (a3, .inr (3, s3)), (a4, .inr (3, s4)), (a1, .inr (9, s1))] := hD
        refine lv_iload_n C.1 C.2.1 dX11_letter_20 rfl (lv_at hl 2 rfl) ?_
        refine lv_iload_n C.1 C.2.1 dX11_letter_21 rfl (lv_at hl 3 rfl) ?_
        refine k_Vi (As := [.int x2, .int x3]) (rest := []) C hP hD hS hA (c_X4_letterAt l D K a3 s3 n3 x2 x3 e3_3) X0_ok trivial (uwV m_87_6 m_87_7 m_87_8 m_3_20 m_87_9) (hdV 2 (by decide +kernel) rfl) ⟨Nat.le_of_ble_eq_true rfl, Nat.le_of_ble_eq_true rfl⟩ rfl rfl (ci := 3) rfl rfl (isC := [2]) (isR := [0, 1, 3, 4]) (wr := [(a0, .inr (10, s0)), (a2, .inr (3, s2)), (a4, .inr (3, s4)), (a1, .inr (9, s1))]) ⟨rfl, rfl, rfl, rfl, by decide⟩ rfl hl.1 (Nat.le_of_ble_eq_true rfl) dX11_letter_22 ⟨Nat.le_of_ble_eq_true rfl, Nat.le_of_ble_eq_true rfl⟩ (fun r_16 u_15 H locs hw hP hD hS => ?_)
        obtain rfl := hw
        have hP : va_P D vwCl [(a0, .inr (10, s0)), (a2, .inr (3, s2)), (a4, .inr (3, s4)), (a1, .inr (9, s1)), (a3, .inr (3, s3))] H := hP
        have hD : va_D A [(a0, .inr (10, s0)), (a2, .inr (3, s2)), (a4, .inr (3, s4)), (a1, .inr (9, s1)), (a3, .inr (3, s3))] := hD
        refine lv_goto (tgt := 29) C.1 C.2.1 dX11_letter_25 (by decide) ?_
        exact k_iret C hr hlocks hP hD hS rfl (fun _ => 0) [] rfl rfl rfl (Nat.le_of_ble_eq_true rfl) (Nat.le_of_ble_eq_true rfl) dX11_letter_29
      · rw [he_12]
        have hP : va_P D vwCl [(a0, .inr (10, s0)), (a2, .inr (3, s2)), (a3, .inr (3, s3)), (a4, .inr (3, s4)), (a1, .inr (9, s1))] H := hP
        have hD : va_D A [(a0, .inr (10, s0)), (a2, .inr (3, s2)), (a3, .inr (3, s3)), (a4, .inr (3, s4)), (a1, .inr (9, s1))] := hD
        refine lv_iload_n C.1 C.2.1 dX11_letter_20 rfl (lv_at hl 2 rfl) ?_
        refine lv_iload_n C.1 C.2.1 dX11_letter_21 rfl (lv_at hl 3 rfl) ?_
        refine k_Vi (As := [.int x2, .int x3]) (rest := []) C hP hD hS hA (c_X4_letterAt l D K a4 s4 n4 x2 x3 e4_3) X0_ok trivial (uwV m_87_6 m_87_7 m_87_8 m_3_20 m_87_9) (hdV 2 (by decide +kernel) rfl) ⟨Nat.le_of_ble_eq_true rfl, Nat.le_of_ble_eq_true rfl⟩ rfl rfl (ci := 3) rfl rfl (isC := [3]) (isR := [0, 1, 2, 4]) (wr := [(a0, .inr (10, s0)), (a2, .inr (3, s2)), (a3, .inr (3, s3)), (a1, .inr (9, s1))]) ⟨rfl, rfl, rfl, rfl, by decide⟩ rfl hl.1 (Nat.le_of_ble_eq_true rfl) dX11_letter_22 ⟨Nat.le_of_ble_eq_true rfl, Nat.le_of_ble_eq_true rfl⟩ (fun r_18 u_17 H locs hw hP hD hS => ?_)
        obtain rfl := hw
        have hP : va_P D vwCl [(a0, .inr (10, s0)), (a2, .inr (3, s2)), (a3, .inr (3, s3)), (a1, .inr (9, s1)), (a4, .inr (3, s4))] H := hP
        have hD : va_D A [(a0, .inr (10, s0)), (a2, .inr (3, s2)), (a3, .inr (3, s3)), (a1, .inr (9, s1)), (a4, .inr (3, s4))] := hD
        refine lv_goto (tgt := 29) C.1 C.2.1 dX11_letter_25 (by decide) ?_
        exact k_iret C hr hlocks hP hD hS rfl (fun _ => 0) [] rfl rfl rfl (Nat.le_of_ble_eq_true rfl) (Nat.le_of_ble_eq_true rfl) dX11_letter_29
set_option maxHeartbeats 4000000 in
set_option maxRecDepth 100000 in
theorem t_X12_letter (l : Launch) (D : va_G) (K : Nat → ClassId) (a0 : Nat) (a1 : Nat) (s0 : List Value) (n0 : s0.length = 94) (x1 : Int32) (x2 : Int32) (x3 : Int32) (e0_28 : s0[28]? = some (.ref a1)) : uMet l yX12_letter cX12_letter 5 (some .int) (rmD 0 0 0) D K X0 [.ref a0, .int x1, .int x2, .int x3] [(a0, .inr (11, s0)), (a1, .inl (K 0, 3, .inl (fun _ => 0)))] (QI D K (fun (r : Int32) (u : Nat → Nat) => r = (-1)) (fun (u : Nat → Nat) => [])) 0 0 := by
  refine k_met RX12 ⟨rfl, by decide +kernel⟩ (Nat.le_of_ble_eq_true rfl) ?_
  intro p e s m below meth c A ls C hX hr hlocks hin hA hP hD hS hl
  have hl : lv_has ls 5 [(0, .ref a0), (1, .int x1), (2, .int x2), (3, .int x3)] := hl
  refine lv_aload_n C.1 C.2.1 dX12_letter_0 rfl (lv_at hl 0 rfl) ?_
  refine lv_iconst (v := 0) C.1 C.2.1 dX12_letter_1 (by decide) ?_
  refine k_put (ws' := [(a0, .inr (11, (s0.set 0 (.int 0)))), (a1, .inl (K 0, 3, .inl (fun _ => 0)))]) (v := .int 0) C hP hD hS 0 rfl rfl inlX12 tyX12_ok nmX12 0 (by decide) m_9_18 rfl rfl rfl n0 rfl dX12_letter_2 (fun H locs hP hD hS => ?_)
  refine lv_iload_n C.1 C.2.1 dX12_letter_5 rfl (lv_at hl 1 rfl) ?_
  refine lv_bipush (v := 17) C.1 C.2.1 dX12_letter_6 (by decide) ?_
  refine lv_icmp_lt (tgt := 25) C.1 C.2.1 dX12_letter_8 (by decide) (fun c_1 => ?_) (fun c_1 => ?_)
  · refine lv_iconst (v := (-1)) C.1 C.2.1 dX12_letter_25 (by decide) ?_
    exact k_iret C hr hlocks hP hD hS rfl (fun _ => 0) [] rfl rfl rfl (Nat.le_of_ble_eq_true rfl) (Nat.le_of_ble_eq_true rfl) dX12_letter_26
  · refine lv_iload_n C.1 C.2.1 dX12_letter_11 rfl (lv_at hl 1 rfl) ?_
    refine lv_bipush (v := 19) C.1 C.2.1 dX12_letter_12 (by decide) ?_
    refine lv_icmp_gt (tgt := 25) C.1 C.2.1 dX12_letter_14 (by decide) (fun c_2 => ?_) (fun c_2 => ?_)
    · refine lv_iconst (v := (-1)) C.1 C.2.1 dX12_letter_25 (by decide) ?_
      exact k_iret C hr hlocks hP hD hS rfl (fun _ => 0) [] rfl rfl rfl (Nat.le_of_ble_eq_true rfl) (Nat.le_of_ble_eq_true rfl) dX12_letter_26
    · refine lv_iload_n C.1 C.2.1 dX12_letter_17 rfl (lv_at hl 2 rfl) ?_
      refine lv_if_lt (tgt := 25) C.1 C.2.1 dX12_letter_18 (by decide) (fun c_3 => ?_) (fun c_3 => ?_)
      · refine lv_iconst (v := (-1)) C.1 C.2.1 dX12_letter_25 (by decide) ?_
        exact k_iret C hr hlocks hP hD hS rfl (fun _ => 0) [] rfl rfl rfl (Nat.le_of_ble_eq_true rfl) (Nat.le_of_ble_eq_true rfl) dX12_letter_26
      · refine lv_iload_n C.1 C.2.1 dX12_letter_21 rfl (lv_at hl 3 rfl) ?_
        refine lv_if_ge (tgt := 27) C.1 C.2.1 dX12_letter_22 (by decide) (fun c_4 => ?_) (fun c_4 => ?_)
        · refine lv_iload_n C.1 C.2.1 dX12_letter_27 rfl (lv_at hl 2 rfl) ?_
          refine lv_aload_n C.1 C.2.1 dX12_letter_28 rfl (lv_at hl 0 rfl) ?_
          refine k_get (v := .ref a1) C hP 0 rfl rfl inlX12 28 (by decide) m_7_20 (sn (by decide) e0_28) dX12_letter_29 ?_
          refine lv_iload_n C.1 C.2.1 dX12_letter_32 rfl (lv_at hl 1 rfl) ?_
          refine lv_bipush (v := 17) C.1 C.2.1 dX12_letter_33 (by decide) ?_
          refine k_isub (v := (x1 - 17)) C rfl dX12_letter_35 ?_
          refine k_ild (v := 0) C hP 1 rfl (vp_in_iff.mpr (by simp only [Int32.lt_iff_toInt_lt, Int32.le_iff_toInt_le, ← Int32.toInt_inj] at c_1 c_2 c_3 c_4 ⊢; have k0 : (17 : Int32).toInt = 17 := (by decide); have k1 : (19 : Int32).toInt = 19 := (by decide); have k2 : (0 : Int32).toInt = 0 := (by decide); have k3 := ti_isub (x := x1) (y := 17) (by omega) (by omega); exact ⟨by omega, by omega⟩)) rfl dX12_letter_36 ?_
          refine lv_icmp_lt (tgt := 42) C.1 C.2.1 dX12_letter_37 (by decide) (fun h => absurd h c_3) (fun _ => ?_)
          refine lv_iconst (v := (-1)) C.1 C.2.1 dX12_letter_40 (by decide) ?_
          exact k_iret C hr hlocks hP hD hS rfl (fun _ => 0) [] rfl rfl rfl (Nat.le_of_ble_eq_true rfl) (Nat.le_of_ble_eq_true rfl) dX12_letter_41
        · refine lv_iconst (v := (-1)) C.1 C.2.1 dX12_letter_25 (by decide) ?_
          exact k_iret C hr hlocks hP hD hS rfl (fun _ => 0) [] rfl rfl rfl (Nat.le_of_ble_eq_true rfl) (Nat.le_of_ble_eq_true rfl) dX12_letter_26
set_option maxHeartbeats 4000000 in
set_option maxRecDepth 100000 in
theorem t_X11_tear (l : Launch) (D : va_G) (K : Nat → ClassId) (a0 : Nat) (a1 : Nat) (a2 : Nat) (a3 : Nat) (a4 : Nat) (s0 : List Value) (n0 : s0.length = 8) (s1 : List Value) (n1 : s1.length = 13) (s2 : List Value) (n2 : s2.length = 4) (s3 : List Value) (n3 : s3.length = 4) (s4 : List Value) (n4 : s4.length = 4) (e0_3 : s0[3]? = some (.ref a1)) (e1_10 : s1[10]? = some (.ref a2)) (e1_11 : s1[11]? = some (.ref a3)) (e1_12 : s1[12]? = some (.ref a4)) : uMet l yX11_tear cX11_tear 1 none (rmD 0 0 0) D K X0 [.ref a0] [(a0, .inr (10, s0)), (a1, .inr (9, s1)), (a2, .inr (3, s2)), (a3, .inr (3, s3)), (a4, .inr (3, s4))] (QV D K (fun (u : Nat → Nat) => True) (fun (u : Nat → Nat) => [])) 0 0 := by
  refine k_met RX11 ⟨rfl, by decide +kernel⟩ (Nat.le_of_ble_eq_true rfl) ?_
  intro p e s m below meth c A ls C hX hr hlocks hin hA hP hD hS hl
  have hl : lv_has ls 1 [(0, .ref a0)] := hl
  refine lv_aload_n C.1 C.2.1 dX11_tear_0 rfl (lv_at hl 0 rfl) ?_
  refine k_get (v := .ref a1) C hP 0 rfl rfl inlX11 3 (by decide) m_2_8 e0_3 dX11_tear_1 ?_
  refine k_get (v := .ref a2) C hP 1 rfl rfl inlX10 10 (by decide) m_88_6 e1_10 dX11_tear_4 ?_
  refine lv_iconst (v := 0) C.1 C.2.1 dX11_tear_7 (by decide) ?_
  refine k_put (ws' := [(a0, .inr (10, s0)), (a1, .inr (9, s1)), (a2, .inr (3, (s2.set 3 (.int 0)))), (a3, .inr (3, s3)), (a4, .inr (3, s4))]) (v := .int 0) C hP hD hS 2 rfl rfl inlX4 tyX4_ok nmX4 3 (by decide) m_86_20 rfl rfl rfl n2 rfl dX11_tear_8 (fun H locs hP hD hS => ?_)
  refine lv_aload_n C.1 C.2.1 dX11_tear_11 rfl (lv_at hl 0 rfl) ?_
  refine k_get (v := .ref a1) C hP 0 rfl rfl inlX11 3 (by decide) m_2_8 e0_3 dX11_tear_12 ?_
  refine k_get (v := .ref a3) C hP 1 rfl rfl inlX10 11 (by decide) m_88_7 e1_11 dX11_tear_15 ?_
  refine lv_iconst (v := 0) C.1 C.2.1 dX11_tear_18 (by decide) ?_
  refine k_put (ws' := [(a0, .inr (10, s0)), (a1, .inr (9, s1)), (a2, .inr (3, (s2.set 3 (.int 0)))), (a3, .inr (3, (s3.set 3 (.int 0)))), (a4, .inr (3, s4))]) (v := .int 0) C hP hD hS 3 rfl rfl inlX4 tyX4_ok nmX4 3 (by decide) m_86_20 rfl rfl rfl n3 rfl dX11_tear_19 (fun H locs hP hD hS => ?_)
  refine lv_aload_n C.1 C.2.1 dX11_tear_22 rfl (lv_at hl 0 rfl) ?_
  refine k_get (v := .ref a1) C hP 0 rfl rfl inlX11 3 (by decide) m_2_8 e0_3 dX11_tear_23 ?_
  refine k_get (v := .ref a4) C hP 1 rfl rfl inlX10 12 (by decide) m_88_8 e1_12 dX11_tear_26 ?_
  refine lv_iconst (v := 0) C.1 C.2.1 dX11_tear_29 (by decide) ?_
  refine k_put (ws' := [(a0, .inr (10, s0)), (a1, .inr (9, s1)), (a2, .inr (3, (s2.set 3 (.int 0)))), (a3, .inr (3, (s3.set 3 (.int 0)))), (a4, .inr (3, (s4.set 3 (.int 0))))]) (v := .int 0) C hP hD hS 4 rfl rfl inlX4 tyX4_ok nmX4 3 (by decide) m_86_20 rfl rfl rfl n4 rfl dX11_tear_30 (fun H locs hP hD hS => ?_)
  exact k_vret C hr hlocks hP hD hS (fun _ => 0) [] rfl rfl trivial (Nat.le_of_ble_eq_true rfl) (Nat.le_of_ble_eq_true rfl) dX11_tear_33
set_option maxHeartbeats 4000000 in
set_option maxRecDepth 100000 in
theorem t_X12_tear (l : Launch) (D : va_G) (K : Nat → ClassId) (a0 : Nat) (a1 : Nat) (s0 : List Value) (n0 : s0.length = 94) (f1 : Nat → Int32) (e0_28 : s0[28]? = some (.ref a1)) : uMet l yX12_tear cX12_tear 2 none (rmD 0 0 0) D K X0 [.ref a0] [(a0, .inr (11, s0)), (a1, .inl (K 0, 3, .inl f1))] (QV D K (fun (u : Nat → Nat) => True) (fun (u : Nat → Nat) => [])) 0 0 := by
  refine k_met RX12 ⟨rfl, by decide +kernel⟩ (Nat.le_of_ble_eq_true rfl) ?_
  intro p e s m below meth c A ls C hX hr hlocks hin hA hP hD hS hl
  have hl : lv_has ls 2 [(0, .ref a0)] := hl
  refine lv_aload_n C.1 C.2.1 dX12_tear_0 rfl (lv_at hl 0 rfl) ?_
  refine lv_iconst (v := 0) C.1 C.2.1 dX12_tear_1 (by decide) ?_
  refine k_put (ws' := [(a0, .inr (11, (s0.set 0 (.int 0)))), (a1, .inl (K 0, 3, .inl f1))]) (v := .int 0) C hP hD hS 0 rfl rfl inlX12 tyX12_ok nmX12 0 (by decide) m_9_18 rfl rfl rfl n0 rfl dX12_tear_2 (fun H locs hP hD hS => ?_)
  refine lv_iconst (v := 0) C.1 C.2.1 dX12_tear_5 (by decide) ?_
  refine lv_istore_n (lv' := [(1, .int 0), (0, .ref a0)]) C.1 C.2.1 dX12_tear_6 rfl hl (by decide) rfl (fun ls hl => ?_)
  refine lv_iload_n C.1 C.2.1 dX12_tear_7 rfl (lv_at hl 0 rfl) ?_
  refine lv_iconst (v := 3) C.1 C.2.1 dX12_tear_8 (by decide) ?_
  refine lv_icmp_ge (tgt := 25) C.1 C.2.1 dX12_tear_9 (by decide) (fun h => absurd h (by decide)) (fun _ => ?_)
  refine lv_aload_n C.1 C.2.1 dX12_tear_12 rfl (lv_at hl 1 rfl) ?_
  refine k_get (v := .ref a1) C hP 0 rfl rfl inlX12 28 (by decide) m_7_20 (sn (by decide) e0_28) dX12_tear_13 ?_
  refine lv_iload_n C.1 C.2.1 dX12_tear_16 rfl (lv_at hl 0 rfl) ?_
  refine lv_iconst (v := 0) C.1 C.2.1 dX12_tear_17 (by decide) ?_
  refine k_ist (ws' := [(a0, .inr (11, (s0.set 0 (.int 0)))), (a1, .inl (K 0, 3, .inl (upd f1 0 0)))]) (j := 0) (x' := 0) C hP hD hS 1 rfl (vin (by decide)) (by decide) rfl rfl dX12_tear_18 (fun H locs hP hD hS => ?_)
  refine lv_iinc (v := 1) (lv' := [(1, .int 1), (0, .ref a0)]) C.1 C.2.1 dX12_tear_19 hl (k := 0) rfl (by decide) (by decide) rfl (fun ls hl => ?_)
  refine lv_goto (tgt := 7) C.1 C.2.1 dX12_tear_22 (by decide) ?_
  refine lv_iload_n C.1 C.2.1 dX12_tear_7 rfl (lv_at hl 0 rfl) ?_
  refine lv_iconst (v := 3) C.1 C.2.1 dX12_tear_8 (by decide) ?_
  refine lv_icmp_ge (tgt := 25) C.1 C.2.1 dX12_tear_9 (by decide) (fun h => absurd h (by decide)) (fun _ => ?_)
  refine lv_aload_n C.1 C.2.1 dX12_tear_12 rfl (lv_at hl 1 rfl) ?_
  refine k_get (v := .ref a1) C hP 0 rfl rfl inlX12 28 (by decide) m_7_20 (sn (by decide) e0_28) dX12_tear_13 ?_
  refine lv_iload_n C.1 C.2.1 dX12_tear_16 rfl (lv_at hl 0 rfl) ?_
  refine lv_iconst (v := 0) C.1 C.2.1 dX12_tear_17 (by decide) ?_
  refine k_ist (ws' := [(a0, .inr (11, (s0.set 0 (.int 0)))), (a1, .inl (K 0, 3, .inl (upd (upd f1 0 0) 1 0)))]) (j := 1) (x' := 0) C hP hD hS 1 rfl (vin (by decide)) (by decide) rfl rfl dX12_tear_18 (fun H locs hP hD hS => ?_)
  refine lv_iinc (v := 2) (lv' := [(1, .int 2), (0, .ref a0)]) C.1 C.2.1 dX12_tear_19 hl (k := 0) rfl (by decide) (by decide) rfl (fun ls hl => ?_)
  refine lv_goto (tgt := 7) C.1 C.2.1 dX12_tear_22 (by decide) ?_
  refine lv_iload_n C.1 C.2.1 dX12_tear_7 rfl (lv_at hl 0 rfl) ?_
  refine lv_iconst (v := 3) C.1 C.2.1 dX12_tear_8 (by decide) ?_
  refine lv_icmp_ge (tgt := 25) C.1 C.2.1 dX12_tear_9 (by decide) (fun h => absurd h (by decide)) (fun _ => ?_)
  refine lv_aload_n C.1 C.2.1 dX12_tear_12 rfl (lv_at hl 1 rfl) ?_
  refine k_get (v := .ref a1) C hP 0 rfl rfl inlX12 28 (by decide) m_7_20 (sn (by decide) e0_28) dX12_tear_13 ?_
  refine lv_iload_n C.1 C.2.1 dX12_tear_16 rfl (lv_at hl 0 rfl) ?_
  refine lv_iconst (v := 0) C.1 C.2.1 dX12_tear_17 (by decide) ?_
  refine k_ist (ws' := [(a0, .inr (11, (s0.set 0 (.int 0)))), (a1, .inl (K 0, 3, .inl (upd (upd (upd f1 0 0) 1 0) 2 0)))]) (j := 2) (x' := 0) C hP hD hS 1 rfl (vin (by decide)) (by decide) rfl rfl dX12_tear_18 (fun H locs hP hD hS => ?_)
  refine lv_iinc (v := 3) (lv' := [(1, .int 3), (0, .ref a0)]) C.1 C.2.1 dX12_tear_19 hl (k := 0) rfl (by decide) (by decide) rfl (fun ls hl => ?_)
  refine lv_goto (tgt := 7) C.1 C.2.1 dX12_tear_22 (by decide) ?_
  refine lv_iload_n C.1 C.2.1 dX12_tear_7 rfl (lv_at hl 0 rfl) ?_
  refine lv_iconst (v := 3) C.1 C.2.1 dX12_tear_8 (by decide) ?_
  refine lv_icmp_ge (tgt := 25) C.1 C.2.1 dX12_tear_9 (by decide) (fun _ => ?_) (fun h => absurd (by decide) h)
  exact k_vret C hr hlocks hP hD hS (fun _ => 0) [] rfl rfl trivial (Nat.le_of_ble_eq_true rfl) (Nat.le_of_ble_eq_true rfl) dX12_tear_25
