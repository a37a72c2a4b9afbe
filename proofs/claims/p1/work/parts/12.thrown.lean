theorem dX12_value_0 : decode cX12_value 0 = .ok (.iload_n 0, 1) := by decide +kernel
theorem dX12_value_1 : decode cX12_value 1 = .ok (.ldc 158, 2) := by decide +kernel
theorem dX12_value_16 : decode cX12_value 16 = .ok (.ireturn, 1) := by decide +kernel
theorem dX12_value_3 : decode cX12_value 3 = .ok (.iand, 1) := by decide +kernel
theorem dX12_value_4 : decode cX12_value 4 = .ok (.ifCond .ne 7, 3) := by decide +kernel
theorem dX12_value_7 : decode cX12_value 7 = .ok (.iload_n 0, 1) := by decide +kernel
theorem dX12_value_8 : decode cX12_value 8 = .ok (.goto 8, 3) := by decide +kernel
theorem dX12_told_0 : decode cX12_told 0 = .ok (.iload_n 0, 1) := by decide +kernel
theorem dX12_told_1 : decode cX12_told 1 = .ok (.ldc 158, 2) := by decide +kernel
theorem dX12_told_11 : decode cX12_told 11 = .ok (.iload_n 0, 1) := by decide +kernel
theorem dX12_told_12 : decode cX12_told 12 = .ok (.invokestatic 161, 3) := by decide +kernel
theorem dX12_told_15 : decode cX12_told 15 = .ok (.ireturn, 1) := by decide +kernel
theorem dX12_told_3 : decode cX12_told 3 = .ok (.if_icmp .ne 8, 3) := by decide +kernel
theorem dX12_register_0 : decode cX12_register 0 = .ok (.aload_n 0, 1) := by decide +kernel
theorem dX12_register_1 : decode cX12_register 1 = .ok (.iload_n 1, 1) := by decide +kernel
theorem dX12_register_11 : decode cX12_register 11 = .ok (.iconst 1, 1) := by decide +kernel
theorem dX12_register_12 : decode cX12_register 12 = .ok (.goto 4, 3) := by decide +kernel
theorem dX12_register_15 : decode cX12_register 15 = .ok (.iconst 0, 1) := by decide +kernel
theorem dX12_register_16 : decode cX12_register 16 = .ok (.putfield 155, 3) := by decide +kernel
theorem dX12_register_19 : decode cX12_register 19 = .ok (.aload_n 0, 1) := by decide +kernel
theorem dX12_register_2 : decode cX12_register 2 = .ok (.ifCond .lt 9, 3) := by decide +kernel
theorem dX12_register_20 : decode cX12_register 20 = .ok (.getfield 155, 3) := by decide +kernel
theorem dX12_register_23 : decode cX12_register 23 = .ok (.ifCond .eq 5, 3) := by decide +kernel
theorem dX12_register_26 : decode cX12_register 26 = .ok (.iconst 0, 1) := by decide +kernel
theorem dX12_register_27 : decode cX12_register 27 = .ok (.ireturn, 1) := by decide +kernel
theorem dX12_register_28 : decode cX12_register 28 = .ok (.iload_n 1, 1) := by decide +kernel
theorem dX12_register_29 : decode cX12_register 29 = .ok (.bipush 9, 2) := by decide +kernel
theorem dX12_register_31 : decode cX12_register 31 = .ok (.if_icmp .ge 13, 3) := by decide +kernel
theorem dX12_register_34 : decode cX12_register 34 = .ok (.aload_n 0, 1) := by decide +kernel
theorem dX12_register_35 : decode cX12_register 35 = .ok (.getfield 17, 3) := by decide +kernel
theorem dX12_register_38 : decode cX12_register 38 = .ok (.iload_n 1, 1) := by decide +kernel
theorem dX12_register_39 : decode cX12_register 39 = .ok (.iaload, 1) := by decide +kernel
theorem dX12_register_40 : decode cX12_register 40 = .ok (.invokestatic 715, 3) := by decide +kernel
theorem dX12_register_43 : decode cX12_register 43 = .ok (.ireturn, 1) := by decide +kernel
theorem dX12_register_44 : decode cX12_register 44 = .ok (.iload_n 1, 1) := by decide +kernel
theorem dX12_register_45 : decode cX12_register 45 = .ok (.bipush 9, 2) := by decide +kernel
theorem dX12_register_47 : decode cX12_register 47 = .ok (.if_icmp .ne 18, 3) := by decide +kernel
theorem dX12_register_5 : decode cX12_register 5 = .ok (.iload_n 1, 1) := by decide +kernel
theorem dX12_register_50 : decode cX12_register 50 = .ok (.aload_n 0, 1) := by decide +kernel
theorem dX12_register_51 : decode cX12_register 51 = .ok (.getfield 314, 3) := by decide +kernel
theorem dX12_register_54 : decode cX12_register 54 = .ok (.ifCond .eq 7, 3) := by decide +kernel
theorem dX12_register_6 : decode cX12_register 6 = .ok (.bipush 11, 2) := by decide +kernel
theorem dX12_register_61 : decode cX12_register 61 = .ok (.iconst 0, 1) := by decide +kernel
theorem dX12_register_62 : decode cX12_register 62 = .ok (.goto 22, 3) := by decide +kernel
theorem dX12_register_65 : decode cX12_register 65 = .ok (.iload_n 1, 1) := by decide +kernel
theorem dX12_register_66 : decode cX12_register 66 = .ok (.bipush 10, 2) := by decide +kernel
theorem dX12_register_68 : decode cX12_register 68 = .ok (.if_icmp .ne 12, 3) := by decide +kernel
theorem dX12_register_71 : decode cX12_register 71 = .ok (.aload_n 0, 1) := by decide +kernel
theorem dX12_register_72 : decode cX12_register 72 = .ok (.getfield 20, 3) := by decide +kernel
theorem dX12_register_75 : decode cX12_register 75 = .ok (.iconst 1, 1) := by decide +kernel
theorem dX12_register_76 : decode cX12_register 76 = .ok (.isub, 1) := by decide +kernel
theorem dX12_register_77 : decode cX12_register 77 = .ok (.goto 7, 3) := by decide +kernel
theorem dX12_register_8 : decode cX12_register 8 = .ok (.if_icmp .le 7, 3) := by decide +kernel
theorem dX12_register_80 : decode cX12_register 80 = .ok (.aload_n 0, 1) := by decide +kernel
theorem dX12_register_81 : decode cX12_register 81 = .ok (.getfield 378, 3) := by decide +kernel
theorem dX12_register_84 : decode cX12_register 84 = .ok (.ireturn, 1) := by decide +kernel
theorem dX12_isAddress_0 : decode cX12_isAddress 0 = .ok (.iload_n 0, 1) := by decide +kernel
theorem dX12_isAddress_1 : decode cX12_isAddress 1 = .ok (.sipush (-3999), 3) := by decide +kernel
theorem dX12_isAddress_11 : decode cX12_isAddress 11 = .ok (.if_icmp .gt 7, 3) := by decide +kernel
theorem dX12_isAddress_14 : decode cX12_isAddress 14 = .ok (.iconst 1, 1) := by decide +kernel
theorem dX12_isAddress_15 : decode cX12_isAddress 15 = .ok (.goto 4, 3) := by decide +kernel
theorem dX12_isAddress_18 : decode cX12_isAddress 18 = .ok (.iconst 0, 1) := by decide +kernel
theorem dX12_isAddress_19 : decode cX12_isAddress 19 = .ok (.ireturn, 1) := by decide +kernel
theorem dX12_isAddress_4 : decode cX12_isAddress 4 = .ok (.if_icmp .lt 14, 3) := by decide +kernel
theorem dX12_isAddress_7 : decode cX12_isAddress 7 = .ok (.iload_n 0, 1) := by decide +kernel
theorem dX12_isAddress_8 : decode cX12_isAddress 8 = .ok (.sipush 3999, 3) := by decide +kernel
theorem dX12_memoryAt_0 : decode cX12_memoryAt 0 = .ok (.aload_n 0, 1) := by decide +kernel
theorem dX12_memoryAt_1 : decode cX12_memoryAt 1 = .ok (.getfield 13, 3) := by decide +kernel
theorem dX12_memoryAt_10 : decode cX12_memoryAt 10 = .ok (.ireturn, 1) := by decide +kernel
theorem dX12_memoryAt_4 : decode cX12_memoryAt 4 = .ok (.iload_n 1, 1) := by decide +kernel
theorem dX12_memoryAt_5 : decode cX12_memoryAt 5 = .ok (.sipush (-3999), 3) := by decide +kernel
theorem dX12_memoryAt_8 : decode cX12_memoryAt 8 = .ok (.isub, 1) := by decide +kernel
theorem dX12_memoryAt_9 : decode cX12_memoryAt 9 = .ok (.iaload, 1) := by decide +kernel
theorem dX12_word_0 : decode cX12_word 0 = .ok (.aload_n 0, 1) := by decide +kernel
theorem dX12_word_1 : decode cX12_word 1 = .ok (.iload_n 1, 1) := by decide +kernel
theorem dX12_word_12 : decode cX12_word 12 = .ok (.iconst 1, 1) := by decide +kernel
theorem dX12_word_13 : decode cX12_word 13 = .ok (.putfield 155, 3) := by decide +kernel
theorem dX12_word_16 : decode cX12_word 16 = .ok (.aload_n 0, 1) := by decide +kernel
theorem dX12_word_17 : decode cX12_word 17 = .ok (.getfield 155, 3) := by decide +kernel
theorem dX12_word_2 : decode cX12_word 2 = .ok (.invokestatic 854, 3) := by decide +kernel
theorem dX12_word_20 : decode cX12_word 20 = .ok (.ifCond .ne 14, 3) := by decide +kernel
theorem dX12_word_23 : decode cX12_word 23 = .ok (.aload_n 0, 1) := by decide +kernel
theorem dX12_word_24 : decode cX12_word 24 = .ok (.iload_n 1, 1) := by decide +kernel
theorem dX12_word_25 : decode cX12_word 25 = .ok (.invokevirtual 260, 3) := by decide +kernel
theorem dX12_word_28 : decode cX12_word 28 = .ok (.invokestatic 715, 3) := by decide +kernel
theorem dX12_word_31 : decode cX12_word 31 = .ok (.goto 4, 3) := by decide +kernel
theorem dX12_word_34 : decode cX12_word 34 = .ok (.iconst 0, 1) := by decide +kernel
theorem dX12_word_35 : decode cX12_word 35 = .ok (.ireturn, 1) := by decide +kernel
theorem dX12_word_5 : decode cX12_word 5 = .ok (.ifCond .eq 7, 3) := by decide +kernel
theorem dX12_word_8 : decode cX12_word 8 = .ok (.iconst 0, 1) := by decide +kernel
theorem dX12_word_9 : decode cX12_word 9 = .ok (.goto 4, 3) := by decide +kernel
theorem dX12_symbol_0 : decode cX12_symbol 0 = .ok (.aload_n 0, 1) := by decide +kernel
theorem dX12_symbol_1 : decode cX12_symbol 1 = .ok (.getfield 176, 3) := by decide +kernel
theorem dX12_symbol_152 : decode cX12_symbol 152 = .ok (.aload_n 0, 1) := by decide +kernel
theorem dX12_symbol_153 : decode cX12_symbol 153 = .ok (.iconst 0, 1) := by decide +kernel
theorem dX12_symbol_154 : decode cX12_symbol 154 = .ok (.putfield 176, 3) := by decide +kernel
theorem dX12_symbol_157 : decode cX12_symbol 157 = .ok (.aload_n 0, 1) := by decide +kernel
theorem dX12_symbol_158 : decode cX12_symbol 158 = .ok (.getfield 633, 3) := by decide +kernel
theorem dX12_symbol_161 : decode cX12_symbol 161 = .ok (.ifCond .eq 19, 3) := by decide +kernel
theorem dX12_symbol_180 : decode cX12_symbol 180 = .ok (.iconst (-1), 1) := by decide +kernel
theorem dX12_symbol_181 : decode cX12_symbol 181 = .ok (.istore 5, 2) := by decide +kernel
theorem dX12_symbol_183 : decode cX12_symbol 183 = .ok (.aload_n 0, 1) := by decide +kernel
theorem dX12_symbol_184 : decode cX12_symbol 184 = .ok (.iload 5, 2) := by decide +kernel
theorem dX12_symbol_186 : decode cX12_symbol 186 = .ok (.iconst (-1), 1) := by decide +kernel
theorem dX12_symbol_187 : decode cX12_symbol 187 = .ok (.if_icmp .eq 17, 3) := by decide +kernel
theorem dX12_symbol_20 : decode cX12_symbol 20 = .ok (.iconst 0, 1) := by decide +kernel
theorem dX12_symbol_204 : decode cX12_symbol 204 = .ok (.iconst 1, 1) := by decide +kernel
theorem dX12_symbol_205 : decode cX12_symbol 205 = .ok (.putfield 155, 3) := by decide +kernel
theorem dX12_symbol_208 : decode cX12_symbol 208 = .ok (.aload_n 0, 1) := by decide +kernel
theorem dX12_symbol_209 : decode cX12_symbol 209 = .ok (.getfield 155, 3) := by decide +kernel
theorem dX12_symbol_21 : decode cX12_symbol 21 = .ok (.istore_n 1, 1) := by decide +kernel
theorem dX12_symbol_212 : decode cX12_symbol 212 = .ok (.ifCond .ne 16, 3) := by decide +kernel
theorem dX12_symbol_22 : decode cX12_symbol 22 = .ok (.iconst 0, 1) := by decide +kernel
theorem dX12_symbol_228 : decode cX12_symbol 228 = .ok (.iconst 0, 1) := by decide +kernel
theorem dX12_symbol_229 : decode cX12_symbol 229 = .ok (.ireturn, 1) := by decide +kernel
theorem dX12_symbol_23 : decode cX12_symbol 23 = .ok (.istore_n 2, 1) := by decide +kernel
theorem dX12_symbol_24 : decode cX12_symbol 24 = .ok (.lconst 0, 1) := by decide +kernel
theorem dX12_symbol_25 : decode cX12_symbol 25 = .ok (.lstore_n 3, 1) := by decide +kernel
theorem dX12_symbol_26 : decode cX12_symbol 26 = .ok (.iconst 0, 1) := by decide +kernel
theorem dX12_symbol_27 : decode cX12_symbol 27 = .ok (.istore 5, 2) := by decide +kernel
theorem dX12_symbol_29 : decode cX12_symbol 29 = .ok (.iload 5, 2) := by decide +kernel
theorem dX12_symbol_31 : decode cX12_symbol 31 = .ok (.bipush 10, 2) := by decide +kernel
theorem dX12_symbol_33 : decode cX12_symbol 33 = .ok (.if_icmp .ge 119, 3) := by decide +kernel
theorem dX12_symbol_36 : decode cX12_symbol 36 = .ok (.iload_n 1, 1) := by decide +kernel
theorem dX12_symbol_37 : decode cX12_symbol 37 = .ok (.ifCond .eq 115, 3) := by decide +kernel
theorem dX12_symbol_4 : decode cX12_symbol 4 = .ok (.ifCond .le 16, 3) := by decide +kernel
theorem dX12_block_0 : decode cX12_block 0 = .ok (.aload_n 0, 1) := by decide +kernel
theorem dX12_block_1 : decode cX12_block 1 = .ok (.iload_n 1, 1) := by decide +kernel
theorem dX12_block_11 : decode cX12_block 11 = .ok (.iload_n 2, 1) := by decide +kernel
theorem dX12_block_12 : decode cX12_block 12 = .ok (.ifCond .lt 19, 3) := by decide +kernel
theorem dX12_block_15 : decode cX12_block 15 = .ok (.iload_n 2, 1) := by decide +kernel
theorem dX12_block_16 : decode cX12_block 16 = .ok (.bipush 63, 2) := by decide +kernel
theorem dX12_block_18 : decode cX12_block 18 = .ok (.if_icmp .gt 13, 3) := by decide +kernel
theorem dX12_block_2 : decode cX12_block 2 = .ok (.ifCond .lt 29, 3) := by decide +kernel
theorem dX12_block_21 : decode cX12_block 21 = .ok (.iload_n 3, 1) := by decide +kernel
theorem dX12_block_22 : decode cX12_block 22 = .ok (.ifCond .lt 9, 3) := by decide +kernel
theorem dX12_block_25 : decode cX12_block 25 = .ok (.iload_n 3, 1) := by decide +kernel
theorem dX12_block_26 : decode cX12_block 26 = .ok (.bipush 99, 2) := by decide +kernel
theorem dX12_block_28 : decode cX12_block 28 = .ok (.if_icmp .le 7, 3) := by decide +kernel
theorem dX12_block_31 : decode cX12_block 31 = .ok (.iconst 1, 1) := by decide +kernel
theorem dX12_block_32 : decode cX12_block 32 = .ok (.goto 4, 3) := by decide +kernel
theorem dX12_block_35 : decode cX12_block 35 = .ok (.iconst 0, 1) := by decide +kernel
theorem dX12_block_36 : decode cX12_block 36 = .ok (.putfield 155, 3) := by decide +kernel
theorem dX12_block_39 : decode cX12_block 39 = .ok (.aload_n 0, 1) := by decide +kernel
theorem dX12_block_40 : decode cX12_block 40 = .ok (.getfield 155, 3) := by decide +kernel
theorem dX12_block_43 : decode cX12_block 43 = .ok (.ifCond .ne 26, 3) := by decide +kernel
theorem dX12_block_46 : decode cX12_block 46 = .ok (.aload_n 0, 1) := by decide +kernel
theorem dX12_block_47 : decode cX12_block 47 = .ok (.getfield 48, 3) := by decide +kernel
theorem dX12_block_5 : decode cX12_block 5 = .ok (.iload_n 1, 1) := by decide +kernel
theorem dX12_block_50 : decode cX12_block 50 = .ok (.sipush 6400, 3) := by decide +kernel
theorem dX12_block_53 : decode cX12_block 53 = .ok (.iload_n 1, 1) := by decide +kernel
theorem dX12_block_54 : decode cX12_block 54 = .ok (.imul, 1) := by decide +kernel
theorem dX12_block_55 : decode cX12_block 55 = .ok (.bipush 100, 2) := by decide +kernel
theorem dX12_block_57 : decode cX12_block 57 = .ok (.iload_n 2, 1) := by decide +kernel
theorem dX12_block_58 : decode cX12_block 58 = .ok (.imul, 1) := by decide +kernel
theorem dX12_block_59 : decode cX12_block 59 = .ok (.iadd, 1) := by decide +kernel
theorem dX12_block_6 : decode cX12_block 6 = .ok (.bipush 15, 2) := by decide +kernel
theorem dX12_block_60 : decode cX12_block 60 = .ok (.iload_n 3, 1) := by decide +kernel
theorem dX12_block_61 : decode cX12_block 61 = .ok (.iadd, 1) := by decide +kernel
theorem dX12_block_62 : decode cX12_block 62 = .ok (.iaload, 1) := by decide +kernel
theorem dX12_block_63 : decode cX12_block 63 = .ok (.invokestatic 715, 3) := by decide +kernel
theorem dX12_block_66 : decode cX12_block 66 = .ok (.goto 4, 3) := by decide +kernel
theorem dX12_block_69 : decode cX12_block 69 = .ok (.iconst 0, 1) := by decide +kernel
theorem dX12_block_70 : decode cX12_block 70 = .ok (.ireturn, 1) := by decide +kernel
theorem dX12_block_8 : decode cX12_block 8 = .ok (.if_icmp .gt 23, 3) := by decide +kernel
set_option maxHeartbeats 4000000 in
set_option maxRecDepth 100000 in
theorem c_X12_value (l : Launch) (D : va_G) (K : Nat → ClassId)  : uMet l yX12_value cX12_value 1 (some .int) (rmD 0 0 0) D K X0 [.int 0] [] (QI D K (fun (r : Int32) (u : Nat → Nat) => r = 0) (fun (u : Nat → Nat) => [])) 0 0 := by
  refine k_met RX12 ⟨rfl, by decide +kernel⟩ (Nat.le_of_ble_eq_true rfl) ?_
  intro p e s m below meth c A ls C hX hr hlocks hin hA hP hD hS hl
  have hl : lv_has ls 1 [(0, .int 0)] := hl
  refine lv_iload_n C.1 C.2.1 dX12_value_0 rfl (lv_at hl 0 rfl) ?_
  refine lv_ldc (v := 1073741824) C.1 C.2.1 C.2.2.2.1 (C.2.2.2.2.1 _ m_34_19) dX12_value_1 ?_
  refine k_iand (v := 0) C (by decide) dX12_value_3 ?_
  refine lv_if_ne (tgt := 11) C.1 C.2.1 dX12_value_4 (by decide) (fun h => absurd h (by decide)) (fun _ => ?_)
  refine lv_iload_n C.1 C.2.1 dX12_value_7 rfl (lv_at hl 0 rfl) ?_
  refine lv_goto (tgt := 16) C.1 C.2.1 dX12_value_8 (by decide) ?_
  exact k_iret C hr hlocks hP hD hS rfl (fun _ => 0) [] rfl rfl rfl (Nat.le_of_ble_eq_true rfl) (Nat.le_of_ble_eq_true rfl) dX12_value_16
set_option maxHeartbeats 4000000 in
set_option maxRecDepth 100000 in
theorem c_X12_told (l : Launch) (D : va_G) (K : Nat → ClassId)  : uMet l yX12_told cX12_told 1 (some .int) (rmD 1 0 0) D K X0 [.int 0] [] (QI D K (fun (r : Int32) (u : Nat → Nat) => r = 0) (fun (u : Nat → Nat) => [])) 0 0 := by
  refine k_met RX12 ⟨rfl, by decide +kernel⟩ (Nat.le_of_ble_eq_true rfl) ?_
  intro p e s m below meth c A ls C hX hr hlocks hin hA hP hD hS hl
  have hl : lv_has ls 1 [(0, .int 0)] := hl
  refine lv_iload_n C.1 C.2.1 dX12_told_0 rfl (lv_at hl 0 rfl) ?_
  refine lv_ldc (v := 1073741824) C.1 C.2.1 C.2.2.2.1 (C.2.2.2.2.1 _ m_34_19) dX12_told_1 ?_
  refine lv_icmp_ne (tgt := 11) C.1 C.2.1 dX12_told_3 (by decide) (fun _ => ?_) (fun h => absurd h (by decide))
  refine lv_iload_n C.1 C.2.1 dX12_told_11 rfl (lv_at hl 0 rfl) ?_
  refine k_Si (As := [.int 0]) (rest := []) C hP hD hS hA (c_X12_value l D K ) X0_ok trivial (uwS m_36_9 m_36_10 m_1_5 m_36_11) (hdS 1 (by decide +kernel) rfl) ⟨Nat.le_of_ble_eq_true rfl, Nat.le_of_ble_eq_true rfl⟩ rfl rfl (isC := []) (isR := []) (wr := []) ⟨rfl, rfl, rfl, rfl, by decide⟩ rfl hl.1 (Nat.le_of_ble_eq_true rfl) dX12_told_12 ⟨Nat.le_of_ble_eq_true rfl, Nat.le_of_ble_eq_true rfl⟩ (fun r_2 u_1 H locs hw hP hD hS => ?_)
  obtain rfl := hw
  have hP : va_P D vwCl [] H := hP
  have hD : va_D A [] := hD
  exact k_iret C hr hlocks hP hD hS rfl (fun _ => 0) [] rfl rfl rfl (Nat.le_of_ble_eq_true rfl) (Nat.le_of_ble_eq_true rfl) dX12_told_15
set_option maxHeartbeats 4000000 in
set_option maxRecDepth 100000 in
theorem t_X12_register (l : Launch) (D : va_G) (K : Nat → ClassId) (a0 : Nat) (a1 : Nat) (s0 : List Value) (n0 : s0.length = 94) (x1 : Int32) (e0_7 : s0[7]? = some (.int 0)) (e0_6 : s0[6]? = some (.int 1)) (e0_5 : s0[5]? = some (.int 0)) (e0_4 : s0[4]? = some (.ref a1)) : uMet l yX12_register cX12_register 2 (some .int) (rmD 2 0 0) D K X0 [.ref a0, .int x1] [(a0, .inr (11, s0)), (a1, .inl (K 0, 9, .inl (fun _ => 0)))] (QI D K (fun (r : Int32) (u : List Value) => ((x1 < 0) ∧ r = 0 ∧ u[0]? = some (.int 1)) ∨ ((¬ x1 < 0) ∧ (x1 ≤ 11) ∧ (9 ≤ x1) ∧ (¬ x1 = 9) ∧ (¬ x1 = 10) ∧ r = 0 ∧ u[0]? = some (.int 0)) ∨ ((¬ x1 < 0) ∧ (x1 ≤ 11) ∧ (9 ≤ x1) ∧ (¬ x1 = 9) ∧ (x1 = 10) ∧ r = 0 ∧ u[0]? = some (.int 0)) ∨ ((¬ x1 < 0) ∧ (x1 ≤ 11) ∧ (9 ≤ x1) ∧ (x1 = 9) ∧ r = 0 ∧ u[0]? = some (.int 0)) ∨ ((¬ x1 < 0) ∧ (x1 ≤ 11) ∧ (¬ 9 ≤ x1) ∧ r = 0 ∧ u[0]? = some (.int 0)) ∨ ((¬ x1 < 0) ∧ (¬ x1 ≤ 11) ∧ r = 0 ∧ u[0]? = some (.int 1))) (fun (u : List Value) => [(a0, .inr (11, u))])) 0 0 := by
  refine k_met RX12 ⟨rfl, by decide +kernel⟩ (Nat.le_of_ble_eq_true rfl) ?_
  intro p e s m below meth c A ls C hX hr hlocks hin hA hP hD hS hl
  have hl : lv_has ls 2 [(0, .ref a0), (1, .int x1)] := hl
  refine lv_aload_n C.1 C.2.1 dX12_register_0 rfl (lv_at hl 0 rfl) ?_
  refine lv_iload_n C.1 C.2.1 dX12_register_1 rfl (lv_at hl 1 rfl) ?_
  refine lv_if_lt (tgt := 11) C.1 C.2.1 dX12_register_2 (by decide) (fun c_1 => ?_) (fun c_1 => ?_)
  · refine lv_iconst (v := 1) C.1 C.2.1 dX12_register_11 (by decide) ?_
    refine lv_goto (tgt := 16) C.1 C.2.1 dX12_register_12 (by decide) ?_
    refine k_put (ws' := [(a0, .inr (11, (s0.set 0 (.int 1)))), (a1, .inl (K 0, 9, .inl (fun _ => 0)))]) (v := .int 1) C hP hD hS 0 rfl rfl inlX12 tyX12_ok nmX12 0 (by decide) m_9_18 rfl rfl rfl n0 rfl dX12_register_16 (fun H locs hP hD hS => ?_)
    refine lv_aload_n C.1 C.2.1 dX12_register_19 rfl (lv_at hl 0 rfl) ?_
    refine k_get (v := .int 1) C hP 0 rfl rfl inlX12 0 (by decide) m_9_18 (ss (sk n0 (by decide))) dX12_register_20 ?_
    refine lv_if_eq (tgt := 28) C.1 C.2.1 dX12_register_23 (by decide) (fun h => absurd h (by decide)) (fun _ => ?_)
    refine lv_iconst (v := 0) C.1 C.2.1 dX12_register_26 (by decide) ?_
    exact k_iret C hr hlocks hP hD hS rfl (s0.set 0 (.int 1)) [0] rfl rfl (Or.inl ⟨c_1, rfl, (ss (sk n0 (by decide)))⟩) (Nat.le_of_ble_eq_true rfl) (Nat.le_of_ble_eq_true rfl) dX12_register_27
  · refine lv_iload_n C.1 C.2.1 dX12_register_5 rfl (lv_at hl 1 rfl) ?_
    refine lv_bipush (v := 11) C.1 C.2.1 dX12_register_6 (by decide) ?_
    refine lv_icmp_le (tgt := 15) C.1 C.2.1 dX12_register_8 (by decide) (fun c_2 => ?_) (fun c_2 => ?_)
    · refine lv_iconst (v := 0) C.1 C.2.1 dX12_register_15 (by decide) ?_
      refine k_put (ws' := [(a0, .inr (11, (s0.set 0 (.int 0)))), (a1, .inl (K 0, 9, .inl (fun _ => 0)))]) (v := .int 0) C hP hD hS 0 rfl rfl inlX12 tyX12_ok nmX12 0 (by decide) m_9_18 rfl rfl rfl n0 rfl dX12_register_16 (fun H locs hP hD hS => ?_)
      refine lv_aload_n C.1 C.2.1 dX12_register_19 rfl (lv_at hl 0 rfl) ?_
      refine k_get (v := .int 0) C hP 0 rfl rfl inlX12 0 (by decide) m_9_18 (ss (sk n0 (by decide))) dX12_register_20 ?_
      refine lv_if_eq (tgt := 28) C.1 C.2.1 dX12_register_23 (by decide) (fun _ => ?_) (fun h => absurd (by decide) h)
      refine lv_iload_n C.1 C.2.1 dX12_register_28 rfl (lv_at hl 1 rfl) ?_
      refine lv_bipush (v := 9) C.1 C.2.1 dX12_register_29 (by decide) ?_
      refine lv_icmp_ge (tgt := 44) C.1 C.2.1 dX12_register_31 (by decide) (fun c_3 => ?_) (fun c_3 => ?_)
      · refine lv_iload_n C.1 C.2.1 dX12_register_44 rfl (lv_at hl 1 rfl) ?_
        refine lv_bipush (v := 9) C.1 C.2.1 dX12_register_45 (by decide) ?_
        refine lv_icmp_ne (tgt := 65) C.1 C.2.1 dX12_register_47 (by decide) (fun c_4 => ?_) (fun c_4 => ?_)
        · refine lv_iload_n C.1 C.2.1 dX12_register_65 rfl (lv_at hl 1 rfl) ?_
          refine lv_bipush (v := 10) C.1 C.2.1 dX12_register_66 (by decide) ?_
          refine lv_icmp_ne (tgt := 80) C.1 C.2.1 dX12_register_68 (by decide) (fun c_5 => ?_) (fun c_5 => ?_)
          · refine lv_aload_n C.1 C.2.1 dX12_register_80 rfl (lv_at hl 0 rfl) ?_
            refine k_get (v := .int 0) C hP 0 rfl rfl inlX12 7 (by decide) m_29_22 (sn (by decide) e0_7) dX12_register_81 ?_
            exact k_iret C hr hlocks hP hD hS rfl (s0.set 0 (.int 0)) [0] rfl rfl (Or.inr (Or.inl ⟨c_1, c_2, c_3, c_4, c_5, rfl, (ss (sk n0 (by decide)))⟩)) (Nat.le_of_ble_eq_true rfl) (Nat.le_of_ble_eq_true rfl) dX12_register_84
          · refine lv_aload_n C.1 C.2.1 dX12_register_71 rfl (lv_at hl 0 rfl) ?_
            refine k_get (v := .int 1) C hP 0 rfl rfl inlX12 6 (by decide) m_7_7 (sn (by decide) e0_6) dX12_register_72 ?_
            refine lv_iconst (v := 1) C.1 C.2.1 dX12_register_75 (by decide) ?_
            refine k_isub (v := 0) C (by decide) dX12_register_76 ?_
            refine lv_goto (tgt := 84) C.1 C.2.1 dX12_register_77 (by decide) ?_
            exact k_iret C hr hlocks hP hD hS rfl (s0.set 0 (.int 0)) [0] rfl rfl (Or.inr (Or.inr (Or.inl ⟨c_1, c_2, c_3, c_4, c_5, rfl, (ss (sk n0 (by decide)))⟩))) (Nat.le_of_ble_eq_true rfl) (Nat.le_of_ble_eq_true rfl) dX12_register_84
        · refine lv_aload_n C.1 C.2.1 dX12_register_50 rfl (lv_at hl 0 rfl) ?_
          refine k_get (v := .int 0) C hP 0 rfl rfl inlX12 5 (by decide) m_29_21 (sn (by decide) e0_5) dX12_register_51 ?_
          refine lv_if_eq (tgt := 61) C.1 C.2.1 dX12_register_54 (by decide) (fun _ => ?_) (fun h => absurd (by decide) h)
          refine lv_iconst (v := 0) C.1 C.2.1 dX12_register_61 (by decide) ?_
          refine lv_goto (tgt := 84) C.1 C.2.1 dX12_register_62 (by decide) ?_
          exact k_iret C hr hlocks hP hD hS rfl (s0.set 0 (.int 0)) [0] rfl rfl (Or.inr (Or.inr (Or.inr (Or.inl ⟨c_1, c_2, c_3, c_4, rfl, (ss (sk n0 (by decide)))⟩)))) (Nat.le_of_ble_eq_true rfl) (Nat.le_of_ble_eq_true rfl) dX12_register_84
      · refine lv_aload_n C.1 C.2.1 dX12_register_34 rfl (lv_at hl 0 rfl) ?_
        refine k_get (v := .ref a1) C hP 0 rfl rfl inlX12 4 (by decide) m_7_6 (sn (by decide) e0_4) dX12_register_35 ?_
        refine lv_iload_n C.1 C.2.1 dX12_register_38 rfl (lv_at hl 1 rfl) ?_
        refine k_ild (v := 0) C hP 1 rfl (vp_in_iff.mpr (by simp only [Int32.lt_iff_toInt_lt, Int32.le_iff_toInt_le, ← Int32.toInt_inj] at c_1 c_2 c_3 ⊢; have k0 : (0 : Int32).toInt = 0 := (by decide); have k1 : (11 : Int32).toInt = 11 := (by decide); have k2 : (9 : Int32).toInt = 9 := (by decide); exact ⟨by omega, by omega⟩)) rfl dX12_register_39 ?_
        refine k_Si (As := [.int 0]) (rest := []) C hP hD hS hA (c_X12_told l D K ) X0_ok trivial (uwS m_84_13 m_84_14 m_1_5 m_84_15) (hdS 1 (by decide +kernel) rfl) ⟨Nat.le_of_ble_eq_true rfl, Nat.le_of_ble_eq_true rfl⟩ rfl rfl (isC := []) (isR := [0, 1]) (wr := [(a0, .inr (11, (s0.set 0 (.int 0)))), (a1, .inl (K 0, 9, .inl (fun _ => 0)))]) ⟨rfl, rfl, rfl, rfl, by decide⟩ rfl hl.1 (Nat.le_of_ble_eq_true rfl) dX12_register_40 ⟨Nat.le_of_ble_eq_true rfl, Nat.le_of_ble_eq_true rfl⟩ (fun r_7 u_6 H locs hw hP hD hS => ?_)
        obtain rfl := hw
        have hP : va_P D vwCl [(a0, .inr (11, (s0.set 0 (.int 0)))), (a1, .inl (K 0, 9, .inl (fun _ => 0)))] H := hP
        have hD : va_D A [(a0, .inr (11, (s0.set 0 (.int 0)))), (a1, .inl (K 0, 9, .inl (fun _ => 0)))] := hD
        exact k_iret C hr hlocks hP hD hS rfl (s0.set 0 (.int 0)) [0] rfl rfl (Or.inr (Or.inr (Or.inr (Or.inr (Or.inl ⟨c_1, c_2, c_3, rfl, (ss (sk n0 (by decide)))⟩))))) (Nat.le_of_ble_eq_true rfl) (Nat.le_of_ble_eq_true rfl) dX12_register_43
    · refine lv_iconst (v := 1) C.1 C.2.1 dX12_register_11 (by decide) ?_
      refine lv_goto (tgt := 16) C.1 C.2.1 dX12_register_12 (by decide) ?_
      refine k_put (ws' := [(a0, .inr (11, (s0.set 0 (.int 1)))), (a1, .inl (K 0, 9, .inl (fun _ => 0)))]) (v := .int 1) C hP hD hS 0 rfl rfl inlX12 tyX12_ok nmX12 0 (by decide) m_9_18 rfl rfl rfl n0 rfl dX12_register_16 (fun H locs hP hD hS => ?_)
      refine lv_aload_n C.1 C.2.1 dX12_register_19 rfl (lv_at hl 0 rfl) ?_
      refine k_get (v := .int 1) C hP 0 rfl rfl inlX12 0 (by decide) m_9_18 (ss (sk n0 (by decide))) dX12_register_20 ?_
      refine lv_if_eq (tgt := 28) C.1 C.2.1 dX12_register_23 (by decide) (fun h => absurd h (by decide)) (fun _ => ?_)
      refine lv_iconst (v := 0) C.1 C.2.1 dX12_register_26 (by decide) ?_
      exact k_iret C hr hlocks hP hD hS rfl (s0.set 0 (.int 1)) [0] rfl rfl (Or.inr (Or.inr (Or.inr (Or.inr (Or.inr ⟨c_1, c_2, rfl, (ss (sk n0 (by decide)))⟩))))) (Nat.le_of_ble_eq_true rfl) (Nat.le_of_ble_eq_true rfl) dX12_register_27
set_option maxHeartbeats 4000000 in
set_option maxRecDepth 100000 in
theorem c_X12_isAddress (l : Launch) (D : va_G) (K : Nat → ClassId) (x0 : Int32) : uMet l yX12_isAddress cX12_isAddress 1 (some .boolean) (rmD 0 0 0) D K X0 [.int x0] [] (QI D K (fun (r : Int32) (u : Nat → Nat) => ((x0 < (-3999)) ∧ r = 0) ∨ ((¬ x0 < (-3999)) ∧ (3999 < x0) ∧ r = 0) ∨ ((¬ x0 < (-3999)) ∧ (¬ 3999 < x0) ∧ r = 1)) (fun (u : Nat → Nat) => [])) 0 0 := by
  refine k_met RX12 ⟨rfl, by decide +kernel⟩ (Nat.le_of_ble_eq_true rfl) ?_
  intro p e s m below meth c A ls C hX hr hlocks hin hA hP hD hS hl
  have hl : lv_has ls 1 [(0, .int x0)] := hl
  refine lv_iload_n C.1 C.2.1 dX12_isAddress_0 rfl (lv_at hl 0 rfl) ?_
  refine lv_sipush (v := (-3999)) C.1 C.2.1 dX12_isAddress_1 (by decide) ?_
  refine lv_icmp_lt (tgt := 18) C.1 C.2.1 dX12_isAddress_4 (by decide) (fun c_1 => ?_) (fun c_1 => ?_)
  · refine lv_iconst (v := 0) C.1 C.2.1 dX12_isAddress_18 (by decide) ?_
    exact k_iret C hr hlocks hP hD hS (by decide) (fun _ => 0) [] rfl rfl (Or.inl ⟨c_1, rfl⟩) (Nat.le_of_ble_eq_true rfl) (Nat.le_of_ble_eq_true rfl) dX12_isAddress_19
  · refine lv_iload_n C.1 C.2.1 dX12_isAddress_7 rfl (lv_at hl 0 rfl) ?_
    refine lv_sipush (v := 3999) C.1 C.2.1 dX12_isAddress_8 (by decide) ?_
    refine lv_icmp_gt (tgt := 18) C.1 C.2.1 dX12_isAddress_11 (by decide) (fun c_2 => ?_) (fun c_2 => ?_)
    · refine lv_iconst (v := 0) C.1 C.2.1 dX12_isAddress_18 (by decide) ?_
      exact k_iret C hr hlocks hP hD hS (by decide) (fun _ => 0) [] rfl rfl (Or.inr (Or.inl ⟨c_1, c_2, rfl⟩)) (Nat.le_of_ble_eq_true rfl) (Nat.le_of_ble_eq_true rfl) dX12_isAddress_19
    · refine lv_iconst (v := 1) C.1 C.2.1 dX12_isAddress_14 (by decide) ?_
      refine lv_goto (tgt := 19) C.1 C.2.1 dX12_isAddress_15 (by decide) ?_
      exact k_iret C hr hlocks hP hD hS (by decide) (fun _ => 0) [] rfl rfl (Or.inr (Or.inr ⟨c_1, c_2, rfl⟩)) (Nat.le_of_ble_eq_true rfl) (Nat.le_of_ble_eq_true rfl) dX12_isAddress_19
set_option maxHeartbeats 4000000 in
set_option maxRecDepth 100000 in
theorem c_X12_memoryAt (l : Launch) (D : va_G) (K : Nat → ClassId) (a0 : Nat) (a1 : Nat) (s0 : List Value) (n0 : s0.length = 94) (x1 : Int32) (hp0 : (-3999) ≤ x1) (hp1 : x1 ≤ 3999) (e0_3 : s0[3]? = some (.ref a1)) : uMet l yX12_memoryAt cX12_memoryAt 2 (some .int) (rmD 0 0 0) D K X0 [.ref a0, .int x1] [(a0, .inr (11, s0)), (a1, .inl (K 0, 7999, .inl (fun _ => 0)))] (QI D K (fun (r : Int32) (u : Nat → Nat) => r = 0) (fun (u : Nat → Nat) => [(a0, .inr (11, s0)), (a1, .inl (K 0, 7999, .inl (fun _ => 0)))])) 0 0 := by
  refine k_met RX12 ⟨rfl, by decide +kernel⟩ (Nat.le_of_ble_eq_true rfl) ?_
  intro p e s m below meth c A ls C hX hr hlocks hin hA hP hD hS hl
  have hl : lv_has ls 2 [(0, .ref a0), (1, .int x1)] := hl
  refine lv_aload_n C.1 C.2.1 dX12_memoryAt_0 rfl (lv_at hl 0 rfl) ?_
  refine k_get (v := .ref a1) C hP 0 rfl rfl inlX12 3 (by decide) m_7_5 e0_3 dX12_memoryAt_1 ?_
  refine lv_iload_n C.1 C.2.1 dX12_memoryAt_4 rfl (lv_at hl 1 rfl) ?_
  refine lv_sipush (v := (-3999)) C.1 C.2.1 dX12_memoryAt_5 (by decide) ?_
  refine k_isub (v := (x1 - (-3999))) C rfl dX12_memoryAt_8 ?_
  refine k_ild (v := 0) C hP 1 rfl (vp_in_iff.mpr (by simp only [Int32.lt_iff_toInt_lt, Int32.le_iff_toInt_le, ← Int32.toInt_inj] at hp0 hp1 ⊢; have k0 : ((-3999) : Int32).toInt = -3999 := (by decide); have k1 : (3999 : Int32).toInt = 3999 := (by decide); have k2 := ti_isub (x := x1) (y := (-3999)) (by omega) (by omega); exact ⟨by omega, by omega⟩)) rfl dX12_memoryAt_9 ?_
  exact k_iret C hr hlocks hP hD hS rfl (fun _ => 0) [0, 1] rfl rfl rfl (Nat.le_of_ble_eq_true rfl) (Nat.le_of_ble_eq_true rfl) dX12_memoryAt_10
set_option maxHeartbeats 4000000 in
set_option maxRecDepth 100000 in
theorem t_X12_word (l : Launch) (D : va_G) (K : Nat → ClassId) (a0 : Nat) (a1 : Nat) (s0 : List Value) (n0 : s0.length = 94) (x1 : Int32) (e0_3 : s0[3]? = some (.ref a1)) : uMet l yX12_word cX12_word 2 (some .int) (rmD 2 0 0) D K X0 [.ref a0, .int x1] [(a0, .inr (11, s0)), (a1, .inl (K 0, 7999, .inl (fun _ => 0)))] (QI D K (fun (r : Int32) (u : List Value) => ((x1 < (-3999)) ∧ r = 0 ∧ u[0]? = some (.int 1)) ∨ ((¬ x1 < (-3999)) ∧ (3999 < x1) ∧ r = 0 ∧ u[0]? = some (.int 1)) ∨ ((¬ x1 < (-3999)) ∧ (¬ 3999 < x1) ∧ r = 0 ∧ u[0]? = some (.int 0))) (fun (u : List Value) => [(a0, .inr (11, u))])) 0 0 := by
  refine k_met RX12 ⟨rfl, by decide +kernel⟩ (Nat.le_of_ble_eq_true rfl) ?_
  intro p e s m below meth c A ls C hX hr hlocks hin hA hP hD hS hl
  have hl : lv_has ls 2 [(0, .ref a0), (1, .int x1)] := hl
  refine lv_aload_n C.1 C.2.1 dX12_word_0 rfl (lv_at hl 0 rfl) ?_
  refine lv_iload_n C.1 C.2.1 dX12_word_1 rfl (lv_at hl 1 rfl) ?_
  refine k_Si (As := [.int x1]) (rest := [.ref a0]) C hP hD hS hA (c_X12_isAddress l D K x1) X0_ok trivial (uwS m_85_8 m_85_9 m_1_5 m_85_10) (hdS 1 (by decide +kernel) rfl) ⟨Nat.le_of_ble_eq_true rfl, Nat.le_of_ble_eq_true rfl⟩ rfl rfl (isC := []) (isR := [0, 1]) (wr := [(a0, .inr (11, s0)), (a1, .inl (K 0, 7999, .inl (fun _ => 0)))]) ⟨rfl, rfl, rfl, rfl, by decide⟩ rfl hl.1 (Nat.le_of_ble_eq_true rfl) dX12_word_2 ⟨Nat.le_of_ble_eq_true rfl, Nat.le_of_ble_eq_true rfl⟩ (fun r_2 u_1 H locs hw hP hD hS => ?_)
  rcases hw with ⟨c_3, rfl⟩ | ⟨c_4, c_5, rfl⟩ | ⟨c_6, c_7, rfl⟩
  · have hP : va_P D vwCl [(a0, .inr (11, s0)), (a1, .inl (K 0, 7999, .inl (fun _ => 0)))] H := hP
    have hD : va_D A [(a0, .inr (11, s0)), (a1, .inl (K 0, 7999, .inl (fun _ => 0)))] := hD
    refine lv_if_eq (tgt := 12) C.1 C.2.1 dX12_word_5 (by decide) (fun _ => ?_) (fun h => absurd (by decide) h)
    refine lv_iconst (v := 1) C.1 C.2.1 dX12_word_12 (by decide) ?_
    refine k_put (ws' := [(a0, .inr (11, (s0.set 0 (.int 1)))), (a1, .inl (K 0, 7999, .inl (fun _ => 0)))]) (v := .int 1) C hP hD hS 0 rfl rfl inlX12 tyX12_ok nmX12 0 (by decide) m_9_18 rfl rfl rfl n0 rfl dX12_word_13 (fun H locs hP hD hS => ?_)
    refine lv_aload_n C.1 C.2.1 dX12_word_16 rfl (lv_at hl 0 rfl) ?_
    refine k_get (v := .int 1) C hP 0 rfl rfl inlX12 0 (by decide) m_9_18 (ss (sk n0 (by decide))) dX12_word_17 ?_
    refine lv_if_ne (tgt := 34) C.1 C.2.1 dX12_word_20 (by decide) (fun _ => ?_) (fun h => absurd h (by decide))
    refine lv_iconst (v := 0) C.1 C.2.1 dX12_word_34 (by decide) ?_
    exact k_iret C hr hlocks hP hD hS rfl (s0.set 0 (.int 1)) [0] rfl rfl (Or.inl ⟨c_3, rfl, (ss (sk n0 (by decide)))⟩) (Nat.le_of_ble_eq_true rfl) (Nat.le_of_ble_eq_true rfl) dX12_word_35
  · have hP : va_P D vwCl [(a0, .inr (11, s0)), (a1, .inl (K 0, 7999, .inl (fun _ => 0)))] H := hP
    have hD : va_D A [(a0, .inr (11, s0)), (a1, .inl (K 0, 7999, .inl (fun _ => 0)))] := hD
    refine lv_if_eq (tgt := 12) C.1 C.2.1 dX12_word_5 (by decide) (fun _ => ?_) (fun h => absurd (by decide) h)
    refine lv_iconst (v := 1) C.1 C.2.1 dX12_word_12 (by decide) ?_
    refine k_put (ws' := [(a0, .inr (11, (s0.set 0 (.int 1)))), (a1, .inl (K 0, 7999, .inl (fun _ => 0)))]) (v := .int 1) C hP hD hS 0 rfl rfl inlX12 tyX12_ok nmX12 0 (by decide) m_9_18 rfl rfl rfl n0 rfl dX12_word_13 (fun H locs hP hD hS => ?_)
    refine lv_aload_n C.1 C.2.1 dX12_word_16 rfl (lv_at hl 0 rfl) ?_
    refine k_get (v := .int 1) C hP 0 rfl rfl inlX12 0 (by decide) m_9_18 (ss (sk n0 (by decide))) dX12_word_17 ?_
    refine lv_if_ne (tgt := 34) C.1 C.2.1 dX12_word_20 (by decide) (fun _ => ?_) (fun h => absurd h (by decide))
    refine lv_iconst (v := 0) C.1 C.2.1 dX12_word_34 (by decide) ?_
    exact k_iret C hr hlocks hP hD hS rfl (s0.set 0 (.int 1)) [0] rfl rfl (Or.inr (Or.inl ⟨c_4, c_5, rfl, (ss (sk n0 (by decide)))⟩)) (Nat.le_of_ble_eq_true rfl) (Nat.le_of_ble_eq_true rfl) dX12_word_35
  · have hP : va_P D vwCl [(a0, .inr (11, s0)), (a1, .inl (K 0, 7999, .inl (fun _ => 0)))] H := hP
    have hD : va_D A [(a0, .inr (11, s0)), (a1, .inl (K 0, 7999, .inl (fun _ => 0)))] := hD
    refine lv_if_eq (tgt := 12) C.1 C.2.1 dX12_word_5 (by decide) (fun h => absurd h (by decide)) (fun _ => ?_)
    refine lv_iconst (v := 0) C.1 C.2.1 dX12_word_8 (by decide) ?_
    refine lv_goto (tgt := 13) C.1 C.2.1 dX12_word_9 (by decide) ?_
    refine k_put (ws' := [(a0, .inr (11, (s0.set 0 (.int 0)))), (a1, .inl (K 0, 7999, .inl (fun _ => 0)))]) (v := .int 0) C hP hD hS 0 rfl rfl inlX12 tyX12_ok nmX12 0 (by decide) m_9_18 rfl rfl rfl n0 rfl dX12_word_13 (fun H locs hP hD hS => ?_)
    refine lv_aload_n C.1 C.2.1 dX12_word_16 rfl (lv_at hl 0 rfl) ?_
    refine k_get (v := .int 0) C hP 0 rfl rfl inlX12 0 (by decide) m_9_18 (ss (sk n0 (by decide))) dX12_word_17 ?_
    refine lv_if_ne (tgt := 34) C.1 C.2.1 dX12_word_20 (by decide) (fun h => absurd h (by decide)) (fun _ => ?_)
    refine lv_aload_n C.1 C.2.1 dX12_word_23 rfl (lv_at hl 0 rfl) ?_
    refine lv_iload_n C.1 C.2.1 dX12_word_24 rfl (lv_at hl 1 rfl) ?_
    refine k_Vi (As := [.int x1]) (rest := []) C hP hD hS hA (c_X12_memoryAt l D K a0 a1 ((s0.set 0 (.int 0))) (sl n0) x1 (by simp only [Int32.lt_iff_toInt_lt, Int32.le_iff_toInt_le, ← Int32.toInt_inj] at c_6 c_7 ⊢; have k0 : ((-3999) : Int32).toInt = -3999 := (by decide); have k1 : (3999 : Int32).toInt = 3999 := (by decide); omega) (by simp only [Int32.lt_iff_toInt_lt, Int32.le_iff_toInt_le, ← Int32.toInt_inj] at c_6 c_7 ⊢; have k0 : ((-3999) : Int32).toInt = -3999 := (by decide); have k1 : (3999 : Int32).toInt = 3999 := (by decide); omega) (sn (by decide) e0_3)) X0_ok trivial (uwV m_38_19 m_38_20 m_38_21 m_1_5 m_38_22) (hdV 1 (by decide +kernel) rfl) ⟨Nat.le_of_ble_eq_true rfl, Nat.le_of_ble_eq_true rfl⟩ rfl rfl (ci := 11) rfl rfl (isC := [0, 1]) (isR := []) (wr := []) ⟨rfl, rfl, rfl, rfl, by decide⟩ rfl hl.1 (Nat.le_of_ble_eq_true rfl) dX12_word_25 ⟨Nat.le_of_ble_eq_true rfl, Nat.le_of_ble_eq_true rfl⟩ (fun r_9 u_8 H locs hw hP hD hS => ?_)
    obtain rfl := hw
    have hP : va_P D vwCl [(a0, .inr (11, (s0.set 0 (.int 0)))), (a1, .inl (K 0, 7999, .inl (fun _ => 0)))] H := hP
    have hD : va_D A [(a0, .inr (11, (s0.set 0 (.int 0)))), (a1, .inl (K 0, 7999, .inl (fun _ => 0)))] := hD
    refine k_Si (As := [.int 0]) (rest := []) C hP hD hS hA (c_X12_told l D K ) X0_ok trivial (uwS m_84_13 m_84_14 m_1_5 m_84_15) (hdS 1 (by decide +kernel) rfl) ⟨Nat.le_of_ble_eq_true rfl, Nat.le_of_ble_eq_true rfl⟩ rfl rfl (isC := []) (isR := [0, 1]) (wr := [(a0, .inr (11, (s0.set 0 (.int 0)))), (a1, .inl (K 0, 7999, .inl (fun _ => 0)))]) ⟨rfl, rfl, rfl, rfl, by decide⟩ rfl hl.1 (Nat.le_of_ble_eq_true rfl) dX12_word_28 ⟨Nat.le_of_ble_eq_true rfl, Nat.le_of_ble_eq_true rfl⟩ (fun r_11 u_10 H locs hw hP hD hS => ?_)
    obtain rfl := hw
    have hP : va_P D vwCl [(a0, .inr (11, (s0.set 0 (.int 0)))), (a1, .inl (K 0, 7999, .inl (fun _ => 0)))] H := hP
    have hD : va_D A [(a0, .inr (11, (s0.set 0 (.int 0)))), (a1, .inl (K 0, 7999, .inl (fun _ => 0)))] := hD
    refine lv_goto (tgt := 35) C.1 C.2.1 dX12_word_31 (by decide) ?_
    exact k_iret C hr hlocks hP hD hS rfl (s0.set 0 (.int 0)) [0] rfl rfl (Or.inr (Or.inr ⟨c_6, c_7, rfl, (ss (sk n0 (by decide)))⟩)) (Nat.le_of_ble_eq_true rfl) (Nat.le_of_ble_eq_true rfl) dX12_word_35
set_option maxHeartbeats 4000000 in
set_option maxRecDepth 100000 in
theorem t_X12_symbol (l : Launch) (D : va_G) (K : Nat → ClassId) (a0 : Nat) (s0 : List Value) (n0 : s0.length = 94) (e0_2 : s0[2]? = some (.int 0)) (e0_42 : s0[42]? = some (.int 0)) : uMet l yX12_symbol cX12_symbol 7 (some .int) (rmD 0 0 0) D K X0 [.ref a0] [(a0, .inr (11, s0))] (QI D K (fun (r : Int32) (u : List Value) => r = 0 ∧ u[0]? = some (.int 1)) (fun (u : List Value) => [(a0, .inr (11, u))])) 0 0 := by
  refine k_met RX12 ⟨rfl, by decide +kernel⟩ (Nat.le_of_ble_eq_true rfl) ?_
  intro p e s m below meth c A ls C hX hr hlocks hin hA hP hD hS hl
  have hl : lv_has ls 7 [(0, .ref a0)] := hl
  refine lv_aload_n C.1 C.2.1 dX12_symbol_0 rfl (lv_at hl 0 rfl) ?_
  refine k_get (v := .int 0) C hP 0 rfl rfl inlX12 2 (by decide) m_9_19 e0_2 dX12_symbol_1 ?_
  refine lv_if_le (tgt := 20) C.1 C.2.1 dX12_symbol_4 (by decide) (fun _ => ?_) (fun h => absurd (by decide) h)
  refine lv_iconst (v := 0) C.1 C.2.1 dX12_symbol_20 (by decide) ?_
  refine lv_istore_n (lv' := [(1, .int 0), (0, .ref a0)]) C.1 C.2.1 dX12_symbol_21 rfl hl (by decide) rfl (fun ls hl => ?_)
  refine lv_iconst (v := 0) C.1 C.2.1 dX12_symbol_22 (by decide) ?_
  refine lv_istore_n (lv' := [(2, .int 0), (1, .int 0), (0, .ref a0)]) C.1 C.2.1 dX12_symbol_23 rfl hl (by decide) rfl (fun ls hl => ?_)
  refine lv_lconst (v := 0) C.1 C.2.1 dX12_symbol_24 (by decide) ?_
  refine lv_lstore_n (lv' := [(3, .long 0), (2, .int 0), (1, .int 0), (0, .ref a0)]) C.1 C.2.1 dX12_symbol_25 rfl hl (by decide) rfl (fun ls hl => ?_)
  refine lv_iconst (v := 0) C.1 C.2.1 dX12_symbol_26 (by decide) ?_
  refine lv_istore (lv' := [(5, .int 0), (3, .long 0), (2, .int 0), (1, .int 0), (0, .ref a0)]) C.1 C.2.1 dX12_symbol_27 hl (by decide) rfl (fun ls hl => ?_)
  refine lv_iload C.1 C.2.1 dX12_symbol_29 (lv_at hl 0 rfl) ?_
  refine lv_bipush (v := 10) C.1 C.2.1 dX12_symbol_31 (by decide) ?_
  refine lv_icmp_ge (tgt := 152) C.1 C.2.1 dX12_symbol_33 (by decide) (fun h => absurd h (by decide)) (fun _ => ?_)
  refine lv_iload_n C.1 C.2.1 dX12_symbol_36 rfl (lv_at hl 3 rfl) ?_
  refine lv_if_eq (tgt := 152) C.1 C.2.1 dX12_symbol_37 (by decide) (fun _ => ?_) (fun h => absurd (by decide) h)
  refine lv_aload_n C.1 C.2.1 dX12_symbol_152 rfl (lv_at hl 4 rfl) ?_
  refine lv_iconst (v := 0) C.1 C.2.1 dX12_symbol_153 (by decide) ?_
  refine k_put (ws' := [(a0, .inr (11, (s0.set 2 (.int 0))))]) (v := .int 0) C hP hD hS 0 rfl rfl inlX12 tyX12_ok nmX12 2 (by decide) m_9_19 rfl rfl rfl n0 rfl dX12_symbol_154 (fun H locs hP hD hS => ?_)
  refine lv_aload_n C.1 C.2.1 dX12_symbol_157 rfl (lv_at hl 4 rfl) ?_
  refine k_get (v := .int 0) C hP 0 rfl rfl inlX12 42 (by decide) m_29_16 (sn (by decide) e0_42) dX12_symbol_158 ?_
  refine lv_if_eq (tgt := 180) C.1 C.2.1 dX12_symbol_161 (by decide) (fun _ => ?_) (fun h => absurd (by decide) h)
  refine lv_iconst (v := (-1)) C.1 C.2.1 dX12_symbol_180 (by decide) ?_
  refine lv_istore (lv' := [(5, .int (-1)), (3, .long 0), (2, .int 0), (1, .int 0), (0, .ref a0)]) C.1 C.2.1 dX12_symbol_181 hl (by decide) rfl (fun ls hl => ?_)
  refine lv_aload_n C.1 C.2.1 dX12_symbol_183 rfl (lv_at hl 4 rfl) ?_
  refine lv_iload C.1 C.2.1 dX12_symbol_184 (lv_at hl 0 rfl) ?_
  refine lv_iconst (v := (-1)) C.1 C.2.1 dX12_symbol_186 (by decide) ?_
  refine lv_icmp_eq (tgt := 204) C.1 C.2.1 dX12_symbol_187 (by decide) (fun _ => ?_) (fun h => absurd (by decide) h)
  refine lv_iconst (v := 1) C.1 C.2.1 dX12_symbol_204 (by decide) ?_
  refine k_put (ws' := [(a0, .inr (11, ((s0.set 2 (.int 0)).set 0 (.int 1))))]) (v := .int 1) C hP hD hS 0 rfl rfl inlX12 tyX12_ok nmX12 0 (by decide) m_9_18 rfl rfl rfl (sl n0) rfl dX12_symbol_205 (fun H locs hP hD hS => ?_)
  refine lv_aload_n C.1 C.2.1 dX12_symbol_208 rfl (lv_at hl 4 rfl) ?_
  refine k_get (v := .int 1) C hP 0 rfl rfl inlX12 0 (by decide) m_9_18 (ss (sk (sl n0) (by decide))) dX12_symbol_209 ?_
  refine lv_if_ne (tgt := 228) C.1 C.2.1 dX12_symbol_212 (by decide) (fun _ => ?_) (fun h => absurd h (by decide))
  refine lv_iconst (v := 0) C.1 C.2.1 dX12_symbol_228 (by decide) ?_
  exact k_iret C hr hlocks hP hD hS rfl ((s0.set 2 (.int 0)).set 0 (.int 1)) [0] rfl rfl ⟨rfl, (ss (sk (sl n0) (by decide)))⟩ (Nat.le_of_ble_eq_true rfl) (Nat.le_of_ble_eq_true rfl) dX12_symbol_229
set_option maxHeartbeats 4000000 in
set_option maxRecDepth 100000 in
theorem t_X12_block (l : Launch) (D : va_G) (K : Nat → ClassId) (a0 : Nat) (a1 : Nat) (s0 : List Value) (n0 : s0.length = 94) (x1 : Int32) (x2 : Int32) (x3 : Int32) (e0_25 : s0[25]? = some (.ref a1)) : uMet l yX12_block cX12_block 4 (some .int) (rmD 2 0 0) D K X0 [.ref a0, .int x1, .int x2, .int x3] [(a0, .inr (11, s0)), (a1, .inl (K 0, 102400, .inl (fun _ => 0)))] (QI D K (fun (r : Int32) (u : List Value) => ((x1 < 0) ∧ r = 0 ∧ u[0]? = some (.int 1)) ∨ ((¬ x1 < 0) ∧ (15 < x1) ∧ r = 0 ∧ u[0]? = some (.int 1)) ∨ ((¬ x1 < 0) ∧ (¬ 15 < x1) ∧ (x2 < 0) ∧ r = 0 ∧ u[0]? = some (.int 1)) ∨ ((¬ x1 < 0) ∧ (¬ 15 < x1) ∧ (¬ x2 < 0) ∧ (63 < x2) ∧ r = 0 ∧ u[0]? = some (.int 1)) ∨ ((¬ x1 < 0) ∧ (¬ 15 < x1) ∧ (¬ x2 < 0) ∧ (¬ 63 < x2) ∧ (x3 < 0) ∧ r = 0 ∧ u[0]? = some (.int 1)) ∨ ((¬ x1 < 0) ∧ (¬ 15 < x1) ∧ (¬ x2 < 0) ∧ (¬ 63 < x2) ∧ (¬ x3 < 0) ∧ (x3 ≤ 99) ∧ r = 0 ∧ u[0]? = some (.int 0)) ∨ ((¬ x1 < 0) ∧ (¬ 15 < x1) ∧ (¬ x2 < 0) ∧ (¬ 63 < x2) ∧ (¬ x3 < 0) ∧ (¬ x3 ≤ 99) ∧ r = 0 ∧ u[0]? = some (.int 1))) (fun (u : List Value) => [(a0, .inr (11, u))])) 0 0 := by
  refine k_met RX12 ⟨rfl, by decide +kernel⟩ (Nat.le_of_ble_eq_true rfl) ?_
  intro p e s m below meth c A ls C hX hr hlocks hin hA hP hD hS hl
  have hl : lv_has ls 4 [(0, .ref a0), (1, .int x1), (2, .int x2), (3, .int x3)] := hl
  refine lv_aload_n C.1 C.2.1 dX12_block_0 rfl (lv_at hl 0 rfl) ?_
  refine lv_iload_n C.1 C.2.1 dX12_block_1 rfl (lv_at hl 1 rfl) ?_
  refine lv_if_lt (tgt := 31) C.1 C.2.1 dX12_block_2 (by decide) (fun c_1 => ?_) (fun c_1 => ?_)
  · refine lv_iconst (v := 1) C.1 C.2.1 dX12_block_31 (by decide) ?_
    refine lv_goto (tgt := 36) C.1 C.2.1 dX12_block_32 (by decide) ?_
    refine k_put (ws' := [(a0, .inr (11, (s0.set 0 (.int 1)))), (a1, .inl (K 0, 102400, .inl (fun _ => 0)))]) (v := .int 1) C hP hD hS 0 rfl rfl inlX12 tyX12_ok nmX12 0 (by decide) m_9_18 rfl rfl rfl n0 rfl dX12_block_36 (fun H locs hP hD hS => ?_)
    refine lv_aload_n C.1 C.2.1 dX12_block_39 rfl (lv_at hl 0 rfl) ?_
    refine k_get (v := .int 1) C hP 0 rfl rfl inlX12 0 (by decide) m_9_18 (ss (sk n0 (by decide))) dX12_block_40 ?_
    refine lv_if_ne (tgt := 69) C.1 C.2.1 dX12_block_43 (by decide) (fun _ => ?_) (fun h => absurd h (by decide))
    refine lv_iconst (v := 0) C.1 C.2.1 dX12_block_69 (by decide) ?_
    exact k_iret C hr hlocks hP hD hS rfl (s0.set 0 (.int 1)) [0] rfl rfl (Or.inl ⟨c_1, rfl, (ss (sk n0 (by decide)))⟩) (Nat.le_of_ble_eq_true rfl) (Nat.le_of_ble_eq_true rfl) dX12_block_70
  · refine lv_iload_n C.1 C.2.1 dX12_block_5 rfl (lv_at hl 1 rfl) ?_
    refine lv_bipush (v := 15) C.1 C.2.1 dX12_block_6 (by decide) ?_
    refine lv_icmp_gt (tgt := 31) C.1 C.2.1 dX12_block_8 (by decide) (fun c_2 => ?_) (fun c_2 => ?_)
    · refine lv_iconst (v := 1) C.1 C.2.1 dX12_block_31 (by decide) ?_
      refine lv_goto (tgt := 36) C.1 C.2.1 dX12_block_32 (by decide) ?_
      refine k_put (ws' := [(a0, .inr (11, (s0.set 0 (.int 1)))), (a1, .inl (K 0, 102400, .inl (fun _ => 0)))]) (v := .int 1) C hP hD hS 0 rfl rfl inlX12 tyX12_ok nmX12 0 (by decide) m_9_18 rfl rfl rfl n0 rfl dX12_block_36 (fun H locs hP hD hS => ?_)
      refine lv_aload_n C.1 C.2.1 dX12_block_39 rfl (lv_at hl 0 rfl) ?_
      refine k_get (v := .int 1) C hP 0 rfl rfl inlX12 0 (by decide) m_9_18 (ss (sk n0 (by decide))) dX12_block_40 ?_
      refine lv_if_ne (tgt := 69) C.1 C.2.1 dX12_block_43 (by decide) (fun _ => ?_) (fun h => absurd h (by decide))
      refine lv_iconst (v := 0) C.1 C.2.1 dX12_block_69 (by decide) ?_
      exact k_iret C hr hlocks hP hD hS rfl (s0.set 0 (.int 1)) [0] rfl rfl (Or.inr (Or.inl ⟨c_1, c_2, rfl, (ss (sk n0 (by decide)))⟩)) (Nat.le_of_ble_eq_true rfl) (Nat.le_of_ble_eq_true rfl) dX12_block_70
    · refine lv_iload_n C.1 C.2.1 dX12_block_11 rfl (lv_at hl 2 rfl) ?_
      refine lv_if_lt (tgt := 31) C.1 C.2.1 dX12_block_12 (by decide) (fun c_3 => ?_) (fun c_3 => ?_)
      · refine lv_iconst (v := 1) C.1 C.2.1 dX12_block_31 (by decide) ?_
        refine lv_goto (tgt := 36) C.1 C.2.1 dX12_block_32 (by decide) ?_
        refine k_put (ws' := [(a0, .inr (11, (s0.set 0 (.int 1)))), (a1, .inl (K 0, 102400, .inl (fun _ => 0)))]) (v := .int 1) C hP hD hS 0 rfl rfl inlX12 tyX12_ok nmX12 0 (by decide) m_9_18 rfl rfl rfl n0 rfl dX12_block_36 (fun H locs hP hD hS => ?_)
        refine lv_aload_n C.1 C.2.1 dX12_block_39 rfl (lv_at hl 0 rfl) ?_
        refine k_get (v := .int 1) C hP 0 rfl rfl inlX12 0 (by decide) m_9_18 (ss (sk n0 (by decide))) dX12_block_40 ?_
        refine lv_if_ne (tgt := 69) C.1 C.2.1 dX12_block_43 (by decide) (fun _ => ?_) (fun h => absurd h (by decide))
        refine lv_iconst (v := 0) C.1 C.2.1 dX12_block_69 (by decide) ?_
        exact k_iret C hr hlocks hP hD hS rfl (s0.set 0 (.int 1)) [0] rfl rfl (Or.inr (Or.inr (Or.inl ⟨c_1, c_2, c_3, rfl, (ss (sk n0 (by decide)))⟩))) (Nat.le_of_ble_eq_true rfl) (Nat.le_of_ble_eq_true rfl) dX12_block_70
      · refine lv_iload_n C.1 C.2.1 dX12_block_15 rfl (lv_at hl 2 rfl) ?_
        refine lv_bipush (v := 63) C.1 C.2.1 dX12_block_16 (by decide) ?_
        refine lv_icmp_gt (tgt := 31) C.1 C.2.1 dX12_block_18 (by decide) (fun c_4 => ?_) (fun c_4 => ?_)
        · refine lv_iconst (v := 1) C.1 C.2.1 dX12_block_31 (by decide) ?_
          refine lv_goto (tgt := 36) C.1 C.2.1 dX12_block_32 (by decide) ?_
          refine k_put (ws' := [(a0, .inr (11, (s0.set 0 (.int 1)))), (a1, .inl (K 0, 102400, .inl (fun _ => 0)))]) (v := .int 1) C hP hD hS 0 rfl rfl inlX12 tyX12_ok nmX12 0 (by decide) m_9_18 rfl rfl rfl n0 rfl dX12_block_36 (fun H locs hP hD hS => ?_)
          refine lv_aload_n C.1 C.2.1 dX12_block_39 rfl (lv_at hl 0 rfl) ?_
          refine k_get (v := .int 1) C hP 0 rfl rfl inlX12 0 (by decide) m_9_18 (ss (sk n0 (by decide))) dX12_block_40 ?_
          refine lv_if_ne (tgt := 69) C.1 C.2.1 dX12_block_43 (by decide) (fun _ => ?_) (fun h => absurd h (by decide))
          refine lv_iconst (v := 0) C.1 C.2.1 dX12_block_69 (by decide) ?_
          exact k_iret C hr hlocks hP hD hS rfl (s0.set 0 (.int 1)) [0] rfl rfl (Or.inr (Or.inr (Or.inr (Or.inl ⟨c_1, c_2, c_3, c_4, rfl, (ss (sk n0 (by decide)))⟩)))) (Nat.le_of_ble_eq_true rfl) (Nat.le_of_ble_eq_true rfl) dX12_block_70
        · refine lv_iload_n C.1 C.2.1 dX12_block_21 rfl (lv_at hl 3 rfl) ?_
          refine lv_if_lt (tgt := 31) C.1 C.2.1 dX12_block_22 (by decide) (fun c_5 => ?_) (fun c_5 => ?_)
          · refine lv_iconst (v := 1) C.1 C.2.1 dX12_block_31 (by decide) ?_
            refine lv_goto (tgt := 36) C.1 C.2.1 dX12_block_32 (by decide) ?_
            refine k_put (ws' := [(a0, .inr (11, (s0.set 0 (.int 1)))), (a1, .inl (K 0, 102400, .inl (fun _ => 0)))]) (v := .int 1) C hP hD hS 0 rfl rfl inlX12 tyX12_ok nmX12 0 (by decide) m_9_18 rfl rfl rfl n0 rfl dX12_block_36 (fun H locs hP hD hS => ?_)
            refine lv_aload_n C.1 C.2.1 dX12_block_39 rfl (lv_at hl 0 rfl) ?_
            refine k_get (v := .int 1) C hP 0 rfl rfl inlX12 0 (by decide) m_9_18 (ss (sk n0 (by decide))) dX12_block_40 ?_
            refine lv_if_ne (tgt := 69) C.1 C.2.1 dX12_block_43 (by decide) (fun _ => ?_) (fun h => absurd h (by decide))
            refine lv_iconst (v := 0) C.1 C.2.1 dX12_block_69 (by decide) ?_
            exact k_iret C hr hlocks hP hD hS rfl (s0.set 0 (.int 1)) [0] rfl rfl (Or.inr (Or.inr (Or.inr (Or.inr (Or.inl ⟨c_1, c_2, c_3, c_4, c_5, rfl, (ss (sk n0 (by decide)))⟩))))) (Nat.le_of_ble_eq_true rfl) (Nat.le_of_ble_eq_true rfl) dX12_block_70
          · refine lv_iload_n C.1 C.2.1 dX12_block_25 rfl (lv_at hl 3 rfl) ?_
            refine lv_bipush (v := 99) C.1 C.2.1 dX12_block_26 (by decide) ?_
            refine lv_icmp_le (tgt := 35) C.1 C.2.1 dX12_block_28 (by decide) (fun c_6 => ?_) (fun c_6 => ?_)
            · refine lv_iconst (v := 0) C.1 C.2.1 dX12_block_35 (by decide) ?_
              refine k_put (ws' := [(a0, .inr (11, (s0.set 0 (.int 0)))), (a1, .inl (K 0, 102400, .inl (fun _ => 0)))]) (v := .int 0) C hP hD hS 0 rfl rfl inlX12 tyX12_ok nmX12 0 (by decide) m_9_18 rfl rfl rfl n0 rfl dX12_block_36 (fun H locs hP hD hS => ?_)
              refine lv_aload_n C.1 C.2.1 dX12_block_39 rfl (lv_at hl 0 rfl) ?_
              refine k_get (v := .int 0) C hP 0 rfl rfl inlX12 0 (by decide) m_9_18 (ss (sk n0 (by decide))) dX12_block_40 ?_
              refine lv_if_ne (tgt := 69) C.1 C.2.1 dX12_block_43 (by decide) (fun h => absurd h (by decide)) (fun _ => ?_)
              refine lv_aload_n C.1 C.2.1 dX12_block_46 rfl (lv_at hl 0 rfl) ?_
              refine k_get (v := .ref a1) C hP 0 rfl rfl inlX12 25 (by decide) m_7_16 (sn (by decide) e0_25) dX12_block_47 ?_
              refine lv_sipush (v := 6400) C.1 C.2.1 dX12_block_50 (by decide) ?_
              refine lv_iload_n C.1 C.2.1 dX12_block_53 rfl (lv_at hl 1 rfl) ?_
              refine k_imul (v := (6400 * x1)) C rfl dX12_block_54 ?_
              refine lv_bipush (v := 100) C.1 C.2.1 dX12_block_55 (by decide) ?_
              refine lv_iload_n C.1 C.2.1 dX12_block_57 rfl (lv_at hl 2 rfl) ?_
              refine k_imul (v := (100 * x2)) C rfl dX12_block_58 ?_
              refine k_iadd (v := ((6400 * x1) + (100 * x2))) C rfl dX12_block_59 ?_
              refine lv_iload_n C.1 C.2.1 dX12_block_60 rfl (lv_at hl 3 rfl) ?_
              refine k_iadd (v := (((6400 * x1) + (100 * x2)) + x3)) C rfl dX12_block_61 ?_
              refine k_ild (v := 0) C hP 1 rfl (vp_in_iff.mpr (by simp only [Int32.lt_iff_toInt_lt, Int32.le_iff_toInt_le, ← Int32.toInt_inj] at c_1 c_2 c_3 c_4 c_5 c_6 ⊢; have k0 : (0 : Int32).toInt = 0 := (by decide); have k1 : (15 : Int32).toInt = 15 := (by decide); have k2 : (63 : Int32).toInt = 63 := (by decide); have k3 : (99 : Int32).toInt = 99 := (by decide); have k4 : (6400 : Int32).toInt = 6400 := (by decide); have k5 : (100 : Int32).toInt = 100 := (by decide); have k6 := ti_mull (x := 6400) (y := x1) (k := 6400) (by decide) (by omega) (by omega); have k7 := ti_mull (x := 100) (y := x2) (k := 100) (by decide) (by omega) (by omega); have k8 := ti_iadd (x := (6400 * x1)) (y := (100 * x2)) (by omega) (by omega); have k9 := ti_iadd (x := ((6400 * x1) + (100 * x2))) (y := x3) (by omega) (by omega); exact ⟨by omega, by omega⟩)) rfl dX12_block_62 ?_
              refine k_Si (As := [.int 0]) (rest := []) C hP hD hS hA (c_X12_told l D K ) X0_ok trivial (uwS m_84_13 m_84_14 m_1_5 m_84_15) (hdS 1 (by decide +kernel) rfl) ⟨Nat.le_of_ble_eq_true rfl, Nat.le_of_ble_eq_true rfl⟩ rfl rfl (isC := []) (isR := [0, 1]) (wr := [(a0, .inr (11, (s0.set 0 (.int 0)))), (a1, .inl (K 0, 102400, .inl (fun _ => 0)))]) ⟨rfl, rfl, rfl, rfl, by decide⟩ rfl hl.1 (Nat.le_of_ble_eq_true rfl) dX12_block_63 ⟨Nat.le_of_ble_eq_true rfl, Nat.le_of_ble_eq_true rfl⟩ (fun r_8 u_7 H locs hw hP hD hS => ?_)
              obtain rfl := hw
              have hP : va_P D vwCl [(a0, .inr (11, (s0.set 0 (.int 0)))), (a1, .inl (K 0, 102400, .inl (fun _ => 0)))] H := hP
              have hD : va_D A [(a0, .inr (11, (s0.set 0 (.int 0)))), (a1, .inl (K 0, 102400, .inl (fun _ => 0)))] := hD
              refine lv_goto (tgt := 70) C.1 C.2.1 dX12_block_66 (by decide) ?_
              exact k_iret C hr hlocks hP hD hS rfl (s0.set 0 (.int 0)) [0] rfl rfl (Or.inr (Or.inr (Or.inr (Or.inr (Or.inr (Or.inl ⟨c_1, c_2, c_3, c_4, c_5, c_6, rfl, (ss (sk n0 (by decide)))⟩)))))) (Nat.le_of_ble_eq_true rfl) (Nat.le_of_ble_eq_true rfl) dX12_block_70
            · refine lv_iconst (v := 1) C.1 C.2.1 dX12_block_31 (by decide) ?_
              refine lv_goto (tgt := 36) C.1 C.2.1 dX12_block_32 (by decide) ?_
              refine k_put (ws' := [(a0, .inr (11, (s0.set 0 (.int 1)))), (a1, .inl (K 0, 102400, .inl (fun _ => 0)))]) (v := .int 1) C hP hD hS 0 rfl rfl inlX12 tyX12_ok nmX12 0 (by decide) m_9_18 rfl rfl rfl n0 rfl dX12_block_36 (fun H locs hP hD hS => ?_)
              refine lv_aload_n C.1 C.2.1 dX12_block_39 rfl (lv_at hl 0 rfl) ?_
              refine k_get (v := .int 1) C hP 0 rfl rfl inlX12 0 (by decide) m_9_18 (ss (sk n0 (by decide))) dX12_block_40 ?_
              refine lv_if_ne (tgt := 69) C.1 C.2.1 dX12_block_43 (by decide) (fun _ => ?_) (fun h => absurd h (by decide))
              refine lv_iconst (v := 0) C.1 C.2.1 dX12_block_69 (by decide) ?_
              exact k_iret C hr hlocks hP hD hS rfl (s0.set 0 (.int 1)) [0] rfl rfl (Or.inr (Or.inr (Or.inr (Or.inr (Or.inr (Or.inr ⟨c_1, c_2, c_3, c_4, c_5, c_6, rfl, (ss (sk n0 (by decide)))⟩)))))) (Nat.le_of_ble_eq_true rfl) (Nat.le_of_ble_eq_true rfl) dX12_block_70
