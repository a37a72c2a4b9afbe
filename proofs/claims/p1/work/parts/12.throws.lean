theorem dX1_value_0 : decode cX1_value 0 = .ok (.iload_n 0, 1) := by decide +kernel
theorem dX1_value_1 : decode cX1_value 1 = .ok (.ldc 11, 2) := by decide +kernel
theorem dX1_value_15 : decode cX1_value 15 = .ok (.iload_n 0, 1) := by decide +kernel
theorem dX1_value_16 : decode cX1_value 16 = .ok (.ldc 12, 2) := by decide +kernel
theorem dX1_value_18 : decode cX1_value 18 = .ok (.iand, 1) := by decide +kernel
theorem dX1_value_19 : decode cX1_value 19 = .ok (.ireturn, 1) := by decide +kernel
theorem dX1_value_3 : decode cX1_value 3 = .ok (.iand, 1) := by decide +kernel
theorem dX1_value_4 : decode cX1_value 4 = .ok (.ifCond .eq 11, 3) := by decide +kernel
theorem dX1_shown_0 : decode cX1_shown 0 = .ok (.iload_n 0, 1) := by decide +kernel
theorem dX1_shown_1 : decode cX1_shown 1 = .ok (.ldc 11, 2) := by decide +kernel
theorem dX1_shown_11 : decode cX1_shown 11 = .ok (.iload_n 0, 1) := by decide +kernel
theorem dX1_shown_12 : decode cX1_shown 12 = .ok (.invokestatic 14, 3) := by decide +kernel
theorem dX1_shown_15 : decode cX1_shown 15 = .ok (.ireturn, 1) := by decide +kernel
theorem dX1_shown_3 : decode cX1_shown 3 = .ok (.if_icmp .ne 8, 3) := by decide +kernel
theorem dX11_register_0 : decode cX11_register 0 = .ok (.iload_n 1, 1) := by decide +kernel
theorem dX11_register_1 : decode cX11_register 1 = .ok (.ifCond .lt 9, 3) := by decide +kernel
theorem dX11_register_10 : decode cX11_register 10 = .ok (.new 223, 3) := by decide +kernel
theorem dX11_register_13 : decode cX11_register 13 = .ok (.dup, 1) := by decide +kernel
theorem dX11_register_14 : decode cX11_register 14 = .ok (.invokespecial 225, 3) := by decide +kernel
theorem dX11_register_17 : decode cX11_register 17 = .ok (.athrow, 1) := by decide +kernel
theorem dX11_register_18 : decode cX11_register 18 = .ok (.iload_n 1, 1) := by decide +kernel
theorem dX11_register_19 : decode cX11_register 19 = .ok (.bipush 9, 2) := by decide +kernel
theorem dX11_register_21 : decode cX11_register 21 = .ok (.if_icmp .ne 19, 3) := by decide +kernel
theorem dX11_register_24 : decode cX11_register 24 = .ok (.aload_n 0, 1) := by decide +kernel
theorem dX11_register_25 : decode cX11_register 25 = .ok (.getfield 44, 3) := by decide +kernel
theorem dX11_register_28 : decode cX11_register 28 = .ok (.getfield 226, 3) := by decide +kernel
theorem dX11_register_31 : decode cX11_register 31 = .ok (.ifCond .eq 7, 3) := by decide +kernel
theorem dX11_register_38 : decode cX11_register 38 = .ok (.iconst 0, 1) := by decide +kernel
theorem dX11_register_39 : decode cX11_register 39 = .ok (.ireturn, 1) := by decide +kernel
theorem dX11_register_4 : decode cX11_register 4 = .ok (.iload_n 1, 1) := by decide +kernel
theorem dX11_register_40 : decode cX11_register 40 = .ok (.iload_n 1, 1) := by decide +kernel
theorem dX11_register_41 : decode cX11_register 41 = .ok (.bipush 10, 2) := by decide +kernel
theorem dX11_register_43 : decode cX11_register 43 = .ok (.if_icmp .ne 11, 3) := by decide +kernel
theorem dX11_register_46 : decode cX11_register 46 = .ok (.aload_n 0, 1) := by decide +kernel
theorem dX11_register_47 : decode cX11_register 47 = .ok (.getfield 44, 3) := by decide +kernel
theorem dX11_register_5 : decode cX11_register 5 = .ok (.bipush 11, 2) := by decide +kernel
theorem dX11_register_50 : decode cX11_register 50 = .ok (.getfield 229, 3) := by decide +kernel
theorem dX11_register_53 : decode cX11_register 53 = .ok (.ireturn, 1) := by decide +kernel
theorem dX11_register_54 : decode cX11_register 54 = .ok (.iload_n 1, 1) := by decide +kernel
theorem dX11_register_55 : decode cX11_register 55 = .ok (.bipush 11, 2) := by decide +kernel
theorem dX11_register_57 : decode cX11_register 57 = .ok (.if_icmp .ne 13, 3) := by decide +kernel
theorem dX11_register_60 : decode cX11_register 60 = .ok (.aload_n 0, 1) := by decide +kernel
theorem dX11_register_61 : decode cX11_register 61 = .ok (.getfield 44, 3) := by decide +kernel
theorem dX11_register_64 : decode cX11_register 64 = .ok (.getfield 232, 3) := by decide +kernel
theorem dX11_register_67 : decode cX11_register 67 = .ok (.goto 15, 3) := by decide +kernel
theorem dX11_register_7 : decode cX11_register 7 = .ok (.if_icmp .le 11, 3) := by decide +kernel
theorem dX11_register_70 : decode cX11_register 70 = .ok (.aload_n 0, 1) := by decide +kernel
theorem dX11_register_71 : decode cX11_register 71 = .ok (.getfield 44, 3) := by decide +kernel
theorem dX11_register_74 : decode cX11_register 74 = .ok (.getfield 235, 3) := by decide +kernel
theorem dX11_register_77 : decode cX11_register 77 = .ok (.iload_n 1, 1) := by decide +kernel
theorem dX11_register_78 : decode cX11_register 78 = .ok (.iaload, 1) := by decide +kernel
theorem dX11_register_79 : decode cX11_register 79 = .ok (.invokestatic 238, 3) := by decide +kernel
theorem dX11_register_82 : decode cX11_register 82 = .ok (.ireturn, 1) := by decide +kernel
theorem dX11_word_0 : decode cX11_word 0 = .ok (.iload_n 1, 1) := by decide +kernel
theorem dX11_word_1 : decode cX11_word 1 = .ok (.sipush (-3999), 3) := by decide +kernel
theorem dX11_word_11 : decode cX11_word 11 = .ok (.if_icmp .le 11, 3) := by decide +kernel
theorem dX11_word_14 : decode cX11_word 14 = .ok (.new 223, 3) := by decide +kernel
theorem dX11_word_17 : decode cX11_word 17 = .ok (.dup, 1) := by decide +kernel
theorem dX11_word_18 : decode cX11_word 18 = .ok (.invokespecial 225, 3) := by decide +kernel
theorem dX11_word_21 : decode cX11_word 21 = .ok (.athrow, 1) := by decide +kernel
theorem dX11_word_22 : decode cX11_word 22 = .ok (.aload_n 0, 1) := by decide +kernel
theorem dX11_word_23 : decode cX11_word 23 = .ok (.getfield 44, 3) := by decide +kernel
theorem dX11_word_26 : decode cX11_word 26 = .ok (.getfield 157, 3) := by decide +kernel
theorem dX11_word_29 : decode cX11_word 29 = .ok (.iload_n 1, 1) := by decide +kernel
theorem dX11_word_30 : decode cX11_word 30 = .ok (.sipush 3999, 3) := by decide +kernel
theorem dX11_word_33 : decode cX11_word 33 = .ok (.iadd, 1) := by decide +kernel
theorem dX11_word_34 : decode cX11_word 34 = .ok (.iaload, 1) := by decide +kernel
theorem dX11_word_35 : decode cX11_word 35 = .ok (.invokestatic 238, 3) := by decide +kernel
theorem dX11_word_38 : decode cX11_word 38 = .ok (.ireturn, 1) := by decide +kernel
theorem dX11_word_4 : decode cX11_word 4 = .ok (.if_icmp .lt 10, 3) := by decide +kernel
theorem dX11_word_7 : decode cX11_word 7 = .ok (.iload_n 1, 1) := by decide +kernel
theorem dX11_word_8 : decode cX11_word 8 = .ok (.sipush 3999, 3) := by decide +kernel
theorem dX11_tapeName_0 : decode cX11_tapeName 0 = .ok (.iload_n 1, 1) := by decide +kernel
theorem dX11_tapeName_1 : decode cX11_tapeName 1 = .ok (.iconst 1, 1) := by decide +kernel
theorem dX11_tapeName_11 : decode cX11_tapeName 11 = .ok (.lconst 0, 1) := by decide +kernel
theorem dX11_tapeName_12 : decode cX11_tapeName 12 = .ok (.lreturn, 1) := by decide +kernel
theorem dX11_tapeName_2 : decode cX11_tapeName 2 = .ok (.if_icmp .lt 9, 3) := by decide +kernel
theorem dX11_symbol_0 : decode cX11_symbol 0 = .ok (.aload_n 0, 1) := by decide +kernel
theorem dX11_symbol_1 : decode cX11_symbol 1 = .ok (.aload_n 0, 1) := by decide +kernel
theorem dX11_symbol_10 : decode cX11_symbol 10 = .ok (.getfield 48, 3) := by decide +kernel
theorem dX11_symbol_13 : decode cX11_symbol 13 = .ok (.getfield 153, 3) := by decide +kernel
theorem dX11_symbol_16 : decode cX11_symbol 16 = .ok (.ifCond .eq 23, 3) := by decide +kernel
theorem dX11_symbol_2 : decode cX11_symbol 2 = .ok (.invokevirtual 78, 3) := by decide +kernel
theorem dX11_symbol_39 : decode cX11_symbol 39 = .ok (.iconst (-1), 1) := by decide +kernel
theorem dX11_symbol_40 : decode cX11_symbol 40 = .ok (.istore_n 3, 1) := by decide +kernel
theorem dX11_symbol_41 : decode cX11_symbol 41 = .ok (.iload_n 3, 1) := by decide +kernel
theorem dX11_symbol_42 : decode cX11_symbol 42 = .ok (.ifCond .lt 18, 3) := by decide +kernel
theorem dX11_symbol_5 : decode cX11_symbol 5 = .ok (.invokevirtual 248, 3) := by decide +kernel
theorem dX11_symbol_60 : decode cX11_symbol 60 = .ok (.new 223, 3) := by decide +kernel
theorem dX11_symbol_63 : decode cX11_symbol 63 = .ok (.dup, 1) := by decide +kernel
theorem dX11_symbol_64 : decode cX11_symbol 64 = .ok (.invokespecial 225, 3) := by decide +kernel
theorem dX11_symbol_67 : decode cX11_symbol 67 = .ok (.athrow, 1) := by decide +kernel
theorem dX11_symbol_8 : decode cX11_symbol 8 = .ok (.lstore_n 1, 1) := by decide +kernel
theorem dX11_symbol_9 : decode cX11_symbol 9 = .ok (.aload_n 0, 1) := by decide +kernel
theorem dX10_stored_0 : decode cX10_stored 0 = .ok (.iload_n 1, 1) := by decide +kernel
theorem dX10_stored_1 : decode cX10_stored 1 = .ok (.ifCond .lt 33, 3) := by decide +kernel
theorem dX10_stored_10 : decode cX10_stored 10 = .ok (.iload_n 2, 1) := by decide +kernel
theorem dX10_stored_11 : decode cX10_stored 11 = .ok (.ifCond .lt 23, 3) := by decide +kernel
theorem dX10_stored_14 : decode cX10_stored 14 = .ok (.iload_n 2, 1) := by decide +kernel
theorem dX10_stored_15 : decode cX10_stored 15 = .ok (.sipush 6400, 3) := by decide +kernel
theorem dX10_stored_18 : decode cX10_stored 18 = .ok (.if_icmp .ge 16, 3) := by decide +kernel
theorem dX10_stored_21 : decode cX10_stored 21 = .ok (.aload_n 0, 1) := by decide +kernel
theorem dX10_stored_22 : decode cX10_stored 22 = .ok (.getfield 11, 3) := by decide +kernel
theorem dX10_stored_25 : decode cX10_stored 25 = .ok (.iload_n 1, 1) := by decide +kernel
theorem dX10_stored_26 : decode cX10_stored 26 = .ok (.aaload, 1) := by decide +kernel
theorem dX10_stored_27 : decode cX10_stored 27 = .ok (.ifnull 7, 3) := by decide +kernel
theorem dX10_stored_34 : decode cX10_stored 34 = .ok (.iconst 0, 1) := by decide +kernel
theorem dX10_stored_35 : decode cX10_stored 35 = .ok (.istore_n 3, 1) := by decide +kernel
theorem dX10_stored_36 : decode cX10_stored 36 = .ok (.iload_n 3, 1) := by decide +kernel
theorem dX10_stored_37 : decode cX10_stored 37 = .ok (.ifCond .eq 14, 3) := by decide +kernel
theorem dX10_stored_4 : decode cX10_stored 4 = .ok (.iload_n 1, 1) := by decide +kernel
theorem dX10_stored_5 : decode cX10_stored 5 = .ok (.bipush 16, 2) := by decide +kernel
theorem dX10_stored_51 : decode cX10_stored 51 = .ok (.iconst 0, 1) := by decide +kernel
theorem dX10_stored_52 : decode cX10_stored 52 = .ok (.ireturn, 1) := by decide +kernel
theorem dX10_stored_7 : decode cX10_stored 7 = .ok (.if_icmp .ge 27, 3) := by decide +kernel
theorem dX11_block_0 : decode cX11_block 0 = .ok (.iload_n 1, 1) := by decide +kernel
theorem dX11_block_1 : decode cX11_block 1 = .ok (.ifCond .lt 33, 3) := by decide +kernel
theorem dX11_block_10 : decode cX11_block 10 = .ok (.iload_n 2, 1) := by decide +kernel
theorem dX11_block_11 : decode cX11_block 11 = .ok (.ifCond .lt 23, 3) := by decide +kernel
theorem dX11_block_14 : decode cX11_block 14 = .ok (.iload_n 2, 1) := by decide +kernel
theorem dX11_block_15 : decode cX11_block 15 = .ok (.bipush 64, 2) := by decide +kernel
theorem dX11_block_17 : decode cX11_block 17 = .ok (.if_icmp .ge 17, 3) := by decide +kernel
theorem dX11_block_20 : decode cX11_block 20 = .ok (.iload_n 3, 1) := by decide +kernel
theorem dX11_block_21 : decode cX11_block 21 = .ok (.ifCond .lt 13, 3) := by decide +kernel
theorem dX11_block_24 : decode cX11_block 24 = .ok (.iload_n 3, 1) := by decide +kernel
theorem dX11_block_25 : decode cX11_block 25 = .ok (.bipush 100, 2) := by decide +kernel
theorem dX11_block_27 : decode cX11_block 27 = .ok (.if_icmp .ge 7, 3) := by decide +kernel
theorem dX11_block_30 : decode cX11_block 30 = .ok (.iconst 1, 1) := by decide +kernel
theorem dX11_block_31 : decode cX11_block 31 = .ok (.goto 4, 3) := by decide +kernel
theorem dX11_block_34 : decode cX11_block 34 = .ok (.iconst 0, 1) := by decide +kernel
theorem dX11_block_35 : decode cX11_block 35 = .ok (.istore 4, 2) := by decide +kernel
theorem dX11_block_37 : decode cX11_block 37 = .ok (.iload 4, 2) := by decide +kernel
theorem dX11_block_39 : decode cX11_block 39 = .ok (.ifCond .ne 11, 3) := by decide +kernel
theorem dX11_block_4 : decode cX11_block 4 = .ok (.iload_n 1, 1) := by decide +kernel
theorem dX11_block_42 : decode cX11_block 42 = .ok (.new 223, 3) := by decide +kernel
theorem dX11_block_45 : decode cX11_block 45 = .ok (.dup, 1) := by decide +kernel
theorem dX11_block_46 : decode cX11_block 46 = .ok (.invokespecial 225, 3) := by decide +kernel
theorem dX11_block_49 : decode cX11_block 49 = .ok (.athrow, 1) := by decide +kernel
theorem dX11_block_5 : decode cX11_block 5 = .ok (.bipush 16, 2) := by decide +kernel
theorem dX11_block_50 : decode cX11_block 50 = .ok (.aload_n 0, 1) := by decide +kernel
theorem dX11_block_51 : decode cX11_block 51 = .ok (.getfield 40, 3) := by decide +kernel
theorem dX11_block_54 : decode cX11_block 54 = .ok (.iload_n 1, 1) := by decide +kernel
theorem dX11_block_55 : decode cX11_block 55 = .ok (.iload_n 2, 1) := by decide +kernel
theorem dX11_block_56 : decode cX11_block 56 = .ok (.bipush 100, 2) := by decide +kernel
theorem dX11_block_58 : decode cX11_block 58 = .ok (.imul, 1) := by decide +kernel
theorem dX11_block_59 : decode cX11_block 59 = .ok (.iload_n 3, 1) := by decide +kernel
theorem dX11_block_60 : decode cX11_block 60 = .ok (.iadd, 1) := by decide +kernel
theorem dX11_block_61 : decode cX11_block 61 = .ok (.invokevirtual 279, 3) := by decide +kernel
theorem dX11_block_64 : decode cX11_block 64 = .ok (.invokestatic 238, 3) := by decide +kernel
theorem dX11_block_67 : decode cX11_block 67 = .ok (.ireturn, 1) := by decide +kernel
theorem dX11_block_7 : decode cX11_block 7 = .ok (.if_icmp .ge 27, 3) := by decide +kernel
set_option maxHeartbeats 4000000 in
set_option maxRecDepth 100000 in
theorem c_X1_value (l : Launch) (D : va_G) (K : Nat → ClassId)  : uMet l yX1_value cX1_value 1 (some .int) (rmD 0 0 0) D K X0 [.int 0] [] (QI D K (fun (r : Int32) (u : Nat → Nat) => r = 0) (fun (u : Nat → Nat) => [])) 0 0 := by
  refine k_met RX1 ⟨rfl, by decide +kernel⟩ (Nat.le_of_ble_eq_true rfl) ?_
  intro p e s m below meth c A ls C hX hr hlocks hin hA hP hD hS hl
  have hl : lv_has ls 1 [(0, .int 0)] := hl
  refine lv_iload_n C.1 C.2.1 dX1_value_0 rfl (lv_at hl 0 rfl) ?_
  refine lv_ldc (v := 1073741824) C.1 C.2.1 C.2.2.2.1 (C.2.2.2.2.1 _ m_22_17) dX1_value_1 ?_
  refine k_iand (v := 0) C (by decide) dX1_value_3 ?_
  refine lv_if_eq (tgt := 15) C.1 C.2.1 dX1_value_4 (by decide) (fun _ => ?_) (fun h => absurd (by decide) h)
  refine lv_iload_n C.1 C.2.1 dX1_value_15 rfl (lv_at hl 0 rfl) ?_
  refine lv_ldc (v := 1073741823) C.1 C.2.1 C.2.2.2.1 (C.2.2.2.2.1 _ m_23_11) dX1_value_16 ?_
  refine k_iand (v := 0) C (by decide) dX1_value_18 ?_
  exact k_iret C hr hlocks hP hD hS rfl (fun _ => 0) [] rfl rfl rfl (Nat.le_of_ble_eq_true rfl) (Nat.le_of_ble_eq_true rfl) dX1_value_19
set_option maxHeartbeats 4000000 in
set_option maxRecDepth 100000 in
theorem c_X1_shown (l : Launch) (D : va_G) (K : Nat → ClassId)  : uMet l yX1_shown cX1_shown 1 (some .int) (rmD 1 0 0) D K X0 [.int 0] [] (QI D K (fun (r : Int32) (u : Nat → Nat) => r = 0) (fun (u : Nat → Nat) => [])) 0 0 := by
  refine k_met RX1 ⟨rfl, by decide +kernel⟩ (Nat.le_of_ble_eq_true rfl) ?_
  intro p e s m below meth c A ls C hX hr hlocks hin hA hP hD hS hl
  have hl : lv_has ls 1 [(0, .int 0)] := hl
  refine lv_iload_n C.1 C.2.1 dX1_shown_0 rfl (lv_at hl 0 rfl) ?_
  refine lv_ldc (v := 1073741824) C.1 C.2.1 C.2.2.2.1 (C.2.2.2.2.1 _ m_22_17) dX1_shown_1 ?_
  refine lv_icmp_ne (tgt := 11) C.1 C.2.1 dX1_shown_3 (by decide) (fun _ => ?_) (fun h => absurd h (by decide))
  refine lv_iload_n C.1 C.2.1 dX1_shown_11 rfl (lv_at hl 0 rfl) ?_
  refine k_Si (As := [.int 0]) (rest := []) C hP hD hS hA (c_X1_value l D K ) X0_ok trivial (uwS m_84_8 m_23_9 m_14_2 m_23_10) (hdS 1 (by decide +kernel) rfl) ⟨Nat.le_of_ble_eq_true rfl, Nat.le_of_ble_eq_true rfl⟩ rfl rfl (isC := []) (isR := []) (wr := []) ⟨rfl, rfl, rfl, rfl, by decide⟩ rfl hl.1 (Nat.le_of_ble_eq_true rfl) dX1_shown_12 ⟨Nat.le_of_ble_eq_true rfl, Nat.le_of_ble_eq_true rfl⟩ (fun r_2 u_1 H locs hw hP hD hS => ?_)
  obtain rfl := hw
  have hP : va_P D vwCl [] H := hP
  have hD : va_D A [] := hD
  exact k_iret C hr hlocks hP hD hS rfl (fun _ => 0) [] rfl rfl rfl (Nat.le_of_ble_eq_true rfl) (Nat.le_of_ble_eq_true rfl) dX1_shown_15
set_option maxHeartbeats 4000000 in
set_option maxRecDepth 100000 in
theorem t_X11_register (l : Launch) (htr : l.stackTraces = false) (D : va_G) (K : Nat → ClassId) (a0 : Nat) (a1 : Nat) (a2 : Nat) (s0 : List Value) (n0 : s0.length = 8) (s1 : List Value) (n1 : s1.length = 16) (x1 : Int32) (e0_4 : s0[4]? = some (.ref a1)) (e1_1 : s1[1]? = some (.ref a2)) (e1_5 : s1[5]? = some (.int 0)) (e1_4 : s1[4]? = some (.int 0)) (e1_3 : s1[3]? = some (.int 0)) : xMet l yX11_register cX11_register 2 (some .int) (rmD 6 1 6) D K [.ref a0, .int x1] [(a0, .inr (10, s0)), (a1, .inr (1, s1)), (a2, .inl (K 0, 9, .inl (fun _ => 0)))] (QI D K (fun (r : Int32) (u : Nat → Nat) => ((¬ x1 < 0) ∧ (x1 ≤ 11) ∧ (¬ x1 = 9) ∧ (¬ x1 = 10) ∧ (¬ x1 = 11) ∧ r = 0) ∨ ((¬ x1 < 0) ∧ (x1 ≤ 11) ∧ (¬ x1 = 9) ∧ (¬ x1 = 10) ∧ (x1 = 11) ∧ r = 0) ∨ ((¬ x1 < 0) ∧ (x1 ≤ 11) ∧ (¬ x1 = 9) ∧ (x1 = 10) ∧ r = 0) ∨ ((¬ x1 < 0) ∧ (x1 ≤ 11) ∧ (x1 = 9) ∧ r = 0)) (fun (u : Nat → Nat) => [])) (((x1 < 0)) ∨ ((¬ x1 < 0) ∧ (¬ x1 ≤ 11))) 1 6 := by
  refine x_met RX11 ⟨rfl, by decide +kernel⟩ (Nat.le_of_ble_eq_true rfl) ?_
  intro p e s m below meth c A ls C hE hZ ht hr hlocks hA hP hD hS hl
  have hl : lv_has ls 2 [(0, .ref a0), (1, .int x1)] := hl
  refine lv_iload_n C.1 C.2.1 dX11_register_0 rfl (lv_at hl 1 rfl) ?_
  refine lv_if_lt (tgt := 10) C.1 C.2.1 dX11_register_1 (by decide) (fun c_1 => ?_) (fun c_1 => ?_)
  · exact x_throw C htr hE hZ ht hlocks hS hl.1 (Or.inl c_1) m_83_23 m_84_0 dX11_register_10 dX11_register_13 dX11_register_14 dX11_register_17 (by decide) (Nat.le_of_ble_eq_true rfl) (Nat.le_of_ble_eq_true rfl) (Nat.le_of_ble_eq_true rfl) (Nat.le_of_ble_eq_true rfl) (Nat.le_of_ble_eq_true rfl)
  · refine lv_iload_n C.1 C.2.1 dX11_register_4 rfl (lv_at hl 1 rfl) ?_
    refine lv_bipush (v := 11) C.1 C.2.1 dX11_register_5 (by decide) ?_
    refine lv_icmp_le (tgt := 18) C.1 C.2.1 dX11_register_7 (by decide) (fun c_2 => ?_) (fun c_2 => ?_)
    · refine lv_iload_n C.1 C.2.1 dX11_register_18 rfl (lv_at hl 1 rfl) ?_
      refine lv_bipush (v := 9) C.1 C.2.1 dX11_register_19 (by decide) ?_
      refine lv_icmp_ne (tgt := 40) C.1 C.2.1 dX11_register_21 (by decide) (fun c_3 => ?_) (fun c_3 => ?_)
      · refine lv_iload_n C.1 C.2.1 dX11_register_40 rfl (lv_at hl 1 rfl) ?_
        refine lv_bipush (v := 10) C.1 C.2.1 dX11_register_41 (by decide) ?_
        refine lv_icmp_ne (tgt := 54) C.1 C.2.1 dX11_register_43 (by decide) (fun c_4 => ?_) (fun c_4 => ?_)
        · refine lv_iload_n C.1 C.2.1 dX11_register_54 rfl (lv_at hl 1 rfl) ?_
          refine lv_bipush (v := 11) C.1 C.2.1 dX11_register_55 (by decide) ?_
          refine lv_icmp_ne (tgt := 70) C.1 C.2.1 dX11_register_57 (by decide) (fun c_5 => ?_) (fun c_5 => ?_)
          · refine lv_aload_n C.1 C.2.1 dX11_register_70 rfl (lv_at hl 0 rfl) ?_
            refine k_get (v := .ref a1) C hP 0 rfl rfl inlX11 4 (by decide) m_2_9 e0_4 dX11_register_71 ?_
            refine k_get (v := .ref a2) C hP 1 rfl rfl inlX2 1 (by decide) m_84_3 e1_1 dX11_register_74 ?_
            refine lv_iload_n C.1 C.2.1 dX11_register_77 rfl (lv_at hl 1 rfl) ?_
            refine k_ild (v := 0) C hP 2 rfl (vp_in_iff.mpr (by simp only [Int32.lt_iff_toInt_lt, Int32.le_iff_toInt_le, ← Int32.toInt_inj] at c_1 c_2 c_3 c_4 c_5 ⊢; have k0 : (0 : Int32).toInt = 0 := (by decide); have k1 : (11 : Int32).toInt = 11 := (by decide); have k2 : (9 : Int32).toInt = 9 := (by decide); have k3 : (10 : Int32).toInt = 10 := (by decide); exact ⟨by omega, by omega⟩)) rfl dX11_register_78 ?_
            refine k_Si (As := [.int 0]) (rest := []) C hP hD hS hA (c_X1_shown l D K ) X0_ok trivial (uwS m_84_4 m_84_5 m_14_2 m_84_6) (hdS 1 (by decide +kernel) rfl) ⟨Nat.le_of_ble_eq_true rfl, Nat.le_of_ble_eq_true rfl⟩ rfl rfl (isC := []) (isR := [0, 1, 2]) (wr := [(a0, .inr (10, s0)), (a1, .inr (1, s1)), (a2, .inl (K 0, 9, .inl (fun _ => 0)))]) ⟨rfl, rfl, rfl, rfl, by decide⟩ rfl hl.1 (Nat.le_of_ble_eq_true rfl) dX11_register_79 ⟨Nat.le_of_ble_eq_true rfl, Nat.le_of_ble_eq_true rfl⟩ (fun r_7 u_6 H locs hw hP hD hS => ?_)
            obtain rfl := hw
            have hP : va_P D vwCl [(a0, .inr (10, s0)), (a1, .inr (1, s1)), (a2, .inl (K 0, 9, .inl (fun _ => 0)))] H := hP
            have hD : va_D A [(a0, .inr (10, s0)), (a1, .inr (1, s1)), (a2, .inl (K 0, 9, .inl (fun _ => 0)))] := hD
            exact vx_ret (k_iret C hr hlocks hP hD hS rfl (fun _ => 0) [] rfl rfl (Or.inl ⟨c_1, c_2, c_3, c_4, c_5, rfl⟩) (Nat.le_of_ble_eq_true rfl) (Nat.le_of_ble_eq_true rfl) dX11_register_82)
          · refine lv_aload_n C.1 C.2.1 dX11_register_60 rfl (lv_at hl 0 rfl) ?_
            refine k_get (v := .ref a1) C hP 0 rfl rfl inlX11 4 (by decide) m_2_9 e0_4 dX11_register_61 ?_
            refine k_get (v := .int 0) C hP 1 rfl rfl inlX2 5 (by decide) m_76_20 e1_5 dX11_register_64 ?_
            refine lv_goto (tgt := 82) C.1 C.2.1 dX11_register_67 (by decide) ?_
            exact vx_ret (k_iret C hr hlocks hP hD hS rfl (fun _ => 0) [] rfl rfl (Or.inr (Or.inl ⟨c_1, c_2, c_3, c_4, c_5, rfl⟩)) (Nat.le_of_ble_eq_true rfl) (Nat.le_of_ble_eq_true rfl) dX11_register_82)
        · refine lv_aload_n C.1 C.2.1 dX11_register_46 rfl (lv_at hl 0 rfl) ?_
          refine k_get (v := .ref a1) C hP 0 rfl rfl inlX11 4 (by decide) m_2_9 e0_4 dX11_register_47 ?_
          refine k_get (v := .int 0) C hP 1 rfl rfl inlX2 4 (by decide) m_84_2 e1_4 dX11_register_50 ?_
          exact vx_ret (k_iret C hr hlocks hP hD hS rfl (fun _ => 0) [] rfl rfl (Or.inr (Or.inr (Or.inl ⟨c_1, c_2, c_3, c_4, rfl⟩))) (Nat.le_of_ble_eq_true rfl) (Nat.le_of_ble_eq_true rfl) dX11_register_53)
      · refine lv_aload_n C.1 C.2.1 dX11_register_24 rfl (lv_at hl 0 rfl) ?_
        refine k_get (v := .ref a1) C hP 0 rfl rfl inlX11 4 (by decide) m_2_9 e0_4 dX11_register_25 ?_
        refine k_get (v := .int 0) C hP 1 rfl rfl inlX2 3 (by decide) m_84_1 e1_3 dX11_register_28 ?_
        refine lv_if_eq (tgt := 38) C.1 C.2.1 dX11_register_31 (by decide) (fun _ => ?_) (fun h => absurd (by decide) h)
        refine lv_iconst (v := 0) C.1 C.2.1 dX11_register_38 (by decide) ?_
        exact vx_ret (k_iret C hr hlocks hP hD hS rfl (fun _ => 0) [] rfl rfl (Or.inr (Or.inr (Or.inr ⟨c_1, c_2, c_3, rfl⟩))) (Nat.le_of_ble_eq_true rfl) (Nat.le_of_ble_eq_true rfl) dX11_register_39)
    · exact x_throw C htr hE hZ ht hlocks hS hl.1 (Or.inr ⟨c_1, c_2⟩) m_83_23 m_84_0 dX11_register_10 dX11_register_13 dX11_register_14 dX11_register_17 (by decide) (Nat.le_of_ble_eq_true rfl) (Nat.le_of_ble_eq_true rfl) (Nat.le_of_ble_eq_true rfl) (Nat.le_of_ble_eq_true rfl) (Nat.le_of_ble_eq_true rfl)
set_option maxHeartbeats 4000000 in
set_option maxRecDepth 100000 in
theorem t_X11_word (l : Launch) (htr : l.stackTraces = false) (D : va_G) (K : Nat → ClassId) (a0 : Nat) (a1 : Nat) (a2 : Nat) (s0 : List Value) (n0 : s0.length = 8) (s1 : List Value) (n1 : s1.length = 16) (x1 : Int32) (e0_4 : s0[4]? = some (.ref a1)) (e1_0 : s1[0]? = some (.ref a2)) : xMet l yX11_word cX11_word 2 (some .int) (rmD 6 1 6) D K [.ref a0, .int x1] [(a0, .inr (10, s0)), (a1, .inr (1, s1)), (a2, .inl (K 0, 7999, .inl (fun _ => 0)))] (QI D K (fun (r : Int32) (u : Nat → Nat) => ((¬ x1 < (-3999)) ∧ (x1 ≤ 3999) ∧ r = 0)) (fun (u : Nat → Nat) => [])) (((x1 < (-3999))) ∨ ((¬ x1 < (-3999)) ∧ (¬ x1 ≤ 3999))) 1 6 := by
  refine x_met RX11 ⟨rfl, by decide +kernel⟩ (Nat.le_of_ble_eq_true rfl) ?_
  intro p e s m below meth c A ls C hE hZ ht hr hlocks hA hP hD hS hl
  have hl : lv_has ls 2 [(0, .ref a0), (1, .int x1)] := hl
  refine lv_iload_n C.1 C.2.1 dX11_word_0 rfl (lv_at hl 1 rfl) ?_
  refine lv_sipush (v := (-3999)) C.1 C.2.1 dX11_word_1 (by decide) ?_
  refine lv_icmp_lt (tgt := 14) C.1 C.2.1 dX11_word_4 (by decide) (fun c_1 => ?_) (fun c_1 => ?_)
  · exact x_throw C htr hE hZ ht hlocks hS hl.1 (Or.inl c_1) m_83_23 m_84_0 dX11_word_14 dX11_word_17 dX11_word_18 dX11_word_21 (by decide) (Nat.le_of_ble_eq_true rfl) (Nat.le_of_ble_eq_true rfl) (Nat.le_of_ble_eq_true rfl) (Nat.le_of_ble_eq_true rfl) (Nat.le_of_ble_eq_true rfl)
  · refine lv_iload_n C.1 C.2.1 dX11_word_7 rfl (lv_at hl 1 rfl) ?_
    refine lv_sipush (v := 3999) C.1 C.2.1 dX11_word_8 (by decide) ?_
    refine lv_icmp_le (tgt := 22) C.1 C.2.1 dX11_word_11 (by decide) (fun c_2 => ?_) (fun c_2 => ?_)
    · refine lv_aload_n C.1 C.2.1 dX11_word_22 rfl (lv_at hl 0 rfl) ?_
      refine k_get (v := .ref a1) C hP 0 rfl rfl inlX11 4 (by decide) m_2_9 e0_4 dX11_word_23 ?_
      refine k_get (v := .ref a2) C hP 1 rfl rfl inlX2 0 (by decide) m_64_17 e1_0 dX11_word_26 ?_
      refine lv_iload_n C.1 C.2.1 dX11_word_29 rfl (lv_at hl 1 rfl) ?_
      refine lv_sipush (v := 3999) C.1 C.2.1 dX11_word_30 (by decide) ?_
      refine k_iadd (v := (x1 + 3999)) C rfl dX11_word_33 ?_
      refine k_ild (v := 0) C hP 2 rfl (vp_in_iff.mpr (by simp only [Int32.lt_iff_toInt_lt, Int32.le_iff_toInt_le, ← Int32.toInt_inj] at c_1 c_2 ⊢; have k0 : ((-3999) : Int32).toInt = -3999 := (by decide); have k1 : (3999 : Int32).toInt = 3999 := (by decide); have k2 := ti_iadd (x := x1) (y := 3999) (by omega) (by omega); exact ⟨by omega, by omega⟩)) rfl dX11_word_34 ?_
      refine k_Si (As := [.int 0]) (rest := []) C hP hD hS hA (c_X1_shown l D K ) X0_ok trivial (uwS m_84_4 m_84_5 m_14_2 m_84_6) (hdS 1 (by decide +kernel) rfl) ⟨Nat.le_of_ble_eq_true rfl, Nat.le_of_ble_eq_true rfl⟩ rfl rfl (isC := []) (isR := [0, 1, 2]) (wr := [(a0, .inr (10, s0)), (a1, .inr (1, s1)), (a2, .inl (K 0, 7999, .inl (fun _ => 0)))]) ⟨rfl, rfl, rfl, rfl, by decide⟩ rfl hl.1 (Nat.le_of_ble_eq_true rfl) dX11_word_35 ⟨Nat.le_of_ble_eq_true rfl, Nat.le_of_ble_eq_true rfl⟩ (fun r_4 u_3 H locs hw hP hD hS => ?_)
      obtain rfl := hw
      have hP : va_P D vwCl [(a0, .inr (10, s0)), (a1, .inr (1, s1)), (a2, .inl (K 0, 7999, .inl (fun _ => 0)))] H := hP
      have hD : va_D A [(a0, .inr (10, s0)), (a1, .inr (1, s1)), (a2, .inl (K 0, 7999, .inl (fun _ => 0)))] := hD
      exact vx_ret (k_iret C hr hlocks hP hD hS rfl (fun _ => 0) [] rfl rfl ⟨c_1, c_2, rfl⟩ (Nat.le_of_ble_eq_true rfl) (Nat.le_of_ble_eq_true rfl) dX11_word_38)
    · exact x_throw C htr hE hZ ht hlocks hS hl.1 (Or.inr ⟨c_1, c_2⟩) m_83_23 m_84_0 dX11_word_14 dX11_word_17 dX11_word_18 dX11_word_21 (by decide) (Nat.le_of_ble_eq_true rfl) (Nat.le_of_ble_eq_true rfl) (Nat.le_of_ble_eq_true rfl) (Nat.le_of_ble_eq_true rfl) (Nat.le_of_ble_eq_true rfl)
set_option maxHeartbeats 4000000 in
set_option maxRecDepth 100000 in
theorem c_X11_tapeName (l : Launch) (D : va_G) (K : Nat → ClassId) (a0 : Nat) (s0 : List Value) (n0 : s0.length = 8) : uMet l yX11_tapeName cX11_tapeName 6 (some .long) (rmD 0 0 0) D K X0 [.ref a0, .int 0] [(a0, .inr (10, s0))] (QL D K (fun (r : Int64) (u : Nat → Nat) => r = 0) (fun (u : Nat → Nat) => [(a0, .inr (10, s0))])) 0 0 := by
  refine k_met RX11 ⟨rfl, by decide +kernel⟩ (Nat.le_of_ble_eq_true rfl) ?_
  intro p e s m below meth c A ls C hX hr hlocks hin hA hP hD hS hl
  have hl : lv_has ls 6 [(0, .ref a0), (1, .int 0)] := hl
  refine lv_iload_n C.1 C.2.1 dX11_tapeName_0 rfl (lv_at hl 1 rfl) ?_
  refine lv_iconst (v := 1) C.1 C.2.1 dX11_tapeName_1 (by decide) ?_
  refine lv_icmp_lt (tgt := 11) C.1 C.2.1 dX11_tapeName_2 (by decide) (fun _ => ?_) (fun h => absurd (by decide) h)
  refine lv_lconst (v := 0) C.1 C.2.1 dX11_tapeName_11 (by decide) ?_
  exact k_lret C hr hlocks hP hD hS (fun _ => 0) [0] rfl rfl rfl (Nat.le_of_ble_eq_true rfl) (Nat.le_of_ble_eq_true rfl) dX11_tapeName_12
set_option maxHeartbeats 4000000 in
set_option maxRecDepth 100000 in
theorem t_X11_symbol (l : Launch) (htr : l.stackTraces = false) (D : va_G) (K : Nat → ClassId) (a0 : Nat) (a1 : Nat) (s0 : List Value) (n0 : s0.length = 8) (s1 : List Value) (n1 : s1.length = 20) (e0_1 : s0[1]? = some (.int 0)) (e0_5 : s0[5]? = some (.ref a1)) (e1_19 : s1[19]? = some (.int 0)) : xMet l yX11_symbol cX11_symbol 4 (some .int) (rmD 6 1 6) D K [.ref a0] [(a0, .inr (10, s0)), (a1, .inr (0, s1))] (QI D K (fun (r : Int32) (u : Nat → Nat) => False) (fun (u : Nat → Nat) => [])) ((True)) 1 6 := by
  refine x_met RX11 ⟨rfl, by decide +kernel⟩ (Nat.le_of_ble_eq_true rfl) ?_
  intro p e s m below meth c A ls C hE hZ ht hr hlocks hA hP hD hS hl
  have hl : lv_has ls 4 [(0, .ref a0)] := hl
  refine lv_aload_n C.1 C.2.1 dX11_symbol_0 rfl (lv_at hl 0 rfl) ?_
  refine lv_aload_n C.1 C.2.1 dX11_symbol_1 rfl (lv_at hl 0 rfl) ?_
  refine k_Vi (As := []) (rest := [.ref a0]) C hP hD hS hA (c_X11_useUpTape l D K a0 s0 n0 e0_1) X0_ok trivial (uwV m_10_20 m_10_21 m_10_22 m_1_2 m_10_23) (hdV 0 (by decide +kernel) rfl) ⟨Nat.le_of_ble_eq_true rfl, Nat.le_of_ble_eq_true rfl⟩ rfl rfl (ci := 10) rfl rfl (isC := [0]) (isR := [1]) (wr := [(a1, .inr (0, s1))]) ⟨rfl, rfl, rfl, rfl, by decide⟩ rfl hl.1 (Nat.le_of_ble_eq_true rfl) dX11_symbol_2 ⟨Nat.le_of_ble_eq_true rfl, Nat.le_of_ble_eq_true rfl⟩ (fun r_2 u_1 H locs hw hP hD hS => ?_)
  obtain rfl := hw
  have hP : va_P D vwCl [(a1, .inr (0, s1)), (a0, .inr (10, (s0.set 1 (.int 0))))] H := hP
  have hD : va_D A [(a1, .inr (0, s1)), (a0, .inr (10, (s0.set 1 (.int 0))))] := hD
  refine k_Vl (As := [.int 0]) (rest := []) C hP hD hS hA (c_X11_tapeName l D K a0 ((s0.set 1 (.int 0))) (sl n0)) X0_ok trivial (uwV m_86_4 m_86_5 m_86_6 m_1_2 m_86_7) (hdV 1 (by decide +kernel) rfl) ⟨Nat.le_of_ble_eq_true rfl, Nat.le_of_ble_eq_true rfl⟩ rfl rfl (ci := 10) rfl rfl (isC := [1]) (isR := [0]) (wr := [(a1, .inr (0, s1))]) ⟨rfl, rfl, rfl, rfl, by decide⟩ rfl hl.1 (Nat.le_of_ble_eq_true rfl) dX11_symbol_5 ⟨Nat.le_of_ble_eq_true rfl, Nat.le_of_ble_eq_true rfl⟩ (fun r_4 u_3 H locs hw hP hD hS => ?_)
  obtain rfl := hw
  have hP : va_P D vwCl [(a1, .inr (0, s1)), (a0, .inr (10, (s0.set 1 (.int 0))))] H := hP
  have hD : va_D A [(a1, .inr (0, s1)), (a0, .inr (10, (s0.set 1 (.int 0))))] := hD
  refine lv_lstore_n (lv' := [(1, .long 0), (0, .ref a0)]) C.1 C.2.1 dX11_symbol_8 rfl hl (by decide) rfl (fun ls hl => ?_)
  refine lv_aload_n C.1 C.2.1 dX11_symbol_9 rfl (lv_at hl 1 rfl) ?_
  refine k_get (v := .ref a1) C hP 1 rfl rfl inlX11 5 (by decide) m_2_10 (sn (by decide) e0_5) dX11_symbol_10 ?_
  refine k_get (v := .int 0) C hP 0 rfl rfl inlX0 19 (by decide) m_64_16 e1_19 dX11_symbol_13 ?_
  refine lv_if_eq (tgt := 39) C.1 C.2.1 dX11_symbol_16 (by decide) (fun _ => ?_) (fun h => absurd (by decide) h)
  refine lv_iconst (v := (-1)) C.1 C.2.1 dX11_symbol_39 (by decide) ?_
  refine lv_istore_n (lv' := [(3, .int (-1)), (1, .long 0), (0, .ref a0)]) C.1 C.2.1 dX11_symbol_40 rfl hl (by decide) rfl (fun ls hl => ?_)
  refine lv_iload_n C.1 C.2.1 dX11_symbol_41 rfl (lv_at hl 0 rfl) ?_
  refine lv_if_lt (tgt := 60) C.1 C.2.1 dX11_symbol_42 (by decide) (fun _ => ?_) (fun h => absurd (by decide) h)
  exact x_throw C htr hE hZ ht hlocks hS hl.1 trivial m_83_23 m_84_0 dX11_symbol_60 dX11_symbol_63 dX11_symbol_64 dX11_symbol_67 (by decide) (Nat.le_of_ble_eq_true rfl) (Nat.le_of_ble_eq_true rfl) (Nat.le_of_ble_eq_true rfl) (Nat.le_of_ble_eq_true rfl) (Nat.le_of_ble_eq_true rfl)
set_option maxHeartbeats 4000000 in
set_option maxRecDepth 100000 in
theorem c_X10_stored (l : Launch) (D : va_G) (K : Nat → ClassId) (a0 : Nat) (a1 : Nat) (s0 : List Value) (n0 : s0.length = 13) (x1 : Int32) (x2 : Int32) (e0_1 : s0[1]? = some (.ref a1)) : uMet l yX10_stored cX10_stored 4 (some .int) (rmD 0 0 0) D K X0 [.ref a0, .int x1, .int x2] [(a0, .inr (9, s0)), (a1, .inl (K 5, 16, .inr (.inr (.inr (.inr (fun _ => none))))))] (QI D K (fun (r : Int32) (u : Nat → Nat) => r = 0) (fun (u : Nat → Nat) => [(a0, .inr (9, s0)), (a1, .inl (K 5, 16, .inr (.inr (.inr (.inr (fun _ => none))))))])) 0 0 := by
  refine k_met RX10 ⟨rfl, by decide +kernel⟩ (Nat.le_of_ble_eq_true rfl) ?_
  intro p e s m below meth c A ls C hX hr hlocks hin hA hP hD hS hl
  have hl : lv_has ls 4 [(0, .ref a0), (1, .int x1), (2, .int x2)] := hl
  refine lv_iload_n C.1 C.2.1 dX10_stored_0 rfl (lv_at hl 1 rfl) ?_
  refine lv_if_lt (tgt := 34) C.1 C.2.1 dX10_stored_1 (by decide) (fun c_1 => ?_) (fun c_1 => ?_)
  · refine lv_iconst (v := 0) C.1 C.2.1 dX10_stored_34 (by decide) ?_
    refine lv_istore_n (lv' := [(3, .int 0), (0, .ref a0), (1, .int x1), (2, .int x2)]) C.1 C.2.1 dX10_stored_35 rfl hl (by decide) rfl (fun ls hl => ?_)
    refine lv_iload_n C.1 C.2.1 dX10_stored_36 rfl (lv_at hl 0 rfl) ?_
    refine lv_if_eq (tgt := 51) C.1 C.2.1 dX10_stored_37 (by decide) (fun _ => ?_) (fun h => absurd (by decide) h)
    refine lv_iconst (v := 0) C.1 C.2.1 dX10_stored_51 (by decide) ?_
    exact k_iret C hr hlocks hP hD hS rfl (fun _ => 0) [0, 1] rfl rfl rfl (Nat.le_of_ble_eq_true rfl) (Nat.le_of_ble_eq_true rfl) dX10_stored_52
  · refine lv_iload_n C.1 C.2.1 dX10_stored_4 rfl (lv_at hl 1 rfl) ?_
    refine lv_bipush (v := 16) C.1 C.2.1 dX10_stored_5 (by decide) ?_
    refine lv_icmp_ge (tgt := 34) C.1 C.2.1 dX10_stored_7 (by decide) (fun c_2 => ?_) (fun c_2 => ?_)
    · refine lv_iconst (v := 0) C.1 C.2.1 dX10_stored_34 (by decide) ?_
      refine lv_istore_n (lv' := [(3, .int 0), (0, .ref a0), (1, .int x1), (2, .int x2)]) C.1 C.2.1 dX10_stored_35 rfl hl (by decide) rfl (fun ls hl => ?_)
      refine lv_iload_n C.1 C.2.1 dX10_stored_36 rfl (lv_at hl 0 rfl) ?_
      refine lv_if_eq (tgt := 51) C.1 C.2.1 dX10_stored_37 (by decide) (fun _ => ?_) (fun h => absurd (by decide) h)
      refine lv_iconst (v := 0) C.1 C.2.1 dX10_stored_51 (by decide) ?_
      exact k_iret C hr hlocks hP hD hS rfl (fun _ => 0) [0, 1] rfl rfl rfl (Nat.le_of_ble_eq_true rfl) (Nat.le_of_ble_eq_true rfl) dX10_stored_52
    · refine lv_iload_n C.1 C.2.1 dX10_stored_10 rfl (lv_at hl 2 rfl) ?_
      refine lv_if_lt (tgt := 34) C.1 C.2.1 dX10_stored_11 (by decide) (fun c_3 => ?_) (fun c_3 => ?_)
      · refine lv_iconst (v := 0) C.1 C.2.1 dX10_stored_34 (by decide) ?_
        refine lv_istore_n (lv' := [(3, .int 0), (0, .ref a0), (1, .int x1), (2, .int x2)]) C.1 C.2.1 dX10_stored_35 rfl hl (by decide) rfl (fun ls hl => ?_)
        refine lv_iload_n C.1 C.2.1 dX10_stored_36 rfl (lv_at hl 0 rfl) ?_
        refine lv_if_eq (tgt := 51) C.1 C.2.1 dX10_stored_37 (by decide) (fun _ => ?_) (fun h => absurd (by decide) h)
        refine lv_iconst (v := 0) C.1 C.2.1 dX10_stored_51 (by decide) ?_
        exact k_iret C hr hlocks hP hD hS rfl (fun _ => 0) [0, 1] rfl rfl rfl (Nat.le_of_ble_eq_true rfl) (Nat.le_of_ble_eq_true rfl) dX10_stored_52
      · refine lv_iload_n C.1 C.2.1 dX10_stored_14 rfl (lv_at hl 2 rfl) ?_
        refine lv_sipush (v := 6400) C.1 C.2.1 dX10_stored_15 (by decide) ?_
        refine lv_icmp_ge (tgt := 34) C.1 C.2.1 dX10_stored_18 (by decide) (fun c_4 => ?_) (fun c_4 => ?_)
        · refine lv_iconst (v := 0) C.1 C.2.1 dX10_stored_34 (by decide) ?_
          refine lv_istore_n (lv' := [(3, .int 0), (0, .ref a0), (1, .int x1), (2, .int x2)]) C.1 C.2.1 dX10_stored_35 rfl hl (by decide) rfl (fun ls hl => ?_)
          refine lv_iload_n C.1 C.2.1 dX10_stored_36 rfl (lv_at hl 0 rfl) ?_
          refine lv_if_eq (tgt := 51) C.1 C.2.1 dX10_stored_37 (by decide) (fun _ => ?_) (fun h => absurd (by decide) h)
          refine lv_iconst (v := 0) C.1 C.2.1 dX10_stored_51 (by decide) ?_
          exact k_iret C hr hlocks hP hD hS rfl (fun _ => 0) [0, 1] rfl rfl rfl (Nat.le_of_ble_eq_true rfl) (Nat.le_of_ble_eq_true rfl) dX10_stored_52
        · refine lv_aload_n C.1 C.2.1 dX10_stored_21 rfl (lv_at hl 0 rfl) ?_
          refine k_get (v := .ref a1) C hP 0 rfl rfl inlX10 1 (by decide) m_3_6 e0_1 dX10_stored_22 ?_
          refine lv_iload_n C.1 C.2.1 dX10_stored_25 rfl (lv_at hl 1 rfl) ?_
          refine k_ald (w := .null) C hP 1 5 rfl rfl (vp_in_iff.mpr (by simp only [Int32.lt_iff_toInt_lt, Int32.le_iff_toInt_le, ← Int32.toInt_inj] at c_1 c_2 c_3 c_4 ⊢; have k0 : (0 : Int32).toInt = 0 := (by decide); have k1 : (16 : Int32).toInt = 16 := (by decide); have k2 : (6400 : Int32).toInt = 6400 := (by decide); exact ⟨by omega, by omega⟩)) rfl dX10_stored_26 ?_
          refine lv_ifnullN (tgt := 34) C.1 C.2.1 dX10_stored_27 (by decide) ?_
          refine lv_iconst (v := 0) C.1 C.2.1 dX10_stored_34 (by decide) ?_
          refine lv_istore_n (lv' := [(3, .int 0), (0, .ref a0), (1, .int x1), (2, .int x2)]) C.1 C.2.1 dX10_stored_35 rfl hl (by decide) rfl (fun ls hl => ?_)
          refine lv_iload_n C.1 C.2.1 dX10_stored_36 rfl (lv_at hl 0 rfl) ?_
          refine lv_if_eq (tgt := 51) C.1 C.2.1 dX10_stored_37 (by decide) (fun _ => ?_) (fun h => absurd (by decide) h)
          refine lv_iconst (v := 0) C.1 C.2.1 dX10_stored_51 (by decide) ?_
          exact k_iret C hr hlocks hP hD hS rfl (fun _ => 0) [0, 1] rfl rfl rfl (Nat.le_of_ble_eq_true rfl) (Nat.le_of_ble_eq_true rfl) dX10_stored_52
set_option maxHeartbeats 4000000 in
set_option maxRecDepth 100000 in
theorem t_X11_block (l : Launch) (htr : l.stackTraces = false) (D : va_G) (K : Nat → ClassId) (a0 : Nat) (a1 : Nat) (a2 : Nat) (s0 : List Value) (n0 : s0.length = 8) (s1 : List Value) (n1 : s1.length = 13) (x1 : Int32) (x2 : Int32) (x3 : Int32) (e0_3 : s0[3]? = some (.ref a1)) (e1_1 : s1[1]? = some (.ref a2)) : xMet l yX11_block cX11_block 5 (some .int) (rmD 6 1 6) D K [.ref a0, .int x1, .int x2, .int x3] [(a0, .inr (10, s0)), (a1, .inr (9, s1)), (a2, .inl (K 5, 16, .inr (.inr (.inr (.inr (fun _ => none))))))] (QI D K (fun (r : Int32) (u : Nat → Nat) => ((¬ x1 < 0) ∧ (¬ 16 ≤ x1) ∧ (¬ x2 < 0) ∧ (¬ 64 ≤ x2) ∧ (¬ x3 < 0) ∧ (¬ 100 ≤ x3) ∧ r = 0)) (fun (u : Nat → Nat) => [])) (((x1 < 0)) ∨ ((¬ x1 < 0) ∧ (16 ≤ x1)) ∨ ((¬ x1 < 0) ∧ (¬ 16 ≤ x1) ∧ (x2 < 0)) ∨ ((¬ x1 < 0) ∧ (¬ 16 ≤ x1) ∧ (¬ x2 < 0) ∧ (64 ≤ x2)) ∨ ((¬ x1 < 0) ∧ (¬ 16 ≤ x1) ∧ (¬ x2 < 0) ∧ (¬ 64 ≤ x2) ∧ (x3 < 0)) ∨ ((¬ x1 < 0) ∧ (¬ 16 ≤ x1) ∧ (¬ x2 < 0) ∧ (¬ 64 ≤ x2) ∧ (¬ x3 < 0) ∧ (100 ≤ x3))) 1 6 := by
  refine x_met RX11 ⟨rfl, by decide +kernel⟩ (Nat.le_of_ble_eq_true rfl) ?_
  intro p e s m below meth c A ls C hE hZ ht hr hlocks hA hP hD hS hl
  have hl : lv_has ls 5 [(0, .ref a0), (1, .int x1), (2, .int x2), (3, .int x3)] := hl
  refine lv_iload_n C.1 C.2.1 dX11_block_0 rfl (lv_at hl 1 rfl) ?_
  refine lv_if_lt (tgt := 34) C.1 C.2.1 dX11_block_1 (by decide) (fun c_1 => ?_) (fun c_1 => ?_)
  · refine lv_iconst (v := 0) C.1 C.2.1 dX11_block_34 (by decide) ?_
    refine lv_istore (lv' := [(4, .int 0), (0, .ref a0), (1, .int x1), (2, .int x2), (3, .int x3)]) C.1 C.2.1 dX11_block_35 hl (by decide) rfl (fun ls hl => ?_)
    refine lv_iload C.1 C.2.1 dX11_block_37 (lv_at hl 0 rfl) ?_
    refine lv_if_ne (tgt := 50) C.1 C.2.1 dX11_block_39 (by decide) (fun h => absurd h (by decide)) (fun _ => ?_)
    exact x_throw C htr hE hZ ht hlocks hS hl.1 (Or.inl c_1) m_83_23 m_84_0 dX11_block_42 dX11_block_45 dX11_block_46 dX11_block_49 (by decide) (Nat.le_of_ble_eq_true rfl) (Nat.le_of_ble_eq_true rfl) (Nat.le_of_ble_eq_true rfl) (Nat.le_of_ble_eq_true rfl) (Nat.le_of_ble_eq_true rfl)
  · refine lv_iload_n C.1 C.2.1 dX11_block_4 rfl (lv_at hl 1 rfl) ?_
    refine lv_bipush (v := 16) C.1 C.2.1 dX11_block_5 (by decide) ?_
    refine lv_icmp_ge (tgt := 34) C.1 C.2.1 dX11_block_7 (by decide) (fun c_2 => ?_) (fun c_2 => ?_)
    · refine lv_iconst (v := 0) C.1 C.2.1 dX11_block_34 (by decide) ?_
      refine lv_istore (lv' := [(4, .int 0), (0, .ref a0), (1, .int x1), (2, .int x2), (3, .int x3)]) C.1 C.2.1 dX11_block_35 hl (by decide) rfl (fun ls hl => ?_)
      refine lv_iload C.1 C.2.1 dX11_block_37 (lv_at hl 0 rfl) ?_
      refine lv_if_ne (tgt := 50) C.1 C.2.1 dX11_block_39 (by decide) (fun h => absurd h (by decide)) (fun _ => ?_)
      exact x_throw C htr hE hZ ht hlocks hS hl.1 (Or.inr (Or.inl ⟨c_1, c_2⟩)) m_83_23 m_84_0 dX11_block_42 dX11_block_45 dX11_block_46 dX11_block_49 (by decide) (Nat.le_of_ble_eq_true rfl) (Nat.le_of_ble_eq_true rfl) (Nat.le_of_ble_eq_true rfl) (Nat.le_of_ble_eq_true rfl) (Nat.le_of_ble_eq_true rfl)
    · refine lv_iload_n C.1 C.2.1 dX11_block_10 rfl (lv_at hl 2 rfl) ?_
      refine lv_if_lt (tgt := 34) C.1 C.2.1 dX11_block_11 (by decide) (fun c_3 => ?_) (fun c_3 => ?_)
      · refine lv_iconst (v := 0) C.1 C.2.1 dX11_block_34 (by decide) ?_
        refine lv_istore (lv' := [(4, .int 0), (0, .ref a0), (1, .int x1), (2, .int x2), (3, .int x3)]) C.1 C.2.1 dX11_block_35 hl (by decide) rfl (fun ls hl => ?_)
        refine lv_iload C.1 C.2.1 dX11_block_37 (lv_at hl 0 rfl) ?_
        refine lv_if_ne (tgt := 50) C.1 C.2.1 dX11_block_39 (by decide) (fun h => absurd h (by decide)) (fun _ => ?_)
        exact x_throw C htr hE hZ ht hlocks hS hl.1 (Or.inr (Or.inr (Or.inl ⟨c_1, c_2, c_3⟩))) m_83_23 m_84_0 dX11_block_42 dX11_block_45 dX11_block_46 dX11_block_49 (by decide) (Nat.le_of_ble_eq_true rfl) (Nat.le_of_ble_eq_true rfl) (Nat.le_of_ble_eq_true rfl) (Nat.le_of_ble_eq_true rfl) (Nat.le_of_ble_eq_true rfl)
      · refine lv_iload_n C.1 C.2.1 dX11_block_14 rfl (lv_at hl 2 rfl) ?_
        refine lv_bipush (v := 64) C.1 C.2.1 dX11_block_15 (by decide) ?_
        refine lv_icmp_ge (tgt := 34) C.1 C.2.1 dX11_block_17 (by decide) (fun c_4 => ?_) (fun c_4 => ?_)
        · refine lv_iconst (v := 0) C.1 C.2.1 dX11_block_34 (by decide) ?_
          refine lv_istore (lv' := [(4, .int 0), (0, .ref a0), (1, .int x1), (2, .int x2), (3, .int x3)]) C.1 C.2.1 dX11_block_35 hl (by decide) rfl (fun ls hl => ?_)
          refine lv_iload C.1 C.2.1 dX11_block_37 (lv_at hl 0 rfl) ?_
          refine lv_if_ne (tgt := 50) C.1 C.2.1 dX11_block_39 (by decide) (fun h => absurd h (by decide)) (fun _ => ?_)
          exact x_throw C htr hE hZ ht hlocks hS hl.1 (Or.inr (Or.inr (Or.inr (Or.inl ⟨c_1, c_2, c_3, c_4⟩)))) m_83_23 m_84_0 dX11_block_42 dX11_block_45 dX11_block_46 dX11_block_49 (by decide) (Nat.le_of_ble_eq_true rfl) (Nat.le_of_ble_eq_true rfl) (Nat.le_of_ble_eq_true rfl) (Nat.le_of_ble_eq_true rfl) (Nat.le_of_ble_eq_true rfl)
        · refine lv_iload_n C.1 C.2.1 dX11_block_20 rfl (lv_at hl 3 rfl) ?_
          refine lv_if_lt (tgt := 34) C.1 C.2.1 dX11_block_21 (by decide) (fun c_5 => ?_) (fun c_5 => ?_)
          · refine lv_iconst (v := 0) C.1 C.2.1 dX11_block_34 (by decide) ?_
            refine lv_istore (lv' := [(4, .int 0), (0, .ref a0), (1, .int x1), (2, .int x2), (3, .int x3)]) C.1 C.2.1 dX11_block_35 hl (by decide) rfl (fun ls hl => ?_)
            refine lv_iload C.1 C.2.1 dX11_block_37 (lv_at hl 0 rfl) ?_
            refine lv_if_ne (tgt := 50) C.1 C.2.1 dX11_block_39 (by decide) (fun h => absurd h (by decide)) (fun _ => ?_)
            exact x_throw C htr hE hZ ht hlocks hS hl.1 (Or.inr (Or.inr (Or.inr (Or.inr (Or.inl ⟨c_1, c_2, c_3, c_4, c_5⟩))))) m_83_23 m_84_0 dX11_block_42 dX11_block_45 dX11_block_46 dX11_block_49 (by decide) (Nat.le_of_ble_eq_true rfl) (Nat.le_of_ble_eq_true rfl) (Nat.le_of_ble_eq_true rfl) (Nat.le_of_ble_eq_true rfl) (Nat.le_of_ble_eq_true rfl)
          · refine lv_iload_n C.1 C.2.1 dX11_block_24 rfl (lv_at hl 3 rfl) ?_
            refine lv_bipush (v := 100) C.1 C.2.1 dX11_block_25 (by decide) ?_
            refine lv_icmp_ge (tgt := 34) C.1 C.2.1 dX11_block_27 (by decide) (fun c_6 => ?_) (fun c_6 => ?_)
            · refine lv_iconst (v := 0) C.1 C.2.1 dX11_block_34 (by decide) ?_
              refine lv_istore (lv' := [(4, .int 0), (0, .ref a0), (1, .int x1), (2, .int x2), (3, .int x3)]) C.1 C.2.1 dX11_block_35 hl (by decide) rfl (fun ls hl => ?_)
              refine lv_iload C.1 C.2.1 dX11_block_37 (lv_at hl 0 rfl) ?_
              refine lv_if_ne (tgt := 50) C.1 C.2.1 dX11_block_39 (by decide) (fun h => absurd h (by decide)) (fun _ => ?_)
              exact x_throw C htr hE hZ ht hlocks hS hl.1 (Or.inr (Or.inr (Or.inr (Or.inr (Or.inr ⟨c_1, c_2, c_3, c_4, c_5, c_6⟩))))) m_83_23 m_84_0 dX11_block_42 dX11_block_45 dX11_block_46 dX11_block_49 (by decide) (Nat.le_of_ble_eq_true rfl) (Nat.le_of_ble_eq_true rfl) (Nat.le_of_ble_eq_true rfl) (Nat.le_of_ble_eq_true rfl) (Nat.le_of_ble_eq_true rfl)
            · refine lv_iconst (v := 1) C.1 C.2.1 dX11_block_30 (by decide) ?_
              refine lv_goto (tgt := 35) C.1 C.2.1 dX11_block_31 (by decide) ?_
              refine lv_istore (lv' := [(4, .int 1), (0, .ref a0), (1, .int x1), (2, .int x2), (3, .int x3)]) C.1 C.2.1 dX11_block_35 hl (by decide) rfl (fun ls hl => ?_)
              refine lv_iload C.1 C.2.1 dX11_block_37 (lv_at hl 0 rfl) ?_
              refine lv_if_ne (tgt := 50) C.1 C.2.1 dX11_block_39 (by decide) (fun _ => ?_) (fun h => absurd h (by decide))
              refine lv_aload_n C.1 C.2.1 dX11_block_50 rfl (lv_at hl 1 rfl) ?_
              refine k_get (v := .ref a1) C hP 0 rfl rfl inlX11 3 (by decide) m_2_8 e0_3 dX11_block_51 ?_
              refine lv_iload_n C.1 C.2.1 dX11_block_54 rfl (lv_at hl 2 rfl) ?_
              refine lv_iload_n C.1 C.2.1 dX11_block_55 rfl (lv_at hl 3 rfl) ?_
              refine lv_bipush (v := 100) C.1 C.2.1 dX11_block_56 (by decide) ?_
              refine k_imul (v := (x2 * 100)) C rfl dX11_block_58 ?_
              refine lv_iload_n C.1 C.2.1 dX11_block_59 rfl (lv_at hl 4 rfl) ?_
              refine k_iadd (v := ((x2 * 100) + x3)) C rfl dX11_block_60 ?_
              refine k_Vi (As := [.int x1, .int ((x2 * 100) + x3)]) (rest := []) C hP hD hS hA (c_X10_stored l D K a1 a2 s1 n1 x1 (((x2 * 100) + x3)) e1_1) X0_ok trivial (uwV m_87_21 m_53_6 m_53_7 m_1_20 m_53_8) (hdV 2 (by decide +kernel) rfl) ⟨Nat.le_of_ble_eq_true rfl, Nat.le_of_ble_eq_true rfl⟩ rfl rfl (ci := 9) rfl rfl (isC := [1, 2]) (isR := [0]) (wr := [(a0, .inr (10, s0))]) ⟨rfl, rfl, rfl, rfl, by decide⟩ rfl hl.1 (Nat.le_of_ble_eq_true rfl) dX11_block_61 ⟨Nat.le_of_ble_eq_true rfl, Nat.le_of_ble_eq_true rfl⟩ (fun r_8 u_7 H locs hw hP hD hS => ?_)
              obtain rfl := hw
              have hP : va_P D vwCl [(a0, .inr (10, s0)), (a1, .inr (9, s1)), (a2, .inl (K 5, 16, .inr (.inr (.inr (.inr (fun _ => none))))))] H := hP
              have hD : va_D A [(a0, .inr (10, s0)), (a1, .inr (9, s1)), (a2, .inl (K 5, 16, .inr (.inr (.inr (.inr (fun _ => none))))))] := hD
              refine k_Si (As := [.int 0]) (rest := []) C hP hD hS hA (c_X1_shown l D K ) X0_ok trivial (uwS m_84_4 m_84_5 m_14_2 m_84_6) (hdS 1 (by decide +kernel) rfl) ⟨Nat.le_of_ble_eq_true rfl, Nat.le_of_ble_eq_true rfl⟩ rfl rfl (isC := []) (isR := [0, 1, 2]) (wr := [(a0, .inr (10, s0)), (a1, .inr (9, s1)), (a2, .inl (K 5, 16, .inr (.inr (.inr (.inr (fun _ => none))))))]) ⟨rfl, rfl, rfl, rfl, by decide⟩ rfl hl.1 (Nat.le_of_ble_eq_true rfl) dX11_block_64 ⟨Nat.le_of_ble_eq_true rfl, Nat.le_of_ble_eq_true rfl⟩ (fun r_10 u_9 H locs hw hP hD hS => ?_)
              obtain rfl := hw
              have hP : va_P D vwCl [(a0, .inr (10, s0)), (a1, .inr (9, s1)), (a2, .inl (K 5, 16, .inr (.inr (.inr (.inr (fun _ => none))))))] H := hP
              have hD : va_D A [(a0, .inr (10, s0)), (a1, .inr (9, s1)), (a2, .inl (K 5, 16, .inr (.inr (.inr (.inr (fun _ => none))))))] := hD
              exact vx_ret (k_iret C hr hlocks hP hD hS rfl (fun _ => 0) [] rfl rfl ⟨c_1, c_2, c_3, c_4, c_5, c_6, rfl⟩ (Nat.le_of_ble_eq_true rfl) (Nat.le_of_ble_eq_true rfl) dX11_block_67)
