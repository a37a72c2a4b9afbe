theorem dX10_free_0 : decode cX10_free 0 = .ok (.aload_n 0, 1) := by decide +kernel
theorem dX10_free_1 : decode cX10_free 1 = .ok (.getfield 20, 3) := by decide +kernel
theorem dX10_free_10 : decode cX10_free 10 = .ok (.iload_n 1, 1) := by decide +kernel
theorem dX10_free_11 : decode cX10_free 11 = .ok (.bipush 16, 2) := by decide +kernel
theorem dX10_free_13 : decode cX10_free 13 = .ok (.if_icmp .gt 16, 3) := by decide +kernel
theorem dX10_free_16 : decode cX10_free 16 = .ok (.aload_n 0, 1) := by decide +kernel
theorem dX10_free_17 : decode cX10_free 17 = .ok (.getfield 27, 3) := by decide +kernel
theorem dX10_free_20 : decode cX10_free 20 = .ok (.iload_n 1, 1) := by decide +kernel
theorem dX10_free_21 : decode cX10_free 21 = .ok (.iconst 0, 1) := by decide +kernel
theorem dX10_free_22 : decode cX10_free 22 = .ok (.bastore, 1) := by decide +kernel
theorem dX10_free_23 : decode cX10_free 23 = .ok (.iinc 1 1, 3) := by decide +kernel
theorem dX10_free_26 : decode cX10_free 26 = .ok (.goto (-16), 3) := by decide +kernel
theorem dX10_free_29 : decode cX10_free 29 = .ok (.aload_n 0, 1) := by decide +kernel
theorem dX10_free_30 : decode cX10_free 30 = .ok (.iconst 0, 1) := by decide +kernel
theorem dX10_free_31 : decode cX10_free 31 = .ok (.putfield 66, 3) := by decide +kernel
theorem dX10_free_34 : decode cX10_free 34 = .ok (.return_, 1) := by decide +kernel
theorem dX10_free_4 : decode cX10_free 4 = .ok (.lconst 0, 1) := by decide +kernel
theorem dX10_free_5 : decode cX10_free 5 = .ok (.invokestatic 60, 3) := by decide +kernel
theorem dX10_free_8 : decode cX10_free 8 = .ok (.iconst 0, 1) := by decide +kernel
theorem dX10_free_9 : decode cX10_free 9 = .ok (.istore_n 1, 1) := by decide +kernel
theorem dX2_clear_0 : decode cX2_clear 0 = .ok (.aload_n 0, 1) := by decide +kernel
theorem dX2_clear_1 : decode cX2_clear 1 = .ok (.getfield 19, 3) := by decide +kernel
theorem dX2_clear_12 : decode cX2_clear 12 = .ok (.iconst 0, 1) := by decide +kernel
theorem dX2_clear_13 : decode cX2_clear 13 = .ok (.invokestatic 26, 3) := by decide +kernel
theorem dX2_clear_16 : decode cX2_clear 16 = .ok (.aload_n 0, 1) := by decide +kernel
theorem dX2_clear_17 : decode cX2_clear 17 = .ok (.getfield 22, 3) := by decide +kernel
theorem dX2_clear_20 : decode cX2_clear 20 = .ok (.invokevirtual 32, 3) := by decide +kernel
theorem dX2_clear_23 : decode cX2_clear 23 = .ok (.aload_n 0, 1) := by decide +kernel
theorem dX2_clear_24 : decode cX2_clear 24 = .ok (.iconst 0, 1) := by decide +kernel
theorem dX2_clear_25 : decode cX2_clear 25 = .ok (.putfield 37, 3) := by decide +kernel
theorem dX2_clear_28 : decode cX2_clear 28 = .ok (.aload_n 0, 1) := by decide +kernel
theorem dX2_clear_29 : decode cX2_clear 29 = .ok (.iconst 0, 1) := by decide +kernel
theorem dX2_clear_30 : decode cX2_clear 30 = .ok (.putfield 41, 3) := by decide +kernel
theorem dX2_clear_33 : decode cX2_clear 33 = .ok (.aload_n 0, 1) := by decide +kernel
theorem dX2_clear_34 : decode cX2_clear 34 = .ok (.iconst 0, 1) := by decide +kernel
theorem dX2_clear_35 : decode cX2_clear 35 = .ok (.putfield 44, 3) := by decide +kernel
theorem dX2_clear_38 : decode cX2_clear 38 = .ok (.aload_n 0, 1) := by decide +kernel
theorem dX2_clear_39 : decode cX2_clear 39 = .ok (.lconst 0, 1) := by decide +kernel
theorem dX2_clear_4 : decode cX2_clear 4 = .ok (.iconst 0, 1) := by decide +kernel
theorem dX2_clear_40 : decode cX2_clear 40 = .ok (.putfield 47, 3) := by decide +kernel
theorem dX2_clear_43 : decode cX2_clear 43 = .ok (.aload_n 0, 1) := by decide +kernel
theorem dX2_clear_44 : decode cX2_clear 44 = .ok (.bipush 9, 2) := by decide +kernel
theorem dX2_clear_46 : decode cX2_clear 46 = .ok (.putfield 15, 3) := by decide +kernel
theorem dX2_clear_49 : decode cX2_clear 49 = .ok (.aload_n 0, 1) := by decide +kernel
theorem dX2_clear_5 : decode cX2_clear 5 = .ok (.invokestatic 26, 3) := by decide +kernel
theorem dX2_clear_50 : decode cX2_clear 50 = .ok (.iconst 0, 1) := by decide +kernel
theorem dX2_clear_51 : decode cX2_clear 51 = .ok (.putfield 51, 3) := by decide +kernel
theorem dX2_clear_54 : decode cX2_clear 54 = .ok (.aload_n 0, 1) := by decide +kernel
theorem dX2_clear_55 : decode cX2_clear 55 = .ok (.iconst 0, 1) := by decide +kernel
theorem dX2_clear_56 : decode cX2_clear 56 = .ok (.putfield 54, 3) := by decide +kernel
theorem dX2_clear_59 : decode cX2_clear 59 = .ok (.return_, 1) := by decide +kernel
theorem dX2_clear_8 : decode cX2_clear 8 = .ok (.aload_n 0, 1) := by decide +kernel
theorem dX2_clear_9 : decode cX2_clear 9 = .ok (.getfield 11, 3) := by decide +kernel
theorem dX8_clear_0 : decode cX8_clear 0 = .ok (.aload_n 0, 1) := by decide +kernel
theorem dX8_clear_1 : decode cX8_clear 1 = .ok (.iconst 0, 1) := by decide +kernel
theorem dX8_clear_10 : decode cX8_clear 10 = .ok (.aload_n 0, 1) := by decide +kernel
theorem dX8_clear_11 : decode cX8_clear 11 = .ok (.iconst 0, 1) := by decide +kernel
theorem dX8_clear_12 : decode cX8_clear 12 = .ok (.putfield 51, 3) := by decide +kernel
theorem dX8_clear_15 : decode cX8_clear 15 = .ok (.iconst 0, 1) := by decide +kernel
theorem dX8_clear_16 : decode cX8_clear 16 = .ok (.istore_n 1, 1) := by decide +kernel
theorem dX8_clear_17 : decode cX8_clear 17 = .ok (.iload_n 1, 1) := by decide +kernel
theorem dX8_clear_18 : decode cX8_clear 18 = .ok (.bipush 10, 2) := by decide +kernel
theorem dX8_clear_2 : decode cX8_clear 2 = .ok (.putfield 44, 3) := by decide +kernel
theorem dX8_clear_20 : decode cX8_clear 20 = .ok (.if_icmp .ge 16, 3) := by decide +kernel
theorem dX8_clear_23 : decode cX8_clear 23 = .ok (.aload_n 0, 1) := by decide +kernel
theorem dX8_clear_24 : decode cX8_clear 24 = .ok (.getfield 31, 3) := by decide +kernel
theorem dX8_clear_27 : decode cX8_clear 27 = .ok (.iload_n 1, 1) := by decide +kernel
theorem dX8_clear_28 : decode cX8_clear 28 = .ok (.iconst 0, 1) := by decide +kernel
theorem dX8_clear_29 : decode cX8_clear 29 = .ok (.bastore, 1) := by decide +kernel
theorem dX8_clear_30 : decode cX8_clear 30 = .ok (.iinc 1 1, 3) := by decide +kernel
theorem dX8_clear_33 : decode cX8_clear 33 = .ok (.goto (-16), 3) := by decide +kernel
theorem dX8_clear_36 : decode cX8_clear 36 = .ok (.return_, 1) := by decide +kernel
theorem dX8_clear_5 : decode cX8_clear 5 = .ok (.aload_n 0, 1) := by decide +kernel
theorem dX8_clear_6 : decode cX8_clear 6 = .ok (.iconst 0, 1) := by decide +kernel
theorem dX8_clear_7 : decode cX8_clear 7 = .ok (.putfield 48, 3) := by decide +kernel
theorem dX0_open_0 : decode cX0_open 0 = .ok (.aload_n 0, 1) := by decide +kernel
theorem dX0_open_1 : decode cX0_open 1 = .ok (.getfield 25, 3) := by decide +kernel
theorem dX0_open_10 : decode cX0_open 10 = .ok (.getfield 32, 3) := by decide +kernel
theorem dX0_open_13 : decode cX0_open 13 = .ok (.invokevirtual 55, 3) := by decide +kernel
theorem dX0_open_16 : decode cX0_open 16 = .ok (.aload_n 0, 1) := by decide +kernel
theorem dX0_open_17 : decode cX0_open 17 = .ok (.getfield 9, 3) := by decide +kernel
theorem dX0_open_20 : decode cX0_open 20 = .ok (.lconst 0, 1) := by decide +kernel
theorem dX0_open_21 : decode cX0_open 21 = .ok (.invokestatic 60, 3) := by decide +kernel
theorem dX0_open_24 : decode cX0_open 24 = .ok (.aload_n 0, 1) := by decide +kernel
theorem dX0_open_25 : decode cX0_open 25 = .ok (.iconst 0, 1) := by decide +kernel
theorem dX0_open_26 : decode cX0_open 26 = .ok (.putfield 66, 3) := by decide +kernel
theorem dX0_open_29 : decode cX0_open 29 = .ok (.aload_n 0, 1) := by decide +kernel
theorem dX0_open_30 : decode cX0_open 30 = .ok (.iconst 0, 1) := by decide +kernel
theorem dX0_open_31 : decode cX0_open 31 = .ok (.putfield 70, 3) := by decide +kernel
theorem dX0_open_34 : decode cX0_open 34 = .ok (.aload_n 0, 1) := by decide +kernel
theorem dX0_open_35 : decode cX0_open 35 = .ok (.iload_n 3, 1) := by decide +kernel
theorem dX0_open_36 : decode cX0_open 36 = .ok (.ifCond .eq 7, 3) := by decide +kernel
theorem dX0_open_4 : decode cX0_open 4 = .ok (.iload_n 1, 1) := by decide +kernel
theorem dX0_open_43 : decode cX0_open 43 = .ok (.sipush (-3999), 3) := by decide +kernel
theorem dX0_open_46 : decode cX0_open 46 = .ok (.putfield 75, 3) := by decide +kernel
theorem dX0_open_49 : decode cX0_open 49 = .ok (.aload_n 0, 1) := by decide +kernel
theorem dX0_open_5 : decode cX0_open 5 = .ok (.iload_n 2, 1) := by decide +kernel
theorem dX0_open_50 : decode cX0_open 50 = .ok (.iconst 0, 1) := by decide +kernel
theorem dX0_open_51 : decode cX0_open 51 = .ok (.putfield 78, 3) := by decide +kernel
theorem dX0_open_54 : decode cX0_open 54 = .ok (.aload_n 0, 1) := by decide +kernel
theorem dX0_open_55 : decode cX0_open 55 = .ok (.iconst 0, 1) := by decide +kernel
theorem dX0_open_56 : decode cX0_open 56 = .ok (.putfield 81, 3) := by decide +kernel
theorem dX0_open_59 : decode cX0_open 59 = .ok (.aload_n 0, 1) := by decide +kernel
theorem dX0_open_6 : decode cX0_open 6 = .ok (.invokevirtual 51, 3) := by decide +kernel
theorem dX0_open_60 : decode cX0_open 60 = .ok (.iconst 0, 1) := by decide +kernel
theorem dX0_open_61 : decode cX0_open 61 = .ok (.putfield 84, 3) := by decide +kernel
theorem dX0_open_64 : decode cX0_open 64 = .ok (.aload_n 0, 1) := by decide +kernel
theorem dX0_open_65 : decode cX0_open 65 = .ok (.iconst 0, 1) := by decide +kernel
theorem dX0_open_66 : decode cX0_open 66 = .ok (.putfield 87, 3) := by decide +kernel
theorem dX0_open_69 : decode cX0_open 69 = .ok (.return_, 1) := by decide +kernel
theorem dX0_open_9 : decode cX0_open 9 = .ok (.aload_n 0, 1) := by decide +kernel
theorem dX0_nextWrong_0 : decode cX0_nextWrong 0 = .ok (.iconst 0, 1) := by decide +kernel
theorem dX0_nextWrong_1 : decode cX0_nextWrong 1 = .ok (.istore_n 1, 1) := by decide +kernel
theorem dX0_nextWrong_10 : decode cX0_nextWrong 10 = .ok (.getfield 78, 3) := by decide +kernel
theorem dX0_nextWrong_13 : decode cX0_nextWrong 13 = .ok (.ifCond .ne 94, 3) := by decide +kernel
theorem dX0_nextWrong_16 : decode cX0_nextWrong 16 = .ok (.aload_n 0, 1) := by decide +kernel
theorem dX0_nextWrong_17 : decode cX0_nextWrong 17 = .ok (.getfield 25, 3) := by decide +kernel
theorem dX0_nextWrong_2 : decode cX0_nextWrong 2 = .ok (.iload_n 1, 1) := by decide +kernel
theorem dX0_nextWrong_20 : decode cX0_nextWrong 20 = .ok (.invokevirtual 94, 3) := by decide +kernel
theorem dX0_nextWrong_23 : decode cX0_nextWrong 23 = .ok (.ifCond .ne 17, 3) := by decide +kernel
theorem dX0_nextWrong_26 : decode cX0_nextWrong 26 = .ok (.aload_n 0, 1) := by decide +kernel
theorem dX0_nextWrong_27 : decode cX0_nextWrong 27 = .ok (.aload_n 0, 1) := by decide +kernel
theorem dX0_nextWrong_28 : decode cX0_nextWrong 28 = .ok (.getfield 25, 3) := by decide +kernel
theorem dX0_nextWrong_3 : decode cX0_nextWrong 3 = .ok (.sipush 8192, 3) := by decide +kernel
theorem dX0_nextWrong_31 : decode cX0_nextWrong 31 = .ok (.getfield 98, 3) := by decide +kernel
theorem dX0_nextWrong_34 : decode cX0_nextWrong 34 = .ok (.putfield 78, 3) := by decide +kernel
theorem dX0_nextWrong_37 : decode cX0_nextWrong 37 = .ok (.bipush 7, 2) := by decide +kernel
theorem dX0_nextWrong_39 : decode cX0_nextWrong 39 = .ok (.ireturn, 1) := by decide +kernel
theorem dX0_nextWrong_6 : decode cX0_nextWrong 6 = .ok (.if_icmp .gt 101, 3) := by decide +kernel
theorem dX0_nextWrong_9 : decode cX0_nextWrong 9 = .ok (.aload_n 0, 1) := by decide +kernel
theorem dX0_close_0 : decode cX0_close 0 = .ok (.aload_n 0, 1) := by decide +kernel
theorem dX0_close_1 : decode cX0_close 1 = .ok (.iload_n 1, 1) := by decide +kernel
theorem dX0_close_14 : decode cX0_close 14 = .ok (.iconst 0, 1) := by decide +kernel
theorem dX0_close_15 : decode cX0_close 15 = .ok (.putfield 87, 3) := by decide +kernel
theorem dX0_close_18 : decode cX0_close 18 = .ok (.return_, 1) := by decide +kernel
theorem dX0_close_2 : decode cX0_close 2 = .ok (.putfield 91, 3) := by decide +kernel
theorem dX0_close_5 : decode cX0_close 5 = .ok (.aload_n 0, 1) := by decide +kernel
theorem dX0_close_6 : decode cX0_close 6 = .ok (.iload_n 1, 1) := by decide +kernel
theorem dX0_close_7 : decode cX0_close 7 = .ok (.ifCond .ne 7, 3) := by decide +kernel
theorem dX11_assemble_0 : decode cX11_assemble 0 = .ok (.aload_n 0, 1) := by decide +kernel
theorem dX11_assemble_1 : decode cX11_assemble 1 = .ok (.invokevirtual 78, 3) := by decide +kernel
theorem dX11_assemble_10 : decode cX11_assemble 10 = .ok (.aload_n 0, 1) := by decide +kernel
theorem dX11_assemble_11 : decode cX11_assemble 11 = .ok (.getfield 36, 3) := by decide +kernel
theorem dX11_assemble_14 : decode cX11_assemble 14 = .ok (.getfield 82, 3) := by decide +kernel
theorem dX11_assemble_17 : decode cX11_assemble 17 = .ok (.iconst 0, 1) := by decide +kernel
theorem dX11_assemble_18 : decode cX11_assemble 18 = .ok (.iload_n 1, 1) := by decide +kernel
theorem dX11_assemble_19 : decode cX11_assemble 19 = .ok (.invokestatic 85, 3) := by decide +kernel
theorem dX11_assemble_22 : decode cX11_assemble 22 = .ok (.aload_n 0, 1) := by decide +kernel
theorem dX11_assemble_23 : decode cX11_assemble 23 = .ok (.getfield 44, 3) := by decide +kernel
theorem dX11_assemble_26 : decode cX11_assemble 26 = .ok (.invokevirtual 91, 3) := by decide +kernel
theorem dX11_assemble_29 : decode cX11_assemble 29 = .ok (.aload_n 0, 1) := by decide +kernel
theorem dX11_assemble_30 : decode cX11_assemble 30 = .ok (.getfield 48, 3) := by decide +kernel
theorem dX11_assemble_33 : decode cX11_assemble 33 = .ok (.iconst 0, 1) := by decide +kernel
theorem dX11_assemble_34 : decode cX11_assemble 34 = .ok (.iload_n 1, 1) := by decide +kernel
theorem dX11_assemble_35 : decode cX11_assemble 35 = .ok (.iconst 0, 1) := by decide +kernel
theorem dX11_assemble_36 : decode cX11_assemble 36 = .ok (.invokevirtual 94, 3) := by decide +kernel
theorem dX11_assemble_39 : decode cX11_assemble 39 = .ok (.aload_n 0, 1) := by decide +kernel
theorem dX11_assemble_4 : decode cX11_assemble 4 = .ok (.istore_n 1, 1) := by decide +kernel
theorem dX11_assemble_40 : decode cX11_assemble 40 = .ok (.getfield 48, 3) := by decide +kernel
theorem dX11_assemble_43 : decode cX11_assemble 43 = .ok (.invokevirtual 98, 3) := by decide +kernel
theorem dX11_assemble_46 : decode cX11_assemble 46 = .ok (.istore_n 2, 1) := by decide +kernel
theorem dX11_assemble_47 : decode cX11_assemble 47 = .ok (.aload_n 0, 1) := by decide +kernel
theorem dX11_assemble_48 : decode cX11_assemble 48 = .ok (.getfield 48, 3) := by decide +kernel
theorem dX11_assemble_5 : decode cX11_assemble 5 = .ok (.aload_n 0, 1) := by decide +kernel
theorem dX11_assemble_51 : decode cX11_assemble 51 = .ok (.iload_n 2, 1) := by decide +kernel
theorem dX11_assemble_52 : decode cX11_assemble 52 = .ok (.invokevirtual 101, 3) := by decide +kernel
theorem dX11_assemble_55 : decode cX11_assemble 55 = .ok (.iload_n 2, 1) := by decide +kernel
theorem dX11_assemble_56 : decode cX11_assemble 56 = .ok (.ifCond .eq 20, 3) := by decide +kernel
theorem dX11_assemble_59 : decode cX11_assemble 59 = .ok (.aload_n 0, 1) := by decide +kernel
theorem dX11_assemble_6 : decode cX11_assemble 6 = .ok (.getfield 32, 3) := by decide +kernel
theorem dX11_assemble_60 : decode cX11_assemble 60 = .ok (.getfield 44, 3) := by decide +kernel
theorem dX11_assemble_63 : decode cX11_assemble 63 = .ok (.invokevirtual 91, 3) := by decide +kernel
theorem dX11_assemble_66 : decode cX11_assemble 66 = .ok (.iconst (-1), 1) := by decide +kernel
theorem dX11_assemble_67 : decode cX11_assemble 67 = .ok (.aload_n 0, 1) := by decide +kernel
theorem dX11_assemble_68 : decode cX11_assemble 68 = .ok (.getfield 36, 3) := by decide +kernel
theorem dX11_assemble_71 : decode cX11_assemble 71 = .ok (.getfield 104, 3) := by decide +kernel
theorem dX11_assemble_74 : decode cX11_assemble 74 = .ok (.isub, 1) := by decide +kernel
theorem dX11_assemble_75 : decode cX11_assemble 75 = .ok (.ireturn, 1) := by decide +kernel
theorem dX11_assemble_9 : decode cX11_assemble 9 = .ok (.iconst 0, 1) := by decide +kernel
set_option maxHeartbeats 4000000 in
set_option maxRecDepth 100000 in
theorem c_X10_free (l : Launch) (D : va_G) (K : Nat → ClassId) (a0 : Nat) (a1 : Nat) (a2 : Nat) (s0 : List Value) (n0 : s0.length = 13) (f1 : Nat → Int64) (f2 : Nat → Int32) (e0_3 : s0[3]? = some (.ref a1)) (e0_5 : s0[5]? = some (.ref a2)) : uMet l yX10_free cX10_free 2 none (rmD 1 0 0) D K X0 [.ref a0] [(a0, .inr (9, s0)), (a1, .inl (K 1, 20, .inr (.inl f1))), (a2, .inl (K 3, 17, .inl f2))] (QV D K (fun (u : Nat → Nat) => True) (fun (u : Nat → Nat) => [(a0, .inr (9, (s0.set 8 (.int 0)))), (a1, .inl (K 1, 20, .inr (.inl (fun _ => 0)))), (a2, .inl (K 3, 17, .inl (upd (upd (upd (upd (upd (upd (upd (upd (upd (upd (upd (upd (upd (upd (upd (upd (upd f2 0 0) 1 0) 2 0) 3 0) 4 0) 5 0) 6 0) 7 0) 8 0) 9 0) 10 0) 11 0) 12 0) 13 0) 14 0) 15 0) 16 0)))])) 0 0 := by
  refine k_met RX10 ⟨rfl, by decide +kernel⟩ (Nat.le_of_ble_eq_true rfl) ?_
  intro p e s m below meth c A ls C hX hr hlocks hin hA hP hD hS hl
  have hl : lv_has ls 2 [(0, .ref a0)] := hl
  refine lv_aload_n C.1 C.2.1 dX10_free_0 rfl (lv_at hl 0 rfl) ?_
  refine k_get (v := .ref a1) C hP 0 rfl rfl inlX10 3 (by decide) m_3_8 e0_3 dX10_free_1 ?_
  refine lv_lconst (v := 0) C.1 C.2.1 dX10_free_4 (by decide) ?_
  refine k_Sv (As := [.ref a1, .long 0]) (rest := []) C hP hD hS hA (c_fillL l D K a1 20 (by decide) f1 0 0 rfl) X0_ok trivial (uwS m_11_19 m_11_20 m_11_12 m_11_21) (hdS 2 (by decide +kernel) rfl) ⟨Nat.le_of_ble_eq_true rfl, Nat.le_of_ble_eq_true rfl⟩ rfl rfl (isC := [1]) (isR := [0, 2]) (wr := [(a0, .inr (9, s0)), (a2, .inl (K 3, 17, .inl f2))]) ⟨rfl, rfl, rfl, rfl, by decide⟩ rfl hl.1 (Nat.le_of_ble_eq_true rfl) dX10_free_5 ⟨Nat.le_of_ble_eq_true rfl, Nat.le_of_ble_eq_true rfl⟩ (fun u_1 H locs hw hP hD hS => ?_)
  have hP : va_P D vwCl [(a0, .inr (9, s0)), (a2, .inl (K 3, 17, .inl f2)), (a1, .inl (K 1, 20, .inr (.inl (fun _ => 0))))] H := hP
  have hD : va_D A [(a0, .inr (9, s0)), (a2, .inl (K 3, 17, .inl f2)), (a1, .inl (K 1, 20, .inr (.inl (fun _ => 0))))] := hD
  refine lv_iconst (v := 0) C.1 C.2.1 dX10_free_8 (by decide) ?_
  refine lv_istore_n (lv' := [(1, .int 0), (0, .ref a0)]) C.1 C.2.1 dX10_free_9 rfl hl (by decide) rfl (fun ls hl => ?_)
  refine lv_iload_n C.1 C.2.1 dX10_free_10 rfl (lv_at hl 0 rfl) ?_
  refine lv_bipush (v := 16) C.1 C.2.1 dX10_free_11 (by decide) ?_
  refine lv_icmp_gt (tgt := 29) C.1 C.2.1 dX10_free_13 (by decide) (fun h => absurd h (by decide)) (fun _ => ?_)
  refine lv_aload_n C.1 C.2.1 dX10_free_16 rfl (lv_at hl 1 rfl) ?_
  refine k_get (v := .ref a2) C hP 0 rfl rfl inlX10 5 (by decide) m_3_11 e0_5 dX10_free_17 ?_
  refine lv_iload_n C.1 C.2.1 dX10_free_20 rfl (lv_at hl 0 rfl) ?_
  refine lv_iconst (v := 0) C.1 C.2.1 dX10_free_21 (by decide) ?_
  refine k_zst (ws' := [(a0, .inr (9, s0)), (a2, .inl (K 3, 17, .inl (upd f2 0 0))), (a1, .inl (K 1, 20, .inr (.inl (fun _ => 0))))]) (j := 0) (x' := 0) C hP hD hS 1 rfl (vin (by decide)) (by decide) (by decide) rfl dX10_free_22 (fun H locs hP hD hS => ?_)
  refine lv_iinc (v := 1) (lv' := [(1, .int 1), (0, .ref a0)]) C.1 C.2.1 dX10_free_23 hl (k := 0) rfl (by decide) (by decide) rfl (fun ls hl => ?_)
  refine lv_goto (tgt := 10) C.1 C.2.1 dX10_free_26 (by decide) ?_
  refine lv_iload_n C.1 C.2.1 dX10_free_10 rfl (lv_at hl 0 rfl) ?_
  refine lv_bipush (v := 16) C.1 C.2.1 dX10_free_11 (by decide) ?_
  refine lv_icmp_gt (tgt := 29) C.1 C.2.1 dX10_free_13 (by decide) (fun h => absurd h (by decide)) (fun _ => ?_)
  refine lv_aload_n C.1 C.2.1 dX10_free_16 rfl (lv_at hl 1 rfl) ?_
  refine k_get (v := .ref a2) C hP 0 rfl rfl inlX10 5 (by decide) m_3_11 e0_5 dX10_free_17 ?_
  refine lv_iload_n C.1 C.2.1 dX10_free_20 rfl (lv_at hl 0 rfl) ?_
  refine lv_iconst (v := 0) C.1 C.2.1 dX10_free_21 (by decide) ?_
  refine k_zst (ws' := [(a0, .inr (9, s0)), (a2, .inl (K 3, 17, .inl (upd (upd f2 0 0) 1 0))), (a1, .inl (K 1, 20, .inr (.inl (fun _ => 0))))]) (j := 1) (x' := 0) C hP hD hS 1 rfl (vin (by decide)) (by decide) (by decide) rfl dX10_free_22 (fun H locs hP hD hS => ?_)
  refine lv_iinc (v := 2) (lv' := [(1, .int 2), (0, .ref a0)]) C.1 C.2.1 dX10_free_23 hl (k := 0) rfl (by decide) (by decide) rfl (fun ls hl => ?_)
  refine lv_goto (tgt := 10) C.1 C.2.1 dX10_free_26 (by decide) ?_
  refine lv_iload_n C.1 C.2.1 dX10_free_10 rfl (lv_at hl 0 rfl) ?_
  refine lv_bipush (v := 16) C.1 C.2.1 dX10_free_11 (by decide) ?_
  refine lv_icmp_gt (tgt := 29) C.1 C.2.1 dX10_free_13 (by decide) (fun h => absurd h (by decide)) (fun _ => ?_)
  refine lv_aload_n C.1 C.2.1 dX10_free_16 rfl (lv_at hl 1 rfl) ?_
  refine k_get (v := .ref a2) C hP 0 rfl rfl inlX10 5 (by decide) m_3_11 e0_5 dX10_free_17 ?_
  refine lv_iload_n C.1 C.2.1 dX10_free_20 rfl (lv_at hl 0 rfl) ?_
  refine lv_iconst (v := 0) C.1 C.2.1 dX10_free_21 (by decide) ?_
  refine k_zst (ws' := [(a0, .inr (9, s0)), (a2, .inl (K 3, 17, .inl (upd (upd (upd f2 0 0) 1 0) 2 0))), (a1, .inl (K 1, 20, .inr (.inl (fun _ => 0))))]) (j := 2) (x' := 0) C hP hD hS 1 rfl (vin (by decide)) (by decide) (by decide) rfl dX10_free_22 (fun H locs hP hD hS => ?_)
  refine lv_iinc (v := 3) (lv' := [(1, .int 3), (0, .ref a0)]) C.1 C.2.1 dX10_free_23 hl (k := 0) rfl (by decide) (by decide) rfl (fun ls hl => ?_)
  refine lv_goto (tgt := 10) C.1 C.2.1 dX10_free_26 (by decide) ?_
  refine lv_iload_n C.1 C.2.1 dX10_free_10 rfl (lv_at hl 0 rfl) ?_
  refine lv_bipush (v := 16) C.1 C.2.1 dX10_free_11 (by decide) ?_
  refine lv_icmp_gt (tgt := 29) C.1 C.2.1 dX10_free_13 (by decide) (fun h => absurd h (by decide)) (fun _ => ?_)
  refine lv_aload_n C.1 C.2.1 dX10_free_16 rfl (lv_at hl 1 rfl) ?_
  refine k_get (v := .ref a2) C hP 0 rfl rfl inlX10 5 (by decide) m_3_11 e0_5 dX10_free_17 ?_
  refine lv_iload_n C.1 C.2.1 dX10_free_20 rfl (lv_at hl 0 rfl) ?_
  refine lv_iconst (v := 0) C.1 C.2.1 dX10_free_21 (by decide) ?_
  refine k_zst (ws' := [(a0, .inr (9, s0)), (a2, .inl (K 3, 17, .inl (upd (upd (upd (upd f2 0 0) 1 0) 2 0) 3 0))), (a1, .inl (K 1, 20, .inr (.inl (fun _ => 0))))]) (j := 3) (x' := 0) C hP hD hS 1 rfl (vin (by decide)) (by decide) (by decide) rfl dX10_free_22 (fun H locs hP hD hS => ?_)
  refine lv_iinc (v := 4) (lv' := [(1, .int 4), (0, .ref a0)]) C.1 C.2.1 dX10_free_23 hl (k := 0) rfl (by decide) (by decide) rfl (fun ls hl => ?_)
  refine lv_goto (tgt := 10) C.1 C.2.1 dX10_free_26 (by decide) ?_
  refine lv_iload_n C.1 C.2.1 dX10_free_10 rfl (lv_at hl 0 rfl) ?_
  refine lv_bipush (v := 16) C.1 C.2.1 dX10_free_11 (by decide) ?_
  refine lv_icmp_gt (tgt := 29) C.1 C.2.1 dX10_free_13 (by decide) (fun h => absurd h (by decide)) (fun _ => ?_)
  refine lv_aload_n C.1 C.2.1 dX10_free_16 rfl (lv_at hl 1 rfl) ?_
  refine k_get (v := .ref a2) C hP 0 rfl rfl inlX10 5 (by decide) m_3_11 e0_5 dX10_free_17 ?_
  refine lv_iload_n C.1 C.2.1 dX10_free_20 rfl (lv_at hl 0 rfl) ?_
  refine lv_iconst (v := 0) C.1 C.2.1 dX10_free_21 (by decide) ?_
  refine k_zst (ws' := [(a0, .inr (9, s0)), (a2, .inl (K 3, 17, .inl (upd (upd (upd (upd (upd f2 0 0) 1 0) 2 0) 3 0) 4 0))), (a1, .inl (K 1, 20, .inr (.inl (fun _ => 0))))]) (j := 4) (x' := 0) C hP hD hS 1 rfl (vin (by decide)) (by decide) (by decide) rfl dX10_free_22 (fun H locs hP hD hS => ?_)
  refine lv_iinc (v := 5) (lv' := [(1, .int 5), (0, .ref a0)]) C.1 C.2.1 dX10_free_23 hl (k := 0) rfl (by decide) (by decide) rfl (fun ls hl => ?_)
  refine lv_goto (tgt := 10) C.1 C.2.1 dX10_free_26 (by decide) ?_
  refine lv_iload_n C.1 C.2.1 dX10_free_10 rfl (lv_at hl 0 rfl) ?_
  refine lv_bipush (v := 16) C.1 C.2.1 dX10_free_11 (by decide) ?_
  refine lv_icmp_gt (tgt := 29) C.1 C.2.1 dX10_free_13 (by decide) (fun h => absurd h (by decide)) (fun _ => ?_)
  refine lv_aload_n C.1 C.2.1 dX10_free_16 rfl (lv_at hl 1 rfl) ?_
  refine k_get (v := .ref a2) C hP 0 rfl rfl inlX10 5 (by decide) m_3_11 e0_5 dX10_free_17 ?_
  refine lv_iload_n C.1 C.2.1 dX10_free_20 rfl (lv_at hl 0 rfl) ?_
  refine lv_iconst (v := 0) C.1 C.2.1 dX10_free_21 (by decide) ?_
  refine k_zst (ws' := [(a0, .inr (9, s0)), (a2, .inl (K 3, 17, .inl (upd (upd (upd (upd (upd (upd f2 0 0) 1 0) 2 0) 3 0) 4 0) 5 0))), (a1, .inl (K 1, 20, .inr (.inl (fun _ => 0))))]) (j := 5) (x' := 0) C hP hD hS 1 rfl (vin (by decide)) (by decide) (by decide) rfl dX10_free_22 (fun H locs hP hD hS => ?_)
  refine lv_iinc (v := 6) (lv' := [(1, .int 6), (0, .ref a0)]) C.1 C.2.1 dX10_free_23 hl (k := 0) rfl (by decide) (by decide) rfl (fun ls hl => ?_)
  refine lv_goto (tgt := 10) C.1 C.2.1 dX10_free_26 (by decide) ?_
  refine lv_iload_n C.1 C.2.1 dX10_free_10 rfl (lv_at hl 0 rfl) ?_
  refine lv_bipush (v := 16) C.1 C.2.1 dX10_free_11 (by decide) ?_
  refine lv_icmp_gt (tgt := 29) C.1 C.2.1 dX10_free_13 (by decide) (fun h => absurd h (by decide)) (fun _ => ?_)
  refine lv_aload_n C.1 C.2.1 dX10_free_16 rfl (lv_at hl 1 rfl) ?_
  refine k_get (v := .ref a2) C hP 0 rfl rfl inlX10 5 (by decide) m_3_11 e0_5 dX10_free_17 ?_
  refine lv_iload_n C.1 C.2.1 dX10_free_20 rfl (lv_at hl 0 rfl) ?_
  refine lv_iconst (v := 0) C.1 C.2.1 dX10_free_21 (by decide) ?_
  refine k_zst (ws' := [(a0, .inr (9, s0)), (a2, .inl (K 3, 17, .inl (upd (upd (upd (upd (upd (upd (upd f2 0 0) 1 0) 2 0) 3 0) 4 0) 5 0) 6 0))), (a1, .inl (K 1, 20, .inr (.inl (fun _ => 0))))]) (j := 6) (x' := 0) C hP hD hS 1 rfl (vin (by decide)) (by decide) (by decide) rfl dX10_free_22 (fun H locs hP hD hS => ?_)
  refine lv_iinc (v := 7) (lv' := [(1, .int 7), (0, .ref a0)]) C.1 C.2.1 dX10_free_23 hl (k := 0) rfl (by decide) (by decide) rfl (fun ls hl => ?_)
  refine lv_goto (tgt := 10) C.1 C.2.1 dX10_free_26 (by decide) ?_
  refine lv_iload_n C.1 C.2.1 dX10_free_10 rfl (lv_at hl 0 rfl) ?_
  refine lv_bipush (v := 16) C.1 C.2.1 dX10_free_11 (by decide) ?_
  refine lv_icmp_gt (tgt := 29) C.1 C.2.1 dX10_free_13 (by decide) (fun h => absurd h (by decide)) (fun _ => ?_)
  refine lv_aload_n C.1 C.2.1 dX10_free_16 rfl (lv_at hl 1 rfl) ?_
  refine k_get (v := .ref a2) C hP 0 rfl rfl inlX10 5 (by decide) m_3_11 e0_5 dX10_free_17 ?_
  refine lv_iload_n C.1 C.2.1 dX10_free_20 rfl (lv_at hl 0 rfl) ?_
  refine lv_iconst (v := 0) C.1 C.2.1 dX10_free_21 (by decide) ?_
  refine k_zst (ws' := [(a0, .inr (9, s0)), (a2, .inl (K 3, 17, .inl (upd (upd (upd (upd (upd (upd (upd (upd f2 0 0) 1 0) 2 0) 3 0) 4 0) 5 0) 6 0) 7 0))), (a1, .inl (K 1, 20, .inr (.inl (fun _ => 0))))]) (j := 7) (x' := 0) C hP hD hS 1 rfl (vin (by decide)) (by decide) (by decide) rfl dX10_free_22 (fun H locs hP hD hS => ?_)
  refine lv_iinc (v := 8) (lv' := [(1, .int 8), (0, .ref a0)]) C.1 C.2.1 dX10_free_23 hl (k := 0) rfl (by decide) (by decide) rfl (fun ls hl => ?_)
  refine lv_goto (tgt := 10) C.1 C.2.1 dX10_free_26 (by decide) ?_
  refine lv_iload_n C.1 C.2.1 dX10_free_10 rfl (lv_at hl 0 rfl) ?_
  refine lv_bipush (v := 16) C.1 C.2.1 dX10_free_11 (by decide) ?_
  refine lv_icmp_gt (tgt := 29) C.1 C.2.1 dX10_free_13 (by decide) (fun h => absurd h (by decide)) (fun _ => ?_)
  refine lv_aload_n C.1 C.2.1 dX10_free_16 rfl (lv_at hl 1 rfl) ?_
  refine k_get (v := .ref a2) C hP 0 rfl rfl inlX10 5 (by decide) m_3_11 e0_5 dX10_free_17 ?_
  refine lv_iload_n C.1 C.2.1 dX10_free_20 rfl (lv_at hl 0 rfl) ?_
  refine lv_iconst (v := 0) C.1 C.2.1 dX10_free_21 (by decide) ?_
  refine k_zst (ws' := [(a0, .inr (9, s0)), (a2, .inl (K 3, 17, .inl (upd (upd (upd (upd (upd (upd (upd (upd (upd f2 0 0) 1 0) 2 0) 3 0) 4 0) 5 0) 6 0) 7 0) 8 0))), (a1, .inl (K 1, 20, .inr (.inl (fun _ => 0))))]) (j := 8) (x' := 0) C hP hD hS 1 rfl (vin (by decide)) (by decide) (by decide) rfl dX10_free_22 (fun H locs hP hD hS => ?_)
  refine lv_iinc (v := 9) (lv' := [(1, .int 9), (0, .ref a0)]) C.1 C.2.1 dX10_free_23 hl (k := 0) rfl (by decide) (by decide) rfl (fun ls hl => ?_)
  refine lv_goto (tgt := 10) C.1 C.2.1 dX10_free_26 (by decide) ?_
  refine lv_iload_n C.1 C.2.1 dX10_free_10 rfl (lv_at hl 0 rfl) ?_
  refine lv_bipush (v := 16) C.1 C.2.1 dX10_free_11 (by decide) ?_
  refine lv_icmp_gt (tgt := 29) C.1 C.2.1 dX10_free_13 (by decide) (fun h => absurd h (by decide)) (fun _ => ?_)
  refine lv_aload_n C.1 C.2.1 dX10_free_16 rfl (lv_at hl 1 rfl) ?_
  refine k_get (v := .ref a2) C hP 0 rfl rfl inlX10 5 (by decide) m_3_11 e0_5 dX10_free_17 ?_
  refine lv_iload_n C.1 C.2.1 dX10_free_20 rfl (lv_at hl 0 rfl) ?_
  refine lv_iconst (v := 0) C.1 C.2.1 dX10_free_21 (by decide) ?_
  refine k_zst (ws' := [(a0, .inr (9, s0)), (a2, .inl (K 3, 17, .inl (upd (upd (upd (upd (upd (upd (upd (upd (upd (upd f2 0 0) 1 0) 2 0) 3 0) 4 0) 5 0) 6 0) 7 0) 8 0) 9 0))), (a1, .inl (K 1, 20, .inr (.inl (fun _ => 0))))]) (j := 9) (x' := 0) C hP hD hS 1 rfl (vin (by decide)) (by decide) (by decide) rfl dX10_free_22 (fun H locs hP hD hS => ?_)
  refine lv_iinc (v := 10) (lv' := [(1, .int 10), (0, .ref a0)]) C.1 C.2.1 dX10_free_23 hl (k := 0) rfl (by decide) (by decide) rfl (fun ls hl => ?_)
  refine lv_goto (tgt := 10) C.1 C.2.1 dX10_free_26 (by decide) ?_
  refine lv_iload_n C.1 C.2.1 dX10_free_10 rfl (lv_at hl 0 rfl) ?_
  refine lv_bipush (v := 16) C.1 C.2.1 dX10_free_11 (by decide) ?_
  refine lv_icmp_gt (tgt := 29) C.1 C.2.1 dX10_free_13 (by decide) (fun h => absurd h (by decide)) (fun _ => ?_)
  refine lv_aload_n C.1 C.2.1 dX10_free_16 rfl (lv_at hl 1 rfl) ?_
  refine k_get (v := .ref a2) C hP 0 rfl rfl inlX10 5 (by decide) m_3_11 e0_5 dX10_free_17 ?_
  refine lv_iload_n C.1 C.2.1 dX10_free_20 rfl (lv_at hl 0 rfl) ?_
  refine lv_iconst (v := 0) C.1 C.2.1 dX10_free_21 (by decide) ?_
  refine k_zst (ws' := [(a0, .inr (9, s0)), (a2, .inl (K 3, 17, .inl (upd (upd (upd (upd (upd (upd (upd (upd (upd (upd (upd f2 0 0) 1 0) 2 0) 3 0) 4 0) 5 0) 6 0) 7 0) 8 0) 9 0) 10 0))), (a1, .inl (K 1, 20, .inr (.inl (fun _ => 0))))]) (j := 10) (x' := 0) C hP hD hS 1 rfl (vin (by decide)) (by decide) (by decide) rfl dX10_free_22 (fun H locs hP hD hS => ?_)
  refine lv_iinc (v := 11) (lv' := [(1, .int 11), (0, .ref a0)]) C.1 C.2.1 dX10_free_23 hl (k := 0) rfl (by decide) (by decide) rfl (fun ls hl => ?_)
  refine lv_goto (tgt := 10) C.1 C.2.1 dX10_free_26 (by decide) ?_
  refine lv_iload_n C.1 C.2.1 dX10_free_10 rfl (lv_at hl 0 rfl) ?_
  refine lv_bipush (v := 16) C.1 C.2.1 dX10_free_11 (by decide) ?_
  refine lv_icmp_gt (tgt := 29) C.1 C.2.1 dX10_free_13 (by decide) (fun h => absurd h (by decide)) (fun _ => ?_)
  refine lv_aload_n C.1 C.2.1 dX10_free_16 rfl (lv_at hl 1 rfl) ?_
  refine k_get (v := .ref a2) C hP 0 rfl rfl inlX10 5 (by decide) m_3_11 e0_5 dX10_free_17 ?_
  refine lv_iload_n C.1 C.2.1 dX10_free_20 rfl (lv_at hl 0 rfl) ?_
  refine lv_iconst (v := 0) C.1 C.2.1 dX10_free_21 (by decide) ?_
  refine k_zst (ws' := [(a0, .inr (9, s0)), (a2, .inl (K 3, 17, .inl (upd (upd (upd (upd (upd (upd (upd (upd (upd (upd (upd (upd f2 0 0) 1 0) 2 0) 3 0) 4 0) 5 0) 6 0) 7 0) 8 0) 9 0) 10 0) 11 0))), (a1, .inl (K 1, 20, .inr (.inl (fun _ => 0))))]) (j := 11) (x' := 0) C hP hD hS 1 rfl (vin (by decide)) (by decide) (by decide) rfl dX10_free_22 (fun H locs hP hD hS => ?_)
  refine lv_iinc (v := 12) (lv' := [(1, .int 12), (0, .ref a0)]) C.1 C.2.1 dX10_free_23 hl (k := 0) rfl (by decide) (by decide) rfl (fun ls hl => ?_)
  refine lv_goto (tgt := 10) C.1 C.2.1 dX10_free_26 (by decide) ?_
  refine lv_iload_n C.1 C.2.1 dX10_free_10 rfl (lv_at hl 0 rfl) ?_
  refine lv_bipush (v := 16) C.1 C.2.1 dX10_free_11 (by decide) ?_
  refine lv_icmp_gt (tgt := 29) C.1 C.2.1 dX10_free_13 (by decide) (fun h => absurd h (by decide)) (fun _ => ?_)
  refine lv_aload_n C.1 C.2.1 dX10_free_16 rfl (lv_at hl 1 rfl) ?_
  refine k_get (v := .ref a2) C hP 0 rfl rfl inlX10 5 (by decide) m_3_11 e0_5 dX10_free_17 ?_
  refine lv_iload_n C.1 C.2.1 dX10_free_20 rfl (lv_at hl 0 rfl) ?_
  refine lv_iconst (v := 0) C.1 C.2.1 dX10_free_21 (by decide) ?_
  refine k_zst (ws' := [(a0, .inr (9, s0)), (a2, .inl (K 3, 17, .inl (upd (upd (upd (upd (upd (upd (upd (upd (upd (upd (upd (upd (upd f2 0 0) 1 0) 2 0) 3 0) 4 0) 5 0) 6 0) 7 0) 8 0) 9 0) 10 0) 11 0) 12 0))), (a1, .inl (K 1, 20, .inr (.inl (fun _ => 0))))]) (j := 12) (x' := 0) C hP hD hS 1 rfl (vin (by decide)) (by decide) (by decide) rfl dX10_free_22 (fun H locs hP hD hS => ?_)
  refine lv_iinc (v := 13) (lv' := [(1, .int 13), (0, .ref a0)]) C.1 C.2.1 dX10_free_23 hl (k := 0) rfl (by decide) (by decide) rfl (fun ls hl => ?_)
  refine lv_goto (tgt := 10) C.1 C.2.1 dX10_free_26 (by decide) ?_
  refine lv_iload_n C.1 C.2.1 dX10_free_10 rfl (lv_at hl 0 rfl) ?_
  refine lv_bipush (v := 16) C.1 C.2.1 dX10_free_11 (by decide) ?_
  refine lv_icmp_gt (tgt := 29) C.1 C.2.1 dX10_free_13 (by decide) (fun h => absurd h (by decide)) (fun _ => ?_)
  refine lv_aload_n C.1 C.2.1 dX10_free_16 rfl (lv_at hl 1 rfl) ?_
  refine k_get (v := .ref a2) C hP 0 rfl rfl inlX10 5 (by decide) m_3_11 e0_5 dX10_free_17 ?_
  refine lv_iload_n C.1 C.2.1 dX10_free_20 rfl (lv_at hl 0 rfl) ?_
  refine lv_iconst (v := 0) C.1 C.2.1 dX10_free_21 (by decide) ?_
  refine k_zst (ws' := [(a0, .inr (9, s0)), (a2, .inl (K 3, 17, .inl (upd (upd (upd (upd (upd (upd (upd (upd (upd (upd (upd (upd (upd (upd f2 0 0) 1 0) 2 0) 3 0) 4 0) 5 0) 6 0) 7 0) 8 0) 9 0) 10 0) 11 0) 12 0) 13 0))), (a1, .inl (K 1, 20, .inr (.inl (fun _ => 0))))]) (j := 13) (x' := 0) C hP hD hS 1 rfl (vin (by decide)) (by decide) (by decide) rfl dX10_free_22 (fun H locs hP hD hS => ?_)
  refine lv_iinc (v := 14) (lv' := [(1, .int 14), (0, .ref a0)]) C.1 C.2.1 dX10_free_23 hl (k := 0) rfl (by decide) (by decide) rfl (fun ls hl => ?_)
  refine lv_goto (tgt := 10) C.1 C.2.1 dX10_free_26 (by decide) ?_
  refine lv_iload_n C.1 C.2.1 dX10_free_10 rfl (lv_at hl 0 rfl) ?_
  refine lv_bipush (v := 16) C.1 C.2.1 dX10_free_11 (by decide) ?_
  refine lv_icmp_gt (tgt := 29) C.1 C.2.1 dX10_free_13 (by decide) (fun h => absurd h (by decide)) (fun _ => ?_)
  refine lv_aload_n C.1 C.2.1 dX10_free_16 rfl (lv_at hl 1 rfl) ?_
  refine k_get (v := .ref a2) C hP 0 rfl rfl inlX10 5 (by decide) m_3_11 e0_5 dX10_free_17 ?_
  refine lv_iload_n C.1 C.2.1 dX10_free_20 rfl (lv_at hl 0 rfl) ?_
  refine lv_iconst (v := 0) C.1 C.2.1 dX10_free_21 (by decide) ?_
  refine k_zst (ws' := [(a0, .inr (9, s0)), (a2, .inl (K 3, 17, .inl (upd (upd (upd (upd (upd (upd (upd (upd (upd (upd (upd (upd (upd (upd (upd f2 0 0) 1 0) 2 0) 3 0) 4 0) 5 0) 6 0) 7 0) 8 0) 9 0) 10 0) 11 0) 12 0) 13 0) 14 0))), (a1, .inl (K 1, 20, .inr (.inl (fun _ => 0))))]) (j := 14) (x' := 0) C hP hD hS 1 rfl (vin (by decide)) (by decide) (by decide) rfl dX10_free_22 (fun H locs hP hD hS => ?_)
  refine lv_iinc (v := 15) (lv' := [(1, .int 15), (0, .ref a0)]) C.1 C.2.1 dX10_free_23 hl (k := 0) rfl (by decide) (by decide) rfl (fun ls hl => ?_)
  refine lv_goto (tgt := 10) C.1 C.2.1 dX10_free_26 (by decide) ?_
  refine lv_iload_n C.1 C.2.1 dX10_free_10 rfl (lv_at hl 0 rfl) ?_
  refine lv_bipush (v := 16) C.1 C.2.1 dX10_free_11 (by decide) ?_
  refine lv_icmp_gt (tgt := 29) C.1 C.2.1 dX10_free_13 (by decide) (fun h => absurd h (by decide)) (fun _ => ?_)
  refine lv_aload_n C.1 C.2.1 dX10_free_16 rfl (lv_at hl 1 rfl) ?_
  refine k_get (v := .ref a2) C hP 0 rfl rfl inlX10 5 (by decide) m_3_11 e0_5 dX10_free_17 ?_
  refine lv_iload_n C.1 C.2.1 dX10_free_20 rfl (lv_at hl 0 rfl) ?_
  refine lv_iconst (v := 0) C.1 C.2.1 dX10_free_21 (by decide) ?_
  refine k_zst (ws' := [(a0, .inr (9, s0)), (a2, .inl (K 3, 17, .inl (upd (upd (upd (upd (upd (upd (upd (upd (upd (upd (upd (upd (upd (upd (upd (upd f2 0 0) 1 0) 2 0) 3 0) 4 0) 5 0) 6 0) 7 0) 8 0) 9 0) 10 0) 11 0) 12 0) 13 0) 14 0) 15 0))), (a1, .inl (K 1, 20, .inr (.inl (fun _ => 0))))]) (j := 15) (x' := 0) C hP hD hS 1 rfl (vin (by decide)) (by decide) (by decide) rfl dX10_free_22 (fun H locs hP hD hS => ?_)
  refine lv_iinc (v := 16) (lv' := [(1, .int 16), (0, .ref a0)]) C.1 C.2.1 dX10_free_23 hl (k := 0) rfl (by decide) (by decide) rfl (fun ls hl => ?_)
  refine lv_goto (tgt := 10) C.1 C.2.1 dX10_free_26 (by decide) ?_
  refine lv_iload_n C.1 C.2.1 dX10_free_10 rfl (lv_at hl 0 rfl) ?_
  refine lv_bipush (v := 16) C.1 C.2.1 dX10_free_11 (by decide) ?_
  refine lv_icmp_gt (tgt := 29) C.1 C.2.1 dX10_free_13 (by decide) (fun h => absurd h (by decide)) (fun _ => ?_)
  refine lv_aload_n C.1 C.2.1 dX10_free_16 rfl (lv_at hl 1 rfl) ?_
  refine k_get (v := .ref a2) C hP 0 rfl rfl inlX10 5 (by decide) m_3_11 e0_5 dX10_free_17 ?_
  refine lv_iload_n C.1 C.2.1 dX10_free_20 rfl (lv_at hl 0 rfl) ?_
  refine lv_iconst (v := 0) C.1 C.2.1 dX10_free_21 (by decide) ?_
  refine k_zst (ws' := [(a0, .inr (9, s0)), (a2, .inl (K 3, 17, .inl (upd (upd (upd (upd (upd (upd (upd (upd (upd (upd (upd (upd (upd (upd (upd (upd (upd f2 0 0) 1 0) 2 0) 3 0) 4 0) 5 0) 6 0) 7 0) 8 0) 9 0) 10 0) 11 0) 12 0) 13 0) 14 0) 15 0) 16 0))), (a1, .inl (K 1, 20, .inr (.inl (fun _ => 0))))]) (j := 16) (x' := 0) C hP hD hS 1 rfl (vin (by decide)) (by decide) (by decide) rfl dX10_free_22 (fun H locs hP hD hS => ?_)
  refine lv_iinc (v := 17) (lv' := [(1, .int 17), (0, .ref a0)]) C.1 C.2.1 dX10_free_23 hl (k := 0) rfl (by decide) (by decide) rfl (fun ls hl => ?_)
  refine lv_goto (tgt := 10) C.1 C.2.1 dX10_free_26 (by decide) ?_
  refine lv_iload_n C.1 C.2.1 dX10_free_10 rfl (lv_at hl 0 rfl) ?_
  refine lv_bipush (v := 16) C.1 C.2.1 dX10_free_11 (by decide) ?_
  refine lv_icmp_gt (tgt := 29) C.1 C.2.1 dX10_free_13 (by decide) (fun _ => ?_) (fun h => absurd (by decide) h)
  refine lv_aload_n C.1 C.2.1 dX10_free_29 rfl (lv_at hl 1 rfl) ?_
  refine lv_iconst (v := 0) C.1 C.2.1 dX10_free_30 (by decide) ?_
  refine k_put (ws' := [(a0, .inr (9, (s0.set 8 (.int 0)))), (a2, .inl (K 3, 17, .inl (upd (upd (upd (upd (upd (upd (upd (upd (upd (upd (upd (upd (upd (upd (upd (upd (upd f2 0 0) 1 0) 2 0) 3 0) 4 0) 5 0) 6 0) 7 0) 8 0) 9 0) 10 0) 11 0) 12 0) 13 0) 14 0) 15 0) 16 0))), (a1, .inl (K 1, 20, .inr (.inl (fun _ => 0))))]) (v := .int 0) C hP hD hS 0 rfl rfl inlX10 tyX10_ok nmX10 8 (by decide) m_11_18 rfl rfl rfl n0 rfl dX10_free_31 (fun H locs hP hD hS => ?_)
  exact k_vret C hr hlocks hP hD hS (fun _ => 0) [0, 2, 1] rfl rfl trivial (Nat.le_of_ble_eq_true rfl) (Nat.le_of_ble_eq_true rfl) dX10_free_34
set_option maxHeartbeats 4000000 in
set_option maxRecDepth 100000 in
theorem c_X2_clear (l : Launch) (D : va_G) (K : Nat → ClassId) (a0 : Nat) (a1 : Nat) (a2 : Nat) (a3 : Nat) (a4 : Nat) (a5 : Nat) (s0 : List Value) (n0 : s0.length = 16) (f1 : Nat → Int32) (f2 : Nat → Int32) (s3 : List Value) (n3 : s3.length = 13) (f4 : Nat → Int64) (f5 : Nat → Int32) (e0_0 : s0[0]? = some (.ref a1)) (e0_1 : s0[1]? = some (.ref a2)) (e0_2 : s0[2]? = some (.ref a3)) (e3_3 : s3[3]? = some (.ref a4)) (e3_5 : s3[5]? = some (.ref a5)) : uMet l yX2_clear cX2_clear 1 none (rmD 2 0 0) D K X0 [.ref a0] [(a0, .inr (1, s0)), (a1, .inl (K 0, 7999, .inl f1)), (a2, .inl (K 0, 9, .inl f2)), (a3, .inr (9, s3)), (a4, .inl (K 1, 20, .inr (.inl f4))), (a5, .inl (K 3, 17, .inl f5))] (QV D K (fun (u : Nat → Nat) => True) (fun (u : Nat → Nat) => [(a0, .inr (1, (((((((s0.set 3 (.int 0)).set 4 (.int 0)).set 5 (.int 0)).set 6 (.long 0)).set 8 (.int 9)).set 9 (.int 0)).set 10 (.int 0)))), (a1, .inl (K 0, 7999, .inl (fun _ => 0))), (a2, .inl (K 0, 9, .inl (fun _ => 0))), (a3, .inr (9, (s3.set 8 (.int 0)))), (a4, .inl (K 1, 20, .inr (.inl (fun _ => 0)))), (a5, .inl (K 3, 17, .inl (upd (upd (upd (upd (upd (upd (upd (upd (upd (upd (upd (upd (upd (upd (upd (upd (upd f5 0 0) 1 0) 2 0) 3 0) 4 0) 5 0) 6 0) 7 0) 8 0) 9 0) 10 0) 11 0) 12 0) 13 0) 14 0) 15 0) 16 0)))])) 0 0 := by
  refine k_met RX2 ⟨rfl, by decide +kernel⟩ (Nat.le_of_ble_eq_true rfl) ?_
  intro p e s m below meth c A ls C hX hr hlocks hin hA hP hD hS hl
  have hl : lv_has ls 1 [(0, .ref a0)] := hl
  refine lv_aload_n C.1 C.2.1 dX2_clear_0 rfl (lv_at hl 0 rfl) ?_
  refine k_get (v := .ref a1) C hP 0 rfl rfl inlX2 0 (by decide) m_4_18 e0_0 dX2_clear_1 ?_
  refine lv_iconst (v := 0) C.1 C.2.1 dX2_clear_4 (by decide) ?_
  refine k_Sv (As := [.ref a1, .int 0]) (rest := []) C hP hD hS hA (c_fillI l D K a1 7999 (by decide) f1 0 0 rfl) X0_ok trivial (uwS m_11_10 m_11_11 m_11_12 m_11_13) (hdS 2 (by decide +kernel) rfl) ⟨Nat.le_of_ble_eq_true rfl, Nat.le_of_ble_eq_true rfl⟩ rfl rfl (isC := [1]) (isR := [0, 2, 3, 4, 5]) (wr := [(a0, .inr (1, s0)), (a2, .inl (K 0, 9, .inl f2)), (a3, .inr (9, s3)), (a4, .inl (K 1, 20, .inr (.inl f4))), (a5, .inl (K 3, 17, .inl f5))]) ⟨rfl, rfl, rfl, rfl, by decide⟩ rfl hl.1 (Nat.le_of_ble_eq_true rfl) dX2_clear_5 ⟨Nat.le_of_ble_eq_true rfl, Nat.le_of_ble_eq_true rfl⟩ (fun u_1 H locs hw hP hD hS => ?_)
  have hP : va_P D vwCl [(a0, .inr (1, s0)), (a2, .inl (K 0, 9, .inl f2)), (a3, .inr (9, s3)), (a4, .inl (K 1, 20, .inr (.inl f4))), (a5, .inl (K 3, 17, .inl f5)), (a1, .inl (K 0, 7999, .inl (fun _ => 0)))] H := hP
  have hD : va_D A [(a0, .inr (1, s0)), (a2, .inl (K 0, 9, .inl f2)), (a3, .inr (9, s3)), (a4, .inl (K 1, 20, .inr (.inl f4))), (a5, .inl (K 3, 17, .inl f5)), (a1, .inl (K 0, 7999, .inl (fun _ => 0)))] := hD
  refine lv_aload_n C.1 C.2.1 dX2_clear_8 rfl (lv_at hl 0 rfl) ?_
  refine k_get (v := .ref a2) C hP 0 rfl rfl inlX2 1 (by decide) m_4_16 e0_1 dX2_clear_9 ?_
  refine lv_iconst (v := 0) C.1 C.2.1 dX2_clear_12 (by decide) ?_
  refine k_Sv (As := [.ref a2, .int 0]) (rest := []) C hP hD hS hA (c_fillI l D K a2 9 (by decide) f2 0 0 rfl) X0_ok trivial (uwS m_11_10 m_11_11 m_11_12 m_11_13) (hdS 2 (by decide +kernel) rfl) ⟨Nat.le_of_ble_eq_true rfl, Nat.le_of_ble_eq_true rfl⟩ rfl rfl (isC := [1]) (isR := [0, 2, 3, 4, 5]) (wr := [(a0, .inr (1, s0)), (a3, .inr (9, s3)), (a4, .inl (K 1, 20, .inr (.inl f4))), (a5, .inl (K 3, 17, .inl f5)), (a1, .inl (K 0, 7999, .inl (fun _ => 0)))]) ⟨rfl, rfl, rfl, rfl, by decide⟩ rfl hl.1 (Nat.le_of_ble_eq_true rfl) dX2_clear_13 ⟨Nat.le_of_ble_eq_true rfl, Nat.le_of_ble_eq_true rfl⟩ (fun u_3 H locs hw hP hD hS => ?_)
  have hP : va_P D vwCl [(a0, .inr (1, s0)), (a3, .inr (9, s3)), (a4, .inl (K 1, 20, .inr (.inl f4))), (a5, .inl (K 3, 17, .inl f5)), (a1, .inl (K 0, 7999, .inl (fun _ => 0))), (a2, .inl (K 0, 9, .inl (fun _ => 0)))] H := hP
  have hD : va_D A [(a0, .inr (1, s0)), (a3, .inr (9, s3)), (a4, .inl (K 1, 20, .inr (.inl f4))), (a5, .inl (K 3, 17, .inl f5)), (a1, .inl (K 0, 7999, .inl (fun _ => 0))), (a2, .inl (K 0, 9, .inl (fun _ => 0)))] := hD
  refine lv_aload_n C.1 C.2.1 dX2_clear_16 rfl (lv_at hl 0 rfl) ?_
  refine k_get (v := .ref a3) C hP 0 rfl rfl inlX2 2 (by decide) m_4_19 e0_2 dX2_clear_17 ?_
  refine k_Vv (As := []) (rest := []) C hP hD hS hA (c_X10_free l D K a3 a4 a5 s3 n3 f4 f5 e3_3 e3_5) X0_ok trivial (uwV m_11_14 m_11_15 m_11_16 m_1_20 m_11_17) (hdV 0 (by decide +kernel) rfl) ⟨Nat.le_of_ble_eq_true rfl, Nat.le_of_ble_eq_true rfl⟩ rfl rfl (ci := 9) rfl rfl (isC := [1, 2, 3]) (isR := [0, 4, 5]) (wr := [(a0, .inr (1, s0)), (a1, .inl (K 0, 7999, .inl (fun _ => 0))), (a2, .inl (K 0, 9, .inl (fun _ => 0)))]) ⟨rfl, rfl, rfl, rfl, by decide⟩ rfl hl.1 (Nat.le_of_ble_eq_true rfl) dX2_clear_20 ⟨Nat.le_of_ble_eq_true rfl, Nat.le_of_ble_eq_true rfl⟩ (fun u_5 H locs hw hP hD hS => ?_)
  have hP : va_P D vwCl [(a0, .inr (1, s0)), (a1, .inl (K 0, 7999, .inl (fun _ => 0))), (a2, .inl (K 0, 9, .inl (fun _ => 0))), (a3, .inr (9, (s3.set 8 (.int 0)))), (a4, .inl (K 1, 20, .inr (.inl (fun _ => 0)))), (a5, .inl (K 3, 17, .inl (upd (upd (upd (upd (upd (upd (upd (upd (upd (upd (upd (upd (upd (upd (upd (upd (upd f5 0 0) 1 0) 2 0) 3 0) 4 0) 5 0) 6 0) 7 0) 8 0) 9 0) 10 0) 11 0) 12 0) 13 0) 14 0) 15 0) 16 0)))] H := hP
  have hD : va_D A [(a0, .inr (1, s0)), (a1, .inl (K 0, 7999, .inl (fun _ => 0))), (a2, .inl (K 0, 9, .inl (fun _ => 0))), (a3, .inr (9, (s3.set 8 (.int 0)))), (a4, .inl (K 1, 20, .inr (.inl (fun _ => 0)))), (a5, .inl (K 3, 17, .inl (upd (upd (upd (upd (upd (upd (upd (upd (upd (upd (upd (upd (upd (upd (upd (upd (upd f5 0 0) 1 0) 2 0) 3 0) 4 0) 5 0) 6 0) 7 0) 8 0) 9 0) 10 0) 11 0) 12 0) 13 0) 14 0) 15 0) 16 0)))] := hD
  refine lv_aload_n C.1 C.2.1 dX2_clear_23 rfl (lv_at hl 0 rfl) ?_
  refine lv_iconst (v := 0) C.1 C.2.1 dX2_clear_24 (by decide) ?_
  refine k_put (ws' := [(a0, .inr (1, (s0.set 3 (.int 0)))), (a1, .inl (K 0, 7999, .inl (fun _ => 0))), (a2, .inl (K 0, 9, .inl (fun _ => 0))), (a3, .inr (9, (s3.set 8 (.int 0)))), (a4, .inl (K 1, 20, .inr (.inl (fun _ => 0)))), (a5, .inl (K 3, 17, .inl (upd (upd (upd (upd (upd (upd (upd (upd (upd (upd (upd (upd (upd (upd (upd (upd (upd f5 0 0) 1 0) 2 0) 3 0) 4 0) 5 0) 6 0) 7 0) 8 0) 9 0) 10 0) 11 0) 12 0) 13 0) 14 0) 15 0) 16 0)))]) (v := .int 0) C hP hD hS 0 rfl rfl inlX2 tyX2_ok nmX2 3 (by decide) m_11_4 rfl (by decide) (by decide) n0 rfl dX2_clear_25 (fun H locs hP hD hS => ?_)
  refine lv_aload_n C.1 C.2.1 dX2_clear_28 rfl (lv_at hl 0 rfl) ?_
  refine lv_iconst (v := 0) C.1 C.2.1 dX2_clear_29 (by decide) ?_
  refine k_put (ws' := [(a0, .inr (1, ((s0.set 3 (.int 0)).set 4 (.int 0)))), (a1, .inl (K 0, 7999, .inl (fun _ => 0))), (a2, .inl (K 0, 9, .inl (fun _ => 0))), (a3, .inr (9, (s3.set 8 (.int 0)))), (a4, .inl (K 1, 20, .inr (.inl (fun _ => 0)))), (a5, .inl (K 3, 17, .inl (upd (upd (upd (upd (upd (upd (upd (upd (upd (upd (upd (upd (upd (upd (upd (upd (upd f5 0 0) 1 0) 2 0) 3 0) 4 0) 5 0) 6 0) 7 0) 8 0) 9 0) 10 0) 11 0) 12 0) 13 0) 14 0) 15 0) 16 0)))]) (v := .int 0) C hP hD hS 0 rfl rfl inlX2 tyX2_ok nmX2 4 (by decide) m_11_5 rfl rfl rfl (sl n0) rfl dX2_clear_30 (fun H locs hP hD hS => ?_)
  refine lv_aload_n C.1 C.2.1 dX2_clear_33 rfl (lv_at hl 0 rfl) ?_
  refine lv_iconst (v := 0) C.1 C.2.1 dX2_clear_34 (by decide) ?_
  refine k_put (ws' := [(a0, .inr (1, (((s0.set 3 (.int 0)).set 4 (.int 0)).set 5 (.int 0)))), (a1, .inl (K 0, 7999, .inl (fun _ => 0))), (a2, .inl (K 0, 9, .inl (fun _ => 0))), (a3, .inr (9, (s3.set 8 (.int 0)))), (a4, .inl (K 1, 20, .inr (.inl (fun _ => 0)))), (a5, .inl (K 3, 17, .inl (upd (upd (upd (upd (upd (upd (upd (upd (upd (upd (upd (upd (upd (upd (upd (upd (upd f5 0 0) 1 0) 2 0) 3 0) 4 0) 5 0) 6 0) 7 0) 8 0) 9 0) 10 0) 11 0) 12 0) 13 0) 14 0) 15 0) 16 0)))]) (v := .int 0) C hP hD hS 0 rfl rfl inlX2 tyX2_ok nmX2 5 (by decide) m_11_6 rfl rfl rfl (sl (sl n0)) rfl dX2_clear_35 (fun H locs hP hD hS => ?_)
  refine lv_aload_n C.1 C.2.1 dX2_clear_38 rfl (lv_at hl 0 rfl) ?_
  refine lv_lconst (v := 0) C.1 C.2.1 dX2_clear_39 (by decide) ?_
  refine k_put (ws' := [(a0, .inr (1, ((((s0.set 3 (.int 0)).set 4 (.int 0)).set 5 (.int 0)).set 6 (.long 0)))), (a1, .inl (K 0, 7999, .inl (fun _ => 0))), (a2, .inl (K 0, 9, .inl (fun _ => 0))), (a3, .inr (9, (s3.set 8 (.int 0)))), (a4, .inl (K 1, 20, .inr (.inl (fun _ => 0)))), (a5, .inl (K 3, 17, .inl (upd (upd (upd (upd (upd (upd (upd (upd (upd (upd (upd (upd (upd (upd (upd (upd (upd f5 0 0) 1 0) 2 0) 3 0) 4 0) 5 0) 6 0) 7 0) 8 0) 9 0) 10 0) 11 0) 12 0) 13 0) 14 0) 15 0) 16 0)))]) (v := .long 0) C hP hD hS 0 rfl rfl inlX2 tyX2_ok nmX2 6 (by decide) m_11_7 rfl rfl rfl (sl (sl (sl n0))) rfl dX2_clear_40 (fun H locs hP hD hS => ?_)
  refine lv_aload_n C.1 C.2.1 dX2_clear_43 rfl (lv_at hl 0 rfl) ?_
  refine lv_bipush (v := 9) C.1 C.2.1 dX2_clear_44 (by decide) ?_
  refine k_put (ws' := [(a0, .inr (1, (((((s0.set 3 (.int 0)).set 4 (.int 0)).set 5 (.int 0)).set 6 (.long 0)).set 8 (.int 9)))), (a1, .inl (K 0, 7999, .inl (fun _ => 0))), (a2, .inl (K 0, 9, .inl (fun _ => 0))), (a3, .inr (9, (s3.set 8 (.int 0)))), (a4, .inl (K 1, 20, .inr (.inl (fun _ => 0)))), (a5, .inl (K 3, 17, .inl (upd (upd (upd (upd (upd (upd (upd (upd (upd (upd (upd (upd (upd (upd (upd (upd (upd f5 0 0) 1 0) 2 0) 3 0) 4 0) 5 0) 6 0) 7 0) 8 0) 9 0) 10 0) 11 0) 12 0) 13 0) 14 0) 15 0) 16 0)))]) (v := .int 9) C hP hD hS 0 rfl rfl inlX2 tyX2_ok nmX2 8 (by decide) m_4_17 rfl rfl rfl (sl (sl (sl (sl n0)))) rfl dX2_clear_46 (fun H locs hP hD hS => ?_)
  refine lv_aload_n C.1 C.2.1 dX2_clear_49 rfl (lv_at hl 0 rfl) ?_
  refine lv_iconst (v := 0) C.1 C.2.1 dX2_clear_50 (by decide) ?_
  refine k_put (ws' := [(a0, .inr (1, ((((((s0.set 3 (.int 0)).set 4 (.int 0)).set 5 (.int 0)).set 6 (.long 0)).set 8 (.int 9)).set 9 (.int 0)))), (a1, .inl (K 0, 7999, .inl (fun _ => 0))), (a2, .inl (K 0, 9, .inl (fun _ => 0))), (a3, .inr (9, (s3.set 8 (.int 0)))), (a4, .inl (K 1, 20, .inr (.inl (fun _ => 0)))), (a5, .inl (K 3, 17, .inl (upd (upd (upd (upd (upd (upd (upd (upd (upd (upd (upd (upd (upd (upd (upd (upd (upd f5 0 0) 1 0) 2 0) 3 0) 4 0) 5 0) 6 0) 7 0) 8 0) 9 0) 10 0) 11 0) 12 0) 13 0) 14 0) 15 0) 16 0)))]) (v := .int 0) C hP hD hS 0 rfl rfl inlX2 tyX2_ok nmX2 9 (by decide) m_11_8 rfl (by decide) (by decide) (sl (sl (sl (sl (sl n0))))) rfl dX2_clear_51 (fun H locs hP hD hS => ?_)
  refine lv_aload_n C.1 C.2.1 dX2_clear_54 rfl (lv_at hl 0 rfl) ?_
  refine lv_iconst (v := 0) C.1 C.2.1 dX2_clear_55 (by decide) ?_
  refine k_put (ws' := [(a0, .inr (1, (((((((s0.set 3 (.int 0)).set 4 (.int 0)).set 5 (.int 0)).set 6 (.long 0)).set 8 (.int 9)).set 9 (.int 0)).set 10 (.int 0)))), (a1, .inl (K 0, 7999, .inl (fun _ => 0))), (a2, .inl (K 0, 9, .inl (fun _ => 0))), (a3, .inr (9, (s3.set 8 (.int 0)))), (a4, .inl (K 1, 20, .inr (.inl (fun _ => 0)))), (a5, .inl (K 3, 17, .inl (upd (upd (upd (upd (upd (upd (upd (upd (upd (upd (upd (upd (upd (upd (upd (upd (upd f5 0 0) 1 0) 2 0) 3 0) 4 0) 5 0) 6 0) 7 0) 8 0) 9 0) 10 0) 11 0) 12 0) 13 0) 14 0) 15 0) 16 0)))]) (v := .int 0) C hP hD hS 0 rfl rfl inlX2 tyX2_ok nmX2 10 (by decide) m_11_9 rfl (by decide) (by decide) (sl (sl (sl (sl (sl (sl n0)))))) rfl dX2_clear_56 (fun H locs hP hD hS => ?_)
  exact k_vret C hr hlocks hP hD hS (fun _ => 0) [0, 1, 2, 3, 4, 5] rfl rfl trivial (Nat.le_of_ble_eq_true rfl) (Nat.le_of_ble_eq_true rfl) dX2_clear_59
set_option maxHeartbeats 4000000 in
set_option maxRecDepth 100000 in
theorem c_X8_clear (l : Launch) (D : va_G) (K : Nat → ClassId) (a0 : Nat) (a1 : Nat) (s0 : List Value) (n0 : s0.length = 13) (f1 : Nat → Int32) (e0_8 : s0[8]? = some (.ref a1)) : uMet l yX8_clear cX8_clear 2 none (rmD 0 0 0) D K X0 [.ref a0] [(a0, .inr (7, s0)), (a1, .inl (K 3, 10, .inl f1))] (QV D K (fun (u : Nat → Nat) => True) (fun (u : Nat → Nat) => [(a0, .inr (7, (((s0.set 3 (.int 0)).set 6 (.int 0)).set 12 (.int 0)))), (a1, .inl (K 3, 10, .inl (fun _ => 0)))])) 0 0 := by
  refine k_met RX8 ⟨rfl, by decide +kernel⟩ (Nat.le_of_ble_eq_true rfl) ?_
  intro p e s m below meth c A ls C hX hr hlocks hin hA hP hD hS hl
  have hl : lv_has ls 2 [(0, .ref a0)] := hl
  refine lv_aload_n C.1 C.2.1 dX8_clear_0 rfl (lv_at hl 0 rfl) ?_
  refine lv_iconst (v := 0) C.1 C.2.1 dX8_clear_1 (by decide) ?_
  refine k_put (ws' := [(a0, .inr (7, (s0.set 3 (.int 0)))), (a1, .inl (K 3, 10, .inl f1))]) (v := .int 0) C hP hD hS 0 rfl rfl inlX8 tyX8_ok nmX8 3 (by decide) m_13_8 rfl rfl rfl n0 rfl dX8_clear_2 (fun H locs hP hD hS => ?_)
  refine lv_aload_n C.1 C.2.1 dX8_clear_5 rfl (lv_at hl 0 rfl) ?_
  refine lv_iconst (v := 0) C.1 C.2.1 dX8_clear_6 (by decide) ?_
  refine k_put (ws' := [(a0, .inr (7, ((s0.set 3 (.int 0)).set 6 (.int 0)))), (a1, .inl (K 3, 10, .inl f1))]) (v := .int 0) C hP hD hS 0 rfl rfl inlX8 tyX8_ok nmX8 6 (by decide) m_13_9 rfl rfl rfl (sl n0) rfl dX8_clear_7 (fun H locs hP hD hS => ?_)
  refine lv_aload_n C.1 C.2.1 dX8_clear_10 rfl (lv_at hl 0 rfl) ?_
  refine lv_iconst (v := 0) C.1 C.2.1 dX8_clear_11 (by decide) ?_
  refine k_put (ws' := [(a0, .inr (7, (((s0.set 3 (.int 0)).set 6 (.int 0)).set 12 (.int 0)))), (a1, .inl (K 3, 10, .inl f1))]) (v := .int 0) C hP hD hS 0 rfl rfl inlX8 tyX8_ok nmX8 12 (by decide) m_13_10 rfl rfl rfl (sl (sl n0)) rfl dX8_clear_12 (fun H locs hP hD hS => ?_)
  refine lv_iconst (v := 0) C.1 C.2.1 dX8_clear_15 (by decide) ?_
  refine lv_istore_n (lv' := [(1, .int 0), (0, .ref a0)]) C.1 C.2.1 dX8_clear_16 rfl hl (by decide) rfl (fun ls hl => ?_)
  refine k_loopZ (h2 := 20) (h3 := 29) (ex := 36) C 10 (by decide) 0 0 (by decide) (q0 := 0) (q1 := 1) (by decide) rfl rfl inlX8 (k := 8) (by decide) m_5_5 (sn (by decide) (sn (by decide) (sn (by decide) e0_8))) rfl (by decide) dX8_clear_17 (fun _ _ _ _ k => lv_bipush (v := nI 10) C.1 C.2.1 dX8_clear_18 (by decide) k) dX8_clear_20 (by decide) dX8_clear_23 dX8_clear_24 dX8_clear_27 (fun _ _ _ _ k => lv_iconst (v := 0) C.1 C.2.1 dX8_clear_28 (by decide) k) dX8_clear_29 dX8_clear_30 dX8_clear_33 (by decide) (fun H locs ls hP hD hS hl => ?_) _ _ _ hP hD hS (lv_sub hl [0, 1] rfl)
  have hP : va_P D vwCl [(a0, .inr (7, (((s0.set 3 (.int 0)).set 6 (.int 0)).set 12 (.int 0)))), (a1, .inl (K 3, 10, .inl (fun _ => 0)))] H := hP
  have hD : va_D A [(a0, .inr (7, (((s0.set 3 (.int 0)).set 6 (.int 0)).set 12 (.int 0)))), (a1, .inl (K 3, 10, .inl (fun _ => 0)))] := hD
  have hl : lv_has ls 2 [(1, .int 10), (0, .ref a0)] := hl
  exact k_vret C hr hlocks hP hD hS (fun _ => 0) [0, 1] rfl rfl trivial (Nat.le_of_ble_eq_true rfl) (Nat.le_of_ble_eq_true rfl) dX8_clear_36
set_option maxHeartbeats 4000000 in
set_option maxRecDepth 100000 in
theorem c_X0_open (l : Launch) (D : va_G) (K : Nat → ClassId) (a0 : Nat) (a1 : Nat) (a2 : Nat) (a3 : Nat) (a4 : Nat) (a5 : Nat) (s0 : List Value) (n0 : s0.length = 20) (s1 : List Value) (n1 : s1.length = 8) (f2 : Nat → Int32) (s3 : List Value) (n3 : s3.length = 13) (f4 : Nat → Int32) (f5 : Nat → Int64) (e0_0 : s0[0]? = some (.ref a1)) (e1_0 : s1[0]? = some (.ref a2)) (e0_2 : s0[2]? = some (.ref a3)) (e3_8 : s3[8]? = some (.ref a4)) (e0_4 : s0[4]? = some (.ref a5)) : uMet l yX0_open cX0_open 4 none (rmD 2 0 0) D K X0 [.ref a0, .int 0, .int 0, .int 0] [(a0, .inr (0, s0)), (a1, .inr (8, s1)), (a2, .inl (K 2, 8192, .inl f2)), (a3, .inr (7, s3)), (a4, .inl (K 3, 10, .inl f4)), (a5, .inl (K 1, 63, .inr (.inl f5)))] (QV D K (fun (u : Nat → Nat) => True) (fun (u : Nat → Nat) => [(a0, .inr (0, (((((((s0.set 7 (.int 0)).set 9 (.int 0)).set 10 (.int (-3999))).set 15 (.int 0)).set 16 (.int 0)).set 17 (.int 0)).set 19 (.int 0)))), (a1, .inr (8, ((((s1.set 6 (.int 0)).set 7 (.int 0)).set 4 (.int 0)).set 5 (.int 0)))), (a2, .inl (K 2, 8192, .inl f2)), (a3, .inr (7, (((s3.set 3 (.int 0)).set 6 (.int 0)).set 12 (.int 0)))), (a4, .inl (K 3, 10, .inl (fun _ => 0))), (a5, .inl (K 1, 63, .inr (.inl (fun _ => 0))))])) 0 0 := by
  refine k_met RX0 ⟨rfl, by decide +kernel⟩ (Nat.le_of_ble_eq_true rfl) ?_
  intro p e s m below meth c A ls C hX hr hlocks hin hA hP hD hS hl
  have hl : lv_has ls 4 [(0, .ref a0), (1, .int 0), (2, .int 0), (3, .int 0)] := hl
  refine lv_aload_n C.1 C.2.1 dX0_open_0 rfl (lv_at hl 0 rfl) ?_
  refine k_get (v := .ref a1) C hP 0 rfl rfl inlX0 0 (by decide) m_5_17 e0_0 dX0_open_1 ?_
  refine lv_iload_n C.1 C.2.1 dX0_open_4 rfl (lv_at hl 1 rfl) ?_
  refine lv_iload_n C.1 C.2.1 dX0_open_5 rfl (lv_at hl 2 rfl) ?_
  refine k_Vv (As := [.int 0, .int 0]) (rest := []) C hP hD hS hA (c_X9_open l D K a1 a2 s1 n1 f2 e1_0) X0_ok trivial (uwV m_12_9 m_12_10 m_12_11 m_1_17 m_12_12) (hdV 2 (by decide +kernel) rfl) ⟨Nat.le_of_ble_eq_true rfl, Nat.le_of_ble_eq_true rfl⟩ rfl rfl (ci := 8) rfl rfl (isC := [1, 2]) (isR := [0, 3, 4, 5]) (wr := [(a0, .inr (0, s0)), (a3, .inr (7, s3)), (a4, .inl (K 3, 10, .inl f4)), (a5, .inl (K 1, 63, .inr (.inl f5)))]) ⟨rfl, rfl, rfl, rfl, by decide⟩ rfl hl.1 (Nat.le_of_ble_eq_true rfl) dX0_open_6 ⟨Nat.le_of_ble_eq_true rfl, Nat.le_of_ble_eq_true rfl⟩ (fun u_1 H locs hw hP hD hS => ?_)
  have hP : va_P D vwCl [(a0, .inr (0, s0)), (a3, .inr (7, s3)), (a4, .inl (K 3, 10, .inl f4)), (a5, .inl (K 1, 63, .inr (.inl f5))), (a1, .inr (8, ((((s1.set 6 (.int 0)).set 7 (.int 0)).set 4 (.int 0)).set 5 (.int 0)))), (a2, .inl (K 2, 8192, .inl f2))] H := hP
  have hD : va_D A [(a0, .inr (0, s0)), (a3, .inr (7, s3)), (a4, .inl (K 3, 10, .inl f4)), (a5, .inl (K 1, 63, .inr (.inl f5))), (a1, .inr (8, ((((s1.set 6 (.int 0)).set 7 (.int 0)).set 4 (.int 0)).set 5 (.int 0)))), (a2, .inl (K 2, 8192, .inl f2))] := hD
  refine lv_aload_n C.1 C.2.1 dX0_open_9 rfl (lv_at hl 0 rfl) ?_
  refine k_get (v := .ref a3) C hP 0 rfl rfl inlX0 2 (by decide) m_5_19 e0_2 dX0_open_10 ?_
  refine k_Vv (As := []) (rest := []) C hP hD hS hA (c_X8_clear l D K a3 a4 s3 n3 f4 e3_8) X0_ok trivial (uwV m_13_4 m_13_5 m_13_6 m_2_5 m_13_7) (hdV 0 (by decide +kernel) rfl) ⟨Nat.le_of_ble_eq_true rfl, Nat.le_of_ble_eq_true rfl⟩ rfl rfl (ci := 7) rfl rfl (isC := [1, 2]) (isR := [0, 3, 4, 5]) (wr := [(a0, .inr (0, s0)), (a5, .inl (K 1, 63, .inr (.inl f5))), (a1, .inr (8, ((((s1.set 6 (.int 0)).set 7 (.int 0)).set 4 (.int 0)).set 5 (.int 0)))), (a2, .inl (K 2, 8192, .inl f2))]) ⟨rfl, rfl, rfl, rfl, by decide⟩ rfl hl.1 (Nat.le_of_ble_eq_true rfl) dX0_open_13 ⟨Nat.le_of_ble_eq_true rfl, Nat.le_of_ble_eq_true rfl⟩ (fun u_3 H locs hw hP hD hS => ?_)
  have hP : va_P D vwCl [(a0, .inr (0, s0)), (a5, .inl (K 1, 63, .inr (.inl f5))), (a1, .inr (8, ((((s1.set 6 (.int 0)).set 7 (.int 0)).set 4 (.int 0)).set 5 (.int 0)))), (a2, .inl (K 2, 8192, .inl f2)), (a3, .inr (7, (((s3.set 3 (.int 0)).set 6 (.int 0)).set 12 (.int 0)))), (a4, .inl (K 3, 10, .inl (fun _ => 0)))] H := hP
  have hD : va_D A [(a0, .inr (0, s0)), (a5, .inl (K 1, 63, .inr (.inl f5))), (a1, .inr (8, ((((s1.set 6 (.int 0)).set 7 (.int 0)).set 4 (.int 0)).set 5 (.int 0)))), (a2, .inl (K 2, 8192, .inl f2)), (a3, .inr (7, (((s3.set 3 (.int 0)).set 6 (.int 0)).set 12 (.int 0)))), (a4, .inl (K 3, 10, .inl (fun _ => 0)))] := hD
  refine lv_aload_n C.1 C.2.1 dX0_open_16 rfl (lv_at hl 0 rfl) ?_
  refine k_get (v := .ref a5) C hP 0 rfl rfl inlX0 4 (by decide) m_5_13 e0_4 dX0_open_17 ?_
  refine lv_lconst (v := 0) C.1 C.2.1 dX0_open_20 (by decide) ?_
  refine k_Sv (As := [.ref a5, .long 0]) (rest := []) C hP hD hS hA (c_fillL l D K a5 63 (by decide) f5 0 0 rfl) X0_ok trivial (uwS m_13_11 m_11_20 m_11_12 m_11_21) (hdS 2 (by decide +kernel) rfl) ⟨Nat.le_of_ble_eq_true rfl, Nat.le_of_ble_eq_true rfl⟩ rfl rfl (isC := [1]) (isR := [0, 2, 3, 4, 5]) (wr := [(a0, .inr (0, s0)), (a1, .inr (8, ((((s1.set 6 (.int 0)).set 7 (.int 0)).set 4 (.int 0)).set 5 (.int 0)))), (a2, .inl (K 2, 8192, .inl f2)), (a3, .inr (7, (((s3.set 3 (.int 0)).set 6 (.int 0)).set 12 (.int 0)))), (a4, .inl (K 3, 10, .inl (fun _ => 0)))]) ⟨rfl, rfl, rfl, rfl, by decide⟩ rfl hl.1 (Nat.le_of_ble_eq_true rfl) dX0_open_21 ⟨Nat.le_of_ble_eq_true rfl, Nat.le_of_ble_eq_true rfl⟩ (fun u_5 H locs hw hP hD hS => ?_)
  have hP : va_P D vwCl [(a0, .inr (0, s0)), (a1, .inr (8, ((((s1.set 6 (.int 0)).set 7 (.int 0)).set 4 (.int 0)).set 5 (.int 0)))), (a2, .inl (K 2, 8192, .inl f2)), (a3, .inr (7, (((s3.set 3 (.int 0)).set 6 (.int 0)).set 12 (.int 0)))), (a4, .inl (K 3, 10, .inl (fun _ => 0))), (a5, .inl (K 1, 63, .inr (.inl (fun _ => 0))))] H := hP
  have hD : va_D A [(a0, .inr (0, s0)), (a1, .inr (8, ((((s1.set 6 (.int 0)).set 7 (.int 0)).set 4 (.int 0)).set 5 (.int 0)))), (a2, .inl (K 2, 8192, .inl f2)), (a3, .inr (7, (((s3.set 3 (.int 0)).set 6 (.int 0)).set 12 (.int 0)))), (a4, .inl (K 3, 10, .inl (fun _ => 0))), (a5, .inl (K 1, 63, .inr (.inl (fun _ => 0))))] := hD
  refine lv_aload_n C.1 C.2.1 dX0_open_24 rfl (lv_at hl 0 rfl) ?_
  refine lv_iconst (v := 0) C.1 C.2.1 dX0_open_25 (by decide) ?_
  refine k_put (ws' := [(a0, .inr (0, (s0.set 7 (.int 0)))), (a1, .inr (8, ((((s1.set 6 (.int 0)).set 7 (.int 0)).set 4 (.int 0)).set 5 (.int 0)))), (a2, .inl (K 2, 8192, .inl f2)), (a3, .inr (7, (((s3.set 3 (.int 0)).set 6 (.int 0)).set 12 (.int 0)))), (a4, .inl (K 3, 10, .inl (fun _ => 0))), (a5, .inl (K 1, 63, .inr (.inl (fun _ => 0))))]) (v := .int 0) C hP hD hS 0 rfl rfl inlX0 tyX0_ok nmX0 7 (by decide) m_12_2 rfl rfl rfl n0 rfl dX0_open_26 (fun H locs hP hD hS => ?_)
  refine lv_aload_n C.1 C.2.1 dX0_open_29 rfl (lv_at hl 0 rfl) ?_
  refine lv_iconst (v := 0) C.1 C.2.1 dX0_open_30 (by decide) ?_
  refine k_put (ws' := [(a0, .inr (0, ((s0.set 7 (.int 0)).set 9 (.int 0)))), (a1, .inr (8, ((((s1.set 6 (.int 0)).set 7 (.int 0)).set 4 (.int 0)).set 5 (.int 0)))), (a2, .inl (K 2, 8192, .inl f2)), (a3, .inr (7, (((s3.set 3 (.int 0)).set 6 (.int 0)).set 12 (.int 0)))), (a4, .inl (K 3, 10, .inl (fun _ => 0))), (a5, .inl (K 1, 63, .inr (.inl (fun _ => 0))))]) (v := .int 0) C hP hD hS 0 rfl rfl inlX0 tyX0_ok nmX0 9 (by decide) m_12_3 rfl rfl rfl (sl n0) rfl dX0_open_31 (fun H locs hP hD hS => ?_)
  refine lv_aload_n C.1 C.2.1 dX0_open_34 rfl (lv_at hl 0 rfl) ?_
  refine lv_iload_n C.1 C.2.1 dX0_open_35 rfl (lv_at hl 3 rfl) ?_
  refine lv_if_eq (tgt := 43) C.1 C.2.1 dX0_open_36 (by decide) (fun _ => ?_) (fun h => absurd (by decide) h)
  refine lv_sipush (v := (-3999)) C.1 C.2.1 dX0_open_43 (by decide) ?_
  refine k_put (ws' := [(a0, .inr (0, (((s0.set 7 (.int 0)).set 9 (.int 0)).set 10 (.int (-3999))))), (a1, .inr (8, ((((s1.set 6 (.int 0)).set 7 (.int 0)).set 4 (.int 0)).set 5 (.int 0)))), (a2, .inl (K 2, 8192, .inl f2)), (a3, .inr (7, (((s3.set 3 (.int 0)).set 6 (.int 0)).set 12 (.int 0)))), (a4, .inl (K 3, 10, .inl (fun _ => 0))), (a5, .inl (K 1, 63, .inr (.inl (fun _ => 0))))]) (v := .int (-3999)) C hP hD hS 0 rfl rfl inlX0 tyX0_ok nmX0 10 (by decide) m_12_4 rfl rfl rfl (sl (sl n0)) rfl dX0_open_46 (fun H locs hP hD hS => ?_)
  refine lv_aload_n C.1 C.2.1 dX0_open_49 rfl (lv_at hl 0 rfl) ?_
  refine lv_iconst (v := 0) C.1 C.2.1 dX0_open_50 (by decide) ?_
  refine k_put (ws' := [(a0, .inr (0, ((((s0.set 7 (.int 0)).set 9 (.int 0)).set 10 (.int (-3999))).set 15 (.int 0)))), (a1, .inr (8, ((((s1.set 6 (.int 0)).set 7 (.int 0)).set 4 (.int 0)).set 5 (.int 0)))), (a2, .inl (K 2, 8192, .inl f2)), (a3, .inr (7, (((s3.set 3 (.int 0)).set 6 (.int 0)).set 12 (.int 0)))), (a4, .inl (K 3, 10, .inl (fun _ => 0))), (a5, .inl (K 1, 63, .inr (.inl (fun _ => 0))))]) (v := .int 0) C hP hD hS 0 rfl rfl inlX0 tyX0_ok nmX0 15 (by decide) m_12_5 rfl rfl rfl (sl (sl (sl n0))) rfl dX0_open_51 (fun H locs hP hD hS => ?_)
  refine lv_aload_n C.1 C.2.1 dX0_open_54 rfl (lv_at hl 0 rfl) ?_
  refine lv_iconst (v := 0) C.1 C.2.1 dX0_open_55 (by decide) ?_
  refine k_put (ws' := [(a0, .inr (0, (((((s0.set 7 (.int 0)).set 9 (.int 0)).set 10 (.int (-3999))).set 15 (.int 0)).set 16 (.int 0)))), (a1, .inr (8, ((((s1.set 6 (.int 0)).set 7 (.int 0)).set 4 (.int 0)).set 5 (.int 0)))), (a2, .inl (K 2, 8192, .inl f2)), (a3, .inr (7, (((s3.set 3 (.int 0)).set 6 (.int 0)).set 12 (.int 0)))), (a4, .inl (K 3, 10, .inl (fun _ => 0))), (a5, .inl (K 1, 63, .inr (.inl (fun _ => 0))))]) (v := .int 0) C hP hD hS 0 rfl rfl inlX0 tyX0_ok nmX0 16 (by decide) m_12_6 rfl rfl rfl (sl (sl (sl (sl n0)))) rfl dX0_open_56 (fun H locs hP hD hS => ?_)
  refine lv_aload_n C.1 C.2.1 dX0_open_59 rfl (lv_at hl 0 rfl) ?_
  refine lv_iconst (v := 0) C.1 C.2.1 dX0_open_60 (by decide) ?_
  refine k_put (ws' := [(a0, .inr (0, ((((((s0.set 7 (.int 0)).set 9 (.int 0)).set 10 (.int (-3999))).set 15 (.int 0)).set 16 (.int 0)).set 17 (.int 0)))), (a1, .inr (8, ((((s1.set 6 (.int 0)).set 7 (.int 0)).set 4 (.int 0)).set 5 (.int 0)))), (a2, .inl (K 2, 8192, .inl f2)), (a3, .inr (7, (((s3.set 3 (.int 0)).set 6 (.int 0)).set 12 (.int 0)))), (a4, .inl (K 3, 10, .inl (fun _ => 0))), (a5, .inl (K 1, 63, .inr (.inl (fun _ => 0))))]) (v := .int 0) C hP hD hS 0 rfl rfl inlX0 tyX0_ok nmX0 17 (by decide) m_12_7 rfl rfl rfl (sl (sl (sl (sl (sl n0))))) rfl dX0_open_61 (fun H locs hP hD hS => ?_)
  refine lv_aload_n C.1 C.2.1 dX0_open_64 rfl (lv_at hl 0 rfl) ?_
  refine lv_iconst (v := 0) C.1 C.2.1 dX0_open_65 (by decide) ?_
  refine k_put (ws' := [(a0, .inr (0, (((((((s0.set 7 (.int 0)).set 9 (.int 0)).set 10 (.int (-3999))).set 15 (.int 0)).set 16 (.int 0)).set 17 (.int 0)).set 19 (.int 0)))), (a1, .inr (8, ((((s1.set 6 (.int 0)).set 7 (.int 0)).set 4 (.int 0)).set 5 (.int 0)))), (a2, .inl (K 2, 8192, .inl f2)), (a3, .inr (7, (((s3.set 3 (.int 0)).set 6 (.int 0)).set 12 (.int 0)))), (a4, .inl (K 3, 10, .inl (fun _ => 0))), (a5, .inl (K 1, 63, .inr (.inl (fun _ => 0))))]) (v := .int 0) C hP hD hS 0 rfl rfl inlX0 tyX0_ok nmX0 19 (by decide) m_12_8 rfl (by decide) (by decide) (sl (sl (sl (sl (sl (sl n0)))))) rfl dX0_open_66 (fun H locs hP hD hS => ?_)
  exact k_vret C hr hlocks hP hD hS (fun _ => 0) [0, 1, 2, 3, 4, 5] rfl rfl trivial (Nat.le_of_ble_eq_true rfl) (Nat.le_of_ble_eq_true rfl) dX0_open_69
set_option maxHeartbeats 4000000 in
set_option maxRecDepth 100000 in
theorem c_X0_nextWrong (l : Launch) (D : va_G) (K : Nat → ClassId) (a0 : Nat) (a1 : Nat) (s0 : List Value) (n0 : s0.length = 20) (s1 : List Value) (n1 : s1.length = 8) (e0_15 : s0[15]? = some (.int 0)) (e0_0 : s0[0]? = some (.ref a1)) (e1_5 : s1[5]? = some (.int 0)) (e1_4 : s1[4]? = some (.int 0)) (e1_7 : s1[7]? = some (.int 0)) : uMet l yX0_nextWrong cX0_nextWrong 3 (some .int) (rmD 1 0 0) D K X0 [.ref a0] [(a0, .inr (0, s0)), (a1, .inr (8, s1))] (QI D K (fun (r : Int32) (u : Nat → Nat) => r = 7) (fun (u : Nat → Nat) => [(a0, .inr (0, (s0.set 15 (.int 1)))), (a1, .inr (8, (s1.set 5 (.int 1))))])) 0 0 := by
  refine k_met RX0 ⟨rfl, by decide +kernel⟩ (Nat.le_of_ble_eq_true rfl) ?_
  intro p e s m below meth c A ls C hX hr hlocks hin hA hP hD hS hl
  have hl : lv_has ls 3 [(0, .ref a0)] := hl
  refine lv_iconst (v := 0) C.1 C.2.1 dX0_nextWrong_0 (by decide) ?_
  refine lv_istore_n (lv' := [(1, .int 0), (0, .ref a0)]) C.1 C.2.1 dX0_nextWrong_1 rfl hl (by decide) rfl (fun ls hl => ?_)
  refine lv_iload_n C.1 C.2.1 dX0_nextWrong_2 rfl (lv_at hl 0 rfl) ?_
  refine lv_sipush (v := 8192) C.1 C.2.1 dX0_nextWrong_3 (by decide) ?_
  refine lv_icmp_gt (tgt := 107) C.1 C.2.1 dX0_nextWrong_6 (by decide) (fun h => absurd h (by decide)) (fun _ => ?_)
  refine lv_aload_n C.1 C.2.1 dX0_nextWrong_9 rfl (lv_at hl 1 rfl) ?_
  refine k_get (v := .int 0) C hP 0 rfl rfl inlX0 15 (by decide) m_12_5 e0_15 dX0_nextWrong_10 ?_
  refine lv_if_ne (tgt := 107) C.1 C.2.1 dX0_nextWrong_13 (by decide) (fun h => absurd h (by decide)) (fun _ => ?_)
  refine lv_aload_n C.1 C.2.1 dX0_nextWrong_16 rfl (lv_at hl 1 rfl) ?_
  refine k_get (v := .ref a1) C hP 0 rfl rfl inlX0 0 (by decide) m_5_17 e0_0 dX0_nextWrong_17 ?_
  refine k_Vi (As := []) (rest := []) C hP hD hS hA (c_X9_advance l D K a1 s1 n1 e1_5 e1_4 e1_7) X0_ok trivial (uwV m_13_18 m_13_19 m_13_20 m_1_17 m_13_21) (hdV 0 (by decide +kernel) rfl) ⟨Nat.le_of_ble_eq_true rfl, Nat.le_of_ble_eq_true rfl⟩ rfl rfl (ci := 8) rfl rfl (isC := [1]) (isR := [0]) (wr := [(a0, .inr (0, s0))]) ⟨rfl, rfl, rfl, rfl, by decide⟩ rfl hl.1 (Nat.le_of_ble_eq_true rfl) dX0_nextWrong_20 ⟨Nat.le_of_ble_eq_true rfl, Nat.le_of_ble_eq_true rfl⟩ (fun r_2 u_1 H locs hw hP hD hS => ?_)
  obtain rfl := hw
  have hP : va_P D vwCl [(a0, .inr (0, s0)), (a1, .inr (8, (s1.set 5 (.int 1))))] H := hP
  have hD : va_D A [(a0, .inr (0, s0)), (a1, .inr (8, (s1.set 5 (.int 1))))] := hD
  refine lv_if_ne (tgt := 40) C.1 C.2.1 dX0_nextWrong_23 (by decide) (fun h => absurd h (by decide)) (fun _ => ?_)
  refine lv_aload_n C.1 C.2.1 dX0_nextWrong_26 rfl (lv_at hl 1 rfl) ?_
  refine lv_aload_n C.1 C.2.1 dX0_nextWrong_27 rfl (lv_at hl 1 rfl) ?_
  refine k_get (v := .ref a1) C hP 0 rfl rfl inlX0 0 (by decide) m_5_17 e0_0 dX0_nextWrong_28 ?_
  refine k_get (v := .int 1) C hP 1 rfl rfl inlX9 5 (by decide) m_13_16 (ss (sk n1 (by decide))) dX0_nextWrong_31 ?_
  refine k_put (ws' := [(a0, .inr (0, (s0.set 15 (.int 1)))), (a1, .inr (8, (s1.set 5 (.int 1))))]) (v := .int 1) C hP hD hS 0 rfl rfl inlX0 tyX0_ok nmX0 15 (by decide) m_12_5 rfl rfl rfl n0 rfl dX0_nextWrong_34 (fun H locs hP hD hS => ?_)
  refine lv_bipush (v := 7) C.1 C.2.1 dX0_nextWrong_37 (by decide) ?_
  exact k_iret C hr hlocks hP hD hS rfl (fun _ => 0) [0, 1] rfl rfl rfl (Nat.le_of_ble_eq_true rfl) (Nat.le_of_ble_eq_true rfl) dX0_nextWrong_39
set_option maxHeartbeats 4000000 in
set_option maxRecDepth 100000 in
theorem c_X0_close (l : Launch) (D : va_G) (K : Nat → ClassId) (a0 : Nat) (s0 : List Value) (n0 : s0.length = 20) : uMet l yX0_close cX0_close 2 none (rmD 0 0 0) D K X0 [.ref a0, .int 7] [(a0, .inr (0, s0))] (QV D K (fun (u : Nat → Nat) => True) (fun (u : Nat → Nat) => [(a0, .inr (0, ((s0.set 18 (.int 7)).set 19 (.int 0))))])) 0 0 := by
  refine k_met RX0 ⟨rfl, by decide +kernel⟩ (Nat.le_of_ble_eq_true rfl) ?_
  intro p e s m below meth c A ls C hX hr hlocks hin hA hP hD hS hl
  have hl : lv_has ls 2 [(0, .ref a0), (1, .int 7)] := hl
  refine lv_aload_n C.1 C.2.1 dX0_close_0 rfl (lv_at hl 0 rfl) ?_
  refine lv_iload_n C.1 C.2.1 dX0_close_1 rfl (lv_at hl 1 rfl) ?_
  refine k_put (ws' := [(a0, .inr (0, (s0.set 18 (.int 7))))]) (v := .int 7) C hP hD hS 0 rfl rfl inlX0 tyX0_ok nmX0 18 (by decide) m_28_11 rfl rfl rfl n0 rfl dX0_close_2 (fun H locs hP hD hS => ?_)
  refine lv_aload_n C.1 C.2.1 dX0_close_5 rfl (lv_at hl 0 rfl) ?_
  refine lv_iload_n C.1 C.2.1 dX0_close_6 rfl (lv_at hl 1 rfl) ?_
  refine lv_if_ne (tgt := 14) C.1 C.2.1 dX0_close_7 (by decide) (fun _ => ?_) (fun h => absurd h (by decide))
  refine lv_iconst (v := 0) C.1 C.2.1 dX0_close_14 (by decide) ?_
  refine k_put (ws' := [(a0, .inr (0, ((s0.set 18 (.int 7)).set 19 (.int 0))))]) (v := .int 0) C hP hD hS 0 rfl rfl inlX0 tyX0_ok nmX0 19 (by decide) m_12_8 rfl (by decide) (by decide) (sl n0) rfl dX0_close_15 (fun H locs hP hD hS => ?_)
  exact k_vret C hr hlocks hP hD hS (fun _ => 0) [0] rfl rfl trivial (Nat.le_of_ble_eq_true rfl) (Nat.le_of_ble_eq_true rfl) dX0_close_18
set_option maxHeartbeats 4000000 in
set_option maxRecDepth 100000 in
theorem t_X11_assemble (l : Launch) (D : va_G) (K : Nat → ClassId) (a0 : Nat) (a1 : Nat) (a2 : Nat) (a3 : Nat) (a4 : Nat) (a5 : Nat) (a6 : Nat) (a7 : Nat) (a8 : Nat) (a9 : Nat) (a10 : Nat) (a11 : Nat) (a12 : Nat) (a13 : Nat) (s0 : List Value) (n0 : s0.length = 8) (s1 : List Value) (n1 : s1.length = 8) (f2 : Nat → Int32) (f3 : Nat → Int32) (s4 : List Value) (n4 : s4.length = 16) (f5 : Nat → Int32) (f6 : Nat → Int32) (s7 : List Value) (n7 : s7.length = 13) (f8 : Nat → Int64) (f9 : Nat → Int32) (s10 : List Value) (n10 : s10.length = 20) (s11 : List Value) (n11 : s11.length = 13) (f12 : Nat → Int32) (f13 : Nat → Int64) (e0_1 : s0[1]? = some (.int 0)) (e0_0 : s0[0]? = some (.ref a1)) (e0_2 : s0[2]? = some (.ref a2)) (e1_0 : s1[0]? = some (.ref a3)) (e0_4 : s0[4]? = some (.ref a4)) (e4_0 : s4[0]? = some (.ref a5)) (e4_1 : s4[1]? = some (.ref a6)) (e4_2 : s4[2]? = some (.ref a7)) (e7_3 : s7[3]? = some (.ref a8)) (e7_5 : s7[5]? = some (.ref a9)) (e0_5 : s0[5]? = some (.ref a10)) (e10_0 : s10[0]? = some (.ref a2)) (e10_2 : s10[2]? = some (.ref a11)) (e11_8 : s11[8]? = some (.ref a12)) (e10_4 : s10[4]? = some (.ref a13)) : uMet l yX11_assemble cX11_assemble 3 (some .int) (rmD 3 0 0) D K X0 [.ref a0] [(a0, .inr (10, s0)), (a2, .inr (8, s1)), (a1, .inl (K 2, 8192, .inl f2)), (a3, .inl (K 2, 8192, .inl f3)), (a4, .inr (1, s4)), (a5, .inl (K 0, 7999, .inl f5)), (a6, .inl (K 0, 9, .inl f6)), (a7, .inr (9, s7)), (a8, .inl (K 1, 20, .inr (.inl f8))), (a9, .inl (K 3, 17, .inl f9)), (a10, .inr (0, s10)), (a11, .inr (7, s11)), (a12, .inl (K 3, 10, .inl f12)), (a13, .inl (K 1, 63, .inr (.inl f13)))] (QI D K (fun (r : Int32) (u : Nat → Nat) => r = (-2)) (fun (u : Nat → Nat) => [])) 0 0 := by
  refine k_met RX11 ⟨rfl, by decide +kernel⟩ (Nat.le_of_ble_eq_true rfl) ?_
  intro p e s m below meth c A ls C hX hr hlocks hin hA hP hD hS hl
  have hl : lv_has ls 3 [(0, .ref a0)] := hl
  refine lv_aload_n C.1 C.2.1 dX11_assemble_0 rfl (lv_at hl 0 rfl) ?_
  refine k_Vi (As := []) (rest := []) C hP hD hS hA (c_X11_useUpTape l D K a0 s0 n0 e0_1) X0_ok trivial (uwV m_10_20 m_10_21 m_10_22 m_1_2 m_10_23) (hdV 0 (by decide +kernel) rfl) ⟨Nat.le_of_ble_eq_true rfl, Nat.le_of_ble_eq_true rfl⟩ rfl rfl (ci := 10) rfl rfl (isC := [0]) (isR := [1, 2, 3, 4, 5, 6, 7, 8, 9, 10, 11, 12, 13]) (wr := [(a2, .inr (8, s1)), (a1, .inl (K 2, 8192, .inl f2)), (a3, .inl (K 2, 8192, .inl f3)), (a4, .inr (1, s4)), (a5, .inl (K 0, 7999, .inl f5)), (a6, .inl (K 0, 9, .inl f6)), (a7, .inr (9, s7)), (a8, .inl (K 1, 20, .inr (.inl f8))), (a9, .inl (K 3, 17, .inl f9)), (a10, .inr (0, s10)), (a11, .inr (7, s11)), (a12, .inl (K 3, 10, .inl f12)), (a13, .inl (K 1, 63, .inr (.inl f13)))]) ⟨rfl, rfl, rfl, rfl, by decide⟩ rfl hl.1 (Nat.le_of_ble_eq_true rfl) dX11_assemble_1 ⟨Nat.le_of_ble_eq_true rfl, Nat.le_of_ble_eq_true rfl⟩ (fun r_2 u_1 H locs hw hP hD hS => ?_)
  obtain rfl := hw
  have hP : va_P D vwCl [(a2, .inr (8, s1)), (a1, .inl (K 2, 8192, .inl f2)), (a3, .inl (K 2, 8192, .inl f3)), (a4, .inr (1, s4)), (a5, .inl (K 0, 7999, .inl f5)), (a6, .inl (K 0, 9, .inl f6)), (a7, .inr (9, s7)), (a8, .inl (K 1, 20, .inr (.inl f8))), (a9, .inl (K 3, 17, .inl f9)), (a10, .inr (0, s10)), (a11, .inr (7, s11)), (a12, .inl (K 3, 10, .inl f12)), (a13, .inl (K 1, 63, .inr (.inl f13))), (a0, .inr (10, (s0.set 1 (.int 0))))] H := hP
  have hD : va_D A [(a2, .inr (8, s1)), (a1, .inl (K 2, 8192, .inl f2)), (a3, .inl (K 2, 8192, .inl f3)), (a4, .inr (1, s4)), (a5, .inl (K 0, 7999, .inl f5)), (a6, .inl (K 0, 9, .inl f6)), (a7, .inr (9, s7)), (a8, .inl (K 1, 20, .inr (.inl f8))), (a9, .inl (K 3, 17, .inl f9)), (a10, .inr (0, s10)), (a11, .inr (7, s11)), (a12, .inl (K 3, 10, .inl f12)), (a13, .inl (K 1, 63, .inr (.inl f13))), (a0, .inr (10, (s0.set 1 (.int 0))))] := hD
  refine lv_istore_n (lv' := [(1, .int 0), (0, .ref a0)]) C.1 C.2.1 dX11_assemble_4 rfl hl (by decide) rfl (fun ls hl => ?_)
  refine lv_aload_n C.1 C.2.1 dX11_assemble_5 rfl (lv_at hl 1 rfl) ?_
  refine k_get (v := .ref a1) C hP 13 rfl rfl inlX11 0 (by decide) m_2_6 (sn (by decide) e0_0) dX11_assemble_6 ?_
  refine lv_iconst (v := 0) C.1 C.2.1 dX11_assemble_9 (by decide) ?_
  refine lv_aload_n C.1 C.2.1 dX11_assemble_10 rfl (lv_at hl 1 rfl) ?_
  refine k_get (v := .ref a2) C hP 13 rfl rfl inlX11 2 (by decide) m_2_7 (sn (by decide) e0_2) dX11_assemble_11 ?_
  refine k_get (v := .ref a3) C hP 0 rfl rfl inlX9 0 (by decide) m_10_12 e1_0 dX11_assemble_14 ?_
  refine lv_iconst (v := 0) C.1 C.2.1 dX11_assemble_17 (by decide) ?_
  refine lv_iload_n C.1 C.2.1 dX11_assemble_18 rfl (lv_at hl 0 rfl) ?_
  refine k_copy (ws' := [(a2, .inr (8, s1)), (a1, .inl (K 2, 8192, .inl f2)), (a3, .inl (K 2, 8192, .inl (va_cpy f2 f3 0 0 0))), (a4, .inr (1, s4)), (a5, .inl (K 0, 7999, .inl f5)), (a6, .inl (K 0, 9, .inl f6)), (a7, .inr (9, s7)), (a8, .inl (K 1, 20, .inr (.inl f8))), (a9, .inl (K 3, 17, .inl f9)), (a10, .inr (0, s10)), (a11, .inr (7, s11)), (a12, .inl (K 3, 10, .inl f12)), (a13, .inl (K 1, 63, .inr (.inl f13))), (a0, .inr (10, (s0.set 1 (.int 0))))]) C hl.1 hP hD hS 1 2 2 rfl rfl rfl rfl (sp := 0) (dp := 0) (n := 0) (by decide) (by decide) (by decide) (by decide) (by decide) (by decide) (Nat.le_of_ble_eq_true rfl) (Nat.le_of_ble_eq_true rfl) (fun i h => absurd h (Nat.not_lt_zero i)) m_10_13 m_10_14 m_10_15 m_10_16 (Nat.le_of_ble_eq_true rfl) (Nat.le_of_ble_eq_true rfl) rfl dX11_assemble_19 (fun H locs hP hD hS => ?_)
  refine lv_aload_n C.1 C.2.1 dX11_assemble_22 rfl (lv_at hl 1 rfl) ?_
  refine k_get (v := .ref a4) C hP 13 rfl rfl inlX11 4 (by decide) m_2_9 (sn (by decide) e0_4) dX11_assemble_23 ?_
  refine k_Vv (As := []) (rest := []) C hP hD hS hA (c_X2_clear l D K a4 a5 a6 a7 a8 a9 s4 n4 f5 f6 s7 n7 f8 f9 e4_0 e4_1 e4_2 e7_3 e7_5) X0_ok trivial (uwV m_11_0 m_11_1 m_11_2 m_1_23 m_11_3) (hdV 0 (by decide +kernel) rfl) ⟨Nat.le_of_ble_eq_true rfl, Nat.le_of_ble_eq_true rfl⟩ rfl rfl (ci := 1) rfl rfl (isC := [3, 4, 5, 6, 7, 8]) (isR := [0, 1, 2, 9, 10, 11, 12, 13]) (wr := [(a2, .inr (8, s1)), (a1, .inl (K 2, 8192, .inl f2)), (a3, .inl (K 2, 8192, .inl (va_cpy f2 f3 0 0 0))), (a10, .inr (0, s10)), (a11, .inr (7, s11)), (a12, .inl (K 3, 10, .inl f12)), (a13, .inl (K 1, 63, .inr (.inl f13))), (a0, .inr (10, (s0.set 1 (.int 0))))]) ⟨rfl, rfl, rfl, rfl, by decide⟩ rfl hl.1 (Nat.le_of_ble_eq_true rfl) dX11_assemble_26 ⟨Nat.le_of_ble_eq_true rfl, Nat.le_of_ble_eq_true rfl⟩ (fun u_3 H locs hw hP hD hS => ?_)
  have hP : va_P D vwCl [(a2, .inr (8, s1)), (a1, .inl (K 2, 8192, .inl f2)), (a3, .inl (K 2, 8192, .inl (va_cpy f2 f3 0 0 0))), (a10, .inr (0, s10)), (a11, .inr (7, s11)), (a12, .inl (K 3, 10, .inl f12)), (a13, .inl (K 1, 63, .inr (.inl f13))), (a0, .inr (10, (s0.set 1 (.int 0)))), (a4, .inr (1, (((((((s4.set 3 (.int 0)).set 4 (.int 0)).set 5 (.int 0)).set 6 (.long 0)).set 8 (.int 9)).set 9 (.int 0)).set 10 (.int 0)))), (a5, .inl (K 0, 7999, .inl (fun _ => 0))), (a6, .inl (K 0, 9, .inl (fun _ => 0))), (a7, .inr (9, (s7.set 8 (.int 0)))), (a8, .inl (K 1, 20, .inr (.inl (fun _ => 0)))), (a9, .inl (K 3, 17, .inl (upd (upd (upd (upd (upd (upd (upd (upd (upd (upd (upd (upd (upd (upd (upd (upd (upd f9 0 0) 1 0) 2 0) 3 0) 4 0) 5 0) 6 0) 7 0) 8 0) 9 0) 10 0) 11 0) 12 0) 13 0) 14 0) 15 0) 16 0)))] H := hP
  have hD : va_D A [(a2, .inr (8, s1)), (a1, .inl (K 2, 8192, .inl f2)), (a3, .inl (K 2, 8192, .inl (va_cpy f2 f3 0 0 0))), (a10, .inr (0, s10)), (a11, .inr (7, s11)), (a12, .inl (K 3, 10, .inl f12)), (a13, .inl (K 1, 63, .inr (.inl f13))), (a0, .inr (10, (s0.set 1 (.int 0)))), (a4, .inr (1, (((((((s4.set 3 (.int 0)).set 4 (.int 0)).set 5 (.int 0)).set 6 (.long 0)).set 8 (.int 9)).set 9 (.int 0)).set 10 (.int 0)))), (a5, .inl (K 0, 7999, .inl (fun _ => 0))), (a6, .inl (K 0, 9, .inl (fun _ => 0))), (a7, .inr (9, (s7.set 8 (.int 0)))), (a8, .inl (K 1, 20, .inr (.inl (fun _ => 0)))), (a9, .inl (K 3, 17, .inl (upd (upd (upd (upd (upd (upd (upd (upd (upd (upd (upd (upd (upd (upd (upd (upd (upd f9 0 0) 1 0) 2 0) 3 0) 4 0) 5 0) 6 0) 7 0) 8 0) 9 0) 10 0) 11 0) 12 0) 13 0) 14 0) 15 0) 16 0)))] := hD
  refine lv_aload_n C.1 C.2.1 dX11_assemble_29 rfl (lv_at hl 1 rfl) ?_
  refine k_get (v := .ref a10) C hP 7 rfl rfl inlX11 5 (by decide) m_2_10 (sn (by decide) e0_5) dX11_assemble_30 ?_
  refine lv_iconst (v := 0) C.1 C.2.1 dX11_assemble_33 (by decide) ?_
  refine lv_iload_n C.1 C.2.1 dX11_assemble_34 rfl (lv_at hl 0 rfl) ?_
  refine lv_iconst (v := 0) C.1 C.2.1 dX11_assemble_35 (by decide) ?_
  refine k_Vv (As := [.int 0, .int 0, .int 0]) (rest := []) C hP hD hS hA (c_X0_open l D K a10 a2 a3 a11 a12 a13 s10 n10 s1 n1 (va_cpy f2 f3 0 0 0) s11 n11 f12 f13 e10_0 e1_0 e10_2 e11_8 e10_4) X0_ok trivial (uwV m_11_22 m_11_23 m_12_0 m_2_2 m_12_1) (hdV 3 (by decide +kernel) rfl) ⟨Nat.le_of_ble_eq_true rfl, Nat.le_of_ble_eq_true rfl⟩ rfl rfl (ci := 0) rfl rfl (isC := [3, 0, 2, 4, 5, 6]) (isR := [1, 7, 8, 9, 10, 11, 12, 13]) (wr := [(a1, .inl (K 2, 8192, .inl f2)), (a0, .inr (10, (s0.set 1 (.int 0)))), (a4, .inr (1, (((((((s4.set 3 (.int 0)).set 4 (.int 0)).set 5 (.int 0)).set 6 (.long 0)).set 8 (.int 9)).set 9 (.int 0)).set 10 (.int 0)))), (a5, .inl (K 0, 7999, .inl (fun _ => 0))), (a6, .inl (K 0, 9, .inl (fun _ => 0))), (a7, .inr (9, (s7.set 8 (.int 0)))), (a8, .inl (K 1, 20, .inr (.inl (fun _ => 0)))), (a9, .inl (K 3, 17, .inl (upd (upd (upd (upd (upd (upd (upd (upd (upd (upd (upd (upd (upd (upd (upd (upd (upd f9 0 0) 1 0) 2 0) 3 0) 4 0) 5 0) 6 0) 7 0) 8 0) 9 0) 10 0) 11 0) 12 0) 13 0) 14 0) 15 0) 16 0)))]) ⟨rfl, rfl, rfl, rfl, by decide⟩ rfl hl.1 (Nat.le_of_ble_eq_true rfl) dX11_assemble_36 ⟨Nat.le_of_ble_eq_true rfl, Nat.le_of_ble_eq_true rfl⟩ (fun u_5 H locs hw hP hD hS => ?_)
  have hP : va_P D vwCl [(a1, .inl (K 2, 8192, .inl f2)), (a0, .inr (10, (s0.set 1 (.int 0)))), (a4, .inr (1, (((((((s4.set 3 (.int 0)).set 4 (.int 0)).set 5 (.int 0)).set 6 (.long 0)).set 8 (.int 9)).set 9 (.int 0)).set 10 (.int 0)))), (a5, .inl (K 0, 7999, .inl (fun _ => 0))), (a6, .inl (K 0, 9, .inl (fun _ => 0))), (a7, .inr (9, (s7.set 8 (.int 0)))), (a8, .inl (K 1, 20, .inr (.inl (fun _ => 0)))), (a9, .inl (K 3, 17, .inl (upd (upd (upd (upd (upd (upd (upd (upd (upd (upd (upd (upd (upd (upd (upd (upd (upd f9 0 0) 1 0) 2 0) 3 0) 4 0) 5 0) 6 0) 7 0) 8 0) 9 0) 10 0) 11 0) 12 0) 13 0) 14 0) 15 0) 16 0))), (a10, .inr (0, (((((((s10.set 7 (.int 0)).set 9 (.int 0)).set 10 (.int (-3999))).set 15 (.int 0)).set 16 (.int 0)).set 17 (.int 0)).set 19 (.int 0)))), (a2, .inr (8, ((((s1.set 6 (.int 0)).set 7 (.int 0)).set 4 (.int 0)).set 5 (.int 0)))), (a3, .inl (K 2, 8192, .inl (va_cpy f2 f3 0 0 0))), (a11, .inr (7, (((s11.set 3 (.int 0)).set 6 (.int 0)).set 12 (.int 0)))), (a12, .inl (K 3, 10, .inl (fun _ => 0))), (a13, .inl (K 1, 63, .inr (.inl (fun _ => 0))))] H := hP
  have hD : va_D A [(a1, .inl (K 2, 8192, .inl f2)), (a0, .inr (10, (s0.set 1 (.int 0)))), (a4, .inr (1, (((((((s4.set 3 (.int 0)).set 4 (.int 0)).set 5 (.int 0)).set 6 (.long 0)).set 8 (.int 9)).set 9 (.int 0)).set 10 (.int 0)))), (a5, .inl (K 0, 7999, .inl (fun _ => 0))), (a6, .inl (K 0, 9, .inl (fun _ => 0))), (a7, .inr (9, (s7.set 8 (.int 0)))), (a8, .inl (K 1, 20, .inr (.inl (fun _ => 0)))), (a9, .inl (K 3, 17, .inl (upd (upd (upd (upd (upd (upd (upd (upd (upd (upd (upd (upd (upd (upd (upd (upd (upd f9 0 0) 1 0) 2 0) 3 0) 4 0) 5 0) 6 0) 7 0) 8 0) 9 0) 10 0) 11 0) 12 0) 13 0) 14 0) 15 0) 16 0))), (a10, .inr (0, (((((((s10.set 7 (.int 0)).set 9 (.int 0)).set 10 (.int (-3999))).set 15 (.int 0)).set 16 (.int 0)).set 17 (.int 0)).set 19 (.int 0)))), (a2, .inr (8, ((((s1.set 6 (.int 0)).set 7 (.int 0)).set 4 (.int 0)).set 5 (.int 0)))), (a3, .inl (K 2, 8192, .inl (va_cpy f2 f3 0 0 0))), (a11, .inr (7, (((s11.set 3 (.int 0)).set 6 (.int 0)).set 12 (.int 0)))), (a12, .inl (K 3, 10, .inl (fun _ => 0))), (a13, .inl (K 1, 63, .inr (.inl (fun _ => 0))))] := hD
  refine lv_aload_n C.1 C.2.1 dX11_assemble_39 rfl (lv_at hl 1 rfl) ?_
  refine k_get (v := .ref a10) C hP 1 rfl rfl inlX11 5 (by decide) m_2_10 (sn (by decide) e0_5) dX11_assemble_40 ?_
  refine k_Vi (As := []) (rest := []) C hP hD hS hA (c_X0_nextWrong l D K a10 a2 ((((((((s10.set 7 (.int 0)).set 9 (.int 0)).set 10 (.int (-3999))).set 15 (.int 0)).set 16 (.int 0)).set 17 (.int 0)).set 19 (.int 0))) (sl (sl (sl (sl (sl (sl (sl n10))))))) (((((s1.set 6 (.int 0)).set 7 (.int 0)).set 4 (.int 0)).set 5 (.int 0))) (sl (sl (sl (sl n1)))) (sn (by decide) (sn (by decide) (sn (by decide) (ss (sk (sl (sl (sl n10))) (by decide)))))) (sn (by decide) (sn (by decide) (sn (by decide) (sn (by decide) (sn (by decide) (sn (by decide) (sn (by decide) e10_0))))))) (ss (sk (sl (sl (sl n1))) (by decide))) (sn (by decide) (ss (sk (sl (sl n1)) (by decide)))) (sn (by decide) (sn (by decide) (ss (sk (sl n1) (by decide)))))) X0_ok trivial (uwV m_13_12 m_13_13 m_13_14 m_2_2 m_13_15) (hdV 0 (by decide +kernel) rfl) ⟨Nat.le_of_ble_eq_true rfl, Nat.le_of_ble_eq_true rfl⟩ rfl rfl (ci := 0) rfl rfl (isC := [8, 9]) (isR := [0, 1, 2, 3, 4, 5, 6, 7, 10, 11, 12, 13]) (wr := [(a1, .inl (K 2, 8192, .inl f2)), (a0, .inr (10, (s0.set 1 (.int 0)))), (a4, .inr (1, (((((((s4.set 3 (.int 0)).set 4 (.int 0)).set 5 (.int 0)).set 6 (.long 0)).set 8 (.int 9)).set 9 (.int 0)).set 10 (.int 0)))), (a5, .inl (K 0, 7999, .inl (fun _ => 0))), (a6, .inl (K 0, 9, .inl (fun _ => 0))), (a7, .inr (9, (s7.set 8 (.int 0)))), (a8, .inl (K 1, 20, .inr (.inl (fun _ => 0)))), (a9, .inl (K 3, 17, .inl (upd (upd (upd (upd (upd (upd (upd (upd (upd (upd (upd (upd (upd (upd (upd (upd (upd f9 0 0) 1 0) 2 0) 3 0) 4 0) 5 0) 6 0) 7 0) 8 0) 9 0) 10 0) 11 0) 12 0) 13 0) 14 0) 15 0) 16 0))), (a3, .inl (K 2, 8192, .inl (va_cpy f2 f3 0 0 0))), (a11, .inr (7, (((s11.set 3 (.int 0)).set 6 (.int 0)).set 12 (.int 0)))), (a12, .inl (K 3, 10, .inl (fun _ => 0))), (a13, .inl (K 1, 63, .inr (.inl (fun _ => 0))))]) ⟨rfl, rfl, rfl, rfl, by decide⟩ rfl hl.1 (Nat.le_of_ble_eq_true rfl) dX11_assemble_43 ⟨Nat.le_of_ble_eq_true rfl, Nat.le_of_ble_eq_true rfl⟩ (fun r_8 u_7 H locs hw hP hD hS => ?_)
  obtain rfl := hw
  have hP : va_P D vwCl [(a1, .inl (K 2, 8192, .inl f2)), (a0, .inr (10, (s0.set 1 (.int 0)))), (a4, .inr (1, (((((((s4.set 3 (.int 0)).set 4 (.int 0)).set 5 (.int 0)).set 6 (.long 0)).set 8 (.int 9)).set 9 (.int 0)).set 10 (.int 0)))), (a5, .inl (K 0, 7999, .inl (fun _ => 0))), (a6, .inl (K 0, 9, .inl (fun _ => 0))), (a7, .inr (9, (s7.set 8 (.int 0)))), (a8, .inl (K 1, 20, .inr (.inl (fun _ => 0)))), (a9, .inl (K 3, 17, .inl (upd (upd (upd (upd (upd (upd (upd (upd (upd (upd (upd (upd (upd (upd (upd (upd (upd f9 0 0) 1 0) 2 0) 3 0) 4 0) 5 0) 6 0) 7 0) 8 0) 9 0) 10 0) 11 0) 12 0) 13 0) 14 0) 15 0) 16 0))), (a3, .inl (K 2, 8192, .inl (va_cpy f2 f3 0 0 0))), (a11, .inr (7, (((s11.set 3 (.int 0)).set 6 (.int 0)).set 12 (.int 0)))), (a12, .inl (K 3, 10, .inl (fun _ => 0))), (a13, .inl (K 1, 63, .inr (.inl (fun _ => 0)))), (a10, .inr (0, ((((((((s10.set 7 (.int 0)).set 9 (.int 0)).set 10 (.int (-3999))).set 15 (.int 0)).set 16 (.int 0)).set 17 (.int 0)).set 19 (.int 0)).set 15 (.int 1)))), (a2, .inr (8, (((((s1.set 6 (.int 0)).set 7 (.int 0)).set 4 (.int 0)).set 5 (.int 0)).set 5 (.int 1))))] H := hP
  have hD : va_D A [(a1, .inl (K 2, 8192, .inl f2)), (a0, .inr (10, (s0.set 1 (.int 0)))), (a4, .inr (1, (((((((s4.set 3 (.int 0)).set 4 (.int 0)).set 5 (.int 0)).set 6 (.long 0)).set 8 (.int 9)).set 9 (.int 0)).set 10 (.int 0)))), (a5, .inl (K 0, 7999, .inl (fun _ => 0))), (a6, .inl (K 0, 9, .inl (fun _ => 0))), (a7, .inr (9, (s7.set 8 (.int 0)))), (a8, .inl (K 1, 20, .inr (.inl (fun _ => 0)))), (a9, .inl (K 3, 17, .inl (upd (upd (upd (upd (upd (upd (upd (upd (upd (upd (upd (upd (upd (upd (upd (upd (upd f9 0 0) 1 0) 2 0) 3 0) 4 0) 5 0) 6 0) 7 0) 8 0) 9 0) 10 0) 11 0) 12 0) 13 0) 14 0) 15 0) 16 0))), (a3, .inl (K 2, 8192, .inl (va_cpy f2 f3 0 0 0))), (a11, .inr (7, (((s11.set 3 (.int 0)).set 6 (.int 0)).set 12 (.int 0)))), (a12, .inl (K 3, 10, .inl (fun _ => 0))), (a13, .inl (K 1, 63, .inr (.inl (fun _ => 0)))), (a10, .inr (0, ((((((((s10.set 7 (.int 0)).set 9 (.int 0)).set 10 (.int (-3999))).set 15 (.int 0)).set 16 (.int 0)).set 17 (.int 0)).set 19 (.int 0)).set 15 (.int 1)))), (a2, .inr (8, (((((s1.set 6 (.int 0)).set 7 (.int 0)).set 4 (.int 0)).set 5 (.int 0)).set 5 (.int 1))))] := hD
  refine lv_istore_n (lv' := [(2, .int 7), (1, .int 0), (0, .ref a0)]) C.1 C.2.1 dX11_assemble_46 rfl hl (by decide) rfl (fun ls hl => ?_)
  refine lv_aload_n C.1 C.2.1 dX11_assemble_47 rfl (lv_at hl 2 rfl) ?_
  refine k_get (v := .ref a10) C hP 1 rfl rfl inlX11 5 (by decide) m_2_10 (sn (by decide) e0_5) dX11_assemble_48 ?_
  refine lv_iload_n C.1 C.2.1 dX11_assemble_51 rfl (lv_at hl 0 rfl) ?_
  refine k_Vv (As := [.int 7]) (rest := []) C hP hD hS hA (c_X0_close l D K a10 (((((((((s10.set 7 (.int 0)).set 9 (.int 0)).set 10 (.int (-3999))).set 15 (.int 0)).set 16 (.int 0)).set 17 (.int 0)).set 19 (.int 0)).set 15 (.int 1))) (sl (sl (sl (sl (sl (sl (sl (sl n10))))))))) X0_ok trivial (uwV m_28_7 m_28_8 m_28_9 m_2_2 m_28_10) (hdV 1 (by decide +kernel) rfl) ⟨Nat.le_of_ble_eq_true rfl, Nat.le_of_ble_eq_true rfl⟩ rfl rfl (ci := 0) rfl rfl (isC := [12]) (isR := [0, 1, 2, 3, 4, 5, 6, 7, 8, 9, 10, 11, 13]) (wr := [(a1, .inl (K 2, 8192, .inl f2)), (a0, .inr (10, (s0.set 1 (.int 0)))), (a4, .inr (1, (((((((s4.set 3 (.int 0)).set 4 (.int 0)).set 5 (.int 0)).set 6 (.long 0)).set 8 (.int 9)).set 9 (.int 0)).set 10 (.int 0)))), (a5, .inl (K 0, 7999, .inl (fun _ => 0))), (a6, .inl (K 0, 9, .inl (fun _ => 0))), (a7, .inr (9, (s7.set 8 (.int 0)))), (a8, .inl (K 1, 20, .inr (.inl (fun _ => 0)))), (a9, .inl (K 3, 17, .inl (upd (upd (upd (upd (upd (upd (upd (upd (upd (upd (upd (upd (upd (upd (upd (upd (upd f9 0 0) 1 0) 2 0) 3 0) 4 0) 5 0) 6 0) 7 0) 8 0) 9 0) 10 0) 11 0) 12 0) 13 0) 14 0) 15 0) 16 0))), (a3, .inl (K 2, 8192, .inl (va_cpy f2 f3 0 0 0))), (a11, .inr (7, (((s11.set 3 (.int 0)).set 6 (.int 0)).set 12 (.int 0)))), (a12, .inl (K 3, 10, .inl (fun _ => 0))), (a13, .inl (K 1, 63, .inr (.inl (fun _ => 0)))), (a2, .inr (8, (((((s1.set 6 (.int 0)).set 7 (.int 0)).set 4 (.int 0)).set 5 (.int 0)).set 5 (.int 1))))]) ⟨rfl, rfl, rfl, rfl, by decide⟩ rfl hl.1 (Nat.le_of_ble_eq_true rfl) dX11_assemble_52 ⟨Nat.le_of_ble_eq_true rfl, Nat.le_of_ble_eq_true rfl⟩ (fun u_9 H locs hw hP hD hS => ?_)
  have hP : va_P D vwCl [(a1, .inl (K 2, 8192, .inl f2)), (a0, .inr (10, (s0.set 1 (.int 0)))), (a4, .inr (1, (((((((s4.set 3 (.int 0)).set 4 (.int 0)).set 5 (.int 0)).set 6 (.long 0)).set 8 (.int 9)).set 9 (.int 0)).set 10 (.int 0)))), (a5, .inl (K 0, 7999, .inl (fun _ => 0))), (a6, .inl (K 0, 9, .inl (fun _ => 0))), (a7, .inr (9, (s7.set 8 (.int 0)))), (a8, .inl (K 1, 20, .inr (.inl (fun _ => 0)))), (a9, .inl (K 3, 17, .inl (upd (upd (upd (upd (upd (upd (upd (upd (upd (upd (upd (upd (upd (upd (upd (upd (upd f9 0 0) 1 0) 2 0) 3 0) 4 0) 5 0) 6 0) 7 0) 8 0) 9 0) 10 0) 11 0) 12 0) 13 0) 14 0) 15 0) 16 0))), (a3, .inl (K 2, 8192, .inl (va_cpy f2 f3 0 0 0))), (a11, .inr (7, (((s11.set 3 (.int 0)).set 6 (.int 0)).set 12 (.int 0)))), (a12, .inl (K 3, 10, .inl (fun _ => 0))), (a13, .inl (K 1, 63, .inr (.inl (fun _ => 0)))), (a2, .inr (8, (((((s1.set 6 (.int 0)).set 7 (.int 0)).set 4 (.int 0)).set 5 (.int 0)).set 5 (.int 1)))), (a10, .inr (0, ((((((((((s10.set 7 (.int 0)).set 9 (.int 0)).set 10 (.int (-3999))).set 15 (.int 0)).set 16 (.int 0)).set 17 (.int 0)).set 19 (.int 0)).set 15 (.int 1)).set 18 (.int 7)).set 19 (.int 0))))] H := hP
  have hD : va_D A [(a1, .inl (K 2, 8192, .inl f2)), (a0, .inr (10, (s0.set 1 (.int 0)))), (a4, .inr (1, (((((((s4.set 3 (.int 0)).set 4 (.int 0)).set 5 (.int 0)).set 6 (.long 0)).set 8 (.int 9)).set 9 (.int 0)).set 10 (.int 0)))), (a5, .inl (K 0, 7999, .inl (fun _ => 0))), (a6, .inl (K 0, 9, .inl (fun _ => 0))), (a7, .inr (9, (s7.set 8 (.int 0)))), (a8, .inl (K 1, 20, .inr (.inl (fun _ => 0)))), (a9, .inl (K 3, 17, .inl (upd (upd (upd (upd (upd (upd (upd (upd (upd (upd (upd (upd (upd (upd (upd (upd (upd f9 0 0) 1 0) 2 0) 3 0) 4 0) 5 0) 6 0) 7 0) 8 0) 9 0) 10 0) 11 0) 12 0) 13 0) 14 0) 15 0) 16 0))), (a3, .inl (K 2, 8192, .inl (va_cpy f2 f3 0 0 0))), (a11, .inr (7, (((s11.set 3 (.int 0)).set 6 (.int 0)).set 12 (.int 0)))), (a12, .inl (K 3, 10, .inl (fun _ => 0))), (a13, .inl (K 1, 63, .inr (.inl (fun _ => 0)))), (a2, .inr (8, (((((s1.set 6 (.int 0)).set 7 (.int 0)).set 4 (.int 0)).set 5 (.int 0)).set 5 (.int 1)))), (a10, .inr (0, ((((((((((s10.set 7 (.int 0)).set 9 (.int 0)).set 10 (.int (-3999))).set 15 (.int 0)).set 16 (.int 0)).set 17 (.int 0)).set 19 (.int 0)).set 15 (.int 1)).set 18 (.int 7)).set 19 (.int 0))))] := hD
  refine lv_iload_n C.1 C.2.1 dX11_assemble_55 rfl (lv_at hl 0 rfl) ?_
  refine lv_if_eq (tgt := 76) C.1 C.2.1 dX11_assemble_56 (by decide) (fun h => absurd h (by decide)) (fun _ => ?_)
  refine lv_aload_n C.1 C.2.1 dX11_assemble_59 rfl (lv_at hl 2 rfl) ?_
  refine k_get (v := .ref a4) C hP 1 rfl rfl inlX11 4 (by decide) m_2_9 (sn (by decide) e0_4) dX11_assemble_60 ?_
  refine k_Vv (As := []) (rest := []) C hP hD hS hA (c_X2_clear l D K a4 a5 a6 a7 a8 a9 ((((((((s4.set 3 (.int 0)).set 4 (.int 0)).set 5 (.int 0)).set 6 (.long 0)).set 8 (.int 9)).set 9 (.int 0)).set 10 (.int 0))) (sl (sl (sl (sl (sl (sl (sl n4))))))) (fun _ => 0) (fun _ => 0) ((s7.set 8 (.int 0))) (sl n7) (fun _ => 0) (upd (upd (upd (upd (upd (upd (upd (upd (upd (upd (upd (upd (upd (upd (upd (upd (upd f9 0 0) 1 0) 2 0) 3 0) 4 0) 5 0) 6 0) 7 0) 8 0) 9 0) 10 0) 11 0) 12 0) 13 0) 14 0) 15 0) 16 0) (sn (by decide) (sn (by decide) (sn (by decide) (sn (by decide) (sn (by decide) (sn (by decide) (sn (by decide) e4_0))))))) (sn (by decide) (sn (by decide) (sn (by decide) (sn (by decide) (sn (by decide) (sn (by decide) (sn (by decide) e4_1))))))) (sn (by decide) (sn (by decide) (sn (by decide) (sn (by decide) (sn (by decide) (sn (by decide) (sn (by decide) e4_2))))))) (sn (by decide) e7_3) (sn (by decide) e7_5)) X0_ok trivial (uwV m_11_0 m_11_1 m_11_2 m_1_23 m_11_3) (hdV 0 (by decide +kernel) rfl) ⟨Nat.le_of_ble_eq_true rfl, Nat.le_of_ble_eq_true rfl⟩ rfl rfl (ci := 1) rfl rfl (isC := [2, 3, 4, 5, 6, 7]) (isR := [0, 1, 8, 9, 10, 11, 12, 13]) (wr := [(a1, .inl (K 2, 8192, .inl f2)), (a0, .inr (10, (s0.set 1 (.int 0)))), (a3, .inl (K 2, 8192, .inl (va_cpy f2 f3 0 0 0))), (a11, .inr (7, (((s11.set 3 (.int 0)).set 6 (.int 0)).set 12 (.int 0)))), (a12, .inl (K 3, 10, .inl (fun _ => 0))), (a13, .inl (K 1, 63, .inr (.inl (fun _ => 0)))), (a2, .inr (8, (((((s1.set 6 (.int 0)).set 7 (.int 0)).set 4 (.int 0)).set 5 (.int 0)).set 5 (.int 1)))), (a10, .inr (0, ((((((((((s10.set 7 (.int 0)).set 9 (.int 0)).set 10 (.int (-3999))).set 15 (.int 0)).set 16 (.int 0)).set 17 (.int 0)).set 19 (.int 0)).set 15 (.int 1)).set 18 (.int 7)).set 19 (.int 0))))]) ⟨rfl, rfl, rfl, rfl, by decide⟩ rfl hl.1 (Nat.le_of_ble_eq_true rfl) dX11_assemble_63 ⟨Nat.le_of_ble_eq_true rfl, Nat.le_of_ble_eq_true rfl⟩ (fun u_11 H locs hw hP hD hS => ?_)
  have hP : va_P D vwCl [(a1, .inl (K 2, 8192, .inl f2)), (a0, .inr (10, (s0.set 1 (.int 0)))), (a3, .inl (K 2, 8192, .inl (va_cpy f2 f3 0 0 0))), (a11, .inr (7, (((s11.set 3 (.int 0)).set 6 (.int 0)).set 12 (.int 0)))), (a12, .inl (K 3, 10, .inl (fun _ => 0))), (a13, .inl (K 1, 63, .inr (.inl (fun _ => 0)))), (a2, .inr (8, (((((s1.set 6 (.int 0)).set 7 (.int 0)).set 4 (.int 0)).set 5 (.int 0)).set 5 (.int 1)))), (a10, .inr (0, ((((((((((s10.set 7 (.int 0)).set 9 (.int 0)).set 10 (.int (-3999))).set 15 (.int 0)).set 16 (.int 0)).set 17 (.int 0)).set 19 (.int 0)).set 15 (.int 1)).set 18 (.int 7)).set 19 (.int 0)))), (a4, .inr (1, ((((((((((((((s4.set 3 (.int 0)).set 4 (.int 0)).set 5 (.int 0)).set 6 (.long 0)).set 8 (.int 9)).set 9 (.int 0)).set 10 (.int 0)).set 3 (.int 0)).set 4 (.int 0)).set 5 (.int 0)).set 6 (.long 0)).set 8 (.int 9)).set 9 (.int 0)).set 10 (.int 0)))), (a5, .inl (K 0, 7999, .inl (fun _ => 0))), (a6, .inl (K 0, 9, .inl (fun _ => 0))), (a7, .inr (9, ((s7.set 8 (.int 0)).set 8 (.int 0)))), (a8, .inl (K 1, 20, .inr (.inl (fun _ => 0)))), (a9, .inl (K 3, 17, .inl (upd (upd (upd (upd (upd (upd (upd (upd (upd (upd (upd (upd (upd (upd (upd (upd (upd (upd (upd (upd (upd (upd (upd (upd (upd (upd (upd (upd (upd (upd (upd (upd (upd (upd f9 0 0) 1 0) 2 0) 3 0) 4 0) 5 0) 6 0) 7 0) 8 0) 9 0) 10 0) 11 0) 12 0) 13 0) 14 0) 15 0) 16 0) 0 0) 1 0) 2 0) 3 0) 4 0) 5 0) 6 0) 7 0) 8 0) 9 0) 10 0) 11 0) 12 0) 13 0) 14 0) 15 0) 16 0)))] H := hP
  have hD : va_D A [(a1, .inl (K 2, 8192, .inl f2)), (a0, .inr (10, (s0.set 1 (.int 0)))), (a3, .inl (K 2, 8192, .inl (va_cpy f2 f3 0 0 0))), (a11, .inr (7, (((s11.set 3 (.int 0)).set 6 (.int 0)).set 12 (.int 0)))), (a12, .inl (K 3, 10, .inl (fun _ => 0))), (a13, .inl (K 1, 63, .inr (.inl (fun _ => 0)))), (a2, .inr (8, (((((s1.set 6 (.int 0)).set 7 (.int 0)).set 4 (.int 0)).set 5 (.int 0)).set 5 (.int 1)))), (a10, .inr (0, ((((((((((s10.set 7 (.int 0)).set 9 (.int 0)).set 10 (.int (-3999))).set 15 (.int 0)).set 16 (.int 0)).set 17 (.int 0)).set 19 (.int 0)).set 15 (.int 1)).set 18 (.int 7)).set 19 (.int 0)))), (a4, .inr (1, ((((((((((((((s4.set 3 (.int 0)).set 4 (.int 0)).set 5 (.int 0)).set 6 (.long 0)).set 8 (.int 9)).set 9 (.int 0)).set 10 (.int 0)).set 3 (.int 0)).set 4 (.int 0)).set 5 (.int 0)).set 6 (.long 0)).set 8 (.int 9)).set 9 (.int 0)).set 10 (.int 0)))), (a5, .inl (K 0, 7999, .inl (fun _ => 0))), (a6, .inl (K 0, 9, .inl (fun _ => 0))), (a7, .inr (9, ((s7.set 8 (.int 0)).set 8 (.int 0)))), (a8, .inl (K 1, 20, .inr (.inl (fun _ => 0)))), (a9, .inl (K 3, 17, .inl (upd (upd (upd (upd (upd (upd (upd (upd (upd (upd (upd (upd (upd (upd (upd (upd (upd (upd (upd (upd (upd (upd (upd (upd (upd (upd (upd (upd (upd (upd (upd (upd (upd (upd f9 0 0) 1 0) 2 0) 3 0) 4 0) 5 0) 6 0) 7 0) 8 0) 9 0) 10 0) 11 0) 12 0) 13 0) 14 0) 15 0) 16 0) 0 0) 1 0) 2 0) 3 0) 4 0) 5 0) 6 0) 7 0) 8 0) 9 0) 10 0) 11 0) 12 0) 13 0) 14 0) 15 0) 16 0)))] := hD
  refine lv_iconst (v := (-1)) C.1 C.2.1 dX11_assemble_66 (by decide) ?_
  refine lv_aload_n C.1 C.2.1 dX11_assemble_67 rfl (lv_at hl 2 rfl) ?_
  refine k_get (v := .ref a2) C hP 1 rfl rfl inlX11 2 (by decide) m_2_7 (sn (by decide) e0_2) dX11_assemble_68 ?_
  refine k_get (v := .int 1) C hP 6 rfl rfl inlX9 5 (by decide) m_10_17 (ss (sk (sl (sl (sl (sl n1)))) (by decide))) dX11_assemble_71 ?_
  refine k_isub (v := (-2)) C (by decide) dX11_assemble_74 ?_
  exact k_iret C hr hlocks hP hD hS rfl (fun _ => 0) [] rfl rfl rfl (Nat.le_of_ble_eq_true rfl) (Nat.le_of_ble_eq_true rfl) dX11_assemble_75
