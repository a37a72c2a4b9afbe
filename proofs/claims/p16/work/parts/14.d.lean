theorem dX12_multiply_0 : decode cX12_multiply 0 = .ok (.aload_n 0, 1) := by decide +kernel
theorem dX12_multiply_1 : decode cX12_multiply 1 = .ok (.getfield 17, 3) := by decide +kernel
theorem dX12_multiply_10 : decode cX12_multiply 10 = .ok (.iload_n 1, 1) := by decide +kernel
theorem dX12_multiply_11 : decode cX12_multiply 11 = .ok (.ldc 159, 2) := by decide +kernel
theorem dX12_multiply_13 : decode cX12_multiply 13 = .ok (.iand, 1) := by decide +kernel
theorem dX12_multiply_14 : decode cX12_multiply 14 = .ok (.i2l, 1) := by decide +kernel
theorem dX12_multiply_15 : decode cX12_multiply 15 = .ok (.lmul, 1) := by decide +kernel
theorem dX12_multiply_16 : decode cX12_multiply 16 = .ok (.lstore_n 2, 1) := by decide +kernel
theorem dX12_multiply_17 : decode cX12_multiply 17 = .ok (.aload_n 0, 1) := by decide +kernel
theorem dX12_multiply_18 : decode cX12_multiply 18 = .ok (.getfield 17, 3) := by decide +kernel
theorem dX12_multiply_21 : decode cX12_multiply 21 = .ok (.iconst 0, 1) := by decide +kernel
theorem dX12_multiply_22 : decode cX12_multiply 22 = .ok (.iaload, 1) := by decide +kernel
theorem dX12_multiply_23 : decode cX12_multiply 23 = .ok (.iload_n 1, 1) := by decide +kernel
theorem dX12_multiply_24 : decode cX12_multiply 24 = .ok (.ixor, 1) := by decide +kernel
theorem dX12_multiply_25 : decode cX12_multiply 25 = .ok (.ldc 158, 2) := by decide +kernel
theorem dX12_multiply_27 : decode cX12_multiply 27 = .ok (.iand, 1) := by decide +kernel
theorem dX12_multiply_28 : decode cX12_multiply 28 = .ok (.istore 4, 2) := by decide +kernel
theorem dX12_multiply_30 : decode cX12_multiply 30 = .ok (.aload_n 0, 1) := by decide +kernel
theorem dX12_multiply_31 : decode cX12_multiply 31 = .ok (.getfield 17, 3) := by decide +kernel
theorem dX12_multiply_34 : decode cX12_multiply 34 = .ok (.iconst 0, 1) := by decide +kernel
theorem dX12_multiply_35 : decode cX12_multiply 35 = .ok (.iload 4, 2) := by decide +kernel
theorem dX12_multiply_37 : decode cX12_multiply 37 = .ok (.lload_n 2, 1) := by decide +kernel
theorem dX12_multiply_38 : decode cX12_multiply 38 = .ok (.bipush 30, 2) := by decide +kernel
theorem dX12_multiply_4 : decode cX12_multiply 4 = .ok (.iconst 0, 1) := by decide +kernel
theorem dX12_multiply_40 : decode cX12_multiply 40 = .ok (.lshr, 1) := by decide +kernel
theorem dX12_multiply_41 : decode cX12_multiply 41 = .ok (.l2i, 1) := by decide +kernel
theorem dX12_multiply_42 : decode cX12_multiply 42 = .ok (.ior, 1) := by decide +kernel
theorem dX12_multiply_43 : decode cX12_multiply 43 = .ok (.iastore, 1) := by decide +kernel
theorem dX12_multiply_44 : decode cX12_multiply 44 = .ok (.aload_n 0, 1) := by decide +kernel
theorem dX12_multiply_45 : decode cX12_multiply 45 = .ok (.getfield 17, 3) := by decide +kernel
theorem dX12_multiply_48 : decode cX12_multiply 48 = .ok (.bipush 7, 2) := by decide +kernel
theorem dX12_multiply_5 : decode cX12_multiply 5 = .ok (.iaload, 1) := by decide +kernel
theorem dX12_multiply_50 : decode cX12_multiply 50 = .ok (.iload 4, 2) := by decide +kernel
theorem dX12_multiply_52 : decode cX12_multiply 52 = .ok (.lload_n 2, 1) := by decide +kernel
theorem dX12_multiply_53 : decode cX12_multiply 53 = .ok (.ldc2_w 335, 3) := by decide +kernel
theorem dX12_multiply_56 : decode cX12_multiply 56 = .ok (.land, 1) := by decide +kernel
theorem dX12_multiply_57 : decode cX12_multiply 57 = .ok (.l2i, 1) := by decide +kernel
theorem dX12_multiply_58 : decode cX12_multiply 58 = .ok (.ior, 1) := by decide +kernel
theorem dX12_multiply_59 : decode cX12_multiply 59 = .ok (.iastore, 1) := by decide +kernel
theorem dX12_multiply_6 : decode cX12_multiply 6 = .ok (.ldc 159, 2) := by decide +kernel
theorem dX12_multiply_60 : decode cX12_multiply 60 = .ok (.return_, 1) := by decide +kernel
theorem dX12_multiply_8 : decode cX12_multiply 8 = .ok (.iand, 1) := by decide +kernel
theorem dX12_multiply_9 : decode cX12_multiply 9 = .ok (.i2l, 1) := by decide +kernel
set_option maxHeartbeats 4000000 in
set_option maxRecDepth 100000 in
theorem T_X12_multiply (l : Launch) (D : va_G) (K : Nat → ClassId) (Z Y : Nat → Nat) (ad : Nat → Nat) (t : tSt) (hok : okM t) (x1 : Int32) (hx1 : (0 : Int) ≤ x1.toInt ∧ x1.toInt ≤ 2147483647) : tMet l yX12_multiply cX12_multiply 5 none (rmD 0 0 0) D K Z Y [.ref (ad 0), .int x1] (WM K ad t) (QV D K (fun (u : tSt) => okM u ∧ frA [] [] [3] [] t u) (fun (u : tSt) => WM K ad u)) 0 0 := by
  refine t_met RX12 ⟨rfl, by decide +kernel⟩ (Nat.le_of_ble_eq_true rfl) ?_
  intro p e s m below meth c A ls C hE hZ hr hlocks hA hP hD hS hl
  have hl : lv_has ls 5 [(0, .ref (ad 0)), (1, .int x1)] := hl
  have hokt := hok
  have hfr : frA [] [] [3] [] t t := frA_rf
  refine lv_aload_n C.1 C.2.1 dX12_multiply_0 rfl (lv_at hl 0 rfl) ?_
  refine k_get (v := .ref (ad 3)) C hP 0 rfl rfl inlX12 4 (by decide) m_7_6 rfl dX12_multiply_1 ?_
  refine lv_iconst (v := 0) C.1 C.2.1 dX12_multiply_4 (by decide) ?_
  obtain ⟨v_1, e_2⟩ : ∃ z, z = (t.2.2.1 3 (0 : Int32).toNatClampNeg) := ⟨_, rfl⟩
  refine k_ild (v := v_1) C hP 3 rfl (vin (by decide)) e_2.symm dX12_multiply_5 ?_
  refine lv_ldc (v := 1073741823) C.1 C.2.1 C.2.2.2.1 (C.2.2.2.2.1 _ m_36_12) dX12_multiply_6 ?_
  obtain ⟨v_3, e_4⟩ : ∃ z, z = (v_1 : Int32) &&& (1073741823 : Int32) := ⟨_, rfl⟩
  have h_5 : v_3.toInt = v_1.toInt % 2 ^ 30 := by rw [e_4]; exact Jvm.Kit.i32_mask _ _ (k := 30) (by decide) (by decide)
  refine k_iand (v := v_3) C e_4.symm dX12_multiply_8 ?_
  obtain ⟨v_6, e_7⟩ : ∃ z, z = (v_3 : Int32).toInt64 := ⟨_, rfl⟩
  have h_8 : v_6.toInt = v_3.toInt := by rw [e_7]; exact Jvm.Kit.i64_of_i32 _
  refine lv_i2l (v := v_6) C.1 C.2.1 dX12_multiply_9 e_7.symm ?_
  refine lv_iload_n C.1 C.2.1 dX12_multiply_10 rfl (lv_at hl 1 rfl) ?_
  refine lv_ldc (v := 1073741823) C.1 C.2.1 C.2.2.2.1 (C.2.2.2.2.1 _ m_36_12) dX12_multiply_11 ?_
  obtain ⟨v_9, e_10⟩ : ∃ z, z = (x1 : Int32) &&& (1073741823 : Int32) := ⟨_, rfl⟩
  have h_11 : v_9.toInt = x1.toInt % 2 ^ 30 := by rw [e_10]; exact Jvm.Kit.i32_mask _ _ (k := 30) (by decide) (by decide)
  refine k_iand (v := v_9) C e_10.symm dX12_multiply_13 ?_
  obtain ⟨v_12, e_13⟩ : ∃ z, z = (v_9 : Int32).toInt64 := ⟨_, rfl⟩
  have h_14 : v_12.toInt = v_9.toInt := by rw [e_13]; exact Jvm.Kit.i64_of_i32 _
  refine lv_i2l (v := v_12) C.1 C.2.1 dX12_multiply_14 e_13.symm ?_
  obtain ⟨v_15, e_16⟩ : ∃ z, z = (v_6 : Int64) * (v_12 : Int64) := ⟨_, rfl⟩
  refine k_lmul (v := v_15) C e_16.symm dX12_multiply_15 ?_
  refine lv_lstore_n (lv' := [(2, .long v_15), (0, .ref (ad 0)), (1, .int x1)]) C.1 C.2.1 dX12_multiply_16 rfl hl (by decide) rfl (fun ls hl => ?_)
  have hl : lv_has ls 5 [(0, .ref (ad 0)), (1, .int x1), (2, .long v_15)] := lv_sub hl [1, 2, 0] rfl
  refine lv_aload_n C.1 C.2.1 dX12_multiply_17 rfl (lv_at hl 0 rfl) ?_
  refine k_get (v := .ref (ad 3)) C hP 0 rfl rfl inlX12 4 (by decide) m_7_6 rfl dX12_multiply_18 ?_
  refine lv_iconst (v := 0) C.1 C.2.1 dX12_multiply_21 (by decide) ?_
  obtain ⟨v_17, e_18⟩ : ∃ z, z = (t.2.2.1 3 (0 : Int32).toNatClampNeg) := ⟨_, rfl⟩
  refine k_ild (v := v_17) C hP 3 rfl (vin (by decide)) e_18.symm dX12_multiply_22 ?_
  refine lv_iload_n C.1 C.2.1 dX12_multiply_23 rfl (lv_at hl 1 rfl) ?_
  obtain ⟨v_19, e_20⟩ : ∃ z, z = (v_17 : Int32) ^^^ (x1 : Int32) := ⟨_, rfl⟩
  refine k_ixor (v := v_19) C e_20.symm dX12_multiply_24 ?_
  refine lv_ldc (v := 1073741824) C.1 C.2.1 C.2.2.2.1 (C.2.2.2.2.1 _ m_34_19) dX12_multiply_25 ?_
  obtain ⟨v_22, e_23⟩ : ∃ z, z = (v_19 : Int32) &&& (1073741824 : Int32) := ⟨_, rfl⟩
  have h_24 : (0 : Int) ≤ v_22.toInt ∧ v_22.toInt ≤ 1073741824 := by rw [e_23]; exact z_and _ (k := 1073741824) (by decide) (by decide)
  refine k_iand (v := v_22) C e_23.symm dX12_multiply_27 ?_
  refine lv_istore (lv' := [(4, .int v_22), (0, .ref (ad 0)), (1, .int x1), (2, .long v_15)]) C.1 C.2.1 dX12_multiply_28 hl (by decide) rfl (fun ls hl => ?_)
  have hl : lv_has ls 5 [(0, .ref (ad 0)), (1, .int x1), (2, .long v_15), (4, .int v_22)] := lv_sub hl [1, 2, 3, 0] rfl
  refine lv_aload_n C.1 C.2.1 dX12_multiply_30 rfl (lv_at hl 0 rfl) ?_
  refine k_get (v := .ref (ad 3)) C hP 0 rfl rfl inlX12 4 (by decide) m_7_6 rfl dX12_multiply_31 ?_
  refine lv_iconst (v := 0) C.1 C.2.1 dX12_multiply_34 (by decide) ?_
  refine lv_iload C.1 C.2.1 dX12_multiply_35 (lv_at hl 3 rfl) ?_
  refine lv_lload_n C.1 C.2.1 dX12_multiply_37 rfl (lv_at hl 2 rfl) ?_
  refine lv_bipush (v := 30) C.1 C.2.1 dX12_multiply_38 (by decide) ?_
  obtain ⟨v_25, e_26⟩ : ∃ z, z = (v_15 : Int64) >>> ((30 : Int32).toInt64 &&& 63) := ⟨_, rfl⟩
  refine lv_lshr (v := v_25) C.1 C.2.1 dX12_multiply_40 e_26.symm ?_
  obtain ⟨v_27, e_28⟩ : ∃ z, z = (v_25).toInt32 := ⟨_, rfl⟩
  refine lv_l2i (v := v_27) C.1 C.2.1 dX12_multiply_41 e_28.symm ?_
  obtain ⟨v_29, e_30⟩ : ∃ z, z = (v_22 : Int32) ||| (v_27 : Int32) := ⟨_, rfl⟩
  refine k_ior (v := v_29) C e_30.symm dX12_multiply_42 ?_
  refine k_ist (ws' := WM K ad (uB t 3 (0 : Int32).toNatClampNeg v_29)) (x' := v_29) C hP hD hS 3 rfl (vin (by decide)) rfl rfl rfl dX12_multiply_43 (fun H locs hP hD hS => ?_)
  have hok : okM (uB t 3 (0 : Int32).toNatClampNeg v_29) := ⟨hok.1, okB_B hok.2.1 3 _ v_29 (show (-2147483648 : Int) ≤ (v_29 : Int32).toInt ∧ (v_29 : Int32).toInt ≤ 2147483647 from (i_rng _)), hok.2.2.1, hok.2.2.2.1, hok.2.2.2.2.1, hok.2.2.2.2.2.1, hok.2.2.2.2.2.2.1, trivial⟩
  have hfr : frA [] [] [3] [] t (uB t 3 (0 : Int32).toNatClampNeg v_29) := frA_B hfr 3 _ _ rfl
  refine lv_aload_n C.1 C.2.1 dX12_multiply_44 rfl (lv_at hl 0 rfl) ?_
  refine k_get (v := .ref (ad 3)) C hP 0 rfl rfl inlX12 4 (by decide) m_7_6 rfl dX12_multiply_45 ?_
  refine lv_bipush (v := 7) C.1 C.2.1 dX12_multiply_48 (by decide) ?_
  refine lv_iload C.1 C.2.1 dX12_multiply_50 (lv_at hl 3 rfl) ?_
  refine lv_lload_n C.1 C.2.1 dX12_multiply_52 rfl (lv_at hl 2 rfl) ?_
  refine lv_ldc2 (v := 1073741823) C.1 C.2.1 C.2.2.2.1 (C.2.2.2.2.1 _ m_36_3) dX12_multiply_53 ?_
  obtain ⟨v_32, e_33⟩ : ∃ z, z = (v_15 : Int64) &&& 1073741823 := ⟨_, rfl⟩
  have h_34 : v_32.toInt = v_15.toInt % 2 ^ 30 := by rw [e_33]; exact Jvm.Kit.i64_mask _ _ (k := 30) (by decide) (by decide)
  refine lw_land (v := v_32) C.1 C.2.1 dX12_multiply_56 e_33.symm ?_
  obtain ⟨v_35, e_36⟩ : ∃ z, z = (v_32).toInt32 := ⟨_, rfl⟩
  have h_37 : v_35.toInt = v_32.toInt := by rw [e_36]; exact Jvm.Kit.i32_of_i64 (by show (_ : Int) ≤ v_32.toInt; omega) (by show v_32.toInt < (_ : Int); omega)
  refine lv_l2i (v := v_35) C.1 C.2.1 dX12_multiply_57 e_36.symm ?_
  obtain ⟨v_38, e_39⟩ : ∃ z, z = (v_22 : Int32) ||| (v_35 : Int32) := ⟨_, rfl⟩
  have h_40 : (0 : Int) ≤ v_38.toInt ∧ v_38.toInt ≤ 2147483647 := by rw [e_39]; exact z_or (k := 31) (by decide) (by show (0 : Int) ≤ v_22.toInt; omega) (by show v_22.toInt < (_ : Int); omega) (by show (0 : Int) ≤ v_35.toInt; omega) (by show v_35.toInt < (_ : Int); omega)
  refine k_ior (v := v_38) C e_39.symm dX12_multiply_58 ?_
  refine k_ist (ws' := WM K ad (uB (uB t 3 (0 : Int32).toNatClampNeg v_29) 3 (7 : Int32).toNatClampNeg v_38)) (x' := v_38) C hP hD hS 3 rfl (vin (by decide)) rfl rfl rfl dX12_multiply_59 (fun H locs hP hD hS => ?_)
  have hok : okM (uB (uB t 3 (0 : Int32).toNatClampNeg v_29) 3 (7 : Int32).toNatClampNeg v_38) := ⟨hok.1, okB_B hok.2.1 3 _ v_38 (show (-2147483648 : Int) ≤ (v_38 : Int32).toInt ∧ (v_38 : Int32).toInt ≤ 2147483647 from (i_rng _)), hok.2.2.1, hok.2.2.2.1, hok.2.2.2.2.1, hok.2.2.2.2.2.1, hok.2.2.2.2.2.2.1, trivial⟩
  have hfr : frA [] [] [3] [] t (uB (uB t 3 (0 : Int32).toNatClampNeg v_29) 3 (7 : Int32).toNatClampNeg v_38) := frA_B hfr 3 _ _ rfl
  exact g_vret C hr hlocks hP hD hS (uB (uB t 3 (0 : Int32).toNatClampNeg v_29) 3 (7 : Int32).toNatClampNeg v_38) rfl ⟨hok, hfr⟩ (Nat.le_of_ble_eq_true rfl) (Nat.le_of_ble_eq_true rfl) dX12_multiply_60

theorem dX12_divide_0 : decode cX12_divide 0 = .ok (.iload_n 1, 1) := by decide +kernel
theorem dX12_divide_1 : decode cX12_divide 1 = .ok (.ldc 159, 2) := by decide +kernel
theorem dX12_divide_100 : decode cX12_divide 100 = .ok (.iload 6, 2) := by decide +kernel
theorem dX12_divide_102 : decode cX12_divide 102 = .ok (.lload 4, 2) := by decide +kernel
theorem dX12_divide_104 : decode cX12_divide 104 = .ok (.lload_n 2, 1) := by decide +kernel
theorem dX12_divide_105 : decode cX12_divide 105 = .ok (.lrem, 1) := by decide +kernel
theorem dX12_divide_106 : decode cX12_divide 106 = .ok (.l2i, 1) := by decide +kernel
theorem dX12_divide_107 : decode cX12_divide 107 = .ok (.ior, 1) := by decide +kernel
theorem dX12_divide_108 : decode cX12_divide 108 = .ok (.iastore, 1) := by decide +kernel
theorem dX12_divide_109 : decode cX12_divide 109 = .ok (.return_, 1) := by decide +kernel
theorem dX12_divide_12 : decode cX12_divide 12 = .ok (.aload_n 0, 1) := by decide +kernel
theorem dX12_divide_13 : decode cX12_divide 13 = .ok (.getfield 17, 3) := by decide +kernel
theorem dX12_divide_16 : decode cX12_divide 16 = .ok (.iconst 0, 1) := by decide +kernel
theorem dX12_divide_17 : decode cX12_divide 17 = .ok (.iaload, 1) := by decide +kernel
theorem dX12_divide_18 : decode cX12_divide 18 = .ok (.ldc 159, 2) := by decide +kernel
theorem dX12_divide_20 : decode cX12_divide 20 = .ok (.iand, 1) := by decide +kernel
theorem dX12_divide_21 : decode cX12_divide 21 = .ok (.i2l, 1) := by decide +kernel
theorem dX12_divide_22 : decode cX12_divide 22 = .ok (.lload_n 2, 1) := by decide +kernel
theorem dX12_divide_23 : decode cX12_divide 23 = .ok (.lcmp, 1) := by decide +kernel
theorem dX12_divide_24 : decode cX12_divide 24 = .ok (.ifCond .lt 9, 3) := by decide +kernel
theorem dX12_divide_27 : decode cX12_divide 27 = .ok (.aload_n 0, 1) := by decide +kernel
theorem dX12_divide_28 : decode cX12_divide 28 = .ok (.iconst 1, 1) := by decide +kernel
theorem dX12_divide_29 : decode cX12_divide 29 = .ok (.putfield 314, 3) := by decide +kernel
theorem dX12_divide_3 : decode cX12_divide 3 = .ok (.iand, 1) := by decide +kernel
theorem dX12_divide_32 : decode cX12_divide 32 = .ok (.return_, 1) := by decide +kernel
theorem dX12_divide_33 : decode cX12_divide 33 = .ok (.aload_n 0, 1) := by decide +kernel
theorem dX12_divide_34 : decode cX12_divide 34 = .ok (.getfield 17, 3) := by decide +kernel
theorem dX12_divide_37 : decode cX12_divide 37 = .ok (.iconst 0, 1) := by decide +kernel
theorem dX12_divide_38 : decode cX12_divide 38 = .ok (.iaload, 1) := by decide +kernel
theorem dX12_divide_39 : decode cX12_divide 39 = .ok (.ldc 159, 2) := by decide +kernel
theorem dX12_divide_4 : decode cX12_divide 4 = .ok (.i2l, 1) := by decide +kernel
theorem dX12_divide_41 : decode cX12_divide 41 = .ok (.iand, 1) := by decide +kernel
theorem dX12_divide_42 : decode cX12_divide 42 = .ok (.i2l, 1) := by decide +kernel
theorem dX12_divide_43 : decode cX12_divide 43 = .ok (.bipush 30, 2) := by decide +kernel
theorem dX12_divide_45 : decode cX12_divide 45 = .ok (.lshl, 1) := by decide +kernel
theorem dX12_divide_46 : decode cX12_divide 46 = .ok (.aload_n 0, 1) := by decide +kernel
theorem dX12_divide_47 : decode cX12_divide 47 = .ok (.getfield 17, 3) := by decide +kernel
theorem dX12_divide_5 : decode cX12_divide 5 = .ok (.lstore_n 2, 1) := by decide +kernel
theorem dX12_divide_50 : decode cX12_divide 50 = .ok (.bipush 7, 2) := by decide +kernel
theorem dX12_divide_52 : decode cX12_divide 52 = .ok (.iaload, 1) := by decide +kernel
theorem dX12_divide_53 : decode cX12_divide 53 = .ok (.ldc 159, 2) := by decide +kernel
theorem dX12_divide_55 : decode cX12_divide 55 = .ok (.iand, 1) := by decide +kernel
theorem dX12_divide_56 : decode cX12_divide 56 = .ok (.i2l, 1) := by decide +kernel
theorem dX12_divide_57 : decode cX12_divide 57 = .ok (.lor, 1) := by decide +kernel
theorem dX12_divide_58 : decode cX12_divide 58 = .ok (.lstore 4, 2) := by decide +kernel
theorem dX12_divide_6 : decode cX12_divide 6 = .ok (.lload_n 2, 1) := by decide +kernel
theorem dX12_divide_60 : decode cX12_divide 60 = .ok (.aload_n 0, 1) := by decide +kernel
theorem dX12_divide_61 : decode cX12_divide 61 = .ok (.getfield 17, 3) := by decide +kernel
theorem dX12_divide_64 : decode cX12_divide 64 = .ok (.iconst 0, 1) := by decide +kernel
theorem dX12_divide_65 : decode cX12_divide 65 = .ok (.iaload, 1) := by decide +kernel
theorem dX12_divide_66 : decode cX12_divide 66 = .ok (.ldc 158, 2) := by decide +kernel
theorem dX12_divide_68 : decode cX12_divide 68 = .ok (.iand, 1) := by decide +kernel
theorem dX12_divide_69 : decode cX12_divide 69 = .ok (.istore 6, 2) := by decide +kernel
theorem dX12_divide_7 : decode cX12_divide 7 = .ok (.lconst 0, 1) := by decide +kernel
theorem dX12_divide_71 : decode cX12_divide 71 = .ok (.aload_n 0, 1) := by decide +kernel
theorem dX12_divide_72 : decode cX12_divide 72 = .ok (.getfield 17, 3) := by decide +kernel
theorem dX12_divide_75 : decode cX12_divide 75 = .ok (.iconst 0, 1) := by decide +kernel
theorem dX12_divide_76 : decode cX12_divide 76 = .ok (.aload_n 0, 1) := by decide +kernel
theorem dX12_divide_77 : decode cX12_divide 77 = .ok (.getfield 17, 3) := by decide +kernel
theorem dX12_divide_8 : decode cX12_divide 8 = .ok (.lcmp, 1) := by decide +kernel
theorem dX12_divide_80 : decode cX12_divide 80 = .ok (.iconst 0, 1) := by decide +kernel
theorem dX12_divide_81 : decode cX12_divide 81 = .ok (.iaload, 1) := by decide +kernel
theorem dX12_divide_82 : decode cX12_divide 82 = .ok (.iload_n 1, 1) := by decide +kernel
theorem dX12_divide_83 : decode cX12_divide 83 = .ok (.ixor, 1) := by decide +kernel
theorem dX12_divide_84 : decode cX12_divide 84 = .ok (.ldc 158, 2) := by decide +kernel
theorem dX12_divide_86 : decode cX12_divide 86 = .ok (.iand, 1) := by decide +kernel
theorem dX12_divide_87 : decode cX12_divide 87 = .ok (.lload 4, 2) := by decide +kernel
theorem dX12_divide_89 : decode cX12_divide 89 = .ok (.lload_n 2, 1) := by decide +kernel
theorem dX12_divide_9 : decode cX12_divide 9 = .ok (.ifCond .eq 18, 3) := by decide +kernel
theorem dX12_divide_90 : decode cX12_divide 90 = .ok (.ldiv, 1) := by decide +kernel
theorem dX12_divide_91 : decode cX12_divide 91 = .ok (.l2i, 1) := by decide +kernel
theorem dX12_divide_92 : decode cX12_divide 92 = .ok (.ior, 1) := by decide +kernel
theorem dX12_divide_93 : decode cX12_divide 93 = .ok (.iastore, 1) := by decide +kernel
theorem dX12_divide_94 : decode cX12_divide 94 = .ok (.aload_n 0, 1) := by decide +kernel
theorem dX12_divide_95 : decode cX12_divide 95 = .ok (.getfield 17, 3) := by decide +kernel
theorem dX12_divide_98 : decode cX12_divide 98 = .ok (.bipush 7, 2) := by decide +kernel
set_option maxHeartbeats 4000000 in
set_option maxRecDepth 100000 in
theorem T_X12_divide (l : Launch) (D : va_G) (K : Nat → ClassId) (Z Y : Nat → Nat) (ad : Nat → Nat) (t : tSt) (hok : okM t) (x1 : Int32) (hx1 : (0 : Int) ≤ x1.toInt ∧ x1.toInt ≤ 2147483647) : tMet l yX12_divide cX12_divide 7 none (rmD 0 0 0) D K Z Y [.ref (ad 0), .int x1] (WM K ad t) (QV D K (fun (u : tSt) => okM u ∧ frA [(0, 5)] [] [3] [] t u) (fun (u : tSt) => WM K ad u)) 0 0 := by
  refine t_met RX12 ⟨rfl, by decide +kernel⟩ (Nat.le_of_ble_eq_true rfl) ?_
  intro p e s m below meth c A ls C hE hZ hr hlocks hA hP hD hS hl
  have hl : lv_has ls 7 [(0, .ref (ad 0)), (1, .int x1)] := hl
  have hokt := hok
  have hfr : frA [(0, 5)] [] [3] [] t t := frA_rf
  refine lv_iload_n C.1 C.2.1 dX12_divide_0 rfl (lv_at hl 1 rfl) ?_
  refine lv_ldc (v := 1073741823) C.1 C.2.1 C.2.2.2.1 (C.2.2.2.2.1 _ m_36_12) dX12_divide_1 ?_
  obtain ⟨v_1, e_2⟩ : ∃ z, z = (x1 : Int32) &&& (1073741823 : Int32) := ⟨_, rfl⟩
  have h_3 : v_1.toInt = x1.toInt % 2 ^ 30 := by rw [e_2]; exact Jvm.Kit.i32_mask _ _ (k := 30) (by decide) (by decide)
  refine k_iand (v := v_1) C e_2.symm dX12_divide_3 ?_
  obtain ⟨v_4, e_5⟩ : ∃ z, z = (v_1 : Int32).toInt64 := ⟨_, rfl⟩
  have h_6 : v_4.toInt = v_1.toInt := by rw [e_5]; exact Jvm.Kit.i64_of_i32 _
  refine lv_i2l (v := v_4) C.1 C.2.1 dX12_divide_4 e_5.symm ?_
  refine lv_lstore_n (lv' := [(2, .long v_4), (0, .ref (ad 0)), (1, .int x1)]) C.1 C.2.1 dX12_divide_5 rfl hl (by decide) rfl (fun ls hl => ?_)
  have hl : lv_has ls 7 [(0, .ref (ad 0)), (1, .int x1), (2, .long v_4)] := lv_sub hl [1, 2, 0] rfl
  refine lv_lload_n C.1 C.2.1 dX12_divide_6 rfl (lv_at hl 2 rfl) ?_
  refine lv_lconst (v := 0) C.1 C.2.1 dX12_divide_7 (by decide) ?_
  obtain ⟨v_7, e_8⟩ : ∃ z, z = lg_cmp (v_4 : Int64) 0 := ⟨_, rfl⟩
  have h_9 : (-1 : Int) ≤ v_7.toInt ∧ v_7.toInt ≤ 1 := by rw [e_8]; exact cmp_rng _ _
  have h_10 : (v_7.toInt < 0 ↔ v_4.toInt < 0) ∧ (v_7.toInt = 0 ↔ v_4.toInt = 0) := by rw [e_8]; exact cmp_iff _ _
  refine k_lcmp (v := v_7) C e_8.symm dX12_divide_8 ?_
  refine lv_if_eq (tgt := 27) C.1 C.2.1 dX12_divide_9 (by decide) (fun c_11 => ?_) (fun c_11 => ?_)
  · replace c_11 : v_7.toInt = 0 := i_eq c_11
    refine lv_aload_n C.1 C.2.1 dX12_divide_27 rfl (lv_at hl 0 rfl) ?_
    refine lv_iconst (v := 1) C.1 C.2.1 dX12_divide_28 (by decide) ?_
    refine k_put (ws' := WM K ad (uI t 0 5 1)) (v := .int 1) C hP hD hS 0 rfl rfl inlX12 tyX12_ok nmX12 5 (by decide) m_29_21 rfl (by decide) (by decide) rfl rfl dX12_divide_29 (fun H locs hP hD hS => ?_)
    have hok : okM (uI t 0 5 1) := ⟨okI_I hok.1 0 5 1 (show (0 : Int) ≤ (1 : Int32).toInt ∧ (1 : Int32).toInt ≤ 1 from ⟨by decide, by decide⟩), hok.2.1, hok.2.2.1, hok.2.2.2.1, hok.2.2.2.2.1, hok.2.2.2.2.2.1, hok.2.2.2.2.2.2.1, trivial⟩
    have hfr : frA [(0, 5)] [] [3] [] t (uI t 0 5 1) := frA_I hfr 0 5 _ rfl
    exact g_vret C hr hlocks hP hD hS (uI t 0 5 1) rfl ⟨hok, hfr⟩ (Nat.le_of_ble_eq_true rfl) (Nat.le_of_ble_eq_true rfl) dX12_divide_32
  · replace c_11 : ¬ v_7.toInt = 0 := i_ne c_11
    refine lv_aload_n C.1 C.2.1 dX12_divide_12 rfl (lv_at hl 0 rfl) ?_
    refine k_get (v := .ref (ad 3)) C hP 0 rfl rfl inlX12 4 (by decide) m_7_6 rfl dX12_divide_13 ?_
    refine lv_iconst (v := 0) C.1 C.2.1 dX12_divide_16 (by decide) ?_
    obtain ⟨v_12, e_13⟩ : ∃ z, z = (t.2.2.1 3 (0 : Int32).toNatClampNeg) := ⟨_, rfl⟩
    refine k_ild (v := v_12) C hP 3 rfl (vin (by decide)) e_13.symm dX12_divide_17 ?_
    refine lv_ldc (v := 1073741823) C.1 C.2.1 C.2.2.2.1 (C.2.2.2.2.1 _ m_36_12) dX12_divide_18 ?_
    obtain ⟨v_14, e_15⟩ : ∃ z, z = (v_12 : Int32) &&& (1073741823 : Int32) := ⟨_, rfl⟩
    have h_16 : v_14.toInt = v_12.toInt % 2 ^ 30 := by rw [e_15]; exact Jvm.Kit.i32_mask _ _ (k := 30) (by decide) (by decide)
    refine k_iand (v := v_14) C e_15.symm dX12_divide_20 ?_
    obtain ⟨v_17, e_18⟩ : ∃ z, z = (v_14 : Int32).toInt64 := ⟨_, rfl⟩
    have h_19 : v_17.toInt = v_14.toInt := by rw [e_18]; exact Jvm.Kit.i64_of_i32 _
    refine lv_i2l (v := v_17) C.1 C.2.1 dX12_divide_21 e_18.symm ?_
    refine lv_lload_n C.1 C.2.1 dX12_divide_22 rfl (lv_at hl 2 rfl) ?_
    obtain ⟨v_20, e_21⟩ : ∃ z, z = lg_cmp (v_17 : Int64) v_4 := ⟨_, rfl⟩
    have h_22 : (-1 : Int) ≤ v_20.toInt ∧ v_20.toInt ≤ 1 := by rw [e_21]; exact cmp_rng _ _
    have h_23 : (v_20.toInt < 0 ↔ v_17.toInt < v_4.toInt) ∧ (v_20.toInt = 0 ↔ v_17.toInt = v_4.toInt) := by rw [e_21]; exact cmp_iff _ _
    refine k_lcmp (v := v_20) C e_21.symm dX12_divide_23 ?_
    refine lv_if_lt (tgt := 33) C.1 C.2.1 dX12_divide_24 (by decide) (fun c_24 => ?_) (fun c_24 => ?_)
    · replace c_24 : v_20.toInt < 0 := i_lt c_24
      refine lv_aload_n C.1 C.2.1 dX12_divide_33 rfl (lv_at hl 0 rfl) ?_
      refine k_get (v := .ref (ad 3)) C hP 0 rfl rfl inlX12 4 (by decide) m_7_6 rfl dX12_divide_34 ?_
      refine lv_iconst (v := 0) C.1 C.2.1 dX12_divide_37 (by decide) ?_
      obtain ⟨v_25, e_26⟩ : ∃ z, z = (t.2.2.1 3 (0 : Int32).toNatClampNeg) := ⟨_, rfl⟩
      refine k_ild (v := v_25) C hP 3 rfl (vin (by decide)) e_26.symm dX12_divide_38 ?_
      refine lv_ldc (v := 1073741823) C.1 C.2.1 C.2.2.2.1 (C.2.2.2.2.1 _ m_36_12) dX12_divide_39 ?_
      obtain ⟨v_27, e_28⟩ : ∃ z, z = (v_25 : Int32) &&& (1073741823 : Int32) := ⟨_, rfl⟩
      have h_29 : v_27.toInt = v_25.toInt % 2 ^ 30 := by rw [e_28]; exact Jvm.Kit.i32_mask _ _ (k := 30) (by decide) (by decide)
      refine k_iand (v := v_27) C e_28.symm dX12_divide_41 ?_
      obtain ⟨v_30, e_31⟩ : ∃ z, z = (v_27 : Int32).toInt64 := ⟨_, rfl⟩
      have h_32 : v_30.toInt = v_27.toInt := by rw [e_31]; exact Jvm.Kit.i64_of_i32 _
      refine lv_i2l (v := v_30) C.1 C.2.1 dX12_divide_42 e_31.symm ?_
      refine lv_bipush (v := 30) C.1 C.2.1 dX12_divide_43 (by decide) ?_
      obtain ⟨v_33, e_34⟩ : ∃ z, z = (v_30 : Int64) <<< ((30 : Int32).toInt64 &&& 63) := ⟨_, rfl⟩
      refine lv_lshl (v := v_33) C.1 C.2.1 dX12_divide_45 e_34.symm ?_
      refine lv_aload_n C.1 C.2.1 dX12_divide_46 rfl (lv_at hl 0 rfl) ?_
      refine k_get (v := .ref (ad 3)) C hP 0 rfl rfl inlX12 4 (by decide) m_7_6 rfl dX12_divide_47 ?_
      refine lv_bipush (v := 7) C.1 C.2.1 dX12_divide_50 (by decide) ?_
      obtain ⟨v_35, e_36⟩ : ∃ z, z = (t.2.2.1 3 (7 : Int32).toNatClampNeg) := ⟨_, rfl⟩
      refine k_ild (v := v_35) C hP 3 rfl (vin (by decide)) e_36.symm dX12_divide_52 ?_
      refine lv_ldc (v := 1073741823) C.1 C.2.1 C.2.2.2.1 (C.2.2.2.2.1 _ m_36_12) dX12_divide_53 ?_
      obtain ⟨v_37, e_38⟩ : ∃ z, z = (v_35 : Int32) &&& (1073741823 : Int32) := ⟨_, rfl⟩
      have h_39 : v_37.toInt = v_35.toInt % 2 ^ 30 := by rw [e_38]; exact Jvm.Kit.i32_mask _ _ (k := 30) (by decide) (by decide)
      refine k_iand (v := v_37) C e_38.symm dX12_divide_55 ?_
      obtain ⟨v_40, e_41⟩ : ∃ z, z = (v_37 : Int32).toInt64 := ⟨_, rfl⟩
      have h_42 : v_40.toInt = v_37.toInt := by rw [e_41]; exact Jvm.Kit.i64_of_i32 _
      refine lv_i2l (v := v_40) C.1 C.2.1 dX12_divide_56 e_41.symm ?_
      obtain ⟨v_43, e_44⟩ : ∃ z, z = (v_33 : Int64) ||| v_40 := ⟨_, rfl⟩
      refine lw_lor (v := v_43) C.1 C.2.1 dX12_divide_57 e_44.symm ?_
      refine lv_lstore (lv' := [(4, .long v_43), (0, .ref (ad 0)), (1, .int x1), (2, .long v_4)]) C.1 C.2.1 dX12_divide_58 hl (by decide) rfl (fun ls hl => ?_)
      have hl : lv_has ls 7 [(0, .ref (ad 0)), (1, .int x1), (2, .long v_4), (4, .long v_43)] := lv_sub hl [1, 2, 3, 0] rfl
      refine lv_aload_n C.1 C.2.1 dX12_divide_60 rfl (lv_at hl 0 rfl) ?_
      refine k_get (v := .ref (ad 3)) C hP 0 rfl rfl inlX12 4 (by decide) m_7_6 rfl dX12_divide_61 ?_
      refine lv_iconst (v := 0) C.1 C.2.1 dX12_divide_64 (by decide) ?_
      obtain ⟨v_45, e_46⟩ : ∃ z, z = (t.2.2.1 3 (0 : Int32).toNatClampNeg) := ⟨_, rfl⟩
      refine k_ild (v := v_45) C hP 3 rfl (vin (by decide)) e_46.symm dX12_divide_65 ?_
      refine lv_ldc (v := 1073741824) C.1 C.2.1 C.2.2.2.1 (C.2.2.2.2.1 _ m_34_19) dX12_divide_66 ?_
      obtain ⟨v_47, e_48⟩ : ∃ z, z = (v_45 : Int32) &&& (1073741824 : Int32) := ⟨_, rfl⟩
      have h_49 : (0 : Int) ≤ v_47.toInt ∧ v_47.toInt ≤ 1073741824 := by rw [e_48]; exact z_and _ (k := 1073741824) (by decide) (by decide)
      refine k_iand (v := v_47) C e_48.symm dX12_divide_68 ?_
      refine lv_istore (lv' := [(6, .int v_47), (0, .ref (ad 0)), (1, .int x1), (2, .long v_4), (4, .long v_43)]) C.1 C.2.1 dX12_divide_69 hl (by decide) rfl (fun ls hl => ?_)
      have hl : lv_has ls 7 [(0, .ref (ad 0)), (1, .int x1), (2, .long v_4), (4, .long v_43), (6, .int v_47)] := lv_sub hl [1, 2, 3, 4, 0] rfl
      refine lv_aload_n C.1 C.2.1 dX12_divide_71 rfl (lv_at hl 0 rfl) ?_
      refine k_get (v := .ref (ad 3)) C hP 0 rfl rfl inlX12 4 (by decide) m_7_6 rfl dX12_divide_72 ?_
      refine lv_iconst (v := 0) C.1 C.2.1 dX12_divide_75 (by decide) ?_
      refine lv_aload_n C.1 C.2.1 dX12_divide_76 rfl (lv_at hl 0 rfl) ?_
      refine k_get (v := .ref (ad 3)) C hP 0 rfl rfl inlX12 4 (by decide) m_7_6 rfl dX12_divide_77 ?_
      refine lv_iconst (v := 0) C.1 C.2.1 dX12_divide_80 (by decide) ?_
      obtain ⟨v_50, e_51⟩ : ∃ z, z = (t.2.2.1 3 (0 : Int32).toNatClampNeg) := ⟨_, rfl⟩
      refine k_ild (v := v_50) C hP 3 rfl (vin (by decide)) e_51.symm dX12_divide_81 ?_
      refine lv_iload_n C.1 C.2.1 dX12_divide_82 rfl (lv_at hl 1 rfl) ?_
      obtain ⟨v_52, e_53⟩ : ∃ z, z = (v_50 : Int32) ^^^ (x1 : Int32) := ⟨_, rfl⟩
      refine k_ixor (v := v_52) C e_53.symm dX12_divide_83 ?_
      refine lv_ldc (v := 1073741824) C.1 C.2.1 C.2.2.2.1 (C.2.2.2.2.1 _ m_34_19) dX12_divide_84 ?_
      obtain ⟨v_55, e_56⟩ : ∃ z, z = (v_52 : Int32) &&& (1073741824 : Int32) := ⟨_, rfl⟩
      have h_57 : (0 : Int) ≤ v_55.toInt ∧ v_55.toInt ≤ 1073741824 := by rw [e_56]; exact z_and _ (k := 1073741824) (by decide) (by decide)
      refine k_iand (v := v_55) C e_56.symm dX12_divide_86 ?_
      refine lv_lload C.1 C.2.1 dX12_divide_87 (lv_at hl 3 rfl) ?_
      refine lv_lload_n C.1 C.2.1 dX12_divide_89 rfl (lv_at hl 2 rfl) ?_
      obtain ⟨v_58, e_59⟩ : ∃ z, z = (v_43 : Int64) / (v_4 : Int64) := ⟨_, rfl⟩
      refine k_ldiv (v := v_58) C (show ¬ (v_4 : Int64) = 0 from fun hz => by have hz2 : (v_4 : Int64).toInt = 0 := (by rw [hz]; rfl); omega) e_59.symm dX12_divide_90 ?_
      obtain ⟨v_60, e_61⟩ : ∃ z, z = (v_58).toInt32 := ⟨_, rfl⟩
      refine lv_l2i (v := v_60) C.1 C.2.1 dX12_divide_91 e_61.symm ?_
      obtain ⟨v_62, e_63⟩ : ∃ z, z = (v_55 : Int32) ||| (v_60 : Int32) := ⟨_, rfl⟩
      refine k_ior (v := v_62) C e_63.symm dX12_divide_92 ?_
      refine k_ist (ws' := WM K ad (uB t 3 (0 : Int32).toNatClampNeg v_62)) (x' := v_62) C hP hD hS 3 rfl (vin (by decide)) rfl rfl rfl dX12_divide_93 (fun H locs hP hD hS => ?_)
      have hok : okM (uB t 3 (0 : Int32).toNatClampNeg v_62) := ⟨hok.1, okB_B hok.2.1 3 _ v_62 (show (-2147483648 : Int) ≤ (v_62 : Int32).toInt ∧ (v_62 : Int32).toInt ≤ 2147483647 from (i_rng _)), hok.2.2.1, hok.2.2.2.1, hok.2.2.2.2.1, hok.2.2.2.2.2.1, hok.2.2.2.2.2.2.1, trivial⟩
      have hfr : frA [(0, 5)] [] [3] [] t (uB t 3 (0 : Int32).toNatClampNeg v_62) := frA_B hfr 3 _ _ rfl
      refine lv_aload_n C.1 C.2.1 dX12_divide_94 rfl (lv_at hl 0 rfl) ?_
      refine k_get (v := .ref (ad 3)) C hP 0 rfl rfl inlX12 4 (by decide) m_7_6 rfl dX12_divide_95 ?_
      refine lv_bipush (v := 7) C.1 C.2.1 dX12_divide_98 (by decide) ?_
      refine lv_iload C.1 C.2.1 dX12_divide_100 (lv_at hl 4 rfl) ?_
      refine lv_lload C.1 C.2.1 dX12_divide_102 (lv_at hl 3 rfl) ?_
      refine lv_lload_n C.1 C.2.1 dX12_divide_104 rfl (lv_at hl 2 rfl) ?_
      obtain ⟨v_65, e_66⟩ : ∃ z, z = (v_43 : Int64) - (v_43 : Int64) / (v_4 : Int64) * (v_4 : Int64) := ⟨_, rfl⟩
      refine k_lrem (v := v_65) C (show ¬ (v_4 : Int64) = 0 from fun hz => by have hz2 : (v_4 : Int64).toInt = 0 := (by rw [hz]; rfl); omega) e_66.symm dX12_divide_105 ?_
      obtain ⟨v_67, e_68⟩ : ∃ z, z = (v_65).toInt32 := ⟨_, rfl⟩
      refine lv_l2i (v := v_67) C.1 C.2.1 dX12_divide_106 e_68.symm ?_
      obtain ⟨v_69, e_70⟩ : ∃ z, z = (v_47 : Int32) ||| (v_67 : Int32) := ⟨_, rfl⟩
      refine k_ior (v := v_69) C e_70.symm dX12_divide_107 ?_
      refine k_ist (ws' := WM K ad (uB (uB t 3 (0 : Int32).toNatClampNeg v_62) 3 (7 : Int32).toNatClampNeg v_69)) (x' := v_69) C hP hD hS 3 rfl (vin (by decide)) rfl rfl rfl dX12_divide_108 (fun H locs hP hD hS => ?_)
      have hok : okM (uB (uB t 3 (0 : Int32).toNatClampNeg v_62) 3 (7 : Int32).toNatClampNeg v_69) := ⟨hok.1, okB_B hok.2.1 3 _ v_69 (show (-2147483648 : Int) ≤ (v_69 : Int32).toInt ∧ (v_69 : Int32).toInt ≤ 2147483647 from (i_rng _)), hok.2.2.1, hok.2.2.2.1, hok.2.2.2.2.1, hok.2.2.2.2.2.1, hok.2.2.2.2.2.2.1, trivial⟩
      have hfr : frA [(0, 5)] [] [3] [] t (uB (uB t 3 (0 : Int32).toNatClampNeg v_62) 3 (7 : Int32).toNatClampNeg v_69) := frA_B hfr 3 _ _ rfl
      exact g_vret C hr hlocks hP hD hS (uB (uB t 3 (0 : Int32).toNatClampNeg v_62) 3 (7 : Int32).toNatClampNeg v_69) rfl ⟨hok, hfr⟩ (Nat.le_of_ble_eq_true rfl) (Nat.le_of_ble_eq_true rfl) dX12_divide_109
    · replace c_24 : 0 ≤ v_20.toInt := i_nlt c_24
      refine lv_aload_n C.1 C.2.1 dX12_divide_27 rfl (lv_at hl 0 rfl) ?_
      refine lv_iconst (v := 1) C.1 C.2.1 dX12_divide_28 (by decide) ?_
      refine k_put (ws' := WM K ad (uI t 0 5 1)) (v := .int 1) C hP hD hS 0 rfl rfl inlX12 tyX12_ok nmX12 5 (by decide) m_29_21 rfl (by decide) (by decide) rfl rfl dX12_divide_29 (fun H locs hP hD hS => ?_)
      have hok : okM (uI t 0 5 1) := ⟨okI_I hok.1 0 5 1 (show (0 : Int) ≤ (1 : Int32).toInt ∧ (1 : Int32).toInt ≤ 1 from ⟨by decide, by decide⟩), hok.2.1, hok.2.2.1, hok.2.2.2.1, hok.2.2.2.2.1, hok.2.2.2.2.2.1, hok.2.2.2.2.2.2.1, trivial⟩
      have hfr : frA [(0, 5)] [] [3] [] t (uI t 0 5 1) := frA_I hfr 0 5 _ rfl
      exact g_vret C hr hlocks hP hD hS (uI t 0 5 1) rfl ⟨hok, hfr⟩ (Nat.le_of_ble_eq_true rfl) (Nat.le_of_ble_eq_true rfl) dX12_divide_32

theorem dX12_shift_0 : decode cX12_shift 0 = .ok (.aload_n 0, 1) := by decide +kernel
theorem dX12_shift_1 : decode cX12_shift 1 = .ok (.getfield 289, 3) := by decide +kernel
theorem dX12_shift_100 : decode cX12_shift 100 = .ok (.iload_n 1, 1) := by decide +kernel
theorem dX12_shift_101 : decode cX12_shift 101 = .ok (.imul, 1) := by decide +kernel
theorem dX12_shift_102 : decode cX12_shift 102 = .ok (.lshl, 1) := by decide +kernel
theorem dX12_shift_103 : decode cX12_shift 103 = .ok (.lconst 1, 1) := by decide +kernel
theorem dX12_shift_104 : decode cX12_shift 104 = .ok (.lsub, 1) := by decide +kernel
theorem dX12_shift_105 : decode cX12_shift 105 = .ok (.lstore 5, 2) := by decide +kernel
theorem dX12_shift_107 : decode cX12_shift 107 = .ok (.iconst 0, 1) := by decide +kernel
theorem dX12_shift_108 : decode cX12_shift 108 = .ok (.istore 7, 2) := by decide +kernel
theorem dX12_shift_110 : decode cX12_shift 110 = .ok (.iload 7, 2) := by decide +kernel
theorem dX12_shift_112 : decode cX12_shift 112 = .ok (.iload_n 2, 1) := by decide +kernel
theorem dX12_shift_113 : decode cX12_shift 113 = .ok (.if_icmp .ge 92, 3) := by decide +kernel
theorem dX12_shift_116 : decode cX12_shift 116 = .ok (.lload_n 3, 1) := by decide +kernel
theorem dX12_shift_117 : decode cX12_shift 117 = .ok (.bipush 6, 2) := by decide +kernel
theorem dX12_shift_119 : decode cX12_shift 119 = .ok (.iload_n 1, 1) := by decide +kernel
theorem dX12_shift_12 : decode cX12_shift 12 = .ok (.bipush 10, 2) := by decide +kernel
theorem dX12_shift_120 : decode cX12_shift 120 = .ok (.iconst 1, 1) := by decide +kernel
theorem dX12_shift_121 : decode cX12_shift 121 = .ok (.isub, 1) := by decide +kernel
theorem dX12_shift_122 : decode cX12_shift 122 = .ok (.imul, 1) := by decide +kernel
theorem dX12_shift_123 : decode cX12_shift 123 = .ok (.lshr, 1) := by decide +kernel
theorem dX12_shift_124 : decode cX12_shift 124 = .ok (.ldc2_w 340, 3) := by decide +kernel
theorem dX12_shift_127 : decode cX12_shift 127 = .ok (.land, 1) := by decide +kernel
theorem dX12_shift_128 : decode cX12_shift 128 = .ok (.lstore 8, 2) := by decide +kernel
theorem dX12_shift_130 : decode cX12_shift 130 = .ok (.lload_n 3, 1) := by decide +kernel
theorem dX12_shift_131 : decode cX12_shift 131 = .ok (.ldc2_w 340, 3) := by decide +kernel
theorem dX12_shift_134 : decode cX12_shift 134 = .ok (.land, 1) := by decide +kernel
theorem dX12_shift_135 : decode cX12_shift 135 = .ok (.lstore 10, 2) := by decide +kernel
theorem dX12_shift_137 : decode cX12_shift 137 = .ok (.aload_n 0, 1) := by decide +kernel
theorem dX12_shift_138 : decode cX12_shift 138 = .ok (.getfield 289, 3) := by decide +kernel
theorem dX12_shift_14 : decode cX12_shift 14 = .ok (.istore_n 1, 1) := by decide +kernel
theorem dX12_shift_141 : decode cX12_shift 141 = .ok (.iconst 2, 1) := by decide +kernel
theorem dX12_shift_142 : decode cX12_shift 142 = .ok (.irem, 1) := by decide +kernel
theorem dX12_shift_143 : decode cX12_shift 143 = .ok (.ifCond .ne 29, 3) := by decide +kernel
theorem dX12_shift_146 : decode cX12_shift 146 = .ok (.lload_n 3, 1) := by decide +kernel
theorem dX12_shift_147 : decode cX12_shift 147 = .ok (.bipush 6, 2) := by decide +kernel
theorem dX12_shift_149 : decode cX12_shift 149 = .ok (.lshl, 1) := by decide +kernel
theorem dX12_shift_15 : decode cX12_shift 15 = .ok (.aload_n 0, 1) := by decide +kernel
theorem dX12_shift_150 : decode cX12_shift 150 = .ok (.lload 5, 2) := by decide +kernel
theorem dX12_shift_152 : decode cX12_shift 152 = .ok (.land, 1) := by decide +kernel
theorem dX12_shift_153 : decode cX12_shift 153 = .ok (.aload_n 0, 1) := by decide +kernel
theorem dX12_shift_154 : decode cX12_shift 154 = .ok (.getfield 289, 3) := by decide +kernel
theorem dX12_shift_157 : decode cX12_shift 157 = .ok (.iconst 4, 1) := by decide +kernel
theorem dX12_shift_158 : decode cX12_shift 158 = .ok (.if_icmp .ne 8, 3) := by decide +kernel
theorem dX12_shift_16 : decode cX12_shift 16 = .ok (.getfield 289, 3) := by decide +kernel
theorem dX12_shift_161 : decode cX12_shift 161 = .ok (.lload 8, 2) := by decide +kernel
theorem dX12_shift_163 : decode cX12_shift 163 = .ok (.goto 4, 3) := by decide +kernel
theorem dX12_shift_166 : decode cX12_shift 166 = .ok (.lconst 0, 1) := by decide +kernel
theorem dX12_shift_167 : decode cX12_shift 167 = .ok (.lor, 1) := by decide +kernel
theorem dX12_shift_168 : decode cX12_shift 168 = .ok (.lstore_n 3, 1) := by decide +kernel
theorem dX12_shift_169 : decode cX12_shift 169 = .ok (.goto 30, 3) := by decide +kernel
theorem dX12_shift_172 : decode cX12_shift 172 = .ok (.lload_n 3, 1) := by decide +kernel
theorem dX12_shift_173 : decode cX12_shift 173 = .ok (.bipush 6, 2) := by decide +kernel
theorem dX12_shift_175 : decode cX12_shift 175 = .ok (.lshr, 1) := by decide +kernel
theorem dX12_shift_176 : decode cX12_shift 176 = .ok (.aload_n 0, 1) := by decide +kernel
theorem dX12_shift_177 : decode cX12_shift 177 = .ok (.getfield 289, 3) := by decide +kernel
theorem dX12_shift_180 : decode cX12_shift 180 = .ok (.iconst 5, 1) := by decide +kernel
theorem dX12_shift_181 : decode cX12_shift 181 = .ok (.if_icmp .ne 15, 3) := by decide +kernel
theorem dX12_shift_184 : decode cX12_shift 184 = .ok (.lload 10, 2) := by decide +kernel
theorem dX12_shift_186 : decode cX12_shift 186 = .ok (.bipush 6, 2) := by decide +kernel
theorem dX12_shift_188 : decode cX12_shift 188 = .ok (.iload_n 1, 1) := by decide +kernel
theorem dX12_shift_189 : decode cX12_shift 189 = .ok (.iconst 1, 1) := by decide +kernel
theorem dX12_shift_19 : decode cX12_shift 19 = .ok (.iconst 3, 1) := by decide +kernel
theorem dX12_shift_190 : decode cX12_shift 190 = .ok (.isub, 1) := by decide +kernel
theorem dX12_shift_191 : decode cX12_shift 191 = .ok (.imul, 1) := by decide +kernel
theorem dX12_shift_192 : decode cX12_shift 192 = .ok (.lshl, 1) := by decide +kernel
theorem dX12_shift_193 : decode cX12_shift 193 = .ok (.goto 4, 3) := by decide +kernel
theorem dX12_shift_196 : decode cX12_shift 196 = .ok (.lconst 0, 1) := by decide +kernel
theorem dX12_shift_197 : decode cX12_shift 197 = .ok (.lor, 1) := by decide +kernel
theorem dX12_shift_198 : decode cX12_shift 198 = .ok (.lstore_n 3, 1) := by decide +kernel
theorem dX12_shift_199 : decode cX12_shift 199 = .ok (.iinc 7 1, 3) := by decide +kernel
theorem dX12_shift_20 : decode cX12_shift 20 = .ok (.if_icmp .le 13, 3) := by decide +kernel
theorem dX12_shift_202 : decode cX12_shift 202 = .ok (.goto (-92), 3) := by decide +kernel
theorem dX12_shift_205 : decode cX12_shift 205 = .ok (.aload_n 0, 1) := by decide +kernel
theorem dX12_shift_206 : decode cX12_shift 206 = .ok (.getfield 289, 3) := by decide +kernel
theorem dX12_shift_209 : decode cX12_shift 209 = .ok (.iconst 2, 1) := by decide +kernel
theorem dX12_shift_210 : decode cX12_shift 210 = .ok (.if_icmp .ge 22, 3) := by decide +kernel
theorem dX12_shift_213 : decode cX12_shift 213 = .ok (.aload_n 0, 1) := by decide +kernel
theorem dX12_shift_214 : decode cX12_shift 214 = .ok (.getfield 17, 3) := by decide +kernel
theorem dX12_shift_217 : decode cX12_shift 217 = .ok (.iconst 0, 1) := by decide +kernel
theorem dX12_shift_218 : decode cX12_shift 218 = .ok (.aload_n 0, 1) := by decide +kernel
theorem dX12_shift_219 : decode cX12_shift 219 = .ok (.getfield 17, 3) := by decide +kernel
theorem dX12_shift_222 : decode cX12_shift 222 = .ok (.iconst 0, 1) := by decide +kernel
theorem dX12_shift_223 : decode cX12_shift 223 = .ok (.iaload, 1) := by decide +kernel
theorem dX12_shift_224 : decode cX12_shift 224 = .ok (.ldc 158, 2) := by decide +kernel
theorem dX12_shift_226 : decode cX12_shift 226 = .ok (.iand, 1) := by decide +kernel
theorem dX12_shift_227 : decode cX12_shift 227 = .ok (.lload_n 3, 1) := by decide +kernel
theorem dX12_shift_228 : decode cX12_shift 228 = .ok (.l2i, 1) := by decide +kernel
theorem dX12_shift_229 : decode cX12_shift 229 = .ok (.ior, 1) := by decide +kernel
theorem dX12_shift_23 : decode cX12_shift 23 = .ok (.aload_n 0, 1) := by decide +kernel
theorem dX12_shift_230 : decode cX12_shift 230 = .ok (.iastore, 1) := by decide +kernel
theorem dX12_shift_231 : decode cX12_shift 231 = .ok (.return_, 1) := by decide +kernel
theorem dX12_shift_232 : decode cX12_shift 232 = .ok (.aload_n 0, 1) := by decide +kernel
theorem dX12_shift_233 : decode cX12_shift 233 = .ok (.getfield 17, 3) := by decide +kernel
theorem dX12_shift_236 : decode cX12_shift 236 = .ok (.iconst 0, 1) := by decide +kernel
theorem dX12_shift_237 : decode cX12_shift 237 = .ok (.aload_n 0, 1) := by decide +kernel
theorem dX12_shift_238 : decode cX12_shift 238 = .ok (.getfield 17, 3) := by decide +kernel
theorem dX12_shift_24 : decode cX12_shift 24 = .ok (.getfield 251, 3) := by decide +kernel
theorem dX12_shift_241 : decode cX12_shift 241 = .ok (.iconst 0, 1) := by decide +kernel
theorem dX12_shift_242 : decode cX12_shift 242 = .ok (.iaload, 1) := by decide +kernel
theorem dX12_shift_243 : decode cX12_shift 243 = .ok (.ldc 158, 2) := by decide +kernel
theorem dX12_shift_245 : decode cX12_shift 245 = .ok (.iand, 1) := by decide +kernel
theorem dX12_shift_246 : decode cX12_shift 246 = .ok (.lload_n 3, 1) := by decide +kernel
theorem dX12_shift_247 : decode cX12_shift 247 = .ok (.bipush 30, 2) := by decide +kernel
theorem dX12_shift_249 : decode cX12_shift 249 = .ok (.lshr, 1) := by decide +kernel
theorem dX12_shift_250 : decode cX12_shift 250 = .ok (.l2i, 1) := by decide +kernel
theorem dX12_shift_251 : decode cX12_shift 251 = .ok (.ior, 1) := by decide +kernel
theorem dX12_shift_252 : decode cX12_shift 252 = .ok (.iastore, 1) := by decide +kernel
theorem dX12_shift_253 : decode cX12_shift 253 = .ok (.aload_n 0, 1) := by decide +kernel
theorem dX12_shift_254 : decode cX12_shift 254 = .ok (.getfield 17, 3) := by decide +kernel
theorem dX12_shift_257 : decode cX12_shift 257 = .ok (.bipush 7, 2) := by decide +kernel
theorem dX12_shift_259 : decode cX12_shift 259 = .ok (.aload_n 0, 1) := by decide +kernel
theorem dX12_shift_260 : decode cX12_shift 260 = .ok (.getfield 17, 3) := by decide +kernel
theorem dX12_shift_263 : decode cX12_shift 263 = .ok (.bipush 7, 2) := by decide +kernel
theorem dX12_shift_265 : decode cX12_shift 265 = .ok (.iaload, 1) := by decide +kernel
theorem dX12_shift_266 : decode cX12_shift 266 = .ok (.ldc 158, 2) := by decide +kernel
theorem dX12_shift_268 : decode cX12_shift 268 = .ok (.iand, 1) := by decide +kernel
theorem dX12_shift_269 : decode cX12_shift 269 = .ok (.lload_n 3, 1) := by decide +kernel
theorem dX12_shift_27 : decode cX12_shift 27 = .ok (.bipush 10, 2) := by decide +kernel
theorem dX12_shift_270 : decode cX12_shift 270 = .ok (.ldc2_w 335, 3) := by decide +kernel
theorem dX12_shift_273 : decode cX12_shift 273 = .ok (.land, 1) := by decide +kernel
theorem dX12_shift_274 : decode cX12_shift 274 = .ok (.l2i, 1) := by decide +kernel
theorem dX12_shift_275 : decode cX12_shift 275 = .ok (.ior, 1) := by decide +kernel
theorem dX12_shift_276 : decode cX12_shift 276 = .ok (.iastore, 1) := by decide +kernel
theorem dX12_shift_277 : decode cX12_shift 277 = .ok (.return_, 1) := by decide +kernel
theorem dX12_shift_29 : decode cX12_shift 29 = .ok (.irem, 1) := by decide +kernel
theorem dX12_shift_30 : decode cX12_shift 30 = .ok (.goto 19, 3) := by decide +kernel
theorem dX12_shift_33 : decode cX12_shift 33 = .ok (.aload_n 0, 1) := by decide +kernel
theorem dX12_shift_34 : decode cX12_shift 34 = .ok (.getfield 251, 3) := by decide +kernel
theorem dX12_shift_37 : decode cX12_shift 37 = .ok (.iload_n 1, 1) := by decide +kernel
theorem dX12_shift_38 : decode cX12_shift 38 = .ok (.if_icmp .le 7, 3) := by decide +kernel
theorem dX12_shift_4 : decode cX12_shift 4 = .ok (.iconst 2, 1) := by decide +kernel
theorem dX12_shift_41 : decode cX12_shift 41 = .ok (.iload_n 1, 1) := by decide +kernel
theorem dX12_shift_42 : decode cX12_shift 42 = .ok (.goto 7, 3) := by decide +kernel
theorem dX12_shift_45 : decode cX12_shift 45 = .ok (.aload_n 0, 1) := by decide +kernel
theorem dX12_shift_46 : decode cX12_shift 46 = .ok (.getfield 251, 3) := by decide +kernel
theorem dX12_shift_49 : decode cX12_shift 49 = .ok (.istore_n 2, 1) := by decide +kernel
theorem dX12_shift_5 : decode cX12_shift 5 = .ok (.if_icmp .ge 7, 3) := by decide +kernel
theorem dX12_shift_50 : decode cX12_shift 50 = .ok (.aload_n 0, 1) := by decide +kernel
theorem dX12_shift_51 : decode cX12_shift 51 = .ok (.getfield 289, 3) := by decide +kernel
theorem dX12_shift_54 : decode cX12_shift 54 = .ok (.iconst 2, 1) := by decide +kernel
theorem dX12_shift_55 : decode cX12_shift 55 = .ok (.if_icmp .ge 16, 3) := by decide +kernel
theorem dX12_shift_58 : decode cX12_shift 58 = .ok (.aload_n 0, 1) := by decide +kernel
theorem dX12_shift_59 : decode cX12_shift 59 = .ok (.getfield 17, 3) := by decide +kernel
theorem dX12_shift_62 : decode cX12_shift 62 = .ok (.iconst 0, 1) := by decide +kernel
theorem dX12_shift_63 : decode cX12_shift 63 = .ok (.iaload, 1) := by decide +kernel
theorem dX12_shift_64 : decode cX12_shift 64 = .ok (.ldc 159, 2) := by decide +kernel
theorem dX12_shift_66 : decode cX12_shift 66 = .ok (.iand, 1) := by decide +kernel
theorem dX12_shift_67 : decode cX12_shift 67 = .ok (.i2l, 1) := by decide +kernel
theorem dX12_shift_68 : decode cX12_shift 68 = .ok (.goto 28, 3) := by decide +kernel
theorem dX12_shift_71 : decode cX12_shift 71 = .ok (.aload_n 0, 1) := by decide +kernel
theorem dX12_shift_72 : decode cX12_shift 72 = .ok (.getfield 17, 3) := by decide +kernel
theorem dX12_shift_75 : decode cX12_shift 75 = .ok (.iconst 0, 1) := by decide +kernel
theorem dX12_shift_76 : decode cX12_shift 76 = .ok (.iaload, 1) := by decide +kernel
theorem dX12_shift_77 : decode cX12_shift 77 = .ok (.ldc 159, 2) := by decide +kernel
theorem dX12_shift_79 : decode cX12_shift 79 = .ok (.iand, 1) := by decide +kernel
theorem dX12_shift_8 : decode cX12_shift 8 = .ok (.iconst 5, 1) := by decide +kernel
theorem dX12_shift_80 : decode cX12_shift 80 = .ok (.i2l, 1) := by decide +kernel
theorem dX12_shift_81 : decode cX12_shift 81 = .ok (.bipush 30, 2) := by decide +kernel
theorem dX12_shift_83 : decode cX12_shift 83 = .ok (.lshl, 1) := by decide +kernel
theorem dX12_shift_84 : decode cX12_shift 84 = .ok (.aload_n 0, 1) := by decide +kernel
theorem dX12_shift_85 : decode cX12_shift 85 = .ok (.getfield 17, 3) := by decide +kernel
theorem dX12_shift_88 : decode cX12_shift 88 = .ok (.bipush 7, 2) := by decide +kernel
theorem dX12_shift_9 : decode cX12_shift 9 = .ok (.goto 5, 3) := by decide +kernel
theorem dX12_shift_90 : decode cX12_shift 90 = .ok (.iaload, 1) := by decide +kernel
theorem dX12_shift_91 : decode cX12_shift 91 = .ok (.ldc 159, 2) := by decide +kernel
theorem dX12_shift_93 : decode cX12_shift 93 = .ok (.iand, 1) := by decide +kernel
theorem dX12_shift_94 : decode cX12_shift 94 = .ok (.i2l, 1) := by decide +kernel
theorem dX12_shift_95 : decode cX12_shift 95 = .ok (.lor, 1) := by decide +kernel
theorem dX12_shift_96 : decode cX12_shift 96 = .ok (.lstore_n 3, 1) := by decide +kernel
theorem dX12_shift_97 : decode cX12_shift 97 = .ok (.lconst 1, 1) := by decide +kernel
theorem dX12_shift_98 : decode cX12_shift 98 = .ok (.bipush 6, 2) := by decide +kernel
set_option maxHeartbeats 4000000 in
set_option maxRecDepth 100000 in
theorem T_X12_shift (l : Launch) (D : va_G) (K : Nat → ClassId) (Z Y : Nat → Nat) (ad : Nat → Nat) (t : tSt) (hok : okM t)  : tMet l yX12_shift cX12_shift 12 none (rmD 0 0 0) D K Z Y [.ref (ad 0)] (WM K ad t) (QV D K (fun (u : tSt) => okM u ∧ frA [] [] [3] [] t u) (fun (u : tSt) => WM K ad u)) 0 0 := by
  refine t_met RX12 ⟨rfl, by decide +kernel⟩ (Nat.le_of_ble_eq_true rfl) ?_
  intro p e s m below meth c A ls C hE hZ hr hlocks hA hP hD hS hl
  have hl : lv_has ls 12 [(0, .ref (ad 0))] := hl
  have hokt := hok
  have hfr : frA [] [] [3] [] t t := frA_rf
  have L_110 : ∀ (fuel_110 : Nat) (t1 : tSt) (w110_1 : Int32) (w110_2 : Int32) (w110_3 : Int64) (w110_5 : Int64) (w110_7 : Int32) (H : Heap) (locs : List Loc) (ls : Array Slot), okM t1 → frA [] [] [3] [] t t1 → (5 : Int) ≤ w110_1.toInt ∧ w110_1.toInt ≤ 10 → (-2147483648 : Int) ≤ w110_2.toInt ∧ w110_2.toInt ≤ 10 → (0 : Int) ≤ w110_7.toInt ∧ w110_7.toInt ≤ 10 → (10 : Int) - w110_7.toInt < (fuel_110 : Int) → va_P D vwCl (WM K ad t1) H → va_D A (WM K ad t1) → va_S A s.heap H locs → lv_has ls 12 [(0, .ref (ad 0)), (1, .int w110_1), (2, .int w110_2), (3, .long w110_3), (5, .long w110_5), (7, .int w110_7)] → W p l e (rmD 0 0 0) s m [.ref (ad 0)].toArray below meth c H locs 0 0 (MQ below (QV D K (fun (u : tSt) => okM u ∧ frA [] [] [3] [] t u) (fun (u : tSt) => WM K ad u) A) [.ref (ad 0)].toArray s 0 0 A) (F0 m 110 ls []) := by
    intro fuel_110
    induction fuel_110 with
    | zero =>
      intro t1 w110_1 w110_2 w110_3 w110_5 w110_7 H locs ls hok hfr hw110_1 hw110_2 hw110_7 hm110_110 hP hD hS hl
      exact absurd hm110_110 (by omega)
    | succ fuel_110 ih_110 =>
      intro t1 w110_1 w110_2 w110_3 w110_5 w110_7 H locs ls hok hfr hw110_1 hw110_2 hw110_7 hm110_110 hP hD hS hl
      have hm110_110 : (10 : Int) - w110_7.toInt < (fuel_110 : Int) + 1 := by omega
      have L_199 : ∀ (t1 : tSt) (w199_1 : Int32) (w199_2 : Int32) (w199_3 : Int64) (w199_5 : Int64) (w199_7 : Int32) (w199_8 : Int64) (w199_10 : Int64) (H : Heap) (locs : List Loc) (ls : Array Slot), okM t1 → frA [] [] [3] [] t t1 → (5 : Int) ≤ w199_1.toInt ∧ w199_1.toInt ≤ 10 → (1 : Int) ≤ w199_2.toInt ∧ w199_2.toInt ≤ 10 → (0 : Int) ≤ w199_7.toInt ∧ w199_7.toInt ≤ 9 → (10 : Int) - w199_7.toInt < (fuel_110 : Int) + 1 → va_P D vwCl (WM K ad t1) H → va_D A (WM K ad t1) → va_S A s.heap H locs → lv_has ls 12 [(0, .ref (ad 0)), (1, .int w199_1), (2, .int w199_2), (3, .long w199_3), (5, .long w199_5), (7, .int w199_7), (8, .long w199_8), (10, .long w199_10)] → W p l e (rmD 0 0 0) s m [.ref (ad 0)].toArray below meth c H locs 0 0 (MQ below (QV D K (fun (u : tSt) => okM u ∧ frA [] [] [3] [] t u) (fun (u : tSt) => WM K ad u) A) [.ref (ad 0)].toArray s 0 0 A) (F0 m 199 ls []) := by
        intro t1 w199_1 w199_2 w199_3 w199_5 w199_7 w199_8 w199_10 H locs ls hok hfr hw199_1 hw199_2 hw199_7 hm199_110 hP hD hS hl
        obtain ⟨v_1, e_2⟩ : ∃ z, z = w199_7 + 1 := ⟨_, rfl⟩
        have h_3 : v_1.toInt = w199_7.toInt + 1 := by rw [e_2]; exact ti_iadd (by show (_ : Int) ≤ w199_7.toInt + 1; omega) (by show w199_7.toInt + 1 < (_ : Int); omega)
        refine lv_iinc (v := v_1) (lv' := [(7, .int v_1), (0, .ref (ad 0)), (1, .int w199_1), (2, .int w199_2), (3, .long w199_3), (5, .long w199_5), (8, .long w199_8), (10, .long w199_10)]) C.1 C.2.1 dX12_shift_199 hl (k := 5) rfl e_2.symm (by decide) rfl (fun ls hl => ?_)
        have hl : lv_has ls 12 [(0, .ref (ad 0)), (1, .int w199_1), (2, .int w199_2), (3, .long w199_3), (5, .long w199_5), (7, .int v_1), (8, .long w199_8), (10, .long w199_10)] := lv_sub hl [1, 2, 3, 4, 5, 0, 6, 7] rfl
        refine lv_goto (tgt := 110) C.1 C.2.1 dX12_shift_202 (by decide) ?_
        exact ih_110 t1 w199_1 w199_2 w199_3 w199_5 v_1 _ _ _ hok hfr ⟨by omega, by omega⟩ ⟨(i_rng _).1, by omega⟩ ⟨by omega, by omega⟩ (show (10 : Int) - v_1.toInt < (fuel_110 : Int) from by omega) hP hD hS (lv_sub hl [0, 1, 2, 3, 4, 5] rfl)
      have L_197 : ∀ (t1 : tSt) (w197_1 : Int32) (w197_2 : Int32) (w197_3 : Int64) (w197_5 : Int64) (w197_7 : Int32) (w197_8 : Int64) (w197_10 : Int64) (k197_0 : Int64) (k197_1 : Int64) (H : Heap) (locs : List Loc) (ls : Array Slot), okM t1 → frA [] [] [3] [] t t1 → (5 : Int) ≤ w197_1.toInt ∧ w197_1.toInt ≤ 10 → (1 : Int) ≤ w197_2.toInt ∧ w197_2.toInt ≤ 10 → (0 : Int) ≤ w197_7.toInt ∧ w197_7.toInt ≤ 9 → (10 : Int) - w197_7.toInt < (fuel_110 : Int) + 1 → va_P D vwCl (WM K ad t1) H → va_D A (WM K ad t1) → va_S A s.heap H locs → lv_has ls 12 [(0, .ref (ad 0)), (1, .int w197_1), (2, .int w197_2), (3, .long w197_3), (5, .long w197_5), (7, .int w197_7), (8, .long w197_8), (10, .long w197_10)] → W p l e (rmD 0 0 0) s m [.ref (ad 0)].toArray below meth c H locs 0 0 (MQ below (QV D K (fun (u : tSt) => okM u ∧ frA [] [] [3] [] t u) (fun (u : tSt) => WM K ad u) A) [.ref (ad 0)].toArray s 0 0 A) (F0 m 197 ls [.long k197_1, .long k197_0]) := by
        intro t1 w197_1 w197_2 w197_3 w197_5 w197_7 w197_8 w197_10 k197_0 k197_1 H locs ls hok hfr hw197_1 hw197_2 hw197_7 hm197_110 hP hD hS hl
        obtain ⟨v_4, e_5⟩ : ∃ z, z = (k197_0 : Int64) ||| k197_1 := ⟨_, rfl⟩
        refine lw_lor (v := v_4) C.1 C.2.1 dX12_shift_197 e_5.symm ?_
        refine lv_lstore_n (lv' := [(3, .long v_4), (0, .ref (ad 0)), (1, .int w197_1), (2, .int w197_2), (5, .long w197_5), (7, .int w197_7), (8, .long w197_8), (10, .long w197_10)]) C.1 C.2.1 dX12_shift_198 rfl hl (by decide) rfl (fun ls hl => ?_)
        have hl : lv_has ls 12 [(0, .ref (ad 0)), (1, .int w197_1), (2, .int w197_2), (3, .long v_4), (5, .long w197_5), (7, .int w197_7), (8, .long w197_8), (10, .long w197_10)] := lv_sub hl [1, 2, 3, 0, 4, 5, 6, 7] rfl
        exact L_199 t1 w197_1 w197_2 v_4 w197_5 w197_7 w197_8 w197_10 _ _ _ hok hfr ⟨by omega, by omega⟩ ⟨by omega, by omega⟩ ⟨by omega, by omega⟩ (show (10 : Int) - w197_7.toInt < (fuel_110 : Int) + 1 from by omega) hP hD hS (lv_sub hl [0, 1, 2, 3, 4, 5, 6, 7] rfl)
      have L_167 : ∀ (t1 : tSt) (w167_1 : Int32) (w167_2 : Int32) (w167_3 : Int64) (w167_5 : Int64) (w167_7 : Int32) (w167_8 : Int64) (w167_10 : Int64) (k167_0 : Int64) (k167_1 : Int64) (H : Heap) (locs : List Loc) (ls : Array Slot), okM t1 → frA [] [] [3] [] t t1 → (5 : Int) ≤ w167_1.toInt ∧ w167_1.toInt ≤ 10 → (1 : Int) ≤ w167_2.toInt ∧ w167_2.toInt ≤ 10 → (0 : Int) ≤ w167_7.toInt ∧ w167_7.toInt ≤ 9 → (10 : Int) - w167_7.toInt < (fuel_110 : Int) + 1 → va_P D vwCl (WM K ad t1) H → va_D A (WM K ad t1) → va_S A s.heap H locs → lv_has ls 12 [(0, .ref (ad 0)), (1, .int w167_1), (2, .int w167_2), (3, .long w167_3), (5, .long w167_5), (7, .int w167_7), (8, .long w167_8), (10, .long w167_10)] → W p l e (rmD 0 0 0) s m [.ref (ad 0)].toArray below meth c H locs 0 0 (MQ below (QV D K (fun (u : tSt) => okM u ∧ frA [] [] [3] [] t u) (fun (u : tSt) => WM K ad u) A) [.ref (ad 0)].toArray s 0 0 A) (F0 m 167 ls [.long k167_1, .long k167_0]) := by
        intro t1 w167_1 w167_2 w167_3 w167_5 w167_7 w167_8 w167_10 k167_0 k167_1 H locs ls hok hfr hw167_1 hw167_2 hw167_7 hm167_110 hP hD hS hl
        obtain ⟨v_6, e_7⟩ : ∃ z, z = (k167_0 : Int64) ||| k167_1 := ⟨_, rfl⟩
        refine lw_lor (v := v_6) C.1 C.2.1 dX12_shift_167 e_7.symm ?_
        refine lv_lstore_n (lv' := [(3, .long v_6), (0, .ref (ad 0)), (1, .int w167_1), (2, .int w167_2), (5, .long w167_5), (7, .int w167_7), (8, .long w167_8), (10, .long w167_10)]) C.1 C.2.1 dX12_shift_168 rfl hl (by decide) rfl (fun ls hl => ?_)
        have hl : lv_has ls 12 [(0, .ref (ad 0)), (1, .int w167_1), (2, .int w167_2), (3, .long v_6), (5, .long w167_5), (7, .int w167_7), (8, .long w167_8), (10, .long w167_10)] := lv_sub hl [1, 2, 3, 0, 4, 5, 6, 7] rfl
        refine lv_goto (tgt := 199) C.1 C.2.1 dX12_shift_169 (by decide) ?_
        exact L_199 t1 w167_1 w167_2 v_6 w167_5 w167_7 w167_8 w167_10 _ _ _ hok hfr ⟨by omega, by omega⟩ ⟨by omega, by omega⟩ ⟨by omega, by omega⟩ (show (10 : Int) - w167_7.toInt < (fuel_110 : Int) + 1 from by omega) hP hD hS (lv_sub hl [0, 1, 2, 3, 4, 5, 6, 7] rfl)
      refine lv_iload C.1 C.2.1 dX12_shift_110 (lv_at hl 5 rfl) ?_
      refine lv_iload_n C.1 C.2.1 dX12_shift_112 rfl (lv_at hl 2 rfl) ?_
      refine lv_icmp_ge (tgt := 205) C.1 C.2.1 dX12_shift_113 (by decide) (fun c_8 => ?_) (fun c_8 => ?_)
      · replace c_8 : w110_2.toInt ≤ w110_7.toInt := i_le c_8
        refine lv_aload_n C.1 C.2.1 dX12_shift_205 rfl (lv_at hl 0 rfl) ?_
        have h_9 : (0 : Int) ≤ (t1.1 0 17).toInt ∧ (t1.1 0 17).toInt ≤ 63 := hok.1 0 17
        refine k_get (v := .int (t1.1 0 17)) C hP 0 rfl rfl inlX12 17 (by decide) m_57_4 rfl dX12_shift_206 ?_
        refine lv_iconst (v := 2) C.1 C.2.1 dX12_shift_209 (by decide) ?_
        refine lv_icmp_ge (tgt := 232) C.1 C.2.1 dX12_shift_210 (by decide) (fun c_10 => ?_) (fun c_10 => ?_)
        · replace c_10 : 2 ≤ (t1.1 0 17).toInt := i_le c_10
          refine lv_aload_n C.1 C.2.1 dX12_shift_232 rfl (lv_at hl 0 rfl) ?_
          refine k_get (v := .ref (ad 3)) C hP 0 rfl rfl inlX12 4 (by decide) m_7_6 rfl dX12_shift_233 ?_
          refine lv_iconst (v := 0) C.1 C.2.1 dX12_shift_236 (by decide) ?_
          refine lv_aload_n C.1 C.2.1 dX12_shift_237 rfl (lv_at hl 0 rfl) ?_
          refine k_get (v := .ref (ad 3)) C hP 0 rfl rfl inlX12 4 (by decide) m_7_6 rfl dX12_shift_238 ?_
          refine lv_iconst (v := 0) C.1 C.2.1 dX12_shift_241 (by decide) ?_
          obtain ⟨v_11, e_12⟩ : ∃ z, z = (t1.2.2.1 3 (0 : Int32).toNatClampNeg) := ⟨_, rfl⟩
          refine k_ild (v := v_11) C hP 3 rfl (vin (by decide)) e_12.symm dX12_shift_242 ?_
          refine lv_ldc (v := 1073741824) C.1 C.2.1 C.2.2.2.1 (C.2.2.2.2.1 _ m_34_19) dX12_shift_243 ?_
          obtain ⟨v_13, e_14⟩ : ∃ z, z = (v_11 : Int32) &&& (1073741824 : Int32) := ⟨_, rfl⟩
          have h_15 : (0 : Int) ≤ v_13.toInt ∧ v_13.toInt ≤ 1073741824 := by rw [e_14]; exact z_and _ (k := 1073741824) (by decide) (by decide)
          refine k_iand (v := v_13) C e_14.symm dX12_shift_245 ?_
          refine lv_lload_n C.1 C.2.1 dX12_shift_246 rfl (lv_at hl 3 rfl) ?_
          refine lv_bipush (v := 30) C.1 C.2.1 dX12_shift_247 (by decide) ?_
          obtain ⟨v_16, e_17⟩ : ∃ z, z = (w110_3 : Int64) >>> ((30 : Int32).toInt64 &&& 63) := ⟨_, rfl⟩
          refine lv_lshr (v := v_16) C.1 C.2.1 dX12_shift_249 e_17.symm ?_
          obtain ⟨v_18, e_19⟩ : ∃ z, z = (v_16).toInt32 := ⟨_, rfl⟩
          refine lv_l2i (v := v_18) C.1 C.2.1 dX12_shift_250 e_19.symm ?_
          obtain ⟨v_20, e_21⟩ : ∃ z, z = (v_13 : Int32) ||| (v_18 : Int32) := ⟨_, rfl⟩
          refine k_ior (v := v_20) C e_21.symm dX12_shift_251 ?_
          refine k_ist (ws' := WM K ad (uB t1 3 (0 : Int32).toNatClampNeg v_20)) (x' := v_20) C hP hD hS 3 rfl (vin (by decide)) rfl rfl rfl dX12_shift_252 (fun H locs hP hD hS => ?_)
          have hok : okM (uB t1 3 (0 : Int32).toNatClampNeg v_20) := ⟨hok.1, okB_B hok.2.1 3 _ v_20 (show (-2147483648 : Int) ≤ (v_20 : Int32).toInt ∧ (v_20 : Int32).toInt ≤ 2147483647 from (i_rng _)), hok.2.2.1, hok.2.2.2.1, hok.2.2.2.2.1, hok.2.2.2.2.2.1, hok.2.2.2.2.2.2.1, trivial⟩
          have hfr : frA [] [] [3] [] t (uB t1 3 (0 : Int32).toNatClampNeg v_20) := frA_B hfr 3 _ _ rfl
          refine lv_aload_n C.1 C.2.1 dX12_shift_253 rfl (lv_at hl 0 rfl) ?_
          refine k_get (v := .ref (ad 3)) C hP 0 rfl rfl inlX12 4 (by decide) m_7_6 rfl dX12_shift_254 ?_
          refine lv_bipush (v := 7) C.1 C.2.1 dX12_shift_257 (by decide) ?_
          refine lv_aload_n C.1 C.2.1 dX12_shift_259 rfl (lv_at hl 0 rfl) ?_
          refine k_get (v := .ref (ad 3)) C hP 0 rfl rfl inlX12 4 (by decide) m_7_6 rfl dX12_shift_260 ?_
          refine lv_bipush (v := 7) C.1 C.2.1 dX12_shift_263 (by decide) ?_
          obtain ⟨v_23, e_24⟩ : ∃ z, z = ((uB t1 3 (0 : Int32).toNatClampNeg v_20).2.2.1 3 (7 : Int32).toNatClampNeg) := ⟨_, rfl⟩
          refine k_ild (v := v_23) C hP 3 rfl (vin (by decide)) e_24.symm dX12_shift_265 ?_
          refine lv_ldc (v := 1073741824) C.1 C.2.1 C.2.2.2.1 (C.2.2.2.2.1 _ m_34_19) dX12_shift_266 ?_
          obtain ⟨v_25, e_26⟩ : ∃ z, z = (v_23 : Int32) &&& (1073741824 : Int32) := ⟨_, rfl⟩
          have h_27 : (0 : Int) ≤ v_25.toInt ∧ v_25.toInt ≤ 1073741824 := by rw [e_26]; exact z_and _ (k := 1073741824) (by decide) (by decide)
          refine k_iand (v := v_25) C e_26.symm dX12_shift_268 ?_
          refine lv_lload_n C.1 C.2.1 dX12_shift_269 rfl (lv_at hl 3 rfl) ?_
          refine lv_ldc2 (v := 1073741823) C.1 C.2.1 C.2.2.2.1 (C.2.2.2.2.1 _ m_36_3) dX12_shift_270 ?_
          obtain ⟨v_28, e_29⟩ : ∃ z, z = (w110_3 : Int64) &&& 1073741823 := ⟨_, rfl⟩
          have h_30 : v_28.toInt = w110_3.toInt % 2 ^ 30 := by rw [e_29]; exact Jvm.Kit.i64_mask _ _ (k := 30) (by decide) (by decide)
          refine lw_land (v := v_28) C.1 C.2.1 dX12_shift_273 e_29.symm ?_
          obtain ⟨v_31, e_32⟩ : ∃ z, z = (v_28).toInt32 := ⟨_, rfl⟩
          have h_33 : v_31.toInt = v_28.toInt := by rw [e_32]; exact Jvm.Kit.i32_of_i64 (by show (_ : Int) ≤ v_28.toInt; omega) (by show v_28.toInt < (_ : Int); omega)
          refine lv_l2i (v := v_31) C.1 C.2.1 dX12_shift_274 e_32.symm ?_
          obtain ⟨v_34, e_35⟩ : ∃ z, z = (v_25 : Int32) ||| (v_31 : Int32) := ⟨_, rfl⟩
          have h_36 : (0 : Int) ≤ v_34.toInt ∧ v_34.toInt ≤ 2147483647 := by rw [e_35]; exact z_or (k := 31) (by decide) (by show (0 : Int) ≤ v_25.toInt; omega) (by show v_25.toInt < (_ : Int); omega) (by show (0 : Int) ≤ v_31.toInt; omega) (by show v_31.toInt < (_ : Int); omega)
          refine k_ior (v := v_34) C e_35.symm dX12_shift_275 ?_
          refine k_ist (ws' := WM K ad (uB (uB t1 3 (0 : Int32).toNatClampNeg v_20) 3 (7 : Int32).toNatClampNeg v_34)) (x' := v_34) C hP hD hS 3 rfl (vin (by decide)) rfl rfl rfl dX12_shift_276 (fun H locs hP hD hS => ?_)
          have hok : okM (uB (uB t1 3 (0 : Int32).toNatClampNeg v_20) 3 (7 : Int32).toNatClampNeg v_34) := ⟨hok.1, okB_B hok.2.1 3 _ v_34 (show (-2147483648 : Int) ≤ (v_34 : Int32).toInt ∧ (v_34 : Int32).toInt ≤ 2147483647 from (i_rng _)), hok.2.2.1, hok.2.2.2.1, hok.2.2.2.2.1, hok.2.2.2.2.2.1, hok.2.2.2.2.2.2.1, trivial⟩
          have hfr : frA [] [] [3] [] t (uB (uB t1 3 (0 : Int32).toNatClampNeg v_20) 3 (7 : Int32).toNatClampNeg v_34) := frA_B hfr 3 _ _ rfl
          exact g_vret C hr hlocks hP hD hS (uB (uB t1 3 (0 : Int32).toNatClampNeg v_20) 3 (7 : Int32).toNatClampNeg v_34) rfl ⟨hok, hfr⟩ (Nat.le_of_ble_eq_true rfl) (Nat.le_of_ble_eq_true rfl) dX12_shift_277
        · replace c_10 : (t1.1 0 17).toInt < 2 := i_nle c_10
          refine lv_aload_n C.1 C.2.1 dX12_shift_213 rfl (lv_at hl 0 rfl) ?_
          refine k_get (v := .ref (ad 3)) C hP 0 rfl rfl inlX12 4 (by decide) m_7_6 rfl dX12_shift_214 ?_
          refine lv_iconst (v := 0) C.1 C.2.1 dX12_shift_217 (by decide) ?_
          refine lv_aload_n C.1 C.2.1 dX12_shift_218 rfl (lv_at hl 0 rfl) ?_
          refine k_get (v := .ref (ad 3)) C hP 0 rfl rfl inlX12 4 (by decide) m_7_6 rfl dX12_shift_219 ?_
          refine lv_iconst (v := 0) C.1 C.2.1 dX12_shift_222 (by decide) ?_
          obtain ⟨v_37, e_38⟩ : ∃ z, z = (t1.2.2.1 3 (0 : Int32).toNatClampNeg) := ⟨_, rfl⟩
          refine k_ild (v := v_37) C hP 3 rfl (vin (by decide)) e_38.symm dX12_shift_223 ?_
          refine lv_ldc (v := 1073741824) C.1 C.2.1 C.2.2.2.1 (C.2.2.2.2.1 _ m_34_19) dX12_shift_224 ?_
          obtain ⟨v_39, e_40⟩ : ∃ z, z = (v_37 : Int32) &&& (1073741824 : Int32) := ⟨_, rfl⟩
          have h_41 : (0 : Int) ≤ v_39.toInt ∧ v_39.toInt ≤ 1073741824 := by rw [e_40]; exact z_and _ (k := 1073741824) (by decide) (by decide)
          refine k_iand (v := v_39) C e_40.symm dX12_shift_226 ?_
          refine lv_lload_n C.1 C.2.1 dX12_shift_227 rfl (lv_at hl 3 rfl) ?_
          obtain ⟨v_42, e_43⟩ : ∃ z, z = (w110_3).toInt32 := ⟨_, rfl⟩
          refine lv_l2i (v := v_42) C.1 C.2.1 dX12_shift_228 e_43.symm ?_
          obtain ⟨v_44, e_45⟩ : ∃ z, z = (v_39 : Int32) ||| (v_42 : Int32) := ⟨_, rfl⟩
          refine k_ior (v := v_44) C e_45.symm dX12_shift_229 ?_
          refine k_ist (ws' := WM K ad (uB t1 3 (0 : Int32).toNatClampNeg v_44)) (x' := v_44) C hP hD hS 3 rfl (vin (by decide)) rfl rfl rfl dX12_shift_230 (fun H locs hP hD hS => ?_)
          have hok : okM (uB t1 3 (0 : Int32).toNatClampNeg v_44) := ⟨hok.1, okB_B hok.2.1 3 _ v_44 (show (-2147483648 : Int) ≤ (v_44 : Int32).toInt ∧ (v_44 : Int32).toInt ≤ 2147483647 from (i_rng _)), hok.2.2.1, hok.2.2.2.1, hok.2.2.2.2.1, hok.2.2.2.2.2.1, hok.2.2.2.2.2.2.1, trivial⟩
          have hfr : frA [] [] [3] [] t (uB t1 3 (0 : Int32).toNatClampNeg v_44) := frA_B hfr 3 _ _ rfl
          exact g_vret C hr hlocks hP hD hS (uB t1 3 (0 : Int32).toNatClampNeg v_44) rfl ⟨hok, hfr⟩ (Nat.le_of_ble_eq_true rfl) (Nat.le_of_ble_eq_true rfl) dX12_shift_231
      · replace c_8 : w110_7.toInt < w110_2.toInt := i_nle c_8
        refine lv_lload_n C.1 C.2.1 dX12_shift_116 rfl (lv_at hl 3 rfl) ?_
        refine lv_bipush (v := 6) C.1 C.2.1 dX12_shift_117 (by decide) ?_
        refine lv_iload_n C.1 C.2.1 dX12_shift_119 rfl (lv_at hl 1 rfl) ?_
        refine lv_iconst (v := 1) C.1 C.2.1 dX12_shift_120 (by decide) ?_
        obtain ⟨v_47, e_48⟩ : ∃ z, z = (w110_1 : Int32) - (1 : Int32) := ⟨_, rfl⟩
        have h_49 : v_47.toInt = w110_1.toInt - 1 := by rw [e_48]; exact ti_isub (by show (_ : Int) ≤ w110_1.toInt - 1; omega) (by show w110_1.toInt - 1 < (_ : Int); omega)
        refine k_isub (v := v_47) C e_48.symm dX12_shift_121 ?_
        obtain ⟨v_50, e_51⟩ : ∃ z, z = (6 : Int32) * (v_47 : Int32) := ⟨_, rfl⟩
        have h_52 : v_50.toInt = 6 * v_47.toInt := by rw [e_51]; exact ti_mull (k := 6) (by decide) (by omega) (by omega)
        refine k_imul (v := v_50) C e_51.symm dX12_shift_122 ?_
        obtain ⟨v_53, e_54⟩ : ∃ z, z = (w110_3 : Int64) >>> ((v_50 : Int32).toInt64 &&& 63) := ⟨_, rfl⟩
        refine lv_lshr (v := v_53) C.1 C.2.1 dX12_shift_123 e_54.symm ?_
        refine lv_ldc2 (v := 63) C.1 C.2.1 C.2.2.2.1 (C.2.2.2.2.1 _ m_62_14) dX12_shift_124 ?_
        obtain ⟨v_55, e_56⟩ : ∃ z, z = (v_53 : Int64) &&& 63 := ⟨_, rfl⟩
        have h_57 : v_55.toInt = v_53.toInt % 2 ^ 6 := by rw [e_56]; exact Jvm.Kit.i64_mask _ _ (k := 6) (by decide) (by decide)
        refine lw_land (v := v_55) C.1 C.2.1 dX12_shift_127 e_56.symm ?_
        refine lv_lstore (lv' := [(8, .long v_55), (0, .ref (ad 0)), (1, .int w110_1), (2, .int w110_2), (3, .long w110_3), (5, .long w110_5), (7, .int w110_7)]) C.1 C.2.1 dX12_shift_128 hl (by decide) rfl (fun ls hl => ?_)
        have hl : lv_has ls 12 [(0, .ref (ad 0)), (1, .int w110_1), (2, .int w110_2), (3, .long w110_3), (5, .long w110_5), (7, .int w110_7), (8, .long v_55)] := lv_sub hl [1, 2, 3, 4, 5, 6, 0] rfl
        refine lv_lload_n C.1 C.2.1 dX12_shift_130 rfl (lv_at hl 3 rfl) ?_
        refine lv_ldc2 (v := 63) C.1 C.2.1 C.2.2.2.1 (C.2.2.2.2.1 _ m_62_14) dX12_shift_131 ?_
        obtain ⟨v_58, e_59⟩ : ∃ z, z = (w110_3 : Int64) &&& 63 := ⟨_, rfl⟩
        have h_60 : v_58.toInt = w110_3.toInt % 2 ^ 6 := by rw [e_59]; exact Jvm.Kit.i64_mask _ _ (k := 6) (by decide) (by decide)
        refine lw_land (v := v_58) C.1 C.2.1 dX12_shift_134 e_59.symm ?_
        refine lv_lstore (lv' := [(10, .long v_58), (0, .ref (ad 0)), (1, .int w110_1), (2, .int w110_2), (3, .long w110_3), (5, .long w110_5), (7, .int w110_7), (8, .long v_55)]) C.1 C.2.1 dX12_shift_135 hl (by decide) rfl (fun ls hl => ?_)
        have hl : lv_has ls 12 [(0, .ref (ad 0)), (1, .int w110_1), (2, .int w110_2), (3, .long w110_3), (5, .long w110_5), (7, .int w110_7), (8, .long v_55), (10, .long v_58)] := lv_sub hl [1, 2, 3, 4, 5, 6, 7, 0] rfl
        refine lv_aload_n C.1 C.2.1 dX12_shift_137 rfl (lv_at hl 0 rfl) ?_
        have h_61 : (0 : Int) ≤ (t1.1 0 17).toInt ∧ (t1.1 0 17).toInt ≤ 63 := hok.1 0 17
        refine k_get (v := .int (t1.1 0 17)) C hP 0 rfl rfl inlX12 17 (by decide) m_57_4 rfl dX12_shift_138 ?_
        refine lv_iconst (v := 2) C.1 C.2.1 dX12_shift_141 (by decide) ?_
        obtain ⟨v_62, e_63⟩ : ∃ z, z = ((t1.1 0 17) : Int32) - ((t1.1 0 17) : Int32) / (2 : Int32) * (2 : Int32) := ⟨_, rfl⟩
        have h_64 : v_62.toInt = (t1.1 0 17).toInt % 2 := by rw [e_63]; exact z_remp (k := 2) (by decide) (by show (0 : Int) ≤ (t1.1 0 17).toInt; omega)
        refine k_irem (v := v_62) C (by decide) e_63.symm dX12_shift_142 ?_
        refine lv_if_ne (tgt := 172) C.1 C.2.1 dX12_shift_143 (by decide) (fun c_65 => ?_) (fun c_65 => ?_)
        · replace c_65 : ¬ v_62.toInt = 0 := i_ne c_65
          refine lv_lload_n C.1 C.2.1 dX12_shift_172 rfl (lv_at hl 3 rfl) ?_
          refine lv_bipush (v := 6) C.1 C.2.1 dX12_shift_173 (by decide) ?_
          obtain ⟨v_66, e_67⟩ : ∃ z, z = (w110_3 : Int64) >>> ((6 : Int32).toInt64 &&& 63) := ⟨_, rfl⟩
          refine lv_lshr (v := v_66) C.1 C.2.1 dX12_shift_175 e_67.symm ?_
          refine lv_aload_n C.1 C.2.1 dX12_shift_176 rfl (lv_at hl 0 rfl) ?_
          refine k_get (v := .int (t1.1 0 17)) C hP 0 rfl rfl inlX12 17 (by decide) m_57_4 rfl dX12_shift_177 ?_
          refine lv_iconst (v := 5) C.1 C.2.1 dX12_shift_180 (by decide) ?_
          refine lv_icmp_ne (tgt := 196) C.1 C.2.1 dX12_shift_181 (by decide) (fun c_68 => ?_) (fun c_68 => ?_)
          · replace c_68 : ¬ (t1.1 0 17).toInt = 5 := i_ne c_68
            refine lv_lconst (v := 0) C.1 C.2.1 dX12_shift_196 (by decide) ?_
            exact L_197 t1 w110_1 w110_2 w110_3 w110_5 w110_7 v_55 v_58 v_66 0 _ _ _ hok hfr ⟨by omega, by omega⟩ ⟨by omega, by omega⟩ ⟨by omega, by omega⟩ (show (10 : Int) - w110_7.toInt < (fuel_110 : Int) + 1 from by omega) hP hD hS (lv_sub hl [0, 1, 2, 3, 4, 5, 6, 7] rfl)
          · replace c_68 : (t1.1 0 17).toInt = 5 := i_eq c_68
            refine lv_lload C.1 C.2.1 dX12_shift_184 (lv_at hl 7 rfl) ?_
            refine lv_bipush (v := 6) C.1 C.2.1 dX12_shift_186 (by decide) ?_
            refine lv_iload_n C.1 C.2.1 dX12_shift_188 rfl (lv_at hl 1 rfl) ?_
            refine lv_iconst (v := 1) C.1 C.2.1 dX12_shift_189 (by decide) ?_
            obtain ⟨v_69, e_70⟩ : ∃ z, z = (w110_1 : Int32) - (1 : Int32) := ⟨_, rfl⟩
            have h_71 : v_69.toInt = w110_1.toInt - 1 := by rw [e_70]; exact ti_isub (by show (_ : Int) ≤ w110_1.toInt - 1; omega) (by show w110_1.toInt - 1 < (_ : Int); omega)
            refine k_isub (v := v_69) C e_70.symm dX12_shift_190 ?_
            obtain ⟨v_72, e_73⟩ : ∃ z, z = (6 : Int32) * (v_69 : Int32) := ⟨_, rfl⟩
            have h_74 : v_72.toInt = 6 * v_69.toInt := by rw [e_73]; exact ti_mull (k := 6) (by decide) (by omega) (by omega)
            refine k_imul (v := v_72) C e_73.symm dX12_shift_191 ?_
            obtain ⟨v_75, e_76⟩ : ∃ z, z = (v_58 : Int64) <<< ((v_72 : Int32).toInt64 &&& 63) := ⟨_, rfl⟩
            refine lv_lshl (v := v_75) C.1 C.2.1 dX12_shift_192 e_76.symm ?_
            refine lv_goto (tgt := 197) C.1 C.2.1 dX12_shift_193 (by decide) ?_
            exact L_197 t1 w110_1 w110_2 w110_3 w110_5 w110_7 v_55 v_58 v_66 v_75 _ _ _ hok hfr ⟨by omega, by omega⟩ ⟨by omega, by omega⟩ ⟨by omega, by omega⟩ (show (10 : Int) - w110_7.toInt < (fuel_110 : Int) + 1 from by omega) hP hD hS (lv_sub hl [0, 1, 2, 3, 4, 5, 6, 7] rfl)
        · replace c_65 : v_62.toInt = 0 := i_eq c_65
          refine lv_lload_n C.1 C.2.1 dX12_shift_146 rfl (lv_at hl 3 rfl) ?_
          refine lv_bipush (v := 6) C.1 C.2.1 dX12_shift_147 (by decide) ?_
          obtain ⟨v_77, e_78⟩ : ∃ z, z = (w110_3 : Int64) <<< ((6 : Int32).toInt64 &&& 63) := ⟨_, rfl⟩
          refine lv_lshl (v := v_77) C.1 C.2.1 dX12_shift_149 e_78.symm ?_
          refine lv_lload C.1 C.2.1 dX12_shift_150 (lv_at hl 4 rfl) ?_
          obtain ⟨v_79, e_80⟩ : ∃ z, z = (v_77 : Int64) &&& w110_5 := ⟨_, rfl⟩
          refine lw_land (v := v_79) C.1 C.2.1 dX12_shift_152 e_80.symm ?_
          refine lv_aload_n C.1 C.2.1 dX12_shift_153 rfl (lv_at hl 0 rfl) ?_
          refine k_get (v := .int (t1.1 0 17)) C hP 0 rfl rfl inlX12 17 (by decide) m_57_4 rfl dX12_shift_154 ?_
          refine lv_iconst (v := 4) C.1 C.2.1 dX12_shift_157 (by decide) ?_
          refine lv_icmp_ne (tgt := 166) C.1 C.2.1 dX12_shift_158 (by decide) (fun c_81 => ?_) (fun c_81 => ?_)
          · replace c_81 : ¬ (t1.1 0 17).toInt = 4 := i_ne c_81
            refine lv_lconst (v := 0) C.1 C.2.1 dX12_shift_166 (by decide) ?_
            exact L_167 t1 w110_1 w110_2 w110_3 w110_5 w110_7 v_55 v_58 v_79 0 _ _ _ hok hfr ⟨by omega, by omega⟩ ⟨by omega, by omega⟩ ⟨by omega, by omega⟩ (show (10 : Int) - w110_7.toInt < (fuel_110 : Int) + 1 from by omega) hP hD hS (lv_sub hl [0, 1, 2, 3, 4, 5, 6, 7] rfl)
          · replace c_81 : (t1.1 0 17).toInt = 4 := i_eq c_81
            refine lv_lload C.1 C.2.1 dX12_shift_161 (lv_at hl 6 rfl) ?_
            refine lv_goto (tgt := 167) C.1 C.2.1 dX12_shift_163 (by decide) ?_
            exact L_167 t1 w110_1 w110_2 w110_3 w110_5 w110_7 v_55 v_58 v_79 v_55 _ _ _ hok hfr ⟨by omega, by omega⟩ ⟨by omega, by omega⟩ ⟨by omega, by omega⟩ (show (10 : Int) - w110_7.toInt < (fuel_110 : Int) + 1 from by omega) hP hD hS (lv_sub hl [0, 1, 2, 3, 4, 5, 6, 7] rfl)
  have L_96 : ∀ (t1 : tSt) (w96_1 : Int32) (w96_2 : Int32) (k96_0 : Int64) (H : Heap) (locs : List Loc) (ls : Array Slot), okM t1 → frA [] [] [3] [] t t1 → (5 : Int) ≤ w96_1.toInt ∧ w96_1.toInt ≤ 10 → (-2147483648 : Int) ≤ w96_2.toInt ∧ w96_2.toInt ≤ 10 → va_P D vwCl (WM K ad t1) H → va_D A (WM K ad t1) → va_S A s.heap H locs → lv_has ls 12 [(0, .ref (ad 0)), (1, .int w96_1), (2, .int w96_2)] → W p l e (rmD 0 0 0) s m [.ref (ad 0)].toArray below meth c H locs 0 0 (MQ below (QV D K (fun (u : tSt) => okM u ∧ frA [] [] [3] [] t u) (fun (u : tSt) => WM K ad u) A) [.ref (ad 0)].toArray s 0 0 A) (F0 m 96 ls [.long k96_0]) := by
    intro t1 w96_1 w96_2 k96_0 H locs ls hok hfr hw96_1 hw96_2 hP hD hS hl
    refine lv_lstore_n (lv' := [(3, .long k96_0), (0, .ref (ad 0)), (1, .int w96_1), (2, .int w96_2)]) C.1 C.2.1 dX12_shift_96 rfl hl (by decide) rfl (fun ls hl => ?_)
    have hl : lv_has ls 12 [(0, .ref (ad 0)), (1, .int w96_1), (2, .int w96_2), (3, .long k96_0)] := lv_sub hl [1, 2, 3, 0] rfl
    refine lv_lconst (v := 1) C.1 C.2.1 dX12_shift_97 (by decide) ?_
    refine lv_bipush (v := 6) C.1 C.2.1 dX12_shift_98 (by decide) ?_
    refine lv_iload_n C.1 C.2.1 dX12_shift_100 rfl (lv_at hl 1 rfl) ?_
    obtain ⟨v_82, e_83⟩ : ∃ z, z = (6 : Int32) * (w96_1 : Int32) := ⟨_, rfl⟩
    have h_84 : v_82.toInt = 6 * w96_1.toInt := by rw [e_83]; exact ti_mull (k := 6) (by decide) (by omega) (by omega)
    refine k_imul (v := v_82) C e_83.symm dX12_shift_101 ?_
    obtain ⟨v_85, e_86⟩ : ∃ z, z = (1 : Int64) <<< ((v_82 : Int32).toInt64 &&& 63) := ⟨_, rfl⟩
    refine lv_lshl (v := v_85) C.1 C.2.1 dX12_shift_102 e_86.symm ?_
    refine lv_lconst (v := 1) C.1 C.2.1 dX12_shift_103 (by decide) ?_
    obtain ⟨v_87, e_88⟩ : ∃ z, z = (v_85 : Int64) - (1 : Int64) := ⟨_, rfl⟩
    refine k_lsub (v := v_87) C e_88.symm dX12_shift_104 ?_
    refine lv_lstore (lv' := [(5, .long v_87), (0, .ref (ad 0)), (1, .int w96_1), (2, .int w96_2), (3, .long k96_0)]) C.1 C.2.1 dX12_shift_105 hl (by decide) rfl (fun ls hl => ?_)
    have hl : lv_has ls 12 [(0, .ref (ad 0)), (1, .int w96_1), (2, .int w96_2), (3, .long k96_0), (5, .long v_87)] := lv_sub hl [1, 2, 3, 4, 0] rfl
    refine lv_iconst (v := 0) C.1 C.2.1 dX12_shift_107 (by decide) ?_
    refine lv_istore (lv' := [(7, .int 0), (0, .ref (ad 0)), (1, .int w96_1), (2, .int w96_2), (3, .long k96_0), (5, .long v_87)]) C.1 C.2.1 dX12_shift_108 hl (by decide) rfl (fun ls hl => ?_)
    have hl : lv_has ls 12 [(0, .ref (ad 0)), (1, .int w96_1), (2, .int w96_2), (3, .long k96_0), (5, .long v_87), (7, .int 0)] := lv_sub hl [1, 2, 3, 4, 5, 0] rfl
    exact L_110 11 t1 w96_1 w96_2 k96_0 v_87 0 _ _ _ hok hfr ⟨by omega, by omega⟩ ⟨(i_rng _).1, by omega⟩ ⟨by decide, by decide⟩ (show (10 : Int) - 0 < ((11 : Nat) : Int) from by omega) hP hD hS (lv_sub hl [0, 1, 2, 3, 4, 5] rfl)
  have L_49 : ∀ (t1 : tSt) (w49_1 : Int32) (k49_0 : Int32) (H : Heap) (locs : List Loc) (ls : Array Slot), okM t1 → frA [] [] [3] [] t t1 → (5 : Int) ≤ w49_1.toInt ∧ w49_1.toInt ≤ 10 → (-2147483648 : Int) ≤ k49_0.toInt ∧ k49_0.toInt ≤ 10 → va_P D vwCl (WM K ad t1) H → va_D A (WM K ad t1) → va_S A s.heap H locs → lv_has ls 12 [(0, .ref (ad 0)), (1, .int w49_1)] → W p l e (rmD 0 0 0) s m [.ref (ad 0)].toArray below meth c H locs 0 0 (MQ below (QV D K (fun (u : tSt) => okM u ∧ frA [] [] [3] [] t u) (fun (u : tSt) => WM K ad u) A) [.ref (ad 0)].toArray s 0 0 A) (F0 m 49 ls [.int k49_0]) := by
    intro t1 w49_1 k49_0 H locs ls hok hfr hw49_1 hk49_0 hP hD hS hl
    refine lv_istore_n (lv' := [(2, .int k49_0), (0, .ref (ad 0)), (1, .int w49_1)]) C.1 C.2.1 dX12_shift_49 rfl hl (by decide) rfl (fun ls hl => ?_)
    have hl : lv_has ls 12 [(0, .ref (ad 0)), (1, .int w49_1), (2, .int k49_0)] := lv_sub hl [1, 2, 0] rfl
    refine lv_aload_n C.1 C.2.1 dX12_shift_50 rfl (lv_at hl 0 rfl) ?_
    have h_89 : (0 : Int) ≤ (t1.1 0 17).toInt ∧ (t1.1 0 17).toInt ≤ 63 := hok.1 0 17
    refine k_get (v := .int (t1.1 0 17)) C hP 0 rfl rfl inlX12 17 (by decide) m_57_4 rfl dX12_shift_51 ?_
    refine lv_iconst (v := 2) C.1 C.2.1 dX12_shift_54 (by decide) ?_
    refine lv_icmp_ge (tgt := 71) C.1 C.2.1 dX12_shift_55 (by decide) (fun c_90 => ?_) (fun c_90 => ?_)
    · replace c_90 : 2 ≤ (t1.1 0 17).toInt := i_le c_90
      refine lv_aload_n C.1 C.2.1 dX12_shift_71 rfl (lv_at hl 0 rfl) ?_
      refine k_get (v := .ref (ad 3)) C hP 0 rfl rfl inlX12 4 (by decide) m_7_6 rfl dX12_shift_72 ?_
      refine lv_iconst (v := 0) C.1 C.2.1 dX12_shift_75 (by decide) ?_
      obtain ⟨v_91, e_92⟩ : ∃ z, z = (t1.2.2.1 3 (0 : Int32).toNatClampNeg) := ⟨_, rfl⟩
      refine k_ild (v := v_91) C hP 3 rfl (vin (by decide)) e_92.symm dX12_shift_76 ?_
      refine lv_ldc (v := 1073741823) C.1 C.2.1 C.2.2.2.1 (C.2.2.2.2.1 _ m_36_12) dX12_shift_77 ?_
      obtain ⟨v_93, e_94⟩ : ∃ z, z = (v_91 : Int32) &&& (1073741823 : Int32) := ⟨_, rfl⟩
      have h_95 : v_93.toInt = v_91.toInt % 2 ^ 30 := by rw [e_94]; exact Jvm.Kit.i32_mask _ _ (k := 30) (by decide) (by decide)
      refine k_iand (v := v_93) C e_94.symm dX12_shift_79 ?_
      obtain ⟨v_96, e_97⟩ : ∃ z, z = (v_93 : Int32).toInt64 := ⟨_, rfl⟩
      have h_98 : v_96.toInt = v_93.toInt := by rw [e_97]; exact Jvm.Kit.i64_of_i32 _
      refine lv_i2l (v := v_96) C.1 C.2.1 dX12_shift_80 e_97.symm ?_
      refine lv_bipush (v := 30) C.1 C.2.1 dX12_shift_81 (by decide) ?_
      obtain ⟨v_99, e_100⟩ : ∃ z, z = (v_96 : Int64) <<< ((30 : Int32).toInt64 &&& 63) := ⟨_, rfl⟩
      refine lv_lshl (v := v_99) C.1 C.2.1 dX12_shift_83 e_100.symm ?_
      refine lv_aload_n C.1 C.2.1 dX12_shift_84 rfl (lv_at hl 0 rfl) ?_
      refine k_get (v := .ref (ad 3)) C hP 0 rfl rfl inlX12 4 (by decide) m_7_6 rfl dX12_shift_85 ?_
      refine lv_bipush (v := 7) C.1 C.2.1 dX12_shift_88 (by decide) ?_
      obtain ⟨v_101, e_102⟩ : ∃ z, z = (t1.2.2.1 3 (7 : Int32).toNatClampNeg) := ⟨_, rfl⟩
      refine k_ild (v := v_101) C hP 3 rfl (vin (by decide)) e_102.symm dX12_shift_90 ?_
      refine lv_ldc (v := 1073741823) C.1 C.2.1 C.2.2.2.1 (C.2.2.2.2.1 _ m_36_12) dX12_shift_91 ?_
      obtain ⟨v_103, e_104⟩ : ∃ z, z = (v_101 : Int32) &&& (1073741823 : Int32) := ⟨_, rfl⟩
      have h_105 : v_103.toInt = v_101.toInt % 2 ^ 30 := by rw [e_104]; exact Jvm.Kit.i32_mask _ _ (k := 30) (by decide) (by decide)
      refine k_iand (v := v_103) C e_104.symm dX12_shift_93 ?_
      obtain ⟨v_106, e_107⟩ : ∃ z, z = (v_103 : Int32).toInt64 := ⟨_, rfl⟩
      have h_108 : v_106.toInt = v_103.toInt := by rw [e_107]; exact Jvm.Kit.i64_of_i32 _
      refine lv_i2l (v := v_106) C.1 C.2.1 dX12_shift_94 e_107.symm ?_
      obtain ⟨v_109, e_110⟩ : ∃ z, z = (v_99 : Int64) ||| v_106 := ⟨_, rfl⟩
      refine lw_lor (v := v_109) C.1 C.2.1 dX12_shift_95 e_110.symm ?_
      exact L_96 t1 w49_1 k49_0 v_109 _ _ _ hok hfr ⟨by omega, by omega⟩ ⟨(i_rng _).1, by omega⟩ hP hD hS (lv_sub hl [0, 1, 2] rfl)
    · replace c_90 : (t1.1 0 17).toInt < 2 := i_nle c_90
      refine lv_aload_n C.1 C.2.1 dX12_shift_58 rfl (lv_at hl 0 rfl) ?_
      refine k_get (v := .ref (ad 3)) C hP 0 rfl rfl inlX12 4 (by decide) m_7_6 rfl dX12_shift_59 ?_
      refine lv_iconst (v := 0) C.1 C.2.1 dX12_shift_62 (by decide) ?_
      obtain ⟨v_111, e_112⟩ : ∃ z, z = (t1.2.2.1 3 (0 : Int32).toNatClampNeg) := ⟨_, rfl⟩
      refine k_ild (v := v_111) C hP 3 rfl (vin (by decide)) e_112.symm dX12_shift_63 ?_
      refine lv_ldc (v := 1073741823) C.1 C.2.1 C.2.2.2.1 (C.2.2.2.2.1 _ m_36_12) dX12_shift_64 ?_
      obtain ⟨v_113, e_114⟩ : ∃ z, z = (v_111 : Int32) &&& (1073741823 : Int32) := ⟨_, rfl⟩
      have h_115 : v_113.toInt = v_111.toInt % 2 ^ 30 := by rw [e_114]; exact Jvm.Kit.i32_mask _ _ (k := 30) (by decide) (by decide)
      refine k_iand (v := v_113) C e_114.symm dX12_shift_66 ?_
      obtain ⟨v_116, e_117⟩ : ∃ z, z = (v_113 : Int32).toInt64 := ⟨_, rfl⟩
      have h_118 : v_116.toInt = v_113.toInt := by rw [e_117]; exact Jvm.Kit.i64_of_i32 _
      refine lv_i2l (v := v_116) C.1 C.2.1 dX12_shift_67 e_117.symm ?_
      refine lv_goto (tgt := 96) C.1 C.2.1 dX12_shift_68 (by decide) ?_
      exact L_96 t1 w49_1 k49_0 v_116 _ _ _ hok hfr ⟨by omega, by omega⟩ ⟨(i_rng _).1, by omega⟩ hP hD hS (lv_sub hl [0, 1, 2] rfl)
  have L_14 : ∀ (t1 : tSt) (k14_0 : Int32) (H : Heap) (locs : List Loc) (ls : Array Slot), okM t1 → frA [] [] [3] [] t t1 → (5 : Int) ≤ k14_0.toInt ∧ k14_0.toInt ≤ 10 → va_P D vwCl (WM K ad t1) H → va_D A (WM K ad t1) → va_S A s.heap H locs → lv_has ls 12 [(0, .ref (ad 0))] → W p l e (rmD 0 0 0) s m [.ref (ad 0)].toArray below meth c H locs 0 0 (MQ below (QV D K (fun (u : tSt) => okM u ∧ frA [] [] [3] [] t u) (fun (u : tSt) => WM K ad u) A) [.ref (ad 0)].toArray s 0 0 A) (F0 m 14 ls [.int k14_0]) := by
    intro t1 k14_0 H locs ls hok hfr hk14_0 hP hD hS hl
    refine lv_istore_n (lv' := [(1, .int k14_0), (0, .ref (ad 0))]) C.1 C.2.1 dX12_shift_14 rfl hl (by decide) rfl (fun ls hl => ?_)
    have hl : lv_has ls 12 [(0, .ref (ad 0)), (1, .int k14_0)] := lv_sub hl [1, 0] rfl
    refine lv_aload_n C.1 C.2.1 dX12_shift_15 rfl (lv_at hl 0 rfl) ?_
    have h_119 : (0 : Int) ≤ (t1.1 0 17).toInt ∧ (t1.1 0 17).toInt ≤ 63 := hok.1 0 17
    refine k_get (v := .int (t1.1 0 17)) C hP 0 rfl rfl inlX12 17 (by decide) m_57_4 rfl dX12_shift_16 ?_
    refine lv_iconst (v := 3) C.1 C.2.1 dX12_shift_19 (by decide) ?_
    refine lv_icmp_le (tgt := 33) C.1 C.2.1 dX12_shift_20 (by decide) (fun c_120 => ?_) (fun c_120 => ?_)
    · replace c_120 : (t1.1 0 17).toInt ≤ 3 := i_le c_120
      refine lv_aload_n C.1 C.2.1 dX12_shift_33 rfl (lv_at hl 0 rfl) ?_
      refine k_get (v := .int (t1.1 0 18)) C hP 0 rfl rfl inlX12 18 (by decide) m_57_5 rfl dX12_shift_34 ?_
      refine lv_iload_n C.1 C.2.1 dX12_shift_37 rfl (lv_at hl 1 rfl) ?_
      refine lv_icmp_le (tgt := 45) C.1 C.2.1 dX12_shift_38 (by decide) (fun c_121 => ?_) (fun c_121 => ?_)
      · replace c_121 : (t1.1 0 18).toInt ≤ k14_0.toInt := i_le c_121
        refine lv_aload_n C.1 C.2.1 dX12_shift_45 rfl (lv_at hl 0 rfl) ?_
        refine k_get (v := .int (t1.1 0 18)) C hP 0 rfl rfl inlX12 18 (by decide) m_57_5 rfl dX12_shift_46 ?_
        exact L_49 t1 k14_0 (t1.1 0 18) _ _ _ hok hfr ⟨by omega, by omega⟩ ⟨(i_rng _).1, by omega⟩ hP hD hS (lv_sub hl [0, 1] rfl)
      · replace c_121 : k14_0.toInt < (t1.1 0 18).toInt := i_nle c_121
        refine lv_iload_n C.1 C.2.1 dX12_shift_41 rfl (lv_at hl 1 rfl) ?_
        refine lv_goto (tgt := 49) C.1 C.2.1 dX12_shift_42 (by decide) ?_
        exact L_49 t1 k14_0 k14_0 _ _ _ hok hfr ⟨by omega, by omega⟩ ⟨(i_rng _).1, by omega⟩ hP hD hS (lv_sub hl [0, 1] rfl)
    · replace c_120 : 3 < (t1.1 0 17).toInt := i_nle c_120
      refine lv_aload_n C.1 C.2.1 dX12_shift_23 rfl (lv_at hl 0 rfl) ?_
      refine k_get (v := .int (t1.1 0 18)) C hP 0 rfl rfl inlX12 18 (by decide) m_57_5 rfl dX12_shift_24 ?_
      refine lv_bipush (v := 10) C.1 C.2.1 dX12_shift_27 (by decide) ?_
      obtain ⟨v_122, e_123⟩ : ∃ z, z = ((t1.1 0 18) : Int32) - ((t1.1 0 18) : Int32) / (10 : Int32) * (10 : Int32) := ⟨_, rfl⟩
      have h_124 : (-10 : Int) < v_122.toInt ∧ v_122.toInt < 10 := by rw [e_123]; exact z_remb (k := 10) (by decide) (by decide)
      refine k_irem (v := v_122) C (by decide) e_123.symm dX12_shift_29 ?_
      refine lv_goto (tgt := 49) C.1 C.2.1 dX12_shift_30 (by decide) ?_
      exact L_49 t1 k14_0 v_122 _ _ _ hok hfr ⟨by omega, by omega⟩ ⟨(i_rng _).1, by omega⟩ hP hD hS (lv_sub hl [0, 1] rfl)
  refine lv_aload_n C.1 C.2.1 dX12_shift_0 rfl (lv_at hl 0 rfl) ?_
  have h_125 : (0 : Int) ≤ (t.1 0 17).toInt ∧ (t.1 0 17).toInt ≤ 63 := hok.1 0 17
  refine k_get (v := .int (t.1 0 17)) C hP 0 rfl rfl inlX12 17 (by decide) m_57_4 rfl dX12_shift_1 ?_
  refine lv_iconst (v := 2) C.1 C.2.1 dX12_shift_4 (by decide) ?_
  refine lv_icmp_ge (tgt := 12) C.1 C.2.1 dX12_shift_5 (by decide) (fun c_126 => ?_) (fun c_126 => ?_)
  · replace c_126 : 2 ≤ (t.1 0 17).toInt := i_le c_126
    refine lv_bipush (v := 10) C.1 C.2.1 dX12_shift_12 (by decide) ?_
    exact L_14 t 10 _ _ _ hok hfr ⟨by decide, by decide⟩ hP hD hS (lv_sub hl [0] rfl)
  · replace c_126 : (t.1 0 17).toInt < 2 := i_nle c_126
    refine lv_iconst (v := 5) C.1 C.2.1 dX12_shift_8 (by decide) ?_
    refine lv_goto (tgt := 14) C.1 C.2.1 dX12_shift_9 (by decide) ?_
    exact L_14 t 5 _ _ _ hok hfr ⟨by decide, by decide⟩ hP hD hS (lv_sub hl [0] rfl)

theorem dX12_moveWords_0 : decode cX12_moveWords 0 = .ok (.aload_n 0, 1) := by decide +kernel
theorem dX12_moveWords_1 : decode cX12_moveWords 1 = .ok (.getfield 17, 3) := by decide +kernel
theorem dX12_moveWords_10 : decode cX12_moveWords 10 = .ok (.iconst 0, 1) := by decide +kernel
theorem dX12_moveWords_11 : decode cX12_moveWords 11 = .ok (.istore_n 2, 1) := by decide +kernel
theorem dX12_moveWords_12 : decode cX12_moveWords 12 = .ok (.iload_n 2, 1) := by decide +kernel
theorem dX12_moveWords_13 : decode cX12_moveWords 13 = .ok (.aload_n 0, 1) := by decide +kernel
theorem dX12_moveWords_14 : decode cX12_moveWords 14 = .ok (.getfield 289, 3) := by decide +kernel
theorem dX12_moveWords_17 : decode cX12_moveWords 17 = .ok (.if_icmp .ge 26, 3) := by decide +kernel
theorem dX12_moveWords_20 : decode cX12_moveWords 20 = .ok (.aload_n 0, 1) := by decide +kernel
theorem dX12_moveWords_21 : decode cX12_moveWords 21 = .ok (.iload_n 1, 1) := by decide +kernel
theorem dX12_moveWords_22 : decode cX12_moveWords 22 = .ok (.iload_n 2, 1) := by decide +kernel
theorem dX12_moveWords_23 : decode cX12_moveWords 23 = .ok (.iadd, 1) := by decide +kernel
theorem dX12_moveWords_24 : decode cX12_moveWords 24 = .ok (.aload_n 0, 1) := by decide +kernel
theorem dX12_moveWords_25 : decode cX12_moveWords 25 = .ok (.aload_n 0, 1) := by decide +kernel
theorem dX12_moveWords_26 : decode cX12_moveWords 26 = .ok (.getfield 251, 3) := by decide +kernel
theorem dX12_moveWords_29 : decode cX12_moveWords 29 = .ok (.iload_n 2, 1) := by decide +kernel
theorem dX12_moveWords_30 : decode cX12_moveWords 30 = .ok (.iadd, 1) := by decide +kernel
theorem dX12_moveWords_31 : decode cX12_moveWords 31 = .ok (.invokevirtual 260, 3) := by decide +kernel
theorem dX12_moveWords_34 : decode cX12_moveWords 34 = .ok (.invokevirtual 214, 3) := by decide +kernel
theorem dX12_moveWords_37 : decode cX12_moveWords 37 = .ok (.iinc 2 1, 3) := by decide +kernel
theorem dX12_moveWords_4 : decode cX12_moveWords 4 = .ok (.iconst 1, 1) := by decide +kernel
theorem dX12_moveWords_40 : decode cX12_moveWords 40 = .ok (.goto (-28), 3) := by decide +kernel
theorem dX12_moveWords_43 : decode cX12_moveWords 43 = .ok (.aload_n 0, 1) := by decide +kernel
theorem dX12_moveWords_44 : decode cX12_moveWords 44 = .ok (.getfield 289, 3) := by decide +kernel
theorem dX12_moveWords_47 : decode cX12_moveWords 47 = .ok (.ifCond .ne 4, 3) := by decide +kernel
theorem dX12_moveWords_5 : decode cX12_moveWords 5 = .ok (.iaload, 1) := by decide +kernel
theorem dX12_moveWords_50 : decode cX12_moveWords 50 = .ok (.return_, 1) := by decide +kernel
theorem dX12_moveWords_51 : decode cX12_moveWords 51 = .ok (.iload_n 1, 1) := by decide +kernel
theorem dX12_moveWords_52 : decode cX12_moveWords 52 = .ok (.aload_n 0, 1) := by decide +kernel
theorem dX12_moveWords_53 : decode cX12_moveWords 53 = .ok (.getfield 289, 3) := by decide +kernel
theorem dX12_moveWords_56 : decode cX12_moveWords 56 = .ok (.iadd, 1) := by decide +kernel
theorem dX12_moveWords_57 : decode cX12_moveWords 57 = .ok (.istore_n 2, 1) := by decide +kernel
theorem dX12_moveWords_58 : decode cX12_moveWords 58 = .ok (.aload_n 0, 1) := by decide +kernel
theorem dX12_moveWords_59 : decode cX12_moveWords 59 = .ok (.getfield 17, 3) := by decide +kernel
theorem dX12_moveWords_6 : decode cX12_moveWords 6 = .ok (.invokestatic 161, 3) := by decide +kernel
theorem dX12_moveWords_62 : decode cX12_moveWords 62 = .ok (.iconst 1, 1) := by decide +kernel
theorem dX12_moveWords_63 : decode cX12_moveWords 63 = .ok (.iload_n 2, 1) := by decide +kernel
theorem dX12_moveWords_64 : decode cX12_moveWords 64 = .ok (.ifCond .ne 15, 3) := by decide +kernel
theorem dX12_moveWords_67 : decode cX12_moveWords 67 = .ok (.aload_n 0, 1) := by decide +kernel
theorem dX12_moveWords_68 : decode cX12_moveWords 68 = .ok (.getfield 17, 3) := by decide +kernel
theorem dX12_moveWords_71 : decode cX12_moveWords 71 = .ok (.iconst 1, 1) := by decide +kernel
theorem dX12_moveWords_72 : decode cX12_moveWords 72 = .ok (.iaload, 1) := by decide +kernel
theorem dX12_moveWords_73 : decode cX12_moveWords 73 = .ok (.ldc 158, 2) := by decide +kernel
theorem dX12_moveWords_75 : decode cX12_moveWords 75 = .ok (.iand, 1) := by decide +kernel
theorem dX12_moveWords_76 : decode cX12_moveWords 76 = .ok (.goto 8, 3) := by decide +kernel
theorem dX12_moveWords_79 : decode cX12_moveWords 79 = .ok (.iload_n 2, 1) := by decide +kernel
theorem dX12_moveWords_80 : decode cX12_moveWords 80 = .ok (.i2l, 1) := by decide +kernel
theorem dX12_moveWords_81 : decode cX12_moveWords 81 = .ok (.invokestatic 342, 3) := by decide +kernel
theorem dX12_moveWords_84 : decode cX12_moveWords 84 = .ok (.iastore, 1) := by decide +kernel
theorem dX12_moveWords_85 : decode cX12_moveWords 85 = .ok (.return_, 1) := by decide +kernel
theorem dX12_moveWords_9 : decode cX12_moveWords 9 = .ok (.istore_n 1, 1) := by decide +kernel
set_option maxHeartbeats 4000000 in
set_option maxRecDepth 100000 in
theorem T_X12_moveWords (l : Launch) (D : va_G) (K : Nat → ClassId) (Z Y : Nat → Nat) (ad : Nat → Nat) (t : tSt) (hok : okM t) (hs0 : gdA (t.1 0 16) (t.1 0 17) (t.1 0 18) (t.2.2.1 3)) (hs1 : (t.1 0 16).toInt = 7) : tMet l yX12_moveWords cX12_moveWords 3 none (rmD 1 0 0) D K Z Y [.ref (ad 0)] (WM K ad t) (QV D K (fun (u : tSt) => okM u ∧ frA [] [] [2, 3] [] t u) (fun (u : tSt) => WM K ad u)) 0 0 := by
  refine t_met RX12 ⟨rfl, by decide +kernel⟩ (Nat.le_of_ble_eq_true rfl) ?_
  intro p e s m below meth c A ls C hE hZ hr hlocks hA hP hD hS hl
  have hl : lv_has ls 3 [(0, .ref (ad 0))] := hl
  have hokt := hok
  have hfr : frA [] [] [2, 3] [] t t := frA_rf
  have h_1 : (0 : Int) ≤ (t.1 0 16).toInt ∧ (t.1 0 16).toInt ≤ 63 := hok.1 0 16
  have h_2 : (0 : Int) ≤ (t.1 0 17).toInt ∧ (t.1 0 17).toInt ≤ 63 := hok.1 0 17
  have L_12 : ∀ (fuel_12 : Nat) (t1 : tSt) (w12_1 : Int32) (w12_2 : Int32) (H : Heap) (locs : List Loc) (ls : Array Slot), okM t1 → frA [] [] [2, 3] [] t t1 → (0 : Int) ≤ w12_2.toInt ∧ w12_2.toInt ≤ 63 → ((t1.1 0 17).toInt < 1 ∨ (-3999 ≤ w12_1.toInt ∧ w12_1.toInt + (t1.1 0 17).toInt ≤ 4000)) → ((t1.1 0 17).toInt < 1 ∨ (-3999 ≤ (t1.1 0 18).toInt ∧ (t1.1 0 18).toInt + (t1.1 0 17).toInt ≤ 4000)) → (63 : Int) - w12_2.toInt < (fuel_12 : Int) → va_P D vwCl (WM K ad t1) H → va_D A (WM K ad t1) → va_S A s.heap H locs → lv_has ls 3 [(0, .ref (ad 0)), (1, .int w12_1), (2, .int w12_2)] → W p l e (rmD 1 0 0) s m [.ref (ad 0)].toArray below meth c H locs 0 0 (MQ below (QV D K (fun (u : tSt) => okM u ∧ frA [] [] [2, 3] [] t u) (fun (u : tSt) => WM K ad u) A) [.ref (ad 0)].toArray s 0 0 A) (F0 m 12 ls []) := by
    intro fuel_12
    induction fuel_12 with
    | zero =>
      intro t1 w12_1 w12_2 H locs ls hok hfr hw12_2 hi12_0 hi12_1 hm12_12 hP hD hS hl
      have h_3 : (t1.1 0 16).toInt = (t.1 0 16).toInt := ti_eq (hfr.1 0 16 rfl)
      have h_4 : (t1.1 0 17).toInt = (t.1 0 17).toInt := ti_eq (hfr.1 0 17 rfl)
      have h_5 : (t1.1 0 18).toInt = (t.1 0 18).toInt := ti_eq (hfr.1 0 18 rfl)
      have h_6 : (0 : Int) ≤ (t1.1 0 16).toInt ∧ (t1.1 0 16).toInt ≤ 63 := hok.1 0 16
      have h_7 : (0 : Int) ≤ (t1.1 0 17).toInt ∧ (t1.1 0 17).toInt ≤ 63 := hok.1 0 17
      exact absurd hm12_12 (by omega)
    | succ fuel_12 ih_12 =>
      intro t1 w12_1 w12_2 H locs ls hok hfr hw12_2 hi12_0 hi12_1 hm12_12 hP hD hS hl
      have hm12_12 : (63 : Int) - w12_2.toInt < (fuel_12 : Int) + 1 := by omega
      have h_8 : (t1.1 0 16).toInt = (t.1 0 16).toInt := ti_eq (hfr.1 0 16 rfl)
      have h_9 : (t1.1 0 17).toInt = (t.1 0 17).toInt := ti_eq (hfr.1 0 17 rfl)
      have h_10 : (t1.1 0 18).toInt = (t.1 0 18).toInt := ti_eq (hfr.1 0 18 rfl)
      have h_11 : (0 : Int) ≤ (t1.1 0 16).toInt ∧ (t1.1 0 16).toInt ≤ 63 := hok.1 0 16
      have h_12 : (0 : Int) ≤ (t1.1 0 17).toInt ∧ (t1.1 0 17).toInt ≤ 63 := hok.1 0 17
      refine lv_iload_n C.1 C.2.1 dX12_moveWords_12 rfl (lv_at hl 2 rfl) ?_
      refine lv_aload_n C.1 C.2.1 dX12_moveWords_13 rfl (lv_at hl 0 rfl) ?_
      refine k_get (v := .int (t1.1 0 17)) C hP 0 rfl rfl inlX12 17 (by decide) m_57_4 rfl dX12_moveWords_14 ?_
      refine lv_icmp_ge (tgt := 43) C.1 C.2.1 dX12_moveWords_17 (by decide) (fun c_13 => ?_) (fun c_13 => ?_)
      · replace c_13 : (t1.1 0 17).toInt ≤ w12_2.toInt := i_le c_13
        refine lv_aload_n C.1 C.2.1 dX12_moveWords_43 rfl (lv_at hl 0 rfl) ?_
        refine k_get (v := .int (t1.1 0 17)) C hP 0 rfl rfl inlX12 17 (by decide) m_57_4 rfl dX12_moveWords_44 ?_
        refine lv_if_ne (tgt := 51) C.1 C.2.1 dX12_moveWords_47 (by decide) (fun c_14 => ?_) (fun c_14 => ?_)
        · replace c_14 : ¬ (t1.1 0 17).toInt = 0 := i_ne c_14
          refine lv_iload_n C.1 C.2.1 dX12_moveWords_51 rfl (lv_at hl 1 rfl) ?_
          refine lv_aload_n C.1 C.2.1 dX12_moveWords_52 rfl (lv_at hl 0 rfl) ?_
          refine k_get (v := .int (t1.1 0 17)) C hP 0 rfl rfl inlX12 17 (by decide) m_57_4 rfl dX12_moveWords_53 ?_
          obtain ⟨v_15, e_16⟩ : ∃ z, z = (w12_1 : Int32) + ((t1.1 0 17) : Int32) := ⟨_, rfl⟩
          refine k_iadd (v := v_15) C e_16.symm dX12_moveWords_56 ?_
          refine lv_istore_n (lv' := [(2, .int v_15), (0, .ref (ad 0)), (1, .int w12_1)]) C.1 C.2.1 dX12_moveWords_57 rfl hl (by decide) rfl (fun ls hl => ?_)
          have hl : lv_has ls 3 [(0, .ref (ad 0)), (1, .int w12_1), (2, .int v_15)] := lv_sub hl [1, 2, 0] rfl
          refine lv_aload_n C.1 C.2.1 dX12_moveWords_58 rfl (lv_at hl 0 rfl) ?_
          refine k_get (v := .ref (ad 3)) C hP 0 rfl rfl inlX12 4 (by decide) m_7_6 rfl dX12_moveWords_59 ?_
          refine lv_iconst (v := 1) C.1 C.2.1 dX12_moveWords_62 (by decide) ?_
          refine lv_iload_n C.1 C.2.1 dX12_moveWords_63 rfl (lv_at hl 2 rfl) ?_
          refine lv_if_ne (tgt := 79) C.1 C.2.1 dX12_moveWords_64 (by decide) (fun c_18 => ?_) (fun c_18 => ?_)
          · replace c_18 : ¬ v_15.toInt = 0 := i_ne c_18
            refine lv_iload_n C.1 C.2.1 dX12_moveWords_79 rfl (lv_at hl 2 rfl) ?_
            obtain ⟨v_19, e_20⟩ : ∃ z, z = (v_15 : Int32).toInt64 := ⟨_, rfl⟩
            have h_21 : v_19.toInt = v_15.toInt := by rw [e_20]; exact Jvm.Kit.i64_of_i32 _
            have h_22 := i_rng v_15
            refine lv_i2l (v := v_19) C.1 C.2.1 dX12_moveWords_80 e_20.symm ?_
            refine g_Si (As := [.long v_19]) (rest := [.int 1, .ref (ad 3)]) C hP hD hS hA (T_X12_wordOf l D K Z Y ad t1 hok (v_19)) hE hZ (uwS m_35_4 m_35_5 m_1_5 m_35_6) (hdS 1 (by decide +kernel) rfl) ⟨Nat.le_of_ble_eq_true rfl, Nat.le_of_ble_eq_true rfl⟩ rfl rfl rfl hl.1 (Nat.le_of_ble_eq_true rfl) dX12_moveWords_81 ⟨Nat.le_of_ble_eq_true rfl, Nat.le_of_ble_eq_true rfl⟩ (fun r_24 t_23 H locs hw hP hD hS => ?_)
            obtain ⟨h_26, h_27⟩ := hw
            refine k_ist (ws' := WM K ad (uB t1 3 (1 : Int32).toNatClampNeg r_24)) (x' := r_24) C hP hD hS 3 rfl (vin (by decide)) rfl rfl rfl dX12_moveWords_84 (fun H locs hP hD hS => ?_)
            have hok : okM (uB t1 3 (1 : Int32).toNatClampNeg r_24) := ⟨hok.1, okB_B hok.2.1 3 _ r_24 (show (-2147483648 : Int) ≤ (r_24 : Int32).toInt ∧ (r_24 : Int32).toInt ≤ 2147483647 from (i_rng _)), hok.2.2.1, hok.2.2.2.1, hok.2.2.2.2.1, hok.2.2.2.2.2.1, hok.2.2.2.2.2.2.1, trivial⟩
            have hfr : frA [] [] [2, 3] [] t (uB t1 3 (1 : Int32).toNatClampNeg r_24) := frA_B hfr 3 _ _ rfl
            exact g_vret C hr hlocks hP hD hS (uB t1 3 (1 : Int32).toNatClampNeg r_24) rfl ⟨hok, hfr⟩ (Nat.le_of_ble_eq_true rfl) (Nat.le_of_ble_eq_true rfl) dX12_moveWords_85
          · replace c_18 : v_15.toInt = 0 := i_eq c_18
            refine lv_aload_n C.1 C.2.1 dX12_moveWords_67 rfl (lv_at hl 0 rfl) ?_
            refine k_get (v := .ref (ad 3)) C hP 0 rfl rfl inlX12 4 (by decide) m_7_6 rfl dX12_moveWords_68 ?_
            refine lv_iconst (v := 1) C.1 C.2.1 dX12_moveWords_71 (by decide) ?_
            refine k_ild (v := (t1.2.2.1 3 (1 : Int32).toNatClampNeg)) C hP 3 rfl (vin (by decide)) rfl dX12_moveWords_72 ?_
            refine lv_ldc (v := 1073741824) C.1 C.2.1 C.2.2.2.1 (C.2.2.2.2.1 _ m_34_19) dX12_moveWords_73 ?_
            obtain ⟨v_28, e_29⟩ : ∃ z, z = ((t1.2.2.1 3 (1 : Int32).toNatClampNeg) : Int32) &&& (1073741824 : Int32) := ⟨_, rfl⟩
            have h_30 : (0 : Int) ≤ v_28.toInt ∧ v_28.toInt ≤ 1073741824 := by rw [e_29]; exact z_and _ (k := 1073741824) (by decide) (by decide)
            refine k_iand (v := v_28) C e_29.symm dX12_moveWords_75 ?_
            refine lv_goto (tgt := 84) C.1 C.2.1 dX12_moveWords_76 (by decide) ?_
            refine k_ist (ws' := WM K ad (uB t1 3 (1 : Int32).toNatClampNeg v_28)) (x' := v_28) C hP hD hS 3 rfl (vin (by decide)) rfl rfl rfl dX12_moveWords_84 (fun H locs hP hD hS => ?_)
            have hok : okM (uB t1 3 (1 : Int32).toNatClampNeg v_28) := ⟨hok.1, okB_B hok.2.1 3 _ v_28 (show (-2147483648 : Int) ≤ (v_28 : Int32).toInt ∧ (v_28 : Int32).toInt ≤ 2147483647 from (i_rng _)), hok.2.2.1, hok.2.2.2.1, hok.2.2.2.2.1, hok.2.2.2.2.2.1, hok.2.2.2.2.2.2.1, trivial⟩
            have hfr : frA [] [] [2, 3] [] t (uB t1 3 (1 : Int32).toNatClampNeg v_28) := frA_B hfr 3 _ _ rfl
            exact g_vret C hr hlocks hP hD hS (uB t1 3 (1 : Int32).toNatClampNeg v_28) rfl ⟨hok, hfr⟩ (Nat.le_of_ble_eq_true rfl) (Nat.le_of_ble_eq_true rfl) dX12_moveWords_85
        · replace c_14 : (t1.1 0 17).toInt = 0 := i_eq c_14
          exact g_vret C hr hlocks hP hD hS t1 rfl ⟨hok, hfr⟩ (Nat.le_of_ble_eq_true rfl) (Nat.le_of_ble_eq_true rfl) dX12_moveWords_50
      · replace c_13 : w12_2.toInt < (t1.1 0 17).toInt := i_nle c_13
        refine lv_aload_n C.1 C.2.1 dX12_moveWords_20 rfl (lv_at hl 0 rfl) ?_
        refine lv_iload_n C.1 C.2.1 dX12_moveWords_21 rfl (lv_at hl 1 rfl) ?_
        refine lv_iload_n C.1 C.2.1 dX12_moveWords_22 rfl (lv_at hl 2 rfl) ?_
        obtain ⟨v_31, e_32⟩ : ∃ z, z = (w12_1 : Int32) + (w12_2 : Int32) := ⟨_, rfl⟩
        have h_33 : v_31.toInt = w12_1.toInt + w12_2.toInt := by rw [e_32]; exact ti_iadd (by show (_ : Int) ≤ w12_1.toInt + w12_2.toInt; omega) (by show w12_1.toInt + w12_2.toInt < (_ : Int); omega)
        refine k_iadd (v := v_31) C e_32.symm dX12_moveWords_23 ?_
        refine lv_aload_n C.1 C.2.1 dX12_moveWords_24 rfl (lv_at hl 0 rfl) ?_
        refine lv_aload_n C.1 C.2.1 dX12_moveWords_25 rfl (lv_at hl 0 rfl) ?_
        refine k_get (v := .int (t1.1 0 18)) C hP 0 rfl rfl inlX12 18 (by decide) m_57_5 rfl dX12_moveWords_26 ?_
        refine lv_iload_n C.1 C.2.1 dX12_moveWords_29 rfl (lv_at hl 2 rfl) ?_
        obtain ⟨v_34, e_35⟩ : ∃ z, z = ((t1.1 0 18) : Int32) + (w12_2 : Int32) := ⟨_, rfl⟩
        have h_36 : v_34.toInt = (t1.1 0 18).toInt + w12_2.toInt := by rw [e_35]; exact ti_iadd (by show (_ : Int) ≤ (t1.1 0 18).toInt + w12_2.toInt; omega) (by show (t1.1 0 18).toInt + w12_2.toInt < (_ : Int); omega)
        refine k_iadd (v := v_34) C e_35.symm dX12_moveWords_30 ?_
        refine g_Vi (As := [.int v_34]) (rest := [.int v_31, .ref (ad 0)]) C hP hD hS hA (T_X12_memoryAt l D K Z Y ad t1 hok (v_34) (show (-3999 : Int) ≤ (v_34 : Int32).toInt ∧ (v_34 : Int32).toInt ≤ 3999 from ⟨by omega, by omega⟩)) hE hZ (uwV m_38_19 m_38_20 m_38_21 m_1_5 m_38_22) (hdV 1 (by decide +kernel) rfl) ⟨Nat.le_of_ble_eq_true rfl, Nat.le_of_ble_eq_true rfl⟩ rfl rfl (ci := 11) (q0 := 0) rfl rfl rfl hl.1 (Nat.le_of_ble_eq_true rfl) dX12_moveWords_31 ⟨Nat.le_of_ble_eq_true rfl, Nat.le_of_ble_eq_true rfl⟩ (fun r_38 t_37 H locs hw hP hD hS => ?_)
        obtain ⟨h_40, h_41⟩ := hw
        refine g_Vv (As := [.int v_31, .int r_38]) (rest := []) C hP hD hS hA (T_X12_setMemory l D K Z Y ad t1 hok (v_31) (show (-3999 : Int) ≤ (v_31 : Int32).toInt ∧ (v_31 : Int32).toInt ≤ 3999 from ⟨by omega, by omega⟩) (r_38)) hE hZ (uwV m_38_15 m_38_16 m_38_17 m_1_5 m_38_18) (hdV 2 (by decide +kernel) rfl) ⟨Nat.le_of_ble_eq_true rfl, Nat.le_of_ble_eq_true rfl⟩ rfl rfl (ci := 11) (q0 := 0) rfl rfl rfl hl.1 (Nat.le_of_ble_eq_true rfl) dX12_moveWords_34 ⟨Nat.le_of_ble_eq_true rfl, Nat.le_of_ble_eq_true rfl⟩ (fun t_42 H locs hw hP hD hS => ?_)
        obtain ⟨hok, f_44⟩ := hw
        have hfr : frA [] [] [2, 3] [] t t_42 := frA_tr hfr f_44 rfl
        have h_45 : (t_42.1 0 17).toInt = (t1.1 0 17).toInt := ti_eq (f_44.1 0 17 rfl)
        have h_46 : (t_42.1 0 18).toInt = (t1.1 0 18).toInt := ti_eq (f_44.1 0 18 rfl)
        have h_47 : (t_42.1 0 16).toInt = (t1.1 0 16).toInt := ti_eq (f_44.1 0 16 rfl)
        have e_48 : t_42.2.2.1 3 = t1.2.2.1 3 := f_44.2.2.1 3 rfl
        have h_49 : (0 : Int) ≤ (t_42.1 0 16).toInt ∧ (t_42.1 0 16).toInt ≤ 63 := hok.1 0 16
        obtain ⟨v_50, e_51⟩ : ∃ z, z = w12_2 + 1 := ⟨_, rfl⟩
        have h_52 : v_50.toInt = w12_2.toInt + 1 := by rw [e_51]; exact ti_iadd (by show (_ : Int) ≤ w12_2.toInt + 1; omega) (by show w12_2.toInt + 1 < (_ : Int); omega)
        refine lv_iinc (v := v_50) (lv' := [(2, .int v_50), (0, .ref (ad 0)), (1, .int w12_1)]) C.1 C.2.1 dX12_moveWords_37 hl (k := 2) rfl e_51.symm (by decide) rfl (fun ls hl => ?_)
        have hl : lv_has ls 3 [(0, .ref (ad 0)), (1, .int w12_1), (2, .int v_50)] := lv_sub hl [1, 2, 0] rfl
        refine lv_goto (tgt := 12) C.1 C.2.1 dX12_moveWords_40 (by decide) ?_
        exact ih_12 t_42 w12_1 v_50 _ _ _ hok hfr ⟨by omega, by omega⟩ (show (t_42.1 0 17).toInt < 1 ∨ (-3999 ≤ w12_1.toInt ∧ w12_1.toInt + (t_42.1 0 17).toInt ≤ 4000) from by omega) (show (t_42.1 0 17).toInt < 1 ∨ (-3999 ≤ (t_42.1 0 18).toInt ∧ (t_42.1 0 18).toInt + (t_42.1 0 17).toInt ≤ 4000) from by omega) (show (63 : Int) - v_50.toInt < (fuel_12 : Int) from by omega) hP hD hS (lv_sub hl [0, 1, 2] rfl)
  have hA2 := hs0.2.1 hs1
  have hA3 := hs0.2.2.1 hs1
  refine lv_aload_n C.1 C.2.1 dX12_moveWords_0 rfl (lv_at hl 0 rfl) ?_
  refine k_get (v := .ref (ad 3)) C hP 0 rfl rfl inlX12 4 (by decide) m_7_6 rfl dX12_moveWords_1 ?_
  refine lv_iconst (v := 1) C.1 C.2.1 dX12_moveWords_4 (by decide) ?_
  refine k_ild (v := (t.2.2.1 3 (1 : Int32).toNatClampNeg)) C hP 3 rfl (vin (by decide)) rfl dX12_moveWords_5 ?_
  refine g_Si (As := [.int (t.2.2.1 3 (1 : Int32).toNatClampNeg)]) (rest := []) C hP hD hS hA (T_X12_value l D K Z Y ad t hok ((t.2.2.1 3 (1 : Int32).toNatClampNeg))) hE hZ (uwS m_36_9 m_36_10 m_1_5 m_36_11) (hdS 1 (by decide +kernel) rfl) ⟨Nat.le_of_ble_eq_true rfl, Nat.le_of_ble_eq_true rfl⟩ rfl rfl rfl hl.1 (Nat.le_of_ble_eq_true rfl) dX12_moveWords_6 ⟨Nat.le_of_ble_eq_true rfl, Nat.le_of_ble_eq_true rfl⟩ (fun r_54 t_53 H locs hw hP hD hS => ?_)
  obtain ⟨h_56, h_57, p_58⟩ := hw
  replace p_58 : r_54.toInt = (vO (t.2.2.1 3 (1 : Int32).toNatClampNeg)).toInt := p_58
  refine lv_istore_n (lv' := [(1, .int r_54), (0, .ref (ad 0))]) C.1 C.2.1 dX12_moveWords_9 rfl hl (by decide) rfl (fun ls hl => ?_)
  have hl : lv_has ls 3 [(0, .ref (ad 0)), (1, .int r_54)] := lv_sub hl [1, 0] rfl
  refine lv_iconst (v := 0) C.1 C.2.1 dX12_moveWords_10 (by decide) ?_
  refine lv_istore_n (lv' := [(2, .int 0), (0, .ref (ad 0)), (1, .int r_54)]) C.1 C.2.1 dX12_moveWords_11 rfl hl (by decide) rfl (fun ls hl => ?_)
  have hl : lv_has ls 3 [(0, .ref (ad 0)), (1, .int r_54), (2, .int 0)] := lv_sub hl [1, 2, 0] rfl
  exact L_12 64 t r_54 0 _ _ _ hok hfr ⟨by decide, by decide⟩ (show (t.1 0 17).toInt < 1 ∨ (-3999 ≤ r_54.toInt ∧ r_54.toInt + (t.1 0 17).toInt ≤ 4000) from by omega) (show (t.1 0 17).toInt < 1 ∨ (-3999 ≤ (t.1 0 18).toInt ∧ (t.1 0 18).toInt + (t.1 0 17).toInt ≤ 4000) from by omega) (show (63 : Int) - 0 < ((64 : Nat) : Int) from by omega) hP hD hS (lv_sub hl [0, 1, 2] rfl)

theorem dX12_store_0 : decode cX12_store 0 = .ok (.aload_n 0, 1) := by decide +kernel
theorem dX12_store_1 : decode cX12_store 1 = .ok (.getfield 282, 3) := by decide +kernel
theorem dX12_store_10 : decode cX12_store 10 = .ok (.goto 34, 3) := by decide +kernel
theorem dX12_store_13 : decode cX12_store 13 = .ok (.aload_n 0, 1) := by decide +kernel
theorem dX12_store_14 : decode cX12_store 14 = .ok (.getfield 282, 3) := by decide +kernel
theorem dX12_store_17 : decode cX12_store 17 = .ok (.bipush 32, 2) := by decide +kernel
theorem dX12_store_19 : decode cX12_store 19 = .ok (.if_icmp .ne 13, 3) := by decide +kernel
theorem dX12_store_22 : decode cX12_store 22 = .ok (.aload_n 0, 1) := by decide +kernel
theorem dX12_store_23 : decode cX12_store 23 = .ok (.getfield 17, 3) := by decide +kernel
theorem dX12_store_26 : decode cX12_store 26 = .ok (.bipush 8, 2) := by decide +kernel
theorem dX12_store_28 : decode cX12_store 28 = .ok (.iaload, 1) := by decide +kernel
theorem dX12_store_29 : decode cX12_store 29 = .ok (.goto 15, 3) := by decide +kernel
theorem dX12_store_32 : decode cX12_store 32 = .ok (.aload_n 0, 1) := by decide +kernel
theorem dX12_store_33 : decode cX12_store 33 = .ok (.getfield 17, 3) := by decide +kernel
theorem dX12_store_36 : decode cX12_store 36 = .ok (.aload_n 0, 1) := by decide +kernel
theorem dX12_store_37 : decode cX12_store 37 = .ok (.getfield 282, 3) := by decide +kernel
theorem dX12_store_4 : decode cX12_store 4 = .ok (.bipush 33, 2) := by decide +kernel
theorem dX12_store_40 : decode cX12_store 40 = .ok (.bipush 24, 2) := by decide +kernel
theorem dX12_store_42 : decode cX12_store 42 = .ok (.isub, 1) := by decide +kernel
theorem dX12_store_43 : decode cX12_store 43 = .ok (.iaload, 1) := by decide +kernel
theorem dX12_store_44 : decode cX12_store 44 = .ok (.istore_n 1, 1) := by decide +kernel
theorem dX12_store_45 : decode cX12_store 45 = .ok (.aload_n 0, 1) := by decide +kernel
theorem dX12_store_46 : decode cX12_store 46 = .ok (.aload_n 0, 1) := by decide +kernel
theorem dX12_store_47 : decode cX12_store 47 = .ok (.getfield 251, 3) := by decide +kernel
theorem dX12_store_50 : decode cX12_store 50 = .ok (.aload_n 0, 1) := by decide +kernel
theorem dX12_store_51 : decode cX12_store 51 = .ok (.aload_n 0, 1) := by decide +kernel
theorem dX12_store_52 : decode cX12_store 52 = .ok (.getfield 251, 3) := by decide +kernel
theorem dX12_store_55 : decode cX12_store 55 = .ok (.invokevirtual 260, 3) := by decide +kernel
theorem dX12_store_58 : decode cX12_store 58 = .ok (.iload_n 1, 1) := by decide +kernel
theorem dX12_store_59 : decode cX12_store 59 = .ok (.aload_n 0, 1) := by decide +kernel
theorem dX12_store_6 : decode cX12_store 6 = .ok (.if_icmp .ne 7, 3) := by decide +kernel
theorem dX12_store_60 : decode cX12_store 60 = .ok (.getfield 289, 3) := by decide +kernel
theorem dX12_store_63 : decode cX12_store 63 = .ok (.invokestatic 350, 3) := by decide +kernel
theorem dX12_store_66 : decode cX12_store 66 = .ok (.invokevirtual 214, 3) := by decide +kernel
theorem dX12_store_69 : decode cX12_store 69 = .ok (.return_, 1) := by decide +kernel
theorem dX12_store_9 : decode cX12_store 9 = .ok (.iconst 0, 1) := by decide +kernel
set_option maxHeartbeats 4000000 in
set_option maxRecDepth 100000 in
theorem T_X12_store (l : Launch) (D : va_G) (K : Nat → ClassId) (Z Y : Nat → Nat) (ad : Nat → Nat) (t : tSt) (hok : okM t) (hs0 : -3999 ≤ (t.1 0 18).toInt ∧ (t.1 0 18).toInt ≤ 3999) (hs1 : 24 ≤ (t.1 0 16).toInt) (hs2 : (t.1 0 16).toInt ≤ 33) : tMet l yX12_store cX12_store 2 none (rmD 1 0 0) D K Z Y [.ref (ad 0)] (WM K ad t) (QV D K (fun (u : tSt) => okM u ∧ frA [] [] [2] [] t u) (fun (u : tSt) => WM K ad u)) 0 0 := by
  refine t_met RX12 ⟨rfl, by decide +kernel⟩ (Nat.le_of_ble_eq_true rfl) ?_
  intro p e s m below meth c A ls C hE hZ hr hlocks hA hP hD hS hl
  have hl : lv_has ls 2 [(0, .ref (ad 0))] := hl
  have hokt := hok
  have hfr : frA [] [] [2] [] t t := frA_rf
  have h_1 : (0 : Int) ≤ (t.1 0 16).toInt ∧ (t.1 0 16).toInt ≤ 63 := hok.1 0 16
  refine lv_aload_n C.1 C.2.1 dX12_store_0 rfl (lv_at hl 0 rfl) ?_
  refine k_get (v := .int (t.1 0 16)) C hP 0 rfl rfl inlX12 16 (by decide) m_57_3 rfl dX12_store_1 ?_
  refine lv_bipush (v := 33) C.1 C.2.1 dX12_store_4 (by decide) ?_
  refine lv_icmp_ne (tgt := 13) C.1 C.2.1 dX12_store_6 (by decide) (fun c_2 => ?_) (fun c_2 => ?_)
  · replace c_2 : ¬ (t.1 0 16).toInt = 33 := i_ne c_2
    refine lv_aload_n C.1 C.2.1 dX12_store_13 rfl (lv_at hl 0 rfl) ?_
    refine k_get (v := .int (t.1 0 16)) C hP 0 rfl rfl inlX12 16 (by decide) m_57_3 rfl dX12_store_14 ?_
    refine lv_bipush (v := 32) C.1 C.2.1 dX12_store_17 (by decide) ?_
    refine lv_icmp_ne (tgt := 32) C.1 C.2.1 dX12_store_19 (by decide) (fun c_3 => ?_) (fun c_3 => ?_)
    · replace c_3 : ¬ (t.1 0 16).toInt = 32 := i_ne c_3
      refine lv_aload_n C.1 C.2.1 dX12_store_32 rfl (lv_at hl 0 rfl) ?_
      refine k_get (v := .ref (ad 3)) C hP 0 rfl rfl inlX12 4 (by decide) m_7_6 rfl dX12_store_33 ?_
      refine lv_aload_n C.1 C.2.1 dX12_store_36 rfl (lv_at hl 0 rfl) ?_
      refine k_get (v := .int (t.1 0 16)) C hP 0 rfl rfl inlX12 16 (by decide) m_57_3 rfl dX12_store_37 ?_
      refine lv_bipush (v := 24) C.1 C.2.1 dX12_store_40 (by decide) ?_
      obtain ⟨v_4, e_5⟩ : ∃ z, z = ((t.1 0 16) : Int32) - (24 : Int32) := ⟨_, rfl⟩
      have h_6 : v_4.toInt = (t.1 0 16).toInt - 24 := by rw [e_5]; exact ti_isub (by show (_ : Int) ≤ (t.1 0 16).toInt - 24; omega) (by show (t.1 0 16).toInt - 24 < (_ : Int); omega)
      refine k_isub (v := v_4) C e_5.symm dX12_store_42 ?_
      obtain ⟨v_7, e_8⟩ : ∃ z, z = (t.2.2.1 3 (v_4 : Int32).toNatClampNeg) := ⟨_, rfl⟩
      refine k_ild (v := v_7) C hP 3 rfl (vp_in_iff.mpr ⟨by omega, by omega⟩) e_8.symm dX12_store_43 ?_
      refine lv_istore_n (lv' := [(1, .int v_7), (0, .ref (ad 0))]) C.1 C.2.1 dX12_store_44 rfl hl (by decide) rfl (fun ls hl => ?_)
      have hl : lv_has ls 2 [(0, .ref (ad 0)), (1, .int v_7)] := lv_sub hl [1, 0] rfl
      refine lv_aload_n C.1 C.2.1 dX12_store_45 rfl (lv_at hl 0 rfl) ?_
      refine lv_aload_n C.1 C.2.1 dX12_store_46 rfl (lv_at hl 0 rfl) ?_
      refine k_get (v := .int (t.1 0 18)) C hP 0 rfl rfl inlX12 18 (by decide) m_57_5 rfl dX12_store_47 ?_
      refine lv_aload_n C.1 C.2.1 dX12_store_50 rfl (lv_at hl 0 rfl) ?_
      refine lv_aload_n C.1 C.2.1 dX12_store_51 rfl (lv_at hl 0 rfl) ?_
      refine k_get (v := .int (t.1 0 18)) C hP 0 rfl rfl inlX12 18 (by decide) m_57_5 rfl dX12_store_52 ?_
      refine g_Vi (As := [.int (t.1 0 18)]) (rest := [.int (t.1 0 18), .ref (ad 0)]) C hP hD hS hA (T_X12_memoryAt l D K Z Y ad t hok ((t.1 0 18)) (show (-3999 : Int) ≤ ((t.1 0 18) : Int32).toInt ∧ ((t.1 0 18) : Int32).toInt ≤ 3999 from ⟨by omega, by omega⟩)) hE hZ (uwV m_38_19 m_38_20 m_38_21 m_1_5 m_38_22) (hdV 1 (by decide +kernel) rfl) ⟨Nat.le_of_ble_eq_true rfl, Nat.le_of_ble_eq_true rfl⟩ rfl rfl (ci := 11) (q0 := 0) rfl rfl rfl hl.1 (Nat.le_of_ble_eq_true rfl) dX12_store_55 ⟨Nat.le_of_ble_eq_true rfl, Nat.le_of_ble_eq_true rfl⟩ (fun r_10 t_9 H locs hw hP hD hS => ?_)
      obtain ⟨h_12, h_13⟩ := hw
      refine lv_iload_n C.1 C.2.1 dX12_store_58 rfl (lv_at hl 1 rfl) ?_
      refine lv_aload_n C.1 C.2.1 dX12_store_59 rfl (lv_at hl 0 rfl) ?_
      have h_14 : (0 : Int) ≤ (t.1 0 17).toInt ∧ (t.1 0 17).toInt ≤ 63 := hok.1 0 17
      refine k_get (v := .int (t.1 0 17)) C hP 0 rfl rfl inlX12 17 (by decide) m_57_4 rfl dX12_store_60 ?_
      refine g_Si (As := [.int r_10, .int v_7, .int (t.1 0 17)]) (rest := [.int (t.1 0 18), .ref (ad 0)]) C hP hD hS hA (T_X12_stored l D K Z Y ad t hok (r_10) (v_7) ((t.1 0 17)) (show (0 : Int) ≤ ((t.1 0 17) : Int32).toInt ∧ ((t.1 0 17) : Int32).toInt ≤ 63 from ⟨by omega, by omega⟩)) hE hZ (uwS m_37_7 m_37_8 m_1_5 m_37_9) (hdS 3 (by decide +kernel) rfl) ⟨Nat.le_of_ble_eq_true rfl, Nat.le_of_ble_eq_true rfl⟩ rfl rfl rfl hl.1 (Nat.le_of_ble_eq_true rfl) dX12_store_63 ⟨Nat.le_of_ble_eq_true rfl, Nat.le_of_ble_eq_true rfl⟩ (fun r_16 t_15 H locs hw hP hD hS => ?_)
      obtain ⟨h_18, h_19⟩ := hw
      refine g_Vv (As := [.int (t.1 0 18), .int r_16]) (rest := []) C hP hD hS hA (T_X12_setMemory l D K Z Y ad t hok ((t.1 0 18)) (show (-3999 : Int) ≤ ((t.1 0 18) : Int32).toInt ∧ ((t.1 0 18) : Int32).toInt ≤ 3999 from ⟨by omega, by omega⟩) (r_16)) hE hZ (uwV m_38_15 m_38_16 m_38_17 m_1_5 m_38_18) (hdV 2 (by decide +kernel) rfl) ⟨Nat.le_of_ble_eq_true rfl, Nat.le_of_ble_eq_true rfl⟩ rfl rfl (ci := 11) (q0 := 0) rfl rfl rfl hl.1 (Nat.le_of_ble_eq_true rfl) dX12_store_66 ⟨Nat.le_of_ble_eq_true rfl, Nat.le_of_ble_eq_true rfl⟩ (fun t_20 H locs hw hP hD hS => ?_)
      obtain ⟨hok, f_22⟩ := hw
      have hfr : frA [] [] [2] [] t t_20 := frA_tr hfr f_22 rfl
      have h_23 : (t_20.1 0 16).toInt = (t.1 0 16).toInt := ti_eq (f_22.1 0 16 rfl)
      have h_24 : (t_20.1 0 18).toInt = (t.1 0 18).toInt := ti_eq (f_22.1 0 18 rfl)
      have h_25 : (t_20.1 0 17).toInt = (t.1 0 17).toInt := ti_eq (f_22.1 0 17 rfl)
      exact g_vret C hr hlocks hP hD hS t_20 rfl ⟨hok, hfr⟩ (Nat.le_of_ble_eq_true rfl) (Nat.le_of_ble_eq_true rfl) dX12_store_69
    · replace c_3 : (t.1 0 16).toInt = 32 := i_eq c_3
      refine lv_aload_n C.1 C.2.1 dX12_store_22 rfl (lv_at hl 0 rfl) ?_
      refine k_get (v := .ref (ad 3)) C hP 0 rfl rfl inlX12 4 (by decide) m_7_6 rfl dX12_store_23 ?_
      refine lv_bipush (v := 8) C.1 C.2.1 dX12_store_26 (by decide) ?_
      obtain ⟨v_26, e_27⟩ : ∃ z, z = (t.2.2.1 3 (8 : Int32).toNatClampNeg) := ⟨_, rfl⟩
      refine k_ild (v := v_26) C hP 3 rfl (vin (by decide)) e_27.symm dX12_store_28 ?_
      refine lv_goto (tgt := 44) C.1 C.2.1 dX12_store_29 (by decide) ?_
      refine lv_istore_n (lv' := [(1, .int v_26), (0, .ref (ad 0))]) C.1 C.2.1 dX12_store_44 rfl hl (by decide) rfl (fun ls hl => ?_)
      have hl : lv_has ls 2 [(0, .ref (ad 0)), (1, .int v_26)] := lv_sub hl [1, 0] rfl
      refine lv_aload_n C.1 C.2.1 dX12_store_45 rfl (lv_at hl 0 rfl) ?_
      refine lv_aload_n C.1 C.2.1 dX12_store_46 rfl (lv_at hl 0 rfl) ?_
      refine k_get (v := .int (t.1 0 18)) C hP 0 rfl rfl inlX12 18 (by decide) m_57_5 rfl dX12_store_47 ?_
      refine lv_aload_n C.1 C.2.1 dX12_store_50 rfl (lv_at hl 0 rfl) ?_
      refine lv_aload_n C.1 C.2.1 dX12_store_51 rfl (lv_at hl 0 rfl) ?_
      refine k_get (v := .int (t.1 0 18)) C hP 0 rfl rfl inlX12 18 (by decide) m_57_5 rfl dX12_store_52 ?_
      refine g_Vi (As := [.int (t.1 0 18)]) (rest := [.int (t.1 0 18), .ref (ad 0)]) C hP hD hS hA (T_X12_memoryAt l D K Z Y ad t hok ((t.1 0 18)) (show (-3999 : Int) ≤ ((t.1 0 18) : Int32).toInt ∧ ((t.1 0 18) : Int32).toInt ≤ 3999 from ⟨by omega, by omega⟩)) hE hZ (uwV m_38_19 m_38_20 m_38_21 m_1_5 m_38_22) (hdV 1 (by decide +kernel) rfl) ⟨Nat.le_of_ble_eq_true rfl, Nat.le_of_ble_eq_true rfl⟩ rfl rfl (ci := 11) (q0 := 0) rfl rfl rfl hl.1 (Nat.le_of_ble_eq_true rfl) dX12_store_55 ⟨Nat.le_of_ble_eq_true rfl, Nat.le_of_ble_eq_true rfl⟩ (fun r_29 t_28 H locs hw hP hD hS => ?_)
      obtain ⟨h_31, h_32⟩ := hw
      refine lv_iload_n C.1 C.2.1 dX12_store_58 rfl (lv_at hl 1 rfl) ?_
      refine lv_aload_n C.1 C.2.1 dX12_store_59 rfl (lv_at hl 0 rfl) ?_
      have h_33 : (0 : Int) ≤ (t.1 0 17).toInt ∧ (t.1 0 17).toInt ≤ 63 := hok.1 0 17
      refine k_get (v := .int (t.1 0 17)) C hP 0 rfl rfl inlX12 17 (by decide) m_57_4 rfl dX12_store_60 ?_
      refine g_Si (As := [.int r_29, .int v_26, .int (t.1 0 17)]) (rest := [.int (t.1 0 18), .ref (ad 0)]) C hP hD hS hA (T_X12_stored l D K Z Y ad t hok (r_29) (v_26) ((t.1 0 17)) (show (0 : Int) ≤ ((t.1 0 17) : Int32).toInt ∧ ((t.1 0 17) : Int32).toInt ≤ 63 from ⟨by omega, by omega⟩)) hE hZ (uwS m_37_7 m_37_8 m_1_5 m_37_9) (hdS 3 (by decide +kernel) rfl) ⟨Nat.le_of_ble_eq_true rfl, Nat.le_of_ble_eq_true rfl⟩ rfl rfl rfl hl.1 (Nat.le_of_ble_eq_true rfl) dX12_store_63 ⟨Nat.le_of_ble_eq_true rfl, Nat.le_of_ble_eq_true rfl⟩ (fun r_35 t_34 H locs hw hP hD hS => ?_)
      obtain ⟨h_37, h_38⟩ := hw
      refine g_Vv (As := [.int (t.1 0 18), .int r_35]) (rest := []) C hP hD hS hA (T_X12_setMemory l D K Z Y ad t hok ((t.1 0 18)) (show (-3999 : Int) ≤ ((t.1 0 18) : Int32).toInt ∧ ((t.1 0 18) : Int32).toInt ≤ 3999 from ⟨by omega, by omega⟩) (r_35)) hE hZ (uwV m_38_15 m_38_16 m_38_17 m_1_5 m_38_18) (hdV 2 (by decide +kernel) rfl) ⟨Nat.le_of_ble_eq_true rfl, Nat.le_of_ble_eq_true rfl⟩ rfl rfl (ci := 11) (q0 := 0) rfl rfl rfl hl.1 (Nat.le_of_ble_eq_true rfl) dX12_store_66 ⟨Nat.le_of_ble_eq_true rfl, Nat.le_of_ble_eq_true rfl⟩ (fun t_39 H locs hw hP hD hS => ?_)
      obtain ⟨hok, f_41⟩ := hw
      have hfr : frA [] [] [2] [] t t_39 := frA_tr hfr f_41 rfl
      have h_42 : (t_39.1 0 16).toInt = (t.1 0 16).toInt := ti_eq (f_41.1 0 16 rfl)
      have h_43 : (t_39.1 0 18).toInt = (t.1 0 18).toInt := ti_eq (f_41.1 0 18 rfl)
      have h_44 : (t_39.1 0 17).toInt = (t.1 0 17).toInt := ti_eq (f_41.1 0 17 rfl)
      exact g_vret C hr hlocks hP hD hS t_39 rfl ⟨hok, hfr⟩ (Nat.le_of_ble_eq_true rfl) (Nat.le_of_ble_eq_true rfl) dX12_store_69
  · replace c_2 : (t.1 0 16).toInt = 33 := i_eq c_2
    refine lv_iconst (v := 0) C.1 C.2.1 dX12_store_9 (by decide) ?_
    refine lv_goto (tgt := 44) C.1 C.2.1 dX12_store_10 (by decide) ?_
    refine lv_istore_n (lv' := [(1, .int 0), (0, .ref (ad 0))]) C.1 C.2.1 dX12_store_44 rfl hl (by decide) rfl (fun ls hl => ?_)
    have hl : lv_has ls 2 [(0, .ref (ad 0)), (1, .int 0)] := lv_sub hl [1, 0] rfl
    refine lv_aload_n C.1 C.2.1 dX12_store_45 rfl (lv_at hl 0 rfl) ?_
    refine lv_aload_n C.1 C.2.1 dX12_store_46 rfl (lv_at hl 0 rfl) ?_
    refine k_get (v := .int (t.1 0 18)) C hP 0 rfl rfl inlX12 18 (by decide) m_57_5 rfl dX12_store_47 ?_
    refine lv_aload_n C.1 C.2.1 dX12_store_50 rfl (lv_at hl 0 rfl) ?_
    refine lv_aload_n C.1 C.2.1 dX12_store_51 rfl (lv_at hl 0 rfl) ?_
    refine k_get (v := .int (t.1 0 18)) C hP 0 rfl rfl inlX12 18 (by decide) m_57_5 rfl dX12_store_52 ?_
    refine g_Vi (As := [.int (t.1 0 18)]) (rest := [.int (t.1 0 18), .ref (ad 0)]) C hP hD hS hA (T_X12_memoryAt l D K Z Y ad t hok ((t.1 0 18)) (show (-3999 : Int) ≤ ((t.1 0 18) : Int32).toInt ∧ ((t.1 0 18) : Int32).toInt ≤ 3999 from ⟨by omega, by omega⟩)) hE hZ (uwV m_38_19 m_38_20 m_38_21 m_1_5 m_38_22) (hdV 1 (by decide +kernel) rfl) ⟨Nat.le_of_ble_eq_true rfl, Nat.le_of_ble_eq_true rfl⟩ rfl rfl (ci := 11) (q0 := 0) rfl rfl rfl hl.1 (Nat.le_of_ble_eq_true rfl) dX12_store_55 ⟨Nat.le_of_ble_eq_true rfl, Nat.le_of_ble_eq_true rfl⟩ (fun r_46 t_45 H locs hw hP hD hS => ?_)
    obtain ⟨h_48, h_49⟩ := hw
    refine lv_iload_n C.1 C.2.1 dX12_store_58 rfl (lv_at hl 1 rfl) ?_
    refine lv_aload_n C.1 C.2.1 dX12_store_59 rfl (lv_at hl 0 rfl) ?_
    have h_50 : (0 : Int) ≤ (t.1 0 17).toInt ∧ (t.1 0 17).toInt ≤ 63 := hok.1 0 17
    refine k_get (v := .int (t.1 0 17)) C hP 0 rfl rfl inlX12 17 (by decide) m_57_4 rfl dX12_store_60 ?_
    refine g_Si (As := [.int r_46, .int 0, .int (t.1 0 17)]) (rest := [.int (t.1 0 18), .ref (ad 0)]) C hP hD hS hA (T_X12_stored l D K Z Y ad t hok (r_46) 0 ((t.1 0 17)) (show (0 : Int) ≤ ((t.1 0 17) : Int32).toInt ∧ ((t.1 0 17) : Int32).toInt ≤ 63 from ⟨by omega, by omega⟩)) hE hZ (uwS m_37_7 m_37_8 m_1_5 m_37_9) (hdS 3 (by decide +kernel) rfl) ⟨Nat.le_of_ble_eq_true rfl, Nat.le_of_ble_eq_true rfl⟩ rfl rfl rfl hl.1 (Nat.le_of_ble_eq_true rfl) dX12_store_63 ⟨Nat.le_of_ble_eq_true rfl, Nat.le_of_ble_eq_true rfl⟩ (fun r_52 t_51 H locs hw hP hD hS => ?_)
    obtain ⟨h_54, h_55⟩ := hw
    refine g_Vv (As := [.int (t.1 0 18), .int r_52]) (rest := []) C hP hD hS hA (T_X12_setMemory l D K Z Y ad t hok ((t.1 0 18)) (show (-3999 : Int) ≤ ((t.1 0 18) : Int32).toInt ∧ ((t.1 0 18) : Int32).toInt ≤ 3999 from ⟨by omega, by omega⟩) (r_52)) hE hZ (uwV m_38_15 m_38_16 m_38_17 m_1_5 m_38_18) (hdV 2 (by decide +kernel) rfl) ⟨Nat.le_of_ble_eq_true rfl, Nat.le_of_ble_eq_true rfl⟩ rfl rfl (ci := 11) (q0 := 0) rfl rfl rfl hl.1 (Nat.le_of_ble_eq_true rfl) dX12_store_66 ⟨Nat.le_of_ble_eq_true rfl, Nat.le_of_ble_eq_true rfl⟩ (fun t_56 H locs hw hP hD hS => ?_)
    obtain ⟨hok, f_58⟩ := hw
    have hfr : frA [] [] [2] [] t t_56 := frA_tr hfr f_58 rfl
    have h_59 : (t_56.1 0 16).toInt = (t.1 0 16).toInt := ti_eq (f_58.1 0 16 rfl)
    have h_60 : (t_56.1 0 18).toInt = (t.1 0 18).toInt := ti_eq (f_58.1 0 18 rfl)
    have h_61 : (t_56.1 0 17).toInt = (t.1 0 17).toInt := ti_eq (f_58.1 0 17 rfl)
    exact g_vret C hr hlocks hP hD hS t_56 rfl ⟨hok, hfr⟩ (Nat.le_of_ble_eq_true rfl) (Nat.le_of_ble_eq_true rfl) dX12_store_69

theorem dX12_change_0 : decode cX12_change 0 = .ok (.aload_n 0, 1) := by decide +kernel
theorem dX12_change_1 : decode cX12_change 1 = .ok (.getfield 289, 3) := by decide +kernel
theorem dX12_change_12 : decode cX12_change 12 = .ok (.ldc 158, 2) := by decide +kernel
theorem dX12_change_14 : decode cX12_change 14 = .ok (.iand, 1) := by decide +kernel
theorem dX12_change_15 : decode cX12_change 15 = .ok (.istore_n 2, 1) := by decide +kernel
theorem dX12_change_16 : decode cX12_change 16 = .ok (.aload_n 0, 1) := by decide +kernel
theorem dX12_change_17 : decode cX12_change 17 = .ok (.getfield 251, 3) := by decide +kernel
theorem dX12_change_20 : decode cX12_change 20 = .ok (.ifCond .ne 7, 3) := by decide +kernel
theorem dX12_change_23 : decode cX12_change 23 = .ok (.iload_n 2, 1) := by decide +kernel
theorem dX12_change_24 : decode cX12_change 24 = .ok (.goto 11, 3) := by decide +kernel
theorem dX12_change_27 : decode cX12_change 27 = .ok (.aload_n 0, 1) := by decide +kernel
theorem dX12_change_28 : decode cX12_change 28 = .ok (.getfield 251, 3) := by decide +kernel
theorem dX12_change_31 : decode cX12_change 31 = .ok (.i2l, 1) := by decide +kernel
theorem dX12_change_32 : decode cX12_change 32 = .ok (.invokestatic 342, 3) := by decide +kernel
theorem dX12_change_35 : decode cX12_change 35 = .ok (.istore_n 3, 1) := by decide +kernel
theorem dX12_change_36 : decode cX12_change 36 = .ok (.aload_n 0, 1) := by decide +kernel
theorem dX12_change_37 : decode cX12_change 37 = .ok (.getfield 17, 3) := by decide +kernel
theorem dX12_change_4 : decode cX12_change 4 = .ok (.iconst 1, 1) := by decide +kernel
theorem dX12_change_40 : decode cX12_change 40 = .ok (.iload_n 1, 1) := by decide +kernel
theorem dX12_change_41 : decode cX12_change 41 = .ok (.aload_n 0, 1) := by decide +kernel
theorem dX12_change_42 : decode cX12_change 42 = .ok (.getfield 289, 3) := by decide +kernel
theorem dX12_change_45 : decode cX12_change 45 = .ok (.iconst 2, 1) := by decide +kernel
theorem dX12_change_46 : decode cX12_change 46 = .ok (.if_icmp .ne 7, 3) := by decide +kernel
theorem dX12_change_49 : decode cX12_change 49 = .ok (.iload_n 3, 1) := by decide +kernel
theorem dX12_change_5 : decode cX12_change 5 = .ok (.if_icmp .le 56, 3) := by decide +kernel
theorem dX12_change_50 : decode cX12_change 50 = .ok (.goto 7, 3) := by decide +kernel
theorem dX12_change_53 : decode cX12_change 53 = .ok (.iload_n 3, 1) := by decide +kernel
theorem dX12_change_54 : decode cX12_change 54 = .ok (.ldc 158, 2) := by decide +kernel
theorem dX12_change_56 : decode cX12_change 56 = .ok (.ixor, 1) := by decide +kernel
theorem dX12_change_57 : decode cX12_change 57 = .ok (.iastore, 1) := by decide +kernel
theorem dX12_change_58 : decode cX12_change 58 = .ok (.goto 29, 3) := by decide +kernel
theorem dX12_change_61 : decode cX12_change 61 = .ok (.aload_n 0, 1) := by decide +kernel
theorem dX12_change_62 : decode cX12_change 62 = .ok (.iload_n 1, 1) := by decide +kernel
theorem dX12_change_63 : decode cX12_change 63 = .ok (.aload_n 0, 1) := by decide +kernel
theorem dX12_change_64 : decode cX12_change 64 = .ok (.getfield 289, 3) := by decide +kernel
theorem dX12_change_67 : decode cX12_change 67 = .ok (.ifCond .ne 11, 3) := by decide +kernel
theorem dX12_change_70 : decode cX12_change 70 = .ok (.aload_n 0, 1) := by decide +kernel
theorem dX12_change_71 : decode cX12_change 71 = .ok (.getfield 251, 3) := by decide +kernel
theorem dX12_change_74 : decode cX12_change 74 = .ok (.i2l, 1) := by decide +kernel
theorem dX12_change_75 : decode cX12_change 75 = .ok (.goto 9, 3) := by decide +kernel
theorem dX12_change_78 : decode cX12_change 78 = .ok (.aload_n 0, 1) := by decide +kernel
theorem dX12_change_79 : decode cX12_change 79 = .ok (.getfield 251, 3) := by decide +kernel
theorem dX12_change_8 : decode cX12_change 8 = .ok (.aload_n 0, 1) := by decide +kernel
theorem dX12_change_82 : decode cX12_change 82 = .ok (.ineg, 1) := by decide +kernel
theorem dX12_change_83 : decode cX12_change 83 = .ok (.i2l, 1) := by decide +kernel
theorem dX12_change_84 : decode cX12_change 84 = .ok (.invokevirtual 346, 3) := by decide +kernel
theorem dX12_change_87 : decode cX12_change 87 = .ok (.return_, 1) := by decide +kernel
theorem dX12_change_9 : decode cX12_change 9 = .ok (.getfield 292, 3) := by decide +kernel
set_option maxHeartbeats 4000000 in
set_option maxRecDepth 100000 in
theorem T_X12_change (l : Launch) (D : va_G) (K : Nat → ClassId) (Z Y : Nat → Nat) (ad : Nat → Nat) (t : tSt) (hok : okM t) (x1 : Int32) (hx1 : (0 : Int) ≤ x1.toInt ∧ x1.toInt ≤ 7) : tMet l yX12_change cX12_change 4 none (rmD 2 0 0) D K Z Y [.ref (ad 0), .int x1] (WM K ad t) (QV D K (fun (u : tSt) => okM u ∧ frA [(0, 5)] [] [3] [] t u) (fun (u : tSt) => WM K ad u)) 0 0 := by
  refine t_met RX12 ⟨rfl, by decide +kernel⟩ (Nat.le_of_ble_eq_true rfl) ?_
  intro p e s m below meth c A ls C hE hZ hr hlocks hA hP hD hS hl
  have hl : lv_has ls 4 [(0, .ref (ad 0)), (1, .int x1)] := hl
  have hokt := hok
  have hfr : frA [(0, 5)] [] [3] [] t t := frA_rf
  have L_35 : ∀ (t1 : tSt) (w35_2 : Int32) (k35_0 : Int32) (H : Heap) (locs : List Loc) (ls : Array Slot), okM t1 → frA [(0, 5)] [] [3] [] t t1 → (0 : Int) ≤ w35_2.toInt ∧ w35_2.toInt ≤ 1073741824 → (2 : Int) ≤ (t1.1 0 17).toInt ∧ (t1.1 0 17).toInt ≤ 63 → va_P D vwCl (WM K ad t1) H → va_D A (WM K ad t1) → va_S A s.heap H locs → lv_has ls 4 [(0, .ref (ad 0)), (1, .int x1), (2, .int w35_2)] → W p l e (rmD 2 0 0) s m [.ref (ad 0), .int x1].toArray below meth c H locs 0 0 (MQ below (QV D K (fun (u : tSt) => okM u ∧ frA [(0, 5)] [] [3] [] t u) (fun (u : tSt) => WM K ad u) A) [.ref (ad 0), .int x1].toArray s 0 0 A) (F0 m 35 ls [.int k35_0]) := by
    intro t1 w35_2 k35_0 H locs ls hok hfr hw35_2 hf35_17 hP hD hS hl
    refine lv_istore_n (lv' := [(3, .int k35_0), (0, .ref (ad 0)), (1, .int x1), (2, .int w35_2)]) C.1 C.2.1 dX12_change_35 rfl hl (by decide) rfl (fun ls hl => ?_)
    have hl : lv_has ls 4 [(0, .ref (ad 0)), (1, .int x1), (2, .int w35_2), (3, .int k35_0)] := lv_sub hl [1, 2, 3, 0] rfl
    refine lv_aload_n C.1 C.2.1 dX12_change_36 rfl (lv_at hl 0 rfl) ?_
    refine k_get (v := .ref (ad 3)) C hP 0 rfl rfl inlX12 4 (by decide) m_7_6 rfl dX12_change_37 ?_
    refine lv_iload_n C.1 C.2.1 dX12_change_40 rfl (lv_at hl 1 rfl) ?_
    refine lv_aload_n C.1 C.2.1 dX12_change_41 rfl (lv_at hl 0 rfl) ?_
    refine k_get (v := .int (t1.1 0 17)) C hP 0 rfl rfl inlX12 17 (by decide) m_57_4 rfl dX12_change_42 ?_
    refine lv_iconst (v := 2) C.1 C.2.1 dX12_change_45 (by decide) ?_
    refine lv_icmp_ne (tgt := 53) C.1 C.2.1 dX12_change_46 (by decide) (fun c_1 => ?_) (fun c_1 => ?_)
    · replace c_1 : ¬ (t1.1 0 17).toInt = 2 := i_ne c_1
      refine lv_iload_n C.1 C.2.1 dX12_change_53 rfl (lv_at hl 3 rfl) ?_
      refine lv_ldc (v := 1073741824) C.1 C.2.1 C.2.2.2.1 (C.2.2.2.2.1 _ m_34_19) dX12_change_54 ?_
      obtain ⟨v_2, e_3⟩ : ∃ z, z = (k35_0 : Int32) ^^^ (1073741824 : Int32) := ⟨_, rfl⟩
      refine k_ixor (v := v_2) C e_3.symm dX12_change_56 ?_
      refine k_ist (ws' := WM K ad (uB t1 3 (x1 : Int32).toNatClampNeg v_2)) (x' := v_2) C hP hD hS 3 rfl (vp_in_iff.mpr ⟨by omega, by omega⟩) rfl rfl rfl dX12_change_57 (fun H locs hP hD hS => ?_)
      have hok : okM (uB t1 3 (x1 : Int32).toNatClampNeg v_2) := ⟨hok.1, okB_B hok.2.1 3 _ v_2 (show (-2147483648 : Int) ≤ (v_2 : Int32).toInt ∧ (v_2 : Int32).toInt ≤ 2147483647 from (i_rng _)), hok.2.2.1, hok.2.2.2.1, hok.2.2.2.2.1, hok.2.2.2.2.2.1, hok.2.2.2.2.2.2.1, trivial⟩
      have hfr : frA [(0, 5)] [] [3] [] t (uB t1 3 (x1 : Int32).toNatClampNeg v_2) := frA_B hfr 3 _ _ rfl
      refine lv_goto (tgt := 87) C.1 C.2.1 dX12_change_58 (by decide) ?_
      exact g_vret C hr hlocks hP hD hS (uB t1 3 (x1 : Int32).toNatClampNeg v_2) rfl ⟨hok, hfr⟩ (Nat.le_of_ble_eq_true rfl) (Nat.le_of_ble_eq_true rfl) dX12_change_87
    · replace c_1 : (t1.1 0 17).toInt = 2 := i_eq c_1
      refine lv_iload_n C.1 C.2.1 dX12_change_49 rfl (lv_at hl 3 rfl) ?_
      refine lv_goto (tgt := 57) C.1 C.2.1 dX12_change_50 (by decide) ?_
      refine k_ist (ws' := WM K ad (uB t1 3 (x1 : Int32).toNatClampNeg k35_0)) (x' := k35_0) C hP hD hS 3 rfl (vp_in_iff.mpr ⟨by omega, by omega⟩) rfl rfl rfl dX12_change_57 (fun H locs hP hD hS => ?_)
      have hok : okM (uB t1 3 (x1 : Int32).toNatClampNeg k35_0) := ⟨hok.1, okB_B hok.2.1 3 _ k35_0 (show (-2147483648 : Int) ≤ (k35_0 : Int32).toInt ∧ (k35_0 : Int32).toInt ≤ 2147483647 from (i_rng _)), hok.2.2.1, hok.2.2.2.1, hok.2.2.2.2.1, hok.2.2.2.2.2.1, hok.2.2.2.2.2.2.1, trivial⟩
      have hfr : frA [(0, 5)] [] [3] [] t (uB t1 3 (x1 : Int32).toNatClampNeg k35_0) := frA_B hfr 3 _ _ rfl
      refine lv_goto (tgt := 87) C.1 C.2.1 dX12_change_58 (by decide) ?_
      exact g_vret C hr hlocks hP hD hS (uB t1 3 (x1 : Int32).toNatClampNeg k35_0) rfl ⟨hok, hfr⟩ (Nat.le_of_ble_eq_true rfl) (Nat.le_of_ble_eq_true rfl) dX12_change_87
  refine lv_aload_n C.1 C.2.1 dX12_change_0 rfl (lv_at hl 0 rfl) ?_
  have h_5 : (0 : Int) ≤ (t.1 0 17).toInt ∧ (t.1 0 17).toInt ≤ 63 := hok.1 0 17
  refine k_get (v := .int (t.1 0 17)) C hP 0 rfl rfl inlX12 17 (by decide) m_57_4 rfl dX12_change_1 ?_
  refine lv_iconst (v := 1) C.1 C.2.1 dX12_change_4 (by decide) ?_
  refine lv_icmp_le (tgt := 61) C.1 C.2.1 dX12_change_5 (by decide) (fun c_6 => ?_) (fun c_6 => ?_)
  · replace c_6 : (t.1 0 17).toInt ≤ 1 := i_le c_6
    refine lv_aload_n C.1 C.2.1 dX12_change_61 rfl (lv_at hl 0 rfl) ?_
    refine lv_iload_n C.1 C.2.1 dX12_change_62 rfl (lv_at hl 1 rfl) ?_
    refine lv_aload_n C.1 C.2.1 dX12_change_63 rfl (lv_at hl 0 rfl) ?_
    refine k_get (v := .int (t.1 0 17)) C hP 0 rfl rfl inlX12 17 (by decide) m_57_4 rfl dX12_change_64 ?_
    refine lv_if_ne (tgt := 78) C.1 C.2.1 dX12_change_67 (by decide) (fun c_7 => ?_) (fun c_7 => ?_)
    · replace c_7 : ¬ (t.1 0 17).toInt = 0 := i_ne c_7
      refine lv_aload_n C.1 C.2.1 dX12_change_78 rfl (lv_at hl 0 rfl) ?_
      refine k_get (v := .int (t.1 0 18)) C hP 0 rfl rfl inlX12 18 (by decide) m_57_5 rfl dX12_change_79 ?_
      obtain ⟨v_8, e_9⟩ : ∃ z, z = -((t.1 0 18) : Int32) := ⟨_, rfl⟩
      refine k_ineg (v := v_8) C e_9.symm dX12_change_82 ?_
      obtain ⟨v_10, e_11⟩ : ∃ z, z = (v_8 : Int32).toInt64 := ⟨_, rfl⟩
      have h_12 : v_10.toInt = v_8.toInt := by rw [e_11]; exact Jvm.Kit.i64_of_i32 _
      have h_13 := i_rng v_8
      refine lv_i2l (v := v_10) C.1 C.2.1 dX12_change_83 e_11.symm ?_
      refine g_Vv (As := [.int x1, .long v_10]) (rest := []) C hP hD hS hA (T_X12_addTo l D K Z Y ad t hok (x1) (show (0 : Int) ≤ (x1 : Int32).toInt ∧ (x1 : Int32).toInt ≤ 7 from ⟨by omega, by omega⟩) (v_10) (show (-2147483648 : Int) ≤ (v_10 : Int64).toInt ∧ (v_10 : Int64).toInt ≤ 2147483648 from ⟨by omega, by omega⟩)) hE hZ (uwV m_61_14 m_61_15 m_61_16 m_1_5 m_61_17) (hdV 2 (by decide +kernel) rfl) ⟨Nat.le_of_ble_eq_true rfl, Nat.le_of_ble_eq_true rfl⟩ rfl rfl (ci := 11) (q0 := 0) rfl rfl rfl hl.1 (Nat.le_of_ble_eq_true rfl) dX12_change_84 ⟨Nat.le_of_ble_eq_true rfl, Nat.le_of_ble_eq_true rfl⟩ (fun t_14 H locs hw hP hD hS => ?_)
      obtain ⟨hok, f_16⟩ := hw
      have hfr : frA [(0, 5)] [] [3] [] t t_14 := frA_tr hfr f_16 rfl
      have h_17 : (t_14.1 0 17).toInt = (t.1 0 17).toInt := ti_eq (f_16.1 0 17 rfl)
      have h_18 : (t_14.1 0 18).toInt = (t.1 0 18).toInt := ti_eq (f_16.1 0 18 rfl)
      exact g_vret C hr hlocks hP hD hS t_14 rfl ⟨hok, hfr⟩ (Nat.le_of_ble_eq_true rfl) (Nat.le_of_ble_eq_true rfl) dX12_change_87
    · replace c_7 : (t.1 0 17).toInt = 0 := i_eq c_7
      refine lv_aload_n C.1 C.2.1 dX12_change_70 rfl (lv_at hl 0 rfl) ?_
      refine k_get (v := .int (t.1 0 18)) C hP 0 rfl rfl inlX12 18 (by decide) m_57_5 rfl dX12_change_71 ?_
      obtain ⟨v_19, e_20⟩ : ∃ z, z = ((t.1 0 18) : Int32).toInt64 := ⟨_, rfl⟩
      have h_21 : v_19.toInt = (t.1 0 18).toInt := by rw [e_20]; exact Jvm.Kit.i64_of_i32 _
      have h_22 := i_rng (t.1 0 18)
      refine lv_i2l (v := v_19) C.1 C.2.1 dX12_change_74 e_20.symm ?_
      refine lv_goto (tgt := 84) C.1 C.2.1 dX12_change_75 (by decide) ?_
      refine g_Vv (As := [.int x1, .long v_19]) (rest := []) C hP hD hS hA (T_X12_addTo l D K Z Y ad t hok (x1) (show (0 : Int) ≤ (x1 : Int32).toInt ∧ (x1 : Int32).toInt ≤ 7 from ⟨by omega, by omega⟩) (v_19) (show (-2147483648 : Int) ≤ (v_19 : Int64).toInt ∧ (v_19 : Int64).toInt ≤ 2147483648 from ⟨by omega, by omega⟩)) hE hZ (uwV m_61_14 m_61_15 m_61_16 m_1_5 m_61_17) (hdV 2 (by decide +kernel) rfl) ⟨Nat.le_of_ble_eq_true rfl, Nat.le_of_ble_eq_true rfl⟩ rfl rfl (ci := 11) (q0 := 0) rfl rfl rfl hl.1 (Nat.le_of_ble_eq_true rfl) dX12_change_84 ⟨Nat.le_of_ble_eq_true rfl, Nat.le_of_ble_eq_true rfl⟩ (fun t_23 H locs hw hP hD hS => ?_)
      obtain ⟨hok, f_25⟩ := hw
      have hfr : frA [(0, 5)] [] [3] [] t t_23 := frA_tr hfr f_25 rfl
      have h_26 : (t_23.1 0 17).toInt = (t.1 0 17).toInt := ti_eq (f_25.1 0 17 rfl)
      have h_27 : (t_23.1 0 18).toInt = (t.1 0 18).toInt := ti_eq (f_25.1 0 18 rfl)
      exact g_vret C hr hlocks hP hD hS t_23 rfl ⟨hok, hfr⟩ (Nat.le_of_ble_eq_true rfl) (Nat.le_of_ble_eq_true rfl) dX12_change_87
  · replace c_6 : 1 < (t.1 0 17).toInt := i_nle c_6
    refine lv_aload_n C.1 C.2.1 dX12_change_8 rfl (lv_at hl 0 rfl) ?_
    refine k_get (v := .int (t.1 0 15)) C hP 0 rfl rfl inlX12 15 (by decide) m_57_2 rfl dX12_change_9 ?_
    refine lv_ldc (v := 1073741824) C.1 C.2.1 C.2.2.2.1 (C.2.2.2.2.1 _ m_34_19) dX12_change_12 ?_
    obtain ⟨v_28, e_29⟩ : ∃ z, z = ((t.1 0 15) : Int32) &&& (1073741824 : Int32) := ⟨_, rfl⟩
    have h_30 : (0 : Int) ≤ v_28.toInt ∧ v_28.toInt ≤ 1073741824 := by rw [e_29]; exact z_and _ (k := 1073741824) (by decide) (by decide)
    refine k_iand (v := v_28) C e_29.symm dX12_change_14 ?_
    refine lv_istore_n (lv' := [(2, .int v_28), (0, .ref (ad 0)), (1, .int x1)]) C.1 C.2.1 dX12_change_15 rfl hl (by decide) rfl (fun ls hl => ?_)
    have hl : lv_has ls 4 [(0, .ref (ad 0)), (1, .int x1), (2, .int v_28)] := lv_sub hl [1, 2, 0] rfl
    refine lv_aload_n C.1 C.2.1 dX12_change_16 rfl (lv_at hl 0 rfl) ?_
    refine k_get (v := .int (t.1 0 18)) C hP 0 rfl rfl inlX12 18 (by decide) m_57_5 rfl dX12_change_17 ?_
    refine lv_if_ne (tgt := 27) C.1 C.2.1 dX12_change_20 (by decide) (fun c_31 => ?_) (fun c_31 => ?_)
    · replace c_31 : ¬ (t.1 0 18).toInt = 0 := i_ne c_31
      refine lv_aload_n C.1 C.2.1 dX12_change_27 rfl (lv_at hl 0 rfl) ?_
      refine k_get (v := .int (t.1 0 18)) C hP 0 rfl rfl inlX12 18 (by decide) m_57_5 rfl dX12_change_28 ?_
      obtain ⟨v_32, e_33⟩ : ∃ z, z = ((t.1 0 18) : Int32).toInt64 := ⟨_, rfl⟩
      have h_34 : v_32.toInt = (t.1 0 18).toInt := by rw [e_33]; exact Jvm.Kit.i64_of_i32 _
      have h_35 := i_rng (t.1 0 18)
      refine lv_i2l (v := v_32) C.1 C.2.1 dX12_change_31 e_33.symm ?_
      refine g_Si (As := [.long v_32]) (rest := []) C hP hD hS hA (T_X12_wordOf l D K Z Y ad t hok (v_32)) hE hZ (uwS m_35_4 m_35_5 m_1_5 m_35_6) (hdS 1 (by decide +kernel) rfl) ⟨Nat.le_of_ble_eq_true rfl, Nat.le_of_ble_eq_true rfl⟩ rfl rfl rfl hl.1 (Nat.le_of_ble_eq_true rfl) dX12_change_32 ⟨Nat.le_of_ble_eq_true rfl, Nat.le_of_ble_eq_true rfl⟩ (fun r_37 t_36 H locs hw hP hD hS => ?_)
      obtain ⟨h_39, h_40⟩ := hw
      exact L_35 t v_28 r_37 _ _ _ hok hfr ⟨by omega, by omega⟩ (show (2 : Int) ≤ ((t.1 0 17) : Int32).toInt ∧ ((t.1 0 17) : Int32).toInt ≤ 63 from ⟨by omega, by omega⟩) hP hD hS (lv_sub hl [0, 1, 2] rfl)
    · replace c_31 : (t.1 0 18).toInt = 0 := i_eq c_31
      refine lv_iload_n C.1 C.2.1 dX12_change_23 rfl (lv_at hl 2 rfl) ?_
      refine lv_goto (tgt := 35) C.1 C.2.1 dX12_change_24 (by decide) ?_
      exact L_35 t v_28 v_28 _ _ _ hok hfr ⟨by omega, by omega⟩ (show (2 : Int) ≤ ((t.1 0 17) : Int32).toInt ∧ ((t.1 0 17) : Int32).toInt ≤ 63 from ⟨by omega, by omega⟩) hP hD hS (lv_sub hl [0, 1, 2] rfl)

theorem dX12_compare_0 : decode cX12_compare 0 = .ok (.aload_n 0, 1) := by decide +kernel
theorem dX12_compare_1 : decode cX12_compare 1 = .ok (.getfield 17, 3) := by decide +kernel
theorem dX12_compare_10 : decode cX12_compare 10 = .ok (.invokestatic 303, 3) := by decide +kernel
theorem dX12_compare_13 : decode cX12_compare 13 = .ok (.invokestatic 161, 3) := by decide +kernel
theorem dX12_compare_16 : decode cX12_compare 16 = .ok (.istore_n 2, 1) := by decide +kernel
theorem dX12_compare_17 : decode cX12_compare 17 = .ok (.aload_n 0, 1) := by decide +kernel
theorem dX12_compare_18 : decode cX12_compare 18 = .ok (.aload_n 0, 1) := by decide +kernel
theorem dX12_compare_19 : decode cX12_compare 19 = .ok (.getfield 251, 3) := by decide +kernel
theorem dX12_compare_22 : decode cX12_compare 22 = .ok (.invokevirtual 260, 3) := by decide +kernel
theorem dX12_compare_25 : decode cX12_compare 25 = .ok (.aload_n 0, 1) := by decide +kernel
theorem dX12_compare_26 : decode cX12_compare 26 = .ok (.getfield 289, 3) := by decide +kernel
theorem dX12_compare_29 : decode cX12_compare 29 = .ok (.invokestatic 303, 3) := by decide +kernel
theorem dX12_compare_32 : decode cX12_compare 32 = .ok (.invokestatic 161, 3) := by decide +kernel
theorem dX12_compare_35 : decode cX12_compare 35 = .ok (.istore_n 3, 1) := by decide +kernel
theorem dX12_compare_36 : decode cX12_compare 36 = .ok (.aload_n 0, 1) := by decide +kernel
theorem dX12_compare_37 : decode cX12_compare 37 = .ok (.iload_n 2, 1) := by decide +kernel
theorem dX12_compare_38 : decode cX12_compare 38 = .ok (.iload_n 3, 1) := by decide +kernel
theorem dX12_compare_39 : decode cX12_compare 39 = .ok (.if_icmp .ge 7, 3) := by decide +kernel
theorem dX12_compare_4 : decode cX12_compare 4 = .ok (.iload_n 1, 1) := by decide +kernel
theorem dX12_compare_42 : decode cX12_compare 42 = .ok (.iconst 0, 1) := by decide +kernel
theorem dX12_compare_43 : decode cX12_compare 43 = .ok (.goto 13, 3) := by decide +kernel
theorem dX12_compare_46 : decode cX12_compare 46 = .ok (.iload_n 2, 1) := by decide +kernel
theorem dX12_compare_47 : decode cX12_compare 47 = .ok (.iload_n 3, 1) := by decide +kernel
theorem dX12_compare_48 : decode cX12_compare 48 = .ok (.if_icmp .le 7, 3) := by decide +kernel
theorem dX12_compare_5 : decode cX12_compare 5 = .ok (.iaload, 1) := by decide +kernel
theorem dX12_compare_51 : decode cX12_compare 51 = .ok (.iconst 2, 1) := by decide +kernel
theorem dX12_compare_52 : decode cX12_compare 52 = .ok (.goto 4, 3) := by decide +kernel
theorem dX12_compare_55 : decode cX12_compare 55 = .ok (.iconst 1, 1) := by decide +kernel
theorem dX12_compare_56 : decode cX12_compare 56 = .ok (.putfield 20, 3) := by decide +kernel
theorem dX12_compare_59 : decode cX12_compare 59 = .ok (.return_, 1) := by decide +kernel
theorem dX12_compare_6 : decode cX12_compare 6 = .ok (.aload_n 0, 1) := by decide +kernel
theorem dX12_compare_7 : decode cX12_compare 7 = .ok (.getfield 289, 3) := by decide +kernel
set_option maxHeartbeats 4000000 in
set_option maxRecDepth 100000 in
theorem T_X12_compare (l : Launch) (D : va_G) (K : Nat → ClassId) (Z Y : Nat → Nat) (ad : Nat → Nat) (t : tSt) (hok : okM t) (x1 : Int32) (hx1 : (0 : Int) ≤ x1.toInt ∧ x1.toInt ≤ 7) (hs0 : -3999 ≤ (t.1 0 18).toInt ∧ (t.1 0 18).toInt ≤ 3999) : tMet l yX12_compare cX12_compare 4 none (rmD 1 0 0) D K Z Y [.ref (ad 0), .int x1] (WM K ad t) (QV D K (fun (u : tSt) => okM u ∧ frA [(0, 6)] [] [] [] t u) (fun (u : tSt) => WM K ad u)) 0 0 := by
  refine t_met RX12 ⟨rfl, by decide +kernel⟩ (Nat.le_of_ble_eq_true rfl) ?_
  intro p e s m below meth c A ls C hE hZ hr hlocks hA hP hD hS hl
  have hl : lv_has ls 4 [(0, .ref (ad 0)), (1, .int x1)] := hl
  have hokt := hok
  have hfr : frA [(0, 6)] [] [] [] t t := frA_rf
  refine lv_aload_n C.1 C.2.1 dX12_compare_0 rfl (lv_at hl 0 rfl) ?_
  refine k_get (v := .ref (ad 3)) C hP 0 rfl rfl inlX12 4 (by decide) m_7_6 rfl dX12_compare_1 ?_
  refine lv_iload_n C.1 C.2.1 dX12_compare_4 rfl (lv_at hl 1 rfl) ?_
  obtain ⟨v_1, e_2⟩ : ∃ z, z = (t.2.2.1 3 (x1 : Int32).toNatClampNeg) := ⟨_, rfl⟩
  refine k_ild (v := v_1) C hP 3 rfl (vp_in_iff.mpr ⟨by omega, by omega⟩) e_2.symm dX12_compare_5 ?_
  refine lv_aload_n C.1 C.2.1 dX12_compare_6 rfl (lv_at hl 0 rfl) ?_
  have h_3 : (0 : Int) ≤ (t.1 0 17).toInt ∧ (t.1 0 17).toInt ≤ 63 := hok.1 0 17
  refine k_get (v := .int (t.1 0 17)) C hP 0 rfl rfl inlX12 17 (by decide) m_57_4 rfl dX12_compare_7 ?_
  refine g_Si (As := [.int v_1, .int (t.1 0 17)]) (rest := []) C hP hD hS hA (T_X12_fieldOf l D K Z Y ad t hok (v_1) ((t.1 0 17)) (show (0 : Int) ≤ ((t.1 0 17) : Int32).toInt ∧ ((t.1 0 17) : Int32).toInt ≤ 63 from ⟨by omega, by omega⟩)) hE hZ (uwS m_58_17 m_58_18 m_1_5 m_58_19) (hdS 2 (by decide +kernel) rfl) ⟨Nat.le_of_ble_eq_true rfl, Nat.le_of_ble_eq_true rfl⟩ rfl rfl rfl hl.1 (Nat.le_of_ble_eq_true rfl) dX12_compare_10 ⟨Nat.le_of_ble_eq_true rfl, Nat.le_of_ble_eq_true rfl⟩ (fun r_5 t_4 H locs hw hP hD hS => ?_)
  obtain ⟨h_7, h_8⟩ := hw
  refine g_Si (As := [.int r_5]) (rest := []) C hP hD hS hA (T_X12_value l D K Z Y ad t hok (r_5)) hE hZ (uwS m_36_9 m_36_10 m_1_5 m_36_11) (hdS 1 (by decide +kernel) rfl) ⟨Nat.le_of_ble_eq_true rfl, Nat.le_of_ble_eq_true rfl⟩ rfl rfl rfl hl.1 (Nat.le_of_ble_eq_true rfl) dX12_compare_13 ⟨Nat.le_of_ble_eq_true rfl, Nat.le_of_ble_eq_true rfl⟩ (fun r_10 t_9 H locs hw hP hD hS => ?_)
  obtain ⟨h_12, h_13, p_14⟩ := hw
  replace p_14 : r_10.toInt = (vO r_5).toInt := p_14
  refine lv_istore_n (lv' := [(2, .int r_10), (0, .ref (ad 0)), (1, .int x1)]) C.1 C.2.1 dX12_compare_16 rfl hl (by decide) rfl (fun ls hl => ?_)
  have hl : lv_has ls 4 [(0, .ref (ad 0)), (1, .int x1), (2, .int r_10)] := lv_sub hl [1, 2, 0] rfl
  refine lv_aload_n C.1 C.2.1 dX12_compare_17 rfl (lv_at hl 0 rfl) ?_
  refine lv_aload_n C.1 C.2.1 dX12_compare_18 rfl (lv_at hl 0 rfl) ?_
  refine k_get (v := .int (t.1 0 18)) C hP 0 rfl rfl inlX12 18 (by decide) m_57_5 rfl dX12_compare_19 ?_
  refine g_Vi (As := [.int (t.1 0 18)]) (rest := []) C hP hD hS hA (T_X12_memoryAt l D K Z Y ad t hok ((t.1 0 18)) (show (-3999 : Int) ≤ ((t.1 0 18) : Int32).toInt ∧ ((t.1 0 18) : Int32).toInt ≤ 3999 from ⟨by omega, by omega⟩)) hE hZ (uwV m_38_19 m_38_20 m_38_21 m_1_5 m_38_22) (hdV 1 (by decide +kernel) rfl) ⟨Nat.le_of_ble_eq_true rfl, Nat.le_of_ble_eq_true rfl⟩ rfl rfl (ci := 11) (q0 := 0) rfl rfl rfl hl.1 (Nat.le_of_ble_eq_true rfl) dX12_compare_22 ⟨Nat.le_of_ble_eq_true rfl, Nat.le_of_ble_eq_true rfl⟩ (fun r_16 t_15 H locs hw hP hD hS => ?_)
  obtain ⟨h_18, h_19⟩ := hw
  refine lv_aload_n C.1 C.2.1 dX12_compare_25 rfl (lv_at hl 0 rfl) ?_
  refine k_get (v := .int (t.1 0 17)) C hP 0 rfl rfl inlX12 17 (by decide) m_57_4 rfl dX12_compare_26 ?_
  refine g_Si (As := [.int r_16, .int (t.1 0 17)]) (rest := []) C hP hD hS hA (T_X12_fieldOf l D K Z Y ad t hok (r_16) ((t.1 0 17)) (show (0 : Int) ≤ ((t.1 0 17) : Int32).toInt ∧ ((t.1 0 17) : Int32).toInt ≤ 63 from ⟨by omega, by omega⟩)) hE hZ (uwS m_58_17 m_58_18 m_1_5 m_58_19) (hdS 2 (by decide +kernel) rfl) ⟨Nat.le_of_ble_eq_true rfl, Nat.le_of_ble_eq_true rfl⟩ rfl rfl rfl hl.1 (Nat.le_of_ble_eq_true rfl) dX12_compare_29 ⟨Nat.le_of_ble_eq_true rfl, Nat.le_of_ble_eq_true rfl⟩ (fun r_21 t_20 H locs hw hP hD hS => ?_)
  obtain ⟨h_23, h_24⟩ := hw
  refine g_Si (As := [.int r_21]) (rest := []) C hP hD hS hA (T_X12_value l D K Z Y ad t hok (r_21)) hE hZ (uwS m_36_9 m_36_10 m_1_5 m_36_11) (hdS 1 (by decide +kernel) rfl) ⟨Nat.le_of_ble_eq_true rfl, Nat.le_of_ble_eq_true rfl⟩ rfl rfl rfl hl.1 (Nat.le_of_ble_eq_true rfl) dX12_compare_32 ⟨Nat.le_of_ble_eq_true rfl, Nat.le_of_ble_eq_true rfl⟩ (fun r_26 t_25 H locs hw hP hD hS => ?_)
  obtain ⟨h_28, h_29, p_30⟩ := hw
  replace p_30 : r_26.toInt = (vO r_21).toInt := p_30
  refine lv_istore_n (lv' := [(3, .int r_26), (0, .ref (ad 0)), (1, .int x1), (2, .int r_10)]) C.1 C.2.1 dX12_compare_35 rfl hl (by decide) rfl (fun ls hl => ?_)
  have hl : lv_has ls 4 [(0, .ref (ad 0)), (1, .int x1), (2, .int r_10), (3, .int r_26)] := lv_sub hl [1, 2, 3, 0] rfl
  refine lv_aload_n C.1 C.2.1 dX12_compare_36 rfl (lv_at hl 0 rfl) ?_
  refine lv_iload_n C.1 C.2.1 dX12_compare_37 rfl (lv_at hl 2 rfl) ?_
  refine lv_iload_n C.1 C.2.1 dX12_compare_38 rfl (lv_at hl 3 rfl) ?_
  refine lv_icmp_ge (tgt := 46) C.1 C.2.1 dX12_compare_39 (by decide) (fun c_31 => ?_) (fun c_31 => ?_)
  · replace c_31 : r_26.toInt ≤ r_10.toInt := i_le c_31
    refine lv_iload_n C.1 C.2.1 dX12_compare_46 rfl (lv_at hl 2 rfl) ?_
    refine lv_iload_n C.1 C.2.1 dX12_compare_47 rfl (lv_at hl 3 rfl) ?_
    refine lv_icmp_le (tgt := 55) C.1 C.2.1 dX12_compare_48 (by decide) (fun c_32 => ?_) (fun c_32 => ?_)
    · replace c_32 : r_10.toInt ≤ r_26.toInt := i_le c_32
      refine lv_iconst (v := 1) C.1 C.2.1 dX12_compare_55 (by decide) ?_
      refine k_put (ws' := WM K ad (uI t 0 6 1)) (v := .int 1) C hP hD hS 0 rfl rfl inlX12 tyX12_ok nmX12 6 (by decide) m_7_7 rfl rfl rfl rfl rfl dX12_compare_56 (fun H locs hP hD hS => ?_)
      have hok : okM (uI t 0 6 1) := ⟨okI_I hok.1 0 6 1 (show (0 : Int) ≤ (1 : Int32).toInt ∧ (1 : Int32).toInt ≤ 7 from ⟨by decide, by decide⟩), hok.2.1, hok.2.2.1, hok.2.2.2.1, hok.2.2.2.2.1, hok.2.2.2.2.2.1, hok.2.2.2.2.2.2.1, trivial⟩
      have hfr : frA [(0, 6)] [] [] [] t (uI t 0 6 1) := frA_I hfr 0 6 _ rfl
      exact g_vret C hr hlocks hP hD hS (uI t 0 6 1) rfl ⟨hok, hfr⟩ (Nat.le_of_ble_eq_true rfl) (Nat.le_of_ble_eq_true rfl) dX12_compare_59
    · replace c_32 : r_26.toInt < r_10.toInt := i_nle c_32
      refine lv_iconst (v := 2) C.1 C.2.1 dX12_compare_51 (by decide) ?_
      refine lv_goto (tgt := 56) C.1 C.2.1 dX12_compare_52 (by decide) ?_
      refine k_put (ws' := WM K ad (uI t 0 6 2)) (v := .int 2) C hP hD hS 0 rfl rfl inlX12 tyX12_ok nmX12 6 (by decide) m_7_7 rfl rfl rfl rfl rfl dX12_compare_56 (fun H locs hP hD hS => ?_)
      have hok : okM (uI t 0 6 2) := ⟨okI_I hok.1 0 6 2 (show (0 : Int) ≤ (2 : Int32).toInt ∧ (2 : Int32).toInt ≤ 7 from ⟨by decide, by decide⟩), hok.2.1, hok.2.2.1, hok.2.2.2.1, hok.2.2.2.2.1, hok.2.2.2.2.2.1, hok.2.2.2.2.2.2.1, trivial⟩
      have hfr : frA [(0, 6)] [] [] [] t (uI t 0 6 2) := frA_I hfr 0 6 _ rfl
      exact g_vret C hr hlocks hP hD hS (uI t 0 6 2) rfl ⟨hok, hfr⟩ (Nat.le_of_ble_eq_true rfl) (Nat.le_of_ble_eq_true rfl) dX12_compare_59
  · replace c_31 : r_10.toInt < r_26.toInt := i_nle c_31
    refine lv_iconst (v := 0) C.1 C.2.1 dX12_compare_42 (by decide) ?_
    refine lv_goto (tgt := 56) C.1 C.2.1 dX12_compare_43 (by decide) ?_
    refine k_put (ws' := WM K ad (uI t 0 6 0)) (v := .int 0) C hP hD hS 0 rfl rfl inlX12 tyX12_ok nmX12 6 (by decide) m_7_7 rfl rfl rfl rfl rfl dX12_compare_56 (fun H locs hP hD hS => ?_)
    have hok : okM (uI t 0 6 0) := ⟨okI_I hok.1 0 6 0 (show (0 : Int) ≤ (0 : Int32).toInt ∧ (0 : Int32).toInt ≤ 7 from ⟨by decide, by decide⟩), hok.2.1, hok.2.2.1, hok.2.2.2.1, hok.2.2.2.2.1, hok.2.2.2.2.2.1, hok.2.2.2.2.2.2.1, trivial⟩
    have hfr : frA [(0, 6)] [] [] [] t (uI t 0 6 0) := frA_I hfr 0 6 _ rfl
    exact g_vret C hr hlocks hP hD hS (uI t 0 6 0) rfl ⟨hok, hfr⟩ (Nat.le_of_ble_eq_true rfl) (Nat.le_of_ble_eq_true rfl) dX12_compare_59

theorem dX12_takeClock_0 : decode cX12_takeClock 0 = .ok (.aload_n 0, 1) := by decide +kernel
theorem dX12_takeClock_1 : decode cX12_takeClock 1 = .ok (.bipush (-10), 2) := by decide +kernel
theorem dX12_takeClock_10 : decode cX12_takeClock 10 = .ok (.lload_n 1, 1) := by decide +kernel
theorem dX12_takeClock_11 : decode cX12_takeClock 11 = .ok (.lsub, 1) := by decide +kernel
theorem dX12_takeClock_12 : decode cX12_takeClock 12 = .ok (.lstore_n 3, 1) := by decide +kernel
theorem dX12_takeClock_13 : decode cX12_takeClock 13 = .ok (.lload_n 3, 1) := by decide +kernel
theorem dX12_takeClock_14 : decode cX12_takeClock 14 = .ok (.lconst 0, 1) := by decide +kernel
theorem dX12_takeClock_15 : decode cX12_takeClock 15 = .ok (.lcmp, 1) := by decide +kernel
theorem dX12_takeClock_16 : decode cX12_takeClock 16 = .ok (.ifCond .ge 8, 3) := by decide +kernel
theorem dX12_takeClock_19 : decode cX12_takeClock 19 = .ok (.lload_n 3, 1) := by decide +kernel
theorem dX12_takeClock_20 : decode cX12_takeClock 20 = .ok (.lneg, 1) := by decide +kernel
theorem dX12_takeClock_21 : decode cX12_takeClock 21 = .ok (.goto 4, 3) := by decide +kernel
theorem dX12_takeClock_24 : decode cX12_takeClock 24 = .ok (.lload_n 3, 1) := by decide +kernel
theorem dX12_takeClock_25 : decode cX12_takeClock 25 = .ok (.ldc2_w 335, 3) := by decide +kernel
theorem dX12_takeClock_28 : decode cX12_takeClock 28 = .ok (.land, 1) := by decide +kernel
theorem dX12_takeClock_29 : decode cX12_takeClock 29 = .ok (.lstore 5, 2) := by decide +kernel
theorem dX12_takeClock_3 : decode cX12_takeClock 3 = .ok (.invokevirtual 260, 3) := by decide +kernel
theorem dX12_takeClock_31 : decode cX12_takeClock 31 = .ok (.aload_n 0, 1) := by decide +kernel
theorem dX12_takeClock_32 : decode cX12_takeClock 32 = .ok (.bipush (-10), 2) := by decide +kernel
theorem dX12_takeClock_34 : decode cX12_takeClock 34 = .ok (.lload 5, 2) := by decide +kernel
theorem dX12_takeClock_36 : decode cX12_takeClock 36 = .ok (.lconst 0, 1) := by decide +kernel
theorem dX12_takeClock_37 : decode cX12_takeClock 37 = .ok (.lcmp, 1) := by decide +kernel
theorem dX12_takeClock_38 : decode cX12_takeClock 38 = .ok (.ifCond .le 18, 3) := by decide +kernel
theorem dX12_takeClock_41 : decode cX12_takeClock 41 = .ok (.lload_n 3, 1) := by decide +kernel
theorem dX12_takeClock_42 : decode cX12_takeClock 42 = .ok (.lconst 0, 1) := by decide +kernel
theorem dX12_takeClock_43 : decode cX12_takeClock 43 = .ok (.lcmp, 1) := by decide +kernel
theorem dX12_takeClock_44 : decode cX12_takeClock 44 = .ok (.ifCond .ge 12, 3) := by decide +kernel
theorem dX12_takeClock_47 : decode cX12_takeClock 47 = .ok (.ldc 158, 2) := by decide +kernel
theorem dX12_takeClock_49 : decode cX12_takeClock 49 = .ok (.lload 5, 2) := by decide +kernel
theorem dX12_takeClock_51 : decode cX12_takeClock 51 = .ok (.l2i, 1) := by decide +kernel
theorem dX12_takeClock_52 : decode cX12_takeClock 52 = .ok (.ior, 1) := by decide +kernel
theorem dX12_takeClock_53 : decode cX12_takeClock 53 = .ok (.goto 6, 3) := by decide +kernel
theorem dX12_takeClock_56 : decode cX12_takeClock 56 = .ok (.lload 5, 2) := by decide +kernel
theorem dX12_takeClock_58 : decode cX12_takeClock 58 = .ok (.l2i, 1) := by decide +kernel
theorem dX12_takeClock_59 : decode cX12_takeClock 59 = .ok (.invokevirtual 214, 3) := by decide +kernel
theorem dX12_takeClock_6 : decode cX12_takeClock 6 = .ok (.invokestatic 161, 3) := by decide +kernel
theorem dX12_takeClock_62 : decode cX12_takeClock 62 = .ok (.return_, 1) := by decide +kernel
theorem dX12_takeClock_9 : decode cX12_takeClock 9 = .ok (.i2l, 1) := by decide +kernel
set_option maxHeartbeats 4000000 in
set_option maxRecDepth 100000 in
theorem T_X12_takeClock (l : Launch) (D : va_G) (K : Nat → ClassId) (Z Y : Nat → Nat) (ad : Nat → Nat) (t : tSt) (hok : okM t) (x1 : Int64) : tMet l yX12_takeClock cX12_takeClock 7 none (rmD 1 0 0) D K Z Y [.ref (ad 0), .long x1] (WM K ad t) (QV D K (fun (u : tSt) => okM u ∧ frA [] [] [2] [] t u) (fun (u : tSt) => WM K ad u)) 0 0 := by
  refine t_met RX12 ⟨rfl, by decide +kernel⟩ (Nat.le_of_ble_eq_true rfl) ?_
  intro p e s m below meth c A ls C hE hZ hr hlocks hA hP hD hS hl
  have hl : lv_has ls 7 [(0, .ref (ad 0)), (1, .long x1)] := hl
  have hokt := hok
  have hfr : frA [] [] [2] [] t t := frA_rf
  have L_25 : ∀ (t1 : tSt) (w25_3 : Int64) (k25_0 : Int64) (H : Heap) (locs : List Loc) (ls : Array Slot), okM t1 → frA [] [] [2] [] t t1 → va_P D vwCl (WM K ad t1) H → va_D A (WM K ad t1) → va_S A s.heap H locs → lv_has ls 7 [(0, .ref (ad 0)), (1, .long x1), (3, .long w25_3)] → W p l e (rmD 1 0 0) s m [.ref (ad 0), .long x1].toArray below meth c H locs 0 0 (MQ below (QV D K (fun (u : tSt) => okM u ∧ frA [] [] [2] [] t u) (fun (u : tSt) => WM K ad u) A) [.ref (ad 0), .long x1].toArray s 0 0 A) (F0 m 25 ls [.long k25_0]) := by
    intro t1 w25_3 k25_0 H locs ls hok hfr hP hD hS hl
    refine lv_ldc2 (v := 1073741823) C.1 C.2.1 C.2.2.2.1 (C.2.2.2.2.1 _ m_36_3) dX12_takeClock_25 ?_
    obtain ⟨v_1, e_2⟩ : ∃ z, z = (k25_0 : Int64) &&& 1073741823 := ⟨_, rfl⟩
    have h_3 : v_1.toInt = k25_0.toInt % 2 ^ 30 := by rw [e_2]; exact Jvm.Kit.i64_mask _ _ (k := 30) (by decide) (by decide)
    refine lw_land (v := v_1) C.1 C.2.1 dX12_takeClock_28 e_2.symm ?_
    refine lv_lstore (lv' := [(5, .long v_1), (0, .ref (ad 0)), (1, .long x1), (3, .long w25_3)]) C.1 C.2.1 dX12_takeClock_29 hl (by decide) rfl (fun ls hl => ?_)
    have hl : lv_has ls 7 [(0, .ref (ad 0)), (1, .long x1), (3, .long w25_3), (5, .long v_1)] := lv_sub hl [1, 2, 3, 0] rfl
    refine lv_aload_n C.1 C.2.1 dX12_takeClock_31 rfl (lv_at hl 0 rfl) ?_
    refine lv_bipush (v := (-10)) C.1 C.2.1 dX12_takeClock_32 (by decide) ?_
    refine lv_lload C.1 C.2.1 dX12_takeClock_34 (lv_at hl 3 rfl) ?_
    refine lv_lconst (v := 0) C.1 C.2.1 dX12_takeClock_36 (by decide) ?_
    obtain ⟨v_4, e_5⟩ : ∃ z, z = lg_cmp (v_1 : Int64) 0 := ⟨_, rfl⟩
    have h_6 : (-1 : Int) ≤ v_4.toInt ∧ v_4.toInt ≤ 1 := by rw [e_5]; exact cmp_rng _ _
    refine k_lcmp (v := v_4) C e_5.symm dX12_takeClock_37 ?_
    refine lv_if_le (tgt := 56) C.1 C.2.1 dX12_takeClock_38 (by decide) (fun c_7 => ?_) (fun c_7 => ?_)
    · replace c_7 : v_4.toInt ≤ 0 := i_le c_7
      refine lv_lload C.1 C.2.1 dX12_takeClock_56 (lv_at hl 3 rfl) ?_
      obtain ⟨v_8, e_9⟩ : ∃ z, z = (v_1).toInt32 := ⟨_, rfl⟩
      have h_10 : v_8.toInt = v_1.toInt := by rw [e_9]; exact Jvm.Kit.i32_of_i64 (by show (_ : Int) ≤ v_1.toInt; omega) (by show v_1.toInt < (_ : Int); omega)
      refine lv_l2i (v := v_8) C.1 C.2.1 dX12_takeClock_58 e_9.symm ?_
      refine g_Vv (As := [.int (-10), .int v_8]) (rest := []) C hP hD hS hA (T_X12_setMemory l D K Z Y ad t1 hok (-10) (show (-3999 : Int) ≤ ((-10) : Int32).toInt ∧ ((-10) : Int32).toInt ≤ 3999 from ⟨by decide, by decide⟩) (v_8)) hE hZ (uwV m_38_15 m_38_16 m_38_17 m_1_5 m_38_18) (hdV 2 (by decide +kernel) rfl) ⟨Nat.le_of_ble_eq_true rfl, Nat.le_of_ble_eq_true rfl⟩ rfl rfl (ci := 11) (q0 := 0) rfl rfl rfl hl.1 (Nat.le_of_ble_eq_true rfl) dX12_takeClock_59 ⟨Nat.le_of_ble_eq_true rfl, Nat.le_of_ble_eq_true rfl⟩ (fun t_11 H locs hw hP hD hS => ?_)
      obtain ⟨hok, f_13⟩ := hw
      have hfr : frA [] [] [2] [] t t_11 := frA_tr hfr f_13 rfl
      exact g_vret C hr hlocks hP hD hS t_11 rfl ⟨hok, hfr⟩ (Nat.le_of_ble_eq_true rfl) (Nat.le_of_ble_eq_true rfl) dX12_takeClock_62
    · replace c_7 : 0 < v_4.toInt := i_nle c_7
      refine lv_lload_n C.1 C.2.1 dX12_takeClock_41 rfl (lv_at hl 2 rfl) ?_
      refine lv_lconst (v := 0) C.1 C.2.1 dX12_takeClock_42 (by decide) ?_
      obtain ⟨v_14, e_15⟩ : ∃ z, z = lg_cmp (w25_3 : Int64) 0 := ⟨_, rfl⟩
      have h_16 : (-1 : Int) ≤ v_14.toInt ∧ v_14.toInt ≤ 1 := by rw [e_15]; exact cmp_rng _ _
      refine k_lcmp (v := v_14) C e_15.symm dX12_takeClock_43 ?_
      refine lv_if_ge (tgt := 56) C.1 C.2.1 dX12_takeClock_44 (by decide) (fun c_17 => ?_) (fun c_17 => ?_)
      · replace c_17 : 0 ≤ v_14.toInt := i_le c_17
        refine lv_lload C.1 C.2.1 dX12_takeClock_56 (lv_at hl 3 rfl) ?_
        obtain ⟨v_18, e_19⟩ : ∃ z, z = (v_1).toInt32 := ⟨_, rfl⟩
        have h_20 : v_18.toInt = v_1.toInt := by rw [e_19]; exact Jvm.Kit.i32_of_i64 (by show (_ : Int) ≤ v_1.toInt; omega) (by show v_1.toInt < (_ : Int); omega)
        refine lv_l2i (v := v_18) C.1 C.2.1 dX12_takeClock_58 e_19.symm ?_
        refine g_Vv (As := [.int (-10), .int v_18]) (rest := []) C hP hD hS hA (T_X12_setMemory l D K Z Y ad t1 hok (-10) (show (-3999 : Int) ≤ ((-10) : Int32).toInt ∧ ((-10) : Int32).toInt ≤ 3999 from ⟨by decide, by decide⟩) (v_18)) hE hZ (uwV m_38_15 m_38_16 m_38_17 m_1_5 m_38_18) (hdV 2 (by decide +kernel) rfl) ⟨Nat.le_of_ble_eq_true rfl, Nat.le_of_ble_eq_true rfl⟩ rfl rfl (ci := 11) (q0 := 0) rfl rfl rfl hl.1 (Nat.le_of_ble_eq_true rfl) dX12_takeClock_59 ⟨Nat.le_of_ble_eq_true rfl, Nat.le_of_ble_eq_true rfl⟩ (fun t_21 H locs hw hP hD hS => ?_)
        obtain ⟨hok, f_23⟩ := hw
        have hfr : frA [] [] [2] [] t t_21 := frA_tr hfr f_23 rfl
        exact g_vret C hr hlocks hP hD hS t_21 rfl ⟨hok, hfr⟩ (Nat.le_of_ble_eq_true rfl) (Nat.le_of_ble_eq_true rfl) dX12_takeClock_62
      · replace c_17 : v_14.toInt < 0 := i_nle c_17
        refine lv_ldc (v := 1073741824) C.1 C.2.1 C.2.2.2.1 (C.2.2.2.2.1 _ m_34_19) dX12_takeClock_47 ?_
        refine lv_lload C.1 C.2.1 dX12_takeClock_49 (lv_at hl 3 rfl) ?_
        obtain ⟨v_24, e_25⟩ : ∃ z, z = (v_1).toInt32 := ⟨_, rfl⟩
        have h_26 : v_24.toInt = v_1.toInt := by rw [e_25]; exact Jvm.Kit.i32_of_i64 (by show (_ : Int) ≤ v_1.toInt; omega) (by show v_1.toInt < (_ : Int); omega)
        refine lv_l2i (v := v_24) C.1 C.2.1 dX12_takeClock_51 e_25.symm ?_
        obtain ⟨v_27, e_28⟩ : ∃ z, z = (1073741824 : Int32) ||| (v_24 : Int32) := ⟨_, rfl⟩
        have h_29 : (0 : Int) ≤ v_27.toInt ∧ v_27.toInt ≤ 2147483647 := by rw [e_28]; exact z_or (k := 31) (by decide) (by show (0 : Int) ≤ 1073741824; omega) (by show 1073741824 < (_ : Int); omega) (by show (0 : Int) ≤ v_24.toInt; omega) (by show v_24.toInt < (_ : Int); omega)
        refine k_ior (v := v_27) C e_28.symm dX12_takeClock_52 ?_
        refine lv_goto (tgt := 59) C.1 C.2.1 dX12_takeClock_53 (by decide) ?_
        refine g_Vv (As := [.int (-10), .int v_27]) (rest := []) C hP hD hS hA (T_X12_setMemory l D K Z Y ad t1 hok (-10) (show (-3999 : Int) ≤ ((-10) : Int32).toInt ∧ ((-10) : Int32).toInt ≤ 3999 from ⟨by decide, by decide⟩) (v_27)) hE hZ (uwV m_38_15 m_38_16 m_38_17 m_1_5 m_38_18) (hdV 2 (by decide +kernel) rfl) ⟨Nat.le_of_ble_eq_true rfl, Nat.le_of_ble_eq_true rfl⟩ rfl rfl (ci := 11) (q0 := 0) rfl rfl rfl hl.1 (Nat.le_of_ble_eq_true rfl) dX12_takeClock_59 ⟨Nat.le_of_ble_eq_true rfl, Nat.le_of_ble_eq_true rfl⟩ (fun t_30 H locs hw hP hD hS => ?_)
        obtain ⟨hok, f_32⟩ := hw
        have hfr : frA [] [] [2] [] t t_30 := frA_tr hfr f_32 rfl
        exact g_vret C hr hlocks hP hD hS t_30 rfl ⟨hok, hfr⟩ (Nat.le_of_ble_eq_true rfl) (Nat.le_of_ble_eq_true rfl) dX12_takeClock_62
  refine lv_aload_n C.1 C.2.1 dX12_takeClock_0 rfl (lv_at hl 0 rfl) ?_
  refine lv_bipush (v := (-10)) C.1 C.2.1 dX12_takeClock_1 (by decide) ?_
  refine g_Vi (As := [.int (-10)]) (rest := []) C hP hD hS hA (T_X12_memoryAt l D K Z Y ad t hok (-10) (show (-3999 : Int) ≤ ((-10) : Int32).toInt ∧ ((-10) : Int32).toInt ≤ 3999 from ⟨by decide, by decide⟩)) hE hZ (uwV m_38_19 m_38_20 m_38_21 m_1_5 m_38_22) (hdV 1 (by decide +kernel) rfl) ⟨Nat.le_of_ble_eq_true rfl, Nat.le_of_ble_eq_true rfl⟩ rfl rfl (ci := 11) (q0 := 0) rfl rfl rfl hl.1 (Nat.le_of_ble_eq_true rfl) dX12_takeClock_3 ⟨Nat.le_of_ble_eq_true rfl, Nat.le_of_ble_eq_true rfl⟩ (fun r_34 t_33 H locs hw hP hD hS => ?_)
  obtain ⟨h_36, h_37⟩ := hw
  refine g_Si (As := [.int r_34]) (rest := []) C hP hD hS hA (T_X12_value l D K Z Y ad t hok (r_34)) hE hZ (uwS m_36_9 m_36_10 m_1_5 m_36_11) (hdS 1 (by decide +kernel) rfl) ⟨Nat.le_of_ble_eq_true rfl, Nat.le_of_ble_eq_true rfl⟩ rfl rfl rfl hl.1 (Nat.le_of_ble_eq_true rfl) dX12_takeClock_6 ⟨Nat.le_of_ble_eq_true rfl, Nat.le_of_ble_eq_true rfl⟩ (fun r_39 t_38 H locs hw hP hD hS => ?_)
  obtain ⟨h_41, h_42, p_43⟩ := hw
  replace p_43 : r_39.toInt = (vO r_34).toInt := p_43
  obtain ⟨v_44, e_45⟩ : ∃ z, z = (r_39 : Int32).toInt64 := ⟨_, rfl⟩
  have h_46 : v_44.toInt = r_39.toInt := by rw [e_45]; exact Jvm.Kit.i64_of_i32 _
  have h_47 := i_rng r_39
  refine lv_i2l (v := v_44) C.1 C.2.1 dX12_takeClock_9 e_45.symm ?_
  refine lv_lload_n C.1 C.2.1 dX12_takeClock_10 rfl (lv_at hl 1 rfl) ?_
  obtain ⟨v_48, e_49⟩ : ∃ z, z = (v_44 : Int64) - (x1 : Int64) := ⟨_, rfl⟩
  refine k_lsub (v := v_48) C e_49.symm dX12_takeClock_11 ?_
  refine lv_lstore_n (lv' := [(3, .long v_48), (0, .ref (ad 0)), (1, .long x1)]) C.1 C.2.1 dX12_takeClock_12 rfl hl (by decide) rfl (fun ls hl => ?_)
  have hl : lv_has ls 7 [(0, .ref (ad 0)), (1, .long x1), (3, .long v_48)] := lv_sub hl [1, 2, 0] rfl
  refine lv_lload_n C.1 C.2.1 dX12_takeClock_13 rfl (lv_at hl 2 rfl) ?_
  refine lv_lconst (v := 0) C.1 C.2.1 dX12_takeClock_14 (by decide) ?_
  obtain ⟨v_50, e_51⟩ : ∃ z, z = lg_cmp (v_48 : Int64) 0 := ⟨_, rfl⟩
  have h_52 : (-1 : Int) ≤ v_50.toInt ∧ v_50.toInt ≤ 1 := by rw [e_51]; exact cmp_rng _ _
  refine k_lcmp (v := v_50) C e_51.symm dX12_takeClock_15 ?_
  refine lv_if_ge (tgt := 24) C.1 C.2.1 dX12_takeClock_16 (by decide) (fun c_53 => ?_) (fun c_53 => ?_)
  · replace c_53 : 0 ≤ v_50.toInt := i_le c_53
    refine lv_lload_n C.1 C.2.1 dX12_takeClock_24 rfl (lv_at hl 2 rfl) ?_
    exact L_25 t v_48 v_48 _ _ _ hok hfr hP hD hS (lv_sub hl [0, 1, 2] rfl)
  · replace c_53 : v_50.toInt < 0 := i_nle c_53
    refine lv_lload_n C.1 C.2.1 dX12_takeClock_19 rfl (lv_at hl 2 rfl) ?_
    refine lv_lneg C.1 C.2.1 dX12_takeClock_20 ?_
    refine lv_goto (tgt := 25) C.1 C.2.1 dX12_takeClock_21 (by decide) ?_
    exact L_25 t v_48 (-v_48) _ _ _ hok hfr hP hD hS (lv_sub hl [0, 1, 2] rfl)

theorem dX12_control_0 : decode cX12_control 0 = .ok (.iload_n 1, 1) := by decide +kernel
theorem dX12_control_1 : decode cX12_control 1 = .ok (.bipush 8, 2) := by decide +kernel
theorem dX12_control_10 : decode cX12_control 10 = .ok (.ifCond .ne 7, 3) := by decide +kernel
theorem dX12_control_13 : decode cX12_control 13 = .ok (.iconst 0, 1) := by decide +kernel
theorem dX12_control_14 : decode cX12_control 14 = .ok (.goto 14, 3) := by decide +kernel
theorem dX12_control_17 : decode cX12_control 17 = .ok (.aload_n 0, 1) := by decide +kernel
theorem dX12_control_18 : decode cX12_control 18 = .ok (.getfield 44, 3) := by decide +kernel
theorem dX12_control_21 : decode cX12_control 21 = .ok (.iload_n 1, 1) := by decide +kernel
theorem dX12_control_22 : decode cX12_control 22 = .ok (.iaload, 1) := by decide +kernel
theorem dX12_control_23 : decode cX12_control 23 = .ok (.aload_n 0, 1) := by decide +kernel
theorem dX12_control_24 : decode cX12_control 24 = .ok (.getfield 251, 3) := by decide +kernel
theorem dX12_control_27 : decode cX12_control 27 = .ok (.iadd, 1) := by decide +kernel
theorem dX12_control_28 : decode cX12_control 28 = .ok (.istore_n 2, 1) := by decide +kernel
theorem dX12_control_29 : decode cX12_control 29 = .ok (.aload_n 0, 1) := by decide +kernel
theorem dX12_control_3 : decode cX12_control 3 = .ok (.if_icmp .ge 52, 3) := by decide +kernel
theorem dX12_control_30 : decode cX12_control 30 = .ok (.getfield 44, 3) := by decide +kernel
theorem dX12_control_33 : decode cX12_control 33 = .ok (.iload_n 1, 1) := by decide +kernel
theorem dX12_control_34 : decode cX12_control 34 = .ok (.iload_n 2, 1) := by decide +kernel
theorem dX12_control_35 : decode cX12_control 35 = .ok (.ifCond .ge 7, 3) := by decide +kernel
theorem dX12_control_38 : decode cX12_control 38 = .ok (.iconst 0, 1) := by decide +kernel
theorem dX12_control_39 : decode cX12_control 39 = .ok (.goto 15, 3) := by decide +kernel
theorem dX12_control_42 : decode cX12_control 42 = .ok (.iload_n 2, 1) := by decide +kernel
theorem dX12_control_43 : decode cX12_control 43 = .ok (.bipush 64, 2) := by decide +kernel
theorem dX12_control_45 : decode cX12_control 45 = .ok (.if_icmp .le 8, 3) := by decide +kernel
theorem dX12_control_48 : decode cX12_control 48 = .ok (.bipush 64, 2) := by decide +kernel
theorem dX12_control_50 : decode cX12_control 50 = .ok (.goto 4, 3) := by decide +kernel
theorem dX12_control_53 : decode cX12_control 53 = .ok (.iload_n 2, 1) := by decide +kernel
theorem dX12_control_54 : decode cX12_control 54 = .ok (.iastore, 1) := by decide +kernel
theorem dX12_control_55 : decode cX12_control 55 = .ok (.iload_n 1, 1) := by decide +kernel
theorem dX12_control_56 : decode cX12_control 56 = .ok (.bipush 18, 2) := by decide +kernel
theorem dX12_control_58 : decode cX12_control 58 = .ok (.if_icmp .ne 18, 3) := by decide +kernel
theorem dX12_control_6 : decode cX12_control 6 = .ok (.aload_n 0, 1) := by decide +kernel
theorem dX12_control_61 : decode cX12_control 61 = .ok (.aload_n 0, 1) := by decide +kernel
theorem dX12_control_62 : decode cX12_control 62 = .ok (.invokevirtual 263, 3) := by decide +kernel
theorem dX12_control_65 : decode cX12_control 65 = .ok (.aload_n 0, 1) := by decide +kernel
theorem dX12_control_66 : decode cX12_control 66 = .ok (.bipush 12, 2) := by decide +kernel
theorem dX12_control_68 : decode cX12_control 68 = .ok (.invokevirtual 189, 3) := by decide +kernel
theorem dX12_control_7 : decode cX12_control 7 = .ok (.getfield 251, 3) := by decide +kernel
theorem dX12_control_71 : decode cX12_control 71 = .ok (.aload_n 0, 1) := by decide +kernel
theorem dX12_control_72 : decode cX12_control 72 = .ok (.iload_n 1, 1) := by decide +kernel
theorem dX12_control_73 : decode cX12_control 73 = .ok (.invokevirtual 269, 3) := by decide +kernel
theorem dX12_control_76 : decode cX12_control 76 = .ok (.return_, 1) := by decide +kernel
set_option maxHeartbeats 4000000 in
set_option maxRecDepth 100000 in
theorem T_X12_control (l : Launch) (D : va_G) (K : Nat → ClassId) (Z Y : Nat → Nat) (ad : Nat → Nat) (t : tSt) (hok : okM t) (x1 : Int32) (hx1 : (0 : Int) ≤ x1.toInt ∧ x1.toInt ≤ 19) : tMet l yX12_control cX12_control 3 none (rmD 1 0 0) D K Z Y [.ref (ad 0), .int x1] (WM K ad t) (QV D K (fun (u : tSt) => okM u ∧ frA [(0, 30)] [] [9, 11, 12, 13, 14] [] t u) (fun (u : tSt) => WM K ad u)) 0 0 := by
  refine t_met RX12 ⟨rfl, by decide +kernel⟩ (Nat.le_of_ble_eq_true rfl) ?_
  intro p e s m below meth c A ls C hE hZ hr hlocks hA hP hD hS hl
  have hl : lv_has ls 3 [(0, .ref (ad 0)), (1, .int x1)] := hl
  have hokt := hok
  have hfr : frA [(0, 30)] [] [9, 11, 12, 13, 14] [] t t := frA_rf
  have h_1 : (0 : Int) ≤ (t.1 0 30).toInt ∧ (t.1 0 30).toInt ≤ 120 := hok.1 0 30
  have L_55 : ∀ (t1 : tSt) (H : Heap) (locs : List Loc) (ls : Array Slot), okM t1 → frA [(0, 30)] [] [9, 11, 12, 13, 14] [] t t1 → va_P D vwCl (WM K ad t1) H → va_D A (WM K ad t1) → va_S A s.heap H locs → lv_has ls 3 [(0, .ref (ad 0)), (1, .int x1)] → W p l e (rmD 1 0 0) s m [.ref (ad 0), .int x1].toArray below meth c H locs 0 0 (MQ below (QV D K (fun (u : tSt) => okM u ∧ frA [(0, 30)] [] [9, 11, 12, 13, 14] [] t u) (fun (u : tSt) => WM K ad u) A) [.ref (ad 0), .int x1].toArray s 0 0 A) (F0 m 55 ls []) := by
    intro t1 H locs ls hok hfr hP hD hS hl
    have h_2 : (0 : Int) ≤ (t1.1 0 30).toInt ∧ (t1.1 0 30).toInt ≤ 120 := hok.1 0 30
    refine lv_iload_n C.1 C.2.1 dX12_control_55 rfl (lv_at hl 1 rfl) ?_
    refine lv_bipush (v := 18) C.1 C.2.1 dX12_control_56 (by decide) ?_
    refine lv_icmp_ne (tgt := 76) C.1 C.2.1 dX12_control_58 (by decide) (fun c_3 => ?_) (fun c_3 => ?_)
    · replace c_3 : ¬ x1.toInt = 18 := i_ne c_3
      exact g_vret C hr hlocks hP hD hS t1 rfl ⟨hok, hfr⟩ (Nat.le_of_ble_eq_true rfl) (Nat.le_of_ble_eq_true rfl) dX12_control_76
    · replace c_3 : x1.toInt = 18 := i_eq c_3
      refine lv_aload_n C.1 C.2.1 dX12_control_61 rfl (lv_at hl 0 rfl) ?_
      refine g_Vv (As := []) (rest := []) C hP hD hS hA (T_X12_begin l D K Z Y ad t1 hok ) hE hZ (uwV m_42_4 m_42_5 m_42_6 m_1_5 m_42_7) (hdV 0 (by decide +kernel) rfl) ⟨Nat.le_of_ble_eq_true rfl, Nat.le_of_ble_eq_true rfl⟩ rfl rfl (ci := 11) (q0 := 0) rfl rfl rfl hl.1 (Nat.le_of_ble_eq_true rfl) dX12_control_62 ⟨Nat.le_of_ble_eq_true rfl, Nat.le_of_ble_eq_true rfl⟩ (fun t_4 H locs hw hP hD hS => ?_)
      obtain ⟨hok, f_6, p_7⟩ := hw
      have hfr : frA [(0, 30)] [] [9, 11, 12, 13, 14] [] t t_4 := frA_tr hfr f_6 rfl
      have h_8 : (0 : Int) ≤ (t_4.1 0 30).toInt ∧ (t_4.1 0 30).toInt ≤ 120 := hok.1 0 30
      replace p_7 : (t_4.1 0 30).toInt = 0 := p_7
      refine lv_aload_n C.1 C.2.1 dX12_control_65 rfl (lv_at hl 0 rfl) ?_
      refine lv_bipush (v := 12) C.1 C.2.1 dX12_control_66 (by decide) ?_
      refine g_Vv (As := [.int 12]) (rest := []) C hP hD hS hA (T_X12_say l D K Z Y ad t_4 hok 12 (show (t_4.1 0 30).toInt ≤ 119 from by omega)) hE hZ (uwV m_42_13 m_42_14 m_42_15 m_1_5 m_42_16) (hdV 1 (by decide +kernel) rfl) ⟨Nat.le_of_ble_eq_true rfl, Nat.le_of_ble_eq_true rfl⟩ rfl rfl (ci := 11) (q0 := 0) rfl rfl rfl hl.1 (Nat.le_of_ble_eq_true rfl) dX12_control_68 ⟨Nat.le_of_ble_eq_true rfl, Nat.le_of_ble_eq_true rfl⟩ (fun t_9 H locs hw hP hD hS => ?_)
      obtain ⟨hok, f_11, p_12⟩ := hw
      have hfr : frA [(0, 30)] [] [9, 11, 12, 13, 14] [] t t_9 := frA_tr hfr f_11 rfl
      have h_13 : (0 : Int) ≤ (t_9.1 0 30).toInt ∧ (t_9.1 0 30).toInt ≤ 120 := hok.1 0 30
      replace p_12 : (t_9.1 0 30).toInt = (t_4.1 0 30).toInt + 1 := p_12
      refine lv_aload_n C.1 C.2.1 dX12_control_71 rfl (lv_at hl 0 rfl) ?_
      refine lv_iload_n C.1 C.2.1 dX12_control_72 rfl (lv_at hl 1 rfl) ?_
      refine g_Vv (As := [.int x1]) (rest := []) C hP hD hS hA (T_X12_print l D K Z Y ad t_9 hok (x1) (show (17 : Int) ≤ (x1 : Int32).toInt ∧ (x1 : Int32).toInt ≤ 19 from ⟨by omega, by omega⟩)) hE hZ (uwV m_42_21 m_42_22 m_42_23 m_1_5 m_43_0) (hdV 1 (by decide +kernel) rfl) ⟨Nat.le_of_ble_eq_true rfl, Nat.le_of_ble_eq_true rfl⟩ rfl rfl (ci := 11) (q0 := 0) rfl rfl rfl hl.1 (Nat.le_of_ble_eq_true rfl) dX12_control_73 ⟨Nat.le_of_ble_eq_true rfl, Nat.le_of_ble_eq_true rfl⟩ (fun t_14 H locs hw hP hD hS => ?_)
      obtain ⟨hok, f_16⟩ := hw
      have hfr : frA [(0, 30)] [] [9, 11, 12, 13, 14] [] t t_14 := frA_tr hfr f_16 rfl
      have h_17 : (0 : Int) ≤ (t_14.1 0 30).toInt ∧ (t_14.1 0 30).toInt ≤ 120 := hok.1 0 30
      exact g_vret C hr hlocks hP hD hS t_14 rfl ⟨hok, hfr⟩ (Nat.le_of_ble_eq_true rfl) (Nat.le_of_ble_eq_true rfl) dX12_control_76
  have L_54 : ∀ (t1 : tSt) (w54_2 : Int32) (k54_1 : Int32) (k54_2 : Int32) (H : Heap) (locs : List Loc) (ls : Array Slot), okM t1 → frA [(0, 30)] [] [9, 11, 12, 13, 14] [] t t1 → (0 : Int) ≤ x1.toInt ∧ x1.toInt ≤ 7 → (0 : Int) ≤ k54_1.toInt ∧ k54_1.toInt ≤ 7 → (0 : Int) ≤ k54_2.toInt ∧ k54_2.toInt ≤ 64 → va_P D vwCl (WM K ad t1) H → va_D A (WM K ad t1) → va_S A s.heap H locs → lv_has ls 3 [(0, .ref (ad 0)), (1, .int x1), (2, .int w54_2)] → W p l e (rmD 1 0 0) s m [.ref (ad 0), .int x1].toArray below meth c H locs 0 0 (MQ below (QV D K (fun (u : tSt) => okM u ∧ frA [(0, 30)] [] [9, 11, 12, 13, 14] [] t u) (fun (u : tSt) => WM K ad u) A) [.ref (ad 0), .int x1].toArray s 0 0 A) (F0 m 54 ls [.int k54_2, .int k54_1, .ref (ad 9)]) := by
    intro t1 w54_2 k54_1 k54_2 H locs ls hok hfr hx54_1 hk54_1 hk54_2 hP hD hS hl
    have h_18 : (0 : Int) ≤ (t1.1 0 30).toInt ∧ (t1.1 0 30).toInt ≤ 120 := hok.1 0 30
    refine k_ist (ws' := WM K ad (uB t1 9 (k54_1 : Int32).toNatClampNeg k54_2)) (x' := k54_2) C hP hD hS 9 rfl (vp_in_iff.mpr ⟨by omega, by omega⟩) rfl rfl rfl dX12_control_54 (fun H locs hP hD hS => ?_)
    have hok : okM (uB t1 9 (k54_1 : Int32).toNatClampNeg k54_2) := ⟨hok.1, okB_B hok.2.1 9 _ k54_2 (show (0 : Int) ≤ (k54_2 : Int32).toInt ∧ (k54_2 : Int32).toInt ≤ 64 from ⟨by omega, by omega⟩), hok.2.2.1, hok.2.2.2.1, hok.2.2.2.2.1, hok.2.2.2.2.2.1, hok.2.2.2.2.2.2.1, trivial⟩
    have hfr : frA [(0, 30)] [] [9, 11, 12, 13, 14] [] t (uB t1 9 (k54_1 : Int32).toNatClampNeg k54_2) := frA_B hfr 9 _ _ rfl
    exact L_55 (uB t1 9 (k54_1 : Int32).toNatClampNeg k54_2) _ _ _ hok hfr hP hD hS (lv_sub hl [0, 1] rfl)
  have L_28 : ∀ (t1 : tSt) (k28_0 : Int32) (H : Heap) (locs : List Loc) (ls : Array Slot), okM t1 → frA [(0, 30)] [] [9, 11, 12, 13, 14] [] t t1 → (0 : Int) ≤ x1.toInt ∧ x1.toInt ≤ 7 → va_P D vwCl (WM K ad t1) H → va_D A (WM K ad t1) → va_S A s.heap H locs → lv_has ls 3 [(0, .ref (ad 0)), (1, .int x1)] → W p l e (rmD 1 0 0) s m [.ref (ad 0), .int x1].toArray below meth c H locs 0 0 (MQ below (QV D K (fun (u : tSt) => okM u ∧ frA [(0, 30)] [] [9, 11, 12, 13, 14] [] t u) (fun (u : tSt) => WM K ad u) A) [.ref (ad 0), .int x1].toArray s 0 0 A) (F0 m 28 ls [.int k28_0]) := by
    intro t1 k28_0 H locs ls hok hfr hx28_1 hP hD hS hl
    have h_19 : (0 : Int) ≤ (t1.1 0 30).toInt ∧ (t1.1 0 30).toInt ≤ 120 := hok.1 0 30
    refine lv_istore_n (lv' := [(2, .int k28_0), (0, .ref (ad 0)), (1, .int x1)]) C.1 C.2.1 dX12_control_28 rfl hl (by decide) rfl (fun ls hl => ?_)
    have hl : lv_has ls 3 [(0, .ref (ad 0)), (1, .int x1), (2, .int k28_0)] := lv_sub hl [1, 2, 0] rfl
    refine lv_aload_n C.1 C.2.1 dX12_control_29 rfl (lv_at hl 0 rfl) ?_
    refine k_get (v := .ref (ad 9)) C hP 0 rfl rfl inlX12 24 (by decide) m_7_14 rfl dX12_control_30 ?_
    refine lv_iload_n C.1 C.2.1 dX12_control_33 rfl (lv_at hl 1 rfl) ?_
    refine lv_iload_n C.1 C.2.1 dX12_control_34 rfl (lv_at hl 2 rfl) ?_
    refine lv_if_ge (tgt := 42) C.1 C.2.1 dX12_control_35 (by decide) (fun c_20 => ?_) (fun c_20 => ?_)
    · replace c_20 : 0 ≤ k28_0.toInt := i_le c_20
      refine lv_iload_n C.1 C.2.1 dX12_control_42 rfl (lv_at hl 2 rfl) ?_
      refine lv_bipush (v := 64) C.1 C.2.1 dX12_control_43 (by decide) ?_
      refine lv_icmp_le (tgt := 53) C.1 C.2.1 dX12_control_45 (by decide) (fun c_21 => ?_) (fun c_21 => ?_)
      · replace c_21 : k28_0.toInt ≤ 64 := i_le c_21
        refine lv_iload_n C.1 C.2.1 dX12_control_53 rfl (lv_at hl 2 rfl) ?_
        exact L_54 t1 k28_0 x1 k28_0 _ _ _ hok hfr ⟨by omega, by omega⟩ ⟨by omega, by omega⟩ ⟨by omega, by omega⟩ hP hD hS (lv_sub hl [0, 1, 2] rfl)
      · replace c_21 : 64 < k28_0.toInt := i_nle c_21
        refine lv_bipush (v := 64) C.1 C.2.1 dX12_control_48 (by decide) ?_
        refine lv_goto (tgt := 54) C.1 C.2.1 dX12_control_50 (by decide) ?_
        exact L_54 t1 k28_0 x1 64 _ _ _ hok hfr ⟨by omega, by omega⟩ ⟨by omega, by omega⟩ ⟨by decide, by decide⟩ hP hD hS (lv_sub hl [0, 1, 2] rfl)
    · replace c_20 : k28_0.toInt < 0 := i_nle c_20
      refine lv_iconst (v := 0) C.1 C.2.1 dX12_control_38 (by decide) ?_
      refine lv_goto (tgt := 54) C.1 C.2.1 dX12_control_39 (by decide) ?_
      exact L_54 t1 k28_0 x1 0 _ _ _ hok hfr ⟨by omega, by omega⟩ ⟨by omega, by omega⟩ ⟨by decide, by decide⟩ hP hD hS (lv_sub hl [0, 1, 2] rfl)
  refine lv_iload_n C.1 C.2.1 dX12_control_0 rfl (lv_at hl 1 rfl) ?_
  refine lv_bipush (v := 8) C.1 C.2.1 dX12_control_1 (by decide) ?_
  refine lv_icmp_ge (tgt := 55) C.1 C.2.1 dX12_control_3 (by decide) (fun c_22 => ?_) (fun c_22 => ?_)
  · replace c_22 : 8 ≤ x1.toInt := i_le c_22
    exact L_55 t _ _ _ hok hfr hP hD hS (lv_sub hl [0, 1] rfl)
  · replace c_22 : x1.toInt < 8 := i_nle c_22
    refine lv_aload_n C.1 C.2.1 dX12_control_6 rfl (lv_at hl 0 rfl) ?_
    refine k_get (v := .int (t.1 0 18)) C hP 0 rfl rfl inlX12 18 (by decide) m_57_5 rfl dX12_control_7 ?_
    refine lv_if_ne (tgt := 17) C.1 C.2.1 dX12_control_10 (by decide) (fun c_23 => ?_) (fun c_23 => ?_)
    · replace c_23 : ¬ (t.1 0 18).toInt = 0 := i_ne c_23
      refine lv_aload_n C.1 C.2.1 dX12_control_17 rfl (lv_at hl 0 rfl) ?_
      refine k_get (v := .ref (ad 9)) C hP 0 rfl rfl inlX12 24 (by decide) m_7_14 rfl dX12_control_18 ?_
      refine lv_iload_n C.1 C.2.1 dX12_control_21 rfl (lv_at hl 1 rfl) ?_
      obtain ⟨v_24, e_25⟩ : ∃ z, z = (t.2.2.1 9 (x1 : Int32).toNatClampNeg) := ⟨_, rfl⟩
      have h_26 : (0 : Int) ≤ v_24.toInt ∧ v_24.toInt ≤ 64 := by rw [e_25]; exact hok.2.1 9 _
      refine k_ild (v := v_24) C hP 9 rfl (vp_in_iff.mpr ⟨by omega, by omega⟩) e_25.symm dX12_control_22 ?_
      refine lv_aload_n C.1 C.2.1 dX12_control_23 rfl (lv_at hl 0 rfl) ?_
      refine k_get (v := .int (t.1 0 18)) C hP 0 rfl rfl inlX12 18 (by decide) m_57_5 rfl dX12_control_24 ?_
      obtain ⟨v_27, e_28⟩ : ∃ z, z = (v_24 : Int32) + ((t.1 0 18) : Int32) := ⟨_, rfl⟩
      refine k_iadd (v := v_27) C e_28.symm dX12_control_27 ?_
      exact L_28 t v_27 _ _ _ hok hfr ⟨by omega, by omega⟩ hP hD hS (lv_sub hl [0, 1] rfl)
    · replace c_23 : (t.1 0 18).toInt = 0 := i_eq c_23
      refine lv_iconst (v := 0) C.1 C.2.1 dX12_control_13 (by decide) ?_
      refine lv_goto (tgt := 28) C.1 C.2.1 dX12_control_14 (by decide) ?_
      exact L_28 t 0 _ _ _ hok hfr ⟨by omega, by omega⟩ hP hD hS (lv_sub hl [0, 1] rfl)

theorem dX12_blockNow_0 : decode cX12_blockNow 0 = .ok (.iload_n 1, 1) := by decide +kernel
theorem dX12_blockNow_1 : decode cX12_blockNow 1 = .ok (.bipush 8, 2) := by decide +kernel
theorem dX12_blockNow_10 : decode cX12_blockNow 10 = .ok (.iload_n 1, 1) := by decide +kernel
theorem dX12_blockNow_11 : decode cX12_blockNow 11 = .ok (.iaload, 1) := by decide +kernel
theorem dX12_blockNow_12 : decode cX12_blockNow 12 = .ok (.goto 13, 3) := by decide +kernel
theorem dX12_blockNow_15 : decode cX12_blockNow 15 = .ok (.aload_n 0, 1) := by decide +kernel
theorem dX12_blockNow_16 : decode cX12_blockNow 16 = .ok (.getfield 17, 3) := by decide +kernel
theorem dX12_blockNow_19 : decode cX12_blockNow 19 = .ok (.bipush 7, 2) := by decide +kernel
theorem dX12_blockNow_21 : decode cX12_blockNow 21 = .ok (.iaload, 1) := by decide +kernel
theorem dX12_blockNow_22 : decode cX12_blockNow 22 = .ok (.invokestatic 161, 3) := by decide +kernel
theorem dX12_blockNow_25 : decode cX12_blockNow 25 = .ok (.ireturn, 1) := by decide +kernel
theorem dX12_blockNow_3 : decode cX12_blockNow 3 = .ok (.if_icmp .ge 12, 3) := by decide +kernel
theorem dX12_blockNow_6 : decode cX12_blockNow 6 = .ok (.aload_n 0, 1) := by decide +kernel
theorem dX12_blockNow_7 : decode cX12_blockNow 7 = .ok (.getfield 44, 3) := by decide +kernel
set_option maxHeartbeats 4000000 in
set_option maxRecDepth 100000 in
theorem T_X12_blockNow (l : Launch) (D : va_G) (K : Nat → ClassId) (Z Y : Nat → Nat) (ad : Nat → Nat) (t : tSt) (hok : okM t) (x1 : Int32) (hx1 : (0 : Int) ≤ x1.toInt ∧ x1.toInt ≤ 15) : tMet l yX12_blockNow cX12_blockNow 2 (some .int) (rmD 1 0 0) D K Z Y [.ref (ad 0), .int x1] (WM K ad t) (QI D K (fun (r : Int32) (u : Unit) => (-2147483648 : Int) ≤ r.toInt ∧ r.toInt ≤ 2147483647 ∧ (x1.toInt < 8 → r.toInt = (t.2.2.1 9 (x1 : Int32).toNatClampNeg).toInt) ∧ (8 ≤ x1.toInt → r.toInt = (vO (t.2.2.1 3 (7 : Int32).toNatClampNeg)).toInt)) (fun (_ : Unit) => WM K ad t)) 0 0 := by
  refine t_met RX12 ⟨rfl, by decide +kernel⟩ (Nat.le_of_ble_eq_true rfl) ?_
  intro p e s m below meth c A ls C hE hZ hr hlocks hA hP hD hS hl
  have hl : lv_has ls 2 [(0, .ref (ad 0)), (1, .int x1)] := hl
  refine lv_iload_n C.1 C.2.1 dX12_blockNow_0 rfl (lv_at hl 1 rfl) ?_
  refine lv_bipush (v := 8) C.1 C.2.1 dX12_blockNow_1 (by decide) ?_
  refine lv_icmp_ge (tgt := 15) C.1 C.2.1 dX12_blockNow_3 (by decide) (fun c_1 => ?_) (fun c_1 => ?_)
  · replace c_1 : 8 ≤ x1.toInt := i_le c_1
    refine lv_aload_n C.1 C.2.1 dX12_blockNow_15 rfl (lv_at hl 0 rfl) ?_
    refine k_get (v := .ref (ad 3)) C hP 0 rfl rfl inlX12 4 (by decide) m_7_6 rfl dX12_blockNow_16 ?_
    refine lv_bipush (v := 7) C.1 C.2.1 dX12_blockNow_19 (by decide) ?_
    refine k_ild (v := (t.2.2.1 3 (7 : Int32).toNatClampNeg)) C hP 3 rfl (vin (by decide)) rfl dX12_blockNow_21 ?_
    refine g_Si (As := [.int (t.2.2.1 3 (7 : Int32).toNatClampNeg)]) (rest := []) C hP hD hS hA (T_X12_value l D K Z Y ad t hok ((t.2.2.1 3 (7 : Int32).toNatClampNeg))) hE hZ (uwS m_36_9 m_36_10 m_1_5 m_36_11) (hdS 1 (by decide +kernel) rfl) ⟨Nat.le_of_ble_eq_true rfl, Nat.le_of_ble_eq_true rfl⟩ rfl rfl rfl hl.1 (Nat.le_of_ble_eq_true rfl) dX12_blockNow_22 ⟨Nat.le_of_ble_eq_true rfl, Nat.le_of_ble_eq_true rfl⟩ (fun r_3 t_2 H locs hw hP hD hS => ?_)
    obtain ⟨h_5, h_6, p_7⟩ := hw
    replace p_7 : r_3.toInt = (vO (t.2.2.1 3 (7 : Int32).toNatClampNeg)).toInt := p_7
    exact g_iret C hr hlocks hP hD hS rfl () rfl ⟨(i_rng _).1, (i_rng _).2, (show x1.toInt < 8 → r_3.toInt = (t.2.2.1 9 (x1 : Int32).toNatClampNeg).toInt from by omega), (show 8 ≤ x1.toInt → r_3.toInt = (vO (t.2.2.1 3 (7 : Int32).toNatClampNeg)).toInt from by omega)⟩ (Nat.le_of_ble_eq_true rfl) (Nat.le_of_ble_eq_true rfl) dX12_blockNow_25
  · replace c_1 : x1.toInt < 8 := i_nle c_1
    refine lv_aload_n C.1 C.2.1 dX12_blockNow_6 rfl (lv_at hl 0 rfl) ?_
    refine k_get (v := .ref (ad 9)) C hP 0 rfl rfl inlX12 24 (by decide) m_7_14 rfl dX12_blockNow_7 ?_
    refine lv_iload_n C.1 C.2.1 dX12_blockNow_10 rfl (lv_at hl 1 rfl) ?_
    have h_8 : (0 : Int) ≤ (t.2.2.1 9 (x1 : Int32).toNatClampNeg).toInt ∧ (t.2.2.1 9 (x1 : Int32).toNatClampNeg).toInt ≤ 64 := hok.2.1 9 _
    refine k_ild (v := (t.2.2.1 9 (x1 : Int32).toNatClampNeg)) C hP 9 rfl (vp_in_iff.mpr ⟨by omega, by omega⟩) rfl dX12_blockNow_11 ?_
    refine lv_goto (tgt := 25) C.1 C.2.1 dX12_blockNow_12 (by decide) ?_
    exact g_iret C hr hlocks hP hD hS rfl () rfl ⟨(i_rng _).1, (i_rng _).2, (show x1.toInt < 8 → (t.2.2.1 9 (x1 : Int32).toNatClampNeg).toInt = (t.2.2.1 9 (x1 : Int32).toNatClampNeg).toInt from by omega), (show 8 ≤ x1.toInt → (t.2.2.1 9 (x1 : Int32).toNatClampNeg).toInt = (vO (t.2.2.1 3 (7 : Int32).toNatClampNeg)).toInt from by omega)⟩ (Nat.le_of_ble_eq_true rfl) (Nat.le_of_ble_eq_true rfl) dX12_blockNow_25

theorem dX12_letterOf_0 : decode cX12_letterOf 0 = .ok (.iload_n 0, 1) := by decide +kernel
theorem dX12_letterOf_1 : decode cX12_letterOf 1 = .ok (.bipush 56, 2) := by decide +kernel
theorem dX12_letterOf_12 : decode cX12_letterOf 12 = .ok (.goto 5, 3) := by decide +kernel
theorem dX12_letterOf_15 : decode cX12_letterOf 15 = .ok (.bipush 63, 2) := by decide +kernel
theorem dX12_letterOf_17 : decode cX12_letterOf 17 = .ok (.ireturn, 1) := by decide +kernel
theorem dX12_letterOf_3 : decode cX12_letterOf 3 = .ok (.if_icmp .ge 12, 3) := by decide +kernel
theorem dX12_letterOf_6 : decode cX12_letterOf 6 = .ok (.ldc 165, 2) := by decide +kernel
theorem dX12_letterOf_8 : decode cX12_letterOf 8 = .ok (.iload_n 0, 1) := by decide +kernel
theorem dX12_letterOf_9 : decode cX12_letterOf 9 = .ok (.invokevirtual 172, 3) := by decide +kernel
set_option maxHeartbeats 4000000 in
set_option maxRecDepth 100000 in
theorem T_X12_letterOf (l : Launch) (D : va_G) (K : Nat → ClassId) (Z Y : Nat → Nat) (ad : Nat → Nat) (t : tSt) (hok : okM t) (x0 : Int32) (hx0 : (0 : Int) ≤ x0.toInt ∧ x0.toInt ≤ 63) : tMet l yX12_letterOf cX12_letterOf 1 (some .int) (rmD 4 0 0) D K Z Y [.int x0] (WM K ad t) (QI D K (fun (r : Int32) (u : Unit) => (0 : Int) ≤ r.toInt ∧ r.toInt ≤ 255) (fun (_ : Unit) => WM K ad t)) 0 0 := by
  refine t_met RX12 ⟨rfl, by decide +kernel⟩ (Nat.le_of_ble_eq_true rfl) ?_
  intro p e s m below meth c A ls C hE hZ hr hlocks hA hP hD hS hl
  have hl : lv_has ls 1 [(0, .int x0)] := hl
  refine lv_iload_n C.1 C.2.1 dX12_letterOf_0 rfl (lv_at hl 0 rfl) ?_
  refine lv_bipush (v := 56) C.1 C.2.1 dX12_letterOf_1 (by decide) ?_
  refine lv_icmp_ge (tgt := 15) C.1 C.2.1 dX12_letterOf_3 (by decide) (fun c_1 => ?_) (fun c_1 => ?_)
  · replace c_1 : 56 ≤ x0.toInt := i_le c_1
    refine lv_bipush (v := 63) C.1 C.2.1 dX12_letterOf_15 (by decide) ?_
    exact g_iret C hr hlocks hP hD hS rfl () rfl ⟨by decide, by decide⟩ (Nat.le_of_ble_eq_true rfl) (Nat.le_of_ble_eq_true rfl) dX12_letterOf_17
  · replace c_1 : x0.toInt < 56 := i_nle c_1
    refine va_ldcS C.1 C.2.1 C.2.2.2.1 (hE.2 23 (by decide)) dX12_letterOf_6 ?_
    refine lv_iload_n C.1 C.2.1 dX12_letterOf_8 rfl (lv_at hl 0 rfl) ?_
    refine g_Ti (As := [.int x0]) (rest := []) C hP hD hS hA (TJ_charAt l D K Z Y (WM K ad t) 23 (by decide) x0 (show 0 ≤ x0.toInt ∧ x0.toInt < sL 23 from by have hsl : sL 23 = 56 := rfl; omega)) hE hZ (uwV m_31_19 m_17_21 m_17_22 m_14_8 m_17_23) (hdV 1 (by decide +kernel) rfl) ⟨Nat.le_of_ble_eq_true rfl, Nat.le_of_ble_eq_true rfl⟩ rfl rfl (i0 := 23) (by decide) rfl rfl hl.1 (Nat.le_of_ble_eq_true rfl) dX12_letterOf_9 ⟨Nat.le_of_ble_eq_true rfl, Nat.le_of_ble_eq_true rfl⟩ (fun r_2 u_r_2 H locs hw hP hD hS => ?_)
    have er_2 : r_2 = (sByt 23).getD (x0 : Int32).toNatClampNeg 0 := hw
    have h_3 : (32 : Int) ≤ r_2.toInt ∧ r_2.toInt ≤ 126 := by rw [er_2]; exact sByt_r 23 (by decide) (by omega) (by have hsl : sL 23 = 56 := rfl; omega)
    refine lv_goto (tgt := 17) C.1 C.2.1 dX12_letterOf_12 (by decide) ?_
    exact g_iret C hr hlocks hP hD hS rfl () rfl ⟨by omega, by omega⟩ (Nat.le_of_ble_eq_true rfl) (Nat.le_of_ble_eq_true rfl) dX12_letterOf_17

theorem dX12_byteAt_0 : decode cX12_byteAt 0 = .ok (.iload_n 1, 1) := by decide +kernel
theorem dX12_byteAt_1 : decode cX12_byteAt 1 = .ok (.bipush 6, 2) := by decide +kernel
theorem dX12_byteAt_10 : decode cX12_byteAt 10 = .ok (.iconst 0, 1) := by decide +kernel
theorem dX12_byteAt_11 : decode cX12_byteAt 11 = .ok (.iaload, 1) := by decide +kernel
theorem dX12_byteAt_12 : decode cX12_byteAt 12 = .ok (.bipush 6, 2) := by decide +kernel
theorem dX12_byteAt_14 : decode cX12_byteAt 14 = .ok (.iconst 5, 1) := by decide +kernel
theorem dX12_byteAt_15 : decode cX12_byteAt 15 = .ok (.iload_n 1, 1) := by decide +kernel
theorem dX12_byteAt_16 : decode cX12_byteAt 16 = .ok (.isub, 1) := by decide +kernel
theorem dX12_byteAt_17 : decode cX12_byteAt 17 = .ok (.imul, 1) := by decide +kernel
theorem dX12_byteAt_18 : decode cX12_byteAt 18 = .ok (.ishr, 1) := by decide +kernel
theorem dX12_byteAt_19 : decode cX12_byteAt 19 = .ok (.bipush 63, 2) := by decide +kernel
theorem dX12_byteAt_21 : decode cX12_byteAt 21 = .ok (.iand, 1) := by decide +kernel
theorem dX12_byteAt_22 : decode cX12_byteAt 22 = .ok (.goto 21, 3) := by decide +kernel
theorem dX12_byteAt_25 : decode cX12_byteAt 25 = .ok (.aload_n 0, 1) := by decide +kernel
theorem dX12_byteAt_26 : decode cX12_byteAt 26 = .ok (.getfield 17, 3) := by decide +kernel
theorem dX12_byteAt_29 : decode cX12_byteAt 29 = .ok (.bipush 7, 2) := by decide +kernel
theorem dX12_byteAt_3 : decode cX12_byteAt 3 = .ok (.if_icmp .ge 22, 3) := by decide +kernel
theorem dX12_byteAt_31 : decode cX12_byteAt 31 = .ok (.iaload, 1) := by decide +kernel
theorem dX12_byteAt_32 : decode cX12_byteAt 32 = .ok (.bipush 6, 2) := by decide +kernel
theorem dX12_byteAt_34 : decode cX12_byteAt 34 = .ok (.bipush 10, 2) := by decide +kernel
theorem dX12_byteAt_36 : decode cX12_byteAt 36 = .ok (.iload_n 1, 1) := by decide +kernel
theorem dX12_byteAt_37 : decode cX12_byteAt 37 = .ok (.isub, 1) := by decide +kernel
theorem dX12_byteAt_38 : decode cX12_byteAt 38 = .ok (.imul, 1) := by decide +kernel
theorem dX12_byteAt_39 : decode cX12_byteAt 39 = .ok (.ishr, 1) := by decide +kernel
theorem dX12_byteAt_40 : decode cX12_byteAt 40 = .ok (.bipush 63, 2) := by decide +kernel
theorem dX12_byteAt_42 : decode cX12_byteAt 42 = .ok (.iand, 1) := by decide +kernel
theorem dX12_byteAt_43 : decode cX12_byteAt 43 = .ok (.ireturn, 1) := by decide +kernel
theorem dX12_byteAt_6 : decode cX12_byteAt 6 = .ok (.aload_n 0, 1) := by decide +kernel
theorem dX12_byteAt_7 : decode cX12_byteAt 7 = .ok (.getfield 17, 3) := by decide +kernel
set_option maxHeartbeats 4000000 in
set_option maxRecDepth 100000 in
theorem T_X12_byteAt (l : Launch) (D : va_G) (K : Nat → ClassId) (Z Y : Nat → Nat) (ad : Nat → Nat) (t : tSt) (hok : okM t) (x1 : Int32) (hx1 : (1 : Int) ≤ x1.toInt ∧ x1.toInt ≤ 2147483647) : tMet l yX12_byteAt cX12_byteAt 2 (some .int) (rmD 0 0 0) D K Z Y [.ref (ad 0), .int x1] (WM K ad t) (QI D K (fun (r : Int32) (u : Unit) => (0 : Int) ≤ r.toInt ∧ r.toInt ≤ 63) (fun (_ : Unit) => WM K ad t)) 0 0 := by
  refine t_met RX12 ⟨rfl, by decide +kernel⟩ (Nat.le_of_ble_eq_true rfl) ?_
  intro p e s m below meth c A ls C hE hZ hr hlocks hA hP hD hS hl
  have hl : lv_has ls 2 [(0, .ref (ad 0)), (1, .int x1)] := hl
  refine lv_iload_n C.1 C.2.1 dX12_byteAt_0 rfl (lv_at hl 1 rfl) ?_
  refine lv_bipush (v := 6) C.1 C.2.1 dX12_byteAt_1 (by decide) ?_
  refine lv_icmp_ge (tgt := 25) C.1 C.2.1 dX12_byteAt_3 (by decide) (fun c_1 => ?_) (fun c_1 => ?_)
  · replace c_1 : 6 ≤ x1.toInt := i_le c_1
    refine lv_aload_n C.1 C.2.1 dX12_byteAt_25 rfl (lv_at hl 0 rfl) ?_
    refine k_get (v := .ref (ad 3)) C hP 0 rfl rfl inlX12 4 (by decide) m_7_6 rfl dX12_byteAt_26 ?_
    refine lv_bipush (v := 7) C.1 C.2.1 dX12_byteAt_29 (by decide) ?_
    obtain ⟨v_2, e_3⟩ : ∃ z, z = (t.2.2.1 3 (7 : Int32).toNatClampNeg) := ⟨_, rfl⟩
    refine k_ild (v := v_2) C hP 3 rfl (vin (by decide)) e_3.symm dX12_byteAt_31 ?_
    refine lv_bipush (v := 6) C.1 C.2.1 dX12_byteAt_32 (by decide) ?_
    refine lv_bipush (v := 10) C.1 C.2.1 dX12_byteAt_34 (by decide) ?_
    refine lv_iload_n C.1 C.2.1 dX12_byteAt_36 rfl (lv_at hl 1 rfl) ?_
    obtain ⟨v_4, e_5⟩ : ∃ z, z = (10 : Int32) - (x1 : Int32) := ⟨_, rfl⟩
    have h_6 : v_4.toInt = 10 - x1.toInt := by rw [e_5]; exact ti_isub (by show (_ : Int) ≤ 10 - x1.toInt; omega) (by show 10 - x1.toInt < (_ : Int); omega)
    refine k_isub (v := v_4) C e_5.symm dX12_byteAt_37 ?_
    obtain ⟨v_7, e_8⟩ : ∃ z, z = (6 : Int32) * (v_4 : Int32) := ⟨_, rfl⟩
    refine k_imul (v := v_7) C e_8.symm dX12_byteAt_38 ?_
    obtain ⟨v_10, e_11⟩ : ∃ z, z = (v_2 : Int32) >>> ((v_7 : Int32) &&& 31) := ⟨_, rfl⟩
    refine k_ishr (v := v_10) C e_11.symm dX12_byteAt_39 ?_
    refine lv_bipush (v := 63) C.1 C.2.1 dX12_byteAt_40 (by decide) ?_
    obtain ⟨v_13, e_14⟩ : ∃ z, z = (v_10 : Int32) &&& (63 : Int32) := ⟨_, rfl⟩
    have h_15 : v_13.toInt = v_10.toInt % 2 ^ 6 := by rw [e_14]; exact Jvm.Kit.i32_mask _ _ (k := 6) (by decide) (by decide)
    refine k_iand (v := v_13) C e_14.symm dX12_byteAt_42 ?_
    exact g_iret C hr hlocks hP hD hS rfl () rfl ⟨by omega, by omega⟩ (Nat.le_of_ble_eq_true rfl) (Nat.le_of_ble_eq_true rfl) dX12_byteAt_43
  · replace c_1 : x1.toInt < 6 := i_nle c_1
    refine lv_aload_n C.1 C.2.1 dX12_byteAt_6 rfl (lv_at hl 0 rfl) ?_
    refine k_get (v := .ref (ad 3)) C hP 0 rfl rfl inlX12 4 (by decide) m_7_6 rfl dX12_byteAt_7 ?_
    refine lv_iconst (v := 0) C.1 C.2.1 dX12_byteAt_10 (by decide) ?_
    obtain ⟨v_16, e_17⟩ : ∃ z, z = (t.2.2.1 3 (0 : Int32).toNatClampNeg) := ⟨_, rfl⟩
    refine k_ild (v := v_16) C hP 3 rfl (vin (by decide)) e_17.symm dX12_byteAt_11 ?_
    refine lv_bipush (v := 6) C.1 C.2.1 dX12_byteAt_12 (by decide) ?_
    refine lv_iconst (v := 5) C.1 C.2.1 dX12_byteAt_14 (by decide) ?_
    refine lv_iload_n C.1 C.2.1 dX12_byteAt_15 rfl (lv_at hl 1 rfl) ?_
    obtain ⟨v_18, e_19⟩ : ∃ z, z = (5 : Int32) - (x1 : Int32) := ⟨_, rfl⟩
    have h_20 : v_18.toInt = 5 - x1.toInt := by rw [e_19]; exact ti_isub (by show (_ : Int) ≤ 5 - x1.toInt; omega) (by show 5 - x1.toInt < (_ : Int); omega)
    refine k_isub (v := v_18) C e_19.symm dX12_byteAt_16 ?_
    obtain ⟨v_21, e_22⟩ : ∃ z, z = (6 : Int32) * (v_18 : Int32) := ⟨_, rfl⟩
    have h_23 : v_21.toInt = 6 * v_18.toInt := by rw [e_22]; exact ti_mull (k := 6) (by decide) (by omega) (by omega)
    refine k_imul (v := v_21) C e_22.symm dX12_byteAt_17 ?_
    obtain ⟨v_24, e_25⟩ : ∃ z, z = (v_16 : Int32) >>> ((v_21 : Int32) &&& 31) := ⟨_, rfl⟩
    refine k_ishr (v := v_24) C e_25.symm dX12_byteAt_18 ?_
    refine lv_bipush (v := 63) C.1 C.2.1 dX12_byteAt_19 (by decide) ?_
    obtain ⟨v_27, e_28⟩ : ∃ z, z = (v_24 : Int32) &&& (63 : Int32) := ⟨_, rfl⟩
    have h_29 : v_27.toInt = v_24.toInt % 2 ^ 6 := by rw [e_28]; exact Jvm.Kit.i32_mask _ _ (k := 6) (by decide) (by decide)
    refine k_iand (v := v_27) C e_28.symm dX12_byteAt_21 ?_
    refine lv_goto (tgt := 43) C.1 C.2.1 dX12_byteAt_22 (by decide) ?_
    exact g_iret C hr hlocks hP hD hS rfl () rfl ⟨by omega, by omega⟩ (Nat.le_of_ble_eq_true rfl) (Nat.le_of_ble_eq_true rfl) dX12_byteAt_43

theorem dX12_takes_0 : decode cX12_takes 0 = .ok (.iload_n 0, 1) := by decide +kernel
theorem dX12_takes_1 : decode cX12_takes 1 = .ok (.bipush 8, 2) := by decide +kernel
theorem dX12_takes_10 : decode cX12_takes 10 = .ok (.iload_n 0, 1) := by decide +kernel
theorem dX12_takes_11 : decode cX12_takes 11 = .ok (.bipush 16, 2) := by decide +kernel
theorem dX12_takes_13 : decode cX12_takes 13 = .ok (.if_icmp .ge 7, 3) := by decide +kernel
theorem dX12_takes_16 : decode cX12_takes 16 = .ok (.sipush 400, 3) := by decide +kernel
theorem dX12_takes_19 : decode cX12_takes 19 = .ok (.ireturn, 1) := by decide +kernel
theorem dX12_takes_20 : decode cX12_takes 20 = .ok (.iload_n 0, 1) := by decide +kernel
theorem dX12_takes_21 : decode cX12_takes 21 = .ok (.bipush 16, 2) := by decide +kernel
theorem dX12_takes_23 : decode cX12_takes 23 = .ok (.if_icmp .ne 9, 3) := by decide +kernel
theorem dX12_takes_26 : decode cX12_takes 26 = .ok (.sipush 1000, 3) := by decide +kernel
theorem dX12_takes_29 : decode cX12_takes 29 = .ok (.goto 30, 3) := by decide +kernel
theorem dX12_takes_3 : decode cX12_takes 3 = .ok (.if_icmp .ge 7, 3) := by decide +kernel
theorem dX12_takes_32 : decode cX12_takes 32 = .ok (.iload_n 0, 1) := by decide +kernel
theorem dX12_takes_33 : decode cX12_takes 33 = .ok (.bipush 17, 2) := by decide +kernel
theorem dX12_takes_35 : decode cX12_takes 35 = .ok (.if_icmp .ne 9, 3) := by decide +kernel
theorem dX12_takes_38 : decode cX12_takes 38 = .ok (.sipush 1500, 3) := by decide +kernel
theorem dX12_takes_41 : decode cX12_takes 41 = .ok (.goto 18, 3) := by decide +kernel
theorem dX12_takes_44 : decode cX12_takes 44 = .ok (.iload_n 0, 1) := by decide +kernel
theorem dX12_takes_45 : decode cX12_takes 45 = .ok (.bipush 18, 2) := by decide +kernel
theorem dX12_takes_47 : decode cX12_takes 47 = .ok (.if_icmp .ne 9, 3) := by decide +kernel
theorem dX12_takes_50 : decode cX12_takes 50 = .ok (.sipush 750, 3) := by decide +kernel
theorem dX12_takes_53 : decode cX12_takes 53 = .ok (.goto 6, 3) := by decide +kernel
theorem dX12_takes_56 : decode cX12_takes 56 = .ok (.sipush 900, 3) := by decide +kernel
theorem dX12_takes_59 : decode cX12_takes 59 = .ok (.ireturn, 1) := by decide +kernel
theorem dX12_takes_6 : decode cX12_takes 6 = .ok (.sipush 500, 3) := by decide +kernel
theorem dX12_takes_9 : decode cX12_takes 9 = .ok (.ireturn, 1) := by decide +kernel
set_option maxHeartbeats 4000000 in
set_option maxRecDepth 100000 in
theorem T_X12_takes (l : Launch) (D : va_G) (K : Nat → ClassId) (Z Y : Nat → Nat) (ad : Nat → Nat) (t : tSt) (hok : okM t) (x0 : Int32) (hx0 : (0 : Int) ≤ x0.toInt ∧ x0.toInt ≤ 19) : tMet l yX12_takes cX12_takes 1 (some .int) (rmD 0 0 0) D K Z Y [.int x0] (WM K ad t) (QI D K (fun (r : Int32) (u : Unit) => (400 : Int) ≤ r.toInt ∧ r.toInt ≤ 3999 ∧ (r.toInt ≤ 1500)) (fun (_ : Unit) => WM K ad t)) 0 0 := by
  refine t_met RX12 ⟨rfl, by decide +kernel⟩ (Nat.le_of_ble_eq_true rfl) ?_
  intro p e s m below meth c A ls C hE hZ hr hlocks hA hP hD hS hl
  have hl : lv_has ls 1 [(0, .int x0)] := hl
  refine lv_iload_n C.1 C.2.1 dX12_takes_0 rfl (lv_at hl 0 rfl) ?_
  refine lv_bipush (v := 8) C.1 C.2.1 dX12_takes_1 (by decide) ?_
  refine lv_icmp_ge (tgt := 10) C.1 C.2.1 dX12_takes_3 (by decide) (fun c_1 => ?_) (fun c_1 => ?_)
  · replace c_1 : 8 ≤ x0.toInt := i_le c_1
    refine lv_iload_n C.1 C.2.1 dX12_takes_10 rfl (lv_at hl 0 rfl) ?_
    refine lv_bipush (v := 16) C.1 C.2.1 dX12_takes_11 (by decide) ?_
    refine lv_icmp_ge (tgt := 20) C.1 C.2.1 dX12_takes_13 (by decide) (fun c_2 => ?_) (fun c_2 => ?_)
    · replace c_2 : 16 ≤ x0.toInt := i_le c_2
      refine lv_iload_n C.1 C.2.1 dX12_takes_20 rfl (lv_at hl 0 rfl) ?_
      refine lv_bipush (v := 16) C.1 C.2.1 dX12_takes_21 (by decide) ?_
      refine lv_icmp_ne (tgt := 32) C.1 C.2.1 dX12_takes_23 (by decide) (fun c_3 => ?_) (fun c_3 => ?_)
      · replace c_3 : ¬ x0.toInt = 16 := i_ne c_3
        refine lv_iload_n C.1 C.2.1 dX12_takes_32 rfl (lv_at hl 0 rfl) ?_
        refine lv_bipush (v := 17) C.1 C.2.1 dX12_takes_33 (by decide) ?_
        refine lv_icmp_ne (tgt := 44) C.1 C.2.1 dX12_takes_35 (by decide) (fun c_4 => ?_) (fun c_4 => ?_)
        · replace c_4 : ¬ x0.toInt = 17 := i_ne c_4
          refine lv_iload_n C.1 C.2.1 dX12_takes_44 rfl (lv_at hl 0 rfl) ?_
          refine lv_bipush (v := 18) C.1 C.2.1 dX12_takes_45 (by decide) ?_
          refine lv_icmp_ne (tgt := 56) C.1 C.2.1 dX12_takes_47 (by decide) (fun c_5 => ?_) (fun c_5 => ?_)
          · replace c_5 : ¬ x0.toInt = 18 := i_ne c_5
            refine lv_sipush (v := 900) C.1 C.2.1 dX12_takes_56 (by decide) ?_
            exact g_iret C hr hlocks hP hD hS rfl () rfl ⟨by decide, by decide, (show 900 ≤ 1500 from by omega)⟩ (Nat.le_of_ble_eq_true rfl) (Nat.le_of_ble_eq_true rfl) dX12_takes_59
          · replace c_5 : x0.toInt = 18 := i_eq c_5
            refine lv_sipush (v := 750) C.1 C.2.1 dX12_takes_50 (by decide) ?_
            refine lv_goto (tgt := 59) C.1 C.2.1 dX12_takes_53 (by decide) ?_
            exact g_iret C hr hlocks hP hD hS rfl () rfl ⟨by decide, by decide, (show 750 ≤ 1500 from by omega)⟩ (Nat.le_of_ble_eq_true rfl) (Nat.le_of_ble_eq_true rfl) dX12_takes_59
        · replace c_4 : x0.toInt = 17 := i_eq c_4
          refine lv_sipush (v := 1500) C.1 C.2.1 dX12_takes_38 (by decide) ?_
          refine lv_goto (tgt := 59) C.1 C.2.1 dX12_takes_41 (by decide) ?_
          exact g_iret C hr hlocks hP hD hS rfl () rfl ⟨by decide, by decide, (show 1500 ≤ 1500 from by omega)⟩ (Nat.le_of_ble_eq_true rfl) (Nat.le_of_ble_eq_true rfl) dX12_takes_59
      · replace c_3 : x0.toInt = 16 := i_eq c_3
        refine lv_sipush (v := 1000) C.1 C.2.1 dX12_takes_26 (by decide) ?_
        refine lv_goto (tgt := 59) C.1 C.2.1 dX12_takes_29 (by decide) ?_
        exact g_iret C hr hlocks hP hD hS rfl () rfl ⟨by decide, by decide, (show 1000 ≤ 1500 from by omega)⟩ (Nat.le_of_ble_eq_true rfl) (Nat.le_of_ble_eq_true rfl) dX12_takes_59
    · replace c_2 : x0.toInt < 16 := i_nle c_2
      refine lv_sipush (v := 400) C.1 C.2.1 dX12_takes_16 (by decide) ?_
      exact g_iret C hr hlocks hP hD hS rfl () rfl ⟨by decide, by decide, (show 400 ≤ 1500 from by omega)⟩ (Nat.le_of_ble_eq_true rfl) (Nat.le_of_ble_eq_true rfl) dX12_takes_19
  · replace c_1 : x0.toInt < 8 := i_nle c_1
    refine lv_sipush (v := 500) C.1 C.2.1 dX12_takes_6 (by decide) ?_
    exact g_iret C hr hlocks hP hD hS rfl () rfl ⟨by decide, by decide, (show 500 ≤ 1500 from by omega)⟩ (Nat.le_of_ble_eq_true rfl) (Nat.le_of_ble_eq_true rfl) dX12_takes_9

theorem dX12_feed_0 : decode cX12_feed 0 = .ok (.aload_n 0, 1) := by decide +kernel
theorem dX12_feed_1 : decode cX12_feed 1 = .ok (.iconst 0, 1) := by decide +kernel
theorem dX12_feed_11 : decode cX12_feed 11 = .ok (.iadd, 1) := by decide +kernel
theorem dX12_feed_12 : decode cX12_feed 12 = .ok (.sipush 8192, 3) := by decide +kernel
theorem dX12_feed_15 : decode cX12_feed 15 = .ok (.if_icmp .le 5, 3) := by decide +kernel
theorem dX12_feed_2 : decode cX12_feed 2 = .ok (.putfield 155, 3) := by decide +kernel
theorem dX12_feed_20 : decode cX12_feed 20 = .ok (.aload_n 0, 1) := by decide +kernel
theorem dX12_feed_21 : decode cX12_feed 21 = .ok (.iload_n 1, 1) := by decide +kernel
theorem dX12_feed_22 : decode cX12_feed 22 = .ok (.invokevirtual 179, 3) := by decide +kernel
theorem dX12_feed_25 : decode cX12_feed 25 = .ok (.aload_n 0, 1) := by decide +kernel
theorem dX12_feed_26 : decode cX12_feed 26 = .ok (.iload_n 2, 1) := by decide +kernel
theorem dX12_feed_27 : decode cX12_feed 27 = .ok (.invokevirtual 179, 3) := by decide +kernel
theorem dX12_feed_30 : decode cX12_feed 30 = .ok (.aload_n 0, 1) := by decide +kernel
theorem dX12_feed_31 : decode cX12_feed 31 = .ok (.iload_n 3, 1) := by decide +kernel
theorem dX12_feed_32 : decode cX12_feed 32 = .ok (.invokevirtual 179, 3) := by decide +kernel
theorem dX12_feed_35 : decode cX12_feed 35 = .ok (.aload_n 0, 1) := by decide +kernel
theorem dX12_feed_36 : decode cX12_feed 36 = .ok (.iload 4, 2) := by decide +kernel
theorem dX12_feed_38 : decode cX12_feed 38 = .ok (.invokevirtual 179, 3) := by decide +kernel
theorem dX12_feed_41 : decode cX12_feed 41 = .ok (.aload_n 0, 1) := by decide +kernel
theorem dX12_feed_42 : decode cX12_feed 42 = .ok (.iload 5, 2) := by decide +kernel
theorem dX12_feed_44 : decode cX12_feed 44 = .ok (.invokevirtual 179, 3) := by decide +kernel
theorem dX12_feed_47 : decode cX12_feed 47 = .ok (.iconst 1, 1) := by decide +kernel
theorem dX12_feed_48 : decode cX12_feed 48 = .ok (.ireturn, 1) := by decide +kernel
theorem dX12_feed_5 : decode cX12_feed 5 = .ok (.aload_n 0, 1) := by decide +kernel
theorem dX12_feed_6 : decode cX12_feed 6 = .ok (.getfield 176, 3) := by decide +kernel
theorem dX12_feed_9 : decode cX12_feed 9 = .ok (.bipush 20, 2) := by decide +kernel
set_option maxHeartbeats 4000000 in
set_option maxRecDepth 100000 in
theorem T_X12_feed (l : Launch) (D : va_G) (K : Nat → ClassId) (Z Y : Nat → Nat) (ad : Nat → Nat) (t : tSt) (hok : okM t) (x1 : Int32) (x2 : Int32) (x3 : Int32) (x4 : Int32) (x5 : Int32) (hs0 : (t.1 0 2).toInt ≤ 1260) : tMet l yX12_feed cX12_feed 6 (some .boolean) (rmD 1 0 0) D K Z Y [.ref (ad 0), .int x1, .int x2, .int x3, .int x4, .int x5] (WM K ad t) (QI D K (fun (r : Int32) (u : tSt) => okM u ∧ frA [(0, 0), (0, 2)] [] [1] [] t u ∧ (1 : Int) ≤ r.toInt ∧ r.toInt ≤ 1 ∧ (r.toInt = 1) ∧ ((u.1 0 2).toInt = (t.1 0 2).toInt + 20)) (fun (u : tSt) => WM K ad u)) 0 0 := by
  refine t_met RX12 ⟨rfl, by decide +kernel⟩ (Nat.le_of_ble_eq_true rfl) ?_
  intro p e s m below meth c A ls C hE hZ hr hlocks hA hP hD hS hl
  have hl : lv_has ls 6 [(0, .ref (ad 0)), (1, .int x1), (2, .int x2), (3, .int x3), (4, .int x4), (5, .int x5)] := hl
  have hokt := hok
  have hfr : frA [(0, 0), (0, 2)] [] [1] [] t t := frA_rf
  have h_1 : (0 : Int) ≤ (t.1 0 2).toInt ∧ (t.1 0 2).toInt ≤ 1280 := hok.1 0 2
  refine lv_aload_n C.1 C.2.1 dX12_feed_0 rfl (lv_at hl 0 rfl) ?_
  refine lv_iconst (v := 0) C.1 C.2.1 dX12_feed_1 (by decide) ?_
  refine k_put (ws' := WM K ad (uI t 0 0 0)) (v := .int 0) C hP hD hS 0 rfl rfl inlX12 tyX12_ok nmX12 0 (by decide) m_9_18 rfl rfl rfl rfl rfl dX12_feed_2 (fun H locs hP hD hS => ?_)
  have hok : okM (uI t 0 0 0) := ⟨okI_I hok.1 0 0 0 (show (0 : Int) ≤ (0 : Int32).toInt ∧ (0 : Int32).toInt ≤ 1 from ⟨by decide, by decide⟩), hok.2.1, hok.2.2.1, hok.2.2.2.1, hok.2.2.2.2.1, hok.2.2.2.2.2.1, hok.2.2.2.2.2.2.1, trivial⟩
  have hfr : frA [(0, 0), (0, 2)] [] [1] [] t (uI t 0 0 0) := frA_I hfr 0 0 _ rfl
  refine lv_aload_n C.1 C.2.1 dX12_feed_5 rfl (lv_at hl 0 rfl) ?_
  refine k_get (v := .int (t.1 0 2)) C hP 0 rfl rfl inlX12 2 (by decide) m_9_19 rfl dX12_feed_6 ?_
  refine lv_bipush (v := 20) C.1 C.2.1 dX12_feed_9 (by decide) ?_
  obtain ⟨v_2, e_3⟩ : ∃ z, z = ((t.1 0 2) : Int32) + (20 : Int32) := ⟨_, rfl⟩
  have h_4 : v_2.toInt = (t.1 0 2).toInt + 20 := by rw [e_3]; exact ti_iadd (by show (_ : Int) ≤ (t.1 0 2).toInt + 20; omega) (by show (t.1 0 2).toInt + 20 < (_ : Int); omega)
  refine k_iadd (v := v_2) C e_3.symm dX12_feed_11 ?_
  refine lv_sipush (v := 8192) C.1 C.2.1 dX12_feed_12 (by decide) ?_
  refine lv_icmp_le (tgt := 20) C.1 C.2.1 dX12_feed_15 (by decide) (fun c_5 => ?_) (fun c_5 => False.elim (by have c_5 : 8192 < v_2.toInt := i_nle c_5; omega))
  replace c_5 : v_2.toInt ≤ 8192 := i_le c_5
  refine lv_aload_n C.1 C.2.1 dX12_feed_20 rfl (lv_at hl 0 rfl) ?_
  refine lv_iload_n C.1 C.2.1 dX12_feed_21 rfl (lv_at hl 1 rfl) ?_
  refine g_Vv (As := [.int x1]) (rest := []) C hP hD hS hA (T_X12_lay l D K Z Y ad (uI t 0 0 0) hok (x1) (show (t.1 0 2).toInt ≤ 1276 from by omega)) hE hZ (uwV m_9_20 m_9_21 m_9_22 m_1_5 m_9_23) (hdV 1 (by decide +kernel) rfl) ⟨Nat.le_of_ble_eq_true rfl, Nat.le_of_ble_eq_true rfl⟩ rfl rfl (ci := 11) (q0 := 0) rfl rfl rfl hl.1 (Nat.le_of_ble_eq_true rfl) dX12_feed_22 ⟨Nat.le_of_ble_eq_true rfl, Nat.le_of_ble_eq_true rfl⟩ (fun t_6 H locs hw hP hD hS => ?_)
  obtain ⟨hok, f_8, p_9⟩ := hw
  have hfr : frA [(0, 0), (0, 2)] [] [1] [] t t_6 := frA_tr hfr f_8 rfl
  have h_10 : (t_6.1 0 0).toInt = 0 := by rw [show (t_6.1 0 0) = (0 : Int32) from f_8.1 0 0 rfl]; rfl
  have h_11 : (0 : Int) ≤ (t_6.1 0 2).toInt ∧ (t_6.1 0 2).toInt ≤ 1280 := hok.1 0 2
  replace p_9 : (t_6.1 0 2).toInt = (t.1 0 2).toInt + 4 := p_9
  refine lv_aload_n C.1 C.2.1 dX12_feed_25 rfl (lv_at hl 0 rfl) ?_
  refine lv_iload_n C.1 C.2.1 dX12_feed_26 rfl (lv_at hl 2 rfl) ?_
  refine g_Vv (As := [.int x2]) (rest := []) C hP hD hS hA (T_X12_lay l D K Z Y ad t_6 hok (x2) (show (t_6.1 0 2).toInt ≤ 1276 from by omega)) hE hZ (uwV m_9_20 m_9_21 m_9_22 m_1_5 m_9_23) (hdV 1 (by decide +kernel) rfl) ⟨Nat.le_of_ble_eq_true rfl, Nat.le_of_ble_eq_true rfl⟩ rfl rfl (ci := 11) (q0 := 0) rfl rfl rfl hl.1 (Nat.le_of_ble_eq_true rfl) dX12_feed_27 ⟨Nat.le_of_ble_eq_true rfl, Nat.le_of_ble_eq_true rfl⟩ (fun t_12 H locs hw hP hD hS => ?_)
  obtain ⟨hok, f_14, p_15⟩ := hw
  have hfr : frA [(0, 0), (0, 2)] [] [1] [] t t_12 := frA_tr hfr f_14 rfl
  have h_16 : (t_12.1 0 0).toInt = (t_6.1 0 0).toInt := ti_eq (f_14.1 0 0 rfl)
  have h_17 : (0 : Int) ≤ (t_12.1 0 2).toInt ∧ (t_12.1 0 2).toInt ≤ 1280 := hok.1 0 2
  replace p_15 : (t_12.1 0 2).toInt = (t_6.1 0 2).toInt + 4 := p_15
  refine lv_aload_n C.1 C.2.1 dX12_feed_30 rfl (lv_at hl 0 rfl) ?_
  refine lv_iload_n C.1 C.2.1 dX12_feed_31 rfl (lv_at hl 3 rfl) ?_
  refine g_Vv (As := [.int x3]) (rest := []) C hP hD hS hA (T_X12_lay l D K Z Y ad t_12 hok (x3) (show (t_12.1 0 2).toInt ≤ 1276 from by omega)) hE hZ (uwV m_9_20 m_9_21 m_9_22 m_1_5 m_9_23) (hdV 1 (by decide +kernel) rfl) ⟨Nat.le_of_ble_eq_true rfl, Nat.le_of_ble_eq_true rfl⟩ rfl rfl (ci := 11) (q0 := 0) rfl rfl rfl hl.1 (Nat.le_of_ble_eq_true rfl) dX12_feed_32 ⟨Nat.le_of_ble_eq_true rfl, Nat.le_of_ble_eq_true rfl⟩ (fun t_18 H locs hw hP hD hS => ?_)
  obtain ⟨hok, f_20, p_21⟩ := hw
  have hfr : frA [(0, 0), (0, 2)] [] [1] [] t t_18 := frA_tr hfr f_20 rfl
  have h_22 : (t_18.1 0 0).toInt = (t_12.1 0 0).toInt := ti_eq (f_20.1 0 0 rfl)
  have h_23 : (0 : Int) ≤ (t_18.1 0 2).toInt ∧ (t_18.1 0 2).toInt ≤ 1280 := hok.1 0 2
  replace p_21 : (t_18.1 0 2).toInt = (t_12.1 0 2).toInt + 4 := p_21
  refine lv_aload_n C.1 C.2.1 dX12_feed_35 rfl (lv_at hl 0 rfl) ?_
  refine lv_iload C.1 C.2.1 dX12_feed_36 (lv_at hl 4 rfl) ?_
  refine g_Vv (As := [.int x4]) (rest := []) C hP hD hS hA (T_X12_lay l D K Z Y ad t_18 hok (x4) (show (t_18.1 0 2).toInt ≤ 1276 from by omega)) hE hZ (uwV m_9_20 m_9_21 m_9_22 m_1_5 m_9_23) (hdV 1 (by decide +kernel) rfl) ⟨Nat.le_of_ble_eq_true rfl, Nat.le_of_ble_eq_true rfl⟩ rfl rfl (ci := 11) (q0 := 0) rfl rfl rfl hl.1 (Nat.le_of_ble_eq_true rfl) dX12_feed_38 ⟨Nat.le_of_ble_eq_true rfl, Nat.le_of_ble_eq_true rfl⟩ (fun t_24 H locs hw hP hD hS => ?_)
  obtain ⟨hok, f_26, p_27⟩ := hw
  have hfr : frA [(0, 0), (0, 2)] [] [1] [] t t_24 := frA_tr hfr f_26 rfl
  have h_28 : (t_24.1 0 0).toInt = (t_18.1 0 0).toInt := ti_eq (f_26.1 0 0 rfl)
  have h_29 : (0 : Int) ≤ (t_24.1 0 2).toInt ∧ (t_24.1 0 2).toInt ≤ 1280 := hok.1 0 2
  replace p_27 : (t_24.1 0 2).toInt = (t_18.1 0 2).toInt + 4 := p_27
  refine lv_aload_n C.1 C.2.1 dX12_feed_41 rfl (lv_at hl 0 rfl) ?_
  refine lv_iload C.1 C.2.1 dX12_feed_42 (lv_at hl 5 rfl) ?_
  refine g_Vv (As := [.int x5]) (rest := []) C hP hD hS hA (T_X12_lay l D K Z Y ad t_24 hok (x5) (show (t_24.1 0 2).toInt ≤ 1276 from by omega)) hE hZ (uwV m_9_20 m_9_21 m_9_22 m_1_5 m_9_23) (hdV 1 (by decide +kernel) rfl) ⟨Nat.le_of_ble_eq_true rfl, Nat.le_of_ble_eq_true rfl⟩ rfl rfl (ci := 11) (q0 := 0) rfl rfl rfl hl.1 (Nat.le_of_ble_eq_true rfl) dX12_feed_44 ⟨Nat.le_of_ble_eq_true rfl, Nat.le_of_ble_eq_true rfl⟩ (fun t_30 H locs hw hP hD hS => ?_)
  obtain ⟨hok, f_32, p_33⟩ := hw
  have hfr : frA [(0, 0), (0, 2)] [] [1] [] t t_30 := frA_tr hfr f_32 rfl
  have h_34 : (t_30.1 0 0).toInt = (t_24.1 0 0).toInt := ti_eq (f_32.1 0 0 rfl)
  have h_35 : (0 : Int) ≤ (t_30.1 0 2).toInt ∧ (t_30.1 0 2).toInt ≤ 1280 := hok.1 0 2
  replace p_33 : (t_30.1 0 2).toInt = (t_24.1 0 2).toInt + 4 := p_33
  refine lv_iconst (v := 1) C.1 C.2.1 dX12_feed_47 (by decide) ?_
  exact g_iret C hr hlocks hP hD hS (by decide) t_30 rfl ⟨hok, hfr, by decide, by decide, (show 1 = 1 from by omega), (show (t_30.1 0 2).toInt = (t.1 0 2).toInt + 20 from by omega)⟩ (Nat.le_of_ble_eq_true rfl) (Nat.le_of_ble_eq_true rfl) dX12_feed_48

theorem dX12_cards_0 : decode cX12_cards 0 = .ok (.aload_n 0, 1) := by decide +kernel
theorem dX12_cards_1 : decode cX12_cards 1 = .ok (.iconst 0, 1) := by decide +kernel
theorem dX12_cards_10 : decode cX12_cards 10 = .ok (.aload_n 0, 1) := by decide +kernel
theorem dX12_cards_100 : decode cX12_cards 100 = .ok (.aload_n 0, 1) := by decide +kernel
theorem dX12_cards_101 : decode cX12_cards 101 = .ok (.invokevirtual 232, 3) := by decide +kernel
theorem dX12_cards_104 : decode cX12_cards 104 = .ok (.ireturn, 1) := by decide +kernel
theorem dX12_cards_11 : decode cX12_cards 11 = .ok (.iconst 0, 1) := by decide +kernel
theorem dX12_cards_12 : decode cX12_cards 12 = .ok (.putfield 176, 3) := by decide +kernel
theorem dX12_cards_15 : decode cX12_cards 15 = .ok (.iconst 0, 1) := by decide +kernel
theorem dX12_cards_16 : decode cX12_cards 16 = .ok (.istore_n 2, 1) := by decide +kernel
theorem dX12_cards_17 : decode cX12_cards 17 = .ok (.iconst 0, 1) := by decide +kernel
theorem dX12_cards_18 : decode cX12_cards 18 = .ok (.istore_n 3, 1) := by decide +kernel
theorem dX12_cards_19 : decode cX12_cards 19 = .ok (.iload_n 3, 1) := by decide +kernel
theorem dX12_cards_2 : decode cX12_cards 2 = .ok (.putfield 155, 3) := by decide +kernel
theorem dX12_cards_20 : decode cX12_cards 20 = .ok (.iload_n 1, 1) := by decide +kernel
theorem dX12_cards_21 : decode cX12_cards 21 = .ok (.if_icmp .ge 21, 3) := by decide +kernel
theorem dX12_cards_24 : decode cX12_cards 24 = .ok (.iinc 2 1, 3) := by decide +kernel
theorem dX12_cards_27 : decode cX12_cards 27 = .ok (.aload_n 0, 1) := by decide +kernel
theorem dX12_cards_28 : decode cX12_cards 28 = .ok (.getfield 9, 3) := by decide +kernel
theorem dX12_cards_31 : decode cX12_cards 31 = .ok (.iload_n 3, 1) := by decide +kernel
theorem dX12_cards_32 : decode cX12_cards 32 = .ok (.iload_n 1, 1) := by decide +kernel
theorem dX12_cards_33 : decode cX12_cards 33 = .ok (.invokestatic 439, 3) := by decide +kernel
theorem dX12_cards_36 : decode cX12_cards 36 = .ok (.iconst 1, 1) := by decide +kernel
theorem dX12_cards_37 : decode cX12_cards 37 = .ok (.iadd, 1) := by decide +kernel
theorem dX12_cards_38 : decode cX12_cards 38 = .ok (.istore_n 3, 1) := by decide +kernel
theorem dX12_cards_39 : decode cX12_cards 39 = .ok (.goto (-20), 3) := by decide +kernel
theorem dX12_cards_42 : decode cX12_cards 42 = .ok (.aload_n 0, 1) := by decide +kernel
theorem dX12_cards_43 : decode cX12_cards 43 = .ok (.invokevirtual 232, 3) := by decide +kernel
theorem dX12_cards_46 : decode cX12_cards 46 = .ok (.iload_n 2, 1) := by decide +kernel
theorem dX12_cards_47 : decode cX12_cards 47 = .ok (.iadd, 1) := by decide +kernel
theorem dX12_cards_48 : decode cX12_cards 48 = .ok (.sipush 400, 3) := by decide +kernel
theorem dX12_cards_5 : decode cX12_cards 5 = .ok (.aload_n 0, 1) := by decide +kernel
theorem dX12_cards_51 : decode cX12_cards 51 = .ok (.if_icmp .le 5, 3) := by decide +kernel
theorem dX12_cards_54 : decode cX12_cards 54 = .ok (.iconst (-1), 1) := by decide +kernel
theorem dX12_cards_55 : decode cX12_cards 55 = .ok (.ireturn, 1) := by decide +kernel
theorem dX12_cards_56 : decode cX12_cards 56 = .ok (.aload_n 0, 1) := by decide +kernel
theorem dX12_cards_57 : decode cX12_cards 57 = .ok (.invokevirtual 718, 3) := by decide +kernel
theorem dX12_cards_6 : decode cX12_cards 6 = .ok (.getfield 176, 3) := by decide +kernel
theorem dX12_cards_60 : decode cX12_cards 60 = .ok (.iconst 0, 1) := by decide +kernel
theorem dX12_cards_61 : decode cX12_cards 61 = .ok (.istore_n 3, 1) := by decide +kernel
theorem dX12_cards_62 : decode cX12_cards 62 = .ok (.iload_n 3, 1) := by decide +kernel
theorem dX12_cards_63 : decode cX12_cards 63 = .ok (.iload_n 1, 1) := by decide +kernel
theorem dX12_cards_64 : decode cX12_cards 64 = .ok (.if_icmp .ge 36, 3) := by decide +kernel
theorem dX12_cards_67 : decode cX12_cards 67 = .ok (.aload_n 0, 1) := by decide +kernel
theorem dX12_cards_68 : decode cX12_cards 68 = .ok (.aload_n 0, 1) := by decide +kernel
theorem dX12_cards_69 : decode cX12_cards 69 = .ok (.getfield 9, 3) := by decide +kernel
theorem dX12_cards_72 : decode cX12_cards 72 = .ok (.iload_n 3, 1) := by decide +kernel
theorem dX12_cards_73 : decode cX12_cards 73 = .ok (.aload_n 0, 1) := by decide +kernel
theorem dX12_cards_74 : decode cX12_cards 74 = .ok (.getfield 9, 3) := by decide +kernel
theorem dX12_cards_77 : decode cX12_cards 77 = .ok (.iload_n 3, 1) := by decide +kernel
theorem dX12_cards_78 : decode cX12_cards 78 = .ok (.iload_n 1, 1) := by decide +kernel
theorem dX12_cards_79 : decode cX12_cards 79 = .ok (.invokestatic 439, 3) := by decide +kernel
theorem dX12_cards_82 : decode cX12_cards 82 = .ok (.invokevirtual 721, 3) := by decide +kernel
theorem dX12_cards_85 : decode cX12_cards 85 = .ok (.aload_n 0, 1) := by decide +kernel
theorem dX12_cards_86 : decode cX12_cards 86 = .ok (.getfield 9, 3) := by decide +kernel
theorem dX12_cards_89 : decode cX12_cards 89 = .ok (.iload_n 3, 1) := by decide +kernel
theorem dX12_cards_9 : decode cX12_cards 9 = .ok (.istore_n 1, 1) := by decide +kernel
theorem dX12_cards_90 : decode cX12_cards 90 = .ok (.iload_n 1, 1) := by decide +kernel
theorem dX12_cards_91 : decode cX12_cards 91 = .ok (.invokestatic 439, 3) := by decide +kernel
theorem dX12_cards_94 : decode cX12_cards 94 = .ok (.iconst 1, 1) := by decide +kernel
theorem dX12_cards_95 : decode cX12_cards 95 = .ok (.iadd, 1) := by decide +kernel
theorem dX12_cards_96 : decode cX12_cards 96 = .ok (.istore_n 3, 1) := by decide +kernel
theorem dX12_cards_97 : decode cX12_cards 97 = .ok (.goto (-35), 3) := by decide +kernel
set_option maxHeartbeats 4000000 in
set_option maxRecDepth 100000 in
theorem T_X12_cards (l : Launch) (D : va_G) (K : Nat → ClassId) (Z Y : Nat → Nat) (ad : Nat → Nat) (t : tSt) (hok : okM t)  : tMet l yX12_cards cX12_cards 4 (some .int) (rmD 2 0 0) D K Z Y [.ref (ad 0)] (WM K ad t) (QI D K (fun (r : Int32) (u : tSt) => okM u ∧ frA [(0, 0), (0, 2), (0, 35), (0, 36)] [] [15, 16, 17] [] t u ∧ (-3999 : Int) ≤ r.toInt ∧ r.toInt ≤ 2147483647 ∧ ((u.1 0 2).toInt = 0)) (fun (u : tSt) => WM K ad u)) 0 0 := by
  refine t_met RX12 ⟨rfl, by decide +kernel⟩ (Nat.le_of_ble_eq_true rfl) ?_
  intro p e s m below meth c A ls C hE hZ hr hlocks hA hP hD hS hl
  have hl : lv_has ls 4 [(0, .ref (ad 0))] := hl
  have hokt := hok
  have hfr : frA [(0, 0), (0, 2), (0, 35), (0, 36)] [] [15, 16, 17] [] t t := frA_rf
  have h_1 : (0 : Int) ≤ (t.1 0 2).toInt ∧ (t.1 0 2).toInt ≤ 1280 := hok.1 0 2
  have h_2 : (0 : Int) ≤ (t.1 0 35).toInt ∧ (t.1 0 35).toInt ≤ 1700 := hok.1 0 35
  have h_3 : (0 : Int) ≤ (t.1 0 36).toInt ∧ (t.1 0 36).toInt ≤ 1700 := hok.1 0 36
  have L_62 : ∀ (fuel_62 : Nat) (t1 : tSt) (w62_1 : Int32) (w62_2 : Int32) (w62_3 : Int32) (H : Heap) (locs : List Loc) (ls : Array Slot), okM t1 → frA [(0, 0), (0, 2), (0, 35), (0, 36)] [] [15, 16, 17] [] t t1 → (0 : Int) ≤ w62_1.toInt ∧ w62_1.toInt ≤ 1280 → (0 : Int) ≤ w62_3.toInt ∧ w62_3.toInt ≤ 1281 → (0 : Int) ≤ (t1.1 0 0).toInt ∧ (t1.1 0 0).toInt ≤ 0 → (0 : Int) ≤ (t1.1 0 2).toInt ∧ (t1.1 0 2).toInt ≤ 0 → (0 ≤ w62_3.toInt) → (w62_3.toInt ≤ w62_1.toInt + 1) → (lastLe (t1.1 0 36) (t1.2.2.1 17) (32000 + w62_3.toInt)) → ((t1.1 0 36).toInt ≤ 400 + w62_3.toInt) → ((t1.1 0 2).toInt = 0) → (1300 - w62_3.toInt) < (fuel_62 : Int) → va_P D vwCl (WM K ad t1) H → va_D A (WM K ad t1) → va_S A s.heap H locs → lv_has ls 4 [(0, .ref (ad 0)), (1, .int w62_1), (2, .int w62_2), (3, .int w62_3)] → W p l e (rmD 2 0 0) s m [.ref (ad 0)].toArray below meth c H locs 0 0 (MQ below (QI D K (fun (r : Int32) (u : tSt) => okM u ∧ frA [(0, 0), (0, 2), (0, 35), (0, 36)] [] [15, 16, 17] [] t u ∧ (-3999 : Int) ≤ r.toInt ∧ r.toInt ≤ 2147483647 ∧ ((u.1 0 2).toInt = 0)) (fun (u : tSt) => WM K ad u) A) [.ref (ad 0)].toArray s 0 0 A) (F0 m 62 ls []) := by
    intro fuel_62
    induction fuel_62 with
    | zero =>
      intro t1 w62_1 w62_2 w62_3 H locs ls hok hfr hw62_1 hw62_3 hf62_0 hf62_2 hi62_0 hi62_1 hi62_2 hi62_3 hi62_4 hm62_62 hP hD hS hl
      have e_4 : t1.2.2.1 1 = t.2.2.1 1 := hfr.2.2.1 1 rfl
      have h_5 : (0 : Int) ≤ (t1.1 0 35).toInt ∧ (t1.1 0 35).toInt ≤ 1700 := hok.1 0 35
      have h_6 : (0 : Int) ≤ (t1.1 0 36).toInt ∧ (t1.1 0 36).toInt ≤ 1700 := hok.1 0 36
      exact absurd hm62_62 (by omega)
    | succ fuel_62 ih_62 =>
      intro t1 w62_1 w62_2 w62_3 H locs ls hok hfr hw62_1 hw62_3 hf62_0 hf62_2 hi62_0 hi62_1 hi62_2 hi62_3 hi62_4 hm62_62 hP hD hS hl
      have hm62_62 : (1300 - w62_3.toInt) < (fuel_62 : Int) + 1 := by omega
      have e_7 : t1.2.2.1 1 = t.2.2.1 1 := hfr.2.2.1 1 rfl
      have h_8 : (0 : Int) ≤ (t1.1 0 35).toInt ∧ (t1.1 0 35).toInt ≤ 1700 := hok.1 0 35
      have h_9 : (0 : Int) ≤ (t1.1 0 36).toInt ∧ (t1.1 0 36).toInt ≤ 1700 := hok.1 0 36
      refine lv_iload_n C.1 C.2.1 dX12_cards_62 rfl (lv_at hl 3 rfl) ?_
      refine lv_iload_n C.1 C.2.1 dX12_cards_63 rfl (lv_at hl 1 rfl) ?_
      refine lv_icmp_ge (tgt := 100) C.1 C.2.1 dX12_cards_64 (by decide) (fun c_10 => ?_) (fun c_10 => ?_)
      · replace c_10 : w62_1.toInt ≤ w62_3.toInt := i_le c_10
        refine lv_aload_n C.1 C.2.1 dX12_cards_100 rfl (lv_at hl 0 rfl) ?_
        refine g_Vi (As := []) (rest := []) C hP hD hS hA (T_X12_cardsLeft l D K Z Y ad t1 hok ) hE hZ (uwV m_44_12 m_44_13 m_44_14 m_1_5 m_44_15) (hdV 0 (by decide +kernel) rfl) ⟨Nat.le_of_ble_eq_true rfl, Nat.le_of_ble_eq_true rfl⟩ rfl rfl (ci := 11) (q0 := 0) rfl rfl rfl hl.1 (Nat.le_of_ble_eq_true rfl) dX12_cards_101 ⟨Nat.le_of_ble_eq_true rfl, Nat.le_of_ble_eq_true rfl⟩ (fun r_12 t_11 H locs hw hP hD hS => ?_)
        obtain ⟨h_14, h_15, p_16⟩ := hw
        replace p_16 : r_12.toInt = (t1.1 0 36).toInt - (t1.1 0 35).toInt := p_16
        exact g_iret C hr hlocks hP hD hS rfl t1 rfl ⟨hok, hfr, by omega, by omega, (show (t1.1 0 2).toInt = 0 from by omega)⟩ (Nat.le_of_ble_eq_true rfl) (Nat.le_of_ble_eq_true rfl) dX12_cards_104
      · replace c_10 : w62_3.toInt < w62_1.toInt := i_nle c_10
        refine lv_aload_n C.1 C.2.1 dX12_cards_67 rfl (lv_at hl 0 rfl) ?_
        refine lv_aload_n C.1 C.2.1 dX12_cards_68 rfl (lv_at hl 0 rfl) ?_
        refine k_get (v := .ref (ad 1)) C hP 0 rfl rfl inlX12 1 (by decide) m_7_4 rfl dX12_cards_69 ?_
        refine lv_iload_n C.1 C.2.1 dX12_cards_72 rfl (lv_at hl 3 rfl) ?_
        refine lv_aload_n C.1 C.2.1 dX12_cards_73 rfl (lv_at hl 0 rfl) ?_
        refine k_get (v := .ref (ad 1)) C hP 0 rfl rfl inlX12 1 (by decide) m_7_4 rfl dX12_cards_74 ?_
        refine lv_iload_n C.1 C.2.1 dX12_cards_77 rfl (lv_at hl 3 rfl) ?_
        refine lv_iload_n C.1 C.2.1 dX12_cards_78 rfl (lv_at hl 1 rfl) ?_
        refine g_Si (As := [.ref (ad 1), .int w62_3, .int w62_1]) (rest := [.int w62_3, .ref (ad 1), .ref (ad 0)]) C hP hD hS hA (T_X12_lineEnd l D K Z Y ad t1 hok (w62_3) (show (0 : Int) ≤ (w62_3 : Int32).toInt ∧ (w62_3 : Int32).toInt ≤ 1280 from ⟨by omega, by omega⟩) (w62_1) (show (1 : Int) ≤ (w62_1 : Int32).toInt ∧ (w62_1 : Int32).toInt ≤ 1280 from ⟨by omega, by omega⟩)) hE hZ (uwS m_30_23 m_31_0 m_1_5 m_31_1) (hdS 3 (by decide +kernel) rfl) ⟨Nat.le_of_ble_eq_true rfl, Nat.le_of_ble_eq_true rfl⟩ rfl rfl rfl hl.1 (Nat.le_of_ble_eq_true rfl) dX12_cards_79 ⟨Nat.le_of_ble_eq_true rfl, Nat.le_of_ble_eq_true rfl⟩ (fun r_18 t_17 H locs hw hP hD hS => ?_)
        obtain ⟨h_20, h_21, p_22, p_23, p_24⟩ := hw
        replace p_22 : w62_3.toInt ≤ r_18.toInt := p_22
        replace p_23 : r_18.toInt ≤ w62_1.toInt ∨ r_18.toInt = w62_3.toInt := p_23
        replace p_24 : leP (t1.2.2.1 1) w62_3 w62_1 r_18 := p_24
        have hp1 := p_24
        rw [e_7] at hp1
        refine g_Vv (As := [.ref (ad 1), .int w62_3, .int r_18]) (rest := []) C hP hD hS hA (T_X12_addCard l D K Z Y ad t1 hok (w62_3) (show (0 : Int) ≤ (w62_3 : Int32).toInt ∧ (w62_3 : Int32).toInt ≤ 1280 from ⟨by omega, by omega⟩) (r_18) (show (0 : Int) ≤ (r_18 : Int32).toInt ∧ (r_18 : Int32).toInt ≤ 1280 from ⟨by omega, by omega⟩) (show (t1.1 0 36).toInt ≤ 1690 from by omega) (show w62_3.toInt ≤ r_18.toInt from by omega) (show lastLe (t1.1 0 36) (t1.2.2.1 17) (33280 - (r_18.toInt - w62_3.toInt)) from lastLe_le hi62_2 (by omega))) hE hZ (uwV m_44_22 m_44_23 m_45_0 m_1_5 m_45_1) (hdV 3 (by decide +kernel) rfl) ⟨Nat.le_of_ble_eq_true rfl, Nat.le_of_ble_eq_true rfl⟩ rfl rfl (ci := 11) (q0 := 0) rfl rfl rfl hl.1 (Nat.le_of_ble_eq_true rfl) dX12_cards_82 ⟨Nat.le_of_ble_eq_true rfl, Nat.le_of_ble_eq_true rfl⟩ (fun t_25 H locs hw hP hD hS => ?_)
        obtain ⟨hok, f_27, p_28, p_29⟩ := hw
        have hfr : frA [(0, 0), (0, 2), (0, 35), (0, 36)] [] [15, 16, 17] [] t t_25 := frA_tr hfr f_27 rfl
        have h_30 : (t_25.1 0 0).toInt = (t1.1 0 0).toInt := ti_eq (f_27.1 0 0 rfl)
        have h_31 : (t_25.1 0 2).toInt = (t1.1 0 2).toInt := ti_eq (f_27.1 0 2 rfl)
        have h_32 : (t_25.1 0 35).toInt = (t1.1 0 35).toInt := ti_eq (f_27.1 0 35 rfl)
        have e_33 : t_25.2.2.1 1 = t.2.2.1 1 := (f_27.2.2.1 1 rfl).trans (e_7)
        have h_34 : (0 : Int) ≤ (t_25.1 0 35).toInt ∧ (t_25.1 0 35).toInt ≤ 1700 := hok.1 0 35
        have h_35 : (0 : Int) ≤ (t_25.1 0 36).toInt ∧ (t_25.1 0 36).toInt ≤ 1700 := hok.1 0 36
        replace p_28 : (t_25.1 0 36).toInt = (t1.1 0 36).toInt + 1 := p_28
        replace p_29 : ∀ b : Int, lastLe (t1.1 0 36) (t1.2.2.1 17) b → lastLe (t_25.1 0 36) (t_25.2.2.1 17) (b + (r_18.toInt - w62_3.toInt)) := p_29
        have hla := p_29
        refine lv_aload_n C.1 C.2.1 dX12_cards_85 rfl (lv_at hl 0 rfl) ?_
        refine k_get (v := .ref (ad 1)) C hP 0 rfl rfl inlX12 1 (by decide) m_7_4 rfl dX12_cards_86 ?_
        refine lv_iload_n C.1 C.2.1 dX12_cards_89 rfl (lv_at hl 3 rfl) ?_
        refine lv_iload_n C.1 C.2.1 dX12_cards_90 rfl (lv_at hl 1 rfl) ?_
        refine g_Si (As := [.ref (ad 1), .int w62_3, .int w62_1]) (rest := []) C hP hD hS hA (T_X12_lineEnd l D K Z Y ad t_25 hok (w62_3) (show (0 : Int) ≤ (w62_3 : Int32).toInt ∧ (w62_3 : Int32).toInt ≤ 1280 from ⟨by omega, by omega⟩) (w62_1) (show (1 : Int) ≤ (w62_1 : Int32).toInt ∧ (w62_1 : Int32).toInt ≤ 1280 from ⟨by omega, by omega⟩)) hE hZ (uwS m_30_23 m_31_0 m_1_5 m_31_1) (hdS 3 (by decide +kernel) rfl) ⟨Nat.le_of_ble_eq_true rfl, Nat.le_of_ble_eq_true rfl⟩ rfl rfl rfl hl.1 (Nat.le_of_ble_eq_true rfl) dX12_cards_91 ⟨Nat.le_of_ble_eq_true rfl, Nat.le_of_ble_eq_true rfl⟩ (fun r_37 t_36 H locs hw hP hD hS => ?_)
        obtain ⟨h_39, h_40, p_41, p_42, p_43⟩ := hw
        replace p_41 : w62_3.toInt ≤ r_37.toInt := p_41
        replace p_42 : r_37.toInt ≤ w62_1.toInt ∨ r_37.toInt = w62_3.toInt := p_42
        replace p_43 : leP (t_25.2.2.1 1) w62_3 w62_1 r_37 := p_43
        have hp2 := p_43
        rw [e_33] at hp2
        have hpe := leP_u hp1 hp2 rfl
        refine lv_iconst (v := 1) C.1 C.2.1 dX12_cards_94 (by decide) ?_
        obtain ⟨v_44, e_45⟩ : ∃ z, z = (r_37 : Int32) + (1 : Int32) := ⟨_, rfl⟩
        have h_46 : v_44.toInt = r_37.toInt + 1 := by rw [e_45]; exact ti_iadd (by show (_ : Int) ≤ r_37.toInt + 1; omega) (by show r_37.toInt + 1 < (_ : Int); omega)
        refine k_iadd (v := v_44) C e_45.symm dX12_cards_95 ?_
        refine lv_istore_n (lv' := [(3, .int v_44), (0, .ref (ad 0)), (1, .int w62_1), (2, .int w62_2)]) C.1 C.2.1 dX12_cards_96 rfl hl (by decide) rfl (fun ls hl => ?_)
        have hl : lv_has ls 4 [(0, .ref (ad 0)), (1, .int w62_1), (2, .int w62_2), (3, .int v_44)] := lv_sub hl [1, 2, 3, 0] rfl
        refine lv_goto (tgt := 62) C.1 C.2.1 dX12_cards_97 (by decide) ?_
        exact ih_62 t_25 w62_1 w62_2 v_44 _ _ _ hok hfr ⟨by omega, by omega⟩ ⟨by omega, by omega⟩ (show (0 : Int) ≤ ((t_25.1 0 0) : Int32).toInt ∧ ((t_25.1 0 0) : Int32).toInt ≤ 0 from ⟨by omega, by omega⟩) (show (0 : Int) ≤ ((t_25.1 0 2) : Int32).toInt ∧ ((t_25.1 0 2) : Int32).toInt ≤ 0 from ⟨by omega, by omega⟩) (show 0 ≤ v_44.toInt from by omega) (show v_44.toInt ≤ w62_1.toInt + 1 from by omega) (show lastLe (t_25.1 0 36) (t_25.2.2.1 17) (32000 + v_44.toInt) from by first | exact lastLe_le hll (by omega) | exact lastLe_le (hla _ hi62_2) (by omega)) (show (t_25.1 0 36).toInt ≤ 400 + v_44.toInt from by omega) (show (t_25.1 0 2).toInt = 0 from by omega) (show (1300 - v_44.toInt) < (fuel_62 : Int) from by omega) hP hD hS (lv_sub hl [0, 1, 2, 3] rfl)
  have L_19 : ∀ (fuel_19 : Nat) (t1 : tSt) (w19_1 : Int32) (w19_2 : Int32) (w19_3 : Int32) (H : Heap) (locs : List Loc) (ls : Array Slot), okM t1 → frA [(0, 0), (0, 2), (0, 35), (0, 36)] [] [15, 16, 17] [] t t1 → (0 : Int) ≤ w19_1.toInt ∧ w19_1.toInt ≤ 1280 → (0 : Int) ≤ w19_3.toInt ∧ w19_3.toInt ≤ 1281 → (0 : Int) ≤ (t1.1 0 0).toInt ∧ (t1.1 0 0).toInt ≤ 0 → (0 : Int) ≤ (t1.1 0 2).toInt ∧ (t1.1 0 2).toInt ≤ 0 → (0 ≤ w19_3.toInt) → (w19_3.toInt ≤ w19_1.toInt + 1) → ((t1.1 0 2).toInt = 0) → (0 ≤ w19_2.toInt) → (w19_2.toInt ≤ w19_3.toInt) → (1300 - w19_3.toInt) < (fuel_19 : Int) → va_P D vwCl (WM K ad t1) H → va_D A (WM K ad t1) → va_S A s.heap H locs → lv_has ls 4 [(0, .ref (ad 0)), (1, .int w19_1), (2, .int w19_2), (3, .int w19_3)] → W p l e (rmD 2 0 0) s m [.ref (ad 0)].toArray below meth c H locs 0 0 (MQ below (QI D K (fun (r : Int32) (u : tSt) => okM u ∧ frA [(0, 0), (0, 2), (0, 35), (0, 36)] [] [15, 16, 17] [] t u ∧ (-3999 : Int) ≤ r.toInt ∧ r.toInt ≤ 2147483647 ∧ ((u.1 0 2).toInt = 0)) (fun (u : tSt) => WM K ad u) A) [.ref (ad 0)].toArray s 0 0 A) (F0 m 19 ls []) := by
    intro fuel_19
    induction fuel_19 with
    | zero =>
      intro t1 w19_1 w19_2 w19_3 H locs ls hok hfr hw19_1 hw19_3 hf19_0 hf19_2 hi19_0 hi19_1 hi19_2 hi19_3 hi19_4 hm19_19 hP hD hS hl
      have e_47 : t1.2.2.1 1 = t.2.2.1 1 := hfr.2.2.1 1 rfl
      have h_48 : (0 : Int) ≤ (t1.1 0 35).toInt ∧ (t1.1 0 35).toInt ≤ 1700 := hok.1 0 35
      have h_49 : (0 : Int) ≤ (t1.1 0 36).toInt ∧ (t1.1 0 36).toInt ≤ 1700 := hok.1 0 36
      exact absurd hm19_19 (by omega)
    | succ fuel_19 ih_19 =>
      intro t1 w19_1 w19_2 w19_3 H locs ls hok hfr hw19_1 hw19_3 hf19_0 hf19_2 hi19_0 hi19_1 hi19_2 hi19_3 hi19_4 hm19_19 hP hD hS hl
      have hm19_19 : (1300 - w19_3.toInt) < (fuel_19 : Int) + 1 := by omega
      have e_50 : t1.2.2.1 1 = t.2.2.1 1 := hfr.2.2.1 1 rfl
      have h_51 : (0 : Int) ≤ (t1.1 0 35).toInt ∧ (t1.1 0 35).toInt ≤ 1700 := hok.1 0 35
      have h_52 : (0 : Int) ≤ (t1.1 0 36).toInt ∧ (t1.1 0 36).toInt ≤ 1700 := hok.1 0 36
      refine lv_iload_n C.1 C.2.1 dX12_cards_19 rfl (lv_at hl 3 rfl) ?_
      refine lv_iload_n C.1 C.2.1 dX12_cards_20 rfl (lv_at hl 1 rfl) ?_
      refine lv_icmp_ge (tgt := 42) C.1 C.2.1 dX12_cards_21 (by decide) (fun c_53 => ?_) (fun c_53 => ?_)
      · replace c_53 : w19_1.toInt ≤ w19_3.toInt := i_le c_53
        have hcc : (t1.1 0 35).toInt ≤ (t1.1 0 36).toInt := hok.2.2.2.2.2.1
        refine lv_aload_n C.1 C.2.1 dX12_cards_42 rfl (lv_at hl 0 rfl) ?_
        refine g_Vi (As := []) (rest := []) C hP hD hS hA (T_X12_cardsLeft l D K Z Y ad t1 hok ) hE hZ (uwV m_44_12 m_44_13 m_44_14 m_1_5 m_44_15) (hdV 0 (by decide +kernel) rfl) ⟨Nat.le_of_ble_eq_true rfl, Nat.le_of_ble_eq_true rfl⟩ rfl rfl (ci := 11) (q0 := 0) rfl rfl rfl hl.1 (Nat.le_of_ble_eq_true rfl) dX12_cards_43 ⟨Nat.le_of_ble_eq_true rfl, Nat.le_of_ble_eq_true rfl⟩ (fun r_55 t_54 H locs hw hP hD hS => ?_)
        obtain ⟨h_57, h_58, p_59⟩ := hw
        replace p_59 : r_55.toInt = (t1.1 0 36).toInt - (t1.1 0 35).toInt := p_59
        refine lv_iload_n C.1 C.2.1 dX12_cards_46 rfl (lv_at hl 2 rfl) ?_
        obtain ⟨v_60, e_61⟩ : ∃ z, z = (r_55 : Int32) + (w19_2 : Int32) := ⟨_, rfl⟩
        have h_62 : v_60.toInt = r_55.toInt + w19_2.toInt := by rw [e_61]; exact ti_iadd (by show (_ : Int) ≤ r_55.toInt + w19_2.toInt; omega) (by show r_55.toInt + w19_2.toInt < (_ : Int); omega)
        refine k_iadd (v := v_60) C e_61.symm dX12_cards_47 ?_
        refine lv_sipush (v := 400) C.1 C.2.1 dX12_cards_48 (by decide) ?_
        refine lv_icmp_le (tgt := 56) C.1 C.2.1 dX12_cards_51 (by decide) (fun c_63 => ?_) (fun c_63 => ?_)
        · replace c_63 : v_60.toInt ≤ 400 := i_le c_63
          refine lv_aload_n C.1 C.2.1 dX12_cards_56 rfl (lv_at hl 0 rfl) ?_
          refine g_Vv (As := []) (rest := []) C hP hD hS hA (T_X12_gatherCards l D K Z Y ad t1 hok (show (t1.1 0 36).toInt - (t1.1 0 35).toInt ≤ 400 from by omega)) hE hZ (uwV m_44_18 m_44_19 m_44_20 m_1_5 m_44_21) (hdV 0 (by decide +kernel) rfl) ⟨Nat.le_of_ble_eq_true rfl, Nat.le_of_ble_eq_true rfl⟩ rfl rfl (ci := 11) (q0 := 0) rfl rfl rfl hl.1 (Nat.le_of_ble_eq_true rfl) dX12_cards_57 ⟨Nat.le_of_ble_eq_true rfl, Nat.le_of_ble_eq_true rfl⟩ (fun t_64 H locs hw hP hD hS => ?_)
          obtain ⟨hok, f_66, p_67, p_68, p_69⟩ := hw
          have hfr : frA [(0, 0), (0, 2), (0, 35), (0, 36)] [] [15, 16, 17] [] t t_64 := frA_tr hfr f_66 rfl
          have h_70 : (t_64.1 0 0).toInt = (t1.1 0 0).toInt := ti_eq (f_66.1 0 0 rfl)
          have h_71 : (t_64.1 0 2).toInt = (t1.1 0 2).toInt := ti_eq (f_66.1 0 2 rfl)
          have e_72 : t_64.2.2.1 1 = t.2.2.1 1 := (f_66.2.2.1 1 rfl).trans (e_50)
          have h_73 : (0 : Int) ≤ (t_64.1 0 35).toInt ∧ (t_64.1 0 35).toInt ≤ 1700 := hok.1 0 35
          have h_74 : (0 : Int) ≤ (t_64.1 0 36).toInt ∧ (t_64.1 0 36).toInt ≤ 1700 := hok.1 0 36
          replace p_67 : (t_64.1 0 35).toInt = 0 := p_67
          replace p_68 : (t_64.1 0 36).toInt = (t1.1 0 36).toInt - (t1.1 0 35).toInt := p_68
          replace p_69 : lastLe (t_64.1 0 36) (t_64.2.2.1 17) 32000 := p_69
          have hll := p_69
          refine lv_iconst (v := 0) C.1 C.2.1 dX12_cards_60 (by decide) ?_
          refine lv_istore_n (lv' := [(3, .int 0), (0, .ref (ad 0)), (1, .int w19_1), (2, .int w19_2)]) C.1 C.2.1 dX12_cards_61 rfl hl (by decide) rfl (fun ls hl => ?_)
          have hl : lv_has ls 4 [(0, .ref (ad 0)), (1, .int w19_1), (2, .int w19_2), (3, .int 0)] := lv_sub hl [1, 2, 3, 0] rfl
          exact L_62 1400 t_64 w19_1 w19_2 0 _ _ _ hok hfr ⟨by omega, by omega⟩ ⟨by decide, by decide⟩ (show (0 : Int) ≤ ((t_64.1 0 0) : Int32).toInt ∧ ((t_64.1 0 0) : Int32).toInt ≤ 0 from ⟨by omega, by omega⟩) (show (0 : Int) ≤ ((t_64.1 0 2) : Int32).toInt ∧ ((t_64.1 0 2) : Int32).toInt ≤ 0 from ⟨by omega, by omega⟩) (show 0 ≤ 0 from by omega) (show 0 ≤ w19_1.toInt + 1 from by omega) (show lastLe (t_64.1 0 36) (t_64.2.2.1 17) (32000 + 0) from by first | exact lastLe_le hll (by omega) | exact lastLe_le (hla _ hi62_2) (by omega)) (show (t_64.1 0 36).toInt ≤ 400 + 0 from by omega) (show (t_64.1 0 2).toInt = 0 from by omega) (show (1300 - 0) < ((1400 : Nat) : Int) from by omega) hP hD hS (lv_sub hl [0, 1, 2, 3] rfl)
        · replace c_63 : 400 < v_60.toInt := i_nle c_63
          refine lv_iconst (v := (-1)) C.1 C.2.1 dX12_cards_54 (by decide) ?_
          exact g_iret C hr hlocks hP hD hS rfl t1 rfl ⟨hok, hfr, by decide, by decide, (show (t1.1 0 2).toInt = 0 from by omega)⟩ (Nat.le_of_ble_eq_true rfl) (Nat.le_of_ble_eq_true rfl) dX12_cards_55
      · replace c_53 : w19_3.toInt < w19_1.toInt := i_nle c_53
        obtain ⟨v_75, e_76⟩ : ∃ z, z = w19_2 + 1 := ⟨_, rfl⟩
        have h_77 : v_75.toInt = w19_2.toInt + 1 := by rw [e_76]; exact ti_iadd (by show (_ : Int) ≤ w19_2.toInt + 1; omega) (by show w19_2.toInt + 1 < (_ : Int); omega)
        refine lv_iinc (v := v_75) (lv' := [(2, .int v_75), (0, .ref (ad 0)), (1, .int w19_1), (3, .int w19_3)]) C.1 C.2.1 dX12_cards_24 hl (k := 2) rfl e_76.symm (by decide) rfl (fun ls hl => ?_)
        have hl : lv_has ls 4 [(0, .ref (ad 0)), (1, .int w19_1), (2, .int v_75), (3, .int w19_3)] := lv_sub hl [1, 2, 0, 3] rfl
        refine lv_aload_n C.1 C.2.1 dX12_cards_27 rfl (lv_at hl 0 rfl) ?_
        refine k_get (v := .ref (ad 1)) C hP 0 rfl rfl inlX12 1 (by decide) m_7_4 rfl dX12_cards_28 ?_
        refine lv_iload_n C.1 C.2.1 dX12_cards_31 rfl (lv_at hl 3 rfl) ?_
        refine lv_iload_n C.1 C.2.1 dX12_cards_32 rfl (lv_at hl 1 rfl) ?_
        refine g_Si (As := [.ref (ad 1), .int w19_3, .int w19_1]) (rest := []) C hP hD hS hA (T_X12_lineEnd l D K Z Y ad t1 hok (w19_3) (show (0 : Int) ≤ (w19_3 : Int32).toInt ∧ (w19_3 : Int32).toInt ≤ 1280 from ⟨by omega, by omega⟩) (w19_1) (show (1 : Int) ≤ (w19_1 : Int32).toInt ∧ (w19_1 : Int32).toInt ≤ 1280 from ⟨by omega, by omega⟩)) hE hZ (uwS m_30_23 m_31_0 m_1_5 m_31_1) (hdS 3 (by decide +kernel) rfl) ⟨Nat.le_of_ble_eq_true rfl, Nat.le_of_ble_eq_true rfl⟩ rfl rfl rfl hl.1 (Nat.le_of_ble_eq_true rfl) dX12_cards_33 ⟨Nat.le_of_ble_eq_true rfl, Nat.le_of_ble_eq_true rfl⟩ (fun r_79 t_78 H locs hw hP hD hS => ?_)
        obtain ⟨h_81, h_82, p_83, p_84, p_85⟩ := hw
        replace p_83 : w19_3.toInt ≤ r_79.toInt := p_83
        replace p_84 : r_79.toInt ≤ w19_1.toInt ∨ r_79.toInt = w19_3.toInt := p_84
        replace p_85 : leP (t1.2.2.1 1) w19_3 w19_1 r_79 := p_85
        refine lv_iconst (v := 1) C.1 C.2.1 dX12_cards_36 (by decide) ?_
        obtain ⟨v_86, e_87⟩ : ∃ z, z = (r_79 : Int32) + (1 : Int32) := ⟨_, rfl⟩
        have h_88 : v_86.toInt = r_79.toInt + 1 := by rw [e_87]; exact ti_iadd (by show (_ : Int) ≤ r_79.toInt + 1; omega) (by show r_79.toInt + 1 < (_ : Int); omega)
        refine k_iadd (v := v_86) C e_87.symm dX12_cards_37 ?_
        refine lv_istore_n (lv' := [(3, .int v_86), (0, .ref (ad 0)), (1, .int w19_1), (2, .int v_75)]) C.1 C.2.1 dX12_cards_38 rfl hl (by decide) rfl (fun ls hl => ?_)
        have hl : lv_has ls 4 [(0, .ref (ad 0)), (1, .int w19_1), (2, .int v_75), (3, .int v_86)] := lv_sub hl [1, 2, 3, 0] rfl
        refine lv_goto (tgt := 19) C.1 C.2.1 dX12_cards_39 (by decide) ?_
        exact ih_19 t1 w19_1 v_75 v_86 _ _ _ hok hfr ⟨by omega, by omega⟩ ⟨by omega, by omega⟩ (show (0 : Int) ≤ ((t1.1 0 0) : Int32).toInt ∧ ((t1.1 0 0) : Int32).toInt ≤ 0 from ⟨by omega, by omega⟩) (show (0 : Int) ≤ ((t1.1 0 2) : Int32).toInt ∧ ((t1.1 0 2) : Int32).toInt ≤ 0 from ⟨by omega, by omega⟩) (show 0 ≤ v_86.toInt from by omega) (show v_86.toInt ≤ w19_1.toInt + 1 from by omega) (show (t1.1 0 2).toInt = 0 from by omega) (show 0 ≤ v_75.toInt from by omega) (show v_75.toInt ≤ v_86.toInt from by omega) (show (1300 - v_86.toInt) < (fuel_19 : Int) from by omega) hP hD hS (lv_sub hl [0, 1, 2, 3] rfl)
  refine lv_aload_n C.1 C.2.1 dX12_cards_0 rfl (lv_at hl 0 rfl) ?_
  refine lv_iconst (v := 0) C.1 C.2.1 dX12_cards_1 (by decide) ?_
  refine k_put (ws' := WM K ad (uI t 0 0 0)) (v := .int 0) C hP hD hS 0 rfl rfl inlX12 tyX12_ok nmX12 0 (by decide) m_9_18 rfl rfl rfl rfl rfl dX12_cards_2 (fun H locs hP hD hS => ?_)
  have hok : okM (uI t 0 0 0) := ⟨okI_I hok.1 0 0 0 (show (0 : Int) ≤ (0 : Int32).toInt ∧ (0 : Int32).toInt ≤ 1 from ⟨by decide, by decide⟩), hok.2.1, hok.2.2.1, hok.2.2.2.1, hok.2.2.2.2.1, hok.2.2.2.2.2.1, hok.2.2.2.2.2.2.1, trivial⟩
  have hfr : frA [(0, 0), (0, 2), (0, 35), (0, 36)] [] [15, 16, 17] [] t (uI t 0 0 0) := frA_I hfr 0 0 _ rfl
  refine lv_aload_n C.1 C.2.1 dX12_cards_5 rfl (lv_at hl 0 rfl) ?_
  refine k_get (v := .int (t.1 0 2)) C hP 0 rfl rfl inlX12 2 (by decide) m_9_19 rfl dX12_cards_6 ?_
  refine lv_istore_n (lv' := [(1, .int (t.1 0 2)), (0, .ref (ad 0))]) C.1 C.2.1 dX12_cards_9 rfl hl (by decide) rfl (fun ls hl => ?_)
  have hl : lv_has ls 4 [(0, .ref (ad 0)), (1, .int (t.1 0 2))] := lv_sub hl [1, 0] rfl
  refine lv_aload_n C.1 C.2.1 dX12_cards_10 rfl (lv_at hl 0 rfl) ?_
  refine lv_iconst (v := 0) C.1 C.2.1 dX12_cards_11 (by decide) ?_
  refine k_put (ws' := WM K ad (uI (uI t 0 0 0) 0 2 0)) (v := .int 0) C hP hD hS 0 rfl rfl inlX12 tyX12_ok nmX12 2 (by decide) m_9_19 rfl rfl rfl rfl rfl dX12_cards_12 (fun H locs hP hD hS => ?_)
  have hok : okM (uI (uI t 0 0 0) 0 2 0) := ⟨okI_I hok.1 0 2 0 (show (0 : Int) ≤ (0 : Int32).toInt ∧ (0 : Int32).toInt ≤ 1280 from ⟨by decide, by decide⟩), hok.2.1, hok.2.2.1, hok.2.2.2.1, hok.2.2.2.2.1, hok.2.2.2.2.2.1, hok.2.2.2.2.2.2.1, trivial⟩
  have hfr : frA [(0, 0), (0, 2), (0, 35), (0, 36)] [] [15, 16, 17] [] t (uI (uI t 0 0 0) 0 2 0) := frA_I hfr 0 2 _ rfl
  refine lv_iconst (v := 0) C.1 C.2.1 dX12_cards_15 (by decide) ?_
  refine lv_istore_n (lv' := [(2, .int 0), (0, .ref (ad 0)), (1, .int (t.1 0 2))]) C.1 C.2.1 dX12_cards_16 rfl hl (by decide) rfl (fun ls hl => ?_)
  have hl : lv_has ls 4 [(0, .ref (ad 0)), (1, .int (t.1 0 2)), (2, .int 0)] := lv_sub hl [1, 2, 0] rfl
  refine lv_iconst (v := 0) C.1 C.2.1 dX12_cards_17 (by decide) ?_
  refine lv_istore_n (lv' := [(3, .int 0), (0, .ref (ad 0)), (1, .int (t.1 0 2)), (2, .int 0)]) C.1 C.2.1 dX12_cards_18 rfl hl (by decide) rfl (fun ls hl => ?_)
  have hl : lv_has ls 4 [(0, .ref (ad 0)), (1, .int (t.1 0 2)), (2, .int 0), (3, .int 0)] := lv_sub hl [1, 2, 3, 0] rfl
  exact L_19 1400 (uI (uI t 0 0 0) 0 2 0) (t.1 0 2) 0 0 _ _ _ hok hfr ⟨by omega, by omega⟩ ⟨by decide, by decide⟩ (show (0 : Int) ≤ (0 : Int32).toInt ∧ (0 : Int32).toInt ≤ 0 from ⟨by decide, by decide⟩) (show (0 : Int) ≤ (0 : Int32).toInt ∧ (0 : Int32).toInt ≤ 0 from ⟨by decide, by decide⟩) (show 0 ≤ 0 from by omega) (show 0 ≤ (t.1 0 2).toInt + 1 from by omega) (show 0 = 0 from by omega) (show 0 ≤ 0 from by omega) (show 0 ≤ 0 from by omega) (show (1300 - 0) < ((1400 : Nat) : Int) from by omega) hP hD hS (lv_sub hl [0, 1, 2, 3] rfl)

theorem dX12_mount_0 : decode cX12_mount 0 = .ok (.aload_n 0, 1) := by decide +kernel
theorem dX12_mount_1 : decode cX12_mount 1 = .ok (.iconst 0, 1) := by decide +kernel
theorem dX12_mount_10 : decode cX12_mount 10 = .ok (.iadd, 1) := by decide +kernel
theorem dX12_mount_101 : decode cX12_mount 101 = .ok (.iconst 5, 1) := by decide +kernel
theorem dX12_mount_102 : decode cX12_mount 102 = .ok (.iload 7, 2) := by decide +kernel
theorem dX12_mount_104 : decode cX12_mount 104 = .ok (.imul, 1) := by decide +kernel
theorem dX12_mount_105 : decode cX12_mount 105 = .ok (.iconst 5, 1) := by decide +kernel
theorem dX12_mount_106 : decode cX12_mount 106 = .ok (.iadd, 1) := by decide +kernel
theorem dX12_mount_107 : decode cX12_mount 107 = .ok (.if_icmp .ge 44, 3) := by decide +kernel
theorem dX12_mount_11 : decode cX12_mount 11 = .ok (.iconst 5, 1) := by decide +kernel
theorem dX12_mount_110 : decode cX12_mount 110 = .ok (.iload 7, 2) := by decide +kernel
theorem dX12_mount_112 : decode cX12_mount 112 = .ok (.iload_n 3, 1) := by decide +kernel
theorem dX12_mount_113 : decode cX12_mount 113 = .ok (.if_icmp .ge 38, 3) := by decide +kernel
theorem dX12_mount_116 : decode cX12_mount 116 = .ok (.iload 8, 2) := by decide +kernel
theorem dX12_mount_118 : decode cX12_mount 118 = .ok (.bipush 6, 2) := by decide +kernel
theorem dX12_mount_12 : decode cX12_mount 12 = .ok (.idiv, 1) := by decide +kernel
theorem dX12_mount_120 : decode cX12_mount 120 = .ok (.ishl, 1) := by decide +kernel
theorem dX12_mount_121 : decode cX12_mount 121 = .ok (.iload 9, 2) := by decide +kernel
theorem dX12_mount_123 : decode cX12_mount 123 = .ok (.iload 6, 2) := by decide +kernel
theorem dX12_mount_125 : decode cX12_mount 125 = .ok (.if_icmp .ge 16, 3) := by decide +kernel
theorem dX12_mount_128 : decode cX12_mount 128 = .ok (.aload_n 0, 1) := by decide +kernel
theorem dX12_mount_129 : decode cX12_mount 129 = .ok (.getfield 9, 3) := by decide +kernel
theorem dX12_mount_13 : decode cX12_mount 13 = .ok (.istore_n 3, 1) := by decide +kernel
theorem dX12_mount_132 : decode cX12_mount 132 = .ok (.iload 9, 2) := by decide +kernel
theorem dX12_mount_134 : decode cX12_mount 134 = .ok (.baload, 1) := by decide +kernel
theorem dX12_mount_135 : decode cX12_mount 135 = .ok (.invokestatic 183, 3) := by decide +kernel
theorem dX12_mount_138 : decode cX12_mount 138 = .ok (.goto 4, 3) := by decide +kernel
theorem dX12_mount_14 : decode cX12_mount 14 = .ok (.iload_n 3, 1) := by decide +kernel
theorem dX12_mount_141 : decode cX12_mount 141 = .ok (.iconst 0, 1) := by decide +kernel
theorem dX12_mount_142 : decode cX12_mount 142 = .ok (.ior, 1) := by decide +kernel
theorem dX12_mount_143 : decode cX12_mount 143 = .ok (.istore 8, 2) := by decide +kernel
theorem dX12_mount_145 : decode cX12_mount 145 = .ok (.iinc 9 1, 3) := by decide +kernel
theorem dX12_mount_148 : decode cX12_mount 148 = .ok (.goto (-49), 3) := by decide +kernel
theorem dX12_mount_15 : decode cX12_mount 15 = .ok (.bipush 99, 2) := by decide +kernel
theorem dX12_mount_151 : decode cX12_mount 151 = .ok (.aload_n 0, 1) := by decide +kernel
theorem dX12_mount_152 : decode cX12_mount 152 = .ok (.getfield 48, 3) := by decide +kernel
theorem dX12_mount_155 : decode cX12_mount 155 = .ok (.sipush 6400, 3) := by decide +kernel
theorem dX12_mount_158 : decode cX12_mount 158 = .ok (.iload_n 1, 1) := by decide +kernel
theorem dX12_mount_159 : decode cX12_mount 159 = .ok (.imul, 1) := by decide +kernel
theorem dX12_mount_160 : decode cX12_mount 160 = .ok (.bipush 100, 2) := by decide +kernel
theorem dX12_mount_162 : decode cX12_mount 162 = .ok (.iload_n 2, 1) := by decide +kernel
theorem dX12_mount_163 : decode cX12_mount 163 = .ok (.imul, 1) := by decide +kernel
theorem dX12_mount_164 : decode cX12_mount 164 = .ok (.iadd, 1) := by decide +kernel
theorem dX12_mount_165 : decode cX12_mount 165 = .ok (.iload 7, 2) := by decide +kernel
theorem dX12_mount_167 : decode cX12_mount 167 = .ok (.iadd, 1) := by decide +kernel
theorem dX12_mount_168 : decode cX12_mount 168 = .ok (.iload 8, 2) := by decide +kernel
theorem dX12_mount_17 : decode cX12_mount 17 = .ok (.iadd, 1) := by decide +kernel
theorem dX12_mount_170 : decode cX12_mount 170 = .ok (.iastore, 1) := by decide +kernel
theorem dX12_mount_171 : decode cX12_mount 171 = .ok (.iinc 7 1, 3) := by decide +kernel
theorem dX12_mount_174 : decode cX12_mount 174 = .ok (.goto (-94), 3) := by decide +kernel
theorem dX12_mount_177 : decode cX12_mount 177 = .ok (.iload 4, 2) := by decide +kernel
theorem dX12_mount_179 : decode cX12_mount 179 = .ok (.ireturn, 1) := by decide +kernel
theorem dX12_mount_18 : decode cX12_mount 18 = .ok (.bipush 100, 2) := by decide +kernel
theorem dX12_mount_2 : decode cX12_mount 2 = .ok (.putfield 155, 3) := by decide +kernel
theorem dX12_mount_20 : decode cX12_mount 20 = .ok (.idiv, 1) := by decide +kernel
theorem dX12_mount_21 : decode cX12_mount 21 = .ok (.istore 4, 2) := by decide +kernel
theorem dX12_mount_23 : decode cX12_mount 23 = .ok (.iload_n 1, 1) := by decide +kernel
theorem dX12_mount_24 : decode cX12_mount 24 = .ok (.ifCond .lt 23, 3) := by decide +kernel
theorem dX12_mount_27 : decode cX12_mount 27 = .ok (.iload_n 1, 1) := by decide +kernel
theorem dX12_mount_28 : decode cX12_mount 28 = .ok (.bipush 16, 2) := by decide +kernel
theorem dX12_mount_30 : decode cX12_mount 30 = .ok (.if_icmp .ge 17, 3) := by decide +kernel
theorem dX12_mount_33 : decode cX12_mount 33 = .ok (.iload_n 2, 1) := by decide +kernel
theorem dX12_mount_34 : decode cX12_mount 34 = .ok (.ifCond .lt 13, 3) := by decide +kernel
theorem dX12_mount_37 : decode cX12_mount 37 = .ok (.iload_n 2, 1) := by decide +kernel
theorem dX12_mount_38 : decode cX12_mount 38 = .ok (.bipush 64, 2) := by decide +kernel
theorem dX12_mount_40 : decode cX12_mount 40 = .ok (.if_icmp .ge 7, 3) := by decide +kernel
theorem dX12_mount_43 : decode cX12_mount 43 = .ok (.iconst 1, 1) := by decide +kernel
theorem dX12_mount_44 : decode cX12_mount 44 = .ok (.goto 4, 3) := by decide +kernel
theorem dX12_mount_47 : decode cX12_mount 47 = .ok (.iconst 0, 1) := by decide +kernel
theorem dX12_mount_48 : decode cX12_mount 48 = .ok (.istore 5, 2) := by decide +kernel
theorem dX12_mount_5 : decode cX12_mount 5 = .ok (.aload_n 0, 1) := by decide +kernel
theorem dX12_mount_50 : decode cX12_mount 50 = .ok (.aload_n 0, 1) := by decide +kernel
theorem dX12_mount_51 : decode cX12_mount 51 = .ok (.getfield 176, 3) := by decide +kernel
theorem dX12_mount_54 : decode cX12_mount 54 = .ok (.istore 6, 2) := by decide +kernel
theorem dX12_mount_56 : decode cX12_mount 56 = .ok (.aload_n 0, 1) := by decide +kernel
theorem dX12_mount_57 : decode cX12_mount 57 = .ok (.iconst 0, 1) := by decide +kernel
theorem dX12_mount_58 : decode cX12_mount 58 = .ok (.putfield 176, 3) := by decide +kernel
theorem dX12_mount_6 : decode cX12_mount 6 = .ok (.getfield 176, 3) := by decide +kernel
theorem dX12_mount_61 : decode cX12_mount 61 = .ok (.iload 5, 2) := by decide +kernel
theorem dX12_mount_63 : decode cX12_mount 63 = .ok (.ifCond .eq 12, 3) := by decide +kernel
theorem dX12_mount_66 : decode cX12_mount 66 = .ok (.iload_n 2, 1) := by decide +kernel
theorem dX12_mount_67 : decode cX12_mount 67 = .ok (.iload 4, 2) := by decide +kernel
theorem dX12_mount_69 : decode cX12_mount 69 = .ok (.iadd, 1) := by decide +kernel
theorem dX12_mount_70 : decode cX12_mount 70 = .ok (.bipush 64, 2) := by decide +kernel
theorem dX12_mount_72 : decode cX12_mount 72 = .ok (.if_icmp .le 5, 3) := by decide +kernel
theorem dX12_mount_75 : decode cX12_mount 75 = .ok (.iconst (-1), 1) := by decide +kernel
theorem dX12_mount_76 : decode cX12_mount 76 = .ok (.ireturn, 1) := by decide +kernel
theorem dX12_mount_77 : decode cX12_mount 77 = .ok (.iconst 0, 1) := by decide +kernel
theorem dX12_mount_78 : decode cX12_mount 78 = .ok (.istore 7, 2) := by decide +kernel
theorem dX12_mount_80 : decode cX12_mount 80 = .ok (.iload 7, 2) := by decide +kernel
theorem dX12_mount_82 : decode cX12_mount 82 = .ok (.bipush 100, 2) := by decide +kernel
theorem dX12_mount_84 : decode cX12_mount 84 = .ok (.iload 4, 2) := by decide +kernel
theorem dX12_mount_86 : decode cX12_mount 86 = .ok (.imul, 1) := by decide +kernel
theorem dX12_mount_87 : decode cX12_mount 87 = .ok (.if_icmp .ge 90, 3) := by decide +kernel
theorem dX12_mount_9 : decode cX12_mount 9 = .ok (.iconst 4, 1) := by decide +kernel
theorem dX12_mount_90 : decode cX12_mount 90 = .ok (.iconst 0, 1) := by decide +kernel
theorem dX12_mount_91 : decode cX12_mount 91 = .ok (.istore 8, 2) := by decide +kernel
theorem dX12_mount_93 : decode cX12_mount 93 = .ok (.iconst 5, 1) := by decide +kernel
theorem dX12_mount_94 : decode cX12_mount 94 = .ok (.iload 7, 2) := by decide +kernel
theorem dX12_mount_96 : decode cX12_mount 96 = .ok (.imul, 1) := by decide +kernel
theorem dX12_mount_97 : decode cX12_mount 97 = .ok (.istore 9, 2) := by decide +kernel
theorem dX12_mount_99 : decode cX12_mount 99 = .ok (.iload 9, 2) := by decide +kernel
set_option maxHeartbeats 4000000 in
set_option maxRecDepth 100000 in
theorem T_X12_mount (l : Launch) (D : va_G) (K : Nat → ClassId) (Z Y : Nat → Nat) (ad : Nat → Nat) (t : tSt) (hok : okM t) (x1 : Int32) (x2 : Int32) : tMet l yX12_mount cX12_mount 10 (some .int) (rmD 6 0 0) D K Z Y [.ref (ad 0), .int x1, .int x2] (WM K ad t) (QI D K (fun (r : Int32) (u : tSt) => okM u ∧ frA [(0, 0), (0, 2)] [] [10] [] t u ∧ (-1 : Int) ≤ r.toInt ∧ r.toInt ≤ 3 ∧ ((u.1 0 2).toInt = 0)) (fun (u : tSt) => WM K ad u)) 0 0 := by
  refine t_met RX12 ⟨rfl, by decide +kernel⟩ (Nat.le_of_ble_eq_true rfl) ?_
  intro p e s m below meth c A ls C hE hZ hr hlocks hA hP hD hS hl
  have hl : lv_has ls 10 [(0, .ref (ad 0)), (1, .int x1), (2, .int x2)] := hl
  have hokt := hok
  have hfr : frA [(0, 0), (0, 2)] [] [10] [] t t := frA_rf
  have h_1 : (0 : Int) ≤ (t.1 0 2).toInt ∧ (t.1 0 2).toInt ≤ 1280 := hok.1 0 2
  have L_80 : ∀ (fuel_80 : Nat) (t1 : tSt) (w80_3 : Int32) (w80_4 : Int32) (w80_5 : Int32) (w80_6 : Int32) (w80_7 : Int32) (H : Heap) (locs : List Loc) (ls : Array Slot), okM t1 → frA [(0, 0), (0, 2)] [] [10] [] t t1 → (0 : Int) ≤ w80_3.toInt ∧ w80_3.toInt ≤ 256 → (0 : Int) ≤ w80_4.toInt ∧ w80_4.toInt ≤ 3 → (1 : Int) ≤ w80_5.toInt ∧ w80_5.toInt ≤ 1 → (0 : Int) ≤ w80_6.toInt ∧ w80_6.toInt ≤ 1280 → (0 : Int) ≤ w80_7.toInt ∧ w80_7.toInt ≤ 300 → (0 : Int) ≤ (t1.1 0 0).toInt ∧ (t1.1 0 0).toInt ≤ 0 → (0 : Int) ≤ (t1.1 0 2).toInt ∧ (t1.1 0 2).toInt ≤ 0 → (0 ≤ x1.toInt) → (x1.toInt < 16) → (0 ≤ x2.toInt) → (x2.toInt + w80_4.toInt ≤ 64) → (0 ≤ w80_7.toInt) → (w80_7.toInt ≤ 100 * w80_4.toInt) → (300 : Int) - w80_7.toInt < (fuel_80 : Int) → va_P D vwCl (WM K ad t1) H → va_D A (WM K ad t1) → va_S A s.heap H locs → lv_has ls 10 [(0, .ref (ad 0)), (1, .int x1), (2, .int x2), (3, .int w80_3), (4, .int w80_4), (5, .int w80_5), (6, .int w80_6), (7, .int w80_7)] → W p l e (rmD 6 0 0) s m [.ref (ad 0), .int x1, .int x2].toArray below meth c H locs 0 0 (MQ below (QI D K (fun (r : Int32) (u : tSt) => okM u ∧ frA [(0, 0), (0, 2)] [] [10] [] t u ∧ (-1 : Int) ≤ r.toInt ∧ r.toInt ≤ 3 ∧ ((u.1 0 2).toInt = 0)) (fun (u : tSt) => WM K ad u) A) [.ref (ad 0), .int x1, .int x2].toArray s 0 0 A) (F0 m 80 ls []) := by
    intro fuel_80
    induction fuel_80 with
    | zero =>
      intro t1 w80_3 w80_4 w80_5 w80_6 w80_7 H locs ls hok hfr hw80_3 hw80_4 hw80_5 hw80_6 hw80_7 hf80_0 hf80_2 hi80_0 hi80_1 hi80_2 hi80_3 hi80_4 hi80_5 hm80_80 hP hD hS hl
      exact absurd hm80_80 (by omega)
    | succ fuel_80 ih_80 =>
      intro t1 w80_3 w80_4 w80_5 w80_6 w80_7 H locs ls hok hfr hw80_3 hw80_4 hw80_5 hw80_6 hw80_7 hf80_0 hf80_2 hi80_0 hi80_1 hi80_2 hi80_3 hi80_4 hi80_5 hm80_80 hP hD hS hl
      have hm80_80 : (300 : Int) - w80_7.toInt < (fuel_80 : Int) + 1 := by omega
      have L_151 : ∀ (t1 : tSt) (w151_3 : Int32) (w151_4 : Int32) (w151_5 : Int32) (w151_6 : Int32) (w151_7 : Int32) (w151_8 : Int32) (w151_9 : Int32) (H : Heap) (locs : List Loc) (ls : Array Slot), okM t1 → frA [(0, 0), (0, 2)] [] [10] [] t t1 → (0 : Int) ≤ w151_3.toInt ∧ w151_3.toInt ≤ 256 → (0 : Int) ≤ w151_4.toInt ∧ w151_4.toInt ≤ 3 → (1 : Int) ≤ w151_5.toInt ∧ w151_5.toInt ≤ 1 → (0 : Int) ≤ w151_6.toInt ∧ w151_6.toInt ≤ 1280 → (0 : Int) ≤ w151_7.toInt ∧ w151_7.toInt ≤ 299 → (0 : Int) ≤ w151_9.toInt ∧ w151_9.toInt ≤ 3999 → (0 : Int) ≤ (t1.1 0 0).toInt ∧ (t1.1 0 0).toInt ≤ 0 → (0 : Int) ≤ (t1.1 0 2).toInt ∧ (t1.1 0 2).toInt ≤ 0 → (x2.toInt + w151_4.toInt ≤ 64) → (0 ≤ w151_7.toInt) → (w151_7.toInt < 100 * w151_4.toInt) → (300 : Int) - w151_7.toInt < (fuel_80 : Int) + 1 → va_P D vwCl (WM K ad t1) H → va_D A (WM K ad t1) → va_S A s.heap H locs → lv_has ls 10 [(0, .ref (ad 0)), (1, .int x1), (2, .int x2), (3, .int w151_3), (4, .int w151_4), (5, .int w151_5), (6, .int w151_6), (7, .int w151_7), (8, .int w151_8), (9, .int w151_9)] → W p l e (rmD 6 0 0) s m [.ref (ad 0), .int x1, .int x2].toArray below meth c H locs 0 0 (MQ below (QI D K (fun (r : Int32) (u : tSt) => okM u ∧ frA [(0, 0), (0, 2)] [] [10] [] t u ∧ (-1 : Int) ≤ r.toInt ∧ r.toInt ≤ 3 ∧ ((u.1 0 2).toInt = 0)) (fun (u : tSt) => WM K ad u) A) [.ref (ad 0), .int x1, .int x2].toArray s 0 0 A) (F0 m 151 ls []) := by
        intro t1 w151_3 w151_4 w151_5 w151_6 w151_7 w151_8 w151_9 H locs ls hok hfr hw151_3 hw151_4 hw151_5 hw151_6 hw151_7 hw151_9 hf151_0 hf151_2 hi151_0 hi151_1 hi151_2 hm151_80 hP hD hS hl
        refine lv_aload_n C.1 C.2.1 dX12_mount_151 rfl (lv_at hl 0 rfl) ?_
        refine k_get (v := .ref (ad 10)) C hP 0 rfl rfl inlX12 25 (by decide) m_7_16 rfl dX12_mount_152 ?_
        refine lv_sipush (v := 6400) C.1 C.2.1 dX12_mount_155 (by decide) ?_
        refine lv_iload_n C.1 C.2.1 dX12_mount_158 rfl (lv_at hl 1 rfl) ?_
        obtain ⟨v_2, e_3⟩ : ∃ z, z = (6400 : Int32) * (x1 : Int32) := ⟨_, rfl⟩
        have h_4 : v_2.toInt = 6400 * x1.toInt := by rw [e_3]; exact ti_mull (k := 6400) (by decide) (by omega) (by omega)
        refine k_imul (v := v_2) C e_3.symm dX12_mount_159 ?_
        refine lv_bipush (v := 100) C.1 C.2.1 dX12_mount_160 (by decide) ?_
        refine lv_iload_n C.1 C.2.1 dX12_mount_162 rfl (lv_at hl 2 rfl) ?_
        obtain ⟨v_5, e_6⟩ : ∃ z, z = (100 : Int32) * (x2 : Int32) := ⟨_, rfl⟩
        have h_7 : v_5.toInt = 100 * x2.toInt := by rw [e_6]; exact ti_mull (k := 100) (by decide) (by omega) (by omega)
        refine k_imul (v := v_5) C e_6.symm dX12_mount_163 ?_
        obtain ⟨v_8, e_9⟩ : ∃ z, z = (v_2 : Int32) + (v_5 : Int32) := ⟨_, rfl⟩
        have h_10 : v_8.toInt = v_2.toInt + v_5.toInt := by rw [e_9]; exact ti_iadd (by show (_ : Int) ≤ v_2.toInt + v_5.toInt; omega) (by show v_2.toInt + v_5.toInt < (_ : Int); omega)
        refine k_iadd (v := v_8) C e_9.symm dX12_mount_164 ?_
        refine lv_iload C.1 C.2.1 dX12_mount_165 (lv_at hl 7 rfl) ?_
        obtain ⟨v_11, e_12⟩ : ∃ z, z = (v_8 : Int32) + (w151_7 : Int32) := ⟨_, rfl⟩
        have h_13 : v_11.toInt = v_8.toInt + w151_7.toInt := by rw [e_12]; exact ti_iadd (by show (_ : Int) ≤ v_8.toInt + w151_7.toInt; omega) (by show v_8.toInt + w151_7.toInt < (_ : Int); omega)
        refine k_iadd (v := v_11) C e_12.symm dX12_mount_167 ?_
        refine lv_iload C.1 C.2.1 dX12_mount_168 (lv_at hl 8 rfl) ?_
        refine k_ist (ws' := WM K ad (uB t1 10 (v_11 : Int32).toNatClampNeg w151_8)) (x' := w151_8) C hP hD hS 10 rfl (vp_in_iff.mpr ⟨by omega, by omega⟩) rfl rfl rfl dX12_mount_170 (fun H locs hP hD hS => ?_)
        have hok : okM (uB t1 10 (v_11 : Int32).toNatClampNeg w151_8) := ⟨hok.1, okB_B hok.2.1 10 _ w151_8 (show (-2147483648 : Int) ≤ (w151_8 : Int32).toInt ∧ (w151_8 : Int32).toInt ≤ 2147483647 from (i_rng _)), hok.2.2.1, hok.2.2.2.1, hok.2.2.2.2.1, hok.2.2.2.2.2.1, hok.2.2.2.2.2.2.1, trivial⟩
        have hfr : frA [(0, 0), (0, 2)] [] [10] [] t (uB t1 10 (v_11 : Int32).toNatClampNeg w151_8) := frA_B hfr 10 _ _ rfl
        obtain ⟨v_14, e_15⟩ : ∃ z, z = w151_7 + 1 := ⟨_, rfl⟩
        have h_16 : v_14.toInt = w151_7.toInt + 1 := by rw [e_15]; exact ti_iadd (by show (_ : Int) ≤ w151_7.toInt + 1; omega) (by show w151_7.toInt + 1 < (_ : Int); omega)
        refine lv_iinc (v := v_14) (lv' := [(7, .int v_14), (0, .ref (ad 0)), (1, .int x1), (2, .int x2), (3, .int w151_3), (4, .int w151_4), (5, .int w151_5), (6, .int w151_6), (8, .int w151_8), (9, .int w151_9)]) C.1 C.2.1 dX12_mount_171 hl (k := 7) rfl e_15.symm (by decide) rfl (fun ls hl => ?_)
        have hl : lv_has ls 10 [(0, .ref (ad 0)), (1, .int x1), (2, .int x2), (3, .int w151_3), (4, .int w151_4), (5, .int w151_5), (6, .int w151_6), (7, .int v_14), (8, .int w151_8), (9, .int w151_9)] := lv_sub hl [1, 2, 3, 4, 5, 6, 7, 0, 8, 9] rfl
        refine lv_goto (tgt := 80) C.1 C.2.1 dX12_mount_174 (by decide) ?_
        exact ih_80 (uB t1 10 (v_11 : Int32).toNatClampNeg w151_8) w151_3 w151_4 w151_5 w151_6 v_14 _ _ _ hok hfr ⟨by omega, by omega⟩ ⟨by omega, by omega⟩ ⟨by omega, by omega⟩ ⟨by omega, by omega⟩ ⟨by omega, by omega⟩ (show (0 : Int) ≤ ((t1.1 0 0) : Int32).toInt ∧ ((t1.1 0 0) : Int32).toInt ≤ 0 from ⟨by omega, by omega⟩) (show (0 : Int) ≤ ((t1.1 0 2) : Int32).toInt ∧ ((t1.1 0 2) : Int32).toInt ≤ 0 from ⟨by omega, by omega⟩) (show 0 ≤ x1.toInt from by omega) (show x1.toInt < 16 from by omega) (show 0 ≤ x2.toInt from by omega) (show x2.toInt + w151_4.toInt ≤ 64 from by omega) (show 0 ≤ v_14.toInt from by omega) (show v_14.toInt ≤ 100 * w151_4.toInt from by omega) (show (300 : Int) - v_14.toInt < (fuel_80 : Int) from by omega) hP hD hS (lv_sub hl [0, 1, 2, 3, 4, 5, 6, 7] rfl)
      have L_99 : ∀ (fuel_99 : Nat) (t1 : tSt) (w99_3 : Int32) (w99_4 : Int32) (w99_5 : Int32) (w99_6 : Int32) (w99_7 : Int32) (w99_8 : Int32) (w99_9 : Int32) (H : Heap) (locs : List Loc) (ls : Array Slot), okM t1 → frA [(0, 0), (0, 2)] [] [10] [] t t1 → (0 : Int) ≤ w99_3.toInt ∧ w99_3.toInt ≤ 256 → (0 : Int) ≤ w99_4.toInt ∧ w99_4.toInt ≤ 3 → (1 : Int) ≤ w99_5.toInt ∧ w99_5.toInt ≤ 1 → (0 : Int) ≤ w99_6.toInt ∧ w99_6.toInt ≤ 1280 → (0 : Int) ≤ w99_7.toInt ∧ w99_7.toInt ≤ 299 → (0 : Int) ≤ w99_9.toInt ∧ w99_9.toInt ≤ 3999 → (0 : Int) ≤ (t1.1 0 0).toInt ∧ (t1.1 0 0).toInt ≤ 0 → (0 : Int) ≤ (t1.1 0 2).toInt ∧ (t1.1 0 2).toInt ≤ 0 → (x2.toInt + w99_4.toInt ≤ 64) → (0 ≤ w99_7.toInt) → (w99_7.toInt < 100 * w99_4.toInt) → (300 : Int) - w99_7.toInt < (fuel_80 : Int) + 1 → (3999 : Int) - w99_9.toInt < (fuel_99 : Int) → va_P D vwCl (WM K ad t1) H → va_D A (WM K ad t1) → va_S A s.heap H locs → lv_has ls 10 [(0, .ref (ad 0)), (1, .int x1), (2, .int x2), (3, .int w99_3), (4, .int w99_4), (5, .int w99_5), (6, .int w99_6), (7, .int w99_7), (8, .int w99_8), (9, .int w99_9)] → W p l e (rmD 6 0 0) s m [.ref (ad 0), .int x1, .int x2].toArray below meth c H locs 0 0 (MQ below (QI D K (fun (r : Int32) (u : tSt) => okM u ∧ frA [(0, 0), (0, 2)] [] [10] [] t u ∧ (-1 : Int) ≤ r.toInt ∧ r.toInt ≤ 3 ∧ ((u.1 0 2).toInt = 0)) (fun (u : tSt) => WM K ad u) A) [.ref (ad 0), .int x1, .int x2].toArray s 0 0 A) (F0 m 99 ls []) := by
        intro fuel_99
        induction fuel_99 with
        | zero =>
          intro t1 w99_3 w99_4 w99_5 w99_6 w99_7 w99_8 w99_9 H locs ls hok hfr hw99_3 hw99_4 hw99_5 hw99_6 hw99_7 hw99_9 hf99_0 hf99_2 hi99_0 hi99_1 hi99_2 hm99_80 hm99_99 hP hD hS hl
          exact absurd hm99_99 (by omega)
        | succ fuel_99 ih_99 =>
          intro t1 w99_3 w99_4 w99_5 w99_6 w99_7 w99_8 w99_9 H locs ls hok hfr hw99_3 hw99_4 hw99_5 hw99_6 hw99_7 hw99_9 hf99_0 hf99_2 hi99_0 hi99_1 hi99_2 hm99_80 hm99_99 hP hD hS hl
          have hm99_99 : (3999 : Int) - w99_9.toInt < (fuel_99 : Int) + 1 := by omega
          have L_142 : ∀ (t1 : tSt) (w142_3 : Int32) (w142_4 : Int32) (w142_5 : Int32) (w142_6 : Int32) (w142_7 : Int32) (w142_8 : Int32) (w142_9 : Int32) (k142_0 : Int32) (k142_1 : Int32) (H : Heap) (locs : List Loc) (ls : Array Slot), okM t1 → frA [(0, 0), (0, 2)] [] [10] [] t t1 → (1 : Int) ≤ w142_3.toInt ∧ w142_3.toInt ≤ 256 → (0 : Int) ≤ w142_4.toInt ∧ w142_4.toInt ≤ 3 → (1 : Int) ≤ w142_5.toInt ∧ w142_5.toInt ≤ 1 → (0 : Int) ≤ w142_6.toInt ∧ w142_6.toInt ≤ 1280 → (0 : Int) ≤ w142_7.toInt ∧ w142_7.toInt ≤ 255 → (0 : Int) ≤ w142_9.toInt ∧ w142_9.toInt ≤ 1499 → (0 : Int) ≤ k142_1.toInt ∧ k142_1.toInt ≤ 55 → (0 : Int) ≤ (t1.1 0 0).toInt ∧ (t1.1 0 0).toInt ≤ 0 → (0 : Int) ≤ (t1.1 0 2).toInt ∧ (t1.1 0 2).toInt ≤ 0 → (x2.toInt + w142_4.toInt ≤ 64) → (0 ≤ w142_7.toInt) → (w142_7.toInt < 100 * w142_4.toInt) → (300 : Int) - w142_7.toInt < (fuel_80 : Int) + 1 → (3999 : Int) - w142_9.toInt < (fuel_99 : Int) + 1 → va_P D vwCl (WM K ad t1) H → va_D A (WM K ad t1) → va_S A s.heap H locs → lv_has ls 10 [(0, .ref (ad 0)), (1, .int x1), (2, .int x2), (3, .int w142_3), (4, .int w142_4), (5, .int w142_5), (6, .int w142_6), (7, .int w142_7), (8, .int w142_8), (9, .int w142_9)] → W p l e (rmD 6 0 0) s m [.ref (ad 0), .int x1, .int x2].toArray below meth c H locs 0 0 (MQ below (QI D K (fun (r : Int32) (u : tSt) => okM u ∧ frA [(0, 0), (0, 2)] [] [10] [] t u ∧ (-1 : Int) ≤ r.toInt ∧ r.toInt ≤ 3 ∧ ((u.1 0 2).toInt = 0)) (fun (u : tSt) => WM K ad u) A) [.ref (ad 0), .int x1, .int x2].toArray s 0 0 A) (F0 m 142 ls [.int k142_1, .int k142_0]) := by
            intro t1 w142_3 w142_4 w142_5 w142_6 w142_7 w142_8 w142_9 k142_0 k142_1 H locs ls hok hfr hw142_3 hw142_4 hw142_5 hw142_6 hw142_7 hw142_9 hk142_1 hf142_0 hf142_2 hi142_0 hi142_1 hi142_2 hm142_80 hm142_99 hP hD hS hl
            obtain ⟨v_17, e_18⟩ : ∃ z, z = (k142_0 : Int32) ||| (k142_1 : Int32) := ⟨_, rfl⟩
            refine k_ior (v := v_17) C e_18.symm dX12_mount_142 ?_
            refine lv_istore (lv' := [(8, .int v_17), (0, .ref (ad 0)), (1, .int x1), (2, .int x2), (3, .int w142_3), (4, .int w142_4), (5, .int w142_5), (6, .int w142_6), (7, .int w142_7), (9, .int w142_9)]) C.1 C.2.1 dX12_mount_143 hl (by decide) rfl (fun ls hl => ?_)
            have hl : lv_has ls 10 [(0, .ref (ad 0)), (1, .int x1), (2, .int x2), (3, .int w142_3), (4, .int w142_4), (5, .int w142_5), (6, .int w142_6), (7, .int w142_7), (8, .int v_17), (9, .int w142_9)] := lv_sub hl [1, 2, 3, 4, 5, 6, 7, 8, 0, 9] rfl
            obtain ⟨v_20, e_21⟩ : ∃ z, z = w142_9 + 1 := ⟨_, rfl⟩
            have h_22 : v_20.toInt = w142_9.toInt + 1 := by rw [e_21]; exact ti_iadd (by show (_ : Int) ≤ w142_9.toInt + 1; omega) (by show w142_9.toInt + 1 < (_ : Int); omega)
            refine lv_iinc (v := v_20) (lv' := [(9, .int v_20), (0, .ref (ad 0)), (1, .int x1), (2, .int x2), (3, .int w142_3), (4, .int w142_4), (5, .int w142_5), (6, .int w142_6), (7, .int w142_7), (8, .int v_17)]) C.1 C.2.1 dX12_mount_145 hl (k := 9) rfl e_21.symm (by decide) rfl (fun ls hl => ?_)
            have hl : lv_has ls 10 [(0, .ref (ad 0)), (1, .int x1), (2, .int x2), (3, .int w142_3), (4, .int w142_4), (5, .int w142_5), (6, .int w142_6), (7, .int w142_7), (8, .int v_17), (9, .int v_20)] := lv_sub hl [1, 2, 3, 4, 5, 6, 7, 8, 9, 0] rfl
            refine lv_goto (tgt := 99) C.1 C.2.1 dX12_mount_148 (by decide) ?_
            exact ih_99 t1 w142_3 w142_4 w142_5 w142_6 w142_7 v_17 v_20 _ _ _ hok hfr ⟨by omega, by omega⟩ ⟨by omega, by omega⟩ ⟨by omega, by omega⟩ ⟨by omega, by omega⟩ ⟨by omega, by omega⟩ ⟨by omega, by omega⟩ (show (0 : Int) ≤ ((t1.1 0 0) : Int32).toInt ∧ ((t1.1 0 0) : Int32).toInt ≤ 0 from ⟨by omega, by omega⟩) (show (0 : Int) ≤ ((t1.1 0 2) : Int32).toInt ∧ ((t1.1 0 2) : Int32).toInt ≤ 0 from ⟨by omega, by omega⟩) (show x2.toInt + w142_4.toInt ≤ 64 from by omega) (show 0 ≤ w142_7.toInt from by omega) (show w142_7.toInt < 100 * w142_4.toInt from by omega) (show (300 : Int) - w142_7.toInt < (fuel_80 : Int) + 1 from by omega) (show (3999 : Int) - v_20.toInt < (fuel_99 : Int) from by omega) hP hD hS (lv_sub hl [0, 1, 2, 3, 4, 5, 6, 7, 8, 9] rfl)
          refine lv_iload C.1 C.2.1 dX12_mount_99 (lv_at hl 9 rfl) ?_
          refine lv_iconst (v := 5) C.1 C.2.1 dX12_mount_101 (by decide) ?_
          refine lv_iload C.1 C.2.1 dX12_mount_102 (lv_at hl 7 rfl) ?_
          obtain ⟨v_23, e_24⟩ : ∃ z, z = (5 : Int32) * (w99_7 : Int32) := ⟨_, rfl⟩
          have h_25 : v_23.toInt = 5 * w99_7.toInt := by rw [e_24]; exact ti_mull (k := 5) (by decide) (by omega) (by omega)
          refine k_imul (v := v_23) C e_24.symm dX12_mount_104 ?_
          refine lv_iconst (v := 5) C.1 C.2.1 dX12_mount_105 (by decide) ?_
          obtain ⟨v_26, e_27⟩ : ∃ z, z = (v_23 : Int32) + (5 : Int32) := ⟨_, rfl⟩
          have h_28 : v_26.toInt = v_23.toInt + 5 := by rw [e_27]; exact ti_iadd (by show (_ : Int) ≤ v_23.toInt + 5; omega) (by show v_23.toInt + 5 < (_ : Int); omega)
          refine k_iadd (v := v_26) C e_27.symm dX12_mount_106 ?_
          refine lv_icmp_ge (tgt := 151) C.1 C.2.1 dX12_mount_107 (by decide) (fun c_29 => ?_) (fun c_29 => ?_)
          · replace c_29 : v_26.toInt ≤ w99_9.toInt := i_le c_29
            exact L_151 t1 w99_3 w99_4 w99_5 w99_6 w99_7 w99_8 w99_9 _ _ _ hok hfr ⟨by omega, by omega⟩ ⟨by omega, by omega⟩ ⟨by omega, by omega⟩ ⟨by omega, by omega⟩ ⟨by omega, by omega⟩ ⟨by omega, by omega⟩ (show (0 : Int) ≤ ((t1.1 0 0) : Int32).toInt ∧ ((t1.1 0 0) : Int32).toInt ≤ 0 from ⟨by omega, by omega⟩) (show (0 : Int) ≤ ((t1.1 0 2) : Int32).toInt ∧ ((t1.1 0 2) : Int32).toInt ≤ 0 from ⟨by omega, by omega⟩) (show x2.toInt + w99_4.toInt ≤ 64 from by omega) (show 0 ≤ w99_7.toInt from by omega) (show w99_7.toInt < 100 * w99_4.toInt from by omega) (show (300 : Int) - w99_7.toInt < (fuel_80 : Int) + 1 from by omega) hP hD hS (lv_sub hl [0, 1, 2, 3, 4, 5, 6, 7, 8, 9] rfl)
          · replace c_29 : w99_9.toInt < v_26.toInt := i_nle c_29
            refine lv_iload C.1 C.2.1 dX12_mount_110 (lv_at hl 7 rfl) ?_
            refine lv_iload_n C.1 C.2.1 dX12_mount_112 rfl (lv_at hl 3 rfl) ?_
            refine lv_icmp_ge (tgt := 151) C.1 C.2.1 dX12_mount_113 (by decide) (fun c_30 => ?_) (fun c_30 => ?_)
            · replace c_30 : w99_3.toInt ≤ w99_7.toInt := i_le c_30
              exact L_151 t1 w99_3 w99_4 w99_5 w99_6 w99_7 w99_8 w99_9 _ _ _ hok hfr ⟨by omega, by omega⟩ ⟨by omega, by omega⟩ ⟨by omega, by omega⟩ ⟨by omega, by omega⟩ ⟨by omega, by omega⟩ ⟨by omega, by omega⟩ (show (0 : Int) ≤ ((t1.1 0 0) : Int32).toInt ∧ ((t1.1 0 0) : Int32).toInt ≤ 0 from ⟨by omega, by omega⟩) (show (0 : Int) ≤ ((t1.1 0 2) : Int32).toInt ∧ ((t1.1 0 2) : Int32).toInt ≤ 0 from ⟨by omega, by omega⟩) (show x2.toInt + w99_4.toInt ≤ 64 from by omega) (show 0 ≤ w99_7.toInt from by omega) (show w99_7.toInt < 100 * w99_4.toInt from by omega) (show (300 : Int) - w99_7.toInt < (fuel_80 : Int) + 1 from by omega) hP hD hS (lv_sub hl [0, 1, 2, 3, 4, 5, 6, 7, 8, 9] rfl)
            · replace c_30 : w99_7.toInt < w99_3.toInt := i_nle c_30
              refine lv_iload C.1 C.2.1 dX12_mount_116 (lv_at hl 8 rfl) ?_
              refine lv_bipush (v := 6) C.1 C.2.1 dX12_mount_118 (by decide) ?_
              obtain ⟨v_31, e_32⟩ : ∃ z, z = (w99_8 : Int32) <<< ((6 : Int32) &&& 31) := ⟨_, rfl⟩
              refine k_ishl (v := v_31) C e_32.symm dX12_mount_120 ?_
              refine lv_iload C.1 C.2.1 dX12_mount_121 (lv_at hl 9 rfl) ?_
              refine lv_iload C.1 C.2.1 dX12_mount_123 (lv_at hl 6 rfl) ?_
              refine lv_icmp_ge (tgt := 141) C.1 C.2.1 dX12_mount_125 (by decide) (fun c_34 => ?_) (fun c_34 => ?_)
              · replace c_34 : w99_6.toInt ≤ w99_9.toInt := i_le c_34
                refine lv_iconst (v := 0) C.1 C.2.1 dX12_mount_141 (by decide) ?_
                exact L_142 t1 w99_3 w99_4 w99_5 w99_6 w99_7 w99_8 w99_9 v_31 0 _ _ _ hok hfr ⟨by omega, by omega⟩ ⟨by omega, by omega⟩ ⟨by omega, by omega⟩ ⟨by omega, by omega⟩ ⟨by omega, by omega⟩ ⟨by omega, by omega⟩ ⟨by decide, by decide⟩ (show (0 : Int) ≤ ((t1.1 0 0) : Int32).toInt ∧ ((t1.1 0 0) : Int32).toInt ≤ 0 from ⟨by omega, by omega⟩) (show (0 : Int) ≤ ((t1.1 0 2) : Int32).toInt ∧ ((t1.1 0 2) : Int32).toInt ≤ 0 from ⟨by omega, by omega⟩) (show x2.toInt + w99_4.toInt ≤ 64 from by omega) (show 0 ≤ w99_7.toInt from by omega) (show w99_7.toInt < 100 * w99_4.toInt from by omega) (show (300 : Int) - w99_7.toInt < (fuel_80 : Int) + 1 from by omega) (show (3999 : Int) - w99_9.toInt < (fuel_99 : Int) + 1 from by omega) hP hD hS (lv_sub hl [0, 1, 2, 3, 4, 5, 6, 7, 8, 9] rfl)
              · replace c_34 : w99_9.toInt < w99_6.toInt := i_nle c_34
                refine lv_aload_n C.1 C.2.1 dX12_mount_128 rfl (lv_at hl 0 rfl) ?_
                refine k_get (v := .ref (ad 1)) C hP 0 rfl rfl inlX12 1 (by decide) m_7_4 rfl dX12_mount_129 ?_
                refine lv_iload C.1 C.2.1 dX12_mount_132 (lv_at hl 9 rfl) ?_
                obtain ⟨v_35, e_36⟩ : ∃ z, z = (t1.2.2.1 1 (w99_9 : Int32).toNatClampNeg) := ⟨_, rfl⟩
                have h_37 : (-3999 : Int) ≤ v_35.toInt ∧ v_35.toInt ≤ 127 := by rw [e_36]; exact hok.2.1 1 _
                refine k_bld (v := v_35) C hP 1 rfl (vp_in_iff.mpr ⟨by omega, by omega⟩) e_36.symm dX12_mount_134 ?_
                refine g_Si (As := [.int v_35]) (rest := [.int v_31]) C hP hD hS hA (T_X12_byteOf l D K Z Y ad t1 hok (v_35) (show (-3999 : Int) ≤ (v_35 : Int32).toInt ∧ (v_35 : Int32).toInt ≤ 255 from ⟨by omega, by omega⟩)) hE hZ (uwS m_31_15 m_31_16 m_1_5 m_31_17) (hdS 1 (by decide +kernel) rfl) ⟨Nat.le_of_ble_eq_true rfl, Nat.le_of_ble_eq_true rfl⟩ rfl rfl rfl hl.1 (Nat.le_of_ble_eq_true rfl) dX12_mount_135 ⟨Nat.le_of_ble_eq_true rfl, Nat.le_of_ble_eq_true rfl⟩ (fun r_39 t_38 H locs hw hP hD hS => ?_)
                obtain ⟨h_41, h_42, p_43⟩ := hw
                replace p_43 : r_39 = bO v_35 := p_43
                refine lv_goto (tgt := 142) C.1 C.2.1 dX12_mount_138 (by decide) ?_
                exact L_142 t1 w99_3 w99_4 w99_5 w99_6 w99_7 w99_8 w99_9 v_31 r_39 _ _ _ hok hfr ⟨by omega, by omega⟩ ⟨by omega, by omega⟩ ⟨by omega, by omega⟩ ⟨by omega, by omega⟩ ⟨by omega, by omega⟩ ⟨by omega, by omega⟩ ⟨by omega, by omega⟩ (show (0 : Int) ≤ ((t1.1 0 0) : Int32).toInt ∧ ((t1.1 0 0) : Int32).toInt ≤ 0 from ⟨by omega, by omega⟩) (show (0 : Int) ≤ ((t1.1 0 2) : Int32).toInt ∧ ((t1.1 0 2) : Int32).toInt ≤ 0 from ⟨by omega, by omega⟩) (show x2.toInt + w99_4.toInt ≤ 64 from by omega) (show 0 ≤ w99_7.toInt from by omega) (show w99_7.toInt < 100 * w99_4.toInt from by omega) (show (300 : Int) - w99_7.toInt < (fuel_80 : Int) + 1 from by omega) (show (3999 : Int) - w99_9.toInt < (fuel_99 : Int) + 1 from by omega) hP hD hS (lv_sub hl [0, 1, 2, 3, 4, 5, 6, 7, 8, 9] rfl)
      refine lv_iload C.1 C.2.1 dX12_mount_80 (lv_at hl 7 rfl) ?_
      refine lv_bipush (v := 100) C.1 C.2.1 dX12_mount_82 (by decide) ?_
      refine lv_iload C.1 C.2.1 dX12_mount_84 (lv_at hl 4 rfl) ?_
      obtain ⟨v_44, e_45⟩ : ∃ z, z = (100 : Int32) * (w80_4 : Int32) := ⟨_, rfl⟩
      have h_46 : v_44.toInt = 100 * w80_4.toInt := by rw [e_45]; exact ti_mull (k := 100) (by decide) (by omega) (by omega)
      refine k_imul (v := v_44) C e_45.symm dX12_mount_86 ?_
      refine lv_icmp_ge (tgt := 177) C.1 C.2.1 dX12_mount_87 (by decide) (fun c_47 => ?_) (fun c_47 => ?_)
      · replace c_47 : v_44.toInt ≤ w80_7.toInt := i_le c_47
        refine lv_iload C.1 C.2.1 dX12_mount_177 (lv_at hl 4 rfl) ?_
        exact g_iret C hr hlocks hP hD hS rfl t1 rfl ⟨hok, hfr, by omega, by omega, (show (t1.1 0 2).toInt = 0 from by omega)⟩ (Nat.le_of_ble_eq_true rfl) (Nat.le_of_ble_eq_true rfl) dX12_mount_179
      · replace c_47 : w80_7.toInt < v_44.toInt := i_nle c_47
        refine lv_iconst (v := 0) C.1 C.2.1 dX12_mount_90 (by decide) ?_
        refine lv_istore (lv' := [(8, .int 0), (0, .ref (ad 0)), (1, .int x1), (2, .int x2), (3, .int w80_3), (4, .int w80_4), (5, .int w80_5), (6, .int w80_6), (7, .int w80_7)]) C.1 C.2.1 dX12_mount_91 hl (by decide) rfl (fun ls hl => ?_)
        have hl : lv_has ls 10 [(0, .ref (ad 0)), (1, .int x1), (2, .int x2), (3, .int w80_3), (4, .int w80_4), (5, .int w80_5), (6, .int w80_6), (7, .int w80_7), (8, .int 0)] := lv_sub hl [1, 2, 3, 4, 5, 6, 7, 8, 0] rfl
        refine lv_iconst (v := 5) C.1 C.2.1 dX12_mount_93 (by decide) ?_
        refine lv_iload C.1 C.2.1 dX12_mount_94 (lv_at hl 7 rfl) ?_
        obtain ⟨v_48, e_49⟩ : ∃ z, z = (5 : Int32) * (w80_7 : Int32) := ⟨_, rfl⟩
        have h_50 : v_48.toInt = 5 * w80_7.toInt := by rw [e_49]; exact ti_mull (k := 5) (by decide) (by omega) (by omega)
        refine k_imul (v := v_48) C e_49.symm dX12_mount_96 ?_
        refine lv_istore (lv' := [(9, .int v_48), (0, .ref (ad 0)), (1, .int x1), (2, .int x2), (3, .int w80_3), (4, .int w80_4), (5, .int w80_5), (6, .int w80_6), (7, .int w80_7), (8, .int 0)]) C.1 C.2.1 dX12_mount_97 hl (by decide) rfl (fun ls hl => ?_)
        have hl : lv_has ls 10 [(0, .ref (ad 0)), (1, .int x1), (2, .int x2), (3, .int w80_3), (4, .int w80_4), (5, .int w80_5), (6, .int w80_6), (7, .int w80_7), (8, .int 0), (9, .int v_48)] := lv_sub hl [1, 2, 3, 4, 5, 6, 7, 8, 9, 0] rfl
        exact L_99 4000 t1 w80_3 w80_4 w80_5 w80_6 w80_7 0 v_48 _ _ _ hok hfr ⟨by omega, by omega⟩ ⟨by omega, by omega⟩ ⟨by omega, by omega⟩ ⟨by omega, by omega⟩ ⟨by omega, by omega⟩ ⟨by omega, by omega⟩ (show (0 : Int) ≤ ((t1.1 0 0) : Int32).toInt ∧ ((t1.1 0 0) : Int32).toInt ≤ 0 from ⟨by omega, by omega⟩) (show (0 : Int) ≤ ((t1.1 0 2) : Int32).toInt ∧ ((t1.1 0 2) : Int32).toInt ≤ 0 from ⟨by omega, by omega⟩) (show x2.toInt + w80_4.toInt ≤ 64 from by omega) (show 0 ≤ w80_7.toInt from by omega) (show w80_7.toInt < 100 * w80_4.toInt from by omega) (show (300 : Int) - w80_7.toInt < (fuel_80 : Int) + 1 from by omega) (show (3999 : Int) - v_48.toInt < ((4000 : Nat) : Int) from by omega) hP hD hS (lv_sub hl [0, 1, 2, 3, 4, 5, 6, 7, 8, 9] rfl)
  have L_47 : ∀ (t1 : tSt) (w47_3 : Int32) (w47_4 : Int32) (H : Heap) (locs : List Loc) (ls : Array Slot), okM t1 → frA [(0, 0), (0, 2)] [] [10] [] t t1 → (0 : Int) ≤ w47_3.toInt ∧ w47_3.toInt ≤ 256 → (0 : Int) ≤ w47_4.toInt ∧ w47_4.toInt ≤ 3 → (0 : Int) ≤ (t1.1 0 0).toInt ∧ (t1.1 0 0).toInt ≤ 0 → va_P D vwCl (WM K ad t1) H → va_D A (WM K ad t1) → va_S A s.heap H locs → lv_has ls 10 [(0, .ref (ad 0)), (1, .int x1), (2, .int x2), (3, .int w47_3), (4, .int w47_4)] → W p l e (rmD 6 0 0) s m [.ref (ad 0), .int x1, .int x2].toArray below meth c H locs 0 0 (MQ below (QI D K (fun (r : Int32) (u : tSt) => okM u ∧ frA [(0, 0), (0, 2)] [] [10] [] t u ∧ (-1 : Int) ≤ r.toInt ∧ r.toInt ≤ 3 ∧ ((u.1 0 2).toInt = 0)) (fun (u : tSt) => WM K ad u) A) [.ref (ad 0), .int x1, .int x2].toArray s 0 0 A) (F0 m 47 ls []) := by
    intro t1 w47_3 w47_4 H locs ls hok hfr hw47_3 hw47_4 hf47_0 hP hD hS hl
    have h_51 : (0 : Int) ≤ (t1.1 0 2).toInt ∧ (t1.1 0 2).toInt ≤ 1280 := hok.1 0 2
    refine lv_iconst (v := 0) C.1 C.2.1 dX12_mount_47 (by decide) ?_
    refine lv_istore (lv' := [(5, .int 0), (0, .ref (ad 0)), (1, .int x1), (2, .int x2), (3, .int w47_3), (4, .int w47_4)]) C.1 C.2.1 dX12_mount_48 hl (by decide) rfl (fun ls hl => ?_)
    have hl : lv_has ls 10 [(0, .ref (ad 0)), (1, .int x1), (2, .int x2), (3, .int w47_3), (4, .int w47_4), (5, .int 0)] := lv_sub hl [1, 2, 3, 4, 5, 0] rfl
    refine lv_aload_n C.1 C.2.1 dX12_mount_50 rfl (lv_at hl 0 rfl) ?_
    refine k_get (v := .int (t1.1 0 2)) C hP 0 rfl rfl inlX12 2 (by decide) m_9_19 rfl dX12_mount_51 ?_
    refine lv_istore (lv' := [(6, .int (t1.1 0 2)), (0, .ref (ad 0)), (1, .int x1), (2, .int x2), (3, .int w47_3), (4, .int w47_4), (5, .int 0)]) C.1 C.2.1 dX12_mount_54 hl (by decide) rfl (fun ls hl => ?_)
    have hl : lv_has ls 10 [(0, .ref (ad 0)), (1, .int x1), (2, .int x2), (3, .int w47_3), (4, .int w47_4), (5, .int 0), (6, .int (t1.1 0 2))] := lv_sub hl [1, 2, 3, 4, 5, 6, 0] rfl
    refine lv_aload_n C.1 C.2.1 dX12_mount_56 rfl (lv_at hl 0 rfl) ?_
    refine lv_iconst (v := 0) C.1 C.2.1 dX12_mount_57 (by decide) ?_
    refine k_put (ws' := WM K ad (uI t1 0 2 0)) (v := .int 0) C hP hD hS 0 rfl rfl inlX12 tyX12_ok nmX12 2 (by decide) m_9_19 rfl rfl rfl rfl rfl dX12_mount_58 (fun H locs hP hD hS => ?_)
    have hok : okM (uI t1 0 2 0) := ⟨okI_I hok.1 0 2 0 (show (0 : Int) ≤ (0 : Int32).toInt ∧ (0 : Int32).toInt ≤ 1280 from ⟨by decide, by decide⟩), hok.2.1, hok.2.2.1, hok.2.2.2.1, hok.2.2.2.2.1, hok.2.2.2.2.2.1, hok.2.2.2.2.2.2.1, trivial⟩
    have hfr : frA [(0, 0), (0, 2)] [] [10] [] t (uI t1 0 2 0) := frA_I hfr 0 2 _ rfl
    refine lv_iload C.1 C.2.1 dX12_mount_61 (lv_at hl 5 rfl) ?_
    refine lv_if_eq (tgt := 75) C.1 C.2.1 dX12_mount_63 (by decide) (fun _ => ?_) (fun h => absurd (by decide) h)
    refine lv_iconst (v := (-1)) C.1 C.2.1 dX12_mount_75 (by decide) ?_
    exact g_iret C hr hlocks hP hD hS rfl (uI t1 0 2 0) rfl ⟨hok, hfr, by decide, by decide, (show 0 = 0 from by omega)⟩ (Nat.le_of_ble_eq_true rfl) (Nat.le_of_ble_eq_true rfl) dX12_mount_76
  refine lv_aload_n C.1 C.2.1 dX12_mount_0 rfl (lv_at hl 0 rfl) ?_
  refine lv_iconst (v := 0) C.1 C.2.1 dX12_mount_1 (by decide) ?_
  refine k_put (ws' := WM K ad (uI t 0 0 0)) (v := .int 0) C hP hD hS 0 rfl rfl inlX12 tyX12_ok nmX12 0 (by decide) m_9_18 rfl rfl rfl rfl rfl dX12_mount_2 (fun H locs hP hD hS => ?_)
  have hok : okM (uI t 0 0 0) := ⟨okI_I hok.1 0 0 0 (show (0 : Int) ≤ (0 : Int32).toInt ∧ (0 : Int32).toInt ≤ 1 from ⟨by decide, by decide⟩), hok.2.1, hok.2.2.1, hok.2.2.2.1, hok.2.2.2.2.1, hok.2.2.2.2.2.1, hok.2.2.2.2.2.2.1, trivial⟩
  have hfr : frA [(0, 0), (0, 2)] [] [10] [] t (uI t 0 0 0) := frA_I hfr 0 0 _ rfl
  refine lv_aload_n C.1 C.2.1 dX12_mount_5 rfl (lv_at hl 0 rfl) ?_
  refine k_get (v := .int (t.1 0 2)) C hP 0 rfl rfl inlX12 2 (by decide) m_9_19 rfl dX12_mount_6 ?_
  refine lv_iconst (v := 4) C.1 C.2.1 dX12_mount_9 (by decide) ?_
  obtain ⟨v_52, e_53⟩ : ∃ z, z = ((t.1 0 2) : Int32) + (4 : Int32) := ⟨_, rfl⟩
  have h_54 : v_52.toInt = (t.1 0 2).toInt + 4 := by rw [e_53]; exact ti_iadd (by show (_ : Int) ≤ (t.1 0 2).toInt + 4; omega) (by show (t.1 0 2).toInt + 4 < (_ : Int); omega)
  refine k_iadd (v := v_52) C e_53.symm dX12_mount_10 ?_
  refine lv_iconst (v := 5) C.1 C.2.1 dX12_mount_11 (by decide) ?_
  obtain ⟨v_55, e_56⟩ : ∃ z, z = (v_52 : Int32) / (5 : Int32) := ⟨_, rfl⟩
  have h_57 : v_55.toInt = v_52.toInt / 5 := by rw [e_56]; exact z_divp (k := 5) (by decide) (by decide) (by show (0 : Int) ≤ v_52.toInt; omega)
  refine k_idiv (v := v_55) C (by decide) e_56.symm dX12_mount_12 ?_
  refine lv_istore_n (lv' := [(3, .int v_55), (0, .ref (ad 0)), (1, .int x1), (2, .int x2)]) C.1 C.2.1 dX12_mount_13 rfl hl (by decide) rfl (fun ls hl => ?_)
  have hl : lv_has ls 10 [(0, .ref (ad 0)), (1, .int x1), (2, .int x2), (3, .int v_55)] := lv_sub hl [1, 2, 3, 0] rfl
  refine lv_iload_n C.1 C.2.1 dX12_mount_14 rfl (lv_at hl 3 rfl) ?_
  refine lv_bipush (v := 99) C.1 C.2.1 dX12_mount_15 (by decide) ?_
  obtain ⟨v_58, e_59⟩ : ∃ z, z = (v_55 : Int32) + (99 : Int32) := ⟨_, rfl⟩
  have h_60 : v_58.toInt = v_55.toInt + 99 := by rw [e_59]; exact ti_iadd (by show (_ : Int) ≤ v_55.toInt + 99; omega) (by show v_55.toInt + 99 < (_ : Int); omega)
  refine k_iadd (v := v_58) C e_59.symm dX12_mount_17 ?_
  refine lv_bipush (v := 100) C.1 C.2.1 dX12_mount_18 (by decide) ?_
  obtain ⟨v_61, e_62⟩ : ∃ z, z = (v_58 : Int32) / (100 : Int32) := ⟨_, rfl⟩
  have h_63 : v_61.toInt = v_58.toInt / 100 := by rw [e_62]; exact z_divp (k := 100) (by decide) (by decide) (by show (0 : Int) ≤ v_58.toInt; omega)
  refine k_idiv (v := v_61) C (by decide) e_62.symm dX12_mount_20 ?_
  refine lv_istore (lv' := [(4, .int v_61), (0, .ref (ad 0)), (1, .int x1), (2, .int x2), (3, .int v_55)]) C.1 C.2.1 dX12_mount_21 hl (by decide) rfl (fun ls hl => ?_)
  have hl : lv_has ls 10 [(0, .ref (ad 0)), (1, .int x1), (2, .int x2), (3, .int v_55), (4, .int v_61)] := lv_sub hl [1, 2, 3, 4, 0] rfl
  refine lv_iload_n C.1 C.2.1 dX12_mount_23 rfl (lv_at hl 1 rfl) ?_
  refine lv_if_lt (tgt := 47) C.1 C.2.1 dX12_mount_24 (by decide) (fun c_64 => ?_) (fun c_64 => ?_)
  · replace c_64 : x1.toInt < 0 := i_lt c_64
    exact L_47 (uI t 0 0 0) v_55 v_61 _ _ _ hok hfr ⟨by omega, by omega⟩ ⟨by omega, by omega⟩ (show (0 : Int) ≤ (0 : Int32).toInt ∧ (0 : Int32).toInt ≤ 0 from ⟨by decide, by decide⟩) hP hD hS (lv_sub hl [0, 1, 2, 3, 4] rfl)
  · replace c_64 : 0 ≤ x1.toInt := i_nlt c_64
    refine lv_iload_n C.1 C.2.1 dX12_mount_27 rfl (lv_at hl 1 rfl) ?_
    refine lv_bipush (v := 16) C.1 C.2.1 dX12_mount_28 (by decide) ?_
    refine lv_icmp_ge (tgt := 47) C.1 C.2.1 dX12_mount_30 (by decide) (fun c_65 => ?_) (fun c_65 => ?_)
    · replace c_65 : 16 ≤ x1.toInt := i_le c_65
      exact L_47 (uI t 0 0 0) v_55 v_61 _ _ _ hok hfr ⟨by omega, by omega⟩ ⟨by omega, by omega⟩ (show (0 : Int) ≤ (0 : Int32).toInt ∧ (0 : Int32).toInt ≤ 0 from ⟨by decide, by decide⟩) hP hD hS (lv_sub hl [0, 1, 2, 3, 4] rfl)
    · replace c_65 : x1.toInt < 16 := i_nle c_65
      refine lv_iload_n C.1 C.2.1 dX12_mount_33 rfl (lv_at hl 2 rfl) ?_
      refine lv_if_lt (tgt := 47) C.1 C.2.1 dX12_mount_34 (by decide) (fun c_66 => ?_) (fun c_66 => ?_)
      · replace c_66 : x2.toInt < 0 := i_lt c_66
        exact L_47 (uI t 0 0 0) v_55 v_61 _ _ _ hok hfr ⟨by omega, by omega⟩ ⟨by omega, by omega⟩ (show (0 : Int) ≤ (0 : Int32).toInt ∧ (0 : Int32).toInt ≤ 0 from ⟨by decide, by decide⟩) hP hD hS (lv_sub hl [0, 1, 2, 3, 4] rfl)
      · replace c_66 : 0 ≤ x2.toInt := i_nlt c_66
        refine lv_iload_n C.1 C.2.1 dX12_mount_37 rfl (lv_at hl 2 rfl) ?_
        refine lv_bipush (v := 64) C.1 C.2.1 dX12_mount_38 (by decide) ?_
        refine lv_icmp_ge (tgt := 47) C.1 C.2.1 dX12_mount_40 (by decide) (fun c_67 => ?_) (fun c_67 => ?_)
        · replace c_67 : 64 ≤ x2.toInt := i_le c_67
          exact L_47 (uI t 0 0 0) v_55 v_61 _ _ _ hok hfr ⟨by omega, by omega⟩ ⟨by omega, by omega⟩ (show (0 : Int) ≤ (0 : Int32).toInt ∧ (0 : Int32).toInt ≤ 0 from ⟨by decide, by decide⟩) hP hD hS (lv_sub hl [0, 1, 2, 3, 4] rfl)
        · replace c_67 : x2.toInt < 64 := i_nle c_67
          refine lv_iconst (v := 1) C.1 C.2.1 dX12_mount_43 (by decide) ?_
          refine lv_goto (tgt := 48) C.1 C.2.1 dX12_mount_44 (by decide) ?_
          refine lv_istore (lv' := [(5, .int 1), (0, .ref (ad 0)), (1, .int x1), (2, .int x2), (3, .int v_55), (4, .int v_61)]) C.1 C.2.1 dX12_mount_48 hl (by decide) rfl (fun ls hl => ?_)
          have hl : lv_has ls 10 [(0, .ref (ad 0)), (1, .int x1), (2, .int x2), (3, .int v_55), (4, .int v_61), (5, .int 1)] := lv_sub hl [1, 2, 3, 4, 5, 0] rfl
          refine lv_aload_n C.1 C.2.1 dX12_mount_50 rfl (lv_at hl 0 rfl) ?_
          refine k_get (v := .int (t.1 0 2)) C hP 0 rfl rfl inlX12 2 (by decide) m_9_19 rfl dX12_mount_51 ?_
          refine lv_istore (lv' := [(6, .int (t.1 0 2)), (0, .ref (ad 0)), (1, .int x1), (2, .int x2), (3, .int v_55), (4, .int v_61), (5, .int 1)]) C.1 C.2.1 dX12_mount_54 hl (by decide) rfl (fun ls hl => ?_)
          have hl : lv_has ls 10 [(0, .ref (ad 0)), (1, .int x1), (2, .int x2), (3, .int v_55), (4, .int v_61), (5, .int 1), (6, .int (t.1 0 2))] := lv_sub hl [1, 2, 3, 4, 5, 6, 0] rfl
          refine lv_aload_n C.1 C.2.1 dX12_mount_56 rfl (lv_at hl 0 rfl) ?_
          refine lv_iconst (v := 0) C.1 C.2.1 dX12_mount_57 (by decide) ?_
          refine k_put (ws' := WM K ad (uI (uI t 0 0 0) 0 2 0)) (v := .int 0) C hP hD hS 0 rfl rfl inlX12 tyX12_ok nmX12 2 (by decide) m_9_19 rfl rfl rfl rfl rfl dX12_mount_58 (fun H locs hP hD hS => ?_)
          have hok : okM (uI (uI t 0 0 0) 0 2 0) := ⟨okI_I hok.1 0 2 0 (show (0 : Int) ≤ (0 : Int32).toInt ∧ (0 : Int32).toInt ≤ 1280 from ⟨by decide, by decide⟩), hok.2.1, hok.2.2.1, hok.2.2.2.1, hok.2.2.2.2.1, hok.2.2.2.2.2.1, hok.2.2.2.2.2.2.1, trivial⟩
          have hfr : frA [(0, 0), (0, 2)] [] [10] [] t (uI (uI t 0 0 0) 0 2 0) := frA_I hfr 0 2 _ rfl
          refine lv_iload C.1 C.2.1 dX12_mount_61 (lv_at hl 5 rfl) ?_
          refine lv_if_eq (tgt := 75) C.1 C.2.1 dX12_mount_63 (by decide) (fun h => absurd h (by decide)) (fun _ => ?_)
          refine lv_iload_n C.1 C.2.1 dX12_mount_66 rfl (lv_at hl 2 rfl) ?_
          refine lv_iload C.1 C.2.1 dX12_mount_67 (lv_at hl 4 rfl) ?_
          obtain ⟨v_68, e_69⟩ : ∃ z, z = (x2 : Int32) + (v_61 : Int32) := ⟨_, rfl⟩
          have h_70 : v_68.toInt = x2.toInt + v_61.toInt := by rw [e_69]; exact ti_iadd (by show (_ : Int) ≤ x2.toInt + v_61.toInt; omega) (by show x2.toInt + v_61.toInt < (_ : Int); omega)
          refine k_iadd (v := v_68) C e_69.symm dX12_mount_69 ?_
          refine lv_bipush (v := 64) C.1 C.2.1 dX12_mount_70 (by decide) ?_
          refine lv_icmp_le (tgt := 77) C.1 C.2.1 dX12_mount_72 (by decide) (fun c_71 => ?_) (fun c_71 => ?_)
          · replace c_71 : v_68.toInt ≤ 64 := i_le c_71
            refine lv_iconst (v := 0) C.1 C.2.1 dX12_mount_77 (by decide) ?_
            refine lv_istore (lv' := [(7, .int 0), (0, .ref (ad 0)), (1, .int x1), (2, .int x2), (3, .int v_55), (4, .int v_61), (5, .int 1), (6, .int (t.1 0 2))]) C.1 C.2.1 dX12_mount_78 hl (by decide) rfl (fun ls hl => ?_)
            have hl : lv_has ls 10 [(0, .ref (ad 0)), (1, .int x1), (2, .int x2), (3, .int v_55), (4, .int v_61), (5, .int 1), (6, .int (t.1 0 2)), (7, .int 0)] := lv_sub hl [1, 2, 3, 4, 5, 6, 7, 0] rfl
            exact L_80 301 (uI (uI t 0 0 0) 0 2 0) v_55 v_61 1 (t.1 0 2) 0 _ _ _ hok hfr ⟨by omega, by omega⟩ ⟨by omega, by omega⟩ ⟨by decide, by decide⟩ ⟨by omega, by omega⟩ ⟨by decide, by decide⟩ (show (0 : Int) ≤ (0 : Int32).toInt ∧ (0 : Int32).toInt ≤ 0 from ⟨by decide, by decide⟩) (show (0 : Int) ≤ (0 : Int32).toInt ∧ (0 : Int32).toInt ≤ 0 from ⟨by decide, by decide⟩) (show 0 ≤ x1.toInt from by omega) (show x1.toInt < 16 from by omega) (show 0 ≤ x2.toInt from by omega) (show x2.toInt + v_61.toInt ≤ 64 from by omega) (show 0 ≤ 0 from by omega) (show 0 ≤ 100 * v_61.toInt from by omega) (show (300 : Int) - 0 < ((301 : Nat) : Int) from by omega) hP hD hS (lv_sub hl [0, 1, 2, 3, 4, 5, 6, 7] rfl)
          · replace c_71 : 64 < v_68.toInt := i_nle c_71
            refine lv_iconst (v := (-1)) C.1 C.2.1 dX12_mount_75 (by decide) ?_
            exact g_iret C hr hlocks hP hD hS rfl (uI (uI t 0 0 0) 0 2 0) rfl ⟨hok, hfr, by decide, by decide, (show 0 = 0 from by omega)⟩ (Nat.le_of_ble_eq_true rfl) (Nat.le_of_ble_eq_true rfl) dX12_mount_76
