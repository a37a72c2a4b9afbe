theorem dX12_look_0 : decode cX12_look 0 = .ok (.aload_n 0, 1) := by decide +kernel
theorem dX12_look_1 : decode cX12_look 1 = .ok (.aload_n 0, 1) := by decide +kernel
theorem dX12_look_102 : decode cX12_look 102 = .ok (.iconst 0, 1) := by decide +kernel
theorem dX12_look_103 : decode cX12_look 103 = .ok (.goto 12, 3) := by decide +kernel
theorem dX12_look_106 : decode cX12_look 106 = .ok (.aload_n 0, 1) := by decide +kernel
theorem dX12_look_107 : decode cX12_look 107 = .ok (.getfield 17, 3) := by decide +kernel
theorem dX12_look_11 : decode cX12_look 11 = .ok (.iconst 2, 1) := by decide +kernel
theorem dX12_look_110 : decode cX12_look 110 = .ok (.iload_n 1, 1) := by decide +kernel
theorem dX12_look_111 : decode cX12_look 111 = .ok (.iaload, 1) := by decide +kernel
theorem dX12_look_112 : decode cX12_look 112 = .ok (.invokestatic 161, 3) := by decide +kernel
theorem dX12_look_115 : decode cX12_look 115 = .ok (.iadd, 1) := by decide +kernel
theorem dX12_look_116 : decode cX12_look 116 = .ok (.putfield 251, 3) := by decide +kernel
theorem dX12_look_119 : decode cX12_look 119 = .ok (.aload_n 0, 1) := by decide +kernel
theorem dX12_look_12 : decode cX12_look 12 = .ok (.ireturn, 1) := by decide +kernel
theorem dX12_look_120 : decode cX12_look 120 = .ok (.getfield 238, 3) := by decide +kernel
theorem dX12_look_123 : decode cX12_look 123 = .ok (.ifCond .eq 31, 3) := by decide +kernel
theorem dX12_look_126 : decode cX12_look 126 = .ok (.aload_n 0, 1) := by decide +kernel
theorem dX12_look_127 : decode cX12_look 127 = .ok (.getfield 241, 3) := by decide +kernel
theorem dX12_look_13 : decode cX12_look 13 = .ok (.aload_n 0, 1) := by decide +kernel
theorem dX12_look_130 : decode cX12_look 130 = .ok (.ifCond .ne 24, 3) := by decide +kernel
theorem dX12_look_133 : decode cX12_look 133 = .ok (.aload_n 0, 1) := by decide +kernel
theorem dX12_look_134 : decode cX12_look 134 = .ok (.invokevirtual 390, 3) := by decide +kernel
theorem dX12_look_137 : decode cX12_look 137 = .ok (.aload_n 0, 1) := by decide +kernel
theorem dX12_look_138 : decode cX12_look 138 = .ok (.bipush (-10), 2) := by decide +kernel
theorem dX12_look_14 : decode cX12_look 14 = .ok (.aload_n 0, 1) := by decide +kernel
theorem dX12_look_140 : decode cX12_look 140 = .ok (.invokevirtual 260, 3) := by decide +kernel
theorem dX12_look_143 : decode cX12_look 143 = .ok (.invokestatic 161, 3) := by decide +kernel
theorem dX12_look_146 : decode cX12_look 146 = .ok (.i2l, 1) := by decide +kernel
theorem dX12_look_147 : decode cX12_look 147 = .ok (.lcmp, 1) := by decide +kernel
theorem dX12_look_148 : decode cX12_look 148 = .ok (.ifCond .le 6, 3) := by decide +kernel
theorem dX12_look_15 : decode cX12_look 15 = .ok (.aload_n 0, 1) := by decide +kernel
theorem dX12_look_151 : decode cX12_look 151 = .ok (.bipush 9, 2) := by decide +kernel
theorem dX12_look_153 : decode cX12_look 153 = .ok (.ireturn, 1) := by decide +kernel
theorem dX12_look_154 : decode cX12_look 154 = .ok (.aload_n 0, 1) := by decide +kernel
theorem dX12_look_155 : decode cX12_look 155 = .ok (.getfield 235, 3) := by decide +kernel
theorem dX12_look_158 : decode cX12_look 158 = .ok (.ifCond .eq 25, 3) := by decide +kernel
theorem dX12_look_16 : decode cX12_look 16 = .ok (.getfield 378, 3) := by decide +kernel
theorem dX12_look_161 : decode cX12_look 161 = .ok (.aload_n 0, 1) := by decide +kernel
theorem dX12_look_162 : decode cX12_look 162 = .ok (.getfield 272, 3) := by decide +kernel
theorem dX12_look_165 : decode cX12_look 165 = .ok (.aload_n 0, 1) := by decide +kernel
theorem dX12_look_166 : decode cX12_look 166 = .ok (.invokevirtual 390, 3) := by decide +kernel
theorem dX12_look_169 : decode cX12_look 169 = .ok (.ladd, 1) := by decide +kernel
theorem dX12_look_170 : decode cX12_look 170 = .ok (.aload_n 0, 1) := by decide +kernel
theorem dX12_look_171 : decode cX12_look 171 = .ok (.getfield 394, 3) := by decide +kernel
theorem dX12_look_174 : decode cX12_look 174 = .ok (.lcmp, 1) := by decide +kernel
theorem dX12_look_175 : decode cX12_look 175 = .ok (.ifCond .le 8, 3) := by decide +kernel
theorem dX12_look_178 : decode cX12_look 178 = .ok (.bipush 10, 2) := by decide +kernel
theorem dX12_look_180 : decode cX12_look 180 = .ok (.goto 7, 3) := by decide +kernel
theorem dX12_look_183 : decode cX12_look 183 = .ok (.aload_n 0, 1) := by decide +kernel
theorem dX12_look_184 : decode cX12_look 184 = .ok (.invokevirtual 397, 3) := by decide +kernel
theorem dX12_look_187 : decode cX12_look 187 = .ok (.ireturn, 1) := by decide +kernel
theorem dX12_look_19 : decode cX12_look 19 = .ok (.invokevirtual 260, 3) := by decide +kernel
theorem dX12_look_2 : decode cX12_look 2 = .ok (.getfield 378, 3) := by decide +kernel
theorem dX12_look_22 : decode cX12_look 22 = .ok (.putfield 292, 3) := by decide +kernel
theorem dX12_look_25 : decode cX12_look 25 = .ok (.aload_n 0, 1) := by decide +kernel
theorem dX12_look_26 : decode cX12_look 26 = .ok (.aload_n 0, 1) := by decide +kernel
theorem dX12_look_27 : decode cX12_look 27 = .ok (.getfield 292, 3) := by decide +kernel
theorem dX12_look_30 : decode cX12_look 30 = .ok (.bipush 63, 2) := by decide +kernel
theorem dX12_look_32 : decode cX12_look 32 = .ok (.iand, 1) := by decide +kernel
theorem dX12_look_33 : decode cX12_look 33 = .ok (.putfield 282, 3) := by decide +kernel
theorem dX12_look_36 : decode cX12_look 36 = .ok (.aload_n 0, 1) := by decide +kernel
theorem dX12_look_37 : decode cX12_look 37 = .ok (.aload_n 0, 1) := by decide +kernel
theorem dX12_look_38 : decode cX12_look 38 = .ok (.getfield 292, 3) := by decide +kernel
theorem dX12_look_41 : decode cX12_look 41 = .ok (.bipush 6, 2) := by decide +kernel
theorem dX12_look_43 : decode cX12_look 43 = .ok (.ishr, 1) := by decide +kernel
theorem dX12_look_44 : decode cX12_look 44 = .ok (.bipush 63, 2) := by decide +kernel
theorem dX12_look_46 : decode cX12_look 46 = .ok (.iand, 1) := by decide +kernel
theorem dX12_look_47 : decode cX12_look 47 = .ok (.putfield 289, 3) := by decide +kernel
theorem dX12_look_5 : decode cX12_look 5 = .ok (.invokevirtual 295, 3) := by decide +kernel
theorem dX12_look_50 : decode cX12_look 50 = .ok (.aload_n 0, 1) := by decide +kernel
theorem dX12_look_51 : decode cX12_look 51 = .ok (.invokevirtual 387, 3) := by decide +kernel
theorem dX12_look_54 : decode cX12_look 54 = .ok (.ifCond .ne 5, 3) := by decide +kernel
theorem dX12_look_57 : decode cX12_look 57 = .ok (.iconst 1, 1) := by decide +kernel
theorem dX12_look_58 : decode cX12_look 58 = .ok (.ireturn, 1) := by decide +kernel
theorem dX12_look_59 : decode cX12_look 59 = .ok (.aload_n 0, 1) := by decide +kernel
theorem dX12_look_60 : decode cX12_look 60 = .ok (.getfield 292, 3) := by decide +kernel
theorem dX12_look_63 : decode cX12_look 63 = .ok (.bipush 12, 2) := by decide +kernel
theorem dX12_look_65 : decode cX12_look 65 = .ok (.ishr, 1) := by decide +kernel
theorem dX12_look_66 : decode cX12_look 66 = .ok (.bipush 63, 2) := by decide +kernel
theorem dX12_look_68 : decode cX12_look 68 = .ok (.iand, 1) := by decide +kernel
theorem dX12_look_69 : decode cX12_look 69 = .ok (.istore_n 1, 1) := by decide +kernel
theorem dX12_look_70 : decode cX12_look 70 = .ok (.aload_n 0, 1) := by decide +kernel
theorem dX12_look_71 : decode cX12_look 71 = .ok (.getfield 292, 3) := by decide +kernel
theorem dX12_look_74 : decode cX12_look 74 = .ok (.ldc 159, 2) := by decide +kernel
theorem dX12_look_76 : decode cX12_look 76 = .ok (.iand, 1) := by decide +kernel
theorem dX12_look_77 : decode cX12_look 77 = .ok (.bipush 18, 2) := by decide +kernel
theorem dX12_look_79 : decode cX12_look 79 = .ok (.ishr, 1) := by decide +kernel
theorem dX12_look_8 : decode cX12_look 8 = .ok (.ifCond .ne 5, 3) := by decide +kernel
theorem dX12_look_80 : decode cX12_look 80 = .ok (.istore_n 2, 1) := by decide +kernel
theorem dX12_look_81 : decode cX12_look 81 = .ok (.aload_n 0, 1) := by decide +kernel
theorem dX12_look_82 : decode cX12_look 82 = .ok (.aload_n 0, 1) := by decide +kernel
theorem dX12_look_83 : decode cX12_look 83 = .ok (.getfield 292, 3) := by decide +kernel
theorem dX12_look_86 : decode cX12_look 86 = .ok (.ldc 158, 2) := by decide +kernel
theorem dX12_look_88 : decode cX12_look 88 = .ok (.iand, 1) := by decide +kernel
theorem dX12_look_89 : decode cX12_look 89 = .ok (.ifCond .ne 7, 3) := by decide +kernel
theorem dX12_look_92 : decode cX12_look 92 = .ok (.iload_n 2, 1) := by decide +kernel
theorem dX12_look_93 : decode cX12_look 93 = .ok (.goto 5, 3) := by decide +kernel
theorem dX12_look_96 : decode cX12_look 96 = .ok (.iload_n 2, 1) := by decide +kernel
theorem dX12_look_97 : decode cX12_look 97 = .ok (.ineg, 1) := by decide +kernel
theorem dX12_look_98 : decode cX12_look 98 = .ok (.iload_n 1, 1) := by decide +kernel
theorem dX12_look_99 : decode cX12_look 99 = .ok (.ifCond .ne 7, 3) := by decide +kernel
set_option maxHeartbeats 4000000 in
set_option maxRecDepth 100000 in
theorem T_X12_look (l : Launch) (D : va_G) (K : Nat → ClassId) (Z Y : Nat → Nat) (ad : Nat → Nat) (t : tSt) (hok : okM t)  : tMet l yX12_look cX12_look 3 (some .int) (rmD 10 0 0) D K Z Y [.ref (ad 0)] (WM K ad t) (QI D K (fun (r : Int32) (u : tSt) => okM u ∧ frA [(0, 15), (0, 16), (0, 17), (0, 18)] [] [] [] t u ∧ (0 : Int) ≤ r.toInt ∧ r.toInt ≤ 10 ∧ (r.toInt = 0 → gdA (u.1 0 16) (u.1 0 17) (u.1 0 18) (u.2.2.1 3)) ∧ (r.toInt = 0 → gdU (u.1 0 16) (u.1 0 17) (u.2.2.1 3) (u.2.2.1 9) (u.1 0 35) (u.1 0 36)) ∧ (r.toInt = 0 → (t.1 0 12).toInt = 1 → (u.2.1 0 8).toInt + (cO (u.1 0 16) (u.1 0 17) (u.2.2.2 4 ((u.1 0 17) : Int32).toNatClampNeg) (u.2.1 0 8)).toInt ≤ (t.2.1 0 13).toInt)) (fun (u : tSt) => WM K ad u)) 0 0 := by
  refine t_met RX12 ⟨rfl, by decide +kernel⟩ (Nat.le_of_ble_eq_true rfl) ?_
  intro p e s m below meth c A ls C hE hZ hr hlocks hA hP hD hS hl
  have hl : lv_has ls 3 [(0, .ref (ad 0))] := hl
  have hokt := hok
  have hfr : frA [(0, 15), (0, 16), (0, 17), (0, 18)] [] [] [] t t := frA_rf
  have h_1 : (0 : Int) ≤ (t.1 0 10).toInt ∧ (t.1 0 10).toInt ≤ 1 := hok.1 0 10
  have h_2 : (0 : Int) ≤ (t.1 0 12).toInt ∧ (t.1 0 12).toInt ≤ 1 := hok.1 0 12
  have h_3 : (0 : Int) ≤ (t.1 0 16).toInt ∧ (t.1 0 16).toInt ≤ 63 := hok.1 0 16
  have h_4 : (0 : Int) ≤ (t.1 0 17).toInt ∧ (t.1 0 17).toInt ≤ 63 := hok.1 0 17
  have h_5 : (0 : Int) ≤ (t.1 0 35).toInt ∧ (t.1 0 35).toInt ≤ 1700 := hok.1 0 35
  have h_6 : (0 : Int) ≤ (t.1 0 36).toInt ∧ (t.1 0 36).toInt ≤ 1700 := hok.1 0 36
  refine lv_aload_n C.1 C.2.1 dX12_look_0 rfl (lv_at hl 0 rfl) ?_
  refine lv_aload_n C.1 C.2.1 dX12_look_1 rfl (lv_at hl 0 rfl) ?_
  refine k_get (v := .int (t.1 0 7)) C hP 0 rfl rfl inlX12 7 (by decide) m_29_22 rfl dX12_look_2 ?_
  refine g_Vi (As := [.int (t.1 0 7)]) (rest := []) C hP hD hS hA (T_X12_isHere l D K Z Y ad t hok ((t.1 0 7))) hE hZ (uwV m_57_7 m_57_8 m_57_9 m_1_5 m_57_10) (hdV 1 (by decide +kernel) rfl) ⟨Nat.le_of_ble_eq_true rfl, Nat.le_of_ble_eq_true rfl⟩ rfl rfl (ci := 11) (q0 := 0) rfl rfl rfl hl.1 (Nat.le_of_ble_eq_true rfl) dX12_look_5 ⟨Nat.le_of_ble_eq_true rfl, Nat.le_of_ble_eq_true rfl⟩ (fun r_8 t_7 H locs hw hP hD hS => ?_)
  obtain ⟨h_10, h_11, p_12, p_13⟩ := hw
  replace p_12 : r_8.toInt = 1 → -3999 ≤ (t.1 0 7).toInt ∧ (t.1 0 7).toInt ≤ 3999 := p_12
  replace p_13 : r_8.toInt = 1 → (t.1 0 10).toInt = 0 → 0 ≤ (t.1 0 7).toInt := p_13
  refine lv_if_ne (tgt := 13) C.1 C.2.1 dX12_look_8 (by decide) (fun c_14 => ?_) (fun c_14 => ?_)
  · replace c_14 : ¬ r_8.toInt = 0 := i_ne c_14
    refine lv_aload_n C.1 C.2.1 dX12_look_13 rfl (lv_at hl 0 rfl) ?_
    refine lv_aload_n C.1 C.2.1 dX12_look_14 rfl (lv_at hl 0 rfl) ?_
    refine lv_aload_n C.1 C.2.1 dX12_look_15 rfl (lv_at hl 0 rfl) ?_
    refine k_get (v := .int (t.1 0 7)) C hP 0 rfl rfl inlX12 7 (by decide) m_29_22 rfl dX12_look_16 ?_
    refine g_Vi (As := [.int (t.1 0 7)]) (rest := [.ref (ad 0)]) C hP hD hS hA (T_X12_memoryAt l D K Z Y ad t hok ((t.1 0 7)) (show (-3999 : Int) ≤ ((t.1 0 7) : Int32).toInt ∧ ((t.1 0 7) : Int32).toInt ≤ 3999 from ⟨by omega, by omega⟩)) hE hZ (uwV m_38_19 m_38_20 m_38_21 m_1_5 m_38_22) (hdV 1 (by decide +kernel) rfl) ⟨Nat.le_of_ble_eq_true rfl, Nat.le_of_ble_eq_true rfl⟩ rfl rfl (ci := 11) (q0 := 0) rfl rfl rfl hl.1 (Nat.le_of_ble_eq_true rfl) dX12_look_19 ⟨Nat.le_of_ble_eq_true rfl, Nat.le_of_ble_eq_true rfl⟩ (fun r_16 t_15 H locs hw hP hD hS => ?_)
    obtain ⟨h_18, h_19⟩ := hw
    refine k_put (ws' := WM K ad (uI t 0 15 r_16)) (v := .int r_16) C hP hD hS 0 rfl rfl inlX12 tyX12_ok nmX12 15 (by decide) m_57_2 rfl rfl rfl rfl rfl dX12_look_22 (fun H locs hP hD hS => ?_)
    have hok : okM (uI t 0 15 r_16) := ⟨okI_I hok.1 0 15 r_16 (show (-2147483648 : Int) ≤ (r_16 : Int32).toInt ∧ (r_16 : Int32).toInt ≤ 2147483647 from (i_rng _)), hok.2.1, hok.2.2.1, hok.2.2.2.1, hok.2.2.2.2.1, hok.2.2.2.2.2.1, hok.2.2.2.2.2.2.1, trivial⟩
    have hfr : frA [(0, 15), (0, 16), (0, 17), (0, 18)] [] [] [] t (uI t 0 15 r_16) := frA_I hfr 0 15 _ rfl
    refine lv_aload_n C.1 C.2.1 dX12_look_25 rfl (lv_at hl 0 rfl) ?_
    refine lv_aload_n C.1 C.2.1 dX12_look_26 rfl (lv_at hl 0 rfl) ?_
    refine k_get (v := .int r_16) C hP 0 rfl rfl inlX12 15 (by decide) m_57_2 rfl dX12_look_27 ?_
    refine lv_bipush (v := 63) C.1 C.2.1 dX12_look_30 (by decide) ?_
    obtain ⟨v_20, e_21⟩ : ∃ z, z = (r_16 : Int32) &&& (63 : Int32) := ⟨_, rfl⟩
    have h_22 : v_20.toInt = r_16.toInt % 2 ^ 6 := by rw [e_21]; exact Jvm.Kit.i32_mask _ _ (k := 6) (by decide) (by decide)
    refine k_iand (v := v_20) C e_21.symm dX12_look_32 ?_
    refine k_put (ws' := WM K ad (uI (uI t 0 15 r_16) 0 16 v_20)) (v := .int v_20) C hP hD hS 0 rfl rfl inlX12 tyX12_ok nmX12 16 (by decide) m_57_3 rfl rfl rfl rfl rfl dX12_look_33 (fun H locs hP hD hS => ?_)
    have hok : okM (uI (uI t 0 15 r_16) 0 16 v_20) := ⟨okI_I hok.1 0 16 v_20 (show (0 : Int) ≤ (v_20 : Int32).toInt ∧ (v_20 : Int32).toInt ≤ 63 from ⟨by omega, by omega⟩), hok.2.1, hok.2.2.1, hok.2.2.2.1, hok.2.2.2.2.1, hok.2.2.2.2.2.1, hok.2.2.2.2.2.2.1, trivial⟩
    have hfr : frA [(0, 15), (0, 16), (0, 17), (0, 18)] [] [] [] t (uI (uI t 0 15 r_16) 0 16 v_20) := frA_I hfr 0 16 _ rfl
    refine lv_aload_n C.1 C.2.1 dX12_look_36 rfl (lv_at hl 0 rfl) ?_
    refine lv_aload_n C.1 C.2.1 dX12_look_37 rfl (lv_at hl 0 rfl) ?_
    refine k_get (v := .int r_16) C hP 0 rfl rfl inlX12 15 (by decide) m_57_2 rfl dX12_look_38 ?_
    refine lv_bipush (v := 6) C.1 C.2.1 dX12_look_41 (by decide) ?_
    obtain ⟨v_23, e_24⟩ : ∃ z, z = (r_16 : Int32) >>> ((6 : Int32) &&& 31) := ⟨_, rfl⟩
    have h_25 : v_23.toInt = r_16.toInt / 2 ^ 6 := by rw [e_24]; exact Jvm.Kit.i32_shr _ _ (k := 6) (by decide)
    refine k_ishr (v := v_23) C e_24.symm dX12_look_43 ?_
    refine lv_bipush (v := 63) C.1 C.2.1 dX12_look_44 (by decide) ?_
    obtain ⟨v_26, e_27⟩ : ∃ z, z = (v_23 : Int32) &&& (63 : Int32) := ⟨_, rfl⟩
    have h_28 : v_26.toInt = v_23.toInt % 2 ^ 6 := by rw [e_27]; exact Jvm.Kit.i32_mask _ _ (k := 6) (by decide) (by decide)
    refine k_iand (v := v_26) C e_27.symm dX12_look_46 ?_
    refine k_put (ws' := WM K ad (uI (uI (uI t 0 15 r_16) 0 16 v_20) 0 17 v_26)) (v := .int v_26) C hP hD hS 0 rfl rfl inlX12 tyX12_ok nmX12 17 (by decide) m_57_4 rfl rfl rfl rfl rfl dX12_look_47 (fun H locs hP hD hS => ?_)
    have hok : okM (uI (uI (uI t 0 15 r_16) 0 16 v_20) 0 17 v_26) := ⟨okI_I hok.1 0 17 v_26 (show (0 : Int) ≤ (v_26 : Int32).toInt ∧ (v_26 : Int32).toInt ≤ 63 from ⟨by omega, by omega⟩), hok.2.1, hok.2.2.1, hok.2.2.2.1, hok.2.2.2.2.1, hok.2.2.2.2.2.1, hok.2.2.2.2.2.2.1, trivial⟩
    have hfr : frA [(0, 15), (0, 16), (0, 17), (0, 18)] [] [] [] t (uI (uI (uI t 0 15 r_16) 0 16 v_20) 0 17 v_26) := frA_I hfr 0 17 _ rfl
    refine lv_aload_n C.1 C.2.1 dX12_look_50 rfl (lv_at hl 0 rfl) ?_
    refine g_Vi (As := []) (rest := []) C hP hD hS hA (T_X12_isOperation l D K Z Y ad (uI (uI (uI t 0 15 r_16) 0 16 v_20) 0 17 v_26) hok ) hE hZ (uwV m_57_11 m_57_12 m_57_13 m_1_5 m_57_14) (hdV 0 (by decide +kernel) rfl) ⟨Nat.le_of_ble_eq_true rfl, Nat.le_of_ble_eq_true rfl⟩ rfl rfl (ci := 11) (q0 := 0) rfl rfl rfl hl.1 (Nat.le_of_ble_eq_true rfl) dX12_look_51 ⟨Nat.le_of_ble_eq_true rfl, Nat.le_of_ble_eq_true rfl⟩ (fun r_30 t_29 H locs hw hP hD hS => ?_)
    obtain ⟨h_32, h_33, p_34⟩ := hw
    replace p_34 : r_30.toInt = 1 → r_16.toInt / 4096 % 64 ≤ 6 := p_34
    refine lv_if_ne (tgt := 59) C.1 C.2.1 dX12_look_54 (by decide) (fun c_35 => ?_) (fun c_35 => ?_)
    · replace c_35 : ¬ r_30.toInt = 0 := i_ne c_35
      refine lv_aload_n C.1 C.2.1 dX12_look_59 rfl (lv_at hl 0 rfl) ?_
      refine k_get (v := .int r_16) C hP 0 rfl rfl inlX12 15 (by decide) m_57_2 rfl dX12_look_60 ?_
      refine lv_bipush (v := 12) C.1 C.2.1 dX12_look_63 (by decide) ?_
      obtain ⟨v_36, e_37⟩ : ∃ z, z = (r_16 : Int32) >>> ((12 : Int32) &&& 31) := ⟨_, rfl⟩
      have h_38 : v_36.toInt = r_16.toInt / 2 ^ 12 := by rw [e_37]; exact Jvm.Kit.i32_shr _ _ (k := 12) (by decide)
      refine k_ishr (v := v_36) C e_37.symm dX12_look_65 ?_
      refine lv_bipush (v := 63) C.1 C.2.1 dX12_look_66 (by decide) ?_
      obtain ⟨v_39, e_40⟩ : ∃ z, z = (v_36 : Int32) &&& (63 : Int32) := ⟨_, rfl⟩
      have h_41 : v_39.toInt = v_36.toInt % 2 ^ 6 := by rw [e_40]; exact Jvm.Kit.i32_mask _ _ (k := 6) (by decide) (by decide)
      refine k_iand (v := v_39) C e_40.symm dX12_look_68 ?_
      refine lv_istore_n (lv' := [(1, .int v_39), (0, .ref (ad 0))]) C.1 C.2.1 dX12_look_69 rfl hl (by decide) rfl (fun ls hl => ?_)
      have hl : lv_has ls 3 [(0, .ref (ad 0)), (1, .int v_39)] := lv_sub hl [1, 0] rfl
      refine lv_aload_n C.1 C.2.1 dX12_look_70 rfl (lv_at hl 0 rfl) ?_
      refine k_get (v := .int r_16) C hP 0 rfl rfl inlX12 15 (by decide) m_57_2 rfl dX12_look_71 ?_
      refine lv_ldc (v := 1073741823) C.1 C.2.1 C.2.2.2.1 (C.2.2.2.2.1 _ m_36_12) dX12_look_74 ?_
      obtain ⟨v_42, e_43⟩ : ∃ z, z = (r_16 : Int32) &&& (1073741823 : Int32) := ⟨_, rfl⟩
      have h_44 : v_42.toInt = r_16.toInt % 2 ^ 30 := by rw [e_43]; exact Jvm.Kit.i32_mask _ _ (k := 30) (by decide) (by decide)
      refine k_iand (v := v_42) C e_43.symm dX12_look_76 ?_
      refine lv_bipush (v := 18) C.1 C.2.1 dX12_look_77 (by decide) ?_
      obtain ⟨v_45, e_46⟩ : ∃ z, z = (v_42 : Int32) >>> ((18 : Int32) &&& 31) := ⟨_, rfl⟩
      have h_47 : v_45.toInt = v_42.toInt / 2 ^ 18 := by rw [e_46]; exact Jvm.Kit.i32_shr _ _ (k := 18) (by decide)
      refine k_ishr (v := v_45) C e_46.symm dX12_look_79 ?_
      refine lv_istore_n (lv' := [(2, .int v_45), (0, .ref (ad 0)), (1, .int v_39)]) C.1 C.2.1 dX12_look_80 rfl hl (by decide) rfl (fun ls hl => ?_)
      have hl : lv_has ls 3 [(0, .ref (ad 0)), (1, .int v_39), (2, .int v_45)] := lv_sub hl [1, 2, 0] rfl
      refine lv_aload_n C.1 C.2.1 dX12_look_81 rfl (lv_at hl 0 rfl) ?_
      refine lv_aload_n C.1 C.2.1 dX12_look_82 rfl (lv_at hl 0 rfl) ?_
      refine k_get (v := .int r_16) C hP 0 rfl rfl inlX12 15 (by decide) m_57_2 rfl dX12_look_83 ?_
      refine lv_ldc (v := 1073741824) C.1 C.2.1 C.2.2.2.1 (C.2.2.2.2.1 _ m_34_19) dX12_look_86 ?_
      obtain ⟨v_48, e_49⟩ : ∃ z, z = (r_16 : Int32) &&& (1073741824 : Int32) := ⟨_, rfl⟩
      have h_50 : (0 : Int) ≤ v_48.toInt ∧ v_48.toInt ≤ 1073741824 := by rw [e_49]; exact z_and _ (k := 1073741824) (by decide) (by decide)
      refine k_iand (v := v_48) C e_49.symm dX12_look_88 ?_
      refine lv_if_ne (tgt := 96) C.1 C.2.1 dX12_look_89 (by decide) (fun c_51 => ?_) (fun c_51 => ?_)
      · replace c_51 : ¬ v_48.toInt = 0 := i_ne c_51
        refine lv_iload_n C.1 C.2.1 dX12_look_96 rfl (lv_at hl 2 rfl) ?_
        obtain ⟨v_52, e_53⟩ : ∃ z, z = -(v_45 : Int32) := ⟨_, rfl⟩
        have h_54 : v_52.toInt = -v_45.toInt := by rw [e_53]; exact Jvm.Kit.i32_neg (by show ¬ v_45.toInt = (_ : Int); omega)
        refine k_ineg (v := v_52) C e_53.symm dX12_look_97 ?_
        refine lv_iload_n C.1 C.2.1 dX12_look_98 rfl (lv_at hl 1 rfl) ?_
        refine lv_if_ne (tgt := 106) C.1 C.2.1 dX12_look_99 (by decide) (fun c_55 => ?_) (fun c_55 => ?_)
        · replace c_55 : ¬ v_39.toInt = 0 := i_ne c_55
          refine lv_aload_n C.1 C.2.1 dX12_look_106 rfl (lv_at hl 0 rfl) ?_
          refine k_get (v := .ref (ad 3)) C hP 0 rfl rfl inlX12 4 (by decide) m_7_6 rfl dX12_look_107 ?_
          refine lv_iload_n C.1 C.2.1 dX12_look_110 rfl (lv_at hl 1 rfl) ?_
          refine k_ild (v := (t.2.2.1 3 (v_39 : Int32).toNatClampNeg)) C hP 3 rfl (vp_in_iff.mpr ⟨by omega, by omega⟩) rfl dX12_look_111 ?_
          refine g_Si (As := [.int (t.2.2.1 3 (v_39 : Int32).toNatClampNeg)]) (rest := [.int v_52, .ref (ad 0)]) C hP hD hS hA (T_X12_value l D K Z Y ad (uI (uI (uI t 0 15 r_16) 0 16 v_20) 0 17 v_26) hok ((t.2.2.1 3 (v_39 : Int32).toNatClampNeg))) hE hZ (uwS m_36_9 m_36_10 m_1_5 m_36_11) (hdS 1 (by decide +kernel) rfl) ⟨Nat.le_of_ble_eq_true rfl, Nat.le_of_ble_eq_true rfl⟩ rfl rfl rfl hl.1 (Nat.le_of_ble_eq_true rfl) dX12_look_112 ⟨Nat.le_of_ble_eq_true rfl, Nat.le_of_ble_eq_true rfl⟩ (fun r_57 t_56 H locs hw hP hD hS => ?_)
          obtain ⟨h_59, h_60, p_61⟩ := hw
          replace p_61 : r_57.toInt = (vO (t.2.2.1 3 (v_39 : Int32).toNatClampNeg)).toInt := p_61
          obtain ⟨v_62, e_63⟩ : ∃ z, z = (v_52 : Int32) + (r_57 : Int32) := ⟨_, rfl⟩
          refine k_iadd (v := v_62) C e_63.symm dX12_look_115 ?_
          refine k_put (ws' := WM K ad (uI (uI (uI (uI t 0 15 r_16) 0 16 v_20) 0 17 v_26) 0 18 v_62)) (v := .int v_62) C hP hD hS 0 rfl rfl inlX12 tyX12_ok nmX12 18 (by decide) m_57_5 rfl rfl rfl rfl rfl dX12_look_116 (fun H locs hP hD hS => ?_)
          have hok : okM (uI (uI (uI (uI t 0 15 r_16) 0 16 v_20) 0 17 v_26) 0 18 v_62) := ⟨okI_I hok.1 0 18 v_62 (show (-2147483648 : Int) ≤ (v_62 : Int32).toInt ∧ (v_62 : Int32).toInt ≤ 2147483647 from (i_rng _)), hok.2.1, hok.2.2.1, hok.2.2.2.1, hok.2.2.2.2.1, hok.2.2.2.2.2.1, hok.2.2.2.2.2.2.1, trivial⟩
          have hfr : frA [(0, 15), (0, 16), (0, 17), (0, 18)] [] [] [] t (uI (uI (uI (uI t 0 15 r_16) 0 16 v_20) 0 17 v_26) 0 18 v_62) := frA_I hfr 0 18 _ rfl
          refine lv_aload_n C.1 C.2.1 dX12_look_119 rfl (lv_at hl 0 rfl) ?_
          have h_65 : (0 : Int) ≤ (t.1 0 11).toInt ∧ (t.1 0 11).toInt ≤ 1 := hok.1 0 11
          refine k_get (v := .int (t.1 0 11)) C hP 0 rfl rfl inlX12 11 (by decide) m_30_1 rfl dX12_look_120 ?_
          refine lv_if_eq (tgt := 154) C.1 C.2.1 dX12_look_123 (by decide) (fun c_66 => ?_) (fun c_66 => ?_)
          · replace c_66 : (t.1 0 11).toInt = 0 := i_eq c_66
            refine lv_aload_n C.1 C.2.1 dX12_look_154 rfl (lv_at hl 0 rfl) ?_
            refine k_get (v := .int (t.1 0 12)) C hP 0 rfl rfl inlX12 12 (by decide) m_30_2 rfl dX12_look_155 ?_
            refine lv_if_eq (tgt := 183) C.1 C.2.1 dX12_look_158 (by decide) (fun c_67 => ?_) (fun c_67 => ?_)
            · replace c_67 : (t.1 0 12).toInt = 0 := i_eq c_67
              refine lv_aload_n C.1 C.2.1 dX12_look_183 rfl (lv_at hl 0 rfl) ?_
              refine g_Vi (As := []) (rest := []) C hP hD hS hA (T_X12_fault l D K Z Y ad (uI (uI (uI (uI t 0 15 r_16) 0 16 v_20) 0 17 v_26) 0 18 v_62) hok ) hE hZ (uwV m_57_21 m_57_22 m_57_23 m_1_5 m_58_0) (hdV 0 (by decide +kernel) rfl) ⟨Nat.le_of_ble_eq_true rfl, Nat.le_of_ble_eq_true rfl⟩ rfl rfl (ci := 11) (q0 := 0) rfl rfl rfl hl.1 (Nat.le_of_ble_eq_true rfl) dX12_look_184 ⟨Nat.le_of_ble_eq_true rfl, Nat.le_of_ble_eq_true rfl⟩ (fun r_69 t_68 H locs hw hP hD hS => ?_)
              obtain ⟨h_71, h_72, p_73, p_74⟩ := hw
              replace p_73 : r_69.toInt = 0 → gdA v_20 v_26 v_62 (t.2.2.1 3) := p_73
              replace p_74 : r_69.toInt = 0 → gdU v_20 v_26 (t.2.2.1 3) (t.2.2.1 9) (t.1 0 35) (t.1 0 36) := p_74
              have hgA := p_73
              have hgU := p_74
              exact g_iret C hr hlocks hP hD hS rfl (uI (uI (uI (uI t 0 15 r_16) 0 16 v_20) 0 17 v_26) 0 18 v_62) rfl ⟨hok, hfr, by omega, by omega, (show r_69.toInt = 0 → gdA v_20 v_26 v_62 (t.2.2.1 3) from by first | exact fun h0 => hgA (by omega) | (intro h0; exfalso; omega)), (show r_69.toInt = 0 → gdU v_20 v_26 (t.2.2.1 3) (t.2.2.1 9) (t.1 0 35) (t.1 0 36) from by first | exact fun h0 => hgU (by omega) | (intro h0; exfalso; omega)), (show r_69.toInt = 0 → (t.1 0 12).toInt = 1 → (t.2.1 0 8).toInt + (cO v_20 v_26 (t.2.2.2 4 (v_26 : Int32).toNatClampNeg) (t.2.1 0 8)).toInt ≤ (t.2.1 0 13).toInt from by omega)⟩ (Nat.le_of_ble_eq_true rfl) (Nat.le_of_ble_eq_true rfl) dX12_look_187
            · replace c_67 : ¬ (t.1 0 12).toInt = 0 := i_ne c_67
              have hj0 : (-2147483648 ≤ (t.2.1 0 13).toInt ∧ (t.2.1 0 13).toInt ≤ 2147483647) ∧ ((t.1 0 12).toInt = 1 → 0 ≤ (t.2.1 0 8).toInt ∧ ((t.2.1 0 8).toInt ≤ (t.2.1 0 13).toInt ∨ (t.2.1 0 8).toInt = 0)) := jM_n hok.2.2.2.2.2.2.1
              refine lv_aload_n C.1 C.2.1 dX12_look_161 rfl (lv_at hl 0 rfl) ?_
              refine k_get (v := .long (t.2.1 0 8)) C hP 0 rfl rfl inlX12 8 (by decide) m_29_23 rfl dX12_look_162 ?_
              refine lv_aload_n C.1 C.2.1 dX12_look_165 rfl (lv_at hl 0 rfl) ?_
              refine g_Vl (As := []) (rest := [.long (t.2.1 0 8)]) C hP hD hS hA (T_X12_cost l D K Z Y ad (uI (uI (uI (uI t 0 15 r_16) 0 16 v_20) 0 17 v_26) 0 18 v_62) hok ) hE hZ (uwV m_57_15 m_57_16 m_57_17 m_1_5 m_57_18) (hdV 0 (by decide +kernel) rfl) ⟨Nat.le_of_ble_eq_true rfl, Nat.le_of_ble_eq_true rfl⟩ rfl rfl (ci := 11) (q0 := 0) rfl rfl rfl hl.1 (Nat.le_of_ble_eq_true rfl) dX12_look_166 ⟨Nat.le_of_ble_eq_true rfl, Nat.le_of_ble_eq_true rfl⟩ (fun r_76 t_75 H locs hw hP hD hS => ?_)
              obtain ⟨p_78, p_79, p_80⟩ := hw
              replace p_78 : r_76.toInt = (cO v_20 v_26 (t.2.2.2 4 (v_26 : Int32).toNatClampNeg) (t.2.1 0 8)).toInt := p_78
              replace p_79 : (t.1 0 12).toInt = 1 → 1 ≤ r_76.toInt ∧ r_76.toInt ≤ 2147490000 := p_79
              replace p_80 : (t.1 0 12).toInt = 1 → 35 ≤ v_20.toInt → v_20.toInt ≤ 37 → v_26.toInt ≤ 19 → (t.2.2.2 4 (v_26 : Int32).toNatClampNeg).toInt + 1 ≤ (t.2.1 0 8).toInt + r_76.toInt := p_80
              obtain ⟨v_81, e_82⟩ : ∃ z, z = ((t.2.1 0 8) : Int64) + (r_76 : Int64) := ⟨_, rfl⟩
              have h_83 : -9223372036854775808 ≤ (t.2.1 0 8).toInt + r_76.toInt → (t.2.1 0 8).toInt + r_76.toInt < 9223372036854775808 → v_81.toInt = (t.2.1 0 8).toInt + r_76.toInt := by rw [e_82]; exact fun h1 h2 => Jvm.Kit.i64_add h1 h2
              refine k_ladd (v := v_81) C e_82.symm dX12_look_169 ?_
              refine lv_aload_n C.1 C.2.1 dX12_look_170 rfl (lv_at hl 0 rfl) ?_
              refine k_get (v := .long (t.2.1 0 13)) C hP 0 rfl rfl inlX12 13 (by decide) m_57_6 rfl dX12_look_171 ?_
              obtain ⟨v_84, e_85⟩ : ∃ z, z = lg_cmp (v_81 : Int64) (t.2.1 0 13) := ⟨_, rfl⟩
              have h_86 : (-1 : Int) ≤ v_84.toInt ∧ v_84.toInt ≤ 1 := by rw [e_85]; exact cmp_rng _ _
              have h_87 : (v_84.toInt < 0 ↔ v_81.toInt < (t.2.1 0 13).toInt) ∧ (v_84.toInt = 0 ↔ v_81.toInt = (t.2.1 0 13).toInt) := by rw [e_85]; exact cmp_iff _ _
              refine k_lcmp (v := v_84) C e_85.symm dX12_look_174 ?_
              refine lv_if_le (tgt := 183) C.1 C.2.1 dX12_look_175 (by decide) (fun c_88 => ?_) (fun c_88 => ?_)
              · replace c_88 : v_84.toInt ≤ 0 := i_le c_88
                refine lv_aload_n C.1 C.2.1 dX12_look_183 rfl (lv_at hl 0 rfl) ?_
                refine g_Vi (As := []) (rest := []) C hP hD hS hA (T_X12_fault l D K Z Y ad (uI (uI (uI (uI t 0 15 r_16) 0 16 v_20) 0 17 v_26) 0 18 v_62) hok ) hE hZ (uwV m_57_21 m_57_22 m_57_23 m_1_5 m_58_0) (hdV 0 (by decide +kernel) rfl) ⟨Nat.le_of_ble_eq_true rfl, Nat.le_of_ble_eq_true rfl⟩ rfl rfl (ci := 11) (q0 := 0) rfl rfl rfl hl.1 (Nat.le_of_ble_eq_true rfl) dX12_look_184 ⟨Nat.le_of_ble_eq_true rfl, Nat.le_of_ble_eq_true rfl⟩ (fun r_90 t_89 H locs hw hP hD hS => ?_)
                obtain ⟨h_92, h_93, p_94, p_95⟩ := hw
                replace p_94 : r_90.toInt = 0 → gdA v_20 v_26 v_62 (t.2.2.1 3) := p_94
                replace p_95 : r_90.toInt = 0 → gdU v_20 v_26 (t.2.2.1 3) (t.2.2.1 9) (t.1 0 35) (t.1 0 36) := p_95
                have hgA := p_94
                have hgU := p_95
                exact g_iret C hr hlocks hP hD hS rfl (uI (uI (uI (uI t 0 15 r_16) 0 16 v_20) 0 17 v_26) 0 18 v_62) rfl ⟨hok, hfr, by omega, by omega, (show r_90.toInt = 0 → gdA v_20 v_26 v_62 (t.2.2.1 3) from by first | exact fun h0 => hgA (by omega) | (intro h0; exfalso; omega)), (show r_90.toInt = 0 → gdU v_20 v_26 (t.2.2.1 3) (t.2.2.1 9) (t.1 0 35) (t.1 0 36) from by first | exact fun h0 => hgU (by omega) | (intro h0; exfalso; omega)), (show r_90.toInt = 0 → (t.1 0 12).toInt = 1 → (t.2.1 0 8).toInt + (cO v_20 v_26 (t.2.2.2 4 (v_26 : Int32).toNatClampNeg) (t.2.1 0 8)).toInt ≤ (t.2.1 0 13).toInt from by omega)⟩ (Nat.le_of_ble_eq_true rfl) (Nat.le_of_ble_eq_true rfl) dX12_look_187
              · replace c_88 : 0 < v_84.toInt := i_nle c_88
                refine lv_bipush (v := 10) C.1 C.2.1 dX12_look_178 (by decide) ?_
                refine lv_goto (tgt := 187) C.1 C.2.1 dX12_look_180 (by decide) ?_
                exact g_iret C hr hlocks hP hD hS rfl (uI (uI (uI (uI t 0 15 r_16) 0 16 v_20) 0 17 v_26) 0 18 v_62) rfl ⟨hok, hfr, by decide, by decide, (show 10 = 0 → gdA v_20 v_26 v_62 (t.2.2.1 3) from by first | exact fun h0 => hgA (by omega) | (intro h0; exfalso; omega)), (show 10 = 0 → gdU v_20 v_26 (t.2.2.1 3) (t.2.2.1 9) (t.1 0 35) (t.1 0 36) from by first | exact fun h0 => hgU (by omega) | (intro h0; exfalso; omega)), (show 10 = 0 → (t.1 0 12).toInt = 1 → (t.2.1 0 8).toInt + (cO v_20 v_26 (t.2.2.2 4 (v_26 : Int32).toNatClampNeg) (t.2.1 0 8)).toInt ≤ (t.2.1 0 13).toInt from by omega)⟩ (Nat.le_of_ble_eq_true rfl) (Nat.le_of_ble_eq_true rfl) dX12_look_187
          · replace c_66 : ¬ (t.1 0 11).toInt = 0 := i_ne c_66
            refine lv_aload_n C.1 C.2.1 dX12_look_126 rfl (lv_at hl 0 rfl) ?_
            refine k_get (v := .int (t.1 0 10)) C hP 0 rfl rfl inlX12 10 (by decide) m_30_0 rfl dX12_look_127 ?_
            refine lv_if_ne (tgt := 154) C.1 C.2.1 dX12_look_130 (by decide) (fun c_96 => ?_) (fun c_96 => ?_)
            · replace c_96 : ¬ (t.1 0 10).toInt = 0 := i_ne c_96
              refine lv_aload_n C.1 C.2.1 dX12_look_154 rfl (lv_at hl 0 rfl) ?_
              refine k_get (v := .int (t.1 0 12)) C hP 0 rfl rfl inlX12 12 (by decide) m_30_2 rfl dX12_look_155 ?_
              refine lv_if_eq (tgt := 183) C.1 C.2.1 dX12_look_158 (by decide) (fun c_97 => ?_) (fun c_97 => ?_)
              · replace c_97 : (t.1 0 12).toInt = 0 := i_eq c_97
                refine lv_aload_n C.1 C.2.1 dX12_look_183 rfl (lv_at hl 0 rfl) ?_
                refine g_Vi (As := []) (rest := []) C hP hD hS hA (T_X12_fault l D K Z Y ad (uI (uI (uI (uI t 0 15 r_16) 0 16 v_20) 0 17 v_26) 0 18 v_62) hok ) hE hZ (uwV m_57_21 m_57_22 m_57_23 m_1_5 m_58_0) (hdV 0 (by decide +kernel) rfl) ⟨Nat.le_of_ble_eq_true rfl, Nat.le_of_ble_eq_true rfl⟩ rfl rfl (ci := 11) (q0 := 0) rfl rfl rfl hl.1 (Nat.le_of_ble_eq_true rfl) dX12_look_184 ⟨Nat.le_of_ble_eq_true rfl, Nat.le_of_ble_eq_true rfl⟩ (fun r_99 t_98 H locs hw hP hD hS => ?_)
                obtain ⟨h_101, h_102, p_103, p_104⟩ := hw
                replace p_103 : r_99.toInt = 0 → gdA v_20 v_26 v_62 (t.2.2.1 3) := p_103
                replace p_104 : r_99.toInt = 0 → gdU v_20 v_26 (t.2.2.1 3) (t.2.2.1 9) (t.1 0 35) (t.1 0 36) := p_104
                have hgA := p_103
                have hgU := p_104
                exact g_iret C hr hlocks hP hD hS rfl (uI (uI (uI (uI t 0 15 r_16) 0 16 v_20) 0 17 v_26) 0 18 v_62) rfl ⟨hok, hfr, by omega, by omega, (show r_99.toInt = 0 → gdA v_20 v_26 v_62 (t.2.2.1 3) from by first | exact fun h0 => hgA (by omega) | (intro h0; exfalso; omega)), (show r_99.toInt = 0 → gdU v_20 v_26 (t.2.2.1 3) (t.2.2.1 9) (t.1 0 35) (t.1 0 36) from by first | exact fun h0 => hgU (by omega) | (intro h0; exfalso; omega)), (show r_99.toInt = 0 → (t.1 0 12).toInt = 1 → (t.2.1 0 8).toInt + (cO v_20 v_26 (t.2.2.2 4 (v_26 : Int32).toNatClampNeg) (t.2.1 0 8)).toInt ≤ (t.2.1 0 13).toInt from by omega)⟩ (Nat.le_of_ble_eq_true rfl) (Nat.le_of_ble_eq_true rfl) dX12_look_187
              · replace c_97 : ¬ (t.1 0 12).toInt = 0 := i_ne c_97
                have hj0 : (-2147483648 ≤ (t.2.1 0 13).toInt ∧ (t.2.1 0 13).toInt ≤ 2147483647) ∧ ((t.1 0 12).toInt = 1 → 0 ≤ (t.2.1 0 8).toInt ∧ ((t.2.1 0 8).toInt ≤ (t.2.1 0 13).toInt ∨ (t.2.1 0 8).toInt = 0)) := jM_n hok.2.2.2.2.2.2.1
                refine lv_aload_n C.1 C.2.1 dX12_look_161 rfl (lv_at hl 0 rfl) ?_
                refine k_get (v := .long (t.2.1 0 8)) C hP 0 rfl rfl inlX12 8 (by decide) m_29_23 rfl dX12_look_162 ?_
                refine lv_aload_n C.1 C.2.1 dX12_look_165 rfl (lv_at hl 0 rfl) ?_
                refine g_Vl (As := []) (rest := [.long (t.2.1 0 8)]) C hP hD hS hA (T_X12_cost l D K Z Y ad (uI (uI (uI (uI t 0 15 r_16) 0 16 v_20) 0 17 v_26) 0 18 v_62) hok ) hE hZ (uwV m_57_15 m_57_16 m_57_17 m_1_5 m_57_18) (hdV 0 (by decide +kernel) rfl) ⟨Nat.le_of_ble_eq_true rfl, Nat.le_of_ble_eq_true rfl⟩ rfl rfl (ci := 11) (q0 := 0) rfl rfl rfl hl.1 (Nat.le_of_ble_eq_true rfl) dX12_look_166 ⟨Nat.le_of_ble_eq_true rfl, Nat.le_of_ble_eq_true rfl⟩ (fun r_106 t_105 H locs hw hP hD hS => ?_)
                obtain ⟨p_108, p_109, p_110⟩ := hw
                replace p_108 : r_106.toInt = (cO v_20 v_26 (t.2.2.2 4 (v_26 : Int32).toNatClampNeg) (t.2.1 0 8)).toInt := p_108
                replace p_109 : (t.1 0 12).toInt = 1 → 1 ≤ r_106.toInt ∧ r_106.toInt ≤ 2147490000 := p_109
                replace p_110 : (t.1 0 12).toInt = 1 → 35 ≤ v_20.toInt → v_20.toInt ≤ 37 → v_26.toInt ≤ 19 → (t.2.2.2 4 (v_26 : Int32).toNatClampNeg).toInt + 1 ≤ (t.2.1 0 8).toInt + r_106.toInt := p_110
                obtain ⟨v_111, e_112⟩ : ∃ z, z = ((t.2.1 0 8) : Int64) + (r_106 : Int64) := ⟨_, rfl⟩
                have h_113 : -9223372036854775808 ≤ (t.2.1 0 8).toInt + r_106.toInt → (t.2.1 0 8).toInt + r_106.toInt < 9223372036854775808 → v_111.toInt = (t.2.1 0 8).toInt + r_106.toInt := by rw [e_112]; exact fun h1 h2 => Jvm.Kit.i64_add h1 h2
                refine k_ladd (v := v_111) C e_112.symm dX12_look_169 ?_
                refine lv_aload_n C.1 C.2.1 dX12_look_170 rfl (lv_at hl 0 rfl) ?_
                refine k_get (v := .long (t.2.1 0 13)) C hP 0 rfl rfl inlX12 13 (by decide) m_57_6 rfl dX12_look_171 ?_
                obtain ⟨v_114, e_115⟩ : ∃ z, z = lg_cmp (v_111 : Int64) (t.2.1 0 13) := ⟨_, rfl⟩
                have h_116 : (-1 : Int) ≤ v_114.toInt ∧ v_114.toInt ≤ 1 := by rw [e_115]; exact cmp_rng _ _
                have h_117 : (v_114.toInt < 0 ↔ v_111.toInt < (t.2.1 0 13).toInt) ∧ (v_114.toInt = 0 ↔ v_111.toInt = (t.2.1 0 13).toInt) := by rw [e_115]; exact cmp_iff _ _
                refine k_lcmp (v := v_114) C e_115.symm dX12_look_174 ?_
                refine lv_if_le (tgt := 183) C.1 C.2.1 dX12_look_175 (by decide) (fun c_118 => ?_) (fun c_118 => ?_)
                · replace c_118 : v_114.toInt ≤ 0 := i_le c_118
                  refine lv_aload_n C.1 C.2.1 dX12_look_183 rfl (lv_at hl 0 rfl) ?_
                  refine g_Vi (As := []) (rest := []) C hP hD hS hA (T_X12_fault l D K Z Y ad (uI (uI (uI (uI t 0 15 r_16) 0 16 v_20) 0 17 v_26) 0 18 v_62) hok ) hE hZ (uwV m_57_21 m_57_22 m_57_23 m_1_5 m_58_0) (hdV 0 (by decide +kernel) rfl) ⟨Nat.le_of_ble_eq_true rfl, Nat.le_of_ble_eq_true rfl⟩ rfl rfl (ci := 11) (q0 := 0) rfl rfl rfl hl.1 (Nat.le_of_ble_eq_true rfl) dX12_look_184 ⟨Nat.le_of_ble_eq_true rfl, Nat.le_of_ble_eq_true rfl⟩ (fun r_120 t_119 H locs hw hP hD hS => ?_)
                  obtain ⟨h_122, h_123, p_124, p_125⟩ := hw
                  replace p_124 : r_120.toInt = 0 → gdA v_20 v_26 v_62 (t.2.2.1 3) := p_124
                  replace p_125 : r_120.toInt = 0 → gdU v_20 v_26 (t.2.2.1 3) (t.2.2.1 9) (t.1 0 35) (t.1 0 36) := p_125
                  have hgA := p_124
                  have hgU := p_125
                  exact g_iret C hr hlocks hP hD hS rfl (uI (uI (uI (uI t 0 15 r_16) 0 16 v_20) 0 17 v_26) 0 18 v_62) rfl ⟨hok, hfr, by omega, by omega, (show r_120.toInt = 0 → gdA v_20 v_26 v_62 (t.2.2.1 3) from by first | exact fun h0 => hgA (by omega) | (intro h0; exfalso; omega)), (show r_120.toInt = 0 → gdU v_20 v_26 (t.2.2.1 3) (t.2.2.1 9) (t.1 0 35) (t.1 0 36) from by first | exact fun h0 => hgU (by omega) | (intro h0; exfalso; omega)), (show r_120.toInt = 0 → (t.1 0 12).toInt = 1 → (t.2.1 0 8).toInt + (cO v_20 v_26 (t.2.2.2 4 (v_26 : Int32).toNatClampNeg) (t.2.1 0 8)).toInt ≤ (t.2.1 0 13).toInt from by omega)⟩ (Nat.le_of_ble_eq_true rfl) (Nat.le_of_ble_eq_true rfl) dX12_look_187
                · replace c_118 : 0 < v_114.toInt := i_nle c_118
                  refine lv_bipush (v := 10) C.1 C.2.1 dX12_look_178 (by decide) ?_
                  refine lv_goto (tgt := 187) C.1 C.2.1 dX12_look_180 (by decide) ?_
                  exact g_iret C hr hlocks hP hD hS rfl (uI (uI (uI (uI t 0 15 r_16) 0 16 v_20) 0 17 v_26) 0 18 v_62) rfl ⟨hok, hfr, by decide, by decide, (show 10 = 0 → gdA v_20 v_26 v_62 (t.2.2.1 3) from by first | exact fun h0 => hgA (by omega) | (intro h0; exfalso; omega)), (show 10 = 0 → gdU v_20 v_26 (t.2.2.1 3) (t.2.2.1 9) (t.1 0 35) (t.1 0 36) from by first | exact fun h0 => hgU (by omega) | (intro h0; exfalso; omega)), (show 10 = 0 → (t.1 0 12).toInt = 1 → (t.2.1 0 8).toInt + (cO v_20 v_26 (t.2.2.2 4 (v_26 : Int32).toNatClampNeg) (t.2.1 0 8)).toInt ≤ (t.2.1 0 13).toInt from by omega)⟩ (Nat.le_of_ble_eq_true rfl) (Nat.le_of_ble_eq_true rfl) dX12_look_187
            · replace c_96 : (t.1 0 10).toInt = 0 := i_eq c_96
              refine lv_aload_n C.1 C.2.1 dX12_look_133 rfl (lv_at hl 0 rfl) ?_
              refine g_Vl (As := []) (rest := []) C hP hD hS hA (T_X12_cost l D K Z Y ad (uI (uI (uI (uI t 0 15 r_16) 0 16 v_20) 0 17 v_26) 0 18 v_62) hok ) hE hZ (uwV m_57_15 m_57_16 m_57_17 m_1_5 m_57_18) (hdV 0 (by decide +kernel) rfl) ⟨Nat.le_of_ble_eq_true rfl, Nat.le_of_ble_eq_true rfl⟩ rfl rfl (ci := 11) (q0 := 0) rfl rfl rfl hl.1 (Nat.le_of_ble_eq_true rfl) dX12_look_134 ⟨Nat.le_of_ble_eq_true rfl, Nat.le_of_ble_eq_true rfl⟩ (fun r_127 t_126 H locs hw hP hD hS => ?_)
              obtain ⟨p_129, p_130, p_131⟩ := hw
              replace p_129 : r_127.toInt = (cO v_20 v_26 (t.2.2.2 4 (v_26 : Int32).toNatClampNeg) (t.2.1 0 8)).toInt := p_129
              replace p_130 : (t.1 0 12).toInt = 1 → 1 ≤ r_127.toInt ∧ r_127.toInt ≤ 2147490000 := p_130
              replace p_131 : (t.1 0 12).toInt = 1 → 35 ≤ v_20.toInt → v_20.toInt ≤ 37 → v_26.toInt ≤ 19 → (t.2.2.2 4 (v_26 : Int32).toNatClampNeg).toInt + 1 ≤ (t.2.1 0 8).toInt + r_127.toInt := p_131
              refine lv_aload_n C.1 C.2.1 dX12_look_137 rfl (lv_at hl 0 rfl) ?_
              refine lv_bipush (v := (-10)) C.1 C.2.1 dX12_look_138 (by decide) ?_
              refine g_Vi (As := [.int (-10)]) (rest := [.long r_127]) C hP hD hS hA (T_X12_memoryAt l D K Z Y ad (uI (uI (uI (uI t 0 15 r_16) 0 16 v_20) 0 17 v_26) 0 18 v_62) hok (-10) (show (-3999 : Int) ≤ ((-10) : Int32).toInt ∧ ((-10) : Int32).toInt ≤ 3999 from ⟨by decide, by decide⟩)) hE hZ (uwV m_38_19 m_38_20 m_38_21 m_1_5 m_38_22) (hdV 1 (by decide +kernel) rfl) ⟨Nat.le_of_ble_eq_true rfl, Nat.le_of_ble_eq_true rfl⟩ rfl rfl (ci := 11) (q0 := 0) rfl rfl rfl hl.1 (Nat.le_of_ble_eq_true rfl) dX12_look_140 ⟨Nat.le_of_ble_eq_true rfl, Nat.le_of_ble_eq_true rfl⟩ (fun r_133 t_132 H locs hw hP hD hS => ?_)
              obtain ⟨h_135, h_136⟩ := hw
              refine g_Si (As := [.int r_133]) (rest := [.long r_127]) C hP hD hS hA (T_X12_value l D K Z Y ad (uI (uI (uI (uI t 0 15 r_16) 0 16 v_20) 0 17 v_26) 0 18 v_62) hok (r_133)) hE hZ (uwS m_36_9 m_36_10 m_1_5 m_36_11) (hdS 1 (by decide +kernel) rfl) ⟨Nat.le_of_ble_eq_true rfl, Nat.le_of_ble_eq_true rfl⟩ rfl rfl rfl hl.1 (Nat.le_of_ble_eq_true rfl) dX12_look_143 ⟨Nat.le_of_ble_eq_true rfl, Nat.le_of_ble_eq_true rfl⟩ (fun r_138 t_137 H locs hw hP hD hS => ?_)
              obtain ⟨h_140, h_141, p_142⟩ := hw
              replace p_142 : r_138.toInt = (vO r_133).toInt := p_142
              obtain ⟨v_143, e_144⟩ : ∃ z, z = (r_138 : Int32).toInt64 := ⟨_, rfl⟩
              have h_145 : v_143.toInt = r_138.toInt := by rw [e_144]; exact Jvm.Kit.i64_of_i32 _
              have h_146 := i_rng r_138
              refine lv_i2l (v := v_143) C.1 C.2.1 dX12_look_146 e_144.symm ?_
              obtain ⟨v_147, e_148⟩ : ∃ z, z = lg_cmp (r_127 : Int64) v_143 := ⟨_, rfl⟩
              have h_149 : (-1 : Int) ≤ v_147.toInt ∧ v_147.toInt ≤ 1 := by rw [e_148]; exact cmp_rng _ _
              have h_150 : (v_147.toInt < 0 ↔ r_127.toInt < v_143.toInt) ∧ (v_147.toInt = 0 ↔ r_127.toInt = v_143.toInt) := by rw [e_148]; exact cmp_iff _ _
              refine k_lcmp (v := v_147) C e_148.symm dX12_look_147 ?_
              refine lv_if_le (tgt := 154) C.1 C.2.1 dX12_look_148 (by decide) (fun c_151 => ?_) (fun c_151 => ?_)
              · replace c_151 : v_147.toInt ≤ 0 := i_le c_151
                refine lv_aload_n C.1 C.2.1 dX12_look_154 rfl (lv_at hl 0 rfl) ?_
                refine k_get (v := .int (t.1 0 12)) C hP 0 rfl rfl inlX12 12 (by decide) m_30_2 rfl dX12_look_155 ?_
                refine lv_if_eq (tgt := 183) C.1 C.2.1 dX12_look_158 (by decide) (fun c_152 => ?_) (fun c_152 => ?_)
                · replace c_152 : (t.1 0 12).toInt = 0 := i_eq c_152
                  refine lv_aload_n C.1 C.2.1 dX12_look_183 rfl (lv_at hl 0 rfl) ?_
                  refine g_Vi (As := []) (rest := []) C hP hD hS hA (T_X12_fault l D K Z Y ad (uI (uI (uI (uI t 0 15 r_16) 0 16 v_20) 0 17 v_26) 0 18 v_62) hok ) hE hZ (uwV m_57_21 m_57_22 m_57_23 m_1_5 m_58_0) (hdV 0 (by decide +kernel) rfl) ⟨Nat.le_of_ble_eq_true rfl, Nat.le_of_ble_eq_true rfl⟩ rfl rfl (ci := 11) (q0 := 0) rfl rfl rfl hl.1 (Nat.le_of_ble_eq_true rfl) dX12_look_184 ⟨Nat.le_of_ble_eq_true rfl, Nat.le_of_ble_eq_true rfl⟩ (fun r_154 t_153 H locs hw hP hD hS => ?_)
                  obtain ⟨h_156, h_157, p_158, p_159⟩ := hw
                  replace p_158 : r_154.toInt = 0 → gdA v_20 v_26 v_62 (t.2.2.1 3) := p_158
                  replace p_159 : r_154.toInt = 0 → gdU v_20 v_26 (t.2.2.1 3) (t.2.2.1 9) (t.1 0 35) (t.1 0 36) := p_159
                  have hgA := p_158
                  have hgU := p_159
                  exact g_iret C hr hlocks hP hD hS rfl (uI (uI (uI (uI t 0 15 r_16) 0 16 v_20) 0 17 v_26) 0 18 v_62) rfl ⟨hok, hfr, by omega, by omega, (show r_154.toInt = 0 → gdA v_20 v_26 v_62 (t.2.2.1 3) from by first | exact fun h0 => hgA (by omega) | (intro h0; exfalso; omega)), (show r_154.toInt = 0 → gdU v_20 v_26 (t.2.2.1 3) (t.2.2.1 9) (t.1 0 35) (t.1 0 36) from by first | exact fun h0 => hgU (by omega) | (intro h0; exfalso; omega)), (show r_154.toInt = 0 → (t.1 0 12).toInt = 1 → (t.2.1 0 8).toInt + (cO v_20 v_26 (t.2.2.2 4 (v_26 : Int32).toNatClampNeg) (t.2.1 0 8)).toInt ≤ (t.2.1 0 13).toInt from by omega)⟩ (Nat.le_of_ble_eq_true rfl) (Nat.le_of_ble_eq_true rfl) dX12_look_187
                · replace c_152 : ¬ (t.1 0 12).toInt = 0 := i_ne c_152
                  have hj0 : (-2147483648 ≤ (t.2.1 0 13).toInt ∧ (t.2.1 0 13).toInt ≤ 2147483647) ∧ ((t.1 0 12).toInt = 1 → 0 ≤ (t.2.1 0 8).toInt ∧ ((t.2.1 0 8).toInt ≤ (t.2.1 0 13).toInt ∨ (t.2.1 0 8).toInt = 0)) := jM_n hok.2.2.2.2.2.2.1
                  refine lv_aload_n C.1 C.2.1 dX12_look_161 rfl (lv_at hl 0 rfl) ?_
                  refine k_get (v := .long (t.2.1 0 8)) C hP 0 rfl rfl inlX12 8 (by decide) m_29_23 rfl dX12_look_162 ?_
                  refine lv_aload_n C.1 C.2.1 dX12_look_165 rfl (lv_at hl 0 rfl) ?_
                  refine g_Vl (As := []) (rest := [.long (t.2.1 0 8)]) C hP hD hS hA (T_X12_cost l D K Z Y ad (uI (uI (uI (uI t 0 15 r_16) 0 16 v_20) 0 17 v_26) 0 18 v_62) hok ) hE hZ (uwV m_57_15 m_57_16 m_57_17 m_1_5 m_57_18) (hdV 0 (by decide +kernel) rfl) ⟨Nat.le_of_ble_eq_true rfl, Nat.le_of_ble_eq_true rfl⟩ rfl rfl (ci := 11) (q0 := 0) rfl rfl rfl hl.1 (Nat.le_of_ble_eq_true rfl) dX12_look_166 ⟨Nat.le_of_ble_eq_true rfl, Nat.le_of_ble_eq_true rfl⟩ (fun r_161 t_160 H locs hw hP hD hS => ?_)
                  obtain ⟨p_163, p_164, p_165⟩ := hw
                  replace p_163 : r_161.toInt = (cO v_20 v_26 (t.2.2.2 4 (v_26 : Int32).toNatClampNeg) (t.2.1 0 8)).toInt := p_163
                  replace p_164 : (t.1 0 12).toInt = 1 → 1 ≤ r_161.toInt ∧ r_161.toInt ≤ 2147490000 := p_164
                  replace p_165 : (t.1 0 12).toInt = 1 → 35 ≤ v_20.toInt → v_20.toInt ≤ 37 → v_26.toInt ≤ 19 → (t.2.2.2 4 (v_26 : Int32).toNatClampNeg).toInt + 1 ≤ (t.2.1 0 8).toInt + r_161.toInt := p_165
                  obtain ⟨v_166, e_167⟩ : ∃ z, z = ((t.2.1 0 8) : Int64) + (r_161 : Int64) := ⟨_, rfl⟩
                  have h_168 : -9223372036854775808 ≤ (t.2.1 0 8).toInt + r_161.toInt → (t.2.1 0 8).toInt + r_161.toInt < 9223372036854775808 → v_166.toInt = (t.2.1 0 8).toInt + r_161.toInt := by rw [e_167]; exact fun h1 h2 => Jvm.Kit.i64_add h1 h2
                  refine k_ladd (v := v_166) C e_167.symm dX12_look_169 ?_
                  refine lv_aload_n C.1 C.2.1 dX12_look_170 rfl (lv_at hl 0 rfl) ?_
                  refine k_get (v := .long (t.2.1 0 13)) C hP 0 rfl rfl inlX12 13 (by decide) m_57_6 rfl dX12_look_171 ?_
                  obtain ⟨v_169, e_170⟩ : ∃ z, z = lg_cmp (v_166 : Int64) (t.2.1 0 13) := ⟨_, rfl⟩
                  have h_171 : (-1 : Int) ≤ v_169.toInt ∧ v_169.toInt ≤ 1 := by rw [e_170]; exact cmp_rng _ _
                  have h_172 : (v_169.toInt < 0 ↔ v_166.toInt < (t.2.1 0 13).toInt) ∧ (v_169.toInt = 0 ↔ v_166.toInt = (t.2.1 0 13).toInt) := by rw [e_170]; exact cmp_iff _ _
                  refine k_lcmp (v := v_169) C e_170.symm dX12_look_174 ?_
                  refine lv_if_le (tgt := 183) C.1 C.2.1 dX12_look_175 (by decide) (fun c_173 => ?_) (fun c_173 => ?_)
                  · replace c_173 : v_169.toInt ≤ 0 := i_le c_173
                    refine lv_aload_n C.1 C.2.1 dX12_look_183 rfl (lv_at hl 0 rfl) ?_
                    refine g_Vi (As := []) (rest := []) C hP hD hS hA (T_X12_fault l D K Z Y ad (uI (uI (uI (uI t 0 15 r_16) 0 16 v_20) 0 17 v_26) 0 18 v_62) hok ) hE hZ (uwV m_57_21 m_57_22 m_57_23 m_1_5 m_58_0) (hdV 0 (by decide +kernel) rfl) ⟨Nat.le_of_ble_eq_true rfl, Nat.le_of_ble_eq_true rfl⟩ rfl rfl (ci := 11) (q0 := 0) rfl rfl rfl hl.1 (Nat.le_of_ble_eq_true rfl) dX12_look_184 ⟨Nat.le_of_ble_eq_true rfl, Nat.le_of_ble_eq_true rfl⟩ (fun r_175 t_174 H locs hw hP hD hS => ?_)
                    obtain ⟨h_177, h_178, p_179, p_180⟩ := hw
                    replace p_179 : r_175.toInt = 0 → gdA v_20 v_26 v_62 (t.2.2.1 3) := p_179
                    replace p_180 : r_175.toInt = 0 → gdU v_20 v_26 (t.2.2.1 3) (t.2.2.1 9) (t.1 0 35) (t.1 0 36) := p_180
                    have hgA := p_179
                    have hgU := p_180
                    exact g_iret C hr hlocks hP hD hS rfl (uI (uI (uI (uI t 0 15 r_16) 0 16 v_20) 0 17 v_26) 0 18 v_62) rfl ⟨hok, hfr, by omega, by omega, (show r_175.toInt = 0 → gdA v_20 v_26 v_62 (t.2.2.1 3) from by first | exact fun h0 => hgA (by omega) | (intro h0; exfalso; omega)), (show r_175.toInt = 0 → gdU v_20 v_26 (t.2.2.1 3) (t.2.2.1 9) (t.1 0 35) (t.1 0 36) from by first | exact fun h0 => hgU (by omega) | (intro h0; exfalso; omega)), (show r_175.toInt = 0 → (t.1 0 12).toInt = 1 → (t.2.1 0 8).toInt + (cO v_20 v_26 (t.2.2.2 4 (v_26 : Int32).toNatClampNeg) (t.2.1 0 8)).toInt ≤ (t.2.1 0 13).toInt from by omega)⟩ (Nat.le_of_ble_eq_true rfl) (Nat.le_of_ble_eq_true rfl) dX12_look_187
                  · replace c_173 : 0 < v_169.toInt := i_nle c_173
                    refine lv_bipush (v := 10) C.1 C.2.1 dX12_look_178 (by decide) ?_
                    refine lv_goto (tgt := 187) C.1 C.2.1 dX12_look_180 (by decide) ?_
                    exact g_iret C hr hlocks hP hD hS rfl (uI (uI (uI (uI t 0 15 r_16) 0 16 v_20) 0 17 v_26) 0 18 v_62) rfl ⟨hok, hfr, by decide, by decide, (show 10 = 0 → gdA v_20 v_26 v_62 (t.2.2.1 3) from by first | exact fun h0 => hgA (by omega) | (intro h0; exfalso; omega)), (show 10 = 0 → gdU v_20 v_26 (t.2.2.1 3) (t.2.2.1 9) (t.1 0 35) (t.1 0 36) from by first | exact fun h0 => hgU (by omega) | (intro h0; exfalso; omega)), (show 10 = 0 → (t.1 0 12).toInt = 1 → (t.2.1 0 8).toInt + (cO v_20 v_26 (t.2.2.2 4 (v_26 : Int32).toNatClampNeg) (t.2.1 0 8)).toInt ≤ (t.2.1 0 13).toInt from by omega)⟩ (Nat.le_of_ble_eq_true rfl) (Nat.le_of_ble_eq_true rfl) dX12_look_187
              · replace c_151 : 0 < v_147.toInt := i_nle c_151
                refine lv_bipush (v := 9) C.1 C.2.1 dX12_look_151 (by decide) ?_
                exact g_iret C hr hlocks hP hD hS rfl (uI (uI (uI (uI t 0 15 r_16) 0 16 v_20) 0 17 v_26) 0 18 v_62) rfl ⟨hok, hfr, by decide, by decide, (show 9 = 0 → gdA v_20 v_26 v_62 (t.2.2.1 3) from by first | exact fun h0 => hgA (by omega) | (intro h0; exfalso; omega)), (show 9 = 0 → gdU v_20 v_26 (t.2.2.1 3) (t.2.2.1 9) (t.1 0 35) (t.1 0 36) from by first | exact fun h0 => hgU (by omega) | (intro h0; exfalso; omega)), (show 9 = 0 → (t.1 0 12).toInt = 1 → (t.2.1 0 8).toInt + (cO v_20 v_26 (t.2.2.2 4 (v_26 : Int32).toNatClampNeg) (t.2.1 0 8)).toInt ≤ (t.2.1 0 13).toInt from by omega)⟩ (Nat.le_of_ble_eq_true rfl) (Nat.le_of_ble_eq_true rfl) dX12_look_153
        · replace c_55 : v_39.toInt = 0 := i_eq c_55
          refine lv_iconst (v := 0) C.1 C.2.1 dX12_look_102 (by decide) ?_
          refine lv_goto (tgt := 115) C.1 C.2.1 dX12_look_103 (by decide) ?_
          obtain ⟨v_181, e_182⟩ : ∃ z, z = (v_52 : Int32) + (0 : Int32) := ⟨_, rfl⟩
          have h_183 : v_181.toInt = v_52.toInt + 0 := by rw [e_182]; exact ti_iadd (by show (_ : Int) ≤ v_52.toInt + 0; omega) (by show v_52.toInt + 0 < (_ : Int); omega)
          refine k_iadd (v := v_181) C e_182.symm dX12_look_115 ?_
          refine k_put (ws' := WM K ad (uI (uI (uI (uI t 0 15 r_16) 0 16 v_20) 0 17 v_26) 0 18 v_181)) (v := .int v_181) C hP hD hS 0 rfl rfl inlX12 tyX12_ok nmX12 18 (by decide) m_57_5 rfl rfl rfl rfl rfl dX12_look_116 (fun H locs hP hD hS => ?_)
          have hok : okM (uI (uI (uI (uI t 0 15 r_16) 0 16 v_20) 0 17 v_26) 0 18 v_181) := ⟨okI_I hok.1 0 18 v_181 (show (-2147483648 : Int) ≤ (v_181 : Int32).toInt ∧ (v_181 : Int32).toInt ≤ 2147483647 from (i_rng _)), hok.2.1, hok.2.2.1, hok.2.2.2.1, hok.2.2.2.2.1, hok.2.2.2.2.2.1, hok.2.2.2.2.2.2.1, trivial⟩
          have hfr : frA [(0, 15), (0, 16), (0, 17), (0, 18)] [] [] [] t (uI (uI (uI (uI t 0 15 r_16) 0 16 v_20) 0 17 v_26) 0 18 v_181) := frA_I hfr 0 18 _ rfl
          refine lv_aload_n C.1 C.2.1 dX12_look_119 rfl (lv_at hl 0 rfl) ?_
          have h_184 : (0 : Int) ≤ (t.1 0 11).toInt ∧ (t.1 0 11).toInt ≤ 1 := hok.1 0 11
          refine k_get (v := .int (t.1 0 11)) C hP 0 rfl rfl inlX12 11 (by decide) m_30_1 rfl dX12_look_120 ?_
          refine lv_if_eq (tgt := 154) C.1 C.2.1 dX12_look_123 (by decide) (fun c_185 => ?_) (fun c_185 => ?_)
          · replace c_185 : (t.1 0 11).toInt = 0 := i_eq c_185
            refine lv_aload_n C.1 C.2.1 dX12_look_154 rfl (lv_at hl 0 rfl) ?_
            refine k_get (v := .int (t.1 0 12)) C hP 0 rfl rfl inlX12 12 (by decide) m_30_2 rfl dX12_look_155 ?_
            refine lv_if_eq (tgt := 183) C.1 C.2.1 dX12_look_158 (by decide) (fun c_186 => ?_) (fun c_186 => ?_)
            · replace c_186 : (t.1 0 12).toInt = 0 := i_eq c_186
              refine lv_aload_n C.1 C.2.1 dX12_look_183 rfl (lv_at hl 0 rfl) ?_
              refine g_Vi (As := []) (rest := []) C hP hD hS hA (T_X12_fault l D K Z Y ad (uI (uI (uI (uI t 0 15 r_16) 0 16 v_20) 0 17 v_26) 0 18 v_181) hok ) hE hZ (uwV m_57_21 m_57_22 m_57_23 m_1_5 m_58_0) (hdV 0 (by decide +kernel) rfl) ⟨Nat.le_of_ble_eq_true rfl, Nat.le_of_ble_eq_true rfl⟩ rfl rfl (ci := 11) (q0 := 0) rfl rfl rfl hl.1 (Nat.le_of_ble_eq_true rfl) dX12_look_184 ⟨Nat.le_of_ble_eq_true rfl, Nat.le_of_ble_eq_true rfl⟩ (fun r_188 t_187 H locs hw hP hD hS => ?_)
              obtain ⟨h_190, h_191, p_192, p_193⟩ := hw
              replace p_192 : r_188.toInt = 0 → gdA v_20 v_26 v_181 (t.2.2.1 3) := p_192
              replace p_193 : r_188.toInt = 0 → gdU v_20 v_26 (t.2.2.1 3) (t.2.2.1 9) (t.1 0 35) (t.1 0 36) := p_193
              have hgA := p_192
              have hgU := p_193
              exact g_iret C hr hlocks hP hD hS rfl (uI (uI (uI (uI t 0 15 r_16) 0 16 v_20) 0 17 v_26) 0 18 v_181) rfl ⟨hok, hfr, by omega, by omega, (show r_188.toInt = 0 → gdA v_20 v_26 v_181 (t.2.2.1 3) from by first | exact fun h0 => hgA (by omega) | (intro h0; exfalso; omega)), (show r_188.toInt = 0 → gdU v_20 v_26 (t.2.2.1 3) (t.2.2.1 9) (t.1 0 35) (t.1 0 36) from by first | exact fun h0 => hgU (by omega) | (intro h0; exfalso; omega)), (show r_188.toInt = 0 → (t.1 0 12).toInt = 1 → (t.2.1 0 8).toInt + (cO v_20 v_26 (t.2.2.2 4 (v_26 : Int32).toNatClampNeg) (t.2.1 0 8)).toInt ≤ (t.2.1 0 13).toInt from by omega)⟩ (Nat.le_of_ble_eq_true rfl) (Nat.le_of_ble_eq_true rfl) dX12_look_187
            · replace c_186 : ¬ (t.1 0 12).toInt = 0 := i_ne c_186
              have hj0 : (-2147483648 ≤ (t.2.1 0 13).toInt ∧ (t.2.1 0 13).toInt ≤ 2147483647) ∧ ((t.1 0 12).toInt = 1 → 0 ≤ (t.2.1 0 8).toInt ∧ ((t.2.1 0 8).toInt ≤ (t.2.1 0 13).toInt ∨ (t.2.1 0 8).toInt = 0)) := jM_n hok.2.2.2.2.2.2.1
              refine lv_aload_n C.1 C.2.1 dX12_look_161 rfl (lv_at hl 0 rfl) ?_
              refine k_get (v := .long (t.2.1 0 8)) C hP 0 rfl rfl inlX12 8 (by decide) m_29_23 rfl dX12_look_162 ?_
              refine lv_aload_n C.1 C.2.1 dX12_look_165 rfl (lv_at hl 0 rfl) ?_
              refine g_Vl (As := []) (rest := [.long (t.2.1 0 8)]) C hP hD hS hA (T_X12_cost l D K Z Y ad (uI (uI (uI (uI t 0 15 r_16) 0 16 v_20) 0 17 v_26) 0 18 v_181) hok ) hE hZ (uwV m_57_15 m_57_16 m_57_17 m_1_5 m_57_18) (hdV 0 (by decide +kernel) rfl) ⟨Nat.le_of_ble_eq_true rfl, Nat.le_of_ble_eq_true rfl⟩ rfl rfl (ci := 11) (q0 := 0) rfl rfl rfl hl.1 (Nat.le_of_ble_eq_true rfl) dX12_look_166 ⟨Nat.le_of_ble_eq_true rfl, Nat.le_of_ble_eq_true rfl⟩ (fun r_195 t_194 H locs hw hP hD hS => ?_)
              obtain ⟨p_197, p_198, p_199⟩ := hw
              replace p_197 : r_195.toInt = (cO v_20 v_26 (t.2.2.2 4 (v_26 : Int32).toNatClampNeg) (t.2.1 0 8)).toInt := p_197
              replace p_198 : (t.1 0 12).toInt = 1 → 1 ≤ r_195.toInt ∧ r_195.toInt ≤ 2147490000 := p_198
              replace p_199 : (t.1 0 12).toInt = 1 → 35 ≤ v_20.toInt → v_20.toInt ≤ 37 → v_26.toInt ≤ 19 → (t.2.2.2 4 (v_26 : Int32).toNatClampNeg).toInt + 1 ≤ (t.2.1 0 8).toInt + r_195.toInt := p_199
              obtain ⟨v_200, e_201⟩ : ∃ z, z = ((t.2.1 0 8) : Int64) + (r_195 : Int64) := ⟨_, rfl⟩
              have h_202 : -9223372036854775808 ≤ (t.2.1 0 8).toInt + r_195.toInt → (t.2.1 0 8).toInt + r_195.toInt < 9223372036854775808 → v_200.toInt = (t.2.1 0 8).toInt + r_195.toInt := by rw [e_201]; exact fun h1 h2 => Jvm.Kit.i64_add h1 h2
              refine k_ladd (v := v_200) C e_201.symm dX12_look_169 ?_
              refine lv_aload_n C.1 C.2.1 dX12_look_170 rfl (lv_at hl 0 rfl) ?_
              refine k_get (v := .long (t.2.1 0 13)) C hP 0 rfl rfl inlX12 13 (by decide) m_57_6 rfl dX12_look_171 ?_
              obtain ⟨v_203, e_204⟩ : ∃ z, z = lg_cmp (v_200 : Int64) (t.2.1 0 13) := ⟨_, rfl⟩
              have h_205 : (-1 : Int) ≤ v_203.toInt ∧ v_203.toInt ≤ 1 := by rw [e_204]; exact cmp_rng _ _
              have h_206 : (v_203.toInt < 0 ↔ v_200.toInt < (t.2.1 0 13).toInt) ∧ (v_203.toInt = 0 ↔ v_200.toInt = (t.2.1 0 13).toInt) := by rw [e_204]; exact cmp_iff _ _
              refine k_lcmp (v := v_203) C e_204.symm dX12_look_174 ?_
              refine lv_if_le (tgt := 183) C.1 C.2.1 dX12_look_175 (by decide) (fun c_207 => ?_) (fun c_207 => ?_)
              · replace c_207 : v_203.toInt ≤ 0 := i_le c_207
                refine lv_aload_n C.1 C.2.1 dX12_look_183 rfl (lv_at hl 0 rfl) ?_
                refine g_Vi (As := []) (rest := []) C hP hD hS hA (T_X12_fault l D K Z Y ad (uI (uI (uI (uI t 0 15 r_16) 0 16 v_20) 0 17 v_26) 0 18 v_181) hok ) hE hZ (uwV m_57_21 m_57_22 m_57_23 m_1_5 m_58_0) (hdV 0 (by decide +kernel) rfl) ⟨Nat.le_of_ble_eq_true rfl, Nat.le_of_ble_eq_true rfl⟩ rfl rfl (ci := 11) (q0 := 0) rfl rfl rfl hl.1 (Nat.le_of_ble_eq_true rfl) dX12_look_184 ⟨Nat.le_of_ble_eq_true rfl, Nat.le_of_ble_eq_true rfl⟩ (fun r_209 t_208 H locs hw hP hD hS => ?_)
                obtain ⟨h_211, h_212, p_213, p_214⟩ := hw
                replace p_213 : r_209.toInt = 0 → gdA v_20 v_26 v_181 (t.2.2.1 3) := p_213
                replace p_214 : r_209.toInt = 0 → gdU v_20 v_26 (t.2.2.1 3) (t.2.2.1 9) (t.1 0 35) (t.1 0 36) := p_214
                have hgA := p_213
                have hgU := p_214
                exact g_iret C hr hlocks hP hD hS rfl (uI (uI (uI (uI t 0 15 r_16) 0 16 v_20) 0 17 v_26) 0 18 v_181) rfl ⟨hok, hfr, by omega, by omega, (show r_209.toInt = 0 → gdA v_20 v_26 v_181 (t.2.2.1 3) from by first | exact fun h0 => hgA (by omega) | (intro h0; exfalso; omega)), (show r_209.toInt = 0 → gdU v_20 v_26 (t.2.2.1 3) (t.2.2.1 9) (t.1 0 35) (t.1 0 36) from by first | exact fun h0 => hgU (by omega) | (intro h0; exfalso; omega)), (show r_209.toInt = 0 → (t.1 0 12).toInt = 1 → (t.2.1 0 8).toInt + (cO v_20 v_26 (t.2.2.2 4 (v_26 : Int32).toNatClampNeg) (t.2.1 0 8)).toInt ≤ (t.2.1 0 13).toInt from by omega)⟩ (Nat.le_of_ble_eq_true rfl) (Nat.le_of_ble_eq_true rfl) dX12_look_187
              · replace c_207 : 0 < v_203.toInt := i_nle c_207
                refine lv_bipush (v := 10) C.1 C.2.1 dX12_look_178 (by decide) ?_
                refine lv_goto (tgt := 187) C.1 C.2.1 dX12_look_180 (by decide) ?_
                exact g_iret C hr hlocks hP hD hS rfl (uI (uI (uI (uI t 0 15 r_16) 0 16 v_20) 0 17 v_26) 0 18 v_181) rfl ⟨hok, hfr, by decide, by decide, (show 10 = 0 → gdA v_20 v_26 v_181 (t.2.2.1 3) from by first | exact fun h0 => hgA (by omega) | (intro h0; exfalso; omega)), (show 10 = 0 → gdU v_20 v_26 (t.2.2.1 3) (t.2.2.1 9) (t.1 0 35) (t.1 0 36) from by first | exact fun h0 => hgU (by omega) | (intro h0; exfalso; omega)), (show 10 = 0 → (t.1 0 12).toInt = 1 → (t.2.1 0 8).toInt + (cO v_20 v_26 (t.2.2.2 4 (v_26 : Int32).toNatClampNeg) (t.2.1 0 8)).toInt ≤ (t.2.1 0 13).toInt from by omega)⟩ (Nat.le_of_ble_eq_true rfl) (Nat.le_of_ble_eq_true rfl) dX12_look_187
          · replace c_185 : ¬ (t.1 0 11).toInt = 0 := i_ne c_185
            refine lv_aload_n C.1 C.2.1 dX12_look_126 rfl (lv_at hl 0 rfl) ?_
            refine k_get (v := .int (t.1 0 10)) C hP 0 rfl rfl inlX12 10 (by decide) m_30_0 rfl dX12_look_127 ?_
            refine lv_if_ne (tgt := 154) C.1 C.2.1 dX12_look_130 (by decide) (fun c_215 => ?_) (fun c_215 => ?_)
            · replace c_215 : ¬ (t.1 0 10).toInt = 0 := i_ne c_215
              refine lv_aload_n C.1 C.2.1 dX12_look_154 rfl (lv_at hl 0 rfl) ?_
              refine k_get (v := .int (t.1 0 12)) C hP 0 rfl rfl inlX12 12 (by decide) m_30_2 rfl dX12_look_155 ?_
              refine lv_if_eq (tgt := 183) C.1 C.2.1 dX12_look_158 (by decide) (fun c_216 => ?_) (fun c_216 => ?_)
              · replace c_216 : (t.1 0 12).toInt = 0 := i_eq c_216
                refine lv_aload_n C.1 C.2.1 dX12_look_183 rfl (lv_at hl 0 rfl) ?_
                refine g_Vi (As := []) (rest := []) C hP hD hS hA (T_X12_fault l D K Z Y ad (uI (uI (uI (uI t 0 15 r_16) 0 16 v_20) 0 17 v_26) 0 18 v_181) hok ) hE hZ (uwV m_57_21 m_57_22 m_57_23 m_1_5 m_58_0) (hdV 0 (by decide +kernel) rfl) ⟨Nat.le_of_ble_eq_true rfl, Nat.le_of_ble_eq_true rfl⟩ rfl rfl (ci := 11) (q0 := 0) rfl rfl rfl hl.1 (Nat.le_of_ble_eq_true rfl) dX12_look_184 ⟨Nat.le_of_ble_eq_true rfl, Nat.le_of_ble_eq_true rfl⟩ (fun r_218 t_217 H locs hw hP hD hS => ?_)
                obtain ⟨h_220, h_221, p_222, p_223⟩ := hw
                replace p_222 : r_218.toInt = 0 → gdA v_20 v_26 v_181 (t.2.2.1 3) := p_222
                replace p_223 : r_218.toInt = 0 → gdU v_20 v_26 (t.2.2.1 3) (t.2.2.1 9) (t.1 0 35) (t.1 0 36) := p_223
                have hgA := p_222
                have hgU := p_223
                exact g_iret C hr hlocks hP hD hS rfl (uI (uI (uI (uI t 0 15 r_16) 0 16 v_20) 0 17 v_26) 0 18 v_181) rfl ⟨hok, hfr, by omega, by omega, (show r_218.toInt = 0 → gdA v_20 v_26 v_181 (t.2.2.1 3) from by first | exact fun h0 => hgA (by omega) | (intro h0; exfalso; omega)), (show r_218.toInt = 0 → gdU v_20 v_26 (t.2.2.1 3) (t.2.2.1 9) (t.1 0 35) (t.1 0 36) from by first | exact fun h0 => hgU (by omega) | (intro h0; exfalso; omega)), (show r_218.toInt = 0 → (t.1 0 12).toInt = 1 → (t.2.1 0 8).toInt + (cO v_20 v_26 (t.2.2.2 4 (v_26 : Int32).toNatClampNeg) (t.2.1 0 8)).toInt ≤ (t.2.1 0 13).toInt from by omega)⟩ (Nat.le_of_ble_eq_true rfl) (Nat.le_of_ble_eq_true rfl) dX12_look_187
              · replace c_216 : ¬ (t.1 0 12).toInt = 0 := i_ne c_216
                have hj0 : (-2147483648 ≤ (t.2.1 0 13).toInt ∧ (t.2.1 0 13).toInt ≤ 2147483647) ∧ ((t.1 0 12).toInt = 1 → 0 ≤ (t.2.1 0 8).toInt ∧ ((t.2.1 0 8).toInt ≤ (t.2.1 0 13).toInt ∨ (t.2.1 0 8).toInt = 0)) := jM_n hok.2.2.2.2.2.2.1
                refine lv_aload_n C.1 C.2.1 dX12_look_161 rfl (lv_at hl 0 rfl) ?_
                refine k_get (v := .long (t.2.1 0 8)) C hP 0 rfl rfl inlX12 8 (by decide) m_29_23 rfl dX12_look_162 ?_
                refine lv_aload_n C.1 C.2.1 dX12_look_165 rfl (lv_at hl 0 rfl) ?_
                refine g_Vl (As := []) (rest := [.long (t.2.1 0 8)]) C hP hD hS hA (T_X12_cost l D K Z Y ad (uI (uI (uI (uI t 0 15 r_16) 0 16 v_20) 0 17 v_26) 0 18 v_181) hok ) hE hZ (uwV m_57_15 m_57_16 m_57_17 m_1_5 m_57_18) (hdV 0 (by decide +kernel) rfl) ⟨Nat.le_of_ble_eq_true rfl, Nat.le_of_ble_eq_true rfl⟩ rfl rfl (ci := 11) (q0 := 0) rfl rfl rfl hl.1 (Nat.le_of_ble_eq_true rfl) dX12_look_166 ⟨Nat.le_of_ble_eq_true rfl, Nat.le_of_ble_eq_true rfl⟩ (fun r_225 t_224 H locs hw hP hD hS => ?_)
                obtain ⟨p_227, p_228, p_229⟩ := hw
                replace p_227 : r_225.toInt = (cO v_20 v_26 (t.2.2.2 4 (v_26 : Int32).toNatClampNeg) (t.2.1 0 8)).toInt := p_227
                replace p_228 : (t.1 0 12).toInt = 1 → 1 ≤ r_225.toInt ∧ r_225.toInt ≤ 2147490000 := p_228
                replace p_229 : (t.1 0 12).toInt = 1 → 35 ≤ v_20.toInt → v_20.toInt ≤ 37 → v_26.toInt ≤ 19 → (t.2.2.2 4 (v_26 : Int32).toNatClampNeg).toInt + 1 ≤ (t.2.1 0 8).toInt + r_225.toInt := p_229
                obtain ⟨v_230, e_231⟩ : ∃ z, z = ((t.2.1 0 8) : Int64) + (r_225 : Int64) := ⟨_, rfl⟩
                have h_232 : -9223372036854775808 ≤ (t.2.1 0 8).toInt + r_225.toInt → (t.2.1 0 8).toInt + r_225.toInt < 9223372036854775808 → v_230.toInt = (t.2.1 0 8).toInt + r_225.toInt := by rw [e_231]; exact fun h1 h2 => Jvm.Kit.i64_add h1 h2
                refine k_ladd (v := v_230) C e_231.symm dX12_look_169 ?_
                refine lv_aload_n C.1 C.2.1 dX12_look_170 rfl (lv_at hl 0 rfl) ?_
                refine k_get (v := .long (t.2.1 0 13)) C hP 0 rfl rfl inlX12 13 (by decide) m_57_6 rfl dX12_look_171 ?_
                obtain ⟨v_233, e_234⟩ : ∃ z, z = lg_cmp (v_230 : Int64) (t.2.1 0 13) := ⟨_, rfl⟩
                have h_235 : (-1 : Int) ≤ v_233.toInt ∧ v_233.toInt ≤ 1 := by rw [e_234]; exact cmp_rng _ _
                have h_236 : (v_233.toInt < 0 ↔ v_230.toInt < (t.2.1 0 13).toInt) ∧ (v_233.toInt = 0 ↔ v_230.toInt = (t.2.1 0 13).toInt) := by rw [e_234]; exact cmp_iff _ _
                refine k_lcmp (v := v_233) C e_234.symm dX12_look_174 ?_
                refine lv_if_le (tgt := 183) C.1 C.2.1 dX12_look_175 (by decide) (fun c_237 => ?_) (fun c_237 => ?_)
                · replace c_237 : v_233.toInt ≤ 0 := i_le c_237
                  refine lv_aload_n C.1 C.2.1 dX12_look_183 rfl (lv_at hl 0 rfl) ?_
                  refine g_Vi (As := []) (rest := []) C hP hD hS hA (T_X12_fault l D K Z Y ad (uI (uI (uI (uI t 0 15 r_16) 0 16 v_20) 0 17 v_26) 0 18 v_181) hok ) hE hZ (uwV m_57_21 m_57_22 m_57_23 m_1_5 m_58_0) (hdV 0 (by decide +kernel) rfl) ⟨Nat.le_of_ble_eq_true rfl, Nat.le_of_ble_eq_true rfl⟩ rfl rfl (ci := 11) (q0 := 0) rfl rfl rfl hl.1 (Nat.le_of_ble_eq_true rfl) dX12_look_184 ⟨Nat.le_of_ble_eq_true rfl, Nat.le_of_ble_eq_true rfl⟩ (fun r_239 t_238 H locs hw hP hD hS => ?_)
                  obtain ⟨h_241, h_242, p_243, p_244⟩ := hw
                  replace p_243 : r_239.toInt = 0 → gdA v_20 v_26 v_181 (t.2.2.1 3) := p_243
                  replace p_244 : r_239.toInt = 0 → gdU v_20 v_26 (t.2.2.1 3) (t.2.2.1 9) (t.1 0 35) (t.1 0 36) := p_244
                  have hgA := p_243
                  have hgU := p_244
                  exact g_iret C hr hlocks hP hD hS rfl (uI (uI (uI (uI t 0 15 r_16) 0 16 v_20) 0 17 v_26) 0 18 v_181) rfl ⟨hok, hfr, by omega, by omega, (show r_239.toInt = 0 → gdA v_20 v_26 v_181 (t.2.2.1 3) from by first | exact fun h0 => hgA (by omega) | (intro h0; exfalso; omega)), (show r_239.toInt = 0 → gdU v_20 v_26 (t.2.2.1 3) (t.2.2.1 9) (t.1 0 35) (t.1 0 36) from by first | exact fun h0 => hgU (by omega) | (intro h0; exfalso; omega)), (show r_239.toInt = 0 → (t.1 0 12).toInt = 1 → (t.2.1 0 8).toInt + (cO v_20 v_26 (t.2.2.2 4 (v_26 : Int32).toNatClampNeg) (t.2.1 0 8)).toInt ≤ (t.2.1 0 13).toInt from by omega)⟩ (Nat.le_of_ble_eq_true rfl) (Nat.le_of_ble_eq_true rfl) dX12_look_187
                · replace c_237 : 0 < v_233.toInt := i_nle c_237
                  refine lv_bipush (v := 10) C.1 C.2.1 dX12_look_178 (by decide) ?_
                  refine lv_goto (tgt := 187) C.1 C.2.1 dX12_look_180 (by decide) ?_
                  exact g_iret C hr hlocks hP hD hS rfl (uI (uI (uI (uI t 0 15 r_16) 0 16 v_20) 0 17 v_26) 0 18 v_181) rfl ⟨hok, hfr, by decide, by decide, (show 10 = 0 → gdA v_20 v_26 v_181 (t.2.2.1 3) from by first | exact fun h0 => hgA (by omega) | (intro h0; exfalso; omega)), (show 10 = 0 → gdU v_20 v_26 (t.2.2.1 3) (t.2.2.1 9) (t.1 0 35) (t.1 0 36) from by first | exact fun h0 => hgU (by omega) | (intro h0; exfalso; omega)), (show 10 = 0 → (t.1 0 12).toInt = 1 → (t.2.1 0 8).toInt + (cO v_20 v_26 (t.2.2.2 4 (v_26 : Int32).toNatClampNeg) (t.2.1 0 8)).toInt ≤ (t.2.1 0 13).toInt from by omega)⟩ (Nat.le_of_ble_eq_true rfl) (Nat.le_of_ble_eq_true rfl) dX12_look_187
            · replace c_215 : (t.1 0 10).toInt = 0 := i_eq c_215
              refine lv_aload_n C.1 C.2.1 dX12_look_133 rfl (lv_at hl 0 rfl) ?_
              refine g_Vl (As := []) (rest := []) C hP hD hS hA (T_X12_cost l D K Z Y ad (uI (uI (uI (uI t 0 15 r_16) 0 16 v_20) 0 17 v_26) 0 18 v_181) hok ) hE hZ (uwV m_57_15 m_57_16 m_57_17 m_1_5 m_57_18) (hdV 0 (by decide +kernel) rfl) ⟨Nat.le_of_ble_eq_true rfl, Nat.le_of_ble_eq_true rfl⟩ rfl rfl (ci := 11) (q0 := 0) rfl rfl rfl hl.1 (Nat.le_of_ble_eq_true rfl) dX12_look_134 ⟨Nat.le_of_ble_eq_true rfl, Nat.le_of_ble_eq_true rfl⟩ (fun r_246 t_245 H locs hw hP hD hS => ?_)
              obtain ⟨p_248, p_249, p_250⟩ := hw
              replace p_248 : r_246.toInt = (cO v_20 v_26 (t.2.2.2 4 (v_26 : Int32).toNatClampNeg) (t.2.1 0 8)).toInt := p_248
              replace p_249 : (t.1 0 12).toInt = 1 → 1 ≤ r_246.toInt ∧ r_246.toInt ≤ 2147490000 := p_249
              replace p_250 : (t.1 0 12).toInt = 1 → 35 ≤ v_20.toInt → v_20.toInt ≤ 37 → v_26.toInt ≤ 19 → (t.2.2.2 4 (v_26 : Int32).toNatClampNeg).toInt + 1 ≤ (t.2.1 0 8).toInt + r_246.toInt := p_250
              refine lv_aload_n C.1 C.2.1 dX12_look_137 rfl (lv_at hl 0 rfl) ?_
              refine lv_bipush (v := (-10)) C.1 C.2.1 dX12_look_138 (by decide) ?_
              refine g_Vi (As := [.int (-10)]) (rest := [.long r_246]) C hP hD hS hA (T_X12_memoryAt l D K Z Y ad (uI (uI (uI (uI t 0 15 r_16) 0 16 v_20) 0 17 v_26) 0 18 v_181) hok (-10) (show (-3999 : Int) ≤ ((-10) : Int32).toInt ∧ ((-10) : Int32).toInt ≤ 3999 from ⟨by decide, by decide⟩)) hE hZ (uwV m_38_19 m_38_20 m_38_21 m_1_5 m_38_22) (hdV 1 (by decide +kernel) rfl) ⟨Nat.le_of_ble_eq_true rfl, Nat.le_of_ble_eq_true rfl⟩ rfl rfl (ci := 11) (q0 := 0) rfl rfl rfl hl.1 (Nat.le_of_ble_eq_true rfl) dX12_look_140 ⟨Nat.le_of_ble_eq_true rfl, Nat.le_of_ble_eq_true rfl⟩ (fun r_252 t_251 H locs hw hP hD hS => ?_)
              obtain ⟨h_254, h_255⟩ := hw
              refine g_Si (As := [.int r_252]) (rest := [.long r_246]) C hP hD hS hA (T_X12_value l D K Z Y ad (uI (uI (uI (uI t 0 15 r_16) 0 16 v_20) 0 17 v_26) 0 18 v_181) hok (r_252)) hE hZ (uwS m_36_9 m_36_10 m_1_5 m_36_11) (hdS 1 (by decide +kernel) rfl) ⟨Nat.le_of_ble_eq_true rfl, Nat.le_of_ble_eq_true rfl⟩ rfl rfl rfl hl.1 (Nat.le_of_ble_eq_true rfl) dX12_look_143 ⟨Nat.le_of_ble_eq_true rfl, Nat.le_of_ble_eq_true rfl⟩ (fun r_257 t_256 H locs hw hP hD hS => ?_)
              obtain ⟨h_259, h_260, p_261⟩ := hw
              replace p_261 : r_257.toInt = (vO r_252).toInt := p_261
              obtain ⟨v_262, e_263⟩ : ∃ z, z = (r_257 : Int32).toInt64 := ⟨_, rfl⟩
              have h_264 : v_262.toInt = r_257.toInt := by rw [e_263]; exact Jvm.Kit.i64_of_i32 _
              have h_265 := i_rng r_257
              refine lv_i2l (v := v_262) C.1 C.2.1 dX12_look_146 e_263.symm ?_
              obtain ⟨v_266, e_267⟩ : ∃ z, z = lg_cmp (r_246 : Int64) v_262 := ⟨_, rfl⟩
              have h_268 : (-1 : Int) ≤ v_266.toInt ∧ v_266.toInt ≤ 1 := by rw [e_267]; exact cmp_rng _ _
              have h_269 : (v_266.toInt < 0 ↔ r_246.toInt < v_262.toInt) ∧ (v_266.toInt = 0 ↔ r_246.toInt = v_262.toInt) := by rw [e_267]; exact cmp_iff _ _
              refine k_lcmp (v := v_266) C e_267.symm dX12_look_147 ?_
              refine lv_if_le (tgt := 154) C.1 C.2.1 dX12_look_148 (by decide) (fun c_270 => ?_) (fun c_270 => ?_)
              · replace c_270 : v_266.toInt ≤ 0 := i_le c_270
                refine lv_aload_n C.1 C.2.1 dX12_look_154 rfl (lv_at hl 0 rfl) ?_
                refine k_get (v := .int (t.1 0 12)) C hP 0 rfl rfl inlX12 12 (by decide) m_30_2 rfl dX12_look_155 ?_
                refine lv_if_eq (tgt := 183) C.1 C.2.1 dX12_look_158 (by decide) (fun c_271 => ?_) (fun c_271 => ?_)
                · replace c_271 : (t.1 0 12).toInt = 0 := i_eq c_271
                  refine lv_aload_n C.1 C.2.1 dX12_look_183 rfl (lv_at hl 0 rfl) ?_
                  refine g_Vi (As := []) (rest := []) C hP hD hS hA (T_X12_fault l D K Z Y ad (uI (uI (uI (uI t 0 15 r_16) 0 16 v_20) 0 17 v_26) 0 18 v_181) hok ) hE hZ (uwV m_57_21 m_57_22 m_57_23 m_1_5 m_58_0) (hdV 0 (by decide +kernel) rfl) ⟨Nat.le_of_ble_eq_true rfl, Nat.le_of_ble_eq_true rfl⟩ rfl rfl (ci := 11) (q0 := 0) rfl rfl rfl hl.1 (Nat.le_of_ble_eq_true rfl) dX12_look_184 ⟨Nat.le_of_ble_eq_true rfl, Nat.le_of_ble_eq_true rfl⟩ (fun r_273 t_272 H locs hw hP hD hS => ?_)
                  obtain ⟨h_275, h_276, p_277, p_278⟩ := hw
                  replace p_277 : r_273.toInt = 0 → gdA v_20 v_26 v_181 (t.2.2.1 3) := p_277
                  replace p_278 : r_273.toInt = 0 → gdU v_20 v_26 (t.2.2.1 3) (t.2.2.1 9) (t.1 0 35) (t.1 0 36) := p_278
                  have hgA := p_277
                  have hgU := p_278
                  exact g_iret C hr hlocks hP hD hS rfl (uI (uI (uI (uI t 0 15 r_16) 0 16 v_20) 0 17 v_26) 0 18 v_181) rfl ⟨hok, hfr, by omega, by omega, (show r_273.toInt = 0 → gdA v_20 v_26 v_181 (t.2.2.1 3) from by first | exact fun h0 => hgA (by omega) | (intro h0; exfalso; omega)), (show r_273.toInt = 0 → gdU v_20 v_26 (t.2.2.1 3) (t.2.2.1 9) (t.1 0 35) (t.1 0 36) from by first | exact fun h0 => hgU (by omega) | (intro h0; exfalso; omega)), (show r_273.toInt = 0 → (t.1 0 12).toInt = 1 → (t.2.1 0 8).toInt + (cO v_20 v_26 (t.2.2.2 4 (v_26 : Int32).toNatClampNeg) (t.2.1 0 8)).toInt ≤ (t.2.1 0 13).toInt from by omega)⟩ (Nat.le_of_ble_eq_true rfl) (Nat.le_of_ble_eq_true rfl) dX12_look_187
                · replace c_271 : ¬ (t.1 0 12).toInt = 0 := i_ne c_271
                  have hj0 : (-2147483648 ≤ (t.2.1 0 13).toInt ∧ (t.2.1 0 13).toInt ≤ 2147483647) ∧ ((t.1 0 12).toInt = 1 → 0 ≤ (t.2.1 0 8).toInt ∧ ((t.2.1 0 8).toInt ≤ (t.2.1 0 13).toInt ∨ (t.2.1 0 8).toInt = 0)) := jM_n hok.2.2.2.2.2.2.1
                  refine lv_aload_n C.1 C.2.1 dX12_look_161 rfl (lv_at hl 0 rfl) ?_
                  refine k_get (v := .long (t.2.1 0 8)) C hP 0 rfl rfl inlX12 8 (by decide) m_29_23 rfl dX12_look_162 ?_
                  refine lv_aload_n C.1 C.2.1 dX12_look_165 rfl (lv_at hl 0 rfl) ?_
                  refine g_Vl (As := []) (rest := [.long (t.2.1 0 8)]) C hP hD hS hA (T_X12_cost l D K Z Y ad (uI (uI (uI (uI t 0 15 r_16) 0 16 v_20) 0 17 v_26) 0 18 v_181) hok ) hE hZ (uwV m_57_15 m_57_16 m_57_17 m_1_5 m_57_18) (hdV 0 (by decide +kernel) rfl) ⟨Nat.le_of_ble_eq_true rfl, Nat.le_of_ble_eq_true rfl⟩ rfl rfl (ci := 11) (q0 := 0) rfl rfl rfl hl.1 (Nat.le_of_ble_eq_true rfl) dX12_look_166 ⟨Nat.le_of_ble_eq_true rfl, Nat.le_of_ble_eq_true rfl⟩ (fun r_280 t_279 H locs hw hP hD hS => ?_)
                  obtain ⟨p_282, p_283, p_284⟩ := hw
                  replace p_282 : r_280.toInt = (cO v_20 v_26 (t.2.2.2 4 (v_26 : Int32).toNatClampNeg) (t.2.1 0 8)).toInt := p_282
                  replace p_283 : (t.1 0 12).toInt = 1 → 1 ≤ r_280.toInt ∧ r_280.toInt ≤ 2147490000 := p_283
                  replace p_284 : (t.1 0 12).toInt = 1 → 35 ≤ v_20.toInt → v_20.toInt ≤ 37 → v_26.toInt ≤ 19 → (t.2.2.2 4 (v_26 : Int32).toNatClampNeg).toInt + 1 ≤ (t.2.1 0 8).toInt + r_280.toInt := p_284
                  obtain ⟨v_285, e_286⟩ : ∃ z, z = ((t.2.1 0 8) : Int64) + (r_280 : Int64) := ⟨_, rfl⟩
                  have h_287 : -9223372036854775808 ≤ (t.2.1 0 8).toInt + r_280.toInt → (t.2.1 0 8).toInt + r_280.toInt < 9223372036854775808 → v_285.toInt = (t.2.1 0 8).toInt + r_280.toInt := by rw [e_286]; exact fun h1 h2 => Jvm.Kit.i64_add h1 h2
                  refine k_ladd (v := v_285) C e_286.symm dX12_look_169 ?_
                  refine lv_aload_n C.1 C.2.1 dX12_look_170 rfl (lv_at hl 0 rfl) ?_
                  refine k_get (v := .long (t.2.1 0 13)) C hP 0 rfl rfl inlX12 13 (by decide) m_57_6 rfl dX12_look_171 ?_
                  obtain ⟨v_288, e_289⟩ : ∃ z, z = lg_cmp (v_285 : Int64) (t.2.1 0 13) := ⟨_, rfl⟩
                  have h_290 : (-1 : Int) ≤ v_288.toInt ∧ v_288.toInt ≤ 1 := by rw [e_289]; exact cmp_rng _ _
                  have h_291 : (v_288.toInt < 0 ↔ v_285.toInt < (t.2.1 0 13).toInt) ∧ (v_288.toInt = 0 ↔ v_285.toInt = (t.2.1 0 13).toInt) := by rw [e_289]; exact cmp_iff _ _
                  refine k_lcmp (v := v_288) C e_289.symm dX12_look_174 ?_
                  refine lv_if_le (tgt := 183) C.1 C.2.1 dX12_look_175 (by decide) (fun c_292 => ?_) (fun c_292 => ?_)
                  · replace c_292 : v_288.toInt ≤ 0 := i_le c_292
                    refine lv_aload_n C.1 C.2.1 dX12_look_183 rfl (lv_at hl 0 rfl) ?_
                    refine g_Vi (As := []) (rest := []) C hP hD hS hA (T_X12_fault l D K Z Y ad (uI (uI (uI (uI t 0 15 r_16) 0 16 v_20) 0 17 v_26) 0 18 v_181) hok ) hE hZ (uwV m_57_21 m_57_22 m_57_23 m_1_5 m_58_0) (hdV 0 (by decide +kernel) rfl) ⟨Nat.le_of_ble_eq_true rfl, Nat.le_of_ble_eq_true rfl⟩ rfl rfl (ci := 11) (q0 := 0) rfl rfl rfl hl.1 (Nat.le_of_ble_eq_true rfl) dX12_look_184 ⟨Nat.le_of_ble_eq_true rfl, Nat.le_of_ble_eq_true rfl⟩ (fun r_294 t_293 H locs hw hP hD hS => ?_)
                    obtain ⟨h_296, h_297, p_298, p_299⟩ := hw
                    replace p_298 : r_294.toInt = 0 → gdA v_20 v_26 v_181 (t.2.2.1 3) := p_298
                    replace p_299 : r_294.toInt = 0 → gdU v_20 v_26 (t.2.2.1 3) (t.2.2.1 9) (t.1 0 35) (t.1 0 36) := p_299
                    have hgA := p_298
                    have hgU := p_299
                    exact g_iret C hr hlocks hP hD hS rfl (uI (uI (uI (uI t 0 15 r_16) 0 16 v_20) 0 17 v_26) 0 18 v_181) rfl ⟨hok, hfr, by omega, by omega, (show r_294.toInt = 0 → gdA v_20 v_26 v_181 (t.2.2.1 3) from by first | exact fun h0 => hgA (by omega) | (intro h0; exfalso; omega)), (show r_294.toInt = 0 → gdU v_20 v_26 (t.2.2.1 3) (t.2.2.1 9) (t.1 0 35) (t.1 0 36) from by first | exact fun h0 => hgU (by omega) | (intro h0; exfalso; omega)), (show r_294.toInt = 0 → (t.1 0 12).toInt = 1 → (t.2.1 0 8).toInt + (cO v_20 v_26 (t.2.2.2 4 (v_26 : Int32).toNatClampNeg) (t.2.1 0 8)).toInt ≤ (t.2.1 0 13).toInt from by omega)⟩ (Nat.le_of_ble_eq_true rfl) (Nat.le_of_ble_eq_true rfl) dX12_look_187
                  · replace c_292 : 0 < v_288.toInt := i_nle c_292
                    refine lv_bipush (v := 10) C.1 C.2.1 dX12_look_178 (by decide) ?_
                    refine lv_goto (tgt := 187) C.1 C.2.1 dX12_look_180 (by decide) ?_
                    exact g_iret C hr hlocks hP hD hS rfl (uI (uI (uI (uI t 0 15 r_16) 0 16 v_20) 0 17 v_26) 0 18 v_181) rfl ⟨hok, hfr, by decide, by decide, (show 10 = 0 → gdA v_20 v_26 v_181 (t.2.2.1 3) from by first | exact fun h0 => hgA (by omega) | (intro h0; exfalso; omega)), (show 10 = 0 → gdU v_20 v_26 (t.2.2.1 3) (t.2.2.1 9) (t.1 0 35) (t.1 0 36) from by first | exact fun h0 => hgU (by omega) | (intro h0; exfalso; omega)), (show 10 = 0 → (t.1 0 12).toInt = 1 → (t.2.1 0 8).toInt + (cO v_20 v_26 (t.2.2.2 4 (v_26 : Int32).toNatClampNeg) (t.2.1 0 8)).toInt ≤ (t.2.1 0 13).toInt from by omega)⟩ (Nat.le_of_ble_eq_true rfl) (Nat.le_of_ble_eq_true rfl) dX12_look_187
              · replace c_270 : 0 < v_266.toInt := i_nle c_270
                refine lv_bipush (v := 9) C.1 C.2.1 dX12_look_151 (by decide) ?_
                exact g_iret C hr hlocks hP hD hS rfl (uI (uI (uI (uI t 0 15 r_16) 0 16 v_20) 0 17 v_26) 0 18 v_181) rfl ⟨hok, hfr, by decide, by decide, (show 9 = 0 → gdA v_20 v_26 v_181 (t.2.2.1 3) from by first | exact fun h0 => hgA (by omega) | (intro h0; exfalso; omega)), (show 9 = 0 → gdU v_20 v_26 (t.2.2.1 3) (t.2.2.1 9) (t.1 0 35) (t.1 0 36) from by first | exact fun h0 => hgU (by omega) | (intro h0; exfalso; omega)), (show 9 = 0 → (t.1 0 12).toInt = 1 → (t.2.1 0 8).toInt + (cO v_20 v_26 (t.2.2.2 4 (v_26 : Int32).toNatClampNeg) (t.2.1 0 8)).toInt ≤ (t.2.1 0 13).toInt from by omega)⟩ (Nat.le_of_ble_eq_true rfl) (Nat.le_of_ble_eq_true rfl) dX12_look_153
      · replace c_51 : v_48.toInt = 0 := i_eq c_51
        refine lv_iload_n C.1 C.2.1 dX12_look_92 rfl (lv_at hl 2 rfl) ?_
        refine lv_goto (tgt := 98) C.1 C.2.1 dX12_look_93 (by decide) ?_
        refine lv_iload_n C.1 C.2.1 dX12_look_98 rfl (lv_at hl 1 rfl) ?_
        refine lv_if_ne (tgt := 106) C.1 C.2.1 dX12_look_99 (by decide) (fun c_300 => ?_) (fun c_300 => ?_)
        · replace c_300 : ¬ v_39.toInt = 0 := i_ne c_300
          refine lv_aload_n C.1 C.2.1 dX12_look_106 rfl (lv_at hl 0 rfl) ?_
          refine k_get (v := .ref (ad 3)) C hP 0 rfl rfl inlX12 4 (by decide) m_7_6 rfl dX12_look_107 ?_
          refine lv_iload_n C.1 C.2.1 dX12_look_110 rfl (lv_at hl 1 rfl) ?_
          refine k_ild (v := (t.2.2.1 3 (v_39 : Int32).toNatClampNeg)) C hP 3 rfl (vp_in_iff.mpr ⟨by omega, by omega⟩) rfl dX12_look_111 ?_
          refine g_Si (As := [.int (t.2.2.1 3 (v_39 : Int32).toNatClampNeg)]) (rest := [.int v_45, .ref (ad 0)]) C hP hD hS hA (T_X12_value l D K Z Y ad (uI (uI (uI t 0 15 r_16) 0 16 v_20) 0 17 v_26) hok ((t.2.2.1 3 (v_39 : Int32).toNatClampNeg))) hE hZ (uwS m_36_9 m_36_10 m_1_5 m_36_11) (hdS 1 (by decide +kernel) rfl) ⟨Nat.le_of_ble_eq_true rfl, Nat.le_of_ble_eq_true rfl⟩ rfl rfl rfl hl.1 (Nat.le_of_ble_eq_true rfl) dX12_look_112 ⟨Nat.le_of_ble_eq_true rfl, Nat.le_of_ble_eq_true rfl⟩ (fun r_302 t_301 H locs hw hP hD hS => ?_)
          obtain ⟨h_304, h_305, p_306⟩ := hw
          replace p_306 : r_302.toInt = (vO (t.2.2.1 3 (v_39 : Int32).toNatClampNeg)).toInt := p_306
          obtain ⟨v_307, e_308⟩ : ∃ z, z = (v_45 : Int32) + (r_302 : Int32) := ⟨_, rfl⟩
          refine k_iadd (v := v_307) C e_308.symm dX12_look_115 ?_
          refine k_put (ws' := WM K ad (uI (uI (uI (uI t 0 15 r_16) 0 16 v_20) 0 17 v_26) 0 18 v_307)) (v := .int v_307) C hP hD hS 0 rfl rfl inlX12 tyX12_ok nmX12 18 (by decide) m_57_5 rfl rfl rfl rfl rfl dX12_look_116 (fun H locs hP hD hS => ?_)
          have hok : okM (uI (uI (uI (uI t 0 15 r_16) 0 16 v_20) 0 17 v_26) 0 18 v_307) := ⟨okI_I hok.1 0 18 v_307 (show (-2147483648 : Int) ≤ (v_307 : Int32).toInt ∧ (v_307 : Int32).toInt ≤ 2147483647 from (i_rng _)), hok.2.1, hok.2.2.1, hok.2.2.2.1, hok.2.2.2.2.1, hok.2.2.2.2.2.1, hok.2.2.2.2.2.2.1, trivial⟩
          have hfr : frA [(0, 15), (0, 16), (0, 17), (0, 18)] [] [] [] t (uI (uI (uI (uI t 0 15 r_16) 0 16 v_20) 0 17 v_26) 0 18 v_307) := frA_I hfr 0 18 _ rfl
          refine lv_aload_n C.1 C.2.1 dX12_look_119 rfl (lv_at hl 0 rfl) ?_
          have h_310 : (0 : Int) ≤ (t.1 0 11).toInt ∧ (t.1 0 11).toInt ≤ 1 := hok.1 0 11
          refine k_get (v := .int (t.1 0 11)) C hP 0 rfl rfl inlX12 11 (by decide) m_30_1 rfl dX12_look_120 ?_
          refine lv_if_eq (tgt := 154) C.1 C.2.1 dX12_look_123 (by decide) (fun c_311 => ?_) (fun c_311 => ?_)
          · replace c_311 : (t.1 0 11).toInt = 0 := i_eq c_311
            refine lv_aload_n C.1 C.2.1 dX12_look_154 rfl (lv_at hl 0 rfl) ?_
            refine k_get (v := .int (t.1 0 12)) C hP 0 rfl rfl inlX12 12 (by decide) m_30_2 rfl dX12_look_155 ?_
            refine lv_if_eq (tgt := 183) C.1 C.2.1 dX12_look_158 (by decide) (fun c_312 => ?_) (fun c_312 => ?_)
            · replace c_312 : (t.1 0 12).toInt = 0 := i_eq c_312
              refine lv_aload_n C.1 C.2.1 dX12_look_183 rfl (lv_at hl 0 rfl) ?_
              refine g_Vi (As := []) (rest := []) C hP hD hS hA (T_X12_fault l D K Z Y ad (uI (uI (uI (uI t 0 15 r_16) 0 16 v_20) 0 17 v_26) 0 18 v_307) hok ) hE hZ (uwV m_57_21 m_57_22 m_57_23 m_1_5 m_58_0) (hdV 0 (by decide +kernel) rfl) ⟨Nat.le_of_ble_eq_true rfl, Nat.le_of_ble_eq_true rfl⟩ rfl rfl (ci := 11) (q0 := 0) rfl rfl rfl hl.1 (Nat.le_of_ble_eq_true rfl) dX12_look_184 ⟨Nat.le_of_ble_eq_true rfl, Nat.le_of_ble_eq_true rfl⟩ (fun r_314 t_313 H locs hw hP hD hS => ?_)
              obtain ⟨h_316, h_317, p_318, p_319⟩ := hw
              replace p_318 : r_314.toInt = 0 → gdA v_20 v_26 v_307 (t.2.2.1 3) := p_318
              replace p_319 : r_314.toInt = 0 → gdU v_20 v_26 (t.2.2.1 3) (t.2.2.1 9) (t.1 0 35) (t.1 0 36) := p_319
              have hgA := p_318
              have hgU := p_319
              exact g_iret C hr hlocks hP hD hS rfl (uI (uI (uI (uI t 0 15 r_16) 0 16 v_20) 0 17 v_26) 0 18 v_307) rfl ⟨hok, hfr, by omega, by omega, (show r_314.toInt = 0 → gdA v_20 v_26 v_307 (t.2.2.1 3) from by first | exact fun h0 => hgA (by omega) | (intro h0; exfalso; omega)), (show r_314.toInt = 0 → gdU v_20 v_26 (t.2.2.1 3) (t.2.2.1 9) (t.1 0 35) (t.1 0 36) from by first | exact fun h0 => hgU (by omega) | (intro h0; exfalso; omega)), (show r_314.toInt = 0 → (t.1 0 12).toInt = 1 → (t.2.1 0 8).toInt + (cO v_20 v_26 (t.2.2.2 4 (v_26 : Int32).toNatClampNeg) (t.2.1 0 8)).toInt ≤ (t.2.1 0 13).toInt from by omega)⟩ (Nat.le_of_ble_eq_true rfl) (Nat.le_of_ble_eq_true rfl) dX12_look_187
            · replace c_312 : ¬ (t.1 0 12).toInt = 0 := i_ne c_312
              have hj0 : (-2147483648 ≤ (t.2.1 0 13).toInt ∧ (t.2.1 0 13).toInt ≤ 2147483647) ∧ ((t.1 0 12).toInt = 1 → 0 ≤ (t.2.1 0 8).toInt ∧ ((t.2.1 0 8).toInt ≤ (t.2.1 0 13).toInt ∨ (t.2.1 0 8).toInt = 0)) := jM_n hok.2.2.2.2.2.2.1
              refine lv_aload_n C.1 C.2.1 dX12_look_161 rfl (lv_at hl 0 rfl) ?_
              refine k_get (v := .long (t.2.1 0 8)) C hP 0 rfl rfl inlX12 8 (by decide) m_29_23 rfl dX12_look_162 ?_
              refine lv_aload_n C.1 C.2.1 dX12_look_165 rfl (lv_at hl 0 rfl) ?_
              refine g_Vl (As := []) (rest := [.long (t.2.1 0 8)]) C hP hD hS hA (T_X12_cost l D K Z Y ad (uI (uI (uI (uI t 0 15 r_16) 0 16 v_20) 0 17 v_26) 0 18 v_307) hok ) hE hZ (uwV m_57_15 m_57_16 m_57_17 m_1_5 m_57_18) (hdV 0 (by decide +kernel) rfl) ⟨Nat.le_of_ble_eq_true rfl, Nat.le_of_ble_eq_true rfl⟩ rfl rfl (ci := 11) (q0 := 0) rfl rfl rfl hl.1 (Nat.le_of_ble_eq_true rfl) dX12_look_166 ⟨Nat.le_of_ble_eq_true rfl, Nat.le_of_ble_eq_true rfl⟩ (fun r_321 t_320 H locs hw hP hD hS => ?_)
              obtain ⟨p_323, p_324, p_325⟩ := hw
              replace p_323 : r_321.toInt = (cO v_20 v_26 (t.2.2.2 4 (v_26 : Int32).toNatClampNeg) (t.2.1 0 8)).toInt := p_323
              replace p_324 : (t.1 0 12).toInt = 1 → 1 ≤ r_321.toInt ∧ r_321.toInt ≤ 2147490000 := p_324
              replace p_325 : (t.1 0 12).toInt = 1 → 35 ≤ v_20.toInt → v_20.toInt ≤ 37 → v_26.toInt ≤ 19 → (t.2.2.2 4 (v_26 : Int32).toNatClampNeg).toInt + 1 ≤ (t.2.1 0 8).toInt + r_321.toInt := p_325
              obtain ⟨v_326, e_327⟩ : ∃ z, z = ((t.2.1 0 8) : Int64) + (r_321 : Int64) := ⟨_, rfl⟩
              have h_328 : -9223372036854775808 ≤ (t.2.1 0 8).toInt + r_321.toInt → (t.2.1 0 8).toInt + r_321.toInt < 9223372036854775808 → v_326.toInt = (t.2.1 0 8).toInt + r_321.toInt := by rw [e_327]; exact fun h1 h2 => Jvm.Kit.i64_add h1 h2
              refine k_ladd (v := v_326) C e_327.symm dX12_look_169 ?_
              refine lv_aload_n C.1 C.2.1 dX12_look_170 rfl (lv_at hl 0 rfl) ?_
              refine k_get (v := .long (t.2.1 0 13)) C hP 0 rfl rfl inlX12 13 (by decide) m_57_6 rfl dX12_look_171 ?_
              obtain ⟨v_329, e_330⟩ : ∃ z, z = lg_cmp (v_326 : Int64) (t.2.1 0 13) := ⟨_, rfl⟩
              have h_331 : (-1 : Int) ≤ v_329.toInt ∧ v_329.toInt ≤ 1 := by rw [e_330]; exact cmp_rng _ _
              have h_332 : (v_329.toInt < 0 ↔ v_326.toInt < (t.2.1 0 13).toInt) ∧ (v_329.toInt = 0 ↔ v_326.toInt = (t.2.1 0 13).toInt) := by rw [e_330]; exact cmp_iff _ _
              refine k_lcmp (v := v_329) C e_330.symm dX12_look_174 ?_
              refine lv_if_le (tgt := 183) C.1 C.2.1 dX12_look_175 (by decide) (fun c_333 => ?_) (fun c_333 => ?_)
              · replace c_333 : v_329.toInt ≤ 0 := i_le c_333
                refine lv_aload_n C.1 C.2.1 dX12_look_183 rfl (lv_at hl 0 rfl) ?_
                refine g_Vi (As := []) (rest := []) C hP hD hS hA (T_X12_fault l D K Z Y ad (uI (uI (uI (uI t 0 15 r_16) 0 16 v_20) 0 17 v_26) 0 18 v_307) hok ) hE hZ (uwV m_57_21 m_57_22 m_57_23 m_1_5 m_58_0) (hdV 0 (by decide +kernel) rfl) ⟨Nat.le_of_ble_eq_true rfl, Nat.le_of_ble_eq_true rfl⟩ rfl rfl (ci := 11) (q0 := 0) rfl rfl rfl hl.1 (Nat.le_of_ble_eq_true rfl) dX12_look_184 ⟨Nat.le_of_ble_eq_true rfl, Nat.le_of_ble_eq_true rfl⟩ (fun r_335 t_334 H locs hw hP hD hS => ?_)
                obtain ⟨h_337, h_338, p_339, p_340⟩ := hw
                replace p_339 : r_335.toInt = 0 → gdA v_20 v_26 v_307 (t.2.2.1 3) := p_339
                replace p_340 : r_335.toInt = 0 → gdU v_20 v_26 (t.2.2.1 3) (t.2.2.1 9) (t.1 0 35) (t.1 0 36) := p_340
                have hgA := p_339
                have hgU := p_340
                exact g_iret C hr hlocks hP hD hS rfl (uI (uI (uI (uI t 0 15 r_16) 0 16 v_20) 0 17 v_26) 0 18 v_307) rfl ⟨hok, hfr, by omega, by omega, (show r_335.toInt = 0 → gdA v_20 v_26 v_307 (t.2.2.1 3) from by first | exact fun h0 => hgA (by omega) | (intro h0; exfalso; omega)), (show r_335.toInt = 0 → gdU v_20 v_26 (t.2.2.1 3) (t.2.2.1 9) (t.1 0 35) (t.1 0 36) from by first | exact fun h0 => hgU (by omega) | (intro h0; exfalso; omega)), (show r_335.toInt = 0 → (t.1 0 12).toInt = 1 → (t.2.1 0 8).toInt + (cO v_20 v_26 (t.2.2.2 4 (v_26 : Int32).toNatClampNeg) (t.2.1 0 8)).toInt ≤ (t.2.1 0 13).toInt from by omega)⟩ (Nat.le_of_ble_eq_true rfl) (Nat.le_of_ble_eq_true rfl) dX12_look_187
              · replace c_333 : 0 < v_329.toInt := i_nle c_333
                refine lv_bipush (v := 10) C.1 C.2.1 dX12_look_178 (by decide) ?_
                refine lv_goto (tgt := 187) C.1 C.2.1 dX12_look_180 (by decide) ?_
                exact g_iret C hr hlocks hP hD hS rfl (uI (uI (uI (uI t 0 15 r_16) 0 16 v_20) 0 17 v_26) 0 18 v_307) rfl ⟨hok, hfr, by decide, by decide, (show 10 = 0 → gdA v_20 v_26 v_307 (t.2.2.1 3) from by first | exact fun h0 => hgA (by omega) | (intro h0; exfalso; omega)), (show 10 = 0 → gdU v_20 v_26 (t.2.2.1 3) (t.2.2.1 9) (t.1 0 35) (t.1 0 36) from by first | exact fun h0 => hgU (by omega) | (intro h0; exfalso; omega)), (show 10 = 0 → (t.1 0 12).toInt = 1 → (t.2.1 0 8).toInt + (cO v_20 v_26 (t.2.2.2 4 (v_26 : Int32).toNatClampNeg) (t.2.1 0 8)).toInt ≤ (t.2.1 0 13).toInt from by omega)⟩ (Nat.le_of_ble_eq_true rfl) (Nat.le_of_ble_eq_true rfl) dX12_look_187
          · replace c_311 : ¬ (t.1 0 11).toInt = 0 := i_ne c_311
            refine lv_aload_n C.1 C.2.1 dX12_look_126 rfl (lv_at hl 0 rfl) ?_
            refine k_get (v := .int (t.1 0 10)) C hP 0 rfl rfl inlX12 10 (by decide) m_30_0 rfl dX12_look_127 ?_
            refine lv_if_ne (tgt := 154) C.1 C.2.1 dX12_look_130 (by decide) (fun c_341 => ?_) (fun c_341 => ?_)
            · replace c_341 : ¬ (t.1 0 10).toInt = 0 := i_ne c_341
              refine lv_aload_n C.1 C.2.1 dX12_look_154 rfl (lv_at hl 0 rfl) ?_
              refine k_get (v := .int (t.1 0 12)) C hP 0 rfl rfl inlX12 12 (by decide) m_30_2 rfl dX12_look_155 ?_
              refine lv_if_eq (tgt := 183) C.1 C.2.1 dX12_look_158 (by decide) (fun c_342 => ?_) (fun c_342 => ?_)
              · replace c_342 : (t.1 0 12).toInt = 0 := i_eq c_342
                refine lv_aload_n C.1 C.2.1 dX12_look_183 rfl (lv_at hl 0 rfl) ?_
                refine g_Vi (As := []) (rest := []) C hP hD hS hA (T_X12_fault l D K Z Y ad (uI (uI (uI (uI t 0 15 r_16) 0 16 v_20) 0 17 v_26) 0 18 v_307) hok ) hE hZ (uwV m_57_21 m_57_22 m_57_23 m_1_5 m_58_0) (hdV 0 (by decide +kernel) rfl) ⟨Nat.le_of_ble_eq_true rfl, Nat.le_of_ble_eq_true rfl⟩ rfl rfl (ci := 11) (q0 := 0) rfl rfl rfl hl.1 (Nat.le_of_ble_eq_true rfl) dX12_look_184 ⟨Nat.le_of_ble_eq_true rfl, Nat.le_of_ble_eq_true rfl⟩ (fun r_344 t_343 H locs hw hP hD hS => ?_)
                obtain ⟨h_346, h_347, p_348, p_349⟩ := hw
                replace p_348 : r_344.toInt = 0 → gdA v_20 v_26 v_307 (t.2.2.1 3) := p_348
                replace p_349 : r_344.toInt = 0 → gdU v_20 v_26 (t.2.2.1 3) (t.2.2.1 9) (t.1 0 35) (t.1 0 36) := p_349
                have hgA := p_348
                have hgU := p_349
                exact g_iret C hr hlocks hP hD hS rfl (uI (uI (uI (uI t 0 15 r_16) 0 16 v_20) 0 17 v_26) 0 18 v_307) rfl ⟨hok, hfr, by omega, by omega, (show r_344.toInt = 0 → gdA v_20 v_26 v_307 (t.2.2.1 3) from by first | exact fun h0 => hgA (by omega) | (intro h0; exfalso; omega)), (show r_344.toInt = 0 → gdU v_20 v_26 (t.2.2.1 3) (t.2.2.1 9) (t.1 0 35) (t.1 0 36) from by first | exact fun h0 => hgU (by omega) | (intro h0; exfalso; omega)), (show r_344.toInt = 0 → (t.1 0 12).toInt = 1 → (t.2.1 0 8).toInt + (cO v_20 v_26 (t.2.2.2 4 (v_26 : Int32).toNatClampNeg) (t.2.1 0 8)).toInt ≤ (t.2.1 0 13).toInt from by omega)⟩ (Nat.le_of_ble_eq_true rfl) (Nat.le_of_ble_eq_true rfl) dX12_look_187
              · replace c_342 : ¬ (t.1 0 12).toInt = 0 := i_ne c_342
                have hj0 : (-2147483648 ≤ (t.2.1 0 13).toInt ∧ (t.2.1 0 13).toInt ≤ 2147483647) ∧ ((t.1 0 12).toInt = 1 → 0 ≤ (t.2.1 0 8).toInt ∧ ((t.2.1 0 8).toInt ≤ (t.2.1 0 13).toInt ∨ (t.2.1 0 8).toInt = 0)) := jM_n hok.2.2.2.2.2.2.1
                refine lv_aload_n C.1 C.2.1 dX12_look_161 rfl (lv_at hl 0 rfl) ?_
                refine k_get (v := .long (t.2.1 0 8)) C hP 0 rfl rfl inlX12 8 (by decide) m_29_23 rfl dX12_look_162 ?_
                refine lv_aload_n C.1 C.2.1 dX12_look_165 rfl (lv_at hl 0 rfl) ?_
                refine g_Vl (As := []) (rest := [.long (t.2.1 0 8)]) C hP hD hS hA (T_X12_cost l D K Z Y ad (uI (uI (uI (uI t 0 15 r_16) 0 16 v_20) 0 17 v_26) 0 18 v_307) hok ) hE hZ (uwV m_57_15 m_57_16 m_57_17 m_1_5 m_57_18) (hdV 0 (by decide +kernel) rfl) ⟨Nat.le_of_ble_eq_true rfl, Nat.le_of_ble_eq_true rfl⟩ rfl rfl (ci := 11) (q0 := 0) rfl rfl rfl hl.1 (Nat.le_of_ble_eq_true rfl) dX12_look_166 ⟨Nat.le_of_ble_eq_true rfl, Nat.le_of_ble_eq_true rfl⟩ (fun r_351 t_350 H locs hw hP hD hS => ?_)
                obtain ⟨p_353, p_354, p_355⟩ := hw
                replace p_353 : r_351.toInt = (cO v_20 v_26 (t.2.2.2 4 (v_26 : Int32).toNatClampNeg) (t.2.1 0 8)).toInt := p_353
                replace p_354 : (t.1 0 12).toInt = 1 → 1 ≤ r_351.toInt ∧ r_351.toInt ≤ 2147490000 := p_354
                replace p_355 : (t.1 0 12).toInt = 1 → 35 ≤ v_20.toInt → v_20.toInt ≤ 37 → v_26.toInt ≤ 19 → (t.2.2.2 4 (v_26 : Int32).toNatClampNeg).toInt + 1 ≤ (t.2.1 0 8).toInt + r_351.toInt := p_355
                obtain ⟨v_356, e_357⟩ : ∃ z, z = ((t.2.1 0 8) : Int64) + (r_351 : Int64) := ⟨_, rfl⟩
                have h_358 : -9223372036854775808 ≤ (t.2.1 0 8).toInt + r_351.toInt → (t.2.1 0 8).toInt + r_351.toInt < 9223372036854775808 → v_356.toInt = (t.2.1 0 8).toInt + r_351.toInt := by rw [e_357]; exact fun h1 h2 => Jvm.Kit.i64_add h1 h2
                refine k_ladd (v := v_356) C e_357.symm dX12_look_169 ?_
                refine lv_aload_n C.1 C.2.1 dX12_look_170 rfl (lv_at hl 0 rfl) ?_
                refine k_get (v := .long (t.2.1 0 13)) C hP 0 rfl rfl inlX12 13 (by decide) m_57_6 rfl dX12_look_171 ?_
                obtain ⟨v_359, e_360⟩ : ∃ z, z = lg_cmp (v_356 : Int64) (t.2.1 0 13) := ⟨_, rfl⟩
                have h_361 : (-1 : Int) ≤ v_359.toInt ∧ v_359.toInt ≤ 1 := by rw [e_360]; exact cmp_rng _ _
                have h_362 : (v_359.toInt < 0 ↔ v_356.toInt < (t.2.1 0 13).toInt) ∧ (v_359.toInt = 0 ↔ v_356.toInt = (t.2.1 0 13).toInt) := by rw [e_360]; exact cmp_iff _ _
                refine k_lcmp (v := v_359) C e_360.symm dX12_look_174 ?_
                refine lv_if_le (tgt := 183) C.1 C.2.1 dX12_look_175 (by decide) (fun c_363 => ?_) (fun c_363 => ?_)
                · replace c_363 : v_359.toInt ≤ 0 := i_le c_363
                  refine lv_aload_n C.1 C.2.1 dX12_look_183 rfl (lv_at hl 0 rfl) ?_
                  refine g_Vi (As := []) (rest := []) C hP hD hS hA (T_X12_fault l D K Z Y ad (uI (uI (uI (uI t 0 15 r_16) 0 16 v_20) 0 17 v_26) 0 18 v_307) hok ) hE hZ (uwV m_57_21 m_57_22 m_57_23 m_1_5 m_58_0) (hdV 0 (by decide +kernel) rfl) ⟨Nat.le_of_ble_eq_true rfl, Nat.le_of_ble_eq_true rfl⟩ rfl rfl (ci := 11) (q0 := 0) rfl rfl rfl hl.1 (Nat.le_of_ble_eq_true rfl) dX12_look_184 ⟨Nat.le_of_ble_eq_true rfl, Nat.le_of_ble_eq_true rfl⟩ (fun r_365 t_364 H locs hw hP hD hS => ?_)
                  obtain ⟨h_367, h_368, p_369, p_370⟩ := hw
                  replace p_369 : r_365.toInt = 0 → gdA v_20 v_26 v_307 (t.2.2.1 3) := p_369
                  replace p_370 : r_365.toInt = 0 → gdU v_20 v_26 (t.2.2.1 3) (t.2.2.1 9) (t.1 0 35) (t.1 0 36) := p_370
                  have hgA := p_369
                  have hgU := p_370
                  exact g_iret C hr hlocks hP hD hS rfl (uI (uI (uI (uI t 0 15 r_16) 0 16 v_20) 0 17 v_26) 0 18 v_307) rfl ⟨hok, hfr, by omega, by omega, (show r_365.toInt = 0 → gdA v_20 v_26 v_307 (t.2.2.1 3) from by first | exact fun h0 => hgA (by omega) | (intro h0; exfalso; omega)), (show r_365.toInt = 0 → gdU v_20 v_26 (t.2.2.1 3) (t.2.2.1 9) (t.1 0 35) (t.1 0 36) from by first | exact fun h0 => hgU (by omega) | (intro h0; exfalso; omega)), (show r_365.toInt = 0 → (t.1 0 12).toInt = 1 → (t.2.1 0 8).toInt + (cO v_20 v_26 (t.2.2.2 4 (v_26 : Int32).toNatClampNeg) (t.2.1 0 8)).toInt ≤ (t.2.1 0 13).toInt from by omega)⟩ (Nat.le_of_ble_eq_true rfl) (Nat.le_of_ble_eq_true rfl) dX12_look_187
                · replace c_363 : 0 < v_359.toInt := i_nle c_363
                  refine lv_bipush (v := 10) C.1 C.2.1 dX12_look_178 (by decide) ?_
                  refine lv_goto (tgt := 187) C.1 C.2.1 dX12_look_180 (by decide) ?_
                  exact g_iret C hr hlocks hP hD hS rfl (uI (uI (uI (uI t 0 15 r_16) 0 16 v_20) 0 17 v_26) 0 18 v_307) rfl ⟨hok, hfr, by decide, by decide, (show 10 = 0 → gdA v_20 v_26 v_307 (t.2.2.1 3) from by first | exact fun h0 => hgA (by omega) | (intro h0; exfalso; omega)), (show 10 = 0 → gdU v_20 v_26 (t.2.2.1 3) (t.2.2.1 9) (t.1 0 35) (t.1 0 36) from by first | exact fun h0 => hgU (by omega) | (intro h0; exfalso; omega)), (show 10 = 0 → (t.1 0 12).toInt = 1 → (t.2.1 0 8).toInt + (cO v_20 v_26 (t.2.2.2 4 (v_26 : Int32).toNatClampNeg) (t.2.1 0 8)).toInt ≤ (t.2.1 0 13).toInt from by omega)⟩ (Nat.le_of_ble_eq_true rfl) (Nat.le_of_ble_eq_true rfl) dX12_look_187
            · replace c_341 : (t.1 0 10).toInt = 0 := i_eq c_341
              refine lv_aload_n C.1 C.2.1 dX12_look_133 rfl (lv_at hl 0 rfl) ?_
              refine g_Vl (As := []) (rest := []) C hP hD hS hA (T_X12_cost l D K Z Y ad (uI (uI (uI (uI t 0 15 r_16) 0 16 v_20) 0 17 v_26) 0 18 v_307) hok ) hE hZ (uwV m_57_15 m_57_16 m_57_17 m_1_5 m_57_18) (hdV 0 (by decide +kernel) rfl) ⟨Nat.le_of_ble_eq_true rfl, Nat.le_of_ble_eq_true rfl⟩ rfl rfl (ci := 11) (q0 := 0) rfl rfl rfl hl.1 (Nat.le_of_ble_eq_true rfl) dX12_look_134 ⟨Nat.le_of_ble_eq_true rfl, Nat.le_of_ble_eq_true rfl⟩ (fun r_372 t_371 H locs hw hP hD hS => ?_)
              obtain ⟨p_374, p_375, p_376⟩ := hw
              replace p_374 : r_372.toInt = (cO v_20 v_26 (t.2.2.2 4 (v_26 : Int32).toNatClampNeg) (t.2.1 0 8)).toInt := p_374
              replace p_375 : (t.1 0 12).toInt = 1 → 1 ≤ r_372.toInt ∧ r_372.toInt ≤ 2147490000 := p_375
              replace p_376 : (t.1 0 12).toInt = 1 → 35 ≤ v_20.toInt → v_20.toInt ≤ 37 → v_26.toInt ≤ 19 → (t.2.2.2 4 (v_26 : Int32).toNatClampNeg).toInt + 1 ≤ (t.2.1 0 8).toInt + r_372.toInt := p_376
              refine lv_aload_n C.1 C.2.1 dX12_look_137 rfl (lv_at hl 0 rfl) ?_
              refine lv_bipush (v := (-10)) C.1 C.2.1 dX12_look_138 (by decide) ?_
              refine g_Vi (As := [.int (-10)]) (rest := [.long r_372]) C hP hD hS hA (T_X12_memoryAt l D K Z Y ad (uI (uI (uI (uI t 0 15 r_16) 0 16 v_20) 0 17 v_26) 0 18 v_307) hok (-10) (show (-3999 : Int) ≤ ((-10) : Int32).toInt ∧ ((-10) : Int32).toInt ≤ 3999 from ⟨by decide, by decide⟩)) hE hZ (uwV m_38_19 m_38_20 m_38_21 m_1_5 m_38_22) (hdV 1 (by decide +kernel) rfl) ⟨Nat.le_of_ble_eq_true rfl, Nat.le_of_ble_eq_true rfl⟩ rfl rfl (ci := 11) (q0 := 0) rfl rfl rfl hl.1 (Nat.le_of_ble_eq_true rfl) dX12_look_140 ⟨Nat.le_of_ble_eq_true rfl, Nat.le_of_ble_eq_true rfl⟩ (fun r_378 t_377 H locs hw hP hD hS => ?_)
              obtain ⟨h_380, h_381⟩ := hw
              refine g_Si (As := [.int r_378]) (rest := [.long r_372]) C hP hD hS hA (T_X12_value l D K Z Y ad (uI (uI (uI (uI t 0 15 r_16) 0 16 v_20) 0 17 v_26) 0 18 v_307) hok (r_378)) hE hZ (uwS m_36_9 m_36_10 m_1_5 m_36_11) (hdS 1 (by decide +kernel) rfl) ⟨Nat.le_of_ble_eq_true rfl, Nat.le_of_ble_eq_true rfl⟩ rfl rfl rfl hl.1 (Nat.le_of_ble_eq_true rfl) dX12_look_143 ⟨Nat.le_of_ble_eq_true rfl, Nat.le_of_ble_eq_true rfl⟩ (fun r_383 t_382 H locs hw hP hD hS => ?_)
              obtain ⟨h_385, h_386, p_387⟩ := hw
              replace p_387 : r_383.toInt = (vO r_378).toInt := p_387
              obtain ⟨v_388, e_389⟩ : ∃ z, z = (r_383 : Int32).toInt64 := ⟨_, rfl⟩
              have h_390 : v_388.toInt = r_383.toInt := by rw [e_389]; exact Jvm.Kit.i64_of_i32 _
              have h_391 := i_rng r_383
              refine lv_i2l (v := v_388) C.1 C.2.1 dX12_look_146 e_389.symm ?_
              obtain ⟨v_392, e_393⟩ : ∃ z, z = lg_cmp (r_372 : Int64) v_388 := ⟨_, rfl⟩
              have h_394 : (-1 : Int) ≤ v_392.toInt ∧ v_392.toInt ≤ 1 := by rw [e_393]; exact cmp_rng _ _
              have h_395 : (v_392.toInt < 0 ↔ r_372.toInt < v_388.toInt) ∧ (v_392.toInt = 0 ↔ r_372.toInt = v_388.toInt) := by rw [e_393]; exact cmp_iff _ _
              refine k_lcmp (v := v_392) C e_393.symm dX12_look_147 ?_
              refine lv_if_le (tgt := 154) C.1 C.2.1 dX12_look_148 (by decide) (fun c_396 => ?_) (fun c_396 => ?_)
              · replace c_396 : v_392.toInt ≤ 0 := i_le c_396
                refine lv_aload_n C.1 C.2.1 dX12_look_154 rfl (lv_at hl 0 rfl) ?_
                refine k_get (v := .int (t.1 0 12)) C hP 0 rfl rfl inlX12 12 (by decide) m_30_2 rfl dX12_look_155 ?_
                refine lv_if_eq (tgt := 183) C.1 C.2.1 dX12_look_158 (by decide) (fun c_397 => ?_) (fun c_397 => ?_)
                · replace c_397 : (t.1 0 12).toInt = 0 := i_eq c_397
                  refine lv_aload_n C.1 C.2.1 dX12_look_183 rfl (lv_at hl 0 rfl) ?_
                  refine g_Vi (As := []) (rest := []) C hP hD hS hA (T_X12_fault l D K Z Y ad (uI (uI (uI (uI t 0 15 r_16) 0 16 v_20) 0 17 v_26) 0 18 v_307) hok ) hE hZ (uwV m_57_21 m_57_22 m_57_23 m_1_5 m_58_0) (hdV 0 (by decide +kernel) rfl) ⟨Nat.le_of_ble_eq_true rfl, Nat.le_of_ble_eq_true rfl⟩ rfl rfl (ci := 11) (q0 := 0) rfl rfl rfl hl.1 (Nat.le_of_ble_eq_true rfl) dX12_look_184 ⟨Nat.le_of_ble_eq_true rfl, Nat.le_of_ble_eq_true rfl⟩ (fun r_399 t_398 H locs hw hP hD hS => ?_)
                  obtain ⟨h_401, h_402, p_403, p_404⟩ := hw
                  replace p_403 : r_399.toInt = 0 → gdA v_20 v_26 v_307 (t.2.2.1 3) := p_403
                  replace p_404 : r_399.toInt = 0 → gdU v_20 v_26 (t.2.2.1 3) (t.2.2.1 9) (t.1 0 35) (t.1 0 36) := p_404
                  have hgA := p_403
                  have hgU := p_404
                  exact g_iret C hr hlocks hP hD hS rfl (uI (uI (uI (uI t 0 15 r_16) 0 16 v_20) 0 17 v_26) 0 18 v_307) rfl ⟨hok, hfr, by omega, by omega, (show r_399.toInt = 0 → gdA v_20 v_26 v_307 (t.2.2.1 3) from by first | exact fun h0 => hgA (by omega) | (intro h0; exfalso; omega)), (show r_399.toInt = 0 → gdU v_20 v_26 (t.2.2.1 3) (t.2.2.1 9) (t.1 0 35) (t.1 0 36) from by first | exact fun h0 => hgU (by omega) | (intro h0; exfalso; omega)), (show r_399.toInt = 0 → (t.1 0 12).toInt = 1 → (t.2.1 0 8).toInt + (cO v_20 v_26 (t.2.2.2 4 (v_26 : Int32).toNatClampNeg) (t.2.1 0 8)).toInt ≤ (t.2.1 0 13).toInt from by omega)⟩ (Nat.le_of_ble_eq_true rfl) (Nat.le_of_ble_eq_true rfl) dX12_look_187
                · replace c_397 : ¬ (t.1 0 12).toInt = 0 := i_ne c_397
                  have hj0 : (-2147483648 ≤ (t.2.1 0 13).toInt ∧ (t.2.1 0 13).toInt ≤ 2147483647) ∧ ((t.1 0 12).toInt = 1 → 0 ≤ (t.2.1 0 8).toInt ∧ ((t.2.1 0 8).toInt ≤ (t.2.1 0 13).toInt ∨ (t.2.1 0 8).toInt = 0)) := jM_n hok.2.2.2.2.2.2.1
                  refine lv_aload_n C.1 C.2.1 dX12_look_161 rfl (lv_at hl 0 rfl) ?_
                  refine k_get (v := .long (t.2.1 0 8)) C hP 0 rfl rfl inlX12 8 (by decide) m_29_23 rfl dX12_look_162 ?_
                  refine lv_aload_n C.1 C.2.1 dX12_look_165 rfl (lv_at hl 0 rfl) ?_
                  refine g_Vl (As := []) (rest := [.long (t.2.1 0 8)]) C hP hD hS hA (T_X12_cost l D K Z Y ad (uI (uI (uI (uI t 0 15 r_16) 0 16 v_20) 0 17 v_26) 0 18 v_307) hok ) hE hZ (uwV m_57_15 m_57_16 m_57_17 m_1_5 m_57_18) (hdV 0 (by decide +kernel) rfl) ⟨Nat.le_of_ble_eq_true rfl, Nat.le_of_ble_eq_true rfl⟩ rfl rfl (ci := 11) (q0 := 0) rfl rfl rfl hl.1 (Nat.le_of_ble_eq_true rfl) dX12_look_166 ⟨Nat.le_of_ble_eq_true rfl, Nat.le_of_ble_eq_true rfl⟩ (fun r_406 t_405 H locs hw hP hD hS => ?_)
                  obtain ⟨p_408, p_409, p_410⟩ := hw
                  replace p_408 : r_406.toInt = (cO v_20 v_26 (t.2.2.2 4 (v_26 : Int32).toNatClampNeg) (t.2.1 0 8)).toInt := p_408
                  replace p_409 : (t.1 0 12).toInt = 1 → 1 ≤ r_406.toInt ∧ r_406.toInt ≤ 2147490000 := p_409
                  replace p_410 : (t.1 0 12).toInt = 1 → 35 ≤ v_20.toInt → v_20.toInt ≤ 37 → v_26.toInt ≤ 19 → (t.2.2.2 4 (v_26 : Int32).toNatClampNeg).toInt + 1 ≤ (t.2.1 0 8).toInt + r_406.toInt := p_410
                  obtain ⟨v_411, e_412⟩ : ∃ z, z = ((t.2.1 0 8) : Int64) + (r_406 : Int64) := ⟨_, rfl⟩
                  have h_413 : -9223372036854775808 ≤ (t.2.1 0 8).toInt + r_406.toInt → (t.2.1 0 8).toInt + r_406.toInt < 9223372036854775808 → v_411.toInt = (t.2.1 0 8).toInt + r_406.toInt := by rw [e_412]; exact fun h1 h2 => Jvm.Kit.i64_add h1 h2
                  refine k_ladd (v := v_411) C e_412.symm dX12_look_169 ?_
                  refine lv_aload_n C.1 C.2.1 dX12_look_170 rfl (lv_at hl 0 rfl) ?_
                  refine k_get (v := .long (t.2.1 0 13)) C hP 0 rfl rfl inlX12 13 (by decide) m_57_6 rfl dX12_look_171 ?_
                  obtain ⟨v_414, e_415⟩ : ∃ z, z = lg_cmp (v_411 : Int64) (t.2.1 0 13) := ⟨_, rfl⟩
                  have h_416 : (-1 : Int) ≤ v_414.toInt ∧ v_414.toInt ≤ 1 := by rw [e_415]; exact cmp_rng _ _
                  have h_417 : (v_414.toInt < 0 ↔ v_411.toInt < (t.2.1 0 13).toInt) ∧ (v_414.toInt = 0 ↔ v_411.toInt = (t.2.1 0 13).toInt) := by rw [e_415]; exact cmp_iff _ _
                  refine k_lcmp (v := v_414) C e_415.symm dX12_look_174 ?_
                  refine lv_if_le (tgt := 183) C.1 C.2.1 dX12_look_175 (by decide) (fun c_418 => ?_) (fun c_418 => ?_)
                  · replace c_418 : v_414.toInt ≤ 0 := i_le c_418
                    refine lv_aload_n C.1 C.2.1 dX12_look_183 rfl (lv_at hl 0 rfl) ?_
                    refine g_Vi (As := []) (rest := []) C hP hD hS hA (T_X12_fault l D K Z Y ad (uI (uI (uI (uI t 0 15 r_16) 0 16 v_20) 0 17 v_26) 0 18 v_307) hok ) hE hZ (uwV m_57_21 m_57_22 m_57_23 m_1_5 m_58_0) (hdV 0 (by decide +kernel) rfl) ⟨Nat.le_of_ble_eq_true rfl, Nat.le_of_ble_eq_true rfl⟩ rfl rfl (ci := 11) (q0 := 0) rfl rfl rfl hl.1 (Nat.le_of_ble_eq_true rfl) dX12_look_184 ⟨Nat.le_of_ble_eq_true rfl, Nat.le_of_ble_eq_true rfl⟩ (fun r_420 t_419 H locs hw hP hD hS => ?_)
                    obtain ⟨h_422, h_423, p_424, p_425⟩ := hw
                    replace p_424 : r_420.toInt = 0 → gdA v_20 v_26 v_307 (t.2.2.1 3) := p_424
                    replace p_425 : r_420.toInt = 0 → gdU v_20 v_26 (t.2.2.1 3) (t.2.2.1 9) (t.1 0 35) (t.1 0 36) := p_425
                    have hgA := p_424
                    have hgU := p_425
                    exact g_iret C hr hlocks hP hD hS rfl (uI (uI (uI (uI t 0 15 r_16) 0 16 v_20) 0 17 v_26) 0 18 v_307) rfl ⟨hok, hfr, by omega, by omega, (show r_420.toInt = 0 → gdA v_20 v_26 v_307 (t.2.2.1 3) from by first | exact fun h0 => hgA (by omega) | (intro h0; exfalso; omega)), (show r_420.toInt = 0 → gdU v_20 v_26 (t.2.2.1 3) (t.2.2.1 9) (t.1 0 35) (t.1 0 36) from by first | exact fun h0 => hgU (by omega) | (intro h0; exfalso; omega)), (show r_420.toInt = 0 → (t.1 0 12).toInt = 1 → (t.2.1 0 8).toInt + (cO v_20 v_26 (t.2.2.2 4 (v_26 : Int32).toNatClampNeg) (t.2.1 0 8)).toInt ≤ (t.2.1 0 13).toInt from by omega)⟩ (Nat.le_of_ble_eq_true rfl) (Nat.le_of_ble_eq_true rfl) dX12_look_187
                  · replace c_418 : 0 < v_414.toInt := i_nle c_418
                    refine lv_bipush (v := 10) C.1 C.2.1 dX12_look_178 (by decide) ?_
                    refine lv_goto (tgt := 187) C.1 C.2.1 dX12_look_180 (by decide) ?_
                    exact g_iret C hr hlocks hP hD hS rfl (uI (uI (uI (uI t 0 15 r_16) 0 16 v_20) 0 17 v_26) 0 18 v_307) rfl ⟨hok, hfr, by decide, by decide, (show 10 = 0 → gdA v_20 v_26 v_307 (t.2.2.1 3) from by first | exact fun h0 => hgA (by omega) | (intro h0; exfalso; omega)), (show 10 = 0 → gdU v_20 v_26 (t.2.2.1 3) (t.2.2.1 9) (t.1 0 35) (t.1 0 36) from by first | exact fun h0 => hgU (by omega) | (intro h0; exfalso; omega)), (show 10 = 0 → (t.1 0 12).toInt = 1 → (t.2.1 0 8).toInt + (cO v_20 v_26 (t.2.2.2 4 (v_26 : Int32).toNatClampNeg) (t.2.1 0 8)).toInt ≤ (t.2.1 0 13).toInt from by omega)⟩ (Nat.le_of_ble_eq_true rfl) (Nat.le_of_ble_eq_true rfl) dX12_look_187
              · replace c_396 : 0 < v_392.toInt := i_nle c_396
                refine lv_bipush (v := 9) C.1 C.2.1 dX12_look_151 (by decide) ?_
                exact g_iret C hr hlocks hP hD hS rfl (uI (uI (uI (uI t 0 15 r_16) 0 16 v_20) 0 17 v_26) 0 18 v_307) rfl ⟨hok, hfr, by decide, by decide, (show 9 = 0 → gdA v_20 v_26 v_307 (t.2.2.1 3) from by first | exact fun h0 => hgA (by omega) | (intro h0; exfalso; omega)), (show 9 = 0 → gdU v_20 v_26 (t.2.2.1 3) (t.2.2.1 9) (t.1 0 35) (t.1 0 36) from by first | exact fun h0 => hgU (by omega) | (intro h0; exfalso; omega)), (show 9 = 0 → (t.1 0 12).toInt = 1 → (t.2.1 0 8).toInt + (cO v_20 v_26 (t.2.2.2 4 (v_26 : Int32).toNatClampNeg) (t.2.1 0 8)).toInt ≤ (t.2.1 0 13).toInt from by omega)⟩ (Nat.le_of_ble_eq_true rfl) (Nat.le_of_ble_eq_true rfl) dX12_look_153
        · replace c_300 : v_39.toInt = 0 := i_eq c_300
          refine lv_iconst (v := 0) C.1 C.2.1 dX12_look_102 (by decide) ?_
          refine lv_goto (tgt := 115) C.1 C.2.1 dX12_look_103 (by decide) ?_
          obtain ⟨v_426, e_427⟩ : ∃ z, z = (v_45 : Int32) + (0 : Int32) := ⟨_, rfl⟩
          have h_428 : v_426.toInt = v_45.toInt + 0 := by rw [e_427]; exact ti_iadd (by show (_ : Int) ≤ v_45.toInt + 0; omega) (by show v_45.toInt + 0 < (_ : Int); omega)
          refine k_iadd (v := v_426) C e_427.symm dX12_look_115 ?_
          refine k_put (ws' := WM K ad (uI (uI (uI (uI t 0 15 r_16) 0 16 v_20) 0 17 v_26) 0 18 v_426)) (v := .int v_426) C hP hD hS 0 rfl rfl inlX12 tyX12_ok nmX12 18 (by decide) m_57_5 rfl rfl rfl rfl rfl dX12_look_116 (fun H locs hP hD hS => ?_)
          have hok : okM (uI (uI (uI (uI t 0 15 r_16) 0 16 v_20) 0 17 v_26) 0 18 v_426) := ⟨okI_I hok.1 0 18 v_426 (show (-2147483648 : Int) ≤ (v_426 : Int32).toInt ∧ (v_426 : Int32).toInt ≤ 2147483647 from (i_rng _)), hok.2.1, hok.2.2.1, hok.2.2.2.1, hok.2.2.2.2.1, hok.2.2.2.2.2.1, hok.2.2.2.2.2.2.1, trivial⟩
          have hfr : frA [(0, 15), (0, 16), (0, 17), (0, 18)] [] [] [] t (uI (uI (uI (uI t 0 15 r_16) 0 16 v_20) 0 17 v_26) 0 18 v_426) := frA_I hfr 0 18 _ rfl
          refine lv_aload_n C.1 C.2.1 dX12_look_119 rfl (lv_at hl 0 rfl) ?_
          have h_429 : (0 : Int) ≤ (t.1 0 11).toInt ∧ (t.1 0 11).toInt ≤ 1 := hok.1 0 11
          refine k_get (v := .int (t.1 0 11)) C hP 0 rfl rfl inlX12 11 (by decide) m_30_1 rfl dX12_look_120 ?_
          refine lv_if_eq (tgt := 154) C.1 C.2.1 dX12_look_123 (by decide) (fun c_430 => ?_) (fun c_430 => ?_)
          · replace c_430 : (t.1 0 11).toInt = 0 := i_eq c_430
            refine lv_aload_n C.1 C.2.1 dX12_look_154 rfl (lv_at hl 0 rfl) ?_
            refine k_get (v := .int (t.1 0 12)) C hP 0 rfl rfl inlX12 12 (by decide) m_30_2 rfl dX12_look_155 ?_
            refine lv_if_eq (tgt := 183) C.1 C.2.1 dX12_look_158 (by decide) (fun c_431 => ?_) (fun c_431 => ?_)
            · replace c_431 : (t.1 0 12).toInt = 0 := i_eq c_431
              refine lv_aload_n C.1 C.2.1 dX12_look_183 rfl (lv_at hl 0 rfl) ?_
              refine g_Vi (As := []) (rest := []) C hP hD hS hA (T_X12_fault l D K Z Y ad (uI (uI (uI (uI t 0 15 r_16) 0 16 v_20) 0 17 v_26) 0 18 v_426) hok ) hE hZ (uwV m_57_21 m_57_22 m_57_23 m_1_5 m_58_0) (hdV 0 (by decide +kernel) rfl) ⟨Nat.le_of_ble_eq_true rfl, Nat.le_of_ble_eq_true rfl⟩ rfl rfl (ci := 11) (q0 := 0) rfl rfl rfl hl.1 (Nat.le_of_ble_eq_true rfl) dX12_look_184 ⟨Nat.le_of_ble_eq_true rfl, Nat.le_of_ble_eq_true rfl⟩ (fun r_433 t_432 H locs hw hP hD hS => ?_)
              obtain ⟨h_435, h_436, p_437, p_438⟩ := hw
              replace p_437 : r_433.toInt = 0 → gdA v_20 v_26 v_426 (t.2.2.1 3) := p_437
              replace p_438 : r_433.toInt = 0 → gdU v_20 v_26 (t.2.2.1 3) (t.2.2.1 9) (t.1 0 35) (t.1 0 36) := p_438
              have hgA := p_437
              have hgU := p_438
              exact g_iret C hr hlocks hP hD hS rfl (uI (uI (uI (uI t 0 15 r_16) 0 16 v_20) 0 17 v_26) 0 18 v_426) rfl ⟨hok, hfr, by omega, by omega, (show r_433.toInt = 0 → gdA v_20 v_26 v_426 (t.2.2.1 3) from by first | exact fun h0 => hgA (by omega) | (intro h0; exfalso; omega)), (show r_433.toInt = 0 → gdU v_20 v_26 (t.2.2.1 3) (t.2.2.1 9) (t.1 0 35) (t.1 0 36) from by first | exact fun h0 => hgU (by omega) | (intro h0; exfalso; omega)), (show r_433.toInt = 0 → (t.1 0 12).toInt = 1 → (t.2.1 0 8).toInt + (cO v_20 v_26 (t.2.2.2 4 (v_26 : Int32).toNatClampNeg) (t.2.1 0 8)).toInt ≤ (t.2.1 0 13).toInt from by omega)⟩ (Nat.le_of_ble_eq_true rfl) (Nat.le_of_ble_eq_true rfl) dX12_look_187
            · replace c_431 : ¬ (t.1 0 12).toInt = 0 := i_ne c_431
              have hj0 : (-2147483648 ≤ (t.2.1 0 13).toInt ∧ (t.2.1 0 13).toInt ≤ 2147483647) ∧ ((t.1 0 12).toInt = 1 → 0 ≤ (t.2.1 0 8).toInt ∧ ((t.2.1 0 8).toInt ≤ (t.2.1 0 13).toInt ∨ (t.2.1 0 8).toInt = 0)) := jM_n hok.2.2.2.2.2.2.1
              refine lv_aload_n C.1 C.2.1 dX12_look_161 rfl (lv_at hl 0 rfl) ?_
              refine k_get (v := .long (t.2.1 0 8)) C hP 0 rfl rfl inlX12 8 (by decide) m_29_23 rfl dX12_look_162 ?_
              refine lv_aload_n C.1 C.2.1 dX12_look_165 rfl (lv_at hl 0 rfl) ?_
              refine g_Vl (As := []) (rest := [.long (t.2.1 0 8)]) C hP hD hS hA (T_X12_cost l D K Z Y ad (uI (uI (uI (uI t 0 15 r_16) 0 16 v_20) 0 17 v_26) 0 18 v_426) hok ) hE hZ (uwV m_57_15 m_57_16 m_57_17 m_1_5 m_57_18) (hdV 0 (by decide +kernel) rfl) ⟨Nat.le_of_ble_eq_true rfl, Nat.le_of_ble_eq_true rfl⟩ rfl rfl (ci := 11) (q0 := 0) rfl rfl rfl hl.1 (Nat.le_of_ble_eq_true rfl) dX12_look_166 ⟨Nat.le_of_ble_eq_true rfl, Nat.le_of_ble_eq_true rfl⟩ (fun r_440 t_439 H locs hw hP hD hS => ?_)
              obtain ⟨p_442, p_443, p_444⟩ := hw
              replace p_442 : r_440.toInt = (cO v_20 v_26 (t.2.2.2 4 (v_26 : Int32).toNatClampNeg) (t.2.1 0 8)).toInt := p_442
              replace p_443 : (t.1 0 12).toInt = 1 → 1 ≤ r_440.toInt ∧ r_440.toInt ≤ 2147490000 := p_443
              replace p_444 : (t.1 0 12).toInt = 1 → 35 ≤ v_20.toInt → v_20.toInt ≤ 37 → v_26.toInt ≤ 19 → (t.2.2.2 4 (v_26 : Int32).toNatClampNeg).toInt + 1 ≤ (t.2.1 0 8).toInt + r_440.toInt := p_444
              obtain ⟨v_445, e_446⟩ : ∃ z, z = ((t.2.1 0 8) : Int64) + (r_440 : Int64) := ⟨_, rfl⟩
              have h_447 : -9223372036854775808 ≤ (t.2.1 0 8).toInt + r_440.toInt → (t.2.1 0 8).toInt + r_440.toInt < 9223372036854775808 → v_445.toInt = (t.2.1 0 8).toInt + r_440.toInt := by rw [e_446]; exact fun h1 h2 => Jvm.Kit.i64_add h1 h2
              refine k_ladd (v := v_445) C e_446.symm dX12_look_169 ?_
              refine lv_aload_n C.1 C.2.1 dX12_look_170 rfl (lv_at hl 0 rfl) ?_
              refine k_get (v := .long (t.2.1 0 13)) C hP 0 rfl rfl inlX12 13 (by decide) m_57_6 rfl dX12_look_171 ?_
              obtain ⟨v_448, e_449⟩ : ∃ z, z = lg_cmp (v_445 : Int64) (t.2.1 0 13) := ⟨_, rfl⟩
              have h_450 : (-1 : Int) ≤ v_448.toInt ∧ v_448.toInt ≤ 1 := by rw [e_449]; exact cmp_rng _ _
              have h_451 : (v_448.toInt < 0 ↔ v_445.toInt < (t.2.1 0 13).toInt) ∧ (v_448.toInt = 0 ↔ v_445.toInt = (t.2.1 0 13).toInt) := by rw [e_449]; exact cmp_iff _ _
              refine k_lcmp (v := v_448) C e_449.symm dX12_look_174 ?_
              refine lv_if_le (tgt := 183) C.1 C.2.1 dX12_look_175 (by decide) (fun c_452 => ?_) (fun c_452 => ?_)
              · replace c_452 : v_448.toInt ≤ 0 := i_le c_452
                refine lv_aload_n C.1 C.2.1 dX12_look_183 rfl (lv_at hl 0 rfl) ?_
                refine g_Vi (As := []) (rest := []) C hP hD hS hA (T_X12_fault l D K Z Y ad (uI (uI (uI (uI t 0 15 r_16) 0 16 v_20) 0 17 v_26) 0 18 v_426) hok ) hE hZ (uwV m_57_21 m_57_22 m_57_23 m_1_5 m_58_0) (hdV 0 (by decide +kernel) rfl) ⟨Nat.le_of_ble_eq_true rfl, Nat.le_of_ble_eq_true rfl⟩ rfl rfl (ci := 11) (q0 := 0) rfl rfl rfl hl.1 (Nat.le_of_ble_eq_true rfl) dX12_look_184 ⟨Nat.le_of_ble_eq_true rfl, Nat.le_of_ble_eq_true rfl⟩ (fun r_454 t_453 H locs hw hP hD hS => ?_)
                obtain ⟨h_456, h_457, p_458, p_459⟩ := hw
                replace p_458 : r_454.toInt = 0 → gdA v_20 v_26 v_426 (t.2.2.1 3) := p_458
                replace p_459 : r_454.toInt = 0 → gdU v_20 v_26 (t.2.2.1 3) (t.2.2.1 9) (t.1 0 35) (t.1 0 36) := p_459
                have hgA := p_458
                have hgU := p_459
                exact g_iret C hr hlocks hP hD hS rfl (uI (uI (uI (uI t 0 15 r_16) 0 16 v_20) 0 17 v_26) 0 18 v_426) rfl ⟨hok, hfr, by omega, by omega, (show r_454.toInt = 0 → gdA v_20 v_26 v_426 (t.2.2.1 3) from by first | exact fun h0 => hgA (by omega) | (intro h0; exfalso; omega)), (show r_454.toInt = 0 → gdU v_20 v_26 (t.2.2.1 3) (t.2.2.1 9) (t.1 0 35) (t.1 0 36) from by first | exact fun h0 => hgU (by omega) | (intro h0; exfalso; omega)), (show r_454.toInt = 0 → (t.1 0 12).toInt = 1 → (t.2.1 0 8).toInt + (cO v_20 v_26 (t.2.2.2 4 (v_26 : Int32).toNatClampNeg) (t.2.1 0 8)).toInt ≤ (t.2.1 0 13).toInt from by omega)⟩ (Nat.le_of_ble_eq_true rfl) (Nat.le_of_ble_eq_true rfl) dX12_look_187
              · replace c_452 : 0 < v_448.toInt := i_nle c_452
                refine lv_bipush (v := 10) C.1 C.2.1 dX12_look_178 (by decide) ?_
                refine lv_goto (tgt := 187) C.1 C.2.1 dX12_look_180 (by decide) ?_
                exact g_iret C hr hlocks hP hD hS rfl (uI (uI (uI (uI t 0 15 r_16) 0 16 v_20) 0 17 v_26) 0 18 v_426) rfl ⟨hok, hfr, by decide, by decide, (show 10 = 0 → gdA v_20 v_26 v_426 (t.2.2.1 3) from by first | exact fun h0 => hgA (by omega) | (intro h0; exfalso; omega)), (show 10 = 0 → gdU v_20 v_26 (t.2.2.1 3) (t.2.2.1 9) (t.1 0 35) (t.1 0 36) from by first | exact fun h0 => hgU (by omega) | (intro h0; exfalso; omega)), (show 10 = 0 → (t.1 0 12).toInt = 1 → (t.2.1 0 8).toInt + (cO v_20 v_26 (t.2.2.2 4 (v_26 : Int32).toNatClampNeg) (t.2.1 0 8)).toInt ≤ (t.2.1 0 13).toInt from by omega)⟩ (Nat.le_of_ble_eq_true rfl) (Nat.le_of_ble_eq_true rfl) dX12_look_187
          · replace c_430 : ¬ (t.1 0 11).toInt = 0 := i_ne c_430
            refine lv_aload_n C.1 C.2.1 dX12_look_126 rfl (lv_at hl 0 rfl) ?_
            refine k_get (v := .int (t.1 0 10)) C hP 0 rfl rfl inlX12 10 (by decide) m_30_0 rfl dX12_look_127 ?_
            refine lv_if_ne (tgt := 154) C.1 C.2.1 dX12_look_130 (by decide) (fun c_460 => ?_) (fun c_460 => ?_)
            · replace c_460 : ¬ (t.1 0 10).toInt = 0 := i_ne c_460
              refine lv_aload_n C.1 C.2.1 dX12_look_154 rfl (lv_at hl 0 rfl) ?_
              refine k_get (v := .int (t.1 0 12)) C hP 0 rfl rfl inlX12 12 (by decide) m_30_2 rfl dX12_look_155 ?_
              refine lv_if_eq (tgt := 183) C.1 C.2.1 dX12_look_158 (by decide) (fun c_461 => ?_) (fun c_461 => ?_)
              · replace c_461 : (t.1 0 12).toInt = 0 := i_eq c_461
                refine lv_aload_n C.1 C.2.1 dX12_look_183 rfl (lv_at hl 0 rfl) ?_
                refine g_Vi (As := []) (rest := []) C hP hD hS hA (T_X12_fault l D K Z Y ad (uI (uI (uI (uI t 0 15 r_16) 0 16 v_20) 0 17 v_26) 0 18 v_426) hok ) hE hZ (uwV m_57_21 m_57_22 m_57_23 m_1_5 m_58_0) (hdV 0 (by decide +kernel) rfl) ⟨Nat.le_of_ble_eq_true rfl, Nat.le_of_ble_eq_true rfl⟩ rfl rfl (ci := 11) (q0 := 0) rfl rfl rfl hl.1 (Nat.le_of_ble_eq_true rfl) dX12_look_184 ⟨Nat.le_of_ble_eq_true rfl, Nat.le_of_ble_eq_true rfl⟩ (fun r_463 t_462 H locs hw hP hD hS => ?_)
                obtain ⟨h_465, h_466, p_467, p_468⟩ := hw
                replace p_467 : r_463.toInt = 0 → gdA v_20 v_26 v_426 (t.2.2.1 3) := p_467
                replace p_468 : r_463.toInt = 0 → gdU v_20 v_26 (t.2.2.1 3) (t.2.2.1 9) (t.1 0 35) (t.1 0 36) := p_468
                have hgA := p_467
                have hgU := p_468
                exact g_iret C hr hlocks hP hD hS rfl (uI (uI (uI (uI t 0 15 r_16) 0 16 v_20) 0 17 v_26) 0 18 v_426) rfl ⟨hok, hfr, by omega, by omega, (show r_463.toInt = 0 → gdA v_20 v_26 v_426 (t.2.2.1 3) from by first | exact fun h0 => hgA (by omega) | (intro h0; exfalso; omega)), (show r_463.toInt = 0 → gdU v_20 v_26 (t.2.2.1 3) (t.2.2.1 9) (t.1 0 35) (t.1 0 36) from by first | exact fun h0 => hgU (by omega) | (intro h0; exfalso; omega)), (show r_463.toInt = 0 → (t.1 0 12).toInt = 1 → (t.2.1 0 8).toInt + (cO v_20 v_26 (t.2.2.2 4 (v_26 : Int32).toNatClampNeg) (t.2.1 0 8)).toInt ≤ (t.2.1 0 13).toInt from by omega)⟩ (Nat.le_of_ble_eq_true rfl) (Nat.le_of_ble_eq_true rfl) dX12_look_187
              · replace c_461 : ¬ (t.1 0 12).toInt = 0 := i_ne c_461
                have hj0 : (-2147483648 ≤ (t.2.1 0 13).toInt ∧ (t.2.1 0 13).toInt ≤ 2147483647) ∧ ((t.1 0 12).toInt = 1 → 0 ≤ (t.2.1 0 8).toInt ∧ ((t.2.1 0 8).toInt ≤ (t.2.1 0 13).toInt ∨ (t.2.1 0 8).toInt = 0)) := jM_n hok.2.2.2.2.2.2.1
                refine lv_aload_n C.1 C.2.1 dX12_look_161 rfl (lv_at hl 0 rfl) ?_
                refine k_get (v := .long (t.2.1 0 8)) C hP 0 rfl rfl inlX12 8 (by decide) m_29_23 rfl dX12_look_162 ?_
                refine lv_aload_n C.1 C.2.1 dX12_look_165 rfl (lv_at hl 0 rfl) ?_
                refine g_Vl (As := []) (rest := [.long (t.2.1 0 8)]) C hP hD hS hA (T_X12_cost l D K Z Y ad (uI (uI (uI (uI t 0 15 r_16) 0 16 v_20) 0 17 v_26) 0 18 v_426) hok ) hE hZ (uwV m_57_15 m_57_16 m_57_17 m_1_5 m_57_18) (hdV 0 (by decide +kernel) rfl) ⟨Nat.le_of_ble_eq_true rfl, Nat.le_of_ble_eq_true rfl⟩ rfl rfl (ci := 11) (q0 := 0) rfl rfl rfl hl.1 (Nat.le_of_ble_eq_true rfl) dX12_look_166 ⟨Nat.le_of_ble_eq_true rfl, Nat.le_of_ble_eq_true rfl⟩ (fun r_470 t_469 H locs hw hP hD hS => ?_)
                obtain ⟨p_472, p_473, p_474⟩ := hw
                replace p_472 : r_470.toInt = (cO v_20 v_26 (t.2.2.2 4 (v_26 : Int32).toNatClampNeg) (t.2.1 0 8)).toInt := p_472
                replace p_473 : (t.1 0 12).toInt = 1 → 1 ≤ r_470.toInt ∧ r_470.toInt ≤ 2147490000 := p_473
                replace p_474 : (t.1 0 12).toInt = 1 → 35 ≤ v_20.toInt → v_20.toInt ≤ 37 → v_26.toInt ≤ 19 → (t.2.2.2 4 (v_26 : Int32).toNatClampNeg).toInt + 1 ≤ (t.2.1 0 8).toInt + r_470.toInt := p_474
                obtain ⟨v_475, e_476⟩ : ∃ z, z = ((t.2.1 0 8) : Int64) + (r_470 : Int64) := ⟨_, rfl⟩
                have h_477 : -9223372036854775808 ≤ (t.2.1 0 8).toInt + r_470.toInt → (t.2.1 0 8).toInt + r_470.toInt < 9223372036854775808 → v_475.toInt = (t.2.1 0 8).toInt + r_470.toInt := by rw [e_476]; exact fun h1 h2 => Jvm.Kit.i64_add h1 h2
                refine k_ladd (v := v_475) C e_476.symm dX12_look_169 ?_
                refine lv_aload_n C.1 C.2.1 dX12_look_170 rfl (lv_at hl 0 rfl) ?_
                refine k_get (v := .long (t.2.1 0 13)) C hP 0 rfl rfl inlX12 13 (by decide) m_57_6 rfl dX12_look_171 ?_
                obtain ⟨v_478, e_479⟩ : ∃ z, z = lg_cmp (v_475 : Int64) (t.2.1 0 13) := ⟨_, rfl⟩
                have h_480 : (-1 : Int) ≤ v_478.toInt ∧ v_478.toInt ≤ 1 := by rw [e_479]; exact cmp_rng _ _
                have h_481 : (v_478.toInt < 0 ↔ v_475.toInt < (t.2.1 0 13).toInt) ∧ (v_478.toInt = 0 ↔ v_475.toInt = (t.2.1 0 13).toInt) := by rw [e_479]; exact cmp_iff _ _
                refine k_lcmp (v := v_478) C e_479.symm dX12_look_174 ?_
                refine lv_if_le (tgt := 183) C.1 C.2.1 dX12_look_175 (by decide) (fun c_482 => ?_) (fun c_482 => ?_)
                · replace c_482 : v_478.toInt ≤ 0 := i_le c_482
                  refine lv_aload_n C.1 C.2.1 dX12_look_183 rfl (lv_at hl 0 rfl) ?_
                  refine g_Vi (As := []) (rest := []) C hP hD hS hA (T_X12_fault l D K Z Y ad (uI (uI (uI (uI t 0 15 r_16) 0 16 v_20) 0 17 v_26) 0 18 v_426) hok ) hE hZ (uwV m_57_21 m_57_22 m_57_23 m_1_5 m_58_0) (hdV 0 (by decide +kernel) rfl) ⟨Nat.le_of_ble_eq_true rfl, Nat.le_of_ble_eq_true rfl⟩ rfl rfl (ci := 11) (q0 := 0) rfl rfl rfl hl.1 (Nat.le_of_ble_eq_true rfl) dX12_look_184 ⟨Nat.le_of_ble_eq_true rfl, Nat.le_of_ble_eq_true rfl⟩ (fun r_484 t_483 H locs hw hP hD hS => ?_)
                  obtain ⟨h_486, h_487, p_488, p_489⟩ := hw
                  replace p_488 : r_484.toInt = 0 → gdA v_20 v_26 v_426 (t.2.2.1 3) := p_488
                  replace p_489 : r_484.toInt = 0 → gdU v_20 v_26 (t.2.2.1 3) (t.2.2.1 9) (t.1 0 35) (t.1 0 36) := p_489
                  have hgA := p_488
                  have hgU := p_489
                  exact g_iret C hr hlocks hP hD hS rfl (uI (uI (uI (uI t 0 15 r_16) 0 16 v_20) 0 17 v_26) 0 18 v_426) rfl ⟨hok, hfr, by omega, by omega, (show r_484.toInt = 0 → gdA v_20 v_26 v_426 (t.2.2.1 3) from by first | exact fun h0 => hgA (by omega) | (intro h0; exfalso; omega)), (show r_484.toInt = 0 → gdU v_20 v_26 (t.2.2.1 3) (t.2.2.1 9) (t.1 0 35) (t.1 0 36) from by first | exact fun h0 => hgU (by omega) | (intro h0; exfalso; omega)), (show r_484.toInt = 0 → (t.1 0 12).toInt = 1 → (t.2.1 0 8).toInt + (cO v_20 v_26 (t.2.2.2 4 (v_26 : Int32).toNatClampNeg) (t.2.1 0 8)).toInt ≤ (t.2.1 0 13).toInt from by omega)⟩ (Nat.le_of_ble_eq_true rfl) (Nat.le_of_ble_eq_true rfl) dX12_look_187
                · replace c_482 : 0 < v_478.toInt := i_nle c_482
                  refine lv_bipush (v := 10) C.1 C.2.1 dX12_look_178 (by decide) ?_
                  refine lv_goto (tgt := 187) C.1 C.2.1 dX12_look_180 (by decide) ?_
                  exact g_iret C hr hlocks hP hD hS rfl (uI (uI (uI (uI t 0 15 r_16) 0 16 v_20) 0 17 v_26) 0 18 v_426) rfl ⟨hok, hfr, by decide, by decide, (show 10 = 0 → gdA v_20 v_26 v_426 (t.2.2.1 3) from by first | exact fun h0 => hgA (by omega) | (intro h0; exfalso; omega)), (show 10 = 0 → gdU v_20 v_26 (t.2.2.1 3) (t.2.2.1 9) (t.1 0 35) (t.1 0 36) from by first | exact fun h0 => hgU (by omega) | (intro h0; exfalso; omega)), (show 10 = 0 → (t.1 0 12).toInt = 1 → (t.2.1 0 8).toInt + (cO v_20 v_26 (t.2.2.2 4 (v_26 : Int32).toNatClampNeg) (t.2.1 0 8)).toInt ≤ (t.2.1 0 13).toInt from by omega)⟩ (Nat.le_of_ble_eq_true rfl) (Nat.le_of_ble_eq_true rfl) dX12_look_187
            · replace c_460 : (t.1 0 10).toInt = 0 := i_eq c_460
              refine lv_aload_n C.1 C.2.1 dX12_look_133 rfl (lv_at hl 0 rfl) ?_
              refine g_Vl (As := []) (rest := []) C hP hD hS hA (T_X12_cost l D K Z Y ad (uI (uI (uI (uI t 0 15 r_16) 0 16 v_20) 0 17 v_26) 0 18 v_426) hok ) hE hZ (uwV m_57_15 m_57_16 m_57_17 m_1_5 m_57_18) (hdV 0 (by decide +kernel) rfl) ⟨Nat.le_of_ble_eq_true rfl, Nat.le_of_ble_eq_true rfl⟩ rfl rfl (ci := 11) (q0 := 0) rfl rfl rfl hl.1 (Nat.le_of_ble_eq_true rfl) dX12_look_134 ⟨Nat.le_of_ble_eq_true rfl, Nat.le_of_ble_eq_true rfl⟩ (fun r_491 t_490 H locs hw hP hD hS => ?_)
              obtain ⟨p_493, p_494, p_495⟩ := hw
              replace p_493 : r_491.toInt = (cO v_20 v_26 (t.2.2.2 4 (v_26 : Int32).toNatClampNeg) (t.2.1 0 8)).toInt := p_493
              replace p_494 : (t.1 0 12).toInt = 1 → 1 ≤ r_491.toInt ∧ r_491.toInt ≤ 2147490000 := p_494
              replace p_495 : (t.1 0 12).toInt = 1 → 35 ≤ v_20.toInt → v_20.toInt ≤ 37 → v_26.toInt ≤ 19 → (t.2.2.2 4 (v_26 : Int32).toNatClampNeg).toInt + 1 ≤ (t.2.1 0 8).toInt + r_491.toInt := p_495
              refine lv_aload_n C.1 C.2.1 dX12_look_137 rfl (lv_at hl 0 rfl) ?_
              refine lv_bipush (v := (-10)) C.1 C.2.1 dX12_look_138 (by decide) ?_
              refine g_Vi (As := [.int (-10)]) (rest := [.long r_491]) C hP hD hS hA (T_X12_memoryAt l D K Z Y ad (uI (uI (uI (uI t 0 15 r_16) 0 16 v_20) 0 17 v_26) 0 18 v_426) hok (-10) (show (-3999 : Int) ≤ ((-10) : Int32).toInt ∧ ((-10) : Int32).toInt ≤ 3999 from ⟨by decide, by decide⟩)) hE hZ (uwV m_38_19 m_38_20 m_38_21 m_1_5 m_38_22) (hdV 1 (by decide +kernel) rfl) ⟨Nat.le_of_ble_eq_true rfl, Nat.le_of_ble_eq_true rfl⟩ rfl rfl (ci := 11) (q0 := 0) rfl rfl rfl hl.1 (Nat.le_of_ble_eq_true rfl) dX12_look_140 ⟨Nat.le_of_ble_eq_true rfl, Nat.le_of_ble_eq_true rfl⟩ (fun r_497 t_496 H locs hw hP hD hS => ?_)
              obtain ⟨h_499, h_500⟩ := hw
              refine g_Si (As := [.int r_497]) (rest := [.long r_491]) C hP hD hS hA (T_X12_value l D K Z Y ad (uI (uI (uI (uI t 0 15 r_16) 0 16 v_20) 0 17 v_26) 0 18 v_426) hok (r_497)) hE hZ (uwS m_36_9 m_36_10 m_1_5 m_36_11) (hdS 1 (by decide +kernel) rfl) ⟨Nat.le_of_ble_eq_true rfl, Nat.le_of_ble_eq_true rfl⟩ rfl rfl rfl hl.1 (Nat.le_of_ble_eq_true rfl) dX12_look_143 ⟨Nat.le_of_ble_eq_true rfl, Nat.le_of_ble_eq_true rfl⟩ (fun r_502 t_501 H locs hw hP hD hS => ?_)
              obtain ⟨h_504, h_505, p_506⟩ := hw
              replace p_506 : r_502.toInt = (vO r_497).toInt := p_506
              obtain ⟨v_507, e_508⟩ : ∃ z, z = (r_502 : Int32).toInt64 := ⟨_, rfl⟩
              have h_509 : v_507.toInt = r_502.toInt := by rw [e_508]; exact Jvm.Kit.i64_of_i32 _
              have h_510 := i_rng r_502
              refine lv_i2l (v := v_507) C.1 C.2.1 dX12_look_146 e_508.symm ?_
              obtain ⟨v_511, e_512⟩ : ∃ z, z = lg_cmp (r_491 : Int64) v_507 := ⟨_, rfl⟩
              have h_513 : (-1 : Int) ≤ v_511.toInt ∧ v_511.toInt ≤ 1 := by rw [e_512]; exact cmp_rng _ _
              have h_514 : (v_511.toInt < 0 ↔ r_491.toInt < v_507.toInt) ∧ (v_511.toInt = 0 ↔ r_491.toInt = v_507.toInt) := by rw [e_512]; exact cmp_iff _ _
              refine k_lcmp (v := v_511) C e_512.symm dX12_look_147 ?_
              refine lv_if_le (tgt := 154) C.1 C.2.1 dX12_look_148 (by decide) (fun c_515 => ?_) (fun c_515 => ?_)
              · replace c_515 : v_511.toInt ≤ 0 := i_le c_515
                refine lv_aload_n C.1 C.2.1 dX12_look_154 rfl (lv_at hl 0 rfl) ?_
                refine k_get (v := .int (t.1 0 12)) C hP 0 rfl rfl inlX12 12 (by decide) m_30_2 rfl dX12_look_155 ?_
                refine lv_if_eq (tgt := 183) C.1 C.2.1 dX12_look_158 (by decide) (fun c_516 => ?_) (fun c_516 => ?_)
                · replace c_516 : (t.1 0 12).toInt = 0 := i_eq c_516
                  refine lv_aload_n C.1 C.2.1 dX12_look_183 rfl (lv_at hl 0 rfl) ?_
                  refine g_Vi (As := []) (rest := []) C hP hD hS hA (T_X12_fault l D K Z Y ad (uI (uI (uI (uI t 0 15 r_16) 0 16 v_20) 0 17 v_26) 0 18 v_426) hok ) hE hZ (uwV m_57_21 m_57_22 m_57_23 m_1_5 m_58_0) (hdV 0 (by decide +kernel) rfl) ⟨Nat.le_of_ble_eq_true rfl, Nat.le_of_ble_eq_true rfl⟩ rfl rfl (ci := 11) (q0 := 0) rfl rfl rfl hl.1 (Nat.le_of_ble_eq_true rfl) dX12_look_184 ⟨Nat.le_of_ble_eq_true rfl, Nat.le_of_ble_eq_true rfl⟩ (fun r_518 t_517 H locs hw hP hD hS => ?_)
                  obtain ⟨h_520, h_521, p_522, p_523⟩ := hw
                  replace p_522 : r_518.toInt = 0 → gdA v_20 v_26 v_426 (t.2.2.1 3) := p_522
                  replace p_523 : r_518.toInt = 0 → gdU v_20 v_26 (t.2.2.1 3) (t.2.2.1 9) (t.1 0 35) (t.1 0 36) := p_523
                  have hgA := p_522
                  have hgU := p_523
                  exact g_iret C hr hlocks hP hD hS rfl (uI (uI (uI (uI t 0 15 r_16) 0 16 v_20) 0 17 v_26) 0 18 v_426) rfl ⟨hok, hfr, by omega, by omega, (show r_518.toInt = 0 → gdA v_20 v_26 v_426 (t.2.2.1 3) from by first | exact fun h0 => hgA (by omega) | (intro h0; exfalso; omega)), (show r_518.toInt = 0 → gdU v_20 v_26 (t.2.2.1 3) (t.2.2.1 9) (t.1 0 35) (t.1 0 36) from by first | exact fun h0 => hgU (by omega) | (intro h0; exfalso; omega)), (show r_518.toInt = 0 → (t.1 0 12).toInt = 1 → (t.2.1 0 8).toInt + (cO v_20 v_26 (t.2.2.2 4 (v_26 : Int32).toNatClampNeg) (t.2.1 0 8)).toInt ≤ (t.2.1 0 13).toInt from by omega)⟩ (Nat.le_of_ble_eq_true rfl) (Nat.le_of_ble_eq_true rfl) dX12_look_187
                · replace c_516 : ¬ (t.1 0 12).toInt = 0 := i_ne c_516
                  have hj0 : (-2147483648 ≤ (t.2.1 0 13).toInt ∧ (t.2.1 0 13).toInt ≤ 2147483647) ∧ ((t.1 0 12).toInt = 1 → 0 ≤ (t.2.1 0 8).toInt ∧ ((t.2.1 0 8).toInt ≤ (t.2.1 0 13).toInt ∨ (t.2.1 0 8).toInt = 0)) := jM_n hok.2.2.2.2.2.2.1
                  refine lv_aload_n C.1 C.2.1 dX12_look_161 rfl (lv_at hl 0 rfl) ?_
                  refine k_get (v := .long (t.2.1 0 8)) C hP 0 rfl rfl inlX12 8 (by decide) m_29_23 rfl dX12_look_162 ?_
                  refine lv_aload_n C.1 C.2.1 dX12_look_165 rfl (lv_at hl 0 rfl) ?_
                  refine g_Vl (As := []) (rest := [.long (t.2.1 0 8)]) C hP hD hS hA (T_X12_cost l D K Z Y ad (uI (uI (uI (uI t 0 15 r_16) 0 16 v_20) 0 17 v_26) 0 18 v_426) hok ) hE hZ (uwV m_57_15 m_57_16 m_57_17 m_1_5 m_57_18) (hdV 0 (by decide +kernel) rfl) ⟨Nat.le_of_ble_eq_true rfl, Nat.le_of_ble_eq_true rfl⟩ rfl rfl (ci := 11) (q0 := 0) rfl rfl rfl hl.1 (Nat.le_of_ble_eq_true rfl) dX12_look_166 ⟨Nat.le_of_ble_eq_true rfl, Nat.le_of_ble_eq_true rfl⟩ (fun r_525 t_524 H locs hw hP hD hS => ?_)
                  obtain ⟨p_527, p_528, p_529⟩ := hw
                  replace p_527 : r_525.toInt = (cO v_20 v_26 (t.2.2.2 4 (v_26 : Int32).toNatClampNeg) (t.2.1 0 8)).toInt := p_527
                  replace p_528 : (t.1 0 12).toInt = 1 → 1 ≤ r_525.toInt ∧ r_525.toInt ≤ 2147490000 := p_528
                  replace p_529 : (t.1 0 12).toInt = 1 → 35 ≤ v_20.toInt → v_20.toInt ≤ 37 → v_26.toInt ≤ 19 → (t.2.2.2 4 (v_26 : Int32).toNatClampNeg).toInt + 1 ≤ (t.2.1 0 8).toInt + r_525.toInt := p_529
                  obtain ⟨v_530, e_531⟩ : ∃ z, z = ((t.2.1 0 8) : Int64) + (r_525 : Int64) := ⟨_, rfl⟩
                  have h_532 : -9223372036854775808 ≤ (t.2.1 0 8).toInt + r_525.toInt → (t.2.1 0 8).toInt + r_525.toInt < 9223372036854775808 → v_530.toInt = (t.2.1 0 8).toInt + r_525.toInt := by rw [e_531]; exact fun h1 h2 => Jvm.Kit.i64_add h1 h2
                  refine k_ladd (v := v_530) C e_531.symm dX12_look_169 ?_
                  refine lv_aload_n C.1 C.2.1 dX12_look_170 rfl (lv_at hl 0 rfl) ?_
                  refine k_get (v := .long (t.2.1 0 13)) C hP 0 rfl rfl inlX12 13 (by decide) m_57_6 rfl dX12_look_171 ?_
                  obtain ⟨v_533, e_534⟩ : ∃ z, z = lg_cmp (v_530 : Int64) (t.2.1 0 13) := ⟨_, rfl⟩
                  have h_535 : (-1 : Int) ≤ v_533.toInt ∧ v_533.toInt ≤ 1 := by rw [e_534]; exact cmp_rng _ _
                  have h_536 : (v_533.toInt < 0 ↔ v_530.toInt < (t.2.1 0 13).toInt) ∧ (v_533.toInt = 0 ↔ v_530.toInt = (t.2.1 0 13).toInt) := by rw [e_534]; exact cmp_iff _ _
                  refine k_lcmp (v := v_533) C e_534.symm dX12_look_174 ?_
                  refine lv_if_le (tgt := 183) C.1 C.2.1 dX12_look_175 (by decide) (fun c_537 => ?_) (fun c_537 => ?_)
                  · replace c_537 : v_533.toInt ≤ 0 := i_le c_537
                    refine lv_aload_n C.1 C.2.1 dX12_look_183 rfl (lv_at hl 0 rfl) ?_
                    refine g_Vi (As := []) (rest := []) C hP hD hS hA (T_X12_fault l D K Z Y ad (uI (uI (uI (uI t 0 15 r_16) 0 16 v_20) 0 17 v_26) 0 18 v_426) hok ) hE hZ (uwV m_57_21 m_57_22 m_57_23 m_1_5 m_58_0) (hdV 0 (by decide +kernel) rfl) ⟨Nat.le_of_ble_eq_true rfl, Nat.le_of_ble_eq_true rfl⟩ rfl rfl (ci := 11) (q0 := 0) rfl rfl rfl hl.1 (Nat.le_of_ble_eq_true rfl) dX12_look_184 ⟨Nat.le_of_ble_eq_true rfl, Nat.le_of_ble_eq_true rfl⟩ (fun r_539 t_538 H locs hw hP hD hS => ?_)
                    obtain ⟨h_541, h_542, p_543, p_544⟩ := hw
                    replace p_543 : r_539.toInt = 0 → gdA v_20 v_26 v_426 (t.2.2.1 3) := p_543
                    replace p_544 : r_539.toInt = 0 → gdU v_20 v_26 (t.2.2.1 3) (t.2.2.1 9) (t.1 0 35) (t.1 0 36) := p_544
                    have hgA := p_543
                    have hgU := p_544
                    exact g_iret C hr hlocks hP hD hS rfl (uI (uI (uI (uI t 0 15 r_16) 0 16 v_20) 0 17 v_26) 0 18 v_426) rfl ⟨hok, hfr, by omega, by omega, (show r_539.toInt = 0 → gdA v_20 v_26 v_426 (t.2.2.1 3) from by first | exact fun h0 => hgA (by omega) | (intro h0; exfalso; omega)), (show r_539.toInt = 0 → gdU v_20 v_26 (t.2.2.1 3) (t.2.2.1 9) (t.1 0 35) (t.1 0 36) from by first | exact fun h0 => hgU (by omega) | (intro h0; exfalso; omega)), (show r_539.toInt = 0 → (t.1 0 12).toInt = 1 → (t.2.1 0 8).toInt + (cO v_20 v_26 (t.2.2.2 4 (v_26 : Int32).toNatClampNeg) (t.2.1 0 8)).toInt ≤ (t.2.1 0 13).toInt from by omega)⟩ (Nat.le_of_ble_eq_true rfl) (Nat.le_of_ble_eq_true rfl) dX12_look_187
                  · replace c_537 : 0 < v_533.toInt := i_nle c_537
                    refine lv_bipush (v := 10) C.1 C.2.1 dX12_look_178 (by decide) ?_
                    refine lv_goto (tgt := 187) C.1 C.2.1 dX12_look_180 (by decide) ?_
                    exact g_iret C hr hlocks hP hD hS rfl (uI (uI (uI (uI t 0 15 r_16) 0 16 v_20) 0 17 v_26) 0 18 v_426) rfl ⟨hok, hfr, by decide, by decide, (show 10 = 0 → gdA v_20 v_26 v_426 (t.2.2.1 3) from by first | exact fun h0 => hgA (by omega) | (intro h0; exfalso; omega)), (show 10 = 0 → gdU v_20 v_26 (t.2.2.1 3) (t.2.2.1 9) (t.1 0 35) (t.1 0 36) from by first | exact fun h0 => hgU (by omega) | (intro h0; exfalso; omega)), (show 10 = 0 → (t.1 0 12).toInt = 1 → (t.2.1 0 8).toInt + (cO v_20 v_26 (t.2.2.2 4 (v_26 : Int32).toNatClampNeg) (t.2.1 0 8)).toInt ≤ (t.2.1 0 13).toInt from by omega)⟩ (Nat.le_of_ble_eq_true rfl) (Nat.le_of_ble_eq_true rfl) dX12_look_187
              · replace c_515 : 0 < v_511.toInt := i_nle c_515
                refine lv_bipush (v := 9) C.1 C.2.1 dX12_look_151 (by decide) ?_
                exact g_iret C hr hlocks hP hD hS rfl (uI (uI (uI (uI t 0 15 r_16) 0 16 v_20) 0 17 v_26) 0 18 v_426) rfl ⟨hok, hfr, by decide, by decide, (show 9 = 0 → gdA v_20 v_26 v_426 (t.2.2.1 3) from by first | exact fun h0 => hgA (by omega) | (intro h0; exfalso; omega)), (show 9 = 0 → gdU v_20 v_26 (t.2.2.1 3) (t.2.2.1 9) (t.1 0 35) (t.1 0 36) from by first | exact fun h0 => hgU (by omega) | (intro h0; exfalso; omega)), (show 9 = 0 → (t.1 0 12).toInt = 1 → (t.2.1 0 8).toInt + (cO v_20 v_26 (t.2.2.2 4 (v_26 : Int32).toNatClampNeg) (t.2.1 0 8)).toInt ≤ (t.2.1 0 13).toInt from by omega)⟩ (Nat.le_of_ble_eq_true rfl) (Nat.le_of_ble_eq_true rfl) dX12_look_153
    · replace c_35 : r_30.toInt = 0 := i_eq c_35
      refine lv_iconst (v := 1) C.1 C.2.1 dX12_look_57 (by decide) ?_
      exact g_iret C hr hlocks hP hD hS rfl (uI (uI (uI t 0 15 r_16) 0 16 v_20) 0 17 v_26) rfl ⟨hok, hfr, by decide, by decide, (show 1 = 0 → gdA v_20 v_26 (t.1 0 18) (t.2.2.1 3) from by first | exact fun h0 => hgA (by omega) | (intro h0; exfalso; omega)), (show 1 = 0 → gdU v_20 v_26 (t.2.2.1 3) (t.2.2.1 9) (t.1 0 35) (t.1 0 36) from by first | exact fun h0 => hgU (by omega) | (intro h0; exfalso; omega)), (show 1 = 0 → (t.1 0 12).toInt = 1 → (t.2.1 0 8).toInt + (cO v_20 v_26 (t.2.2.2 4 (v_26 : Int32).toNatClampNeg) (t.2.1 0 8)).toInt ≤ (t.2.1 0 13).toInt from by omega)⟩ (Nat.le_of_ble_eq_true rfl) (Nat.le_of_ble_eq_true rfl) dX12_look_58
  · replace c_14 : r_8.toInt = 0 := i_eq c_14
    refine lv_iconst (v := 2) C.1 C.2.1 dX12_look_11 (by decide) ?_
    exact g_iret C hr hlocks hP hD hS rfl t rfl ⟨hok, hfr, by decide, by decide, (show 2 = 0 → gdA (t.1 0 16) (t.1 0 17) (t.1 0 18) (t.2.2.1 3) from by first | exact fun h0 => hgA (by omega) | (intro h0; exfalso; omega)), (show 2 = 0 → gdU (t.1 0 16) (t.1 0 17) (t.2.2.1 3) (t.2.2.1 9) (t.1 0 35) (t.1 0 36) from by first | exact fun h0 => hgU (by omega) | (intro h0; exfalso; omega)), (show 2 = 0 → (t.1 0 12).toInt = 1 → (t.2.1 0 8).toInt + (cO (t.1 0 16) (t.1 0 17) (t.2.2.2 4 ((t.1 0 17) : Int32).toNatClampNeg) (t.2.1 0 8)).toInt ≤ (t.2.1 0 13).toInt from by omega)⟩ (Nat.le_of_ble_eq_true rfl) (Nat.le_of_ble_eq_true rfl) dX12_look_12

theorem dX12_loadCards_0 : decode cX12_loadCards 0 = .ok (.iload_n 1, 1) := by decide +kernel
theorem dX12_loadCards_1 : decode cX12_loadCards 1 = .ok (.istore_n 3, 1) := by decide +kernel
theorem dX12_loadCards_12 : decode cX12_loadCards 12 = .ok (.istore 4, 2) := by decide +kernel
theorem dX12_loadCards_14 : decode cX12_loadCards 14 = .ok (.iload 4, 2) := by decide +kernel
theorem dX12_loadCards_16 : decode cX12_loadCards 16 = .ok (.ifCond .ne 48, 3) := by decide +kernel
theorem dX12_loadCards_19 : decode cX12_loadCards 19 = .ok (.iconst 0, 1) := by decide +kernel
theorem dX12_loadCards_2 : decode cX12_loadCards 2 = .ok (.iload_n 3, 1) := by decide +kernel
theorem dX12_loadCards_20 : decode cX12_loadCards 20 = .ok (.istore 5, 2) := by decide +kernel
theorem dX12_loadCards_22 : decode cX12_loadCards 22 = .ok (.iload 5, 2) := by decide +kernel
theorem dX12_loadCards_24 : decode cX12_loadCards 24 = .ok (.sipush 3999, 3) := by decide +kernel
theorem dX12_loadCards_27 : decode cX12_loadCards 27 = .ok (.if_icmp .gt 22, 3) := by decide +kernel
theorem dX12_loadCards_3 : decode cX12_loadCards 3 = .ok (.iload_n 2, 1) := by decide +kernel
theorem dX12_loadCards_30 : decode cX12_loadCards 30 = .ok (.aload_n 0, 1) := by decide +kernel
theorem dX12_loadCards_31 : decode cX12_loadCards 31 = .ok (.getfield 149, 3) := by decide +kernel
theorem dX12_loadCards_34 : decode cX12_loadCards 34 = .ok (.iload 5, 2) := by decide +kernel
theorem dX12_loadCards_36 : decode cX12_loadCards 36 = .ok (.aload_n 0, 1) := by decide +kernel
theorem dX12_loadCards_37 : decode cX12_loadCards 37 = .ok (.iload 5, 2) := by decide +kernel
theorem dX12_loadCards_39 : decode cX12_loadCards 39 = .ok (.invokevirtual 260, 3) := by decide +kernel
theorem dX12_loadCards_4 : decode cX12_loadCards 4 = .ok (.if_icmp .ge 82, 3) := by decide +kernel
theorem dX12_loadCards_42 : decode cX12_loadCards 42 = .ok (.iastore, 1) := by decide +kernel
theorem dX12_loadCards_43 : decode cX12_loadCards 43 = .ok (.iinc 5 1, 3) := by decide +kernel
theorem dX12_loadCards_46 : decode cX12_loadCards 46 = .ok (.goto (-24), 3) := by decide +kernel
theorem dX12_loadCards_49 : decode cX12_loadCards 49 = .ok (.aload_n 0, 1) := by decide +kernel
theorem dX12_loadCards_50 : decode cX12_loadCards 50 = .ok (.aload_n 0, 1) := by decide +kernel
theorem dX12_loadCards_51 : decode cX12_loadCards 51 = .ok (.getfield 602, 3) := by decide +kernel
theorem dX12_loadCards_54 : decode cX12_loadCards 54 = .ok (.putfield 826, 3) := by decide +kernel
theorem dX12_loadCards_57 : decode cX12_loadCards 57 = .ok (.aload_n 0, 1) := by decide +kernel
theorem dX12_loadCards_58 : decode cX12_loadCards 58 = .ok (.iconst 1, 1) := by decide +kernel
theorem dX12_loadCards_59 : decode cX12_loadCards 59 = .ok (.putfield 770, 3) := by decide +kernel
theorem dX12_loadCards_62 : decode cX12_loadCards 62 = .ok (.iconst 0, 1) := by decide +kernel
theorem dX12_loadCards_63 : decode cX12_loadCards 63 = .ok (.ireturn, 1) := by decide +kernel
theorem dX12_loadCards_64 : decode cX12_loadCards 64 = .ok (.iload 4, 2) := by decide +kernel
theorem dX12_loadCards_66 : decode cX12_loadCards 66 = .ok (.iconst (-1), 1) := by decide +kernel
theorem dX12_loadCards_67 : decode cX12_loadCards 67 = .ok (.if_icmp .ne 13, 3) := by decide +kernel
theorem dX12_loadCards_7 : decode cX12_loadCards 7 = .ok (.aload_n 0, 1) := by decide +kernel
theorem dX12_loadCards_70 : decode cX12_loadCards 70 = .ok (.aload_n 0, 1) := by decide +kernel
theorem dX12_loadCards_71 : decode cX12_loadCards 71 = .ok (.invokevirtual 627, 3) := by decide +kernel
theorem dX12_loadCards_74 : decode cX12_loadCards 74 = .ok (.iload_n 3, 1) := by decide +kernel
theorem dX12_loadCards_75 : decode cX12_loadCards 75 = .ok (.iload_n 1, 1) := by decide +kernel
theorem dX12_loadCards_76 : decode cX12_loadCards 76 = .ok (.isub, 1) := by decide +kernel
theorem dX12_loadCards_77 : decode cX12_loadCards 77 = .ok (.iconst 1, 1) := by decide +kernel
theorem dX12_loadCards_78 : decode cX12_loadCards 78 = .ok (.iadd, 1) := by decide +kernel
theorem dX12_loadCards_79 : decode cX12_loadCards 79 = .ok (.ireturn, 1) := by decide +kernel
theorem dX12_loadCards_8 : decode cX12_loadCards 8 = .ok (.iload_n 3, 1) := by decide +kernel
theorem dX12_loadCards_80 : decode cX12_loadCards 80 = .ok (.iinc 3 1, 3) := by decide +kernel
theorem dX12_loadCards_83 : decode cX12_loadCards 83 = .ok (.goto (-81), 3) := by decide +kernel
theorem dX12_loadCards_86 : decode cX12_loadCards 86 = .ok (.aload_n 0, 1) := by decide +kernel
theorem dX12_loadCards_87 : decode cX12_loadCards 87 = .ok (.invokevirtual 627, 3) := by decide +kernel
theorem dX12_loadCards_9 : decode cX12_loadCards 9 = .ok (.invokevirtual 823, 3) := by decide +kernel
theorem dX12_loadCards_90 : decode cX12_loadCards 90 = .ok (.iload_n 2, 1) := by decide +kernel
theorem dX12_loadCards_91 : decode cX12_loadCards 91 = .ok (.iload_n 1, 1) := by decide +kernel
theorem dX12_loadCards_92 : decode cX12_loadCards 92 = .ok (.isub, 1) := by decide +kernel
theorem dX12_loadCards_93 : decode cX12_loadCards 93 = .ok (.iconst 1, 1) := by decide +kernel
theorem dX12_loadCards_94 : decode cX12_loadCards 94 = .ok (.iadd, 1) := by decide +kernel
theorem dX12_loadCards_95 : decode cX12_loadCards 95 = .ok (.ireturn, 1) := by decide +kernel
set_option maxHeartbeats 4000000 in
set_option maxRecDepth 100000 in
theorem T_X12_loadCards (l : Launch) (D : va_G) (K : Nat → ClassId) (Z Y : Nat → Nat) (ad : Nat → Nat) (t : tSt) (hok : okM t) (x1 : Int32) (hx1 : (2 : Int) ≤ x1.toInt ∧ x1.toInt ≤ 1282) (x2 : Int32) (hx2 : (1 : Int) ≤ x2.toInt ∧ x2.toInt ≤ 1280) : tMet l yX12_loadCards cX12_loadCards 6 (some .int) (rmD 10 0 0) D K Z Y [.ref (ad 0), .int x1, .int x2] (WM K ad t) (QI D K (fun (r : Int32) (u : tSt) => okM u ∧ frA [(0, 45), (0, 88), (0, 90)] [] [2, 43] [] t u ∧ (-1280 : Int) ≤ r.toInt ∧ r.toInt ≤ 1279) (fun (u : tSt) => WM K ad u)) 0 0 := by
  refine t_met RX12 ⟨rfl, by decide +kernel⟩ (Nat.le_of_ble_eq_true rfl) ?_
  intro p e s m below meth c A ls C hE hZ hr hlocks hA hP hD hS hl
  have hl : lv_has ls 6 [(0, .ref (ad 0)), (1, .int x1), (2, .int x2)] := hl
  have hokt := hok
  have hfr : frA [(0, 45), (0, 88), (0, 90)] [] [2, 43] [] t t := frA_rf
  have L_22 : ∀ (fuel_22 : Nat) (t1 : tSt) (w22_3 : Int32) (w22_4 : Int32) (w22_5 : Int32) (H : Heap) (locs : List Loc) (ls : Array Slot), okM t1 → frA [(0, 45), (0, 88), (0, 90)] [] [2, 43] [] t t1 → (3 : Int) ≤ x2.toInt ∧ x2.toInt ≤ 1280 → (2 : Int) ≤ w22_3.toInt ∧ w22_3.toInt ≤ 1279 → (0 : Int) ≤ w22_4.toInt ∧ w22_4.toInt ≤ 0 → (0 : Int) ≤ w22_5.toInt ∧ w22_5.toInt ≤ 4000 → (4000 : Int) - w22_5.toInt < (fuel_22 : Int) → va_P D vwCl (WM K ad t1) H → va_D A (WM K ad t1) → va_S A s.heap H locs → lv_has ls 6 [(0, .ref (ad 0)), (1, .int x1), (2, .int x2), (3, .int w22_3), (4, .int w22_4), (5, .int w22_5)] → W p l e (rmD 10 0 0) s m [.ref (ad 0), .int x1, .int x2].toArray below meth c H locs 0 0 (MQ below (QI D K (fun (r : Int32) (u : tSt) => okM u ∧ frA [(0, 45), (0, 88), (0, 90)] [] [2, 43] [] t u ∧ (-1280 : Int) ≤ r.toInt ∧ r.toInt ≤ 1279) (fun (u : tSt) => WM K ad u) A) [.ref (ad 0), .int x1, .int x2].toArray s 0 0 A) (F0 m 22 ls []) := by
    intro fuel_22
    induction fuel_22 with
    | zero =>
      intro t1 w22_3 w22_4 w22_5 H locs ls hok hfr hx22_2 hw22_3 hw22_4 hw22_5 hm22_22 hP hD hS hl
      exact absurd hm22_22 (by omega)
    | succ fuel_22 ih_22 =>
      intro t1 w22_3 w22_4 w22_5 H locs ls hok hfr hx22_2 hw22_3 hw22_4 hw22_5 hm22_22 hP hD hS hl
      have hm22_22 : (4000 : Int) - w22_5.toInt < (fuel_22 : Int) + 1 := by omega
      refine lv_iload C.1 C.2.1 dX12_loadCards_22 (lv_at hl 5 rfl) ?_
      refine lv_sipush (v := 3999) C.1 C.2.1 dX12_loadCards_24 (by decide) ?_
      refine lv_icmp_gt (tgt := 49) C.1 C.2.1 dX12_loadCards_27 (by decide) (fun c_1 => ?_) (fun c_1 => ?_)
      · replace c_1 : 3999 < w22_5.toInt := i_lt c_1
        refine lv_aload_n C.1 C.2.1 dX12_loadCards_49 rfl (lv_at hl 0 rfl) ?_
        refine lv_aload_n C.1 C.2.1 dX12_loadCards_50 rfl (lv_at hl 0 rfl) ?_
        have h_2 : (-3999 : Int) ≤ (t1.1 0 45).toInt ∧ (t1.1 0 45).toInt ≤ 3999 := hok.1 0 45
        refine k_get (v := .int (t1.1 0 45)) C hP 0 rfl rfl inlX12 45 (by decide) m_29_0 rfl dX12_loadCards_51 ?_
        refine k_put (ws' := WM K ad (uI t1 0 90 (t1.1 0 45))) (v := .int (t1.1 0 45)) C hP hD hS 0 rfl rfl inlX12 tyX12_ok nmX12 90 (by decide) m_80_6 rfl rfl rfl rfl rfl dX12_loadCards_54 (fun H locs hP hD hS => ?_)
        have hok : okM (uI t1 0 90 (t1.1 0 45)) := ⟨okI_I hok.1 0 90 (t1.1 0 45) (show (-3999 : Int) ≤ ((t1.1 0 45) : Int32).toInt ∧ ((t1.1 0 45) : Int32).toInt ≤ 3999 from ⟨by omega, by omega⟩), hok.2.1, hok.2.2.1, hok.2.2.2.1, hok.2.2.2.2.1, hok.2.2.2.2.2.1, hok.2.2.2.2.2.2.1, trivial⟩
        have hfr : frA [(0, 45), (0, 88), (0, 90)] [] [2, 43] [] t (uI t1 0 90 (t1.1 0 45)) := frA_I hfr 0 90 _ rfl
        refine lv_aload_n C.1 C.2.1 dX12_loadCards_57 rfl (lv_at hl 0 rfl) ?_
        refine lv_iconst (v := 1) C.1 C.2.1 dX12_loadCards_58 (by decide) ?_
        refine k_put (ws' := WM K ad (uI (uI t1 0 90 (t1.1 0 45)) 0 88 1)) (v := .int 1) C hP hD hS 0 rfl rfl inlX12 tyX12_ok nmX12 88 (by decide) m_78_15 rfl (by decide) (by decide) rfl rfl dX12_loadCards_59 (fun H locs hP hD hS => ?_)
        have hok : okM (uI (uI t1 0 90 (t1.1 0 45)) 0 88 1) := ⟨okI_I hok.1 0 88 1 (show (0 : Int) ≤ (1 : Int32).toInt ∧ (1 : Int32).toInt ≤ 1 from ⟨by decide, by decide⟩), hok.2.1, hok.2.2.1, hok.2.2.2.1, hok.2.2.2.2.1, hok.2.2.2.2.2.1, hok.2.2.2.2.2.2.1, trivial⟩
        have hfr : frA [(0, 45), (0, 88), (0, 90)] [] [2, 43] [] t (uI (uI t1 0 90 (t1.1 0 45)) 0 88 1) := frA_I hfr 0 88 _ rfl
        refine lv_iconst (v := 0) C.1 C.2.1 dX12_loadCards_62 (by decide) ?_
        exact g_iret C hr hlocks hP hD hS rfl (uI (uI t1 0 90 (t1.1 0 45)) 0 88 1) rfl ⟨hok, hfr, by decide, by decide⟩ (Nat.le_of_ble_eq_true rfl) (Nat.le_of_ble_eq_true rfl) dX12_loadCards_63
      · replace c_1 : w22_5.toInt ≤ 3999 := i_nlt c_1
        refine lv_aload_n C.1 C.2.1 dX12_loadCards_30 rfl (lv_at hl 0 rfl) ?_
        refine k_get (v := .ref (ad 43)) C hP 0 rfl rfl inlX12 89 (by decide) m_9_3 rfl dX12_loadCards_31 ?_
        refine lv_iload C.1 C.2.1 dX12_loadCards_34 (lv_at hl 5 rfl) ?_
        refine lv_aload_n C.1 C.2.1 dX12_loadCards_36 rfl (lv_at hl 0 rfl) ?_
        refine lv_iload C.1 C.2.1 dX12_loadCards_37 (lv_at hl 5 rfl) ?_
        refine g_Vi (As := [.int w22_5]) (rest := [.int w22_5, .ref (ad 43)]) C hP hD hS hA (T_X12_memoryAt l D K Z Y ad t1 hok (w22_5) (show (-3999 : Int) ≤ (w22_5 : Int32).toInt ∧ (w22_5 : Int32).toInt ≤ 3999 from ⟨by omega, by omega⟩)) hE hZ (uwV m_38_19 m_38_20 m_38_21 m_1_5 m_38_22) (hdV 1 (by decide +kernel) rfl) ⟨Nat.le_of_ble_eq_true rfl, Nat.le_of_ble_eq_true rfl⟩ rfl rfl (ci := 11) (q0 := 0) rfl rfl rfl hl.1 (Nat.le_of_ble_eq_true rfl) dX12_loadCards_39 ⟨Nat.le_of_ble_eq_true rfl, Nat.le_of_ble_eq_true rfl⟩ (fun r_4 t_3 H locs hw hP hD hS => ?_)
        obtain ⟨h_6, h_7⟩ := hw
        refine k_ist (ws' := WM K ad (uB t1 43 (w22_5 : Int32).toNatClampNeg r_4)) (x' := r_4) C hP hD hS 43 rfl (vp_in_iff.mpr ⟨by omega, by omega⟩) rfl rfl rfl dX12_loadCards_42 (fun H locs hP hD hS => ?_)
        have hok : okM (uB t1 43 (w22_5 : Int32).toNatClampNeg r_4) := ⟨hok.1, okB_B hok.2.1 43 _ r_4 (show (-2147483648 : Int) ≤ (r_4 : Int32).toInt ∧ (r_4 : Int32).toInt ≤ 2147483647 from (i_rng _)), hok.2.2.1, hok.2.2.2.1, hok.2.2.2.2.1, hok.2.2.2.2.2.1, hok.2.2.2.2.2.2.1, trivial⟩
        have hfr : frA [(0, 45), (0, 88), (0, 90)] [] [2, 43] [] t (uB t1 43 (w22_5 : Int32).toNatClampNeg r_4) := frA_B hfr 43 _ _ rfl
        obtain ⟨v_8, e_9⟩ : ∃ z, z = w22_5 + 1 := ⟨_, rfl⟩
        have h_10 : v_8.toInt = w22_5.toInt + 1 := by rw [e_9]; exact ti_iadd (by show (_ : Int) ≤ w22_5.toInt + 1; omega) (by show w22_5.toInt + 1 < (_ : Int); omega)
        refine lv_iinc (v := v_8) (lv' := [(5, .int v_8), (0, .ref (ad 0)), (1, .int x1), (2, .int x2), (3, .int w22_3), (4, .int w22_4)]) C.1 C.2.1 dX12_loadCards_43 hl (k := 5) rfl e_9.symm (by decide) rfl (fun ls hl => ?_)
        have hl : lv_has ls 6 [(0, .ref (ad 0)), (1, .int x1), (2, .int x2), (3, .int w22_3), (4, .int w22_4), (5, .int v_8)] := lv_sub hl [1, 2, 3, 4, 5, 0] rfl
        refine lv_goto (tgt := 22) C.1 C.2.1 dX12_loadCards_46 (by decide) ?_
        exact ih_22 (uB t1 43 (w22_5 : Int32).toNatClampNeg r_4) w22_3 w22_4 v_8 _ _ _ hok hfr ⟨by omega, by omega⟩ ⟨by omega, by omega⟩ ⟨by omega, by omega⟩ ⟨by omega, by omega⟩ (show (4000 : Int) - v_8.toInt < (fuel_22 : Int) from by omega) hP hD hS (lv_sub hl [0, 1, 2, 3, 4, 5] rfl)
  have L_2 : ∀ (fuel_2 : Nat) (t1 : tSt) (w2_3 : Int32) (H : Heap) (locs : List Loc) (ls : Array Slot), okM t1 → frA [(0, 45), (0, 88), (0, 90)] [] [2, 43] [] t t1 → (2 : Int) ≤ w2_3.toInt ∧ w2_3.toInt ≤ 1282 → (1282 : Int) - w2_3.toInt < (fuel_2 : Int) → va_P D vwCl (WM K ad t1) H → va_D A (WM K ad t1) → va_S A s.heap H locs → lv_has ls 6 [(0, .ref (ad 0)), (1, .int x1), (2, .int x2), (3, .int w2_3)] → W p l e (rmD 10 0 0) s m [.ref (ad 0), .int x1, .int x2].toArray below meth c H locs 0 0 (MQ below (QI D K (fun (r : Int32) (u : tSt) => okM u ∧ frA [(0, 45), (0, 88), (0, 90)] [] [2, 43] [] t u ∧ (-1280 : Int) ≤ r.toInt ∧ r.toInt ≤ 1279) (fun (u : tSt) => WM K ad u) A) [.ref (ad 0), .int x1, .int x2].toArray s 0 0 A) (F0 m 2 ls []) := by
    intro fuel_2
    induction fuel_2 with
    | zero =>
      intro t1 w2_3 H locs ls hok hfr hw2_3 hm2_2 hP hD hS hl
      exact absurd hm2_2 (by omega)
    | succ fuel_2 ih_2 =>
      intro t1 w2_3 H locs ls hok hfr hw2_3 hm2_2 hP hD hS hl
      have hm2_2 : (1282 : Int) - w2_3.toInt < (fuel_2 : Int) + 1 := by omega
      refine lv_iload_n C.1 C.2.1 dX12_loadCards_2 rfl (lv_at hl 3 rfl) ?_
      refine lv_iload_n C.1 C.2.1 dX12_loadCards_3 rfl (lv_at hl 2 rfl) ?_
      refine lv_icmp_ge (tgt := 86) C.1 C.2.1 dX12_loadCards_4 (by decide) (fun c_11 => ?_) (fun c_11 => ?_)
      · replace c_11 : x2.toInt ≤ w2_3.toInt := i_le c_11
        refine lv_aload_n C.1 C.2.1 dX12_loadCards_86 rfl (lv_at hl 0 rfl) ?_
        refine g_Vv (As := []) (rest := []) C hP hD hS hA (T_X12_clearMemory l D K Z Y ad t1 hok ) hE hZ (uwV m_30_4 m_30_5 m_30_6 m_1_5 m_30_7) (hdV 0 (by decide +kernel) rfl) ⟨Nat.le_of_ble_eq_true rfl, Nat.le_of_ble_eq_true rfl⟩ rfl rfl (ci := 11) (q0 := 0) rfl rfl rfl hl.1 (Nat.le_of_ble_eq_true rfl) dX12_loadCards_87 ⟨Nat.le_of_ble_eq_true rfl, Nat.le_of_ble_eq_true rfl⟩ (fun t_12 H locs hw hP hD hS => ?_)
        obtain ⟨hok, f_14⟩ := hw
        have hfr : frA [(0, 45), (0, 88), (0, 90)] [] [2, 43] [] t t_12 := frA_tr hfr f_14 rfl
        refine lv_iload_n C.1 C.2.1 dX12_loadCards_90 rfl (lv_at hl 2 rfl) ?_
        refine lv_iload_n C.1 C.2.1 dX12_loadCards_91 rfl (lv_at hl 1 rfl) ?_
        obtain ⟨v_15, e_16⟩ : ∃ z, z = (x2 : Int32) - (x1 : Int32) := ⟨_, rfl⟩
        have h_17 : v_15.toInt = x2.toInt - x1.toInt := by rw [e_16]; exact ti_isub (by show (_ : Int) ≤ x2.toInt - x1.toInt; omega) (by show x2.toInt - x1.toInt < (_ : Int); omega)
        refine k_isub (v := v_15) C e_16.symm dX12_loadCards_92 ?_
        refine lv_iconst (v := 1) C.1 C.2.1 dX12_loadCards_93 (by decide) ?_
        obtain ⟨v_18, e_19⟩ : ∃ z, z = (v_15 : Int32) + (1 : Int32) := ⟨_, rfl⟩
        have h_20 : v_18.toInt = v_15.toInt + 1 := by rw [e_19]; exact ti_iadd (by show (_ : Int) ≤ v_15.toInt + 1; omega) (by show v_15.toInt + 1 < (_ : Int); omega)
        refine k_iadd (v := v_18) C e_19.symm dX12_loadCards_94 ?_
        exact g_iret C hr hlocks hP hD hS rfl t_12 rfl ⟨hok, hfr, by omega, by omega⟩ (Nat.le_of_ble_eq_true rfl) (Nat.le_of_ble_eq_true rfl) dX12_loadCards_95
      · replace c_11 : w2_3.toInt < x2.toInt := i_nle c_11
        refine lv_aload_n C.1 C.2.1 dX12_loadCards_7 rfl (lv_at hl 0 rfl) ?_
        refine lv_iload_n C.1 C.2.1 dX12_loadCards_8 rfl (lv_at hl 3 rfl) ?_
        refine g_Vi (As := [.int w2_3]) (rest := []) C hP hD hS hA (T_X12_readCard l D K Z Y ad t1 hok (w2_3) (show (2 : Int) ≤ (w2_3 : Int32).toInt ∧ (w2_3 : Int32).toInt ≤ 1279 from ⟨by omega, by omega⟩)) hE hZ (uwV m_80_7 m_80_8 m_80_9 m_1_5 m_80_10) (hdV 1 (by decide +kernel) rfl) ⟨Nat.le_of_ble_eq_true rfl, Nat.le_of_ble_eq_true rfl⟩ rfl rfl (ci := 11) (q0 := 0) rfl rfl rfl hl.1 (Nat.le_of_ble_eq_true rfl) dX12_loadCards_9 ⟨Nat.le_of_ble_eq_true rfl, Nat.le_of_ble_eq_true rfl⟩ (fun r_22 t_21 H locs hw hP hD hS => ?_)
        obtain ⟨hok, f_23, h_24, h_25⟩ := hw
        have hfr : frA [(0, 45), (0, 88), (0, 90)] [] [2, 43] [] t t_21 := frA_tr hfr f_23 rfl
        refine lv_istore (lv' := [(4, .int r_22), (0, .ref (ad 0)), (1, .int x1), (2, .int x2), (3, .int w2_3)]) C.1 C.2.1 dX12_loadCards_12 hl (by decide) rfl (fun ls hl => ?_)
        have hl : lv_has ls 6 [(0, .ref (ad 0)), (1, .int x1), (2, .int x2), (3, .int w2_3), (4, .int r_22)] := lv_sub hl [1, 2, 3, 4, 0] rfl
        refine lv_iload C.1 C.2.1 dX12_loadCards_14 (lv_at hl 4 rfl) ?_
        refine lv_if_ne (tgt := 64) C.1 C.2.1 dX12_loadCards_16 (by decide) (fun c_26 => ?_) (fun c_26 => ?_)
        · replace c_26 : ¬ r_22.toInt = 0 := i_ne c_26
          refine lv_iload C.1 C.2.1 dX12_loadCards_64 (lv_at hl 4 rfl) ?_
          refine lv_iconst (v := (-1)) C.1 C.2.1 dX12_loadCards_66 (by decide) ?_
          refine lv_icmp_ne (tgt := 80) C.1 C.2.1 dX12_loadCards_67 (by decide) (fun c_27 => ?_) (fun c_27 => ?_)
          · replace c_27 : ¬ r_22.toInt = (-1) := i_ne c_27
            obtain ⟨v_28, e_29⟩ : ∃ z, z = w2_3 + 1 := ⟨_, rfl⟩
            have h_30 : v_28.toInt = w2_3.toInt + 1 := by rw [e_29]; exact ti_iadd (by show (_ : Int) ≤ w2_3.toInt + 1; omega) (by show w2_3.toInt + 1 < (_ : Int); omega)
            refine lv_iinc (v := v_28) (lv' := [(3, .int v_28), (0, .ref (ad 0)), (1, .int x1), (2, .int x2), (4, .int r_22)]) C.1 C.2.1 dX12_loadCards_80 hl (k := 3) rfl e_29.symm (by decide) rfl (fun ls hl => ?_)
            have hl : lv_has ls 6 [(0, .ref (ad 0)), (1, .int x1), (2, .int x2), (3, .int v_28), (4, .int r_22)] := lv_sub hl [1, 2, 3, 0, 4] rfl
            refine lv_goto (tgt := 2) C.1 C.2.1 dX12_loadCards_83 (by decide) ?_
            exact ih_2 t_21 v_28 _ _ _ hok hfr ⟨by omega, by omega⟩ (show (1282 : Int) - v_28.toInt < (fuel_2 : Int) from by omega) hP hD hS (lv_sub hl [0, 1, 2, 3] rfl)
          · replace c_27 : r_22.toInt = (-1) := i_eq c_27
            refine lv_aload_n C.1 C.2.1 dX12_loadCards_70 rfl (lv_at hl 0 rfl) ?_
            refine g_Vv (As := []) (rest := []) C hP hD hS hA (T_X12_clearMemory l D K Z Y ad t_21 hok ) hE hZ (uwV m_30_4 m_30_5 m_30_6 m_1_5 m_30_7) (hdV 0 (by decide +kernel) rfl) ⟨Nat.le_of_ble_eq_true rfl, Nat.le_of_ble_eq_true rfl⟩ rfl rfl (ci := 11) (q0 := 0) rfl rfl rfl hl.1 (Nat.le_of_ble_eq_true rfl) dX12_loadCards_71 ⟨Nat.le_of_ble_eq_true rfl, Nat.le_of_ble_eq_true rfl⟩ (fun t_31 H locs hw hP hD hS => ?_)
            obtain ⟨hok, f_33⟩ := hw
            have hfr : frA [(0, 45), (0, 88), (0, 90)] [] [2, 43] [] t t_31 := frA_tr hfr f_33 rfl
            refine lv_iload_n C.1 C.2.1 dX12_loadCards_74 rfl (lv_at hl 3 rfl) ?_
            refine lv_iload_n C.1 C.2.1 dX12_loadCards_75 rfl (lv_at hl 1 rfl) ?_
            obtain ⟨v_34, e_35⟩ : ∃ z, z = (w2_3 : Int32) - (x1 : Int32) := ⟨_, rfl⟩
            have h_36 : v_34.toInt = w2_3.toInt - x1.toInt := by rw [e_35]; exact ti_isub (by show (_ : Int) ≤ w2_3.toInt - x1.toInt; omega) (by show w2_3.toInt - x1.toInt < (_ : Int); omega)
            refine k_isub (v := v_34) C e_35.symm dX12_loadCards_76 ?_
            refine lv_iconst (v := 1) C.1 C.2.1 dX12_loadCards_77 (by decide) ?_
            obtain ⟨v_37, e_38⟩ : ∃ z, z = (v_34 : Int32) + (1 : Int32) := ⟨_, rfl⟩
            have h_39 : v_37.toInt = v_34.toInt + 1 := by rw [e_38]; exact ti_iadd (by show (_ : Int) ≤ v_34.toInt + 1; omega) (by show v_34.toInt + 1 < (_ : Int); omega)
            refine k_iadd (v := v_37) C e_38.symm dX12_loadCards_78 ?_
            exact g_iret C hr hlocks hP hD hS rfl t_31 rfl ⟨hok, hfr, by omega, by omega⟩ (Nat.le_of_ble_eq_true rfl) (Nat.le_of_ble_eq_true rfl) dX12_loadCards_79
        · replace c_26 : r_22.toInt = 0 := i_eq c_26
          refine lv_iconst (v := 0) C.1 C.2.1 dX12_loadCards_19 (by decide) ?_
          refine lv_istore (lv' := [(5, .int 0), (0, .ref (ad 0)), (1, .int x1), (2, .int x2), (3, .int w2_3), (4, .int r_22)]) C.1 C.2.1 dX12_loadCards_20 hl (by decide) rfl (fun ls hl => ?_)
          have hl : lv_has ls 6 [(0, .ref (ad 0)), (1, .int x1), (2, .int x2), (3, .int w2_3), (4, .int r_22), (5, .int 0)] := lv_sub hl [1, 2, 3, 4, 5, 0] rfl
          exact L_22 4001 t_21 w2_3 r_22 0 _ _ _ hok hfr ⟨by omega, by omega⟩ ⟨by omega, by omega⟩ ⟨by omega, by omega⟩ ⟨by decide, by decide⟩ (show (4000 : Int) - 0 < ((4001 : Nat) : Int) from by omega) hP hD hS (lv_sub hl [0, 1, 2, 3, 4, 5] rfl)
  refine lv_iload_n C.1 C.2.1 dX12_loadCards_0 rfl (lv_at hl 1 rfl) ?_
  refine lv_istore_n (lv' := [(3, .int x1), (0, .ref (ad 0)), (1, .int x1), (2, .int x2)]) C.1 C.2.1 dX12_loadCards_1 rfl hl (by decide) rfl (fun ls hl => ?_)
  have hl : lv_has ls 6 [(0, .ref (ad 0)), (1, .int x1), (2, .int x2), (3, .int x1)] := lv_sub hl [1, 2, 3, 0] rfl
  exact L_2 1281 t x1 _ _ _ hok hfr ⟨by omega, by omega⟩ (show (1282 : Int) - x1.toInt < ((1281 : Nat) : Int) from by omega) hP hD hS (lv_sub hl [0, 1, 2, 3] rfl)

theorem dX12_expression_0 : decode cX12_expression 0 = .ok (.aload_n 0, 1) := by decide +kernel
theorem dX12_expression_1 : decode cX12_expression 1 = .ok (.invokevirtual 491, 3) := by decide +kernel
theorem dX12_expression_10 : decode cX12_expression 10 = .ok (.goto 4, 3) := by decide +kernel
theorem dX12_expression_100 : decode cX12_expression 100 = .ok (.istore_n 3, 1) := by decide +kernel
theorem dX12_expression_101 : decode cX12_expression 101 = .ok (.aload_n 0, 1) := by decide +kernel
theorem dX12_expression_102 : decode cX12_expression 102 = .ok (.dup, 1) := by decide +kernel
theorem dX12_expression_103 : decode cX12_expression 103 = .ok (.getfield 472, 3) := by decide +kernel
theorem dX12_expression_106 : decode cX12_expression 106 = .ok (.iconst 1, 1) := by decide +kernel
theorem dX12_expression_107 : decode cX12_expression 107 = .ok (.iadd, 1) := by decide +kernel
theorem dX12_expression_108 : decode cX12_expression 108 = .ok (.putfield 472, 3) := by decide +kernel
theorem dX12_expression_111 : decode cX12_expression 111 = .ok (.aload_n 0, 1) := by decide +kernel
theorem dX12_expression_112 : decode cX12_expression 112 = .ok (.invokevirtual 518, 3) := by decide +kernel
theorem dX12_expression_115 : decode cX12_expression 115 = .ok (.istore 4, 2) := by decide +kernel
theorem dX12_expression_117 : decode cX12_expression 117 = .ok (.aload_n 0, 1) := by decide +kernel
theorem dX12_expression_118 : decode cX12_expression 118 = .ok (.getfield 469, 3) := by decide +kernel
theorem dX12_expression_121 : decode cX12_expression 121 = .ok (.ifCond .ne 20, 3) := by decide +kernel
theorem dX12_expression_124 : decode cX12_expression 124 = .ok (.aload_n 0, 1) := by decide +kernel
theorem dX12_expression_125 : decode cX12_expression 125 = .ok (.iload_n 3, 1) := by decide +kernel
theorem dX12_expression_126 : decode cX12_expression 126 = .ok (.iload_n 2, 1) := by decide +kernel
theorem dX12_expression_127 : decode cX12_expression 127 = .ok (.invokestatic 161, 3) := by decide +kernel
theorem dX12_expression_13 : decode cX12_expression 13 = .ok (.iconst 0, 1) := by decide +kernel
theorem dX12_expression_130 : decode cX12_expression 130 = .ok (.i2l, 1) := by decide +kernel
theorem dX12_expression_131 : decode cX12_expression 131 = .ok (.iload 4, 2) := by decide +kernel
theorem dX12_expression_133 : decode cX12_expression 133 = .ok (.invokestatic 161, 3) := by decide +kernel
theorem dX12_expression_136 : decode cX12_expression 136 = .ok (.i2l, 1) := by decide +kernel
theorem dX12_expression_137 : decode cX12_expression 137 = .ok (.invokevirtual 524, 3) := by decide +kernel
theorem dX12_expression_14 : decode cX12_expression 14 = .ok (.istore_n 1, 1) := by decide +kernel
theorem dX12_expression_140 : decode cX12_expression 140 = .ok (.istore_n 2, 1) := by decide +kernel
theorem dX12_expression_141 : decode cX12_expression 141 = .ok (.goto (-89), 3) := by decide +kernel
theorem dX12_expression_144 : decode cX12_expression 144 = .ok (.aload_n 0, 1) := by decide +kernel
theorem dX12_expression_145 : decode cX12_expression 145 = .ok (.getfield 469, 3) := by decide +kernel
theorem dX12_expression_148 : decode cX12_expression 148 = .ok (.ifCond .le 7, 3) := by decide +kernel
theorem dX12_expression_15 : decode cX12_expression 15 = .ok (.iload_n 1, 1) := by decide +kernel
theorem dX12_expression_151 : decode cX12_expression 151 = .ok (.iconst 0, 1) := by decide +kernel
theorem dX12_expression_152 : decode cX12_expression 152 = .ok (.goto 4, 3) := by decide +kernel
theorem dX12_expression_155 : decode cX12_expression 155 = .ok (.iload_n 2, 1) := by decide +kernel
theorem dX12_expression_156 : decode cX12_expression 156 = .ok (.ireturn, 1) := by decide +kernel
theorem dX12_expression_16 : decode cX12_expression 16 = .ok (.ifCond .ne 12, 3) := by decide +kernel
theorem dX12_expression_19 : decode cX12_expression 19 = .ok (.aload_n 0, 1) := by decide +kernel
theorem dX12_expression_20 : decode cX12_expression 20 = .ok (.invokevirtual 491, 3) := by decide +kernel
theorem dX12_expression_23 : decode cX12_expression 23 = .ok (.bipush 43, 2) := by decide +kernel
theorem dX12_expression_25 : decode cX12_expression 25 = .ok (.if_icmp .ne 13, 3) := by decide +kernel
theorem dX12_expression_28 : decode cX12_expression 28 = .ok (.aload_n 0, 1) := by decide +kernel
theorem dX12_expression_29 : decode cX12_expression 29 = .ok (.dup, 1) := by decide +kernel
theorem dX12_expression_30 : decode cX12_expression 30 = .ok (.getfield 472, 3) := by decide +kernel
theorem dX12_expression_33 : decode cX12_expression 33 = .ok (.iconst 1, 1) := by decide +kernel
theorem dX12_expression_34 : decode cX12_expression 34 = .ok (.iadd, 1) := by decide +kernel
theorem dX12_expression_35 : decode cX12_expression 35 = .ok (.putfield 472, 3) := by decide +kernel
theorem dX12_expression_38 : decode cX12_expression 38 = .ok (.aload_n 0, 1) := by decide +kernel
theorem dX12_expression_39 : decode cX12_expression 39 = .ok (.invokevirtual 518, 3) := by decide +kernel
theorem dX12_expression_4 : decode cX12_expression 4 = .ok (.bipush 45, 2) := by decide +kernel
theorem dX12_expression_42 : decode cX12_expression 42 = .ok (.istore_n 2, 1) := by decide +kernel
theorem dX12_expression_43 : decode cX12_expression 43 = .ok (.iload_n 1, 1) := by decide +kernel
theorem dX12_expression_44 : decode cX12_expression 44 = .ok (.ifCond .eq 8, 3) := by decide +kernel
theorem dX12_expression_47 : decode cX12_expression 47 = .ok (.iload_n 2, 1) := by decide +kernel
theorem dX12_expression_48 : decode cX12_expression 48 = .ok (.ldc 158, 2) := by decide +kernel
theorem dX12_expression_50 : decode cX12_expression 50 = .ok (.ixor, 1) := by decide +kernel
theorem dX12_expression_51 : decode cX12_expression 51 = .ok (.istore_n 2, 1) := by decide +kernel
theorem dX12_expression_52 : decode cX12_expression 52 = .ok (.aload_n 0, 1) := by decide +kernel
theorem dX12_expression_53 : decode cX12_expression 53 = .ok (.getfield 469, 3) := by decide +kernel
theorem dX12_expression_56 : decode cX12_expression 56 = .ok (.ifCond .ne 88, 3) := by decide +kernel
theorem dX12_expression_59 : decode cX12_expression 59 = .ok (.aload_n 0, 1) := by decide +kernel
theorem dX12_expression_6 : decode cX12_expression 6 = .ok (.if_icmp .ne 7, 3) := by decide +kernel
theorem dX12_expression_60 : decode cX12_expression 60 = .ok (.invokevirtual 491, 3) := by decide +kernel
theorem dX12_expression_63 : decode cX12_expression 63 = .ok (.invokestatic 521, 3) := by decide +kernel
theorem dX12_expression_66 : decode cX12_expression 66 = .ok (.ifCond .eq 78, 3) := by decide +kernel
theorem dX12_expression_69 : decode cX12_expression 69 = .ok (.aload_n 0, 1) := by decide +kernel
theorem dX12_expression_70 : decode cX12_expression 70 = .ok (.invokevirtual 491, 3) := by decide +kernel
theorem dX12_expression_73 : decode cX12_expression 73 = .ok (.istore_n 3, 1) := by decide +kernel
theorem dX12_expression_74 : decode cX12_expression 74 = .ok (.aload_n 0, 1) := by decide +kernel
theorem dX12_expression_75 : decode cX12_expression 75 = .ok (.dup, 1) := by decide +kernel
theorem dX12_expression_76 : decode cX12_expression 76 = .ok (.getfield 472, 3) := by decide +kernel
theorem dX12_expression_79 : decode cX12_expression 79 = .ok (.iconst 1, 1) := by decide +kernel
theorem dX12_expression_80 : decode cX12_expression 80 = .ok (.iadd, 1) := by decide +kernel
theorem dX12_expression_81 : decode cX12_expression 81 = .ok (.putfield 472, 3) := by decide +kernel
theorem dX12_expression_84 : decode cX12_expression 84 = .ok (.iload_n 3, 1) := by decide +kernel
theorem dX12_expression_85 : decode cX12_expression 85 = .ok (.bipush 47, 2) := by decide +kernel
theorem dX12_expression_87 : decode cX12_expression 87 = .ok (.if_icmp .ne 24, 3) := by decide +kernel
theorem dX12_expression_9 : decode cX12_expression 9 = .ok (.iconst 1, 1) := by decide +kernel
theorem dX12_expression_90 : decode cX12_expression 90 = .ok (.aload_n 0, 1) := by decide +kernel
theorem dX12_expression_91 : decode cX12_expression 91 = .ok (.invokevirtual 491, 3) := by decide +kernel
theorem dX12_expression_94 : decode cX12_expression 94 = .ok (.bipush 47, 2) := by decide +kernel
theorem dX12_expression_96 : decode cX12_expression 96 = .ok (.if_icmp .ne 15, 3) := by decide +kernel
theorem dX12_expression_99 : decode cX12_expression 99 = .ok (.iconst 2, 1) := by decide +kernel
set_option maxHeartbeats 4000000 in
set_option maxRecDepth 100000 in
theorem T_X12_expression (l : Launch) (D : va_G) (K : Nat → ClassId) (Z Y : Nat → Nat) (ad : Nat → Nat) (t : tSt) (hok : okM t) (hs0 : 1 ≤ (t.1 0 68).toInt) : tMet l yX12_expression cX12_expression 5 (some .int) (rmD 11 0 0) D K Z Y [.ref (ad 0)] (WM K ad t) (QI D K (fun (r : Int32) (u : tSt) => okM u ∧ frA [(0, 68), (0, 70)] [] [26, 27] [] t u ∧ (-2147483648 : Int) ≤ r.toInt ∧ r.toInt ≤ 2147483647 ∧ ((t.1 0 68).toInt ≤ (u.1 0 68).toInt) ∧ ((u.1 0 68).toInt ≤ (t.1 0 69).toInt ∨ (u.1 0 68).toInt = (t.1 0 68).toInt) ∧ (1 ≤ (u.1 0 70).toInt ∨ (t.1 0 68).toInt < (u.1 0 68).toInt) ∧ ((u.1 0 70).toInt = 0 → (t.1 0 70).toInt = 0)) (fun (u : tSt) => WM K ad u)) 0 0 := by
  refine t_met RX12 ⟨rfl, by decide +kernel⟩ (Nat.le_of_ble_eq_true rfl) ?_
  intro p e s m below meth c A ls C hE hZ hr hlocks hA hP hD hS hl
  have hl : lv_has ls 5 [(0, .ref (ad 0))] := hl
  have hokt := hok
  have hfr : frA [(0, 68), (0, 70)] [] [26, 27] [] t t := frA_rf
  have h_1 : (0 : Int) ≤ (t.1 0 68).toInt ∧ (t.1 0 68).toInt ≤ 81 := hok.1 0 68
  have h_2 : (0 : Int) ≤ (t.1 0 69).toInt ∧ (t.1 0 69).toInt ≤ 81 := hok.1 0 69
  have h_3 : (0 : Int) ≤ (t.1 0 70).toInt ∧ (t.1 0 70).toInt ≤ 8 := hok.1 0 70
  have L_52 : ∀ (fuel_52 : Nat) (t1 : tSt) (w52_1 : Int32) (w52_2 : Int32) (H : Heap) (locs : List Loc) (ls : Array Slot), okM t1 → frA [(0, 68), (0, 70)] [] [26, 27] [] t t1 → (0 : Int) ≤ w52_1.toInt ∧ w52_1.toInt ≤ 1 → ((t.1 0 68).toInt ≤ (t1.1 0 68).toInt) → ((t1.1 0 68).toInt ≤ (t.1 0 69).toInt ∨ (t1.1 0 68).toInt = (t.1 0 68).toInt) → (1 ≤ (t1.1 0 70).toInt ∨ (t.1 0 68).toInt < (t1.1 0 68).toInt) → ((t1.1 0 70).toInt = 0 → (t.1 0 70).toInt = 0) → (81 - (t1.1 0 68).toInt) < (fuel_52 : Int) → va_P D vwCl (WM K ad t1) H → va_D A (WM K ad t1) → va_S A s.heap H locs → lv_has ls 5 [(0, .ref (ad 0)), (1, .int w52_1), (2, .int w52_2)] → W p l e (rmD 11 0 0) s m [.ref (ad 0)].toArray below meth c H locs 0 0 (MQ below (QI D K (fun (r : Int32) (u : tSt) => okM u ∧ frA [(0, 68), (0, 70)] [] [26, 27] [] t u ∧ (-2147483648 : Int) ≤ r.toInt ∧ r.toInt ≤ 2147483647 ∧ ((t.1 0 68).toInt ≤ (u.1 0 68).toInt) ∧ ((u.1 0 68).toInt ≤ (t.1 0 69).toInt ∨ (u.1 0 68).toInt = (t.1 0 68).toInt) ∧ (1 ≤ (u.1 0 70).toInt ∨ (t.1 0 68).toInt < (u.1 0 68).toInt) ∧ ((u.1 0 70).toInt = 0 → (t.1 0 70).toInt = 0)) (fun (u : tSt) => WM K ad u) A) [.ref (ad 0)].toArray s 0 0 A) (F0 m 52 ls []) := by
    intro fuel_52
    induction fuel_52 with
    | zero =>
      intro t1 w52_1 w52_2 H locs ls hok hfr hw52_1 hi52_0 hi52_1 hi52_2 hi52_3 hm52_52 hP hD hS hl
      have h_4 : (t1.1 0 69).toInt = (t.1 0 69).toInt := ti_eq (hfr.1 0 69 rfl)
      have h_5 : (0 : Int) ≤ (t1.1 0 68).toInt ∧ (t1.1 0 68).toInt ≤ 81 := hok.1 0 68
      have h_6 : (0 : Int) ≤ (t1.1 0 69).toInt ∧ (t1.1 0 69).toInt ≤ 81 := hok.1 0 69
      have h_7 : (0 : Int) ≤ (t1.1 0 70).toInt ∧ (t1.1 0 70).toInt ≤ 8 := hok.1 0 70
      exact absurd hm52_52 (by omega)
    | succ fuel_52 ih_52 =>
      intro t1 w52_1 w52_2 H locs ls hok hfr hw52_1 hi52_0 hi52_1 hi52_2 hi52_3 hm52_52 hP hD hS hl
      have hm52_52 : (81 - (t1.1 0 68).toInt) < (fuel_52 : Int) + 1 := by omega
      have h_8 : (t1.1 0 69).toInt = (t.1 0 69).toInt := ti_eq (hfr.1 0 69 rfl)
      have h_9 : (0 : Int) ≤ (t1.1 0 68).toInt ∧ (t1.1 0 68).toInt ≤ 81 := hok.1 0 68
      have h_10 : (0 : Int) ≤ (t1.1 0 69).toInt ∧ (t1.1 0 69).toInt ≤ 81 := hok.1 0 69
      have h_11 : (0 : Int) ≤ (t1.1 0 70).toInt ∧ (t1.1 0 70).toInt ≤ 8 := hok.1 0 70
      have L_111 : ∀ (t1 : tSt) (w111_1 : Int32) (w111_2 : Int32) (w111_3 : Int32) (H : Heap) (locs : List Loc) (ls : Array Slot), okM t1 → frA [(0, 68), (0, 70)] [] [26, 27] [] t t1 → (0 : Int) ≤ w111_1.toInt ∧ w111_1.toInt ≤ 1 → (-1 : Int) ≤ w111_3.toInt ∧ w111_3.toInt ≤ 255 → (1 : Int) ≤ (t1.1 0 68).toInt ∧ (t1.1 0 68).toInt ≤ 81 → (0 : Int) ≤ (t1.1 0 70).toInt ∧ (t1.1 0 70).toInt ≤ 0 → ((t.1 0 68).toInt ≤ (t1.1 0 68).toInt) → ((t1.1 0 68).toInt ≤ (t.1 0 69).toInt ∨ (t1.1 0 68).toInt = (t.1 0 68).toInt) → ((t.1 0 68).toInt < (t1.1 0 68).toInt) → ((t1.1 0 70).toInt = 0 → (t.1 0 70).toInt = 0) → (81 - (t1.1 0 68).toInt) < (fuel_52 : Int) → va_P D vwCl (WM K ad t1) H → va_D A (WM K ad t1) → va_S A s.heap H locs → lv_has ls 5 [(0, .ref (ad 0)), (1, .int w111_1), (2, .int w111_2), (3, .int w111_3)] → W p l e (rmD 11 0 0) s m [.ref (ad 0)].toArray below meth c H locs 0 0 (MQ below (QI D K (fun (r : Int32) (u : tSt) => okM u ∧ frA [(0, 68), (0, 70)] [] [26, 27] [] t u ∧ (-2147483648 : Int) ≤ r.toInt ∧ r.toInt ≤ 2147483647 ∧ ((t.1 0 68).toInt ≤ (u.1 0 68).toInt) ∧ ((u.1 0 68).toInt ≤ (t.1 0 69).toInt ∨ (u.1 0 68).toInt = (t.1 0 68).toInt) ∧ (1 ≤ (u.1 0 70).toInt ∨ (t.1 0 68).toInt < (u.1 0 68).toInt) ∧ ((u.1 0 70).toInt = 0 → (t.1 0 70).toInt = 0)) (fun (u : tSt) => WM K ad u) A) [.ref (ad 0)].toArray s 0 0 A) (F0 m 111 ls []) := by
        intro t1 w111_1 w111_2 w111_3 H locs ls hok hfr hw111_1 hw111_3 hf111_68 hf111_70 hi111_0 hi111_1 hi111_2 hi111_3 hm111_52 hP hD hS hl
        have h_12 : (t1.1 0 69).toInt = (t.1 0 69).toInt := ti_eq (hfr.1 0 69 rfl)
        have h_13 : (0 : Int) ≤ (t1.1 0 69).toInt ∧ (t1.1 0 69).toInt ≤ 81 := hok.1 0 69
        refine lv_aload_n C.1 C.2.1 dX12_expression_111 rfl (lv_at hl 0 rfl) ?_
        refine g_Vi (As := []) (rest := []) C hP hD hS hA (T_X12_atom l D K Z Y ad t1 hok (show 1 ≤ (t1.1 0 68).toInt from by omega)) hE hZ (uwV m_35_0 m_35_1 m_35_2 m_1_5 m_35_3) (hdV 0 (by decide +kernel) rfl) ⟨Nat.le_of_ble_eq_true rfl, Nat.le_of_ble_eq_true rfl⟩ rfl rfl (ci := 11) (q0 := 0) rfl rfl rfl hl.1 (Nat.le_of_ble_eq_true rfl) dX12_expression_112 ⟨Nat.le_of_ble_eq_true rfl, Nat.le_of_ble_eq_true rfl⟩ (fun r_15 t_14 H locs hw hP hD hS => ?_)
        obtain ⟨hok, f_16, h_17, h_18, p_19, p_20, p_21, p_22⟩ := hw
        have hfr : frA [(0, 68), (0, 70)] [] [26, 27] [] t t_14 := frA_tr hfr f_16 rfl
        have h_23 : (t_14.1 0 69).toInt = (t1.1 0 69).toInt := ti_eq (f_16.1 0 69 rfl)
        have h_24 : (0 : Int) ≤ (t_14.1 0 68).toInt ∧ (t_14.1 0 68).toInt ≤ 81 := hok.1 0 68
        have h_25 : (0 : Int) ≤ (t_14.1 0 69).toInt ∧ (t_14.1 0 69).toInt ≤ 81 := hok.1 0 69
        have h_26 : (0 : Int) ≤ (t_14.1 0 70).toInt ∧ (t_14.1 0 70).toInt ≤ 8 := hok.1 0 70
        replace p_19 : (t1.1 0 68).toInt ≤ (t_14.1 0 68).toInt := p_19
        replace p_20 : (t_14.1 0 68).toInt ≤ (t1.1 0 69).toInt ∨ (t_14.1 0 68).toInt = (t1.1 0 68).toInt := p_20
        replace p_21 : 1 ≤ (t_14.1 0 70).toInt ∨ (t1.1 0 68).toInt < (t_14.1 0 68).toInt := p_21
        replace p_22 : (t_14.1 0 70).toInt = 0 → (t1.1 0 70).toInt = 0 := p_22
        refine lv_istore (lv' := [(4, .int r_15), (0, .ref (ad 0)), (1, .int w111_1), (2, .int w111_2), (3, .int w111_3)]) C.1 C.2.1 dX12_expression_115 hl (by decide) rfl (fun ls hl => ?_)
        have hl : lv_has ls 5 [(0, .ref (ad 0)), (1, .int w111_1), (2, .int w111_2), (3, .int w111_3), (4, .int r_15)] := lv_sub hl [1, 2, 3, 4, 0] rfl
        refine lv_aload_n C.1 C.2.1 dX12_expression_117 rfl (lv_at hl 0 rfl) ?_
        refine k_get (v := .int (t_14.1 0 70)) C hP 0 rfl rfl inlX12 70 (by decide) m_29_13 rfl dX12_expression_118 ?_
        refine lv_if_ne (tgt := 141) C.1 C.2.1 dX12_expression_121 (by decide) (fun c_27 => ?_) (fun c_27 => ?_)
        · replace c_27 : ¬ (t_14.1 0 70).toInt = 0 := i_ne c_27
          refine lv_goto (tgt := 52) C.1 C.2.1 dX12_expression_141 (by decide) ?_
          exact ih_52 t_14 w111_1 w111_2 _ _ _ hok hfr ⟨by omega, by omega⟩ (show (t.1 0 68).toInt ≤ (t_14.1 0 68).toInt from by omega) (show (t_14.1 0 68).toInt ≤ (t.1 0 69).toInt ∨ (t_14.1 0 68).toInt = (t.1 0 68).toInt from by omega) (show 1 ≤ (t_14.1 0 70).toInt ∨ (t.1 0 68).toInt < (t_14.1 0 68).toInt from by omega) (show (t_14.1 0 70).toInt = 0 → (t.1 0 70).toInt = 0 from by omega) (show (81 - (t_14.1 0 68).toInt) < (fuel_52 : Int) from by omega) hP hD hS (lv_sub hl [0, 1, 2] rfl)
        · replace c_27 : (t_14.1 0 70).toInt = 0 := i_eq c_27
          refine lv_aload_n C.1 C.2.1 dX12_expression_124 rfl (lv_at hl 0 rfl) ?_
          refine lv_iload_n C.1 C.2.1 dX12_expression_125 rfl (lv_at hl 3 rfl) ?_
          refine lv_iload_n C.1 C.2.1 dX12_expression_126 rfl (lv_at hl 2 rfl) ?_
          refine g_Si (As := [.int w111_2]) (rest := [.int w111_3, .ref (ad 0)]) C hP hD hS hA (T_X12_value l D K Z Y ad t_14 hok (w111_2)) hE hZ (uwS m_36_9 m_36_10 m_1_5 m_36_11) (hdS 1 (by decide +kernel) rfl) ⟨Nat.le_of_ble_eq_true rfl, Nat.le_of_ble_eq_true rfl⟩ rfl rfl rfl hl.1 (Nat.le_of_ble_eq_true rfl) dX12_expression_127 ⟨Nat.le_of_ble_eq_true rfl, Nat.le_of_ble_eq_true rfl⟩ (fun r_29 t_28 H locs hw hP hD hS => ?_)
          obtain ⟨h_31, h_32, p_33⟩ := hw
          replace p_33 : r_29.toInt = (vO w111_2).toInt := p_33
          obtain ⟨v_34, e_35⟩ : ∃ z, z = (r_29 : Int32).toInt64 := ⟨_, rfl⟩
          have h_36 : v_34.toInt = r_29.toInt := by rw [e_35]; exact Jvm.Kit.i64_of_i32 _
          have h_37 := i_rng r_29
          refine lv_i2l (v := v_34) C.1 C.2.1 dX12_expression_130 e_35.symm ?_
          refine lv_iload C.1 C.2.1 dX12_expression_131 (lv_at hl 4 rfl) ?_
          refine g_Si (As := [.int r_15]) (rest := [.long v_34, .int w111_3, .ref (ad 0)]) C hP hD hS hA (T_X12_value l D K Z Y ad t_14 hok (r_15)) hE hZ (uwS m_36_9 m_36_10 m_1_5 m_36_11) (hdS 1 (by decide +kernel) rfl) ⟨Nat.le_of_ble_eq_true rfl, Nat.le_of_ble_eq_true rfl⟩ rfl rfl rfl hl.1 (Nat.le_of_ble_eq_true rfl) dX12_expression_133 ⟨Nat.le_of_ble_eq_true rfl, Nat.le_of_ble_eq_true rfl⟩ (fun r_39 t_38 H locs hw hP hD hS => ?_)
          obtain ⟨h_41, h_42, p_43⟩ := hw
          replace p_43 : r_39.toInt = (vO r_15).toInt := p_43
          obtain ⟨v_44, e_45⟩ : ∃ z, z = (r_39 : Int32).toInt64 := ⟨_, rfl⟩
          have h_46 : v_44.toInt = r_39.toInt := by rw [e_45]; exact Jvm.Kit.i64_of_i32 _
          have h_47 := i_rng r_39
          refine lv_i2l (v := v_44) C.1 C.2.1 dX12_expression_136 e_45.symm ?_
          refine g_Vi (As := [.int w111_3, .long v_34, .long v_44]) (rest := []) C hP hD hS hA (T_X12_worked l D K Z Y ad t_14 hok (w111_3) (show (-1 : Int) ≤ (w111_3 : Int32).toInt ∧ (w111_3 : Int32).toInt ≤ 255 from ⟨by omega, by omega⟩) (v_34) (show (-2147483648 : Int) ≤ (v_34 : Int64).toInt ∧ (v_34 : Int64).toInt ≤ 2147483647 from ⟨by omega, by omega⟩) (v_44) (show (-2147483648 : Int) ≤ (v_44 : Int64).toInt ∧ (v_44 : Int64).toInt ≤ 2147483647 from ⟨by omega, by omega⟩)) hE hZ (uwV m_36_13 m_36_14 m_36_15 m_1_5 m_36_16) (hdV 3 (by decide +kernel) rfl) ⟨Nat.le_of_ble_eq_true rfl, Nat.le_of_ble_eq_true rfl⟩ rfl rfl (ci := 11) (q0 := 0) rfl rfl rfl hl.1 (Nat.le_of_ble_eq_true rfl) dX12_expression_137 ⟨Nat.le_of_ble_eq_true rfl, Nat.le_of_ble_eq_true rfl⟩ (fun r_49 t_48 H locs hw hP hD hS => ?_)
          obtain ⟨hok, f_50, h_51, h_52, p_53⟩ := hw
          have hfr : frA [(0, 68), (0, 70)] [] [26, 27] [] t t_48 := frA_tr hfr f_50 rfl
          have h_54 : (t_48.1 0 68).toInt = (t_14.1 0 68).toInt := ti_eq (f_50.1 0 68 rfl)
          have h_55 : (t_48.1 0 69).toInt = (t_14.1 0 69).toInt := ti_eq (f_50.1 0 69 rfl)
          have h_56 : (0 : Int) ≤ (t_48.1 0 68).toInt ∧ (t_48.1 0 68).toInt ≤ 81 := hok.1 0 68
          have h_57 : (0 : Int) ≤ (t_48.1 0 69).toInt ∧ (t_48.1 0 69).toInt ≤ 81 := hok.1 0 69
          have h_58 : (0 : Int) ≤ (t_48.1 0 70).toInt ∧ (t_48.1 0 70).toInt ≤ 8 := hok.1 0 70
          replace p_53 : (t_48.1 0 70).toInt = 0 → (t_14.1 0 70).toInt = 0 := p_53
          refine lv_istore_n (lv' := [(2, .int r_49), (0, .ref (ad 0)), (1, .int w111_1), (3, .int w111_3), (4, .int r_15)]) C.1 C.2.1 dX12_expression_140 rfl hl (by decide) rfl (fun ls hl => ?_)
          have hl : lv_has ls 5 [(0, .ref (ad 0)), (1, .int w111_1), (2, .int r_49), (3, .int w111_3), (4, .int r_15)] := lv_sub hl [1, 2, 0, 3, 4] rfl
          refine lv_goto (tgt := 52) C.1 C.2.1 dX12_expression_141 (by decide) ?_
          exact ih_52 t_48 w111_1 r_49 _ _ _ hok hfr ⟨by omega, by omega⟩ (show (t.1 0 68).toInt ≤ (t_48.1 0 68).toInt from by omega) (show (t_48.1 0 68).toInt ≤ (t.1 0 69).toInt ∨ (t_48.1 0 68).toInt = (t.1 0 68).toInt from by omega) (show 1 ≤ (t_48.1 0 70).toInt ∨ (t.1 0 68).toInt < (t_48.1 0 68).toInt from by omega) (show (t_48.1 0 70).toInt = 0 → (t.1 0 70).toInt = 0 from by omega) (show (81 - (t_48.1 0 68).toInt) < (fuel_52 : Int) from by omega) hP hD hS (lv_sub hl [0, 1, 2] rfl)
      refine lv_aload_n C.1 C.2.1 dX12_expression_52 rfl (lv_at hl 0 rfl) ?_
      refine k_get (v := .int (t1.1 0 70)) C hP 0 rfl rfl inlX12 70 (by decide) m_29_13 rfl dX12_expression_53 ?_
      refine lv_if_ne (tgt := 144) C.1 C.2.1 dX12_expression_56 (by decide) (fun c_59 => ?_) (fun c_59 => ?_)
      · replace c_59 : ¬ (t1.1 0 70).toInt = 0 := i_ne c_59
        refine lv_aload_n C.1 C.2.1 dX12_expression_144 rfl (lv_at hl 0 rfl) ?_
        refine k_get (v := .int (t1.1 0 70)) C hP 0 rfl rfl inlX12 70 (by decide) m_29_13 rfl dX12_expression_145 ?_
        refine lv_if_le (tgt := 155) C.1 C.2.1 dX12_expression_148 (by decide) (fun c_60 => False.elim (by have c_60 : (t1.1 0 70).toInt ≤ 0 := i_le c_60; omega)) (fun c_60 => ?_)
        replace c_60 : 0 < (t1.1 0 70).toInt := i_nle c_60
        refine lv_iconst (v := 0) C.1 C.2.1 dX12_expression_151 (by decide) ?_
        refine lv_goto (tgt := 156) C.1 C.2.1 dX12_expression_152 (by decide) ?_
        exact g_iret C hr hlocks hP hD hS rfl t1 rfl ⟨hok, hfr, (i_rng _).1, (i_rng _).2, (show (t.1 0 68).toInt ≤ (t1.1 0 68).toInt from by omega), (show (t1.1 0 68).toInt ≤ (t.1 0 69).toInt ∨ (t1.1 0 68).toInt = (t.1 0 68).toInt from by omega), (show 1 ≤ (t1.1 0 70).toInt ∨ (t.1 0 68).toInt < (t1.1 0 68).toInt from by omega), (show (t1.1 0 70).toInt = 0 → (t.1 0 70).toInt = 0 from by omega)⟩ (Nat.le_of_ble_eq_true rfl) (Nat.le_of_ble_eq_true rfl) dX12_expression_156
      · replace c_59 : (t1.1 0 70).toInt = 0 := i_eq c_59
        refine lv_aload_n C.1 C.2.1 dX12_expression_59 rfl (lv_at hl 0 rfl) ?_
        refine g_Vi (As := []) (rest := []) C hP hD hS hA (T_X12_now l D K Z Y ad t1 hok (show 1 ≤ (t1.1 0 68).toInt from by omega)) hE hZ (uwV m_34_20 m_34_21 m_34_22 m_1_5 m_34_23) (hdV 0 (by decide +kernel) rfl) ⟨Nat.le_of_ble_eq_true rfl, Nat.le_of_ble_eq_true rfl⟩ rfl rfl (ci := 11) (q0 := 0) rfl rfl rfl hl.1 (Nat.le_of_ble_eq_true rfl) dX12_expression_60 ⟨Nat.le_of_ble_eq_true rfl, Nat.le_of_ble_eq_true rfl⟩ (fun r_62 t_61 H locs hw hP hD hS => ?_)
        obtain ⟨h_64, h_65, p_66⟩ := hw
        replace p_66 : r_62.toInt = -1 ∨ (t1.1 0 68).toInt < (t1.1 0 69).toInt := p_66
        refine g_Si (As := [.int r_62]) (rest := []) C hP hD hS hA (T_X12_isSign l D K Z Y ad t1 hok (r_62) (show (-1 : Int) ≤ (r_62 : Int32).toInt ∧ (r_62 : Int32).toInt ≤ 255 from ⟨by omega, by omega⟩)) hE hZ (uwS m_36_6 m_36_7 m_1_5 m_36_8) (hdS 1 (by decide +kernel) rfl) ⟨Nat.le_of_ble_eq_true rfl, Nat.le_of_ble_eq_true rfl⟩ rfl rfl rfl hl.1 (Nat.le_of_ble_eq_true rfl) dX12_expression_63 ⟨Nat.le_of_ble_eq_true rfl, Nat.le_of_ble_eq_true rfl⟩ (fun r_68 t_67 H locs hw hP hD hS => ?_)
        obtain ⟨h_70, h_71, p_72⟩ := hw
        replace p_72 : r_68.toInt = 1 → ¬ r_62.toInt = -1 := p_72
        refine lv_if_eq (tgt := 144) C.1 C.2.1 dX12_expression_66 (by decide) (fun c_73 => ?_) (fun c_73 => ?_)
        · replace c_73 : r_68.toInt = 0 := i_eq c_73
          refine lv_aload_n C.1 C.2.1 dX12_expression_144 rfl (lv_at hl 0 rfl) ?_
          refine k_get (v := .int (t1.1 0 70)) C hP 0 rfl rfl inlX12 70 (by decide) m_29_13 rfl dX12_expression_145 ?_
          refine lv_if_le (tgt := 155) C.1 C.2.1 dX12_expression_148 (by decide) (fun c_74 => ?_) (fun c_74 => False.elim (by have c_74 : 0 < (t1.1 0 70).toInt := i_nle c_74; omega))
          replace c_74 : (t1.1 0 70).toInt ≤ 0 := i_le c_74
          refine lv_iload_n C.1 C.2.1 dX12_expression_155 rfl (lv_at hl 2 rfl) ?_
          exact g_iret C hr hlocks hP hD hS rfl t1 rfl ⟨hok, hfr, (i_rng _).1, (i_rng _).2, (show (t.1 0 68).toInt ≤ (t1.1 0 68).toInt from by omega), (show (t1.1 0 68).toInt ≤ (t.1 0 69).toInt ∨ (t1.1 0 68).toInt = (t.1 0 68).toInt from by omega), (show 1 ≤ (t1.1 0 70).toInt ∨ (t.1 0 68).toInt < (t1.1 0 68).toInt from by omega), (show (t1.1 0 70).toInt = 0 → (t.1 0 70).toInt = 0 from by omega)⟩ (Nat.le_of_ble_eq_true rfl) (Nat.le_of_ble_eq_true rfl) dX12_expression_156
        · replace c_73 : ¬ r_68.toInt = 0 := i_ne c_73
          refine lv_aload_n C.1 C.2.1 dX12_expression_69 rfl (lv_at hl 0 rfl) ?_
          refine g_Vi (As := []) (rest := []) C hP hD hS hA (T_X12_now l D K Z Y ad t1 hok (show 1 ≤ (t1.1 0 68).toInt from by omega)) hE hZ (uwV m_34_20 m_34_21 m_34_22 m_1_5 m_34_23) (hdV 0 (by decide +kernel) rfl) ⟨Nat.le_of_ble_eq_true rfl, Nat.le_of_ble_eq_true rfl⟩ rfl rfl (ci := 11) (q0 := 0) rfl rfl rfl hl.1 (Nat.le_of_ble_eq_true rfl) dX12_expression_70 ⟨Nat.le_of_ble_eq_true rfl, Nat.le_of_ble_eq_true rfl⟩ (fun r_76 t_75 H locs hw hP hD hS => ?_)
          obtain ⟨h_78, h_79, p_80⟩ := hw
          replace p_80 : r_76.toInt = -1 ∨ (t1.1 0 68).toInt < (t1.1 0 69).toInt := p_80
          refine lv_istore_n (lv' := [(3, .int r_76), (0, .ref (ad 0)), (1, .int w52_1), (2, .int w52_2)]) C.1 C.2.1 dX12_expression_73 rfl hl (by decide) rfl (fun ls hl => ?_)
          have hl : lv_has ls 5 [(0, .ref (ad 0)), (1, .int w52_1), (2, .int w52_2), (3, .int r_76)] := lv_sub hl [1, 2, 3, 0] rfl
          refine lv_aload_n C.1 C.2.1 dX12_expression_74 rfl (lv_at hl 0 rfl) ?_
          refine lv_dup C.1 C.2.1 dX12_expression_75 rfl ?_
          refine k_get (v := .int (t1.1 0 68)) C hP 0 rfl rfl inlX12 68 (by decide) m_31_6 rfl dX12_expression_76 ?_
          refine lv_iconst (v := 1) C.1 C.2.1 dX12_expression_79 (by decide) ?_
          obtain ⟨v_81, e_82⟩ : ∃ z, z = ((t1.1 0 68) : Int32) + (1 : Int32) := ⟨_, rfl⟩
          have h_83 : v_81.toInt = (t1.1 0 68).toInt + 1 := by rw [e_82]; exact ti_iadd (by show (_ : Int) ≤ (t1.1 0 68).toInt + 1; omega) (by show (t1.1 0 68).toInt + 1 < (_ : Int); omega)
          refine k_iadd (v := v_81) C e_82.symm dX12_expression_80 ?_
          refine k_put (ws' := WM K ad (uI t1 0 68 v_81)) (v := .int v_81) C hP hD hS 0 rfl rfl inlX12 tyX12_ok nmX12 68 (by decide) m_31_6 rfl rfl rfl rfl rfl dX12_expression_81 (fun H locs hP hD hS => ?_)
          have hok : okM (uI t1 0 68 v_81) := ⟨okI_I hok.1 0 68 v_81 (show (0 : Int) ≤ (v_81 : Int32).toInt ∧ (v_81 : Int32).toInt ≤ 81 from ⟨by omega, by omega⟩), hok.2.1, hok.2.2.1, hok.2.2.2.1, hok.2.2.2.2.1, hok.2.2.2.2.2.1, hok.2.2.2.2.2.2.1, trivial⟩
          have hfr : frA [(0, 68), (0, 70)] [] [26, 27] [] t (uI t1 0 68 v_81) := frA_I hfr 0 68 _ rfl
          refine lv_iload_n C.1 C.2.1 dX12_expression_84 rfl (lv_at hl 3 rfl) ?_
          refine lv_bipush (v := 47) C.1 C.2.1 dX12_expression_85 (by decide) ?_
          refine lv_icmp_ne (tgt := 111) C.1 C.2.1 dX12_expression_87 (by decide) (fun c_84 => ?_) (fun c_84 => ?_)
          · replace c_84 : ¬ r_76.toInt = 47 := i_ne c_84
            exact L_111 (uI t1 0 68 v_81) w52_1 w52_2 r_76 _ _ _ hok hfr ⟨by omega, by omega⟩ ⟨by omega, by omega⟩ (show (1 : Int) ≤ (v_81 : Int32).toInt ∧ (v_81 : Int32).toInt ≤ 81 from ⟨by omega, by omega⟩) (show (0 : Int) ≤ ((t1.1 0 70) : Int32).toInt ∧ ((t1.1 0 70) : Int32).toInt ≤ 0 from ⟨by omega, by omega⟩) (show (t.1 0 68).toInt ≤ v_81.toInt from by omega) (show v_81.toInt ≤ (t.1 0 69).toInt ∨ v_81.toInt = (t.1 0 68).toInt from by omega) (show (t.1 0 68).toInt < v_81.toInt from by omega) (show (t1.1 0 70).toInt = 0 → (t.1 0 70).toInt = 0 from by omega) (show (81 - v_81.toInt) < (fuel_52 : Int) from by omega) hP hD hS (lv_sub hl [0, 1, 2, 3] rfl)
          · replace c_84 : r_76.toInt = 47 := i_eq c_84
            refine lv_aload_n C.1 C.2.1 dX12_expression_90 rfl (lv_at hl 0 rfl) ?_
            refine g_Vi (As := []) (rest := []) C hP hD hS hA (T_X12_now l D K Z Y ad (uI t1 0 68 v_81) hok (show 1 ≤ v_81.toInt from by omega)) hE hZ (uwV m_34_20 m_34_21 m_34_22 m_1_5 m_34_23) (hdV 0 (by decide +kernel) rfl) ⟨Nat.le_of_ble_eq_true rfl, Nat.le_of_ble_eq_true rfl⟩ rfl rfl (ci := 11) (q0 := 0) rfl rfl rfl hl.1 (Nat.le_of_ble_eq_true rfl) dX12_expression_91 ⟨Nat.le_of_ble_eq_true rfl, Nat.le_of_ble_eq_true rfl⟩ (fun r_86 t_85 H locs hw hP hD hS => ?_)
            obtain ⟨h_88, h_89, p_90⟩ := hw
            replace p_90 : r_86.toInt = -1 ∨ v_81.toInt < (t1.1 0 69).toInt := p_90
            refine lv_bipush (v := 47) C.1 C.2.1 dX12_expression_94 (by decide) ?_
            refine lv_icmp_ne (tgt := 111) C.1 C.2.1 dX12_expression_96 (by decide) (fun c_91 => ?_) (fun c_91 => ?_)
            · replace c_91 : ¬ r_86.toInt = 47 := i_ne c_91
              exact L_111 (uI t1 0 68 v_81) w52_1 w52_2 r_76 _ _ _ hok hfr ⟨by omega, by omega⟩ ⟨by omega, by omega⟩ (show (1 : Int) ≤ (v_81 : Int32).toInt ∧ (v_81 : Int32).toInt ≤ 81 from ⟨by omega, by omega⟩) (show (0 : Int) ≤ ((t1.1 0 70) : Int32).toInt ∧ ((t1.1 0 70) : Int32).toInt ≤ 0 from ⟨by omega, by omega⟩) (show (t.1 0 68).toInt ≤ v_81.toInt from by omega) (show v_81.toInt ≤ (t.1 0 69).toInt ∨ v_81.toInt = (t.1 0 68).toInt from by omega) (show (t.1 0 68).toInt < v_81.toInt from by omega) (show (t1.1 0 70).toInt = 0 → (t.1 0 70).toInt = 0 from by omega) (show (81 - v_81.toInt) < (fuel_52 : Int) from by omega) hP hD hS (lv_sub hl [0, 1, 2, 3] rfl)
            · replace c_91 : r_86.toInt = 47 := i_eq c_91
              refine lv_iconst (v := 2) C.1 C.2.1 dX12_expression_99 (by decide) ?_
              refine lv_istore_n (lv' := [(3, .int 2), (0, .ref (ad 0)), (1, .int w52_1), (2, .int w52_2)]) C.1 C.2.1 dX12_expression_100 rfl hl (by decide) rfl (fun ls hl => ?_)
              have hl : lv_has ls 5 [(0, .ref (ad 0)), (1, .int w52_1), (2, .int w52_2), (3, .int 2)] := lv_sub hl [1, 2, 3, 0] rfl
              refine lv_aload_n C.1 C.2.1 dX12_expression_101 rfl (lv_at hl 0 rfl) ?_
              refine lv_dup C.1 C.2.1 dX12_expression_102 rfl ?_
              refine k_get (v := .int v_81) C hP 0 rfl rfl inlX12 68 (by decide) m_31_6 rfl dX12_expression_103 ?_
              refine lv_iconst (v := 1) C.1 C.2.1 dX12_expression_106 (by decide) ?_
              obtain ⟨v_92, e_93⟩ : ∃ z, z = (v_81 : Int32) + (1 : Int32) := ⟨_, rfl⟩
              have h_94 : v_92.toInt = v_81.toInt + 1 := by rw [e_93]; exact ti_iadd (by show (_ : Int) ≤ v_81.toInt + 1; omega) (by show v_81.toInt + 1 < (_ : Int); omega)
              refine k_iadd (v := v_92) C e_93.symm dX12_expression_107 ?_
              refine k_put (ws' := WM K ad (uI (uI t1 0 68 v_81) 0 68 v_92)) (v := .int v_92) C hP hD hS 0 rfl rfl inlX12 tyX12_ok nmX12 68 (by decide) m_31_6 rfl rfl rfl rfl rfl dX12_expression_108 (fun H locs hP hD hS => ?_)
              have hok : okM (uI (uI t1 0 68 v_81) 0 68 v_92) := ⟨okI_I hok.1 0 68 v_92 (show (0 : Int) ≤ (v_92 : Int32).toInt ∧ (v_92 : Int32).toInt ≤ 81 from ⟨by omega, by omega⟩), hok.2.1, hok.2.2.1, hok.2.2.2.1, hok.2.2.2.2.1, hok.2.2.2.2.2.1, hok.2.2.2.2.2.2.1, trivial⟩
              have hfr : frA [(0, 68), (0, 70)] [] [26, 27] [] t (uI (uI t1 0 68 v_81) 0 68 v_92) := frA_I hfr 0 68 _ rfl
              exact L_111 (uI (uI t1 0 68 v_81) 0 68 v_92) w52_1 w52_2 2 _ _ _ hok hfr ⟨by omega, by omega⟩ ⟨by decide, by decide⟩ (show (1 : Int) ≤ (v_92 : Int32).toInt ∧ (v_92 : Int32).toInt ≤ 81 from ⟨by omega, by omega⟩) (show (0 : Int) ≤ ((t1.1 0 70) : Int32).toInt ∧ ((t1.1 0 70) : Int32).toInt ≤ 0 from ⟨by omega, by omega⟩) (show (t.1 0 68).toInt ≤ v_92.toInt from by omega) (show v_92.toInt ≤ (t.1 0 69).toInt ∨ v_92.toInt = (t.1 0 68).toInt from by omega) (show (t.1 0 68).toInt < v_92.toInt from by omega) (show (t1.1 0 70).toInt = 0 → (t.1 0 70).toInt = 0 from by omega) (show (81 - v_92.toInt) < (fuel_52 : Int) from by omega) hP hD hS (lv_sub hl [0, 1, 2, 3] rfl)
  have L_38 : ∀ (t1 : tSt) (w38_1 : Int32) (H : Heap) (locs : List Loc) (ls : Array Slot), okM t1 → frA [(0, 68), (0, 70)] [] [26, 27] [] t t1 → (0 : Int) ≤ w38_1.toInt ∧ w38_1.toInt ≤ 1 → ((t.1 0 68).toInt ≤ (t1.1 0 68).toInt) → ((t1.1 0 68).toInt ≤ (t.1 0 69).toInt ∨ (t1.1 0 68).toInt = (t.1 0 68).toInt) → ((t1.1 0 70).toInt = (t.1 0 70).toInt) → va_P D vwCl (WM K ad t1) H → va_D A (WM K ad t1) → va_S A s.heap H locs → lv_has ls 5 [(0, .ref (ad 0)), (1, .int w38_1)] → W p l e (rmD 11 0 0) s m [.ref (ad 0)].toArray below meth c H locs 0 0 (MQ below (QI D K (fun (r : Int32) (u : tSt) => okM u ∧ frA [(0, 68), (0, 70)] [] [26, 27] [] t u ∧ (-2147483648 : Int) ≤ r.toInt ∧ r.toInt ≤ 2147483647 ∧ ((t.1 0 68).toInt ≤ (u.1 0 68).toInt) ∧ ((u.1 0 68).toInt ≤ (t.1 0 69).toInt ∨ (u.1 0 68).toInt = (t.1 0 68).toInt) ∧ (1 ≤ (u.1 0 70).toInt ∨ (t.1 0 68).toInt < (u.1 0 68).toInt) ∧ ((u.1 0 70).toInt = 0 → (t.1 0 70).toInt = 0)) (fun (u : tSt) => WM K ad u) A) [.ref (ad 0)].toArray s 0 0 A) (F0 m 38 ls []) := by
    intro t1 w38_1 H locs ls hok hfr hw38_1 hi38_0 hi38_1 hi38_2 hP hD hS hl
    have h_95 : (t1.1 0 69).toInt = (t.1 0 69).toInt := ti_eq (hfr.1 0 69 rfl)
    have h_96 : (0 : Int) ≤ (t1.1 0 68).toInt ∧ (t1.1 0 68).toInt ≤ 81 := hok.1 0 68
    have h_97 : (0 : Int) ≤ (t1.1 0 69).toInt ∧ (t1.1 0 69).toInt ≤ 81 := hok.1 0 69
    have h_98 : (0 : Int) ≤ (t1.1 0 70).toInt ∧ (t1.1 0 70).toInt ≤ 8 := hok.1 0 70
    refine lv_aload_n C.1 C.2.1 dX12_expression_38 rfl (lv_at hl 0 rfl) ?_
    refine g_Vi (As := []) (rest := []) C hP hD hS hA (T_X12_atom l D K Z Y ad t1 hok (show 1 ≤ (t1.1 0 68).toInt from by omega)) hE hZ (uwV m_35_0 m_35_1 m_35_2 m_1_5 m_35_3) (hdV 0 (by decide +kernel) rfl) ⟨Nat.le_of_ble_eq_true rfl, Nat.le_of_ble_eq_true rfl⟩ rfl rfl (ci := 11) (q0 := 0) rfl rfl rfl hl.1 (Nat.le_of_ble_eq_true rfl) dX12_expression_39 ⟨Nat.le_of_ble_eq_true rfl, Nat.le_of_ble_eq_true rfl⟩ (fun r_100 t_99 H locs hw hP hD hS => ?_)
    obtain ⟨hok, f_101, h_102, h_103, p_104, p_105, p_106, p_107⟩ := hw
    have hfr : frA [(0, 68), (0, 70)] [] [26, 27] [] t t_99 := frA_tr hfr f_101 rfl
    have h_108 : (t_99.1 0 69).toInt = (t1.1 0 69).toInt := ti_eq (f_101.1 0 69 rfl)
    have h_109 : (0 : Int) ≤ (t_99.1 0 68).toInt ∧ (t_99.1 0 68).toInt ≤ 81 := hok.1 0 68
    have h_110 : (0 : Int) ≤ (t_99.1 0 69).toInt ∧ (t_99.1 0 69).toInt ≤ 81 := hok.1 0 69
    have h_111 : (0 : Int) ≤ (t_99.1 0 70).toInt ∧ (t_99.1 0 70).toInt ≤ 8 := hok.1 0 70
    replace p_104 : (t1.1 0 68).toInt ≤ (t_99.1 0 68).toInt := p_104
    replace p_105 : (t_99.1 0 68).toInt ≤ (t1.1 0 69).toInt ∨ (t_99.1 0 68).toInt = (t1.1 0 68).toInt := p_105
    replace p_106 : 1 ≤ (t_99.1 0 70).toInt ∨ (t1.1 0 68).toInt < (t_99.1 0 68).toInt := p_106
    replace p_107 : (t_99.1 0 70).toInt = 0 → (t1.1 0 70).toInt = 0 := p_107
    refine lv_istore_n (lv' := [(2, .int r_100), (0, .ref (ad 0)), (1, .int w38_1)]) C.1 C.2.1 dX12_expression_42 rfl hl (by decide) rfl (fun ls hl => ?_)
    have hl : lv_has ls 5 [(0, .ref (ad 0)), (1, .int w38_1), (2, .int r_100)] := lv_sub hl [1, 2, 0] rfl
    refine lv_iload_n C.1 C.2.1 dX12_expression_43 rfl (lv_at hl 1 rfl) ?_
    refine lv_if_eq (tgt := 52) C.1 C.2.1 dX12_expression_44 (by decide) (fun c_112 => ?_) (fun c_112 => ?_)
    · replace c_112 : w38_1.toInt = 0 := i_eq c_112
      exact L_52 200 t_99 w38_1 r_100 _ _ _ hok hfr ⟨by omega, by omega⟩ (show (t.1 0 68).toInt ≤ (t_99.1 0 68).toInt from by omega) (show (t_99.1 0 68).toInt ≤ (t.1 0 69).toInt ∨ (t_99.1 0 68).toInt = (t.1 0 68).toInt from by omega) (show 1 ≤ (t_99.1 0 70).toInt ∨ (t.1 0 68).toInt < (t_99.1 0 68).toInt from by omega) (show (t_99.1 0 70).toInt = 0 → (t.1 0 70).toInt = 0 from by omega) (show (81 - (t_99.1 0 68).toInt) < ((200 : Nat) : Int) from by omega) hP hD hS (lv_sub hl [0, 1, 2] rfl)
    · replace c_112 : ¬ w38_1.toInt = 0 := i_ne c_112
      refine lv_iload_n C.1 C.2.1 dX12_expression_47 rfl (lv_at hl 2 rfl) ?_
      refine lv_ldc (v := 1073741824) C.1 C.2.1 C.2.2.2.1 (C.2.2.2.2.1 _ m_34_19) dX12_expression_48 ?_
      obtain ⟨v_113, e_114⟩ : ∃ z, z = (r_100 : Int32) ^^^ (1073741824 : Int32) := ⟨_, rfl⟩
      refine k_ixor (v := v_113) C e_114.symm dX12_expression_50 ?_
      refine lv_istore_n (lv' := [(2, .int v_113), (0, .ref (ad 0)), (1, .int w38_1)]) C.1 C.2.1 dX12_expression_51 rfl hl (by decide) rfl (fun ls hl => ?_)
      have hl : lv_has ls 5 [(0, .ref (ad 0)), (1, .int w38_1), (2, .int v_113)] := lv_sub hl [1, 2, 0] rfl
      exact L_52 200 t_99 w38_1 v_113 _ _ _ hok hfr ⟨by omega, by omega⟩ (show (t.1 0 68).toInt ≤ (t_99.1 0 68).toInt from by omega) (show (t_99.1 0 68).toInt ≤ (t.1 0 69).toInt ∨ (t_99.1 0 68).toInt = (t.1 0 68).toInt from by omega) (show 1 ≤ (t_99.1 0 70).toInt ∨ (t.1 0 68).toInt < (t_99.1 0 68).toInt from by omega) (show (t_99.1 0 70).toInt = 0 → (t.1 0 70).toInt = 0 from by omega) (show (81 - (t_99.1 0 68).toInt) < ((200 : Nat) : Int) from by omega) hP hD hS (lv_sub hl [0, 1, 2] rfl)
  refine lv_aload_n C.1 C.2.1 dX12_expression_0 rfl (lv_at hl 0 rfl) ?_
  refine g_Vi (As := []) (rest := []) C hP hD hS hA (T_X12_now l D K Z Y ad t hok (show 1 ≤ (t.1 0 68).toInt from by omega)) hE hZ (uwV m_34_20 m_34_21 m_34_22 m_1_5 m_34_23) (hdV 0 (by decide +kernel) rfl) ⟨Nat.le_of_ble_eq_true rfl, Nat.le_of_ble_eq_true rfl⟩ rfl rfl (ci := 11) (q0 := 0) rfl rfl rfl hl.1 (Nat.le_of_ble_eq_true rfl) dX12_expression_1 ⟨Nat.le_of_ble_eq_true rfl, Nat.le_of_ble_eq_true rfl⟩ (fun r_117 t_116 H locs hw hP hD hS => ?_)
  obtain ⟨h_119, h_120, p_121⟩ := hw
  replace p_121 : r_117.toInt = -1 ∨ (t.1 0 68).toInt < (t.1 0 69).toInt := p_121
  refine lv_bipush (v := 45) C.1 C.2.1 dX12_expression_4 (by decide) ?_
  refine lv_icmp_ne (tgt := 13) C.1 C.2.1 dX12_expression_6 (by decide) (fun c_122 => ?_) (fun c_122 => ?_)
  · replace c_122 : ¬ r_117.toInt = 45 := i_ne c_122
    refine lv_iconst (v := 0) C.1 C.2.1 dX12_expression_13 (by decide) ?_
    refine lv_istore_n (lv' := [(1, .int 0), (0, .ref (ad 0))]) C.1 C.2.1 dX12_expression_14 rfl hl (by decide) rfl (fun ls hl => ?_)
    have hl : lv_has ls 5 [(0, .ref (ad 0)), (1, .int 0)] := lv_sub hl [1, 0] rfl
    refine lv_iload_n C.1 C.2.1 dX12_expression_15 rfl (lv_at hl 1 rfl) ?_
    refine lv_if_ne (tgt := 28) C.1 C.2.1 dX12_expression_16 (by decide) (fun h => absurd h (by decide)) (fun _ => ?_)
    refine lv_aload_n C.1 C.2.1 dX12_expression_19 rfl (lv_at hl 0 rfl) ?_
    refine g_Vi (As := []) (rest := []) C hP hD hS hA (T_X12_now l D K Z Y ad t hok (show 1 ≤ (t.1 0 68).toInt from by omega)) hE hZ (uwV m_34_20 m_34_21 m_34_22 m_1_5 m_34_23) (hdV 0 (by decide +kernel) rfl) ⟨Nat.le_of_ble_eq_true rfl, Nat.le_of_ble_eq_true rfl⟩ rfl rfl (ci := 11) (q0 := 0) rfl rfl rfl hl.1 (Nat.le_of_ble_eq_true rfl) dX12_expression_20 ⟨Nat.le_of_ble_eq_true rfl, Nat.le_of_ble_eq_true rfl⟩ (fun r_124 t_123 H locs hw hP hD hS => ?_)
    obtain ⟨h_126, h_127, p_128⟩ := hw
    replace p_128 : r_124.toInt = -1 ∨ (t.1 0 68).toInt < (t.1 0 69).toInt := p_128
    refine lv_bipush (v := 43) C.1 C.2.1 dX12_expression_23 (by decide) ?_
    refine lv_icmp_ne (tgt := 38) C.1 C.2.1 dX12_expression_25 (by decide) (fun c_129 => ?_) (fun c_129 => ?_)
    · replace c_129 : ¬ r_124.toInt = 43 := i_ne c_129
      exact L_38 t 0 _ _ _ hok hfr ⟨by decide, by decide⟩ (show (t.1 0 68).toInt ≤ (t.1 0 68).toInt from by omega) (show (t.1 0 68).toInt ≤ (t.1 0 69).toInt ∨ (t.1 0 68).toInt = (t.1 0 68).toInt from by omega) (show (t.1 0 70).toInt = (t.1 0 70).toInt from by omega) hP hD hS (lv_sub hl [0, 1] rfl)
    · replace c_129 : r_124.toInt = 43 := i_eq c_129
      refine lv_aload_n C.1 C.2.1 dX12_expression_28 rfl (lv_at hl 0 rfl) ?_
      refine lv_dup C.1 C.2.1 dX12_expression_29 rfl ?_
      refine k_get (v := .int (t.1 0 68)) C hP 0 rfl rfl inlX12 68 (by decide) m_31_6 rfl dX12_expression_30 ?_
      refine lv_iconst (v := 1) C.1 C.2.1 dX12_expression_33 (by decide) ?_
      obtain ⟨v_130, e_131⟩ : ∃ z, z = ((t.1 0 68) : Int32) + (1 : Int32) := ⟨_, rfl⟩
      have h_132 : v_130.toInt = (t.1 0 68).toInt + 1 := by rw [e_131]; exact ti_iadd (by show (_ : Int) ≤ (t.1 0 68).toInt + 1; omega) (by show (t.1 0 68).toInt + 1 < (_ : Int); omega)
      refine k_iadd (v := v_130) C e_131.symm dX12_expression_34 ?_
      refine k_put (ws' := WM K ad (uI t 0 68 v_130)) (v := .int v_130) C hP hD hS 0 rfl rfl inlX12 tyX12_ok nmX12 68 (by decide) m_31_6 rfl rfl rfl rfl rfl dX12_expression_35 (fun H locs hP hD hS => ?_)
      have hok : okM (uI t 0 68 v_130) := ⟨okI_I hok.1 0 68 v_130 (show (0 : Int) ≤ (v_130 : Int32).toInt ∧ (v_130 : Int32).toInt ≤ 81 from ⟨by omega, by omega⟩), hok.2.1, hok.2.2.1, hok.2.2.2.1, hok.2.2.2.2.1, hok.2.2.2.2.2.1, hok.2.2.2.2.2.2.1, trivial⟩
      have hfr : frA [(0, 68), (0, 70)] [] [26, 27] [] t (uI t 0 68 v_130) := frA_I hfr 0 68 _ rfl
      exact L_38 (uI t 0 68 v_130) 0 _ _ _ hok hfr ⟨by decide, by decide⟩ (show (t.1 0 68).toInt ≤ v_130.toInt from by omega) (show v_130.toInt ≤ (t.1 0 69).toInt ∨ v_130.toInt = (t.1 0 68).toInt from by omega) (show (t.1 0 70).toInt = (t.1 0 70).toInt from by omega) hP hD hS (lv_sub hl [0, 1] rfl)
  · replace c_122 : r_117.toInt = 45 := i_eq c_122
    refine lv_iconst (v := 1) C.1 C.2.1 dX12_expression_9 (by decide) ?_
    refine lv_goto (tgt := 14) C.1 C.2.1 dX12_expression_10 (by decide) ?_
    refine lv_istore_n (lv' := [(1, .int 1), (0, .ref (ad 0))]) C.1 C.2.1 dX12_expression_14 rfl hl (by decide) rfl (fun ls hl => ?_)
    have hl : lv_has ls 5 [(0, .ref (ad 0)), (1, .int 1)] := lv_sub hl [1, 0] rfl
    refine lv_iload_n C.1 C.2.1 dX12_expression_15 rfl (lv_at hl 1 rfl) ?_
    refine lv_if_ne (tgt := 28) C.1 C.2.1 dX12_expression_16 (by decide) (fun _ => ?_) (fun h => absurd h (by decide))
    refine lv_aload_n C.1 C.2.1 dX12_expression_28 rfl (lv_at hl 0 rfl) ?_
    refine lv_dup C.1 C.2.1 dX12_expression_29 rfl ?_
    refine k_get (v := .int (t.1 0 68)) C hP 0 rfl rfl inlX12 68 (by decide) m_31_6 rfl dX12_expression_30 ?_
    refine lv_iconst (v := 1) C.1 C.2.1 dX12_expression_33 (by decide) ?_
    obtain ⟨v_133, e_134⟩ : ∃ z, z = ((t.1 0 68) : Int32) + (1 : Int32) := ⟨_, rfl⟩
    have h_135 : v_133.toInt = (t.1 0 68).toInt + 1 := by rw [e_134]; exact ti_iadd (by show (_ : Int) ≤ (t.1 0 68).toInt + 1; omega) (by show (t.1 0 68).toInt + 1 < (_ : Int); omega)
    refine k_iadd (v := v_133) C e_134.symm dX12_expression_34 ?_
    refine k_put (ws' := WM K ad (uI t 0 68 v_133)) (v := .int v_133) C hP hD hS 0 rfl rfl inlX12 tyX12_ok nmX12 68 (by decide) m_31_6 rfl rfl rfl rfl rfl dX12_expression_35 (fun H locs hP hD hS => ?_)
    have hok : okM (uI t 0 68 v_133) := ⟨okI_I hok.1 0 68 v_133 (show (0 : Int) ≤ (v_133 : Int32).toInt ∧ (v_133 : Int32).toInt ≤ 81 from ⟨by omega, by omega⟩), hok.2.1, hok.2.2.1, hok.2.2.2.1, hok.2.2.2.2.1, hok.2.2.2.2.2.1, hok.2.2.2.2.2.2.1, trivial⟩
    have hfr : frA [(0, 68), (0, 70)] [] [26, 27] [] t (uI t 0 68 v_133) := frA_I hfr 0 68 _ rfl
    exact L_38 (uI t 0 68 v_133) 1 _ _ _ hok hfr ⟨by decide, by decide⟩ (show (t.1 0 68).toInt ≤ v_133.toInt from by omega) (show v_133.toInt ≤ (t.1 0 69).toInt ∨ v_133.toInt = (t.1 0 68).toInt from by omega) (show (t.1 0 70).toInt = (t.1 0 70).toInt from by omega) hP hD hS (lv_sub hl [0, 1] rfl)

theorem dX12_inside_0 : decode cX12_inside 0 = .ok (.aload_n 0, 1) := by decide +kernel
theorem dX12_inside_1 : decode cX12_inside 1 = .ok (.dup, 1) := by decide +kernel
theorem dX12_inside_10 : decode cX12_inside 10 = .ok (.aload_n 0, 1) := by decide +kernel
theorem dX12_inside_11 : decode cX12_inside 11 = .ok (.invokevirtual 528, 3) := by decide +kernel
theorem dX12_inside_14 : decode cX12_inside 14 = .ok (.invokestatic 161, 3) := by decide +kernel
theorem dX12_inside_17 : decode cX12_inside 17 = .ok (.istore_n 3, 1) := by decide +kernel
theorem dX12_inside_18 : decode cX12_inside 18 = .ok (.aload_n 0, 1) := by decide +kernel
theorem dX12_inside_19 : decode cX12_inside 19 = .ok (.getfield 469, 3) := by decide +kernel
theorem dX12_inside_2 : decode cX12_inside 2 = .ok (.getfield 472, 3) := by decide +kernel
theorem dX12_inside_22 : decode cX12_inside 22 = .ok (.ifCond .ne 18, 3) := by decide +kernel
theorem dX12_inside_25 : decode cX12_inside 25 = .ok (.iload_n 3, 1) := by decide +kernel
theorem dX12_inside_26 : decode cX12_inside 26 = .ok (.iload_n 1, 1) := by decide +kernel
theorem dX12_inside_27 : decode cX12_inside 27 = .ok (.if_icmp .lt 8, 3) := by decide +kernel
theorem dX12_inside_30 : decode cX12_inside 30 = .ok (.iload_n 3, 1) := by decide +kernel
theorem dX12_inside_31 : decode cX12_inside 31 = .ok (.iload_n 2, 1) := by decide +kernel
theorem dX12_inside_32 : decode cX12_inside 32 = .ok (.if_icmp .le 8, 3) := by decide +kernel
theorem dX12_inside_35 : decode cX12_inside 35 = .ok (.aload_n 0, 1) := by decide +kernel
theorem dX12_inside_36 : decode cX12_inside 36 = .ok (.iconst 5, 1) := by decide +kernel
theorem dX12_inside_37 : decode cX12_inside 37 = .ok (.invokevirtual 478, 3) := by decide +kernel
theorem dX12_inside_40 : decode cX12_inside 40 = .ok (.iload_n 3, 1) := by decide +kernel
theorem dX12_inside_41 : decode cX12_inside 41 = .ok (.ireturn, 1) := by decide +kernel
theorem dX12_inside_5 : decode cX12_inside 5 = .ok (.iconst 1, 1) := by decide +kernel
theorem dX12_inside_6 : decode cX12_inside 6 = .ok (.iadd, 1) := by decide +kernel
theorem dX12_inside_7 : decode cX12_inside 7 = .ok (.putfield 472, 3) := by decide +kernel
set_option maxHeartbeats 4000000 in
set_option maxRecDepth 100000 in
theorem T_X12_inside (l : Launch) (D : va_G) (K : Nat → ClassId) (Z Y : Nat → Nat) (ad : Nat → Nat) (t : tSt) (hok : okM t) (x1 : Int32) (hx1 : (0 : Int) ≤ x1.toInt ∧ x1.toInt ≤ 0) (x2 : Int32) (hx2 : (6 : Int) ≤ x2.toInt ∧ x2.toInt ≤ 63) (hs0 : 1 ≤ (t.1 0 68).toInt) (hs1 : (t.1 0 68).toInt < (t.1 0 69).toInt) : tMet l yX12_inside cX12_inside 4 (some .int) (rmD 12 0 0) D K Z Y [.ref (ad 0), .int x1, .int x2] (WM K ad t) (QI D K (fun (r : Int32) (u : tSt) => okM u ∧ frA [(0, 68), (0, 70)] [] [26, 27] [] t u ∧ (-2147483648 : Int) ≤ r.toInt ∧ r.toInt ≤ 2147483647 ∧ ((t.1 0 68).toInt < (u.1 0 68).toInt) ∧ ((u.1 0 68).toInt ≤ (t.1 0 69).toInt) ∧ ((u.1 0 70).toInt = 0 → x1.toInt ≤ r.toInt ∧ r.toInt ≤ x2.toInt) ∧ ((u.1 0 70).toInt = 0 → (t.1 0 70).toInt = 0)) (fun (u : tSt) => WM K ad u)) 0 0 := by
  refine t_met RX12 ⟨rfl, by decide +kernel⟩ (Nat.le_of_ble_eq_true rfl) ?_
  intro p e s m below meth c A ls C hE hZ hr hlocks hA hP hD hS hl
  have hl : lv_has ls 4 [(0, .ref (ad 0)), (1, .int x1), (2, .int x2)] := hl
  have hokt := hok
  have hfr : frA [(0, 68), (0, 70)] [] [26, 27] [] t t := frA_rf
  have h_1 : (0 : Int) ≤ (t.1 0 68).toInt ∧ (t.1 0 68).toInt ≤ 81 := hok.1 0 68
  have h_2 : (0 : Int) ≤ (t.1 0 69).toInt ∧ (t.1 0 69).toInt ≤ 81 := hok.1 0 69
  have h_3 : (0 : Int) ≤ (t.1 0 70).toInt ∧ (t.1 0 70).toInt ≤ 8 := hok.1 0 70
  refine lv_aload_n C.1 C.2.1 dX12_inside_0 rfl (lv_at hl 0 rfl) ?_
  refine lv_dup C.1 C.2.1 dX12_inside_1 rfl ?_
  refine k_get (v := .int (t.1 0 68)) C hP 0 rfl rfl inlX12 68 (by decide) m_31_6 rfl dX12_inside_2 ?_
  refine lv_iconst (v := 1) C.1 C.2.1 dX12_inside_5 (by decide) ?_
  obtain ⟨v_4, e_5⟩ : ∃ z, z = ((t.1 0 68) : Int32) + (1 : Int32) := ⟨_, rfl⟩
  have h_6 : v_4.toInt = (t.1 0 68).toInt + 1 := by rw [e_5]; exact ti_iadd (by show (_ : Int) ≤ (t.1 0 68).toInt + 1; omega) (by show (t.1 0 68).toInt + 1 < (_ : Int); omega)
  refine k_iadd (v := v_4) C e_5.symm dX12_inside_6 ?_
  refine k_put (ws' := WM K ad (uI t 0 68 v_4)) (v := .int v_4) C hP hD hS 0 rfl rfl inlX12 tyX12_ok nmX12 68 (by decide) m_31_6 rfl rfl rfl rfl rfl dX12_inside_7 (fun H locs hP hD hS => ?_)
  have hok : okM (uI t 0 68 v_4) := ⟨okI_I hok.1 0 68 v_4 (show (0 : Int) ≤ (v_4 : Int32).toInt ∧ (v_4 : Int32).toInt ≤ 81 from ⟨by omega, by omega⟩), hok.2.1, hok.2.2.1, hok.2.2.2.1, hok.2.2.2.2.1, hok.2.2.2.2.2.1, hok.2.2.2.2.2.2.1, trivial⟩
  have hfr : frA [(0, 68), (0, 70)] [] [26, 27] [] t (uI t 0 68 v_4) := frA_I hfr 0 68 _ rfl
  refine lv_aload_n C.1 C.2.1 dX12_inside_10 rfl (lv_at hl 0 rfl) ?_
  refine g_Vi (As := []) (rest := []) C hP hD hS hA (T_X12_expression l D K Z Y ad (uI t 0 68 v_4) hok (show 1 ≤ v_4.toInt from by omega)) hE hZ (uwV m_34_15 m_34_16 m_34_17 m_1_5 m_34_18) (hdV 0 (by decide +kernel) rfl) ⟨Nat.le_of_ble_eq_true rfl, Nat.le_of_ble_eq_true rfl⟩ rfl rfl (ci := 11) (q0 := 0) rfl rfl rfl hl.1 (Nat.le_of_ble_eq_true rfl) dX12_inside_11 ⟨Nat.le_of_ble_eq_true rfl, Nat.le_of_ble_eq_true rfl⟩ (fun r_8 t_7 H locs hw hP hD hS => ?_)
  obtain ⟨hok, f_9, h_10, h_11, p_12, p_13, p_14, p_15⟩ := hw
  have hfr : frA [(0, 68), (0, 70)] [] [26, 27] [] t t_7 := frA_tr hfr f_9 rfl
  have h_16 : (t_7.1 0 69).toInt = (t.1 0 69).toInt := ti_eq (f_9.1 0 69 rfl)
  have h_17 : (0 : Int) ≤ (t_7.1 0 68).toInt ∧ (t_7.1 0 68).toInt ≤ 81 := hok.1 0 68
  have h_18 : (0 : Int) ≤ (t_7.1 0 69).toInt ∧ (t_7.1 0 69).toInt ≤ 81 := hok.1 0 69
  have h_19 : (0 : Int) ≤ (t_7.1 0 70).toInt ∧ (t_7.1 0 70).toInt ≤ 8 := hok.1 0 70
  replace p_12 : v_4.toInt ≤ (t_7.1 0 68).toInt := p_12
  replace p_13 : (t_7.1 0 68).toInt ≤ (t.1 0 69).toInt ∨ (t_7.1 0 68).toInt = v_4.toInt := p_13
  replace p_14 : 1 ≤ (t_7.1 0 70).toInt ∨ v_4.toInt < (t_7.1 0 68).toInt := p_14
  replace p_15 : (t_7.1 0 70).toInt = 0 → (t.1 0 70).toInt = 0 := p_15
  refine g_Si (As := [.int r_8]) (rest := []) C hP hD hS hA (T_X12_value l D K Z Y ad t_7 hok (r_8)) hE hZ (uwS m_36_9 m_36_10 m_1_5 m_36_11) (hdS 1 (by decide +kernel) rfl) ⟨Nat.le_of_ble_eq_true rfl, Nat.le_of_ble_eq_true rfl⟩ rfl rfl rfl hl.1 (Nat.le_of_ble_eq_true rfl) dX12_inside_14 ⟨Nat.le_of_ble_eq_true rfl, Nat.le_of_ble_eq_true rfl⟩ (fun r_21 t_20 H locs hw hP hD hS => ?_)
  obtain ⟨h_23, h_24, p_25⟩ := hw
  replace p_25 : r_21.toInt = (vO r_8).toInt := p_25
  refine lv_istore_n (lv' := [(3, .int r_21), (0, .ref (ad 0)), (1, .int x1), (2, .int x2)]) C.1 C.2.1 dX12_inside_17 rfl hl (by decide) rfl (fun ls hl => ?_)
  have hl : lv_has ls 4 [(0, .ref (ad 0)), (1, .int x1), (2, .int x2), (3, .int r_21)] := lv_sub hl [1, 2, 3, 0] rfl
  refine lv_aload_n C.1 C.2.1 dX12_inside_18 rfl (lv_at hl 0 rfl) ?_
  refine k_get (v := .int (t_7.1 0 70)) C hP 0 rfl rfl inlX12 70 (by decide) m_29_13 rfl dX12_inside_19 ?_
  refine lv_if_ne (tgt := 40) C.1 C.2.1 dX12_inside_22 (by decide) (fun c_26 => ?_) (fun c_26 => ?_)
  · replace c_26 : ¬ (t_7.1 0 70).toInt = 0 := i_ne c_26
    refine lv_iload_n C.1 C.2.1 dX12_inside_40 rfl (lv_at hl 3 rfl) ?_
    exact g_iret C hr hlocks hP hD hS rfl t_7 rfl ⟨hok, hfr, (i_rng _).1, (i_rng _).2, (show (t.1 0 68).toInt < (t_7.1 0 68).toInt from by omega), (show (t_7.1 0 68).toInt ≤ (t.1 0 69).toInt from by omega), (show (t_7.1 0 70).toInt = 0 → x1.toInt ≤ r_21.toInt ∧ r_21.toInt ≤ x2.toInt from by omega), (show (t_7.1 0 70).toInt = 0 → (t.1 0 70).toInt = 0 from by omega)⟩ (Nat.le_of_ble_eq_true rfl) (Nat.le_of_ble_eq_true rfl) dX12_inside_41
  · replace c_26 : (t_7.1 0 70).toInt = 0 := i_eq c_26
    refine lv_iload_n C.1 C.2.1 dX12_inside_25 rfl (lv_at hl 3 rfl) ?_
    refine lv_iload_n C.1 C.2.1 dX12_inside_26 rfl (lv_at hl 1 rfl) ?_
    refine lv_icmp_lt (tgt := 35) C.1 C.2.1 dX12_inside_27 (by decide) (fun c_27 => ?_) (fun c_27 => ?_)
    · replace c_27 : r_21.toInt < x1.toInt := i_lt c_27
      refine lv_aload_n C.1 C.2.1 dX12_inside_35 rfl (lv_at hl 0 rfl) ?_
      refine lv_iconst (v := 5) C.1 C.2.1 dX12_inside_36 (by decide) ?_
      have h_28 : (5 : Int32).toInt = 5 := rfl
      refine g_Vv (As := [.int 5]) (rest := []) C hP hD hS hA (T_X12_fail l D K Z Y ad t_7 hok 5 (show (1 : Int) ≤ (5 : Int32).toInt ∧ (5 : Int32).toInt ≤ 8 from ⟨by decide, by decide⟩) (show 1 ≤ (5 : Int32).toInt from by omega)) hE hZ (uwV m_32_22 m_32_23 m_33_0 m_1_5 m_33_1) (hdV 1 (by decide +kernel) rfl) ⟨Nat.le_of_ble_eq_true rfl, Nat.le_of_ble_eq_true rfl⟩ rfl rfl (ci := 11) (q0 := 0) rfl rfl rfl hl.1 (Nat.le_of_ble_eq_true rfl) dX12_inside_37 ⟨Nat.le_of_ble_eq_true rfl, Nat.le_of_ble_eq_true rfl⟩ (fun t_29 H locs hw hP hD hS => ?_)
      obtain ⟨hok, f_31, p_32⟩ := hw
      have hfr : frA [(0, 68), (0, 70)] [] [26, 27] [] t t_29 := frA_tr hfr f_31 rfl
      have h_33 : (t_29.1 0 68).toInt = (t_7.1 0 68).toInt := ti_eq (f_31.1 0 68 rfl)
      have h_34 : (t_29.1 0 69).toInt = (t_7.1 0 69).toInt := ti_eq (f_31.1 0 69 rfl)
      have h_35 : (0 : Int) ≤ (t_29.1 0 68).toInt ∧ (t_29.1 0 68).toInt ≤ 81 := hok.1 0 68
      have h_36 : (0 : Int) ≤ (t_29.1 0 69).toInt ∧ (t_29.1 0 69).toInt ≤ 81 := hok.1 0 69
      have h_37 : (0 : Int) ≤ (t_29.1 0 70).toInt ∧ (t_29.1 0 70).toInt ≤ 8 := hok.1 0 70
      replace p_32 : 1 ≤ (t_29.1 0 70).toInt := p_32
      refine lv_iload_n C.1 C.2.1 dX12_inside_40 rfl (lv_at hl 3 rfl) ?_
      exact g_iret C hr hlocks hP hD hS rfl t_29 rfl ⟨hok, hfr, (i_rng _).1, (i_rng _).2, (show (t.1 0 68).toInt < (t_29.1 0 68).toInt from by omega), (show (t_29.1 0 68).toInt ≤ (t.1 0 69).toInt from by omega), (show (t_29.1 0 70).toInt = 0 → x1.toInt ≤ r_21.toInt ∧ r_21.toInt ≤ x2.toInt from by omega), (show (t_29.1 0 70).toInt = 0 → (t.1 0 70).toInt = 0 from by omega)⟩ (Nat.le_of_ble_eq_true rfl) (Nat.le_of_ble_eq_true rfl) dX12_inside_41
    · replace c_27 : x1.toInt ≤ r_21.toInt := i_nlt c_27
      refine lv_iload_n C.1 C.2.1 dX12_inside_30 rfl (lv_at hl 3 rfl) ?_
      refine lv_iload_n C.1 C.2.1 dX12_inside_31 rfl (lv_at hl 2 rfl) ?_
      refine lv_icmp_le (tgt := 40) C.1 C.2.1 dX12_inside_32 (by decide) (fun c_38 => ?_) (fun c_38 => ?_)
      · replace c_38 : r_21.toInt ≤ x2.toInt := i_le c_38
        refine lv_iload_n C.1 C.2.1 dX12_inside_40 rfl (lv_at hl 3 rfl) ?_
        exact g_iret C hr hlocks hP hD hS rfl t_7 rfl ⟨hok, hfr, (i_rng _).1, (i_rng _).2, (show (t.1 0 68).toInt < (t_7.1 0 68).toInt from by omega), (show (t_7.1 0 68).toInt ≤ (t.1 0 69).toInt from by omega), (show (t_7.1 0 70).toInt = 0 → x1.toInt ≤ r_21.toInt ∧ r_21.toInt ≤ x2.toInt from by omega), (show (t_7.1 0 70).toInt = 0 → (t.1 0 70).toInt = 0 from by omega)⟩ (Nat.le_of_ble_eq_true rfl) (Nat.le_of_ble_eq_true rfl) dX12_inside_41
      · replace c_38 : x2.toInt < r_21.toInt := i_nle c_38
        refine lv_aload_n C.1 C.2.1 dX12_inside_35 rfl (lv_at hl 0 rfl) ?_
        refine lv_iconst (v := 5) C.1 C.2.1 dX12_inside_36 (by decide) ?_
        have h_39 : (5 : Int32).toInt = 5 := rfl
        refine g_Vv (As := [.int 5]) (rest := []) C hP hD hS hA (T_X12_fail l D K Z Y ad t_7 hok 5 (show (1 : Int) ≤ (5 : Int32).toInt ∧ (5 : Int32).toInt ≤ 8 from ⟨by decide, by decide⟩) (show 1 ≤ (5 : Int32).toInt from by omega)) hE hZ (uwV m_32_22 m_32_23 m_33_0 m_1_5 m_33_1) (hdV 1 (by decide +kernel) rfl) ⟨Nat.le_of_ble_eq_true rfl, Nat.le_of_ble_eq_true rfl⟩ rfl rfl (ci := 11) (q0 := 0) rfl rfl rfl hl.1 (Nat.le_of_ble_eq_true rfl) dX12_inside_37 ⟨Nat.le_of_ble_eq_true rfl, Nat.le_of_ble_eq_true rfl⟩ (fun t_40 H locs hw hP hD hS => ?_)
        obtain ⟨hok, f_42, p_43⟩ := hw
        have hfr : frA [(0, 68), (0, 70)] [] [26, 27] [] t t_40 := frA_tr hfr f_42 rfl
        have h_44 : (t_40.1 0 68).toInt = (t_7.1 0 68).toInt := ti_eq (f_42.1 0 68 rfl)
        have h_45 : (t_40.1 0 69).toInt = (t_7.1 0 69).toInt := ti_eq (f_42.1 0 69 rfl)
        have h_46 : (0 : Int) ≤ (t_40.1 0 68).toInt ∧ (t_40.1 0 68).toInt ≤ 81 := hok.1 0 68
        have h_47 : (0 : Int) ≤ (t_40.1 0 69).toInt ∧ (t_40.1 0 69).toInt ≤ 81 := hok.1 0 69
        have h_48 : (0 : Int) ≤ (t_40.1 0 70).toInt ∧ (t_40.1 0 70).toInt ≤ 8 := hok.1 0 70
        replace p_43 : 1 ≤ (t_40.1 0 70).toInt := p_43
        refine lv_iload_n C.1 C.2.1 dX12_inside_40 rfl (lv_at hl 3 rfl) ?_
        exact g_iret C hr hlocks hP hD hS rfl t_40 rfl ⟨hok, hfr, (i_rng _).1, (i_rng _).2, (show (t.1 0 68).toInt < (t_40.1 0 68).toInt from by omega), (show (t_40.1 0 68).toInt ≤ (t.1 0 69).toInt from by omega), (show (t_40.1 0 70).toInt = 0 → x1.toInt ≤ r_21.toInt ∧ r_21.toInt ≤ x2.toInt from by omega), (show (t_40.1 0 70).toInt = 0 → (t.1 0 70).toInt = 0 from by omega)⟩ (Nat.le_of_ble_eq_true rfl) (Nat.le_of_ble_eq_true rfl) dX12_inside_41

theorem dX12_perform_0 : decode cX12_perform 0 = .ok (.aload_n 0, 1) := by decide +kernel
theorem dX12_perform_1 : decode cX12_perform 1 = .ok (.invokevirtual 390, 3) := by decide +kernel
theorem dX12_perform_10 : decode cX12_perform 10 = .ok (.aload_n 0, 1) := by decide +kernel
theorem dX12_perform_100 : decode cX12_perform 100 = .ok (.bipush 38, 2) := by decide +kernel
theorem dX12_perform_102 : decode cX12_perform 102 = .ok (.if_icmp .ge 7, 3) := by decide +kernel
theorem dX12_perform_105 : decode cX12_perform 105 = .ok (.iconst 1, 1) := by decide +kernel
theorem dX12_perform_106 : decode cX12_perform 106 = .ok (.goto 4, 3) := by decide +kernel
theorem dX12_perform_109 : decode cX12_perform 109 = .ok (.iconst 0, 1) := by decide +kernel
theorem dX12_perform_11 : decode cX12_perform 11 = .ok (.getfield 241, 3) := by decide +kernel
theorem dX12_perform_110 : decode cX12_perform 110 = .ok (.istore 8, 2) := by decide +kernel
theorem dX12_perform_112 : decode cX12_perform 112 = .ok (.aload_n 0, 1) := by decide +kernel
theorem dX12_perform_113 : decode cX12_perform 113 = .ok (.getfield 282, 3) := by decide +kernel
theorem dX12_perform_116 : decode cX12_perform 116 = .ok (.iconst 5, 1) := by decide +kernel
theorem dX12_perform_117 : decode cX12_perform 117 = .ok (.if_icmp .ne 15, 3) := by decide +kernel
theorem dX12_perform_120 : decode cX12_perform 120 = .ok (.aload_n 0, 1) := by decide +kernel
theorem dX12_perform_121 : decode cX12_perform 121 = .ok (.getfield 289, 3) := by decide +kernel
theorem dX12_perform_124 : decode cX12_perform 124 = .ok (.iconst 3, 1) := by decide +kernel
theorem dX12_perform_125 : decode cX12_perform 125 = .ok (.if_icmp .ne 7, 3) := by decide +kernel
theorem dX12_perform_128 : decode cX12_perform 128 = .ok (.iconst 1, 1) := by decide +kernel
theorem dX12_perform_129 : decode cX12_perform 129 = .ok (.goto 4, 3) := by decide +kernel
theorem dX12_perform_132 : decode cX12_perform 132 = .ok (.iconst 0, 1) := by decide +kernel
theorem dX12_perform_133 : decode cX12_perform 133 = .ok (.istore 9, 2) := by decide +kernel
theorem dX12_perform_135 : decode cX12_perform 135 = .ok (.iload 7, 2) := by decide +kernel
theorem dX12_perform_137 : decode cX12_perform 137 = .ok (.ifCond .eq 10, 3) := by decide +kernel
theorem dX12_perform_14 : decode cX12_perform 14 = .ok (.ifCond .ne 7, 3) := by decide +kernel
theorem dX12_perform_140 : decode cX12_perform 140 = .ok (.aload_n 0, 1) := by decide +kernel
theorem dX12_perform_141 : decode cX12_perform 141 = .ok (.invokevirtual 400, 3) := by decide +kernel
theorem dX12_perform_144 : decode cX12_perform 144 = .ok (.goto 32, 3) := by decide +kernel
theorem dX12_perform_147 : decode cX12_perform 147 = .ok (.iload 8, 2) := by decide +kernel
theorem dX12_perform_149 : decode cX12_perform 149 = .ok (.ifCond .eq 18, 3) := by decide +kernel
theorem dX12_perform_152 : decode cX12_perform 152 = .ok (.aload_n 0, 1) := by decide +kernel
theorem dX12_perform_153 : decode cX12_perform 153 = .ok (.aload_n 0, 1) := by decide +kernel
theorem dX12_perform_154 : decode cX12_perform 154 = .ok (.getfield 282, 3) := by decide +kernel
theorem dX12_perform_157 : decode cX12_perform 157 = .ok (.aload_n 0, 1) := by decide +kernel
theorem dX12_perform_158 : decode cX12_perform 158 = .ok (.getfield 289, 3) := by decide +kernel
theorem dX12_perform_161 : decode cX12_perform 161 = .ok (.invokevirtual 403, 3) := by decide +kernel
theorem dX12_perform_164 : decode cX12_perform 164 = .ok (.goto 12, 3) := by decide +kernel
theorem dX12_perform_167 : decode cX12_perform 167 = .ok (.iload 9, 2) := by decide +kernel
theorem dX12_perform_169 : decode cX12_perform 169 = .ok (.ifCond .ne 7, 3) := by decide +kernel
theorem dX12_perform_17 : decode cX12_perform 17 = .ok (.iconst 1, 1) := by decide +kernel
theorem dX12_perform_172 : decode cX12_perform 172 = .ok (.aload_n 0, 1) := by decide +kernel
theorem dX12_perform_173 : decode cX12_perform 173 = .ok (.invokevirtual 406, 3) := by decide +kernel
theorem dX12_perform_176 : decode cX12_perform 176 = .ok (.iload 7, 2) := by decide +kernel
theorem dX12_perform_178 : decode cX12_perform 178 = .ok (.ifCond .ne 18, 3) := by decide +kernel
theorem dX12_perform_18 : decode cX12_perform 18 = .ok (.goto 4, 3) := by decide +kernel
theorem dX12_perform_181 : decode cX12_perform 181 = .ok (.iload 9, 2) := by decide +kernel
theorem dX12_perform_183 : decode cX12_perform 183 = .ok (.ifCond .ne 13, 3) := by decide +kernel
theorem dX12_perform_186 : decode cX12_perform 186 = .ok (.aload_n 0, 1) := by decide +kernel
theorem dX12_perform_187 : decode cX12_perform 187 = .ok (.dup, 1) := by decide +kernel
theorem dX12_perform_188 : decode cX12_perform 188 = .ok (.getfield 378, 3) := by decide +kernel
theorem dX12_perform_191 : decode cX12_perform 191 = .ok (.iconst 1, 1) := by decide +kernel
theorem dX12_perform_192 : decode cX12_perform 192 = .ok (.iadd, 1) := by decide +kernel
theorem dX12_perform_193 : decode cX12_perform 193 = .ok (.putfield 378, 3) := by decide +kernel
theorem dX12_perform_196 : decode cX12_perform 196 = .ok (.aload_n 0, 1) := by decide +kernel
theorem dX12_perform_197 : decode cX12_perform 197 = .ok (.dup, 1) := by decide +kernel
theorem dX12_perform_198 : decode cX12_perform 198 = .ok (.getfield 272, 3) := by decide +kernel
theorem dX12_perform_201 : decode cX12_perform 201 = .ok (.lload_n 1, 1) := by decide +kernel
theorem dX12_perform_202 : decode cX12_perform 202 = .ok (.ladd, 1) := by decide +kernel
theorem dX12_perform_203 : decode cX12_perform 203 = .ok (.putfield 272, 3) := by decide +kernel
theorem dX12_perform_206 : decode cX12_perform 206 = .ok (.iload 9, 2) := by decide +kernel
theorem dX12_perform_208 : decode cX12_perform 208 = .ok (.ifCond .eq 7, 3) := by decide +kernel
theorem dX12_perform_21 : decode cX12_perform 21 = .ok (.iconst 0, 1) := by decide +kernel
theorem dX12_perform_211 : decode cX12_perform 211 = .ok (.aload_n 0, 1) := by decide +kernel
theorem dX12_perform_212 : decode cX12_perform 212 = .ok (.invokevirtual 409, 3) := by decide +kernel
theorem dX12_perform_215 : decode cX12_perform 215 = .ok (.aload_n 0, 1) := by decide +kernel
theorem dX12_perform_216 : decode cX12_perform 216 = .ok (.aload_n 0, 1) := by decide +kernel
theorem dX12_perform_217 : decode cX12_perform 217 = .ok (.getfield 272, 3) := by decide +kernel
theorem dX12_perform_22 : decode cX12_perform 22 = .ok (.istore 4, 2) := by decide +kernel
theorem dX12_perform_220 : decode cX12_perform 220 = .ok (.invokevirtual 222, 3) := by decide +kernel
theorem dX12_perform_223 : decode cX12_perform 223 = .ok (.aload_n 0, 1) := by decide +kernel
theorem dX12_perform_224 : decode cX12_perform 224 = .ok (.getfield 238, 3) := by decide +kernel
theorem dX12_perform_227 : decode cX12_perform 227 = .ok (.ifCond .eq 13, 3) := by decide +kernel
theorem dX12_perform_230 : decode cX12_perform 230 = .ok (.iload 4, 2) := by decide +kernel
theorem dX12_perform_232 : decode cX12_perform 232 = .ok (.ifCond .eq 8, 3) := by decide +kernel
theorem dX12_perform_235 : decode cX12_perform 235 = .ok (.aload_n 0, 1) := by decide +kernel
theorem dX12_perform_236 : decode cX12_perform 236 = .ok (.lload_n 1, 1) := by decide +kernel
theorem dX12_perform_237 : decode cX12_perform 237 = .ok (.invokevirtual 412, 3) := by decide +kernel
theorem dX12_perform_24 : decode cX12_perform 24 = .ok (.aload_n 0, 1) := by decide +kernel
theorem dX12_perform_240 : decode cX12_perform 240 = .ok (.aload_n 0, 1) := by decide +kernel
theorem dX12_perform_241 : decode cX12_perform 241 = .ok (.getfield 415, 3) := by decide +kernel
theorem dX12_perform_244 : decode cX12_perform 244 = .ok (.ifCond .le 10, 3) := by decide +kernel
theorem dX12_perform_247 : decode cX12_perform 247 = .ok (.aload_n 0, 1) := by decide +kernel
theorem dX12_perform_248 : decode cX12_perform 248 = .ok (.iload_n 3, 1) := by decide +kernel
theorem dX12_perform_249 : decode cX12_perform 249 = .ok (.iload 5, 2) := by decide +kernel
theorem dX12_perform_25 : decode cX12_perform 25 = .ok (.getfield 292, 3) := by decide +kernel
theorem dX12_perform_251 : decode cX12_perform 251 = .ok (.invokevirtual 418, 3) := by decide +kernel
theorem dX12_perform_254 : decode cX12_perform 254 = .ok (.iload 6, 2) := by decide +kernel
theorem dX12_perform_256 : decode cX12_perform 256 = .ok (.ifCond .ne 4, 3) := by decide +kernel
theorem dX12_perform_259 : decode cX12_perform 259 = .ok (.return_, 1) := by decide +kernel
theorem dX12_perform_260 : decode cX12_perform 260 = .ok (.aload_n 0, 1) := by decide +kernel
theorem dX12_perform_261 : decode cX12_perform 261 = .ok (.getfield 238, 3) := by decide +kernel
theorem dX12_perform_264 : decode cX12_perform 264 = .ok (.ifCond .eq 16, 3) := by decide +kernel
theorem dX12_perform_267 : decode cX12_perform 267 = .ok (.iload 4, 2) := by decide +kernel
theorem dX12_perform_269 : decode cX12_perform 269 = .ok (.ifCond .eq 11, 3) := by decide +kernel
theorem dX12_perform_272 : decode cX12_perform 272 = .ok (.aload_n 0, 1) := by decide +kernel
theorem dX12_perform_273 : decode cX12_perform 273 = .ok (.iconst 0, 1) := by decide +kernel
theorem dX12_perform_274 : decode cX12_perform 274 = .ok (.invokevirtual 381, 3) := by decide +kernel
theorem dX12_perform_277 : decode cX12_perform 277 = .ok (.goto 8, 3) := by decide +kernel
theorem dX12_perform_28 : decode cX12_perform 28 = .ok (.istore 5, 2) := by decide +kernel
theorem dX12_perform_280 : decode cX12_perform 280 = .ok (.aload_n 0, 1) := by decide +kernel
theorem dX12_perform_281 : decode cX12_perform 281 = .ok (.iconst 1, 1) := by decide +kernel
theorem dX12_perform_282 : decode cX12_perform 282 = .ok (.invokevirtual 384, 3) := by decide +kernel
theorem dX12_perform_285 : decode cX12_perform 285 = .ok (.return_, 1) := by decide +kernel
theorem dX12_perform_30 : decode cX12_perform 30 = .ok (.aload_n 0, 1) := by decide +kernel
theorem dX12_perform_31 : decode cX12_perform 31 = .ok (.getfield 282, 3) := by decide +kernel
theorem dX12_perform_34 : decode cX12_perform 34 = .ok (.iconst 5, 1) := by decide +kernel
theorem dX12_perform_35 : decode cX12_perform 35 = .ok (.if_icmp .ne 15, 3) := by decide +kernel
theorem dX12_perform_38 : decode cX12_perform 38 = .ok (.aload_n 0, 1) := by decide +kernel
theorem dX12_perform_39 : decode cX12_perform 39 = .ok (.getfield 289, 3) := by decide +kernel
theorem dX12_perform_4 : decode cX12_perform 4 = .ok (.lstore_n 1, 1) := by decide +kernel
theorem dX12_perform_42 : decode cX12_perform 42 = .ok (.iconst 2, 1) := by decide +kernel
theorem dX12_perform_43 : decode cX12_perform 43 = .ok (.if_icmp .ne 7, 3) := by decide +kernel
theorem dX12_perform_46 : decode cX12_perform 46 = .ok (.iconst 1, 1) := by decide +kernel
theorem dX12_perform_47 : decode cX12_perform 47 = .ok (.goto 4, 3) := by decide +kernel
theorem dX12_perform_5 : decode cX12_perform 5 = .ok (.aload_n 0, 1) := by decide +kernel
theorem dX12_perform_50 : decode cX12_perform 50 = .ok (.iconst 0, 1) := by decide +kernel
theorem dX12_perform_51 : decode cX12_perform 51 = .ok (.istore 6, 2) := by decide +kernel
theorem dX12_perform_53 : decode cX12_perform 53 = .ok (.aload_n 0, 1) := by decide +kernel
theorem dX12_perform_54 : decode cX12_perform 54 = .ok (.getfield 282, 3) := by decide +kernel
theorem dX12_perform_57 : decode cX12_perform 57 = .ok (.bipush 34, 2) := by decide +kernel
theorem dX12_perform_59 : decode cX12_perform 59 = .ok (.if_icmp .eq 21, 3) := by decide +kernel
theorem dX12_perform_6 : decode cX12_perform 6 = .ok (.getfield 378, 3) := by decide +kernel
theorem dX12_perform_62 : decode cX12_perform 62 = .ok (.aload_n 0, 1) := by decide +kernel
theorem dX12_perform_63 : decode cX12_perform 63 = .ok (.getfield 282, 3) := by decide +kernel
theorem dX12_perform_66 : decode cX12_perform 66 = .ok (.bipush 37, 2) := by decide +kernel
theorem dX12_perform_68 : decode cX12_perform 68 = .ok (.if_icmp .le 16, 3) := by decide +kernel
theorem dX12_perform_71 : decode cX12_perform 71 = .ok (.aload_n 0, 1) := by decide +kernel
theorem dX12_perform_72 : decode cX12_perform 72 = .ok (.getfield 282, 3) := by decide +kernel
theorem dX12_perform_75 : decode cX12_perform 75 = .ok (.bipush 48, 2) := by decide +kernel
theorem dX12_perform_77 : decode cX12_perform 77 = .ok (.if_icmp .ge 7, 3) := by decide +kernel
theorem dX12_perform_80 : decode cX12_perform 80 = .ok (.iconst 1, 1) := by decide +kernel
theorem dX12_perform_81 : decode cX12_perform 81 = .ok (.goto 4, 3) := by decide +kernel
theorem dX12_perform_84 : decode cX12_perform 84 = .ok (.iconst 0, 1) := by decide +kernel
theorem dX12_perform_85 : decode cX12_perform 85 = .ok (.istore 7, 2) := by decide +kernel
theorem dX12_perform_87 : decode cX12_perform 87 = .ok (.aload_n 0, 1) := by decide +kernel
theorem dX12_perform_88 : decode cX12_perform 88 = .ok (.getfield 282, 3) := by decide +kernel
theorem dX12_perform_9 : decode cX12_perform 9 = .ok (.istore_n 3, 1) := by decide +kernel
theorem dX12_perform_91 : decode cX12_perform 91 = .ok (.bipush 34, 2) := by decide +kernel
theorem dX12_perform_93 : decode cX12_perform 93 = .ok (.if_icmp .le 16, 3) := by decide +kernel
theorem dX12_perform_96 : decode cX12_perform 96 = .ok (.aload_n 0, 1) := by decide +kernel
theorem dX12_perform_97 : decode cX12_perform 97 = .ok (.getfield 282, 3) := by decide +kernel
set_option maxHeartbeats 4000000 in
set_option maxRecDepth 100000 in
theorem T_X12_perform (l : Launch) (D : va_G) (K : Nat → ClassId) (Z Y : Nat → Nat) (ad : Nat → Nat) (t : tSt) (hok : okM t) (hs0 : gdA (t.1 0 16) (t.1 0 17) (t.1 0 18) (t.2.2.1 3)) (hs1 : gdU (t.1 0 16) (t.1 0 17) (t.2.2.1 3) (t.2.2.1 9) (t.1 0 35) (t.1 0 36)) (hs2 : (t.1 0 12).toInt = 1 → (t.2.1 0 8).toInt + (cO (t.1 0 16) (t.1 0 17) (t.2.2.2 4 ((t.1 0 17) : Int32).toNatClampNeg) (t.2.1 0 8)).toInt ≤ (t.2.1 0 13).toInt) : tMet l yX12_perform cX12_perform 10 none (rmD 10 0 0) D K Z Y [.ref (ad 0)] (WM K ad t) (QV D K (fun (u : tSt) => okM u ∧ frA [(0, 5), (0, 6), (0, 7), (0, 9), (0, 10), (0, 30), (0, 35), (0, 91)] [(0, 8)] [2, 3, 5, 7, 8, 9, 10, 11, 12, 13, 14] [4, 6] t u ∧ ((t.1 0 12).toInt = 1 → (t.2.1 0 8).toInt + 1 ≤ (u.2.1 0 8).toInt)) (fun (u : tSt) => WM K ad u)) 0 0 := by
  refine t_met RX12 ⟨rfl, by decide +kernel⟩ (Nat.le_of_ble_eq_true rfl) ?_
  intro p e s m below meth c A ls C hE hZ hr hlocks hA hP hD hS hl
  have hl : lv_has ls 10 [(0, .ref (ad 0))] := hl
  have hokt := hok
  have hfr : frA [(0, 5), (0, 6), (0, 7), (0, 9), (0, 10), (0, 30), (0, 35), (0, 91)] [(0, 8)] [2, 3, 5, 7, 8, 9, 10, 11, 12, 13, 14] [4, 6] t t := frA_rf
  have h_1 : (0 : Int) ≤ (t.1 0 9).toInt ∧ (t.1 0 9).toInt ≤ 10 := hok.1 0 9
  have h_2 : (0 : Int) ≤ (t.1 0 10).toInt ∧ (t.1 0 10).toInt ≤ 1 := hok.1 0 10
  have h_3 : (0 : Int) ≤ (t.1 0 12).toInt ∧ (t.1 0 12).toInt ≤ 1 := hok.1 0 12
  have h_4 : (0 : Int) ≤ (t.1 0 16).toInt ∧ (t.1 0 16).toInt ≤ 63 := hok.1 0 16
  have h_5 : (0 : Int) ≤ (t.1 0 17).toInt ∧ (t.1 0 17).toInt ≤ 63 := hok.1 0 17
  have h_6 : (0 : Int) ≤ (t.1 0 35).toInt ∧ (t.1 0 35).toInt ≤ 1700 := hok.1 0 35
  have h_7 : (0 : Int) ≤ (t.1 0 36).toInt ∧ (t.1 0 36).toInt ≤ 1700 := hok.1 0 36
  have L_254 : ∀ (t1 : tSt) (w254_1 : Int64) (w254_3 : Int32) (w254_4 : Int32) (w254_5 : Int32) (w254_6 : Int32) (w254_7 : Int32) (w254_8 : Int32) (w254_9 : Int32) (H : Heap) (locs : List Loc) (ls : Array Slot), okM t1 → frA [(0, 5), (0, 6), (0, 7), (0, 9), (0, 10), (0, 30), (0, 35), (0, 91)] [(0, 8)] [2, 3, 5, 7, 8, 9, 10, 11, 12, 13, 14] [4, 6] t t1 → (0 : Int) ≤ w254_4.toInt ∧ w254_4.toInt ≤ 1 → (0 : Int) ≤ w254_6.toInt ∧ w254_6.toInt ≤ 1 → (0 : Int) ≤ w254_7.toInt ∧ w254_7.toInt ≤ 1 → (0 : Int) ≤ w254_8.toInt ∧ w254_8.toInt ≤ 1 → (0 : Int) ≤ w254_9.toInt ∧ w254_9.toInt ≤ 1 → ((t.1 0 12).toInt = 1 → (t.2.1 0 8).toInt + 1 ≤ (t1.2.1 0 8).toInt) → va_P D vwCl (WM K ad t1) H → va_D A (WM K ad t1) → va_S A s.heap H locs → lv_has ls 10 [(0, .ref (ad 0)), (1, .long w254_1), (3, .int w254_3), (4, .int w254_4), (5, .int w254_5), (6, .int w254_6), (7, .int w254_7), (8, .int w254_8), (9, .int w254_9)] → W p l e (rmD 10 0 0) s m [.ref (ad 0)].toArray below meth c H locs 0 0 (MQ below (QV D K (fun (u : tSt) => okM u ∧ frA [(0, 5), (0, 6), (0, 7), (0, 9), (0, 10), (0, 30), (0, 35), (0, 91)] [(0, 8)] [2, 3, 5, 7, 8, 9, 10, 11, 12, 13, 14] [4, 6] t u ∧ ((t.1 0 12).toInt = 1 → (t.2.1 0 8).toInt + 1 ≤ (u.2.1 0 8).toInt)) (fun (u : tSt) => WM K ad u) A) [.ref (ad 0)].toArray s 0 0 A) (F0 m 254 ls []) := by
    intro t1 w254_1 w254_3 w254_4 w254_5 w254_6 w254_7 w254_8 w254_9 H locs ls hok hfr hw254_4 hw254_6 hw254_7 hw254_8 hw254_9 hi254_0 hP hD hS hl
    have h_8 : (t1.1 0 12).toInt = (t.1 0 12).toInt := ti_eq (hfr.1 0 12 rfl)
    have h_9 : (t1.2.1 0 13).toInt = (t.2.1 0 13).toInt := tl_eq (hfr.2.1 0 13 rfl)
    have h_10 : (t1.1 0 16).toInt = (t.1 0 16).toInt := ti_eq (hfr.1 0 16 rfl)
    have h_11 : (t1.1 0 17).toInt = (t.1 0 17).toInt := ti_eq (hfr.1 0 17 rfl)
    have h_12 : (t1.1 0 18).toInt = (t.1 0 18).toInt := ti_eq (hfr.1 0 18 rfl)
    have h_13 : (t1.1 0 36).toInt = (t.1 0 36).toInt := ti_eq (hfr.1 0 36 rfl)
    have h_14 : (0 : Int) ≤ (t1.1 0 9).toInt ∧ (t1.1 0 9).toInt ≤ 10 := hok.1 0 9
    have h_15 : (0 : Int) ≤ (t1.1 0 10).toInt ∧ (t1.1 0 10).toInt ≤ 1 := hok.1 0 10
    have h_16 : (0 : Int) ≤ (t1.1 0 12).toInt ∧ (t1.1 0 12).toInt ≤ 1 := hok.1 0 12
    have h_17 : (0 : Int) ≤ (t1.1 0 16).toInt ∧ (t1.1 0 16).toInt ≤ 63 := hok.1 0 16
    have h_18 : (0 : Int) ≤ (t1.1 0 17).toInt ∧ (t1.1 0 17).toInt ≤ 63 := hok.1 0 17
    have h_19 : (0 : Int) ≤ (t1.1 0 35).toInt ∧ (t1.1 0 35).toInt ≤ 1700 := hok.1 0 35
    have h_20 : (0 : Int) ≤ (t1.1 0 36).toInt ∧ (t1.1 0 36).toInt ≤ 1700 := hok.1 0 36
    refine lv_iload C.1 C.2.1 dX12_perform_254 (lv_at hl 5 rfl) ?_
    refine lv_if_ne (tgt := 260) C.1 C.2.1 dX12_perform_256 (by decide) (fun c_21 => ?_) (fun c_21 => ?_)
    · replace c_21 : ¬ w254_6.toInt = 0 := i_ne c_21
      refine lv_aload_n C.1 C.2.1 dX12_perform_260 rfl (lv_at hl 0 rfl) ?_
      have h_22 : (0 : Int) ≤ (t1.1 0 11).toInt ∧ (t1.1 0 11).toInt ≤ 1 := hok.1 0 11
      refine k_get (v := .int (t1.1 0 11)) C hP 0 rfl rfl inlX12 11 (by decide) m_30_1 rfl dX12_perform_261 ?_
      refine lv_if_eq (tgt := 280) C.1 C.2.1 dX12_perform_264 (by decide) (fun c_23 => ?_) (fun c_23 => ?_)
      · replace c_23 : (t1.1 0 11).toInt = 0 := i_eq c_23
        refine lv_aload_n C.1 C.2.1 dX12_perform_280 rfl (lv_at hl 0 rfl) ?_
        refine lv_iconst (v := 1) C.1 C.2.1 dX12_perform_281 (by decide) ?_
        have h_24 : (1 : Int32).toInt = 1 := rfl
        refine g_Vv (As := [.int 1]) (rest := []) C hP hD hS hA (T_X12_stop l D K Z Y ad t1 hok 1 (show (1 : Int) ≤ (1 : Int32).toInt ∧ (1 : Int32).toInt ≤ 10 from ⟨by decide, by decide⟩)) hE hZ (uwV m_59_11 m_59_12 m_59_13 m_1_5 m_59_14) (hdV 1 (by decide +kernel) rfl) ⟨Nat.le_of_ble_eq_true rfl, Nat.le_of_ble_eq_true rfl⟩ rfl rfl (ci := 11) (q0 := 0) rfl rfl rfl hl.1 (Nat.le_of_ble_eq_true rfl) dX12_perform_282 ⟨Nat.le_of_ble_eq_true rfl, Nat.le_of_ble_eq_true rfl⟩ (fun t_25 H locs hw hP hD hS => ?_)
        obtain ⟨hok, f_27, p_28⟩ := hw
        have hfr : frA [(0, 5), (0, 6), (0, 7), (0, 9), (0, 10), (0, 30), (0, 35), (0, 91)] [(0, 8)] [2, 3, 5, 7, 8, 9, 10, 11, 12, 13, 14] [4, 6] t t_25 := frA_tr hfr f_27 rfl
        have h_29 : (t_25.1 0 11).toInt = (t1.1 0 11).toInt := ti_eq (f_27.1 0 11 rfl)
        have h_30 : (t_25.2.1 0 8).toInt = (t1.2.1 0 8).toInt := tl_eq (f_27.2.1 0 8 rfl)
        have h_31 : (t_25.1 0 10).toInt = (t1.1 0 10).toInt := ti_eq (f_27.1 0 10 rfl)
        have h_32 : (t_25.1 0 12).toInt = (t1.1 0 12).toInt := ti_eq (f_27.1 0 12 rfl)
        have h_33 : (t_25.2.1 0 13).toInt = (t1.2.1 0 13).toInt := tl_eq (f_27.2.1 0 13 rfl)
        have h_34 : (t_25.1 0 16).toInt = (t1.1 0 16).toInt := ti_eq (f_27.1 0 16 rfl)
        have h_35 : (t_25.1 0 17).toInt = (t1.1 0 17).toInt := ti_eq (f_27.1 0 17 rfl)
        have h_36 : (t_25.1 0 18).toInt = (t1.1 0 18).toInt := ti_eq (f_27.1 0 18 rfl)
        have h_37 : (t_25.1 0 35).toInt = (t1.1 0 35).toInt := ti_eq (f_27.1 0 35 rfl)
        have h_38 : (t_25.1 0 36).toInt = (t1.1 0 36).toInt := ti_eq (f_27.1 0 36 rfl)
        have e_39 : t_25.2.2.1 3 = t1.2.2.1 3 := f_27.2.2.1 3 rfl
        have e_40 : t_25.2.2.2 4 = t1.2.2.2 4 := f_27.2.2.2 4 rfl
        have e_41 : t_25.2.2.1 9 = t1.2.2.1 9 := f_27.2.2.1 9 rfl
        have h_42 : (0 : Int) ≤ (t_25.1 0 9).toInt ∧ (t_25.1 0 9).toInt ≤ 10 := hok.1 0 9
        have h_43 : (0 : Int) ≤ (t_25.1 0 10).toInt ∧ (t_25.1 0 10).toInt ≤ 1 := hok.1 0 10
        have h_44 : (0 : Int) ≤ (t_25.1 0 12).toInt ∧ (t_25.1 0 12).toInt ≤ 1 := hok.1 0 12
        have h_45 : (0 : Int) ≤ (t_25.1 0 16).toInt ∧ (t_25.1 0 16).toInt ≤ 63 := hok.1 0 16
        have h_46 : (0 : Int) ≤ (t_25.1 0 17).toInt ∧ (t_25.1 0 17).toInt ≤ 63 := hok.1 0 17
        have h_47 : (0 : Int) ≤ (t_25.1 0 35).toInt ∧ (t_25.1 0 35).toInt ≤ 1700 := hok.1 0 35
        have h_48 : (0 : Int) ≤ (t_25.1 0 36).toInt ∧ (t_25.1 0 36).toInt ≤ 1700 := hok.1 0 36
        replace p_28 : (t_25.1 0 9).toInt = (1 : Int32).toInt := p_28
        exact g_vret C hr hlocks hP hD hS t_25 rfl ⟨hok, hfr, (show (t.1 0 12).toInt = 1 → (t.2.1 0 8).toInt + 1 ≤ (t_25.2.1 0 8).toInt from by omega)⟩ (Nat.le_of_ble_eq_true rfl) (Nat.le_of_ble_eq_true rfl) dX12_perform_285
      · replace c_23 : ¬ (t1.1 0 11).toInt = 0 := i_ne c_23
        refine lv_iload C.1 C.2.1 dX12_perform_267 (lv_at hl 3 rfl) ?_
        refine lv_if_eq (tgt := 280) C.1 C.2.1 dX12_perform_269 (by decide) (fun c_49 => ?_) (fun c_49 => ?_)
        · replace c_49 : w254_4.toInt = 0 := i_eq c_49
          refine lv_aload_n C.1 C.2.1 dX12_perform_280 rfl (lv_at hl 0 rfl) ?_
          refine lv_iconst (v := 1) C.1 C.2.1 dX12_perform_281 (by decide) ?_
          have h_50 : (1 : Int32).toInt = 1 := rfl
          refine g_Vv (As := [.int 1]) (rest := []) C hP hD hS hA (T_X12_stop l D K Z Y ad t1 hok 1 (show (1 : Int) ≤ (1 : Int32).toInt ∧ (1 : Int32).toInt ≤ 10 from ⟨by decide, by decide⟩)) hE hZ (uwV m_59_11 m_59_12 m_59_13 m_1_5 m_59_14) (hdV 1 (by decide +kernel) rfl) ⟨Nat.le_of_ble_eq_true rfl, Nat.le_of_ble_eq_true rfl⟩ rfl rfl (ci := 11) (q0 := 0) rfl rfl rfl hl.1 (Nat.le_of_ble_eq_true rfl) dX12_perform_282 ⟨Nat.le_of_ble_eq_true rfl, Nat.le_of_ble_eq_true rfl⟩ (fun t_51 H locs hw hP hD hS => ?_)
          obtain ⟨hok, f_53, p_54⟩ := hw
          have hfr : frA [(0, 5), (0, 6), (0, 7), (0, 9), (0, 10), (0, 30), (0, 35), (0, 91)] [(0, 8)] [2, 3, 5, 7, 8, 9, 10, 11, 12, 13, 14] [4, 6] t t_51 := frA_tr hfr f_53 rfl
          have h_55 : (t_51.1 0 11).toInt = (t1.1 0 11).toInt := ti_eq (f_53.1 0 11 rfl)
          have h_56 : (t_51.2.1 0 8).toInt = (t1.2.1 0 8).toInt := tl_eq (f_53.2.1 0 8 rfl)
          have h_57 : (t_51.1 0 10).toInt = (t1.1 0 10).toInt := ti_eq (f_53.1 0 10 rfl)
          have h_58 : (t_51.1 0 12).toInt = (t1.1 0 12).toInt := ti_eq (f_53.1 0 12 rfl)
          have h_59 : (t_51.2.1 0 13).toInt = (t1.2.1 0 13).toInt := tl_eq (f_53.2.1 0 13 rfl)
          have h_60 : (t_51.1 0 16).toInt = (t1.1 0 16).toInt := ti_eq (f_53.1 0 16 rfl)
          have h_61 : (t_51.1 0 17).toInt = (t1.1 0 17).toInt := ti_eq (f_53.1 0 17 rfl)
          have h_62 : (t_51.1 0 18).toInt = (t1.1 0 18).toInt := ti_eq (f_53.1 0 18 rfl)
          have h_63 : (t_51.1 0 35).toInt = (t1.1 0 35).toInt := ti_eq (f_53.1 0 35 rfl)
          have h_64 : (t_51.1 0 36).toInt = (t1.1 0 36).toInt := ti_eq (f_53.1 0 36 rfl)
          have e_65 : t_51.2.2.1 3 = t1.2.2.1 3 := f_53.2.2.1 3 rfl
          have e_66 : t_51.2.2.2 4 = t1.2.2.2 4 := f_53.2.2.2 4 rfl
          have e_67 : t_51.2.2.1 9 = t1.2.2.1 9 := f_53.2.2.1 9 rfl
          have h_68 : (0 : Int) ≤ (t_51.1 0 9).toInt ∧ (t_51.1 0 9).toInt ≤ 10 := hok.1 0 9
          have h_69 : (0 : Int) ≤ (t_51.1 0 10).toInt ∧ (t_51.1 0 10).toInt ≤ 1 := hok.1 0 10
          have h_70 : (0 : Int) ≤ (t_51.1 0 12).toInt ∧ (t_51.1 0 12).toInt ≤ 1 := hok.1 0 12
          have h_71 : (0 : Int) ≤ (t_51.1 0 16).toInt ∧ (t_51.1 0 16).toInt ≤ 63 := hok.1 0 16
          have h_72 : (0 : Int) ≤ (t_51.1 0 17).toInt ∧ (t_51.1 0 17).toInt ≤ 63 := hok.1 0 17
          have h_73 : (0 : Int) ≤ (t_51.1 0 35).toInt ∧ (t_51.1 0 35).toInt ≤ 1700 := hok.1 0 35
          have h_74 : (0 : Int) ≤ (t_51.1 0 36).toInt ∧ (t_51.1 0 36).toInt ≤ 1700 := hok.1 0 36
          replace p_54 : (t_51.1 0 9).toInt = (1 : Int32).toInt := p_54
          exact g_vret C hr hlocks hP hD hS t_51 rfl ⟨hok, hfr, (show (t.1 0 12).toInt = 1 → (t.2.1 0 8).toInt + 1 ≤ (t_51.2.1 0 8).toInt from by omega)⟩ (Nat.le_of_ble_eq_true rfl) (Nat.le_of_ble_eq_true rfl) dX12_perform_285
        · replace c_49 : ¬ w254_4.toInt = 0 := i_ne c_49
          refine lv_aload_n C.1 C.2.1 dX12_perform_272 rfl (lv_at hl 0 rfl) ?_
          refine lv_iconst (v := 0) C.1 C.2.1 dX12_perform_273 (by decide) ?_
          refine g_Vv (As := [.int 0]) (rest := []) C hP hD hS hA (T_X12_interrupt l D K Z Y ad t1 hok 0 (show (0 : Int) ≤ (0 : Int32).toInt ∧ (0 : Int32).toInt ≤ 9 from ⟨by decide, by decide⟩)) hE hZ (uwV m_59_20 m_59_21 m_59_22 m_1_5 m_59_23) (hdV 1 (by decide +kernel) rfl) ⟨Nat.le_of_ble_eq_true rfl, Nat.le_of_ble_eq_true rfl⟩ rfl rfl (ci := 11) (q0 := 0) rfl rfl rfl hl.1 (Nat.le_of_ble_eq_true rfl) dX12_perform_274 ⟨Nat.le_of_ble_eq_true rfl, Nat.le_of_ble_eq_true rfl⟩ (fun t_75 H locs hw hP hD hS => ?_)
          obtain ⟨hok, f_77, p_78⟩ := hw
          have hfr : frA [(0, 5), (0, 6), (0, 7), (0, 9), (0, 10), (0, 30), (0, 35), (0, 91)] [(0, 8)] [2, 3, 5, 7, 8, 9, 10, 11, 12, 13, 14] [4, 6] t t_75 := frA_tr hfr f_77 rfl
          have h_79 : (t_75.1 0 11).toInt = (t1.1 0 11).toInt := ti_eq (f_77.1 0 11 rfl)
          have h_80 : (t_75.2.1 0 8).toInt = (t1.2.1 0 8).toInt := tl_eq (f_77.2.1 0 8 rfl)
          have h_81 : (t_75.1 0 9).toInt = (t1.1 0 9).toInt := ti_eq (f_77.1 0 9 rfl)
          have h_82 : (t_75.1 0 12).toInt = (t1.1 0 12).toInt := ti_eq (f_77.1 0 12 rfl)
          have h_83 : (t_75.2.1 0 13).toInt = (t1.2.1 0 13).toInt := tl_eq (f_77.2.1 0 13 rfl)
          have h_84 : (t_75.1 0 16).toInt = (t1.1 0 16).toInt := ti_eq (f_77.1 0 16 rfl)
          have h_85 : (t_75.1 0 17).toInt = (t1.1 0 17).toInt := ti_eq (f_77.1 0 17 rfl)
          have h_86 : (t_75.1 0 18).toInt = (t1.1 0 18).toInt := ti_eq (f_77.1 0 18 rfl)
          have h_87 : (t_75.1 0 35).toInt = (t1.1 0 35).toInt := ti_eq (f_77.1 0 35 rfl)
          have h_88 : (t_75.1 0 36).toInt = (t1.1 0 36).toInt := ti_eq (f_77.1 0 36 rfl)
          have e_89 : t_75.2.2.1 3 = t1.2.2.1 3 := f_77.2.2.1 3 rfl
          have e_90 : t_75.2.2.2 4 = t1.2.2.2 4 := f_77.2.2.2 4 rfl
          have e_91 : t_75.2.2.1 9 = t1.2.2.1 9 := f_77.2.2.1 9 rfl
          have h_92 : (0 : Int) ≤ (t_75.1 0 9).toInt ∧ (t_75.1 0 9).toInt ≤ 10 := hok.1 0 9
          have h_93 : (0 : Int) ≤ (t_75.1 0 10).toInt ∧ (t_75.1 0 10).toInt ≤ 1 := hok.1 0 10
          have h_94 : (0 : Int) ≤ (t_75.1 0 12).toInt ∧ (t_75.1 0 12).toInt ≤ 1 := hok.1 0 12
          have h_95 : (0 : Int) ≤ (t_75.1 0 16).toInt ∧ (t_75.1 0 16).toInt ≤ 63 := hok.1 0 16
          have h_96 : (0 : Int) ≤ (t_75.1 0 17).toInt ∧ (t_75.1 0 17).toInt ≤ 63 := hok.1 0 17
          have h_97 : (0 : Int) ≤ (t_75.1 0 35).toInt ∧ (t_75.1 0 35).toInt ≤ 1700 := hok.1 0 35
          have h_98 : (0 : Int) ≤ (t_75.1 0 36).toInt ∧ (t_75.1 0 36).toInt ≤ 1700 := hok.1 0 36
          replace p_78 : (t_75.1 0 10).toInt = 1 := p_78
          refine lv_goto (tgt := 285) C.1 C.2.1 dX12_perform_277 (by decide) ?_
          exact g_vret C hr hlocks hP hD hS t_75 rfl ⟨hok, hfr, (show (t.1 0 12).toInt = 1 → (t.2.1 0 8).toInt + 1 ≤ (t_75.2.1 0 8).toInt from by omega)⟩ (Nat.le_of_ble_eq_true rfl) (Nat.le_of_ble_eq_true rfl) dX12_perform_285
    · replace c_21 : w254_6.toInt = 0 := i_eq c_21
      exact g_vret C hr hlocks hP hD hS t1 rfl ⟨hok, hfr, (show (t.1 0 12).toInt = 1 → (t.2.1 0 8).toInt + 1 ≤ (t1.2.1 0 8).toInt from by omega)⟩ (Nat.le_of_ble_eq_true rfl) (Nat.le_of_ble_eq_true rfl) dX12_perform_259
  have L_240 : ∀ (t1 : tSt) (w240_1 : Int64) (w240_3 : Int32) (w240_4 : Int32) (w240_5 : Int32) (w240_6 : Int32) (w240_7 : Int32) (w240_8 : Int32) (w240_9 : Int32) (H : Heap) (locs : List Loc) (ls : Array Slot), okM t1 → frA [(0, 5), (0, 6), (0, 7), (0, 9), (0, 10), (0, 30), (0, 35), (0, 91)] [(0, 8)] [2, 3, 5, 7, 8, 9, 10, 11, 12, 13, 14] [4, 6] t t1 → (0 : Int) ≤ w240_4.toInt ∧ w240_4.toInt ≤ 1 → (0 : Int) ≤ w240_6.toInt ∧ w240_6.toInt ≤ 1 → (0 : Int) ≤ w240_7.toInt ∧ w240_7.toInt ≤ 1 → (0 : Int) ≤ w240_8.toInt ∧ w240_8.toInt ≤ 1 → (0 : Int) ≤ w240_9.toInt ∧ w240_9.toInt ≤ 1 → ((t.1 0 12).toInt = 1 → (t.2.1 0 8).toInt + 1 ≤ (t1.2.1 0 8).toInt) → va_P D vwCl (WM K ad t1) H → va_D A (WM K ad t1) → va_S A s.heap H locs → lv_has ls 10 [(0, .ref (ad 0)), (1, .long w240_1), (3, .int w240_3), (4, .int w240_4), (5, .int w240_5), (6, .int w240_6), (7, .int w240_7), (8, .int w240_8), (9, .int w240_9)] → W p l e (rmD 10 0 0) s m [.ref (ad 0)].toArray below meth c H locs 0 0 (MQ below (QV D K (fun (u : tSt) => okM u ∧ frA [(0, 5), (0, 6), (0, 7), (0, 9), (0, 10), (0, 30), (0, 35), (0, 91)] [(0, 8)] [2, 3, 5, 7, 8, 9, 10, 11, 12, 13, 14] [4, 6] t u ∧ ((t.1 0 12).toInt = 1 → (t.2.1 0 8).toInt + 1 ≤ (u.2.1 0 8).toInt)) (fun (u : tSt) => WM K ad u) A) [.ref (ad 0)].toArray s 0 0 A) (F0 m 240 ls []) := by
    intro t1 w240_1 w240_3 w240_4 w240_5 w240_6 w240_7 w240_8 w240_9 H locs ls hok hfr hw240_4 hw240_6 hw240_7 hw240_8 hw240_9 hi240_0 hP hD hS hl
    have h_99 : (t1.1 0 12).toInt = (t.1 0 12).toInt := ti_eq (hfr.1 0 12 rfl)
    have h_100 : (t1.2.1 0 13).toInt = (t.2.1 0 13).toInt := tl_eq (hfr.2.1 0 13 rfl)
    have h_101 : (t1.1 0 16).toInt = (t.1 0 16).toInt := ti_eq (hfr.1 0 16 rfl)
    have h_102 : (t1.1 0 17).toInt = (t.1 0 17).toInt := ti_eq (hfr.1 0 17 rfl)
    have h_103 : (t1.1 0 18).toInt = (t.1 0 18).toInt := ti_eq (hfr.1 0 18 rfl)
    have h_104 : (t1.1 0 36).toInt = (t.1 0 36).toInt := ti_eq (hfr.1 0 36 rfl)
    have h_105 : (0 : Int) ≤ (t1.1 0 9).toInt ∧ (t1.1 0 9).toInt ≤ 10 := hok.1 0 9
    have h_106 : (0 : Int) ≤ (t1.1 0 10).toInt ∧ (t1.1 0 10).toInt ≤ 1 := hok.1 0 10
    have h_107 : (0 : Int) ≤ (t1.1 0 12).toInt ∧ (t1.1 0 12).toInt ≤ 1 := hok.1 0 12
    have h_108 : (0 : Int) ≤ (t1.1 0 16).toInt ∧ (t1.1 0 16).toInt ≤ 63 := hok.1 0 16
    have h_109 : (0 : Int) ≤ (t1.1 0 17).toInt ∧ (t1.1 0 17).toInt ≤ 63 := hok.1 0 17
    have h_110 : (0 : Int) ≤ (t1.1 0 35).toInt ∧ (t1.1 0 35).toInt ≤ 1700 := hok.1 0 35
    have h_111 : (0 : Int) ≤ (t1.1 0 36).toInt ∧ (t1.1 0 36).toInt ≤ 1700 := hok.1 0 36
    refine lv_aload_n C.1 C.2.1 dX12_perform_240 rfl (lv_at hl 0 rfl) ?_
    refine k_get (v := .int (t1.1 0 91)) C hP 0 rfl rfl inlX12 91 (by decide) m_30_3 rfl dX12_perform_241 ?_
    refine lv_if_le (tgt := 254) C.1 C.2.1 dX12_perform_244 (by decide) (fun c_112 => ?_) (fun c_112 => ?_)
    · replace c_112 : (t1.1 0 91).toInt ≤ 0 := i_le c_112
      exact L_254 t1 w240_1 w240_3 w240_4 w240_5 w240_6 w240_7 w240_8 w240_9 _ _ _ hok hfr ⟨by omega, by omega⟩ ⟨by omega, by omega⟩ ⟨by omega, by omega⟩ ⟨by omega, by omega⟩ ⟨by omega, by omega⟩ (show (t.1 0 12).toInt = 1 → (t.2.1 0 8).toInt + 1 ≤ (t1.2.1 0 8).toInt from by omega) hP hD hS (lv_sub hl [0, 1, 2, 3, 4, 5, 6, 7, 8] rfl)
    · replace c_112 : 0 < (t1.1 0 91).toInt := i_nle c_112
      refine lv_aload_n C.1 C.2.1 dX12_perform_247 rfl (lv_at hl 0 rfl) ?_
      refine lv_iload_n C.1 C.2.1 dX12_perform_248 rfl (lv_at hl 2 rfl) ?_
      refine lv_iload C.1 C.2.1 dX12_perform_249 (lv_at hl 4 rfl) ?_
      refine g_Vv (As := [.int w240_3, .int w240_5]) (rest := []) C hP hD hS hA (T_X12_sayTrace l D K Z Y ad t1 hok (w240_3) (w240_5)) hE hZ (uwV m_63_15 m_63_16 m_63_17 m_1_5 m_63_18) (hdV 2 (by decide +kernel) rfl) ⟨Nat.le_of_ble_eq_true rfl, Nat.le_of_ble_eq_true rfl⟩ rfl rfl (ci := 11) (q0 := 0) rfl rfl rfl hl.1 (Nat.le_of_ble_eq_true rfl) dX12_perform_251 ⟨Nat.le_of_ble_eq_true rfl, Nat.le_of_ble_eq_true rfl⟩ (fun t_113 H locs hw hP hD hS => ?_)
      obtain ⟨hok, f_115⟩ := hw
      have hfr : frA [(0, 5), (0, 6), (0, 7), (0, 9), (0, 10), (0, 30), (0, 35), (0, 91)] [(0, 8)] [2, 3, 5, 7, 8, 9, 10, 11, 12, 13, 14] [4, 6] t t_113 := frA_tr hfr f_115 rfl
      have h_116 : (t_113.2.1 0 8).toInt = (t1.2.1 0 8).toInt := tl_eq (f_115.2.1 0 8 rfl)
      have h_117 : (t_113.1 0 9).toInt = (t1.1 0 9).toInt := ti_eq (f_115.1 0 9 rfl)
      have h_118 : (t_113.1 0 10).toInt = (t1.1 0 10).toInt := ti_eq (f_115.1 0 10 rfl)
      have h_119 : (t_113.1 0 12).toInt = (t1.1 0 12).toInt := ti_eq (f_115.1 0 12 rfl)
      have h_120 : (t_113.2.1 0 13).toInt = (t1.2.1 0 13).toInt := tl_eq (f_115.2.1 0 13 rfl)
      have h_121 : (t_113.1 0 16).toInt = (t1.1 0 16).toInt := ti_eq (f_115.1 0 16 rfl)
      have h_122 : (t_113.1 0 17).toInt = (t1.1 0 17).toInt := ti_eq (f_115.1 0 17 rfl)
      have h_123 : (t_113.1 0 18).toInt = (t1.1 0 18).toInt := ti_eq (f_115.1 0 18 rfl)
      have h_124 : (t_113.1 0 35).toInt = (t1.1 0 35).toInt := ti_eq (f_115.1 0 35 rfl)
      have h_125 : (t_113.1 0 36).toInt = (t1.1 0 36).toInt := ti_eq (f_115.1 0 36 rfl)
      have e_126 : t_113.2.2.1 3 = t1.2.2.1 3 := f_115.2.2.1 3 rfl
      have e_127 : t_113.2.2.2 4 = t1.2.2.2 4 := f_115.2.2.2 4 rfl
      have e_128 : t_113.2.2.1 9 = t1.2.2.1 9 := f_115.2.2.1 9 rfl
      have h_129 : (0 : Int) ≤ (t_113.1 0 9).toInt ∧ (t_113.1 0 9).toInt ≤ 10 := hok.1 0 9
      have h_130 : (0 : Int) ≤ (t_113.1 0 10).toInt ∧ (t_113.1 0 10).toInt ≤ 1 := hok.1 0 10
      have h_131 : (0 : Int) ≤ (t_113.1 0 12).toInt ∧ (t_113.1 0 12).toInt ≤ 1 := hok.1 0 12
      have h_132 : (0 : Int) ≤ (t_113.1 0 16).toInt ∧ (t_113.1 0 16).toInt ≤ 63 := hok.1 0 16
      have h_133 : (0 : Int) ≤ (t_113.1 0 17).toInt ∧ (t_113.1 0 17).toInt ≤ 63 := hok.1 0 17
      have h_134 : (0 : Int) ≤ (t_113.1 0 35).toInt ∧ (t_113.1 0 35).toInt ≤ 1700 := hok.1 0 35
      have h_135 : (0 : Int) ≤ (t_113.1 0 36).toInt ∧ (t_113.1 0 36).toInt ≤ 1700 := hok.1 0 36
      exact L_254 t_113 w240_1 w240_3 w240_4 w240_5 w240_6 w240_7 w240_8 w240_9 _ _ _ hok hfr ⟨by omega, by omega⟩ ⟨by omega, by omega⟩ ⟨by omega, by omega⟩ ⟨by omega, by omega⟩ ⟨by omega, by omega⟩ (show (t.1 0 12).toInt = 1 → (t.2.1 0 8).toInt + 1 ≤ (t_113.2.1 0 8).toInt from by omega) hP hD hS (lv_sub hl [0, 1, 2, 3, 4, 5, 6, 7, 8] rfl)
  have L_215 : ∀ (t1 : tSt) (w215_1 : Int64) (w215_3 : Int32) (w215_4 : Int32) (w215_5 : Int32) (w215_6 : Int32) (w215_7 : Int32) (w215_8 : Int32) (w215_9 : Int32) (H : Heap) (locs : List Loc) (ls : Array Slot), okM t1 → frA [(0, 5), (0, 6), (0, 7), (0, 9), (0, 10), (0, 30), (0, 35), (0, 91)] [(0, 8)] [2, 3, 5, 7, 8, 9, 10, 11, 12, 13, 14] [4, 6] t t1 → (0 : Int) ≤ w215_4.toInt ∧ w215_4.toInt ≤ 1 → (0 : Int) ≤ w215_6.toInt ∧ w215_6.toInt ≤ 1 → (0 : Int) ≤ w215_7.toInt ∧ w215_7.toInt ≤ 1 → (0 : Int) ≤ w215_8.toInt ∧ w215_8.toInt ≤ 1 → (0 : Int) ≤ w215_9.toInt ∧ w215_9.toInt ≤ 1 → ((t.1 0 12).toInt = 1 → (t.2.1 0 8).toInt + 1 ≤ (t1.2.1 0 8).toInt) → va_P D vwCl (WM K ad t1) H → va_D A (WM K ad t1) → va_S A s.heap H locs → lv_has ls 10 [(0, .ref (ad 0)), (1, .long w215_1), (3, .int w215_3), (4, .int w215_4), (5, .int w215_5), (6, .int w215_6), (7, .int w215_7), (8, .int w215_8), (9, .int w215_9)] → W p l e (rmD 10 0 0) s m [.ref (ad 0)].toArray below meth c H locs 0 0 (MQ below (QV D K (fun (u : tSt) => okM u ∧ frA [(0, 5), (0, 6), (0, 7), (0, 9), (0, 10), (0, 30), (0, 35), (0, 91)] [(0, 8)] [2, 3, 5, 7, 8, 9, 10, 11, 12, 13, 14] [4, 6] t u ∧ ((t.1 0 12).toInt = 1 → (t.2.1 0 8).toInt + 1 ≤ (u.2.1 0 8).toInt)) (fun (u : tSt) => WM K ad u) A) [.ref (ad 0)].toArray s 0 0 A) (F0 m 215 ls []) := by
    intro t1 w215_1 w215_3 w215_4 w215_5 w215_6 w215_7 w215_8 w215_9 H locs ls hok hfr hw215_4 hw215_6 hw215_7 hw215_8 hw215_9 hi215_0 hP hD hS hl
    have h_136 : (t1.1 0 12).toInt = (t.1 0 12).toInt := ti_eq (hfr.1 0 12 rfl)
    have h_137 : (t1.2.1 0 13).toInt = (t.2.1 0 13).toInt := tl_eq (hfr.2.1 0 13 rfl)
    have h_138 : (t1.1 0 16).toInt = (t.1 0 16).toInt := ti_eq (hfr.1 0 16 rfl)
    have h_139 : (t1.1 0 17).toInt = (t.1 0 17).toInt := ti_eq (hfr.1 0 17 rfl)
    have h_140 : (t1.1 0 18).toInt = (t.1 0 18).toInt := ti_eq (hfr.1 0 18 rfl)
    have h_141 : (t1.1 0 36).toInt = (t.1 0 36).toInt := ti_eq (hfr.1 0 36 rfl)
    have h_142 : (0 : Int) ≤ (t1.1 0 9).toInt ∧ (t1.1 0 9).toInt ≤ 10 := hok.1 0 9
    have h_143 : (0 : Int) ≤ (t1.1 0 10).toInt ∧ (t1.1 0 10).toInt ≤ 1 := hok.1 0 10
    have h_144 : (0 : Int) ≤ (t1.1 0 12).toInt ∧ (t1.1 0 12).toInt ≤ 1 := hok.1 0 12
    have h_145 : (0 : Int) ≤ (t1.1 0 16).toInt ∧ (t1.1 0 16).toInt ≤ 63 := hok.1 0 16
    have h_146 : (0 : Int) ≤ (t1.1 0 17).toInt ∧ (t1.1 0 17).toInt ≤ 63 := hok.1 0 17
    have h_147 : (0 : Int) ≤ (t1.1 0 35).toInt ∧ (t1.1 0 35).toInt ≤ 1700 := hok.1 0 35
    have h_148 : (0 : Int) ≤ (t1.1 0 36).toInt ∧ (t1.1 0 36).toInt ≤ 1700 := hok.1 0 36
    refine lv_aload_n C.1 C.2.1 dX12_perform_215 rfl (lv_at hl 0 rfl) ?_
    refine lv_aload_n C.1 C.2.1 dX12_perform_216 rfl (lv_at hl 0 rfl) ?_
    refine k_get (v := .long (t1.2.1 0 8)) C hP 0 rfl rfl inlX12 8 (by decide) m_29_23 rfl dX12_perform_217 ?_
    refine g_Vv (As := [.long (t1.2.1 0 8)]) (rest := []) C hP hD hS hA (T_X12_settle l D K Z Y ad t1 hok ((t1.2.1 0 8))) hE hZ (uwV m_56_15 m_56_16 m_56_17 m_1_5 m_56_18) (hdV 1 (by decide +kernel) rfl) ⟨Nat.le_of_ble_eq_true rfl, Nat.le_of_ble_eq_true rfl⟩ rfl rfl (ci := 11) (q0 := 0) rfl rfl rfl hl.1 (Nat.le_of_ble_eq_true rfl) dX12_perform_220 ⟨Nat.le_of_ble_eq_true rfl, Nat.le_of_ble_eq_true rfl⟩ (fun t_149 H locs hw hP hD hS => ?_)
    obtain ⟨hok, f_151⟩ := hw
    have hfr : frA [(0, 5), (0, 6), (0, 7), (0, 9), (0, 10), (0, 30), (0, 35), (0, 91)] [(0, 8)] [2, 3, 5, 7, 8, 9, 10, 11, 12, 13, 14] [4, 6] t t_149 := frA_tr hfr f_151 rfl
    have h_152 : (t_149.2.1 0 8).toInt = (t1.2.1 0 8).toInt := tl_eq (f_151.2.1 0 8 rfl)
    have h_153 : (t_149.1 0 9).toInt = (t1.1 0 9).toInt := ti_eq (f_151.1 0 9 rfl)
    have h_154 : (t_149.1 0 10).toInt = (t1.1 0 10).toInt := ti_eq (f_151.1 0 10 rfl)
    have h_155 : (t_149.1 0 12).toInt = (t1.1 0 12).toInt := ti_eq (f_151.1 0 12 rfl)
    have h_156 : (t_149.2.1 0 13).toInt = (t1.2.1 0 13).toInt := tl_eq (f_151.2.1 0 13 rfl)
    have h_157 : (t_149.1 0 16).toInt = (t1.1 0 16).toInt := ti_eq (f_151.1 0 16 rfl)
    have h_158 : (t_149.1 0 17).toInt = (t1.1 0 17).toInt := ti_eq (f_151.1 0 17 rfl)
    have h_159 : (t_149.1 0 18).toInt = (t1.1 0 18).toInt := ti_eq (f_151.1 0 18 rfl)
    have h_160 : (t_149.1 0 35).toInt = (t1.1 0 35).toInt := ti_eq (f_151.1 0 35 rfl)
    have h_161 : (t_149.1 0 36).toInt = (t1.1 0 36).toInt := ti_eq (f_151.1 0 36 rfl)
    have e_162 : t_149.2.2.1 3 = t1.2.2.1 3 := f_151.2.2.1 3 rfl
    have e_163 : t_149.2.2.2 4 = t1.2.2.2 4 := f_151.2.2.2 4 rfl
    have e_164 : t_149.2.2.1 9 = t1.2.2.1 9 := f_151.2.2.1 9 rfl
    have h_165 : (0 : Int) ≤ (t_149.1 0 9).toInt ∧ (t_149.1 0 9).toInt ≤ 10 := hok.1 0 9
    have h_166 : (0 : Int) ≤ (t_149.1 0 10).toInt ∧ (t_149.1 0 10).toInt ≤ 1 := hok.1 0 10
    have h_167 : (0 : Int) ≤ (t_149.1 0 12).toInt ∧ (t_149.1 0 12).toInt ≤ 1 := hok.1 0 12
    have h_168 : (0 : Int) ≤ (t_149.1 0 16).toInt ∧ (t_149.1 0 16).toInt ≤ 63 := hok.1 0 16
    have h_169 : (0 : Int) ≤ (t_149.1 0 17).toInt ∧ (t_149.1 0 17).toInt ≤ 63 := hok.1 0 17
    have h_170 : (0 : Int) ≤ (t_149.1 0 35).toInt ∧ (t_149.1 0 35).toInt ≤ 1700 := hok.1 0 35
    have h_171 : (0 : Int) ≤ (t_149.1 0 36).toInt ∧ (t_149.1 0 36).toInt ≤ 1700 := hok.1 0 36
    refine lv_aload_n C.1 C.2.1 dX12_perform_223 rfl (lv_at hl 0 rfl) ?_
    have h_172 : (0 : Int) ≤ (t_149.1 0 11).toInt ∧ (t_149.1 0 11).toInt ≤ 1 := hok.1 0 11
    refine k_get (v := .int (t_149.1 0 11)) C hP 0 rfl rfl inlX12 11 (by decide) m_30_1 rfl dX12_perform_224 ?_
    refine lv_if_eq (tgt := 240) C.1 C.2.1 dX12_perform_227 (by decide) (fun c_173 => ?_) (fun c_173 => ?_)
    · replace c_173 : (t_149.1 0 11).toInt = 0 := i_eq c_173
      exact L_240 t_149 w215_1 w215_3 w215_4 w215_5 w215_6 w215_7 w215_8 w215_9 _ _ _ hok hfr ⟨by omega, by omega⟩ ⟨by omega, by omega⟩ ⟨by omega, by omega⟩ ⟨by omega, by omega⟩ ⟨by omega, by omega⟩ (show (t.1 0 12).toInt = 1 → (t.2.1 0 8).toInt + 1 ≤ (t_149.2.1 0 8).toInt from by omega) hP hD hS (lv_sub hl [0, 1, 2, 3, 4, 5, 6, 7, 8] rfl)
    · replace c_173 : ¬ (t_149.1 0 11).toInt = 0 := i_ne c_173
      refine lv_iload C.1 C.2.1 dX12_perform_230 (lv_at hl 3 rfl) ?_
      refine lv_if_eq (tgt := 240) C.1 C.2.1 dX12_perform_232 (by decide) (fun c_174 => ?_) (fun c_174 => ?_)
      · replace c_174 : w215_4.toInt = 0 := i_eq c_174
        exact L_240 t_149 w215_1 w215_3 w215_4 w215_5 w215_6 w215_7 w215_8 w215_9 _ _ _ hok hfr ⟨by omega, by omega⟩ ⟨by omega, by omega⟩ ⟨by omega, by omega⟩ ⟨by omega, by omega⟩ ⟨by omega, by omega⟩ (show (t.1 0 12).toInt = 1 → (t.2.1 0 8).toInt + 1 ≤ (t_149.2.1 0 8).toInt from by omega) hP hD hS (lv_sub hl [0, 1, 2, 3, 4, 5, 6, 7, 8] rfl)
      · replace c_174 : ¬ w215_4.toInt = 0 := i_ne c_174
        refine lv_aload_n C.1 C.2.1 dX12_perform_235 rfl (lv_at hl 0 rfl) ?_
        refine lv_lload_n C.1 C.2.1 dX12_perform_236 rfl (lv_at hl 1 rfl) ?_
        refine g_Vv (As := [.long w215_1]) (rest := []) C hP hD hS hA (T_X12_takeClock l D K Z Y ad t_149 hok (w215_1)) hE hZ (uwV m_63_11 m_63_12 m_63_13 m_1_5 m_63_14) (hdV 1 (by decide +kernel) rfl) ⟨Nat.le_of_ble_eq_true rfl, Nat.le_of_ble_eq_true rfl⟩ rfl rfl (ci := 11) (q0 := 0) rfl rfl rfl hl.1 (Nat.le_of_ble_eq_true rfl) dX12_perform_237 ⟨Nat.le_of_ble_eq_true rfl, Nat.le_of_ble_eq_true rfl⟩ (fun t_175 H locs hw hP hD hS => ?_)
        obtain ⟨hok, f_177⟩ := hw
        have hfr : frA [(0, 5), (0, 6), (0, 7), (0, 9), (0, 10), (0, 30), (0, 35), (0, 91)] [(0, 8)] [2, 3, 5, 7, 8, 9, 10, 11, 12, 13, 14] [4, 6] t t_175 := frA_tr hfr f_177 rfl
        have h_178 : (t_175.2.1 0 8).toInt = (t_149.2.1 0 8).toInt := tl_eq (f_177.2.1 0 8 rfl)
        have h_179 : (t_175.1 0 11).toInt = (t_149.1 0 11).toInt := ti_eq (f_177.1 0 11 rfl)
        have h_180 : (t_175.1 0 9).toInt = (t_149.1 0 9).toInt := ti_eq (f_177.1 0 9 rfl)
        have h_181 : (t_175.1 0 10).toInt = (t_149.1 0 10).toInt := ti_eq (f_177.1 0 10 rfl)
        have h_182 : (t_175.1 0 12).toInt = (t_149.1 0 12).toInt := ti_eq (f_177.1 0 12 rfl)
        have h_183 : (t_175.2.1 0 13).toInt = (t_149.2.1 0 13).toInt := tl_eq (f_177.2.1 0 13 rfl)
        have h_184 : (t_175.1 0 16).toInt = (t_149.1 0 16).toInt := ti_eq (f_177.1 0 16 rfl)
        have h_185 : (t_175.1 0 17).toInt = (t_149.1 0 17).toInt := ti_eq (f_177.1 0 17 rfl)
        have h_186 : (t_175.1 0 18).toInt = (t_149.1 0 18).toInt := ti_eq (f_177.1 0 18 rfl)
        have h_187 : (t_175.1 0 35).toInt = (t_149.1 0 35).toInt := ti_eq (f_177.1 0 35 rfl)
        have h_188 : (t_175.1 0 36).toInt = (t_149.1 0 36).toInt := ti_eq (f_177.1 0 36 rfl)
        have e_189 : t_175.2.2.1 3 = t1.2.2.1 3 := (f_177.2.2.1 3 rfl).trans (e_162)
        have e_190 : t_175.2.2.2 4 = t1.2.2.2 4 := (f_177.2.2.2 4 rfl).trans (e_163)
        have e_191 : t_175.2.2.1 9 = t1.2.2.1 9 := (f_177.2.2.1 9 rfl).trans (e_164)
        have h_192 : (0 : Int) ≤ (t_175.1 0 9).toInt ∧ (t_175.1 0 9).toInt ≤ 10 := hok.1 0 9
        have h_193 : (0 : Int) ≤ (t_175.1 0 10).toInt ∧ (t_175.1 0 10).toInt ≤ 1 := hok.1 0 10
        have h_194 : (0 : Int) ≤ (t_175.1 0 12).toInt ∧ (t_175.1 0 12).toInt ≤ 1 := hok.1 0 12
        have h_195 : (0 : Int) ≤ (t_175.1 0 16).toInt ∧ (t_175.1 0 16).toInt ≤ 63 := hok.1 0 16
        have h_196 : (0 : Int) ≤ (t_175.1 0 17).toInt ∧ (t_175.1 0 17).toInt ≤ 63 := hok.1 0 17
        have h_197 : (0 : Int) ≤ (t_175.1 0 35).toInt ∧ (t_175.1 0 35).toInt ≤ 1700 := hok.1 0 35
        have h_198 : (0 : Int) ≤ (t_175.1 0 36).toInt ∧ (t_175.1 0 36).toInt ≤ 1700 := hok.1 0 36
        exact L_240 t_175 w215_1 w215_3 w215_4 w215_5 w215_6 w215_7 w215_8 w215_9 _ _ _ hok hfr ⟨by omega, by omega⟩ ⟨by omega, by omega⟩ ⟨by omega, by omega⟩ ⟨by omega, by omega⟩ ⟨by omega, by omega⟩ (show (t.1 0 12).toInt = 1 → (t.2.1 0 8).toInt + 1 ≤ (t_175.2.1 0 8).toInt from by omega) hP hD hS (lv_sub hl [0, 1, 2, 3, 4, 5, 6, 7, 8] rfl)
  have L_196 : ∀ (t1 : tSt) (w196_1 : Int64) (w196_3 : Int32) (w196_4 : Int32) (w196_5 : Int32) (w196_6 : Int32) (w196_7 : Int32) (w196_8 : Int32) (w196_9 : Int32) (H : Heap) (locs : List Loc) (ls : Array Slot), okM t1 → frA [(0, 5), (0, 6), (0, 7), (0, 9), (0, 10), (0, 30), (0, 35), (0, 91)] [(0, 8)] [2, 3, 5, 7, 8, 9, 10, 11, 12, 13, 14] [4, 6] t t1 → (0 : Int) ≤ w196_4.toInt ∧ w196_4.toInt ≤ 1 → (0 : Int) ≤ w196_6.toInt ∧ w196_6.toInt ≤ 1 → (0 : Int) ≤ w196_7.toInt ∧ w196_7.toInt ≤ 1 → (0 : Int) ≤ w196_8.toInt ∧ w196_8.toInt ≤ 1 → (0 : Int) ≤ w196_9.toInt ∧ w196_9.toInt ≤ 1 → ((t.1 0 12).toInt = 1 → 1 ≤ w196_1.toInt ∧ (t.2.1 0 8).toInt + w196_1.toInt ≤ (t.2.1 0 13).toInt) → ((t1.2.1 0 8).toInt = (t.2.1 0 8).toInt) → va_P D vwCl (WM K ad t1) H → va_D A (WM K ad t1) → va_S A s.heap H locs → lv_has ls 10 [(0, .ref (ad 0)), (1, .long w196_1), (3, .int w196_3), (4, .int w196_4), (5, .int w196_5), (6, .int w196_6), (7, .int w196_7), (8, .int w196_8), (9, .int w196_9)] → W p l e (rmD 10 0 0) s m [.ref (ad 0)].toArray below meth c H locs 0 0 (MQ below (QV D K (fun (u : tSt) => okM u ∧ frA [(0, 5), (0, 6), (0, 7), (0, 9), (0, 10), (0, 30), (0, 35), (0, 91)] [(0, 8)] [2, 3, 5, 7, 8, 9, 10, 11, 12, 13, 14] [4, 6] t u ∧ ((t.1 0 12).toInt = 1 → (t.2.1 0 8).toInt + 1 ≤ (u.2.1 0 8).toInt)) (fun (u : tSt) => WM K ad u) A) [.ref (ad 0)].toArray s 0 0 A) (F0 m 196 ls []) := by
    intro t1 w196_1 w196_3 w196_4 w196_5 w196_6 w196_7 w196_8 w196_9 H locs ls hok hfr hw196_4 hw196_6 hw196_7 hw196_8 hw196_9 hi196_0 hi196_1 hP hD hS hl
    have h_199 : (t1.1 0 12).toInt = (t.1 0 12).toInt := ti_eq (hfr.1 0 12 rfl)
    have h_200 : (t1.2.1 0 13).toInt = (t.2.1 0 13).toInt := tl_eq (hfr.2.1 0 13 rfl)
    have h_201 : (t1.1 0 16).toInt = (t.1 0 16).toInt := ti_eq (hfr.1 0 16 rfl)
    have h_202 : (t1.1 0 17).toInt = (t.1 0 17).toInt := ti_eq (hfr.1 0 17 rfl)
    have h_203 : (t1.1 0 18).toInt = (t.1 0 18).toInt := ti_eq (hfr.1 0 18 rfl)
    have h_204 : (t1.1 0 36).toInt = (t.1 0 36).toInt := ti_eq (hfr.1 0 36 rfl)
    have h_205 : (0 : Int) ≤ (t1.1 0 9).toInt ∧ (t1.1 0 9).toInt ≤ 10 := hok.1 0 9
    have h_206 : (0 : Int) ≤ (t1.1 0 10).toInt ∧ (t1.1 0 10).toInt ≤ 1 := hok.1 0 10
    have h_207 : (0 : Int) ≤ (t1.1 0 12).toInt ∧ (t1.1 0 12).toInt ≤ 1 := hok.1 0 12
    have h_208 : (0 : Int) ≤ (t1.1 0 16).toInt ∧ (t1.1 0 16).toInt ≤ 63 := hok.1 0 16
    have h_209 : (0 : Int) ≤ (t1.1 0 17).toInt ∧ (t1.1 0 17).toInt ≤ 63 := hok.1 0 17
    have h_210 : (0 : Int) ≤ (t1.1 0 35).toInt ∧ (t1.1 0 35).toInt ≤ 1700 := hok.1 0 35
    have h_211 : (0 : Int) ≤ (t1.1 0 36).toInt ∧ (t1.1 0 36).toInt ≤ 1700 := hok.1 0 36
    have hj0 : (-2147483648 ≤ (t1.2.1 0 13).toInt ∧ (t1.2.1 0 13).toInt ≤ 2147483647) ∧ ((t1.1 0 12).toInt = 1 → 0 ≤ (t1.2.1 0 8).toInt ∧ ((t1.2.1 0 8).toInt ≤ (t1.2.1 0 13).toInt ∨ (t1.2.1 0 8).toInt = 0)) := jM_n hok.2.2.2.2.2.2.1
    refine lv_aload_n C.1 C.2.1 dX12_perform_196 rfl (lv_at hl 0 rfl) ?_
    refine lv_dup C.1 C.2.1 dX12_perform_197 rfl ?_
    refine k_get (v := .long (t1.2.1 0 8)) C hP 0 rfl rfl inlX12 8 (by decide) m_29_23 rfl dX12_perform_198 ?_
    refine lv_lload_n C.1 C.2.1 dX12_perform_201 rfl (lv_at hl 1 rfl) ?_
    obtain ⟨v_212, e_213⟩ : ∃ z, z = ((t1.2.1 0 8) : Int64) + (w196_1 : Int64) := ⟨_, rfl⟩
    have h_214 : -9223372036854775808 ≤ (t1.2.1 0 8).toInt + w196_1.toInt → (t1.2.1 0 8).toInt + w196_1.toInt < 9223372036854775808 → v_212.toInt = (t1.2.1 0 8).toInt + w196_1.toInt := by rw [e_213]; exact fun h1 h2 => Jvm.Kit.i64_add h1 h2
    refine k_ladd (v := v_212) C e_213.symm dX12_perform_202 ?_
    refine k_put (ws' := WM K ad (uJ t1 0 8 v_212)) (v := .long v_212) C hP hD hS 0 rfl rfl inlX12 tyX12_ok nmX12 8 (by decide) m_29_23 rfl rfl rfl rfl rfl dX12_perform_203 (fun H locs hP hD hS => ?_)
    have hok : okM (uJ t1 0 8 v_212) := ⟨hok.1, hok.2.1, hok.2.2.1, hok.2.2.2.1, hok.2.2.2.2.1, hok.2.2.2.2.2.1, (jM_t (j := (t1.1 0 12)) (m := (t1.2.1 0 13)) (v := v_212) hok.2.2.2.2.2.2.1 (fun hj => by omega)), trivial⟩
    have hfr : frA [(0, 5), (0, 6), (0, 7), (0, 9), (0, 10), (0, 30), (0, 35), (0, 91)] [(0, 8)] [2, 3, 5, 7, 8, 9, 10, 11, 12, 13, 14] [4, 6] t (uJ t1 0 8 v_212) := frA_J hfr 0 8 _ rfl
    refine lv_iload C.1 C.2.1 dX12_perform_206 (lv_at hl 8 rfl) ?_
    refine lv_if_eq (tgt := 215) C.1 C.2.1 dX12_perform_208 (by decide) (fun c_215 => ?_) (fun c_215 => ?_)
    · replace c_215 : w196_9.toInt = 0 := i_eq c_215
      exact L_215 (uJ t1 0 8 v_212) w196_1 w196_3 w196_4 w196_5 w196_6 w196_7 w196_8 w196_9 _ _ _ hok hfr ⟨by omega, by omega⟩ ⟨by omega, by omega⟩ ⟨by omega, by omega⟩ ⟨by omega, by omega⟩ ⟨by omega, by omega⟩ (show (t.1 0 12).toInt = 1 → (t.2.1 0 8).toInt + 1 ≤ v_212.toInt from by omega) hP hD hS (lv_sub hl [0, 1, 2, 3, 4, 5, 6, 7, 8] rfl)
    · replace c_215 : ¬ w196_9.toInt = 0 := i_ne c_215
      refine lv_aload_n C.1 C.2.1 dX12_perform_211 rfl (lv_at hl 0 rfl) ?_
      refine g_Vv (As := []) (rest := []) C hP hD hS hA (T_X12_resume l D K Z Y ad (uJ t1 0 8 v_212) hok ) hE hZ (uwV m_63_7 m_63_8 m_63_9 m_1_5 m_63_10) (hdV 0 (by decide +kernel) rfl) ⟨Nat.le_of_ble_eq_true rfl, Nat.le_of_ble_eq_true rfl⟩ rfl rfl (ci := 11) (q0 := 0) rfl rfl rfl hl.1 (Nat.le_of_ble_eq_true rfl) dX12_perform_212 ⟨Nat.le_of_ble_eq_true rfl, Nat.le_of_ble_eq_true rfl⟩ (fun t_216 H locs hw hP hD hS => ?_)
      obtain ⟨hok, f_218⟩ := hw
      have hfr : frA [(0, 5), (0, 6), (0, 7), (0, 9), (0, 10), (0, 30), (0, 35), (0, 91)] [(0, 8)] [2, 3, 5, 7, 8, 9, 10, 11, 12, 13, 14] [4, 6] t t_216 := frA_tr hfr f_218 rfl
      have h_219 : (t_216.2.1 0 8).toInt = v_212.toInt := tl_eq (f_218.2.1 0 8 rfl)
      have h_220 : (t_216.1 0 9).toInt = (t1.1 0 9).toInt := ti_eq (f_218.1 0 9 rfl)
      have h_221 : (t_216.1 0 12).toInt = (t1.1 0 12).toInt := ti_eq (f_218.1 0 12 rfl)
      have h_222 : (t_216.2.1 0 13).toInt = (t1.2.1 0 13).toInt := tl_eq (f_218.2.1 0 13 rfl)
      have h_223 : (t_216.1 0 16).toInt = (t1.1 0 16).toInt := ti_eq (f_218.1 0 16 rfl)
      have h_224 : (t_216.1 0 17).toInt = (t1.1 0 17).toInt := ti_eq (f_218.1 0 17 rfl)
      have h_225 : (t_216.1 0 18).toInt = (t1.1 0 18).toInt := ti_eq (f_218.1 0 18 rfl)
      have h_226 : (t_216.1 0 35).toInt = (t1.1 0 35).toInt := ti_eq (f_218.1 0 35 rfl)
      have h_227 : (t_216.1 0 36).toInt = (t1.1 0 36).toInt := ti_eq (f_218.1 0 36 rfl)
      have e_228 : t_216.2.2.2 4 = t1.2.2.2 4 := f_218.2.2.2 4 rfl
      have e_229 : t_216.2.2.1 9 = t1.2.2.1 9 := f_218.2.2.1 9 rfl
      have h_230 : (0 : Int) ≤ (t_216.1 0 9).toInt ∧ (t_216.1 0 9).toInt ≤ 10 := hok.1 0 9
      have h_231 : (0 : Int) ≤ (t_216.1 0 10).toInt ∧ (t_216.1 0 10).toInt ≤ 1 := hok.1 0 10
      have h_232 : (0 : Int) ≤ (t_216.1 0 12).toInt ∧ (t_216.1 0 12).toInt ≤ 1 := hok.1 0 12
      have h_233 : (0 : Int) ≤ (t_216.1 0 16).toInt ∧ (t_216.1 0 16).toInt ≤ 63 := hok.1 0 16
      have h_234 : (0 : Int) ≤ (t_216.1 0 17).toInt ∧ (t_216.1 0 17).toInt ≤ 63 := hok.1 0 17
      have h_235 : (0 : Int) ≤ (t_216.1 0 35).toInt ∧ (t_216.1 0 35).toInt ≤ 1700 := hok.1 0 35
      have h_236 : (0 : Int) ≤ (t_216.1 0 36).toInt ∧ (t_216.1 0 36).toInt ≤ 1700 := hok.1 0 36
      exact L_215 t_216 w196_1 w196_3 w196_4 w196_5 w196_6 w196_7 w196_8 w196_9 _ _ _ hok hfr ⟨by omega, by omega⟩ ⟨by omega, by omega⟩ ⟨by omega, by omega⟩ ⟨by omega, by omega⟩ ⟨by omega, by omega⟩ (show (t.1 0 12).toInt = 1 → (t.2.1 0 8).toInt + 1 ≤ (t_216.2.1 0 8).toInt from by omega) hP hD hS (lv_sub hl [0, 1, 2, 3, 4, 5, 6, 7, 8] rfl)
  have L_176 : ∀ (t1 : tSt) (w176_1 : Int64) (w176_3 : Int32) (w176_4 : Int32) (w176_5 : Int32) (w176_6 : Int32) (w176_7 : Int32) (w176_8 : Int32) (w176_9 : Int32) (H : Heap) (locs : List Loc) (ls : Array Slot), okM t1 → frA [(0, 5), (0, 6), (0, 7), (0, 9), (0, 10), (0, 30), (0, 35), (0, 91)] [(0, 8)] [2, 3, 5, 7, 8, 9, 10, 11, 12, 13, 14] [4, 6] t t1 → (0 : Int) ≤ w176_4.toInt ∧ w176_4.toInt ≤ 1 → (0 : Int) ≤ w176_6.toInt ∧ w176_6.toInt ≤ 1 → (0 : Int) ≤ w176_7.toInt ∧ w176_7.toInt ≤ 1 → (0 : Int) ≤ w176_8.toInt ∧ w176_8.toInt ≤ 1 → (0 : Int) ≤ w176_9.toInt ∧ w176_9.toInt ≤ 1 → ((t.1 0 12).toInt = 1 → 1 ≤ w176_1.toInt ∧ (t.2.1 0 8).toInt + w176_1.toInt ≤ (t.2.1 0 13).toInt) → ((t1.2.1 0 8).toInt = (t.2.1 0 8).toInt) → va_P D vwCl (WM K ad t1) H → va_D A (WM K ad t1) → va_S A s.heap H locs → lv_has ls 10 [(0, .ref (ad 0)), (1, .long w176_1), (3, .int w176_3), (4, .int w176_4), (5, .int w176_5), (6, .int w176_6), (7, .int w176_7), (8, .int w176_8), (9, .int w176_9)] → W p l e (rmD 10 0 0) s m [.ref (ad 0)].toArray below meth c H locs 0 0 (MQ below (QV D K (fun (u : tSt) => okM u ∧ frA [(0, 5), (0, 6), (0, 7), (0, 9), (0, 10), (0, 30), (0, 35), (0, 91)] [(0, 8)] [2, 3, 5, 7, 8, 9, 10, 11, 12, 13, 14] [4, 6] t u ∧ ((t.1 0 12).toInt = 1 → (t.2.1 0 8).toInt + 1 ≤ (u.2.1 0 8).toInt)) (fun (u : tSt) => WM K ad u) A) [.ref (ad 0)].toArray s 0 0 A) (F0 m 176 ls []) := by
    intro t1 w176_1 w176_3 w176_4 w176_5 w176_6 w176_7 w176_8 w176_9 H locs ls hok hfr hw176_4 hw176_6 hw176_7 hw176_8 hw176_9 hi176_0 hi176_1 hP hD hS hl
    have h_237 : (t1.1 0 12).toInt = (t.1 0 12).toInt := ti_eq (hfr.1 0 12 rfl)
    have h_238 : (t1.2.1 0 13).toInt = (t.2.1 0 13).toInt := tl_eq (hfr.2.1 0 13 rfl)
    have h_239 : (t1.1 0 16).toInt = (t.1 0 16).toInt := ti_eq (hfr.1 0 16 rfl)
    have h_240 : (t1.1 0 17).toInt = (t.1 0 17).toInt := ti_eq (hfr.1 0 17 rfl)
    have h_241 : (t1.1 0 18).toInt = (t.1 0 18).toInt := ti_eq (hfr.1 0 18 rfl)
    have h_242 : (t1.1 0 36).toInt = (t.1 0 36).toInt := ti_eq (hfr.1 0 36 rfl)
    have h_243 : (0 : Int) ≤ (t1.1 0 9).toInt ∧ (t1.1 0 9).toInt ≤ 10 := hok.1 0 9
    have h_244 : (0 : Int) ≤ (t1.1 0 10).toInt ∧ (t1.1 0 10).toInt ≤ 1 := hok.1 0 10
    have h_245 : (0 : Int) ≤ (t1.1 0 12).toInt ∧ (t1.1 0 12).toInt ≤ 1 := hok.1 0 12
    have h_246 : (0 : Int) ≤ (t1.1 0 16).toInt ∧ (t1.1 0 16).toInt ≤ 63 := hok.1 0 16
    have h_247 : (0 : Int) ≤ (t1.1 0 17).toInt ∧ (t1.1 0 17).toInt ≤ 63 := hok.1 0 17
    have h_248 : (0 : Int) ≤ (t1.1 0 35).toInt ∧ (t1.1 0 35).toInt ≤ 1700 := hok.1 0 35
    have h_249 : (0 : Int) ≤ (t1.1 0 36).toInt ∧ (t1.1 0 36).toInt ≤ 1700 := hok.1 0 36
    refine lv_iload C.1 C.2.1 dX12_perform_176 (lv_at hl 6 rfl) ?_
    refine lv_if_ne (tgt := 196) C.1 C.2.1 dX12_perform_178 (by decide) (fun c_250 => ?_) (fun c_250 => ?_)
    · replace c_250 : ¬ w176_7.toInt = 0 := i_ne c_250
      exact L_196 t1 w176_1 w176_3 w176_4 w176_5 w176_6 w176_7 w176_8 w176_9 _ _ _ hok hfr ⟨by omega, by omega⟩ ⟨by omega, by omega⟩ ⟨by omega, by omega⟩ ⟨by omega, by omega⟩ ⟨by omega, by omega⟩ (show (t.1 0 12).toInt = 1 → 1 ≤ w176_1.toInt ∧ (t.2.1 0 8).toInt + w176_1.toInt ≤ (t.2.1 0 13).toInt from by omega) (show (t1.2.1 0 8).toInt = (t.2.1 0 8).toInt from by omega) hP hD hS (lv_sub hl [0, 1, 2, 3, 4, 5, 6, 7, 8] rfl)
    · replace c_250 : w176_7.toInt = 0 := i_eq c_250
      refine lv_iload C.1 C.2.1 dX12_perform_181 (lv_at hl 8 rfl) ?_
      refine lv_if_ne (tgt := 196) C.1 C.2.1 dX12_perform_183 (by decide) (fun c_251 => ?_) (fun c_251 => ?_)
      · replace c_251 : ¬ w176_9.toInt = 0 := i_ne c_251
        exact L_196 t1 w176_1 w176_3 w176_4 w176_5 w176_6 w176_7 w176_8 w176_9 _ _ _ hok hfr ⟨by omega, by omega⟩ ⟨by omega, by omega⟩ ⟨by omega, by omega⟩ ⟨by omega, by omega⟩ ⟨by omega, by omega⟩ (show (t.1 0 12).toInt = 1 → 1 ≤ w176_1.toInt ∧ (t.2.1 0 8).toInt + w176_1.toInt ≤ (t.2.1 0 13).toInt from by omega) (show (t1.2.1 0 8).toInt = (t.2.1 0 8).toInt from by omega) hP hD hS (lv_sub hl [0, 1, 2, 3, 4, 5, 6, 7, 8] rfl)
      · replace c_251 : w176_9.toInt = 0 := i_eq c_251
        refine lv_aload_n C.1 C.2.1 dX12_perform_186 rfl (lv_at hl 0 rfl) ?_
        refine lv_dup C.1 C.2.1 dX12_perform_187 rfl ?_
        refine k_get (v := .int (t1.1 0 7)) C hP 0 rfl rfl inlX12 7 (by decide) m_29_22 rfl dX12_perform_188 ?_
        refine lv_iconst (v := 1) C.1 C.2.1 dX12_perform_191 (by decide) ?_
        obtain ⟨v_252, e_253⟩ : ∃ z, z = ((t1.1 0 7) : Int32) + (1 : Int32) := ⟨_, rfl⟩
        refine k_iadd (v := v_252) C e_253.symm dX12_perform_192 ?_
        refine k_put (ws' := WM K ad (uI t1 0 7 v_252)) (v := .int v_252) C hP hD hS 0 rfl rfl inlX12 tyX12_ok nmX12 7 (by decide) m_29_22 rfl rfl rfl rfl rfl dX12_perform_193 (fun H locs hP hD hS => ?_)
        have hok : okM (uI t1 0 7 v_252) := ⟨okI_I hok.1 0 7 v_252 (show (-2147483648 : Int) ≤ (v_252 : Int32).toInt ∧ (v_252 : Int32).toInt ≤ 2147483647 from (i_rng _)), hok.2.1, hok.2.2.1, hok.2.2.2.1, hok.2.2.2.2.1, hok.2.2.2.2.2.1, hok.2.2.2.2.2.2.1, trivial⟩
        have hfr : frA [(0, 5), (0, 6), (0, 7), (0, 9), (0, 10), (0, 30), (0, 35), (0, 91)] [(0, 8)] [2, 3, 5, 7, 8, 9, 10, 11, 12, 13, 14] [4, 6] t (uI t1 0 7 v_252) := frA_I hfr 0 7 _ rfl
        exact L_196 (uI t1 0 7 v_252) w176_1 w176_3 w176_4 w176_5 w176_6 w176_7 w176_8 w176_9 _ _ _ hok hfr ⟨by omega, by omega⟩ ⟨by omega, by omega⟩ ⟨by omega, by omega⟩ ⟨by omega, by omega⟩ ⟨by omega, by omega⟩ (show (t.1 0 12).toInt = 1 → 1 ≤ w176_1.toInt ∧ (t.2.1 0 8).toInt + w176_1.toInt ≤ (t.2.1 0 13).toInt from by omega) (show (t1.2.1 0 8).toInt = (t.2.1 0 8).toInt from by omega) hP hD hS (lv_sub hl [0, 1, 2, 3, 4, 5, 6, 7, 8] rfl)
  refine lv_aload_n C.1 C.2.1 dX12_perform_0 rfl (lv_at hl 0 rfl) ?_
  refine g_Vl (As := []) (rest := []) C hP hD hS hA (T_X12_cost l D K Z Y ad t hok ) hE hZ (uwV m_57_15 m_57_16 m_57_17 m_1_5 m_57_18) (hdV 0 (by decide +kernel) rfl) ⟨Nat.le_of_ble_eq_true rfl, Nat.le_of_ble_eq_true rfl⟩ rfl rfl (ci := 11) (q0 := 0) rfl rfl rfl hl.1 (Nat.le_of_ble_eq_true rfl) dX12_perform_1 ⟨Nat.le_of_ble_eq_true rfl, Nat.le_of_ble_eq_true rfl⟩ (fun r_256 t_255 H locs hw hP hD hS => ?_)
  obtain ⟨p_258, p_259, p_260⟩ := hw
  replace p_258 : r_256.toInt = (cO (t.1 0 16) (t.1 0 17) (t.2.2.2 4 ((t.1 0 17) : Int32).toNatClampNeg) (t.2.1 0 8)).toInt := p_258
  replace p_259 : (t.1 0 12).toInt = 1 → 1 ≤ r_256.toInt ∧ r_256.toInt ≤ 2147490000 := p_259
  replace p_260 : (t.1 0 12).toInt = 1 → 35 ≤ (t.1 0 16).toInt → (t.1 0 16).toInt ≤ 37 → (t.1 0 17).toInt ≤ 19 → (t.2.2.2 4 ((t.1 0 17) : Int32).toNatClampNeg).toInt + 1 ≤ (t.2.1 0 8).toInt + r_256.toInt := p_260
  refine lv_lstore_n (lv' := [(1, .long r_256), (0, .ref (ad 0))]) C.1 C.2.1 dX12_perform_4 rfl hl (by decide) rfl (fun ls hl => ?_)
  have hl : lv_has ls 10 [(0, .ref (ad 0)), (1, .long r_256)] := lv_sub hl [1, 0] rfl
  have hu1 := hs1.1
  refine lv_aload_n C.1 C.2.1 dX12_perform_5 rfl (lv_at hl 0 rfl) ?_
  refine k_get (v := .int (t.1 0 7)) C hP 0 rfl rfl inlX12 7 (by decide) m_29_22 rfl dX12_perform_6 ?_
  refine lv_istore_n (lv' := [(3, .int (t.1 0 7)), (0, .ref (ad 0)), (1, .long r_256)]) C.1 C.2.1 dX12_perform_9 rfl hl (by decide) rfl (fun ls hl => ?_)
  have hl : lv_has ls 10 [(0, .ref (ad 0)), (1, .long r_256), (3, .int (t.1 0 7))] := lv_sub hl [1, 2, 0] rfl
  refine lv_aload_n C.1 C.2.1 dX12_perform_10 rfl (lv_at hl 0 rfl) ?_
  refine k_get (v := .int (t.1 0 10)) C hP 0 rfl rfl inlX12 10 (by decide) m_30_0 rfl dX12_perform_11 ?_
  refine lv_if_ne (tgt := 21) C.1 C.2.1 dX12_perform_14 (by decide) (fun c_261 => ?_) (fun c_261 => ?_)
  · replace c_261 : ¬ (t.1 0 10).toInt = 0 := i_ne c_261
    refine lv_iconst (v := 0) C.1 C.2.1 dX12_perform_21 (by decide) ?_
    refine lv_istore (lv' := [(4, .int 0), (0, .ref (ad 0)), (1, .long r_256), (3, .int (t.1 0 7))]) C.1 C.2.1 dX12_perform_22 hl (by decide) rfl (fun ls hl => ?_)
    have hl : lv_has ls 10 [(0, .ref (ad 0)), (1, .long r_256), (3, .int (t.1 0 7)), (4, .int 0)] := lv_sub hl [1, 2, 3, 0] rfl
    refine lv_aload_n C.1 C.2.1 dX12_perform_24 rfl (lv_at hl 0 rfl) ?_
    refine k_get (v := .int (t.1 0 15)) C hP 0 rfl rfl inlX12 15 (by decide) m_57_2 rfl dX12_perform_25 ?_
    refine lv_istore (lv' := [(5, .int (t.1 0 15)), (0, .ref (ad 0)), (1, .long r_256), (3, .int (t.1 0 7)), (4, .int 0)]) C.1 C.2.1 dX12_perform_28 hl (by decide) rfl (fun ls hl => ?_)
    have hl : lv_has ls 10 [(0, .ref (ad 0)), (1, .long r_256), (3, .int (t.1 0 7)), (4, .int 0), (5, .int (t.1 0 15))] := lv_sub hl [1, 2, 3, 4, 0] rfl
    refine lv_aload_n C.1 C.2.1 dX12_perform_30 rfl (lv_at hl 0 rfl) ?_
    refine k_get (v := .int (t.1 0 16)) C hP 0 rfl rfl inlX12 16 (by decide) m_57_3 rfl dX12_perform_31 ?_
    refine lv_iconst (v := 5) C.1 C.2.1 dX12_perform_34 (by decide) ?_
    refine lv_icmp_ne (tgt := 50) C.1 C.2.1 dX12_perform_35 (by decide) (fun c_262 => ?_) (fun c_262 => ?_)
    · replace c_262 : ¬ (t.1 0 16).toInt = 5 := i_ne c_262
      refine lv_iconst (v := 0) C.1 C.2.1 dX12_perform_50 (by decide) ?_
      refine lv_istore (lv' := [(6, .int 0), (0, .ref (ad 0)), (1, .long r_256), (3, .int (t.1 0 7)), (4, .int 0), (5, .int (t.1 0 15))]) C.1 C.2.1 dX12_perform_51 hl (by decide) rfl (fun ls hl => ?_)
      have hl : lv_has ls 10 [(0, .ref (ad 0)), (1, .long r_256), (3, .int (t.1 0 7)), (4, .int 0), (5, .int (t.1 0 15)), (6, .int 0)] := lv_sub hl [1, 2, 3, 4, 5, 0] rfl
      refine lv_aload_n C.1 C.2.1 dX12_perform_53 rfl (lv_at hl 0 rfl) ?_
      refine k_get (v := .int (t.1 0 16)) C hP 0 rfl rfl inlX12 16 (by decide) m_57_3 rfl dX12_perform_54 ?_
      refine lv_bipush (v := 34) C.1 C.2.1 dX12_perform_57 (by decide) ?_
      refine lv_icmp_eq (tgt := 80) C.1 C.2.1 dX12_perform_59 (by decide) (fun c_263 => ?_) (fun c_263 => ?_)
      · replace c_263 : (t.1 0 16).toInt = 34 := i_eq c_263
        refine lv_iconst (v := 1) C.1 C.2.1 dX12_perform_80 (by decide) ?_
        refine lv_goto (tgt := 85) C.1 C.2.1 dX12_perform_81 (by decide) ?_
        refine lv_istore (lv' := [(7, .int 1), (0, .ref (ad 0)), (1, .long r_256), (3, .int (t.1 0 7)), (4, .int 0), (5, .int (t.1 0 15)), (6, .int 0)]) C.1 C.2.1 dX12_perform_85 hl (by decide) rfl (fun ls hl => ?_)
        have hl : lv_has ls 10 [(0, .ref (ad 0)), (1, .long r_256), (3, .int (t.1 0 7)), (4, .int 0), (5, .int (t.1 0 15)), (6, .int 0), (7, .int 1)] := lv_sub hl [1, 2, 3, 4, 5, 6, 0] rfl
        refine lv_aload_n C.1 C.2.1 dX12_perform_87 rfl (lv_at hl 0 rfl) ?_
        refine k_get (v := .int (t.1 0 16)) C hP 0 rfl rfl inlX12 16 (by decide) m_57_3 rfl dX12_perform_88 ?_
        refine lv_bipush (v := 34) C.1 C.2.1 dX12_perform_91 (by decide) ?_
        refine lv_icmp_le (tgt := 109) C.1 C.2.1 dX12_perform_93 (by decide) (fun c_264 => ?_) (fun c_264 => False.elim (by have c_264 : 34 < (t.1 0 16).toInt := i_nle c_264; omega))
        replace c_264 : (t.1 0 16).toInt ≤ 34 := i_le c_264
        refine lv_iconst (v := 0) C.1 C.2.1 dX12_perform_109 (by decide) ?_
        refine lv_istore (lv' := [(8, .int 0), (0, .ref (ad 0)), (1, .long r_256), (3, .int (t.1 0 7)), (4, .int 0), (5, .int (t.1 0 15)), (6, .int 0), (7, .int 1)]) C.1 C.2.1 dX12_perform_110 hl (by decide) rfl (fun ls hl => ?_)
        have hl : lv_has ls 10 [(0, .ref (ad 0)), (1, .long r_256), (3, .int (t.1 0 7)), (4, .int 0), (5, .int (t.1 0 15)), (6, .int 0), (7, .int 1), (8, .int 0)] := lv_sub hl [1, 2, 3, 4, 5, 6, 7, 0] rfl
        refine lv_aload_n C.1 C.2.1 dX12_perform_112 rfl (lv_at hl 0 rfl) ?_
        refine k_get (v := .int (t.1 0 16)) C hP 0 rfl rfl inlX12 16 (by decide) m_57_3 rfl dX12_perform_113 ?_
        refine lv_iconst (v := 5) C.1 C.2.1 dX12_perform_116 (by decide) ?_
        refine lv_icmp_ne (tgt := 132) C.1 C.2.1 dX12_perform_117 (by decide) (fun c_265 => ?_) (fun c_265 => False.elim (by have c_265 : (t.1 0 16).toInt = 5 := i_eq c_265; omega))
        replace c_265 : ¬ (t.1 0 16).toInt = 5 := i_ne c_265
        refine lv_iconst (v := 0) C.1 C.2.1 dX12_perform_132 (by decide) ?_
        refine lv_istore (lv' := [(9, .int 0), (0, .ref (ad 0)), (1, .long r_256), (3, .int (t.1 0 7)), (4, .int 0), (5, .int (t.1 0 15)), (6, .int 0), (7, .int 1), (8, .int 0)]) C.1 C.2.1 dX12_perform_133 hl (by decide) rfl (fun ls hl => ?_)
        have hl : lv_has ls 10 [(0, .ref (ad 0)), (1, .long r_256), (3, .int (t.1 0 7)), (4, .int 0), (5, .int (t.1 0 15)), (6, .int 0), (7, .int 1), (8, .int 0), (9, .int 0)] := lv_sub hl [1, 2, 3, 4, 5, 6, 7, 8, 0] rfl
        refine lv_iload C.1 C.2.1 dX12_perform_135 (lv_at hl 6 rfl) ?_
        refine lv_if_eq (tgt := 147) C.1 C.2.1 dX12_perform_137 (by decide) (fun h => absurd h (by decide)) (fun _ => ?_)
        refine lv_aload_n C.1 C.2.1 dX12_perform_140 rfl (lv_at hl 0 rfl) ?_
        refine g_Vv (As := []) (rest := []) C hP hD hS hA (T_X12_jump l D K Z Y ad t hok (show (t.1 0 16).toInt = 34 ∨ (t.1 0 16).toInt = 38 → (t.1 0 17).toInt ≤ 19 from by omega)) hE hZ (uwV m_60_4 m_60_5 m_60_6 m_1_5 m_60_7) (hdV 0 (by decide +kernel) rfl) ⟨Nat.le_of_ble_eq_true rfl, Nat.le_of_ble_eq_true rfl⟩ rfl rfl (ci := 11) (q0 := 0) rfl rfl rfl hl.1 (Nat.le_of_ble_eq_true rfl) dX12_perform_141 ⟨Nat.le_of_ble_eq_true rfl, Nat.le_of_ble_eq_true rfl⟩ (fun t_266 H locs hw hP hD hS => ?_)
        obtain ⟨hok, f_268⟩ := hw
        have hfr : frA [(0, 5), (0, 6), (0, 7), (0, 9), (0, 10), (0, 30), (0, 35), (0, 91)] [(0, 8)] [2, 3, 5, 7, 8, 9, 10, 11, 12, 13, 14] [4, 6] t t_266 := frA_tr hfr f_268 rfl
        have h_269 : (t_266.1 0 10).toInt = (t.1 0 10).toInt := ti_eq (f_268.1 0 10 rfl)
        have h_270 : (t_266.1 0 15).toInt = (t.1 0 15).toInt := ti_eq (f_268.1 0 15 rfl)
        have h_271 : (t_266.1 0 16).toInt = (t.1 0 16).toInt := ti_eq (f_268.1 0 16 rfl)
        have h_272 : (t_266.2.1 0 8).toInt = (t.2.1 0 8).toInt := tl_eq (f_268.2.1 0 8 rfl)
        have h_273 : (t_266.1 0 9).toInt = (t.1 0 9).toInt := ti_eq (f_268.1 0 9 rfl)
        have h_274 : (t_266.1 0 12).toInt = (t.1 0 12).toInt := ti_eq (f_268.1 0 12 rfl)
        have h_275 : (t_266.2.1 0 13).toInt = (t.2.1 0 13).toInt := tl_eq (f_268.2.1 0 13 rfl)
        have h_276 : (t_266.1 0 17).toInt = (t.1 0 17).toInt := ti_eq (f_268.1 0 17 rfl)
        have h_277 : (t_266.1 0 18).toInt = (t.1 0 18).toInt := ti_eq (f_268.1 0 18 rfl)
        have h_278 : (t_266.1 0 35).toInt = (t.1 0 35).toInt := ti_eq (f_268.1 0 35 rfl)
        have h_279 : (t_266.1 0 36).toInt = (t.1 0 36).toInt := ti_eq (f_268.1 0 36 rfl)
        have e_280 : t_266.2.2.2 4 = t.2.2.2 4 := f_268.2.2.2 4 rfl
        have e_281 : t_266.2.2.1 9 = t.2.2.1 9 := f_268.2.2.1 9 rfl
        have h_282 : (0 : Int) ≤ (t_266.1 0 9).toInt ∧ (t_266.1 0 9).toInt ≤ 10 := hok.1 0 9
        have h_283 : (0 : Int) ≤ (t_266.1 0 12).toInt ∧ (t_266.1 0 12).toInt ≤ 1 := hok.1 0 12
        have h_284 : (0 : Int) ≤ (t_266.1 0 17).toInt ∧ (t_266.1 0 17).toInt ≤ 63 := hok.1 0 17
        have h_285 : (0 : Int) ≤ (t_266.1 0 35).toInt ∧ (t_266.1 0 35).toInt ≤ 1700 := hok.1 0 35
        have h_286 : (0 : Int) ≤ (t_266.1 0 36).toInt ∧ (t_266.1 0 36).toInt ≤ 1700 := hok.1 0 36
        refine lv_goto (tgt := 176) C.1 C.2.1 dX12_perform_144 (by decide) ?_
        exact L_176 t_266 r_256 (t.1 0 7) 0 (t.1 0 15) 0 1 0 0 _ _ _ hok hfr ⟨by decide, by decide⟩ ⟨by decide, by decide⟩ ⟨by decide, by decide⟩ ⟨by decide, by decide⟩ ⟨by decide, by decide⟩ (show (t.1 0 12).toInt = 1 → 1 ≤ r_256.toInt ∧ (t.2.1 0 8).toInt + r_256.toInt ≤ (t.2.1 0 13).toInt from by omega) (show (t_266.2.1 0 8).toInt = (t.2.1 0 8).toInt from by omega) hP hD hS (lv_sub hl [0, 1, 2, 3, 4, 5, 6, 7, 8] rfl)
      · replace c_263 : ¬ (t.1 0 16).toInt = 34 := i_ne c_263
        refine lv_aload_n C.1 C.2.1 dX12_perform_62 rfl (lv_at hl 0 rfl) ?_
        refine k_get (v := .int (t.1 0 16)) C hP 0 rfl rfl inlX12 16 (by decide) m_57_3 rfl dX12_perform_63 ?_
        refine lv_bipush (v := 37) C.1 C.2.1 dX12_perform_66 (by decide) ?_
        refine lv_icmp_le (tgt := 84) C.1 C.2.1 dX12_perform_68 (by decide) (fun c_287 => ?_) (fun c_287 => ?_)
        · replace c_287 : (t.1 0 16).toInt ≤ 37 := i_le c_287
          refine lv_iconst (v := 0) C.1 C.2.1 dX12_perform_84 (by decide) ?_
          refine lv_istore (lv' := [(7, .int 0), (0, .ref (ad 0)), (1, .long r_256), (3, .int (t.1 0 7)), (4, .int 0), (5, .int (t.1 0 15)), (6, .int 0)]) C.1 C.2.1 dX12_perform_85 hl (by decide) rfl (fun ls hl => ?_)
          have hl : lv_has ls 10 [(0, .ref (ad 0)), (1, .long r_256), (3, .int (t.1 0 7)), (4, .int 0), (5, .int (t.1 0 15)), (6, .int 0), (7, .int 0)] := lv_sub hl [1, 2, 3, 4, 5, 6, 0] rfl
          refine lv_aload_n C.1 C.2.1 dX12_perform_87 rfl (lv_at hl 0 rfl) ?_
          refine k_get (v := .int (t.1 0 16)) C hP 0 rfl rfl inlX12 16 (by decide) m_57_3 rfl dX12_perform_88 ?_
          refine lv_bipush (v := 34) C.1 C.2.1 dX12_perform_91 (by decide) ?_
          refine lv_icmp_le (tgt := 109) C.1 C.2.1 dX12_perform_93 (by decide) (fun c_288 => ?_) (fun c_288 => ?_)
          · replace c_288 : (t.1 0 16).toInt ≤ 34 := i_le c_288
            refine lv_iconst (v := 0) C.1 C.2.1 dX12_perform_109 (by decide) ?_
            refine lv_istore (lv' := [(8, .int 0), (0, .ref (ad 0)), (1, .long r_256), (3, .int (t.1 0 7)), (4, .int 0), (5, .int (t.1 0 15)), (6, .int 0), (7, .int 0)]) C.1 C.2.1 dX12_perform_110 hl (by decide) rfl (fun ls hl => ?_)
            have hl : lv_has ls 10 [(0, .ref (ad 0)), (1, .long r_256), (3, .int (t.1 0 7)), (4, .int 0), (5, .int (t.1 0 15)), (6, .int 0), (7, .int 0), (8, .int 0)] := lv_sub hl [1, 2, 3, 4, 5, 6, 7, 0] rfl
            refine lv_aload_n C.1 C.2.1 dX12_perform_112 rfl (lv_at hl 0 rfl) ?_
            refine k_get (v := .int (t.1 0 16)) C hP 0 rfl rfl inlX12 16 (by decide) m_57_3 rfl dX12_perform_113 ?_
            refine lv_iconst (v := 5) C.1 C.2.1 dX12_perform_116 (by decide) ?_
            refine lv_icmp_ne (tgt := 132) C.1 C.2.1 dX12_perform_117 (by decide) (fun c_289 => ?_) (fun c_289 => ?_)
            · replace c_289 : ¬ (t.1 0 16).toInt = 5 := i_ne c_289
              refine lv_iconst (v := 0) C.1 C.2.1 dX12_perform_132 (by decide) ?_
              refine lv_istore (lv' := [(9, .int 0), (0, .ref (ad 0)), (1, .long r_256), (3, .int (t.1 0 7)), (4, .int 0), (5, .int (t.1 0 15)), (6, .int 0), (7, .int 0), (8, .int 0)]) C.1 C.2.1 dX12_perform_133 hl (by decide) rfl (fun ls hl => ?_)
              have hl : lv_has ls 10 [(0, .ref (ad 0)), (1, .long r_256), (3, .int (t.1 0 7)), (4, .int 0), (5, .int (t.1 0 15)), (6, .int 0), (7, .int 0), (8, .int 0), (9, .int 0)] := lv_sub hl [1, 2, 3, 4, 5, 6, 7, 8, 0] rfl
              refine lv_iload C.1 C.2.1 dX12_perform_135 (lv_at hl 6 rfl) ?_
              refine lv_if_eq (tgt := 147) C.1 C.2.1 dX12_perform_137 (by decide) (fun _ => ?_) (fun h => absurd (by decide) h)
              refine lv_iload C.1 C.2.1 dX12_perform_147 (lv_at hl 7 rfl) ?_
              refine lv_if_eq (tgt := 167) C.1 C.2.1 dX12_perform_149 (by decide) (fun _ => ?_) (fun h => absurd (by decide) h)
              refine lv_iload C.1 C.2.1 dX12_perform_167 (lv_at hl 8 rfl) ?_
              refine lv_if_ne (tgt := 176) C.1 C.2.1 dX12_perform_169 (by decide) (fun h => absurd h (by decide)) (fun _ => ?_)
              refine lv_aload_n C.1 C.2.1 dX12_perform_172 rfl (lv_at hl 0 rfl) ?_
              refine g_Vv (As := []) (rest := []) C hP hD hS hA (T_X12_work l D K Z Y ad t hok (show gdA (t.1 0 16) (t.1 0 17) (t.1 0 18) (t.2.2.1 3) from hs0)) hE hZ (uwV m_61_10 m_61_11 m_61_12 m_1_5 m_61_13) (hdV 0 (by decide +kernel) rfl) ⟨Nat.le_of_ble_eq_true rfl, Nat.le_of_ble_eq_true rfl⟩ rfl rfl (ci := 11) (q0 := 0) rfl rfl rfl hl.1 (Nat.le_of_ble_eq_true rfl) dX12_perform_173 ⟨Nat.le_of_ble_eq_true rfl, Nat.le_of_ble_eq_true rfl⟩ (fun t_290 H locs hw hP hD hS => ?_)
              obtain ⟨hok, f_292⟩ := hw
              have hfr : frA [(0, 5), (0, 6), (0, 7), (0, 9), (0, 10), (0, 30), (0, 35), (0, 91)] [(0, 8)] [2, 3, 5, 7, 8, 9, 10, 11, 12, 13, 14] [4, 6] t t_290 := frA_tr hfr f_292 rfl
              have h_293 : (t_290.1 0 7).toInt = (t.1 0 7).toInt := ti_eq (f_292.1 0 7 rfl)
              have h_294 : (t_290.1 0 10).toInt = (t.1 0 10).toInt := ti_eq (f_292.1 0 10 rfl)
              have h_295 : (t_290.1 0 15).toInt = (t.1 0 15).toInt := ti_eq (f_292.1 0 15 rfl)
              have h_296 : (t_290.1 0 16).toInt = (t.1 0 16).toInt := ti_eq (f_292.1 0 16 rfl)
              have h_297 : (t_290.2.1 0 8).toInt = (t.2.1 0 8).toInt := tl_eq (f_292.2.1 0 8 rfl)
              have h_298 : (t_290.1 0 9).toInt = (t.1 0 9).toInt := ti_eq (f_292.1 0 9 rfl)
              have h_299 : (t_290.1 0 12).toInt = (t.1 0 12).toInt := ti_eq (f_292.1 0 12 rfl)
              have h_300 : (t_290.2.1 0 13).toInt = (t.2.1 0 13).toInt := tl_eq (f_292.2.1 0 13 rfl)
              have h_301 : (t_290.1 0 17).toInt = (t.1 0 17).toInt := ti_eq (f_292.1 0 17 rfl)
              have h_302 : (t_290.1 0 18).toInt = (t.1 0 18).toInt := ti_eq (f_292.1 0 18 rfl)
              have h_303 : (t_290.1 0 35).toInt = (t.1 0 35).toInt := ti_eq (f_292.1 0 35 rfl)
              have h_304 : (t_290.1 0 36).toInt = (t.1 0 36).toInt := ti_eq (f_292.1 0 36 rfl)
              have e_305 : t_290.2.2.2 4 = t.2.2.2 4 := f_292.2.2.2 4 rfl
              have e_306 : t_290.2.2.1 9 = t.2.2.1 9 := f_292.2.2.1 9 rfl
              have h_307 : (0 : Int) ≤ (t_290.1 0 9).toInt ∧ (t_290.1 0 9).toInt ≤ 10 := hok.1 0 9
              have h_308 : (0 : Int) ≤ (t_290.1 0 12).toInt ∧ (t_290.1 0 12).toInt ≤ 1 := hok.1 0 12
              have h_309 : (0 : Int) ≤ (t_290.1 0 17).toInt ∧ (t_290.1 0 17).toInt ≤ 63 := hok.1 0 17
              have h_310 : (0 : Int) ≤ (t_290.1 0 35).toInt ∧ (t_290.1 0 35).toInt ≤ 1700 := hok.1 0 35
              have h_311 : (0 : Int) ≤ (t_290.1 0 36).toInt ∧ (t_290.1 0 36).toInt ≤ 1700 := hok.1 0 36
              exact L_176 t_290 r_256 (t.1 0 7) 0 (t.1 0 15) 0 0 0 0 _ _ _ hok hfr ⟨by decide, by decide⟩ ⟨by decide, by decide⟩ ⟨by decide, by decide⟩ ⟨by decide, by decide⟩ ⟨by decide, by decide⟩ (show (t.1 0 12).toInt = 1 → 1 ≤ r_256.toInt ∧ (t.2.1 0 8).toInt + r_256.toInt ≤ (t.2.1 0 13).toInt from by omega) (show (t_290.2.1 0 8).toInt = (t.2.1 0 8).toInt from by omega) hP hD hS (lv_sub hl [0, 1, 2, 3, 4, 5, 6, 7, 8] rfl)
            · replace c_289 : (t.1 0 16).toInt = 5 := i_eq c_289
              refine lv_aload_n C.1 C.2.1 dX12_perform_120 rfl (lv_at hl 0 rfl) ?_
              refine k_get (v := .int (t.1 0 17)) C hP 0 rfl rfl inlX12 17 (by decide) m_57_4 rfl dX12_perform_121 ?_
              refine lv_iconst (v := 3) C.1 C.2.1 dX12_perform_124 (by decide) ?_
              refine lv_icmp_ne (tgt := 132) C.1 C.2.1 dX12_perform_125 (by decide) (fun c_312 => ?_) (fun c_312 => ?_)
              · replace c_312 : ¬ (t.1 0 17).toInt = 3 := i_ne c_312
                refine lv_iconst (v := 0) C.1 C.2.1 dX12_perform_132 (by decide) ?_
                refine lv_istore (lv' := [(9, .int 0), (0, .ref (ad 0)), (1, .long r_256), (3, .int (t.1 0 7)), (4, .int 0), (5, .int (t.1 0 15)), (6, .int 0), (7, .int 0), (8, .int 0)]) C.1 C.2.1 dX12_perform_133 hl (by decide) rfl (fun ls hl => ?_)
                have hl : lv_has ls 10 [(0, .ref (ad 0)), (1, .long r_256), (3, .int (t.1 0 7)), (4, .int 0), (5, .int (t.1 0 15)), (6, .int 0), (7, .int 0), (8, .int 0), (9, .int 0)] := lv_sub hl [1, 2, 3, 4, 5, 6, 7, 8, 0] rfl
                refine lv_iload C.1 C.2.1 dX12_perform_135 (lv_at hl 6 rfl) ?_
                refine lv_if_eq (tgt := 147) C.1 C.2.1 dX12_perform_137 (by decide) (fun _ => ?_) (fun h => absurd (by decide) h)
                refine lv_iload C.1 C.2.1 dX12_perform_147 (lv_at hl 7 rfl) ?_
                refine lv_if_eq (tgt := 167) C.1 C.2.1 dX12_perform_149 (by decide) (fun _ => ?_) (fun h => absurd (by decide) h)
                refine lv_iload C.1 C.2.1 dX12_perform_167 (lv_at hl 8 rfl) ?_
                refine lv_if_ne (tgt := 176) C.1 C.2.1 dX12_perform_169 (by decide) (fun h => absurd h (by decide)) (fun _ => ?_)
                refine lv_aload_n C.1 C.2.1 dX12_perform_172 rfl (lv_at hl 0 rfl) ?_
                refine g_Vv (As := []) (rest := []) C hP hD hS hA (T_X12_work l D K Z Y ad t hok (show gdA (t.1 0 16) (t.1 0 17) (t.1 0 18) (t.2.2.1 3) from hs0)) hE hZ (uwV m_61_10 m_61_11 m_61_12 m_1_5 m_61_13) (hdV 0 (by decide +kernel) rfl) ⟨Nat.le_of_ble_eq_true rfl, Nat.le_of_ble_eq_true rfl⟩ rfl rfl (ci := 11) (q0 := 0) rfl rfl rfl hl.1 (Nat.le_of_ble_eq_true rfl) dX12_perform_173 ⟨Nat.le_of_ble_eq_true rfl, Nat.le_of_ble_eq_true rfl⟩ (fun t_313 H locs hw hP hD hS => ?_)
                obtain ⟨hok, f_315⟩ := hw
                have hfr : frA [(0, 5), (0, 6), (0, 7), (0, 9), (0, 10), (0, 30), (0, 35), (0, 91)] [(0, 8)] [2, 3, 5, 7, 8, 9, 10, 11, 12, 13, 14] [4, 6] t t_313 := frA_tr hfr f_315 rfl
                have h_316 : (t_313.1 0 7).toInt = (t.1 0 7).toInt := ti_eq (f_315.1 0 7 rfl)
                have h_317 : (t_313.1 0 10).toInt = (t.1 0 10).toInt := ti_eq (f_315.1 0 10 rfl)
                have h_318 : (t_313.1 0 15).toInt = (t.1 0 15).toInt := ti_eq (f_315.1 0 15 rfl)
                have h_319 : (t_313.1 0 16).toInt = (t.1 0 16).toInt := ti_eq (f_315.1 0 16 rfl)
                have h_320 : (t_313.1 0 17).toInt = (t.1 0 17).toInt := ti_eq (f_315.1 0 17 rfl)
                have h_321 : (t_313.2.1 0 8).toInt = (t.2.1 0 8).toInt := tl_eq (f_315.2.1 0 8 rfl)
                have h_322 : (t_313.1 0 9).toInt = (t.1 0 9).toInt := ti_eq (f_315.1 0 9 rfl)
                have h_323 : (t_313.1 0 12).toInt = (t.1 0 12).toInt := ti_eq (f_315.1 0 12 rfl)
                have h_324 : (t_313.2.1 0 13).toInt = (t.2.1 0 13).toInt := tl_eq (f_315.2.1 0 13 rfl)
                have h_325 : (t_313.1 0 18).toInt = (t.1 0 18).toInt := ti_eq (f_315.1 0 18 rfl)
                have h_326 : (t_313.1 0 35).toInt = (t.1 0 35).toInt := ti_eq (f_315.1 0 35 rfl)
                have h_327 : (t_313.1 0 36).toInt = (t.1 0 36).toInt := ti_eq (f_315.1 0 36 rfl)
                have e_328 : t_313.2.2.2 4 = t.2.2.2 4 := f_315.2.2.2 4 rfl
                have e_329 : t_313.2.2.1 9 = t.2.2.1 9 := f_315.2.2.1 9 rfl
                have h_330 : (0 : Int) ≤ (t_313.1 0 9).toInt ∧ (t_313.1 0 9).toInt ≤ 10 := hok.1 0 9
                have h_331 : (0 : Int) ≤ (t_313.1 0 12).toInt ∧ (t_313.1 0 12).toInt ≤ 1 := hok.1 0 12
                have h_332 : (0 : Int) ≤ (t_313.1 0 35).toInt ∧ (t_313.1 0 35).toInt ≤ 1700 := hok.1 0 35
                have h_333 : (0 : Int) ≤ (t_313.1 0 36).toInt ∧ (t_313.1 0 36).toInt ≤ 1700 := hok.1 0 36
                exact L_176 t_313 r_256 (t.1 0 7) 0 (t.1 0 15) 0 0 0 0 _ _ _ hok hfr ⟨by decide, by decide⟩ ⟨by decide, by decide⟩ ⟨by decide, by decide⟩ ⟨by decide, by decide⟩ ⟨by decide, by decide⟩ (show (t.1 0 12).toInt = 1 → 1 ≤ r_256.toInt ∧ (t.2.1 0 8).toInt + r_256.toInt ≤ (t.2.1 0 13).toInt from by omega) (show (t_313.2.1 0 8).toInt = (t.2.1 0 8).toInt from by omega) hP hD hS (lv_sub hl [0, 1, 2, 3, 4, 5, 6, 7, 8] rfl)
              · replace c_312 : (t.1 0 17).toInt = 3 := i_eq c_312
                refine lv_iconst (v := 1) C.1 C.2.1 dX12_perform_128 (by decide) ?_
                refine lv_goto (tgt := 133) C.1 C.2.1 dX12_perform_129 (by decide) ?_
                refine lv_istore (lv' := [(9, .int 1), (0, .ref (ad 0)), (1, .long r_256), (3, .int (t.1 0 7)), (4, .int 0), (5, .int (t.1 0 15)), (6, .int 0), (7, .int 0), (8, .int 0)]) C.1 C.2.1 dX12_perform_133 hl (by decide) rfl (fun ls hl => ?_)
                have hl : lv_has ls 10 [(0, .ref (ad 0)), (1, .long r_256), (3, .int (t.1 0 7)), (4, .int 0), (5, .int (t.1 0 15)), (6, .int 0), (7, .int 0), (8, .int 0), (9, .int 1)] := lv_sub hl [1, 2, 3, 4, 5, 6, 7, 8, 0] rfl
                refine lv_iload C.1 C.2.1 dX12_perform_135 (lv_at hl 6 rfl) ?_
                refine lv_if_eq (tgt := 147) C.1 C.2.1 dX12_perform_137 (by decide) (fun _ => ?_) (fun h => absurd (by decide) h)
                refine lv_iload C.1 C.2.1 dX12_perform_147 (lv_at hl 7 rfl) ?_
                refine lv_if_eq (tgt := 167) C.1 C.2.1 dX12_perform_149 (by decide) (fun _ => ?_) (fun h => absurd (by decide) h)
                refine lv_iload C.1 C.2.1 dX12_perform_167 (lv_at hl 8 rfl) ?_
                refine lv_if_ne (tgt := 176) C.1 C.2.1 dX12_perform_169 (by decide) (fun _ => ?_) (fun h => absurd h (by decide))
                exact L_176 t r_256 (t.1 0 7) 0 (t.1 0 15) 0 0 0 1 _ _ _ hok hfr ⟨by decide, by decide⟩ ⟨by decide, by decide⟩ ⟨by decide, by decide⟩ ⟨by decide, by decide⟩ ⟨by decide, by decide⟩ (show (t.1 0 12).toInt = 1 → 1 ≤ r_256.toInt ∧ (t.2.1 0 8).toInt + r_256.toInt ≤ (t.2.1 0 13).toInt from by omega) (show (t.2.1 0 8).toInt = (t.2.1 0 8).toInt from by omega) hP hD hS (lv_sub hl [0, 1, 2, 3, 4, 5, 6, 7, 8] rfl)
          · replace c_288 : 34 < (t.1 0 16).toInt := i_nle c_288
            refine lv_aload_n C.1 C.2.1 dX12_perform_96 rfl (lv_at hl 0 rfl) ?_
            refine k_get (v := .int (t.1 0 16)) C hP 0 rfl rfl inlX12 16 (by decide) m_57_3 rfl dX12_perform_97 ?_
            refine lv_bipush (v := 38) C.1 C.2.1 dX12_perform_100 (by decide) ?_
            refine lv_icmp_ge (tgt := 109) C.1 C.2.1 dX12_perform_102 (by decide) (fun c_334 => False.elim (by have c_334 : 38 ≤ (t.1 0 16).toInt := i_le c_334; omega)) (fun c_334 => ?_)
            replace c_334 : (t.1 0 16).toInt < 38 := i_nle c_334
            refine lv_iconst (v := 1) C.1 C.2.1 dX12_perform_105 (by decide) ?_
            refine lv_goto (tgt := 110) C.1 C.2.1 dX12_perform_106 (by decide) ?_
            refine lv_istore (lv' := [(8, .int 1), (0, .ref (ad 0)), (1, .long r_256), (3, .int (t.1 0 7)), (4, .int 0), (5, .int (t.1 0 15)), (6, .int 0), (7, .int 0)]) C.1 C.2.1 dX12_perform_110 hl (by decide) rfl (fun ls hl => ?_)
            have hl : lv_has ls 10 [(0, .ref (ad 0)), (1, .long r_256), (3, .int (t.1 0 7)), (4, .int 0), (5, .int (t.1 0 15)), (6, .int 0), (7, .int 0), (8, .int 1)] := lv_sub hl [1, 2, 3, 4, 5, 6, 7, 0] rfl
            refine lv_aload_n C.1 C.2.1 dX12_perform_112 rfl (lv_at hl 0 rfl) ?_
            refine k_get (v := .int (t.1 0 16)) C hP 0 rfl rfl inlX12 16 (by decide) m_57_3 rfl dX12_perform_113 ?_
            refine lv_iconst (v := 5) C.1 C.2.1 dX12_perform_116 (by decide) ?_
            refine lv_icmp_ne (tgt := 132) C.1 C.2.1 dX12_perform_117 (by decide) (fun c_335 => ?_) (fun c_335 => False.elim (by have c_335 : (t.1 0 16).toInt = 5 := i_eq c_335; omega))
            replace c_335 : ¬ (t.1 0 16).toInt = 5 := i_ne c_335
            refine lv_iconst (v := 0) C.1 C.2.1 dX12_perform_132 (by decide) ?_
            refine lv_istore (lv' := [(9, .int 0), (0, .ref (ad 0)), (1, .long r_256), (3, .int (t.1 0 7)), (4, .int 0), (5, .int (t.1 0 15)), (6, .int 0), (7, .int 0), (8, .int 1)]) C.1 C.2.1 dX12_perform_133 hl (by decide) rfl (fun ls hl => ?_)
            have hl : lv_has ls 10 [(0, .ref (ad 0)), (1, .long r_256), (3, .int (t.1 0 7)), (4, .int 0), (5, .int (t.1 0 15)), (6, .int 0), (7, .int 0), (8, .int 1), (9, .int 0)] := lv_sub hl [1, 2, 3, 4, 5, 6, 7, 8, 0] rfl
            refine lv_iload C.1 C.2.1 dX12_perform_135 (lv_at hl 6 rfl) ?_
            refine lv_if_eq (tgt := 147) C.1 C.2.1 dX12_perform_137 (by decide) (fun _ => ?_) (fun h => absurd (by decide) h)
            refine lv_iload C.1 C.2.1 dX12_perform_147 (lv_at hl 7 rfl) ?_
            refine lv_if_eq (tgt := 167) C.1 C.2.1 dX12_perform_149 (by decide) (fun h => absurd h (by decide)) (fun _ => ?_)
            refine lv_aload_n C.1 C.2.1 dX12_perform_152 rfl (lv_at hl 0 rfl) ?_
            refine lv_aload_n C.1 C.2.1 dX12_perform_153 rfl (lv_at hl 0 rfl) ?_
            refine k_get (v := .int (t.1 0 16)) C hP 0 rfl rfl inlX12 16 (by decide) m_57_3 rfl dX12_perform_154 ?_
            refine lv_aload_n C.1 C.2.1 dX12_perform_157 rfl (lv_at hl 0 rfl) ?_
            refine k_get (v := .int (t.1 0 17)) C hP 0 rfl rfl inlX12 17 (by decide) m_57_4 rfl dX12_perform_158 ?_
            refine g_Vv (As := [.int (t.1 0 16), .int (t.1 0 17)]) (rest := []) C hP hD hS hA (T_X12_begins l D K Z Y ad t hok ((t.1 0 16)) (show (35 : Int) ≤ ((t.1 0 16) : Int32).toInt ∧ ((t.1 0 16) : Int32).toInt ≤ 37 from ⟨by omega, by omega⟩) ((t.1 0 17)) (show (0 : Int) ≤ ((t.1 0 17) : Int32).toInt ∧ ((t.1 0 17) : Int32).toInt ≤ 19 from ⟨by omega, by omega⟩) (show gdA (t.1 0 16) (t.1 0 17) (t.1 0 18) (t.2.2.1 3) from hs0) (show gdU (t.1 0 16) (t.1 0 17) (t.2.2.1 3) (t.2.2.1 9) (t.1 0 35) (t.1 0 36) from hs1) (show (t.1 0 12).toInt = 1 → (t.2.1 0 8).toInt + 1 ≤ (t.2.1 0 13).toInt ∧ (t.2.2.2 4 ((t.1 0 17) : Int32).toNatClampNeg).toInt + 1 ≤ (t.2.1 0 13).toInt from by omega)) hE hZ (uwV m_60_8 m_60_9 m_60_10 m_1_5 m_60_11) (hdV 2 (by decide +kernel) rfl) ⟨Nat.le_of_ble_eq_true rfl, Nat.le_of_ble_eq_true rfl⟩ rfl rfl (ci := 11) (q0 := 0) rfl rfl rfl hl.1 (Nat.le_of_ble_eq_true rfl) dX12_perform_161 ⟨Nat.le_of_ble_eq_true rfl, Nat.le_of_ble_eq_true rfl⟩ (fun t_336 H locs hw hP hD hS => ?_)
            obtain ⟨hok, f_338⟩ := hw
            have hfr : frA [(0, 5), (0, 6), (0, 7), (0, 9), (0, 10), (0, 30), (0, 35), (0, 91)] [(0, 8)] [2, 3, 5, 7, 8, 9, 10, 11, 12, 13, 14] [4, 6] t t_336 := frA_tr hfr f_338 rfl
            have h_339 : (t_336.1 0 7).toInt = (t.1 0 7).toInt := ti_eq (f_338.1 0 7 rfl)
            have h_340 : (t_336.1 0 10).toInt = (t.1 0 10).toInt := ti_eq (f_338.1 0 10 rfl)
            have h_341 : (t_336.1 0 15).toInt = (t.1 0 15).toInt := ti_eq (f_338.1 0 15 rfl)
            have h_342 : (t_336.1 0 16).toInt = (t.1 0 16).toInt := ti_eq (f_338.1 0 16 rfl)
            have h_343 : (t_336.1 0 17).toInt = (t.1 0 17).toInt := ti_eq (f_338.1 0 17 rfl)
            have h_344 : (t_336.2.1 0 8).toInt = (t.2.1 0 8).toInt := tl_eq (f_338.2.1 0 8 rfl)
            have h_345 : (t_336.1 0 9).toInt = (t.1 0 9).toInt := ti_eq (f_338.1 0 9 rfl)
            have h_346 : (t_336.1 0 12).toInt = (t.1 0 12).toInt := ti_eq (f_338.1 0 12 rfl)
            have h_347 : (t_336.2.1 0 13).toInt = (t.2.1 0 13).toInt := tl_eq (f_338.2.1 0 13 rfl)
            have h_348 : (t_336.1 0 18).toInt = (t.1 0 18).toInt := ti_eq (f_338.1 0 18 rfl)
            have h_349 : (t_336.1 0 36).toInt = (t.1 0 36).toInt := ti_eq (f_338.1 0 36 rfl)
            have e_350 : t_336.2.2.1 3 = t.2.2.1 3 := f_338.2.2.1 3 rfl
            have h_351 : (0 : Int) ≤ (t_336.1 0 9).toInt ∧ (t_336.1 0 9).toInt ≤ 10 := hok.1 0 9
            have h_352 : (0 : Int) ≤ (t_336.1 0 12).toInt ∧ (t_336.1 0 12).toInt ≤ 1 := hok.1 0 12
            have h_353 : (0 : Int) ≤ (t_336.1 0 35).toInt ∧ (t_336.1 0 35).toInt ≤ 1700 := hok.1 0 35
            have h_354 : (0 : Int) ≤ (t_336.1 0 36).toInt ∧ (t_336.1 0 36).toInt ≤ 1700 := hok.1 0 36
            refine lv_goto (tgt := 176) C.1 C.2.1 dX12_perform_164 (by decide) ?_
            exact L_176 t_336 r_256 (t.1 0 7) 0 (t.1 0 15) 0 0 1 0 _ _ _ hok hfr ⟨by decide, by decide⟩ ⟨by decide, by decide⟩ ⟨by decide, by decide⟩ ⟨by decide, by decide⟩ ⟨by decide, by decide⟩ (show (t.1 0 12).toInt = 1 → 1 ≤ r_256.toInt ∧ (t.2.1 0 8).toInt + r_256.toInt ≤ (t.2.1 0 13).toInt from by omega) (show (t_336.2.1 0 8).toInt = (t.2.1 0 8).toInt from by omega) hP hD hS (lv_sub hl [0, 1, 2, 3, 4, 5, 6, 7, 8] rfl)
        · replace c_287 : 37 < (t.1 0 16).toInt := i_nle c_287
          refine lv_aload_n C.1 C.2.1 dX12_perform_71 rfl (lv_at hl 0 rfl) ?_
          refine k_get (v := .int (t.1 0 16)) C hP 0 rfl rfl inlX12 16 (by decide) m_57_3 rfl dX12_perform_72 ?_
          refine lv_bipush (v := 48) C.1 C.2.1 dX12_perform_75 (by decide) ?_
          refine lv_icmp_ge (tgt := 84) C.1 C.2.1 dX12_perform_77 (by decide) (fun c_355 => ?_) (fun c_355 => ?_)
          · replace c_355 : 48 ≤ (t.1 0 16).toInt := i_le c_355
            refine lv_iconst (v := 0) C.1 C.2.1 dX12_perform_84 (by decide) ?_
            refine lv_istore (lv' := [(7, .int 0), (0, .ref (ad 0)), (1, .long r_256), (3, .int (t.1 0 7)), (4, .int 0), (5, .int (t.1 0 15)), (6, .int 0)]) C.1 C.2.1 dX12_perform_85 hl (by decide) rfl (fun ls hl => ?_)
            have hl : lv_has ls 10 [(0, .ref (ad 0)), (1, .long r_256), (3, .int (t.1 0 7)), (4, .int 0), (5, .int (t.1 0 15)), (6, .int 0), (7, .int 0)] := lv_sub hl [1, 2, 3, 4, 5, 6, 0] rfl
            refine lv_aload_n C.1 C.2.1 dX12_perform_87 rfl (lv_at hl 0 rfl) ?_
            refine k_get (v := .int (t.1 0 16)) C hP 0 rfl rfl inlX12 16 (by decide) m_57_3 rfl dX12_perform_88 ?_
            refine lv_bipush (v := 34) C.1 C.2.1 dX12_perform_91 (by decide) ?_
            refine lv_icmp_le (tgt := 109) C.1 C.2.1 dX12_perform_93 (by decide) (fun c_356 => False.elim (by have c_356 : (t.1 0 16).toInt ≤ 34 := i_le c_356; omega)) (fun c_356 => ?_)
            replace c_356 : 34 < (t.1 0 16).toInt := i_nle c_356
            refine lv_aload_n C.1 C.2.1 dX12_perform_96 rfl (lv_at hl 0 rfl) ?_
            refine k_get (v := .int (t.1 0 16)) C hP 0 rfl rfl inlX12 16 (by decide) m_57_3 rfl dX12_perform_97 ?_
            refine lv_bipush (v := 38) C.1 C.2.1 dX12_perform_100 (by decide) ?_
            refine lv_icmp_ge (tgt := 109) C.1 C.2.1 dX12_perform_102 (by decide) (fun c_357 => ?_) (fun c_357 => False.elim (by have c_357 : (t.1 0 16).toInt < 38 := i_nle c_357; omega))
            replace c_357 : 38 ≤ (t.1 0 16).toInt := i_le c_357
            refine lv_iconst (v := 0) C.1 C.2.1 dX12_perform_109 (by decide) ?_
            refine lv_istore (lv' := [(8, .int 0), (0, .ref (ad 0)), (1, .long r_256), (3, .int (t.1 0 7)), (4, .int 0), (5, .int (t.1 0 15)), (6, .int 0), (7, .int 0)]) C.1 C.2.1 dX12_perform_110 hl (by decide) rfl (fun ls hl => ?_)
            have hl : lv_has ls 10 [(0, .ref (ad 0)), (1, .long r_256), (3, .int (t.1 0 7)), (4, .int 0), (5, .int (t.1 0 15)), (6, .int 0), (7, .int 0), (8, .int 0)] := lv_sub hl [1, 2, 3, 4, 5, 6, 7, 0] rfl
            refine lv_aload_n C.1 C.2.1 dX12_perform_112 rfl (lv_at hl 0 rfl) ?_
            refine k_get (v := .int (t.1 0 16)) C hP 0 rfl rfl inlX12 16 (by decide) m_57_3 rfl dX12_perform_113 ?_
            refine lv_iconst (v := 5) C.1 C.2.1 dX12_perform_116 (by decide) ?_
            refine lv_icmp_ne (tgt := 132) C.1 C.2.1 dX12_perform_117 (by decide) (fun c_358 => ?_) (fun c_358 => False.elim (by have c_358 : (t.1 0 16).toInt = 5 := i_eq c_358; omega))
            replace c_358 : ¬ (t.1 0 16).toInt = 5 := i_ne c_358
            refine lv_iconst (v := 0) C.1 C.2.1 dX12_perform_132 (by decide) ?_
            refine lv_istore (lv' := [(9, .int 0), (0, .ref (ad 0)), (1, .long r_256), (3, .int (t.1 0 7)), (4, .int 0), (5, .int (t.1 0 15)), (6, .int 0), (7, .int 0), (8, .int 0)]) C.1 C.2.1 dX12_perform_133 hl (by decide) rfl (fun ls hl => ?_)
            have hl : lv_has ls 10 [(0, .ref (ad 0)), (1, .long r_256), (3, .int (t.1 0 7)), (4, .int 0), (5, .int (t.1 0 15)), (6, .int 0), (7, .int 0), (8, .int 0), (9, .int 0)] := lv_sub hl [1, 2, 3, 4, 5, 6, 7, 8, 0] rfl
            refine lv_iload C.1 C.2.1 dX12_perform_135 (lv_at hl 6 rfl) ?_
            refine lv_if_eq (tgt := 147) C.1 C.2.1 dX12_perform_137 (by decide) (fun _ => ?_) (fun h => absurd (by decide) h)
            refine lv_iload C.1 C.2.1 dX12_perform_147 (lv_at hl 7 rfl) ?_
            refine lv_if_eq (tgt := 167) C.1 C.2.1 dX12_perform_149 (by decide) (fun _ => ?_) (fun h => absurd (by decide) h)
            refine lv_iload C.1 C.2.1 dX12_perform_167 (lv_at hl 8 rfl) ?_
            refine lv_if_ne (tgt := 176) C.1 C.2.1 dX12_perform_169 (by decide) (fun h => absurd h (by decide)) (fun _ => ?_)
            refine lv_aload_n C.1 C.2.1 dX12_perform_172 rfl (lv_at hl 0 rfl) ?_
            refine g_Vv (As := []) (rest := []) C hP hD hS hA (T_X12_work l D K Z Y ad t hok (show gdA (t.1 0 16) (t.1 0 17) (t.1 0 18) (t.2.2.1 3) from hs0)) hE hZ (uwV m_61_10 m_61_11 m_61_12 m_1_5 m_61_13) (hdV 0 (by decide +kernel) rfl) ⟨Nat.le_of_ble_eq_true rfl, Nat.le_of_ble_eq_true rfl⟩ rfl rfl (ci := 11) (q0 := 0) rfl rfl rfl hl.1 (Nat.le_of_ble_eq_true rfl) dX12_perform_173 ⟨Nat.le_of_ble_eq_true rfl, Nat.le_of_ble_eq_true rfl⟩ (fun t_359 H locs hw hP hD hS => ?_)
            obtain ⟨hok, f_361⟩ := hw
            have hfr : frA [(0, 5), (0, 6), (0, 7), (0, 9), (0, 10), (0, 30), (0, 35), (0, 91)] [(0, 8)] [2, 3, 5, 7, 8, 9, 10, 11, 12, 13, 14] [4, 6] t t_359 := frA_tr hfr f_361 rfl
            have h_362 : (t_359.1 0 7).toInt = (t.1 0 7).toInt := ti_eq (f_361.1 0 7 rfl)
            have h_363 : (t_359.1 0 10).toInt = (t.1 0 10).toInt := ti_eq (f_361.1 0 10 rfl)
            have h_364 : (t_359.1 0 15).toInt = (t.1 0 15).toInt := ti_eq (f_361.1 0 15 rfl)
            have h_365 : (t_359.1 0 16).toInt = (t.1 0 16).toInt := ti_eq (f_361.1 0 16 rfl)
            have h_366 : (t_359.2.1 0 8).toInt = (t.2.1 0 8).toInt := tl_eq (f_361.2.1 0 8 rfl)
            have h_367 : (t_359.1 0 9).toInt = (t.1 0 9).toInt := ti_eq (f_361.1 0 9 rfl)
            have h_368 : (t_359.1 0 12).toInt = (t.1 0 12).toInt := ti_eq (f_361.1 0 12 rfl)
            have h_369 : (t_359.2.1 0 13).toInt = (t.2.1 0 13).toInt := tl_eq (f_361.2.1 0 13 rfl)
            have h_370 : (t_359.1 0 17).toInt = (t.1 0 17).toInt := ti_eq (f_361.1 0 17 rfl)
            have h_371 : (t_359.1 0 18).toInt = (t.1 0 18).toInt := ti_eq (f_361.1 0 18 rfl)
            have h_372 : (t_359.1 0 35).toInt = (t.1 0 35).toInt := ti_eq (f_361.1 0 35 rfl)
            have h_373 : (t_359.1 0 36).toInt = (t.1 0 36).toInt := ti_eq (f_361.1 0 36 rfl)
            have e_374 : t_359.2.2.2 4 = t.2.2.2 4 := f_361.2.2.2 4 rfl
            have e_375 : t_359.2.2.1 9 = t.2.2.1 9 := f_361.2.2.1 9 rfl
            have h_376 : (0 : Int) ≤ (t_359.1 0 9).toInt ∧ (t_359.1 0 9).toInt ≤ 10 := hok.1 0 9
            have h_377 : (0 : Int) ≤ (t_359.1 0 12).toInt ∧ (t_359.1 0 12).toInt ≤ 1 := hok.1 0 12
            have h_378 : (0 : Int) ≤ (t_359.1 0 17).toInt ∧ (t_359.1 0 17).toInt ≤ 63 := hok.1 0 17
            have h_379 : (0 : Int) ≤ (t_359.1 0 35).toInt ∧ (t_359.1 0 35).toInt ≤ 1700 := hok.1 0 35
            have h_380 : (0 : Int) ≤ (t_359.1 0 36).toInt ∧ (t_359.1 0 36).toInt ≤ 1700 := hok.1 0 36
            exact L_176 t_359 r_256 (t.1 0 7) 0 (t.1 0 15) 0 0 0 0 _ _ _ hok hfr ⟨by decide, by decide⟩ ⟨by decide, by decide⟩ ⟨by decide, by decide⟩ ⟨by decide, by decide⟩ ⟨by decide, by decide⟩ (show (t.1 0 12).toInt = 1 → 1 ≤ r_256.toInt ∧ (t.2.1 0 8).toInt + r_256.toInt ≤ (t.2.1 0 13).toInt from by omega) (show (t_359.2.1 0 8).toInt = (t.2.1 0 8).toInt from by omega) hP hD hS (lv_sub hl [0, 1, 2, 3, 4, 5, 6, 7, 8] rfl)
          · replace c_355 : (t.1 0 16).toInt < 48 := i_nle c_355
            refine lv_iconst (v := 1) C.1 C.2.1 dX12_perform_80 (by decide) ?_
            refine lv_goto (tgt := 85) C.1 C.2.1 dX12_perform_81 (by decide) ?_
            refine lv_istore (lv' := [(7, .int 1), (0, .ref (ad 0)), (1, .long r_256), (3, .int (t.1 0 7)), (4, .int 0), (5, .int (t.1 0 15)), (6, .int 0)]) C.1 C.2.1 dX12_perform_85 hl (by decide) rfl (fun ls hl => ?_)
            have hl : lv_has ls 10 [(0, .ref (ad 0)), (1, .long r_256), (3, .int (t.1 0 7)), (4, .int 0), (5, .int (t.1 0 15)), (6, .int 0), (7, .int 1)] := lv_sub hl [1, 2, 3, 4, 5, 6, 0] rfl
            refine lv_aload_n C.1 C.2.1 dX12_perform_87 rfl (lv_at hl 0 rfl) ?_
            refine k_get (v := .int (t.1 0 16)) C hP 0 rfl rfl inlX12 16 (by decide) m_57_3 rfl dX12_perform_88 ?_
            refine lv_bipush (v := 34) C.1 C.2.1 dX12_perform_91 (by decide) ?_
            refine lv_icmp_le (tgt := 109) C.1 C.2.1 dX12_perform_93 (by decide) (fun c_381 => False.elim (by have c_381 : (t.1 0 16).toInt ≤ 34 := i_le c_381; omega)) (fun c_381 => ?_)
            replace c_381 : 34 < (t.1 0 16).toInt := i_nle c_381
            refine lv_aload_n C.1 C.2.1 dX12_perform_96 rfl (lv_at hl 0 rfl) ?_
            refine k_get (v := .int (t.1 0 16)) C hP 0 rfl rfl inlX12 16 (by decide) m_57_3 rfl dX12_perform_97 ?_
            refine lv_bipush (v := 38) C.1 C.2.1 dX12_perform_100 (by decide) ?_
            refine lv_icmp_ge (tgt := 109) C.1 C.2.1 dX12_perform_102 (by decide) (fun c_382 => ?_) (fun c_382 => False.elim (by have c_382 : (t.1 0 16).toInt < 38 := i_nle c_382; omega))
            replace c_382 : 38 ≤ (t.1 0 16).toInt := i_le c_382
            refine lv_iconst (v := 0) C.1 C.2.1 dX12_perform_109 (by decide) ?_
            refine lv_istore (lv' := [(8, .int 0), (0, .ref (ad 0)), (1, .long r_256), (3, .int (t.1 0 7)), (4, .int 0), (5, .int (t.1 0 15)), (6, .int 0), (7, .int 1)]) C.1 C.2.1 dX12_perform_110 hl (by decide) rfl (fun ls hl => ?_)
            have hl : lv_has ls 10 [(0, .ref (ad 0)), (1, .long r_256), (3, .int (t.1 0 7)), (4, .int 0), (5, .int (t.1 0 15)), (6, .int 0), (7, .int 1), (8, .int 0)] := lv_sub hl [1, 2, 3, 4, 5, 6, 7, 0] rfl
            refine lv_aload_n C.1 C.2.1 dX12_perform_112 rfl (lv_at hl 0 rfl) ?_
            refine k_get (v := .int (t.1 0 16)) C hP 0 rfl rfl inlX12 16 (by decide) m_57_3 rfl dX12_perform_113 ?_
            refine lv_iconst (v := 5) C.1 C.2.1 dX12_perform_116 (by decide) ?_
            refine lv_icmp_ne (tgt := 132) C.1 C.2.1 dX12_perform_117 (by decide) (fun c_383 => ?_) (fun c_383 => False.elim (by have c_383 : (t.1 0 16).toInt = 5 := i_eq c_383; omega))
            replace c_383 : ¬ (t.1 0 16).toInt = 5 := i_ne c_383
            refine lv_iconst (v := 0) C.1 C.2.1 dX12_perform_132 (by decide) ?_
            refine lv_istore (lv' := [(9, .int 0), (0, .ref (ad 0)), (1, .long r_256), (3, .int (t.1 0 7)), (4, .int 0), (5, .int (t.1 0 15)), (6, .int 0), (7, .int 1), (8, .int 0)]) C.1 C.2.1 dX12_perform_133 hl (by decide) rfl (fun ls hl => ?_)
            have hl : lv_has ls 10 [(0, .ref (ad 0)), (1, .long r_256), (3, .int (t.1 0 7)), (4, .int 0), (5, .int (t.1 0 15)), (6, .int 0), (7, .int 1), (8, .int 0), (9, .int 0)] := lv_sub hl [1, 2, 3, 4, 5, 6, 7, 8, 0] rfl
            refine lv_iload C.1 C.2.1 dX12_perform_135 (lv_at hl 6 rfl) ?_
            refine lv_if_eq (tgt := 147) C.1 C.2.1 dX12_perform_137 (by decide) (fun h => absurd h (by decide)) (fun _ => ?_)
            refine lv_aload_n C.1 C.2.1 dX12_perform_140 rfl (lv_at hl 0 rfl) ?_
            refine g_Vv (As := []) (rest := []) C hP hD hS hA (T_X12_jump l D K Z Y ad t hok (show (t.1 0 16).toInt = 34 ∨ (t.1 0 16).toInt = 38 → (t.1 0 17).toInt ≤ 19 from by omega)) hE hZ (uwV m_60_4 m_60_5 m_60_6 m_1_5 m_60_7) (hdV 0 (by decide +kernel) rfl) ⟨Nat.le_of_ble_eq_true rfl, Nat.le_of_ble_eq_true rfl⟩ rfl rfl (ci := 11) (q0 := 0) rfl rfl rfl hl.1 (Nat.le_of_ble_eq_true rfl) dX12_perform_141 ⟨Nat.le_of_ble_eq_true rfl, Nat.le_of_ble_eq_true rfl⟩ (fun t_384 H locs hw hP hD hS => ?_)
            obtain ⟨hok, f_386⟩ := hw
            have hfr : frA [(0, 5), (0, 6), (0, 7), (0, 9), (0, 10), (0, 30), (0, 35), (0, 91)] [(0, 8)] [2, 3, 5, 7, 8, 9, 10, 11, 12, 13, 14] [4, 6] t t_384 := frA_tr hfr f_386 rfl
            have h_387 : (t_384.1 0 10).toInt = (t.1 0 10).toInt := ti_eq (f_386.1 0 10 rfl)
            have h_388 : (t_384.1 0 15).toInt = (t.1 0 15).toInt := ti_eq (f_386.1 0 15 rfl)
            have h_389 : (t_384.1 0 16).toInt = (t.1 0 16).toInt := ti_eq (f_386.1 0 16 rfl)
            have h_390 : (t_384.2.1 0 8).toInt = (t.2.1 0 8).toInt := tl_eq (f_386.2.1 0 8 rfl)
            have h_391 : (t_384.1 0 9).toInt = (t.1 0 9).toInt := ti_eq (f_386.1 0 9 rfl)
            have h_392 : (t_384.1 0 12).toInt = (t.1 0 12).toInt := ti_eq (f_386.1 0 12 rfl)
            have h_393 : (t_384.2.1 0 13).toInt = (t.2.1 0 13).toInt := tl_eq (f_386.2.1 0 13 rfl)
            have h_394 : (t_384.1 0 17).toInt = (t.1 0 17).toInt := ti_eq (f_386.1 0 17 rfl)
            have h_395 : (t_384.1 0 18).toInt = (t.1 0 18).toInt := ti_eq (f_386.1 0 18 rfl)
            have h_396 : (t_384.1 0 35).toInt = (t.1 0 35).toInt := ti_eq (f_386.1 0 35 rfl)
            have h_397 : (t_384.1 0 36).toInt = (t.1 0 36).toInt := ti_eq (f_386.1 0 36 rfl)
            have e_398 : t_384.2.2.2 4 = t.2.2.2 4 := f_386.2.2.2 4 rfl
            have e_399 : t_384.2.2.1 9 = t.2.2.1 9 := f_386.2.2.1 9 rfl
            have h_400 : (0 : Int) ≤ (t_384.1 0 9).toInt ∧ (t_384.1 0 9).toInt ≤ 10 := hok.1 0 9
            have h_401 : (0 : Int) ≤ (t_384.1 0 12).toInt ∧ (t_384.1 0 12).toInt ≤ 1 := hok.1 0 12
            have h_402 : (0 : Int) ≤ (t_384.1 0 17).toInt ∧ (t_384.1 0 17).toInt ≤ 63 := hok.1 0 17
            have h_403 : (0 : Int) ≤ (t_384.1 0 35).toInt ∧ (t_384.1 0 35).toInt ≤ 1700 := hok.1 0 35
            have h_404 : (0 : Int) ≤ (t_384.1 0 36).toInt ∧ (t_384.1 0 36).toInt ≤ 1700 := hok.1 0 36
            refine lv_goto (tgt := 176) C.1 C.2.1 dX12_perform_144 (by decide) ?_
            exact L_176 t_384 r_256 (t.1 0 7) 0 (t.1 0 15) 0 1 0 0 _ _ _ hok hfr ⟨by decide, by decide⟩ ⟨by decide, by decide⟩ ⟨by decide, by decide⟩ ⟨by decide, by decide⟩ ⟨by decide, by decide⟩ (show (t.1 0 12).toInt = 1 → 1 ≤ r_256.toInt ∧ (t.2.1 0 8).toInt + r_256.toInt ≤ (t.2.1 0 13).toInt from by omega) (show (t_384.2.1 0 8).toInt = (t.2.1 0 8).toInt from by omega) hP hD hS (lv_sub hl [0, 1, 2, 3, 4, 5, 6, 7, 8] rfl)
    · replace c_262 : (t.1 0 16).toInt = 5 := i_eq c_262
      refine lv_aload_n C.1 C.2.1 dX12_perform_38 rfl (lv_at hl 0 rfl) ?_
      refine k_get (v := .int (t.1 0 17)) C hP 0 rfl rfl inlX12 17 (by decide) m_57_4 rfl dX12_perform_39 ?_
      refine lv_iconst (v := 2) C.1 C.2.1 dX12_perform_42 (by decide) ?_
      refine lv_icmp_ne (tgt := 50) C.1 C.2.1 dX12_perform_43 (by decide) (fun c_405 => ?_) (fun c_405 => ?_)
      · replace c_405 : ¬ (t.1 0 17).toInt = 2 := i_ne c_405
        refine lv_iconst (v := 0) C.1 C.2.1 dX12_perform_50 (by decide) ?_
        refine lv_istore (lv' := [(6, .int 0), (0, .ref (ad 0)), (1, .long r_256), (3, .int (t.1 0 7)), (4, .int 0), (5, .int (t.1 0 15))]) C.1 C.2.1 dX12_perform_51 hl (by decide) rfl (fun ls hl => ?_)
        have hl : lv_has ls 10 [(0, .ref (ad 0)), (1, .long r_256), (3, .int (t.1 0 7)), (4, .int 0), (5, .int (t.1 0 15)), (6, .int 0)] := lv_sub hl [1, 2, 3, 4, 5, 0] rfl
        refine lv_aload_n C.1 C.2.1 dX12_perform_53 rfl (lv_at hl 0 rfl) ?_
        refine k_get (v := .int (t.1 0 16)) C hP 0 rfl rfl inlX12 16 (by decide) m_57_3 rfl dX12_perform_54 ?_
        refine lv_bipush (v := 34) C.1 C.2.1 dX12_perform_57 (by decide) ?_
        refine lv_icmp_eq (tgt := 80) C.1 C.2.1 dX12_perform_59 (by decide) (fun c_406 => False.elim (by have c_406 : (t.1 0 16).toInt = 34 := i_eq c_406; omega)) (fun c_406 => ?_)
        replace c_406 : ¬ (t.1 0 16).toInt = 34 := i_ne c_406
        refine lv_aload_n C.1 C.2.1 dX12_perform_62 rfl (lv_at hl 0 rfl) ?_
        refine k_get (v := .int (t.1 0 16)) C hP 0 rfl rfl inlX12 16 (by decide) m_57_3 rfl dX12_perform_63 ?_
        refine lv_bipush (v := 37) C.1 C.2.1 dX12_perform_66 (by decide) ?_
        refine lv_icmp_le (tgt := 84) C.1 C.2.1 dX12_perform_68 (by decide) (fun c_407 => ?_) (fun c_407 => False.elim (by have c_407 : 37 < (t.1 0 16).toInt := i_nle c_407; omega))
        replace c_407 : (t.1 0 16).toInt ≤ 37 := i_le c_407
        refine lv_iconst (v := 0) C.1 C.2.1 dX12_perform_84 (by decide) ?_
        refine lv_istore (lv' := [(7, .int 0), (0, .ref (ad 0)), (1, .long r_256), (3, .int (t.1 0 7)), (4, .int 0), (5, .int (t.1 0 15)), (6, .int 0)]) C.1 C.2.1 dX12_perform_85 hl (by decide) rfl (fun ls hl => ?_)
        have hl : lv_has ls 10 [(0, .ref (ad 0)), (1, .long r_256), (3, .int (t.1 0 7)), (4, .int 0), (5, .int (t.1 0 15)), (6, .int 0), (7, .int 0)] := lv_sub hl [1, 2, 3, 4, 5, 6, 0] rfl
        refine lv_aload_n C.1 C.2.1 dX12_perform_87 rfl (lv_at hl 0 rfl) ?_
        refine k_get (v := .int (t.1 0 16)) C hP 0 rfl rfl inlX12 16 (by decide) m_57_3 rfl dX12_perform_88 ?_
        refine lv_bipush (v := 34) C.1 C.2.1 dX12_perform_91 (by decide) ?_
        refine lv_icmp_le (tgt := 109) C.1 C.2.1 dX12_perform_93 (by decide) (fun c_408 => ?_) (fun c_408 => False.elim (by have c_408 : 34 < (t.1 0 16).toInt := i_nle c_408; omega))
        replace c_408 : (t.1 0 16).toInt ≤ 34 := i_le c_408
        refine lv_iconst (v := 0) C.1 C.2.1 dX12_perform_109 (by decide) ?_
        refine lv_istore (lv' := [(8, .int 0), (0, .ref (ad 0)), (1, .long r_256), (3, .int (t.1 0 7)), (4, .int 0), (5, .int (t.1 0 15)), (6, .int 0), (7, .int 0)]) C.1 C.2.1 dX12_perform_110 hl (by decide) rfl (fun ls hl => ?_)
        have hl : lv_has ls 10 [(0, .ref (ad 0)), (1, .long r_256), (3, .int (t.1 0 7)), (4, .int 0), (5, .int (t.1 0 15)), (6, .int 0), (7, .int 0), (8, .int 0)] := lv_sub hl [1, 2, 3, 4, 5, 6, 7, 0] rfl
        refine lv_aload_n C.1 C.2.1 dX12_perform_112 rfl (lv_at hl 0 rfl) ?_
        refine k_get (v := .int (t.1 0 16)) C hP 0 rfl rfl inlX12 16 (by decide) m_57_3 rfl dX12_perform_113 ?_
        refine lv_iconst (v := 5) C.1 C.2.1 dX12_perform_116 (by decide) ?_
        refine lv_icmp_ne (tgt := 132) C.1 C.2.1 dX12_perform_117 (by decide) (fun c_409 => False.elim (by have c_409 : ¬ (t.1 0 16).toInt = 5 := i_ne c_409; omega)) (fun c_409 => ?_)
        replace c_409 : (t.1 0 16).toInt = 5 := i_eq c_409
        refine lv_aload_n C.1 C.2.1 dX12_perform_120 rfl (lv_at hl 0 rfl) ?_
        refine k_get (v := .int (t.1 0 17)) C hP 0 rfl rfl inlX12 17 (by decide) m_57_4 rfl dX12_perform_121 ?_
        refine lv_iconst (v := 3) C.1 C.2.1 dX12_perform_124 (by decide) ?_
        refine lv_icmp_ne (tgt := 132) C.1 C.2.1 dX12_perform_125 (by decide) (fun c_410 => ?_) (fun c_410 => ?_)
        · replace c_410 : ¬ (t.1 0 17).toInt = 3 := i_ne c_410
          refine lv_iconst (v := 0) C.1 C.2.1 dX12_perform_132 (by decide) ?_
          refine lv_istore (lv' := [(9, .int 0), (0, .ref (ad 0)), (1, .long r_256), (3, .int (t.1 0 7)), (4, .int 0), (5, .int (t.1 0 15)), (6, .int 0), (7, .int 0), (8, .int 0)]) C.1 C.2.1 dX12_perform_133 hl (by decide) rfl (fun ls hl => ?_)
          have hl : lv_has ls 10 [(0, .ref (ad 0)), (1, .long r_256), (3, .int (t.1 0 7)), (4, .int 0), (5, .int (t.1 0 15)), (6, .int 0), (7, .int 0), (8, .int 0), (9, .int 0)] := lv_sub hl [1, 2, 3, 4, 5, 6, 7, 8, 0] rfl
          refine lv_iload C.1 C.2.1 dX12_perform_135 (lv_at hl 6 rfl) ?_
          refine lv_if_eq (tgt := 147) C.1 C.2.1 dX12_perform_137 (by decide) (fun _ => ?_) (fun h => absurd (by decide) h)
          refine lv_iload C.1 C.2.1 dX12_perform_147 (lv_at hl 7 rfl) ?_
          refine lv_if_eq (tgt := 167) C.1 C.2.1 dX12_perform_149 (by decide) (fun _ => ?_) (fun h => absurd (by decide) h)
          refine lv_iload C.1 C.2.1 dX12_perform_167 (lv_at hl 8 rfl) ?_
          refine lv_if_ne (tgt := 176) C.1 C.2.1 dX12_perform_169 (by decide) (fun h => absurd h (by decide)) (fun _ => ?_)
          refine lv_aload_n C.1 C.2.1 dX12_perform_172 rfl (lv_at hl 0 rfl) ?_
          refine g_Vv (As := []) (rest := []) C hP hD hS hA (T_X12_work l D K Z Y ad t hok (show gdA (t.1 0 16) (t.1 0 17) (t.1 0 18) (t.2.2.1 3) from hs0)) hE hZ (uwV m_61_10 m_61_11 m_61_12 m_1_5 m_61_13) (hdV 0 (by decide +kernel) rfl) ⟨Nat.le_of_ble_eq_true rfl, Nat.le_of_ble_eq_true rfl⟩ rfl rfl (ci := 11) (q0 := 0) rfl rfl rfl hl.1 (Nat.le_of_ble_eq_true rfl) dX12_perform_173 ⟨Nat.le_of_ble_eq_true rfl, Nat.le_of_ble_eq_true rfl⟩ (fun t_411 H locs hw hP hD hS => ?_)
          obtain ⟨hok, f_413⟩ := hw
          have hfr : frA [(0, 5), (0, 6), (0, 7), (0, 9), (0, 10), (0, 30), (0, 35), (0, 91)] [(0, 8)] [2, 3, 5, 7, 8, 9, 10, 11, 12, 13, 14] [4, 6] t t_411 := frA_tr hfr f_413 rfl
          have h_414 : (t_411.1 0 7).toInt = (t.1 0 7).toInt := ti_eq (f_413.1 0 7 rfl)
          have h_415 : (t_411.1 0 10).toInt = (t.1 0 10).toInt := ti_eq (f_413.1 0 10 rfl)
          have h_416 : (t_411.1 0 15).toInt = (t.1 0 15).toInt := ti_eq (f_413.1 0 15 rfl)
          have h_417 : (t_411.1 0 16).toInt = (t.1 0 16).toInt := ti_eq (f_413.1 0 16 rfl)
          have h_418 : (t_411.1 0 17).toInt = (t.1 0 17).toInt := ti_eq (f_413.1 0 17 rfl)
          have h_419 : (t_411.2.1 0 8).toInt = (t.2.1 0 8).toInt := tl_eq (f_413.2.1 0 8 rfl)
          have h_420 : (t_411.1 0 9).toInt = (t.1 0 9).toInt := ti_eq (f_413.1 0 9 rfl)
          have h_421 : (t_411.1 0 12).toInt = (t.1 0 12).toInt := ti_eq (f_413.1 0 12 rfl)
          have h_422 : (t_411.2.1 0 13).toInt = (t.2.1 0 13).toInt := tl_eq (f_413.2.1 0 13 rfl)
          have h_423 : (t_411.1 0 18).toInt = (t.1 0 18).toInt := ti_eq (f_413.1 0 18 rfl)
          have h_424 : (t_411.1 0 35).toInt = (t.1 0 35).toInt := ti_eq (f_413.1 0 35 rfl)
          have h_425 : (t_411.1 0 36).toInt = (t.1 0 36).toInt := ti_eq (f_413.1 0 36 rfl)
          have e_426 : t_411.2.2.2 4 = t.2.2.2 4 := f_413.2.2.2 4 rfl
          have e_427 : t_411.2.2.1 9 = t.2.2.1 9 := f_413.2.2.1 9 rfl
          have h_428 : (0 : Int) ≤ (t_411.1 0 9).toInt ∧ (t_411.1 0 9).toInt ≤ 10 := hok.1 0 9
          have h_429 : (0 : Int) ≤ (t_411.1 0 12).toInt ∧ (t_411.1 0 12).toInt ≤ 1 := hok.1 0 12
          have h_430 : (0 : Int) ≤ (t_411.1 0 35).toInt ∧ (t_411.1 0 35).toInt ≤ 1700 := hok.1 0 35
          have h_431 : (0 : Int) ≤ (t_411.1 0 36).toInt ∧ (t_411.1 0 36).toInt ≤ 1700 := hok.1 0 36
          exact L_176 t_411 r_256 (t.1 0 7) 0 (t.1 0 15) 0 0 0 0 _ _ _ hok hfr ⟨by decide, by decide⟩ ⟨by decide, by decide⟩ ⟨by decide, by decide⟩ ⟨by decide, by decide⟩ ⟨by decide, by decide⟩ (show (t.1 0 12).toInt = 1 → 1 ≤ r_256.toInt ∧ (t.2.1 0 8).toInt + r_256.toInt ≤ (t.2.1 0 13).toInt from by omega) (show (t_411.2.1 0 8).toInt = (t.2.1 0 8).toInt from by omega) hP hD hS (lv_sub hl [0, 1, 2, 3, 4, 5, 6, 7, 8] rfl)
        · replace c_410 : (t.1 0 17).toInt = 3 := i_eq c_410
          refine lv_iconst (v := 1) C.1 C.2.1 dX12_perform_128 (by decide) ?_
          refine lv_goto (tgt := 133) C.1 C.2.1 dX12_perform_129 (by decide) ?_
          refine lv_istore (lv' := [(9, .int 1), (0, .ref (ad 0)), (1, .long r_256), (3, .int (t.1 0 7)), (4, .int 0), (5, .int (t.1 0 15)), (6, .int 0), (7, .int 0), (8, .int 0)]) C.1 C.2.1 dX12_perform_133 hl (by decide) rfl (fun ls hl => ?_)
          have hl : lv_has ls 10 [(0, .ref (ad 0)), (1, .long r_256), (3, .int (t.1 0 7)), (4, .int 0), (5, .int (t.1 0 15)), (6, .int 0), (7, .int 0), (8, .int 0), (9, .int 1)] := lv_sub hl [1, 2, 3, 4, 5, 6, 7, 8, 0] rfl
          refine lv_iload C.1 C.2.1 dX12_perform_135 (lv_at hl 6 rfl) ?_
          refine lv_if_eq (tgt := 147) C.1 C.2.1 dX12_perform_137 (by decide) (fun _ => ?_) (fun h => absurd (by decide) h)
          refine lv_iload C.1 C.2.1 dX12_perform_147 (lv_at hl 7 rfl) ?_
          refine lv_if_eq (tgt := 167) C.1 C.2.1 dX12_perform_149 (by decide) (fun _ => ?_) (fun h => absurd (by decide) h)
          refine lv_iload C.1 C.2.1 dX12_perform_167 (lv_at hl 8 rfl) ?_
          refine lv_if_ne (tgt := 176) C.1 C.2.1 dX12_perform_169 (by decide) (fun _ => ?_) (fun h => absurd h (by decide))
          exact L_176 t r_256 (t.1 0 7) 0 (t.1 0 15) 0 0 0 1 _ _ _ hok hfr ⟨by decide, by decide⟩ ⟨by decide, by decide⟩ ⟨by decide, by decide⟩ ⟨by decide, by decide⟩ ⟨by decide, by decide⟩ (show (t.1 0 12).toInt = 1 → 1 ≤ r_256.toInt ∧ (t.2.1 0 8).toInt + r_256.toInt ≤ (t.2.1 0 13).toInt from by omega) (show (t.2.1 0 8).toInt = (t.2.1 0 8).toInt from by omega) hP hD hS (lv_sub hl [0, 1, 2, 3, 4, 5, 6, 7, 8] rfl)
      · replace c_405 : (t.1 0 17).toInt = 2 := i_eq c_405
        refine lv_iconst (v := 1) C.1 C.2.1 dX12_perform_46 (by decide) ?_
        refine lv_goto (tgt := 51) C.1 C.2.1 dX12_perform_47 (by decide) ?_
        refine lv_istore (lv' := [(6, .int 1), (0, .ref (ad 0)), (1, .long r_256), (3, .int (t.1 0 7)), (4, .int 0), (5, .int (t.1 0 15))]) C.1 C.2.1 dX12_perform_51 hl (by decide) rfl (fun ls hl => ?_)
        have hl : lv_has ls 10 [(0, .ref (ad 0)), (1, .long r_256), (3, .int (t.1 0 7)), (4, .int 0), (5, .int (t.1 0 15)), (6, .int 1)] := lv_sub hl [1, 2, 3, 4, 5, 0] rfl
        refine lv_aload_n C.1 C.2.1 dX12_perform_53 rfl (lv_at hl 0 rfl) ?_
        refine k_get (v := .int (t.1 0 16)) C hP 0 rfl rfl inlX12 16 (by decide) m_57_3 rfl dX12_perform_54 ?_
        refine lv_bipush (v := 34) C.1 C.2.1 dX12_perform_57 (by decide) ?_
        refine lv_icmp_eq (tgt := 80) C.1 C.2.1 dX12_perform_59 (by decide) (fun c_432 => False.elim (by have c_432 : (t.1 0 16).toInt = 34 := i_eq c_432; omega)) (fun c_432 => ?_)
        replace c_432 : ¬ (t.1 0 16).toInt = 34 := i_ne c_432
        refine lv_aload_n C.1 C.2.1 dX12_perform_62 rfl (lv_at hl 0 rfl) ?_
        refine k_get (v := .int (t.1 0 16)) C hP 0 rfl rfl inlX12 16 (by decide) m_57_3 rfl dX12_perform_63 ?_
        refine lv_bipush (v := 37) C.1 C.2.1 dX12_perform_66 (by decide) ?_
        refine lv_icmp_le (tgt := 84) C.1 C.2.1 dX12_perform_68 (by decide) (fun c_433 => ?_) (fun c_433 => False.elim (by have c_433 : 37 < (t.1 0 16).toInt := i_nle c_433; omega))
        replace c_433 : (t.1 0 16).toInt ≤ 37 := i_le c_433
        refine lv_iconst (v := 0) C.1 C.2.1 dX12_perform_84 (by decide) ?_
        refine lv_istore (lv' := [(7, .int 0), (0, .ref (ad 0)), (1, .long r_256), (3, .int (t.1 0 7)), (4, .int 0), (5, .int (t.1 0 15)), (6, .int 1)]) C.1 C.2.1 dX12_perform_85 hl (by decide) rfl (fun ls hl => ?_)
        have hl : lv_has ls 10 [(0, .ref (ad 0)), (1, .long r_256), (3, .int (t.1 0 7)), (4, .int 0), (5, .int (t.1 0 15)), (6, .int 1), (7, .int 0)] := lv_sub hl [1, 2, 3, 4, 5, 6, 0] rfl
        refine lv_aload_n C.1 C.2.1 dX12_perform_87 rfl (lv_at hl 0 rfl) ?_
        refine k_get (v := .int (t.1 0 16)) C hP 0 rfl rfl inlX12 16 (by decide) m_57_3 rfl dX12_perform_88 ?_
        refine lv_bipush (v := 34) C.1 C.2.1 dX12_perform_91 (by decide) ?_
        refine lv_icmp_le (tgt := 109) C.1 C.2.1 dX12_perform_93 (by decide) (fun c_434 => ?_) (fun c_434 => False.elim (by have c_434 : 34 < (t.1 0 16).toInt := i_nle c_434; omega))
        replace c_434 : (t.1 0 16).toInt ≤ 34 := i_le c_434
        refine lv_iconst (v := 0) C.1 C.2.1 dX12_perform_109 (by decide) ?_
        refine lv_istore (lv' := [(8, .int 0), (0, .ref (ad 0)), (1, .long r_256), (3, .int (t.1 0 7)), (4, .int 0), (5, .int (t.1 0 15)), (6, .int 1), (7, .int 0)]) C.1 C.2.1 dX12_perform_110 hl (by decide) rfl (fun ls hl => ?_)
        have hl : lv_has ls 10 [(0, .ref (ad 0)), (1, .long r_256), (3, .int (t.1 0 7)), (4, .int 0), (5, .int (t.1 0 15)), (6, .int 1), (7, .int 0), (8, .int 0)] := lv_sub hl [1, 2, 3, 4, 5, 6, 7, 0] rfl
        refine lv_aload_n C.1 C.2.1 dX12_perform_112 rfl (lv_at hl 0 rfl) ?_
        refine k_get (v := .int (t.1 0 16)) C hP 0 rfl rfl inlX12 16 (by decide) m_57_3 rfl dX12_perform_113 ?_
        refine lv_iconst (v := 5) C.1 C.2.1 dX12_perform_116 (by decide) ?_
        refine lv_icmp_ne (tgt := 132) C.1 C.2.1 dX12_perform_117 (by decide) (fun c_435 => False.elim (by have c_435 : ¬ (t.1 0 16).toInt = 5 := i_ne c_435; omega)) (fun c_435 => ?_)
        replace c_435 : (t.1 0 16).toInt = 5 := i_eq c_435
        refine lv_aload_n C.1 C.2.1 dX12_perform_120 rfl (lv_at hl 0 rfl) ?_
        refine k_get (v := .int (t.1 0 17)) C hP 0 rfl rfl inlX12 17 (by decide) m_57_4 rfl dX12_perform_121 ?_
        refine lv_iconst (v := 3) C.1 C.2.1 dX12_perform_124 (by decide) ?_
        refine lv_icmp_ne (tgt := 132) C.1 C.2.1 dX12_perform_125 (by decide) (fun c_436 => ?_) (fun c_436 => False.elim (by have c_436 : (t.1 0 17).toInt = 3 := i_eq c_436; omega))
        replace c_436 : ¬ (t.1 0 17).toInt = 3 := i_ne c_436
        refine lv_iconst (v := 0) C.1 C.2.1 dX12_perform_132 (by decide) ?_
        refine lv_istore (lv' := [(9, .int 0), (0, .ref (ad 0)), (1, .long r_256), (3, .int (t.1 0 7)), (4, .int 0), (5, .int (t.1 0 15)), (6, .int 1), (7, .int 0), (8, .int 0)]) C.1 C.2.1 dX12_perform_133 hl (by decide) rfl (fun ls hl => ?_)
        have hl : lv_has ls 10 [(0, .ref (ad 0)), (1, .long r_256), (3, .int (t.1 0 7)), (4, .int 0), (5, .int (t.1 0 15)), (6, .int 1), (7, .int 0), (8, .int 0), (9, .int 0)] := lv_sub hl [1, 2, 3, 4, 5, 6, 7, 8, 0] rfl
        refine lv_iload C.1 C.2.1 dX12_perform_135 (lv_at hl 6 rfl) ?_
        refine lv_if_eq (tgt := 147) C.1 C.2.1 dX12_perform_137 (by decide) (fun _ => ?_) (fun h => absurd (by decide) h)
        refine lv_iload C.1 C.2.1 dX12_perform_147 (lv_at hl 7 rfl) ?_
        refine lv_if_eq (tgt := 167) C.1 C.2.1 dX12_perform_149 (by decide) (fun _ => ?_) (fun h => absurd (by decide) h)
        refine lv_iload C.1 C.2.1 dX12_perform_167 (lv_at hl 8 rfl) ?_
        refine lv_if_ne (tgt := 176) C.1 C.2.1 dX12_perform_169 (by decide) (fun h => absurd h (by decide)) (fun _ => ?_)
        refine lv_aload_n C.1 C.2.1 dX12_perform_172 rfl (lv_at hl 0 rfl) ?_
        refine g_Vv (As := []) (rest := []) C hP hD hS hA (T_X12_work l D K Z Y ad t hok (show gdA (t.1 0 16) (t.1 0 17) (t.1 0 18) (t.2.2.1 3) from hs0)) hE hZ (uwV m_61_10 m_61_11 m_61_12 m_1_5 m_61_13) (hdV 0 (by decide +kernel) rfl) ⟨Nat.le_of_ble_eq_true rfl, Nat.le_of_ble_eq_true rfl⟩ rfl rfl (ci := 11) (q0 := 0) rfl rfl rfl hl.1 (Nat.le_of_ble_eq_true rfl) dX12_perform_173 ⟨Nat.le_of_ble_eq_true rfl, Nat.le_of_ble_eq_true rfl⟩ (fun t_437 H locs hw hP hD hS => ?_)
        obtain ⟨hok, f_439⟩ := hw
        have hfr : frA [(0, 5), (0, 6), (0, 7), (0, 9), (0, 10), (0, 30), (0, 35), (0, 91)] [(0, 8)] [2, 3, 5, 7, 8, 9, 10, 11, 12, 13, 14] [4, 6] t t_437 := frA_tr hfr f_439 rfl
        have h_440 : (t_437.1 0 7).toInt = (t.1 0 7).toInt := ti_eq (f_439.1 0 7 rfl)
        have h_441 : (t_437.1 0 10).toInt = (t.1 0 10).toInt := ti_eq (f_439.1 0 10 rfl)
        have h_442 : (t_437.1 0 15).toInt = (t.1 0 15).toInt := ti_eq (f_439.1 0 15 rfl)
        have h_443 : (t_437.1 0 16).toInt = (t.1 0 16).toInt := ti_eq (f_439.1 0 16 rfl)
        have h_444 : (t_437.1 0 17).toInt = (t.1 0 17).toInt := ti_eq (f_439.1 0 17 rfl)
        have h_445 : (t_437.2.1 0 8).toInt = (t.2.1 0 8).toInt := tl_eq (f_439.2.1 0 8 rfl)
        have h_446 : (t_437.1 0 9).toInt = (t.1 0 9).toInt := ti_eq (f_439.1 0 9 rfl)
        have h_447 : (t_437.1 0 12).toInt = (t.1 0 12).toInt := ti_eq (f_439.1 0 12 rfl)
        have h_448 : (t_437.2.1 0 13).toInt = (t.2.1 0 13).toInt := tl_eq (f_439.2.1 0 13 rfl)
        have h_449 : (t_437.1 0 18).toInt = (t.1 0 18).toInt := ti_eq (f_439.1 0 18 rfl)
        have h_450 : (t_437.1 0 35).toInt = (t.1 0 35).toInt := ti_eq (f_439.1 0 35 rfl)
        have h_451 : (t_437.1 0 36).toInt = (t.1 0 36).toInt := ti_eq (f_439.1 0 36 rfl)
        have e_452 : t_437.2.2.2 4 = t.2.2.2 4 := f_439.2.2.2 4 rfl
        have e_453 : t_437.2.2.1 9 = t.2.2.1 9 := f_439.2.2.1 9 rfl
        have h_454 : (0 : Int) ≤ (t_437.1 0 9).toInt ∧ (t_437.1 0 9).toInt ≤ 10 := hok.1 0 9
        have h_455 : (0 : Int) ≤ (t_437.1 0 12).toInt ∧ (t_437.1 0 12).toInt ≤ 1 := hok.1 0 12
        have h_456 : (0 : Int) ≤ (t_437.1 0 35).toInt ∧ (t_437.1 0 35).toInt ≤ 1700 := hok.1 0 35
        have h_457 : (0 : Int) ≤ (t_437.1 0 36).toInt ∧ (t_437.1 0 36).toInt ≤ 1700 := hok.1 0 36
        exact L_176 t_437 r_256 (t.1 0 7) 0 (t.1 0 15) 1 0 0 0 _ _ _ hok hfr ⟨by decide, by decide⟩ ⟨by decide, by decide⟩ ⟨by decide, by decide⟩ ⟨by decide, by decide⟩ ⟨by decide, by decide⟩ (show (t.1 0 12).toInt = 1 → 1 ≤ r_256.toInt ∧ (t.2.1 0 8).toInt + r_256.toInt ≤ (t.2.1 0 13).toInt from by omega) (show (t_437.2.1 0 8).toInt = (t.2.1 0 8).toInt from by omega) hP hD hS (lv_sub hl [0, 1, 2, 3, 4, 5, 6, 7, 8] rfl)
  · replace c_261 : (t.1 0 10).toInt = 0 := i_eq c_261
    refine lv_iconst (v := 1) C.1 C.2.1 dX12_perform_17 (by decide) ?_
    refine lv_goto (tgt := 22) C.1 C.2.1 dX12_perform_18 (by decide) ?_
    refine lv_istore (lv' := [(4, .int 1), (0, .ref (ad 0)), (1, .long r_256), (3, .int (t.1 0 7))]) C.1 C.2.1 dX12_perform_22 hl (by decide) rfl (fun ls hl => ?_)
    have hl : lv_has ls 10 [(0, .ref (ad 0)), (1, .long r_256), (3, .int (t.1 0 7)), (4, .int 1)] := lv_sub hl [1, 2, 3, 0] rfl
    refine lv_aload_n C.1 C.2.1 dX12_perform_24 rfl (lv_at hl 0 rfl) ?_
    refine k_get (v := .int (t.1 0 15)) C hP 0 rfl rfl inlX12 15 (by decide) m_57_2 rfl dX12_perform_25 ?_
    refine lv_istore (lv' := [(5, .int (t.1 0 15)), (0, .ref (ad 0)), (1, .long r_256), (3, .int (t.1 0 7)), (4, .int 1)]) C.1 C.2.1 dX12_perform_28 hl (by decide) rfl (fun ls hl => ?_)
    have hl : lv_has ls 10 [(0, .ref (ad 0)), (1, .long r_256), (3, .int (t.1 0 7)), (4, .int 1), (5, .int (t.1 0 15))] := lv_sub hl [1, 2, 3, 4, 0] rfl
    refine lv_aload_n C.1 C.2.1 dX12_perform_30 rfl (lv_at hl 0 rfl) ?_
    refine k_get (v := .int (t.1 0 16)) C hP 0 rfl rfl inlX12 16 (by decide) m_57_3 rfl dX12_perform_31 ?_
    refine lv_iconst (v := 5) C.1 C.2.1 dX12_perform_34 (by decide) ?_
    refine lv_icmp_ne (tgt := 50) C.1 C.2.1 dX12_perform_35 (by decide) (fun c_458 => ?_) (fun c_458 => ?_)
    · replace c_458 : ¬ (t.1 0 16).toInt = 5 := i_ne c_458
      refine lv_iconst (v := 0) C.1 C.2.1 dX12_perform_50 (by decide) ?_
      refine lv_istore (lv' := [(6, .int 0), (0, .ref (ad 0)), (1, .long r_256), (3, .int (t.1 0 7)), (4, .int 1), (5, .int (t.1 0 15))]) C.1 C.2.1 dX12_perform_51 hl (by decide) rfl (fun ls hl => ?_)
      have hl : lv_has ls 10 [(0, .ref (ad 0)), (1, .long r_256), (3, .int (t.1 0 7)), (4, .int 1), (5, .int (t.1 0 15)), (6, .int 0)] := lv_sub hl [1, 2, 3, 4, 5, 0] rfl
      refine lv_aload_n C.1 C.2.1 dX12_perform_53 rfl (lv_at hl 0 rfl) ?_
      refine k_get (v := .int (t.1 0 16)) C hP 0 rfl rfl inlX12 16 (by decide) m_57_3 rfl dX12_perform_54 ?_
      refine lv_bipush (v := 34) C.1 C.2.1 dX12_perform_57 (by decide) ?_
      refine lv_icmp_eq (tgt := 80) C.1 C.2.1 dX12_perform_59 (by decide) (fun c_459 => ?_) (fun c_459 => ?_)
      · replace c_459 : (t.1 0 16).toInt = 34 := i_eq c_459
        refine lv_iconst (v := 1) C.1 C.2.1 dX12_perform_80 (by decide) ?_
        refine lv_goto (tgt := 85) C.1 C.2.1 dX12_perform_81 (by decide) ?_
        refine lv_istore (lv' := [(7, .int 1), (0, .ref (ad 0)), (1, .long r_256), (3, .int (t.1 0 7)), (4, .int 1), (5, .int (t.1 0 15)), (6, .int 0)]) C.1 C.2.1 dX12_perform_85 hl (by decide) rfl (fun ls hl => ?_)
        have hl : lv_has ls 10 [(0, .ref (ad 0)), (1, .long r_256), (3, .int (t.1 0 7)), (4, .int 1), (5, .int (t.1 0 15)), (6, .int 0), (7, .int 1)] := lv_sub hl [1, 2, 3, 4, 5, 6, 0] rfl
        refine lv_aload_n C.1 C.2.1 dX12_perform_87 rfl (lv_at hl 0 rfl) ?_
        refine k_get (v := .int (t.1 0 16)) C hP 0 rfl rfl inlX12 16 (by decide) m_57_3 rfl dX12_perform_88 ?_
        refine lv_bipush (v := 34) C.1 C.2.1 dX12_perform_91 (by decide) ?_
        refine lv_icmp_le (tgt := 109) C.1 C.2.1 dX12_perform_93 (by decide) (fun c_460 => ?_) (fun c_460 => False.elim (by have c_460 : 34 < (t.1 0 16).toInt := i_nle c_460; omega))
        replace c_460 : (t.1 0 16).toInt ≤ 34 := i_le c_460
        refine lv_iconst (v := 0) C.1 C.2.1 dX12_perform_109 (by decide) ?_
        refine lv_istore (lv' := [(8, .int 0), (0, .ref (ad 0)), (1, .long r_256), (3, .int (t.1 0 7)), (4, .int 1), (5, .int (t.1 0 15)), (6, .int 0), (7, .int 1)]) C.1 C.2.1 dX12_perform_110 hl (by decide) rfl (fun ls hl => ?_)
        have hl : lv_has ls 10 [(0, .ref (ad 0)), (1, .long r_256), (3, .int (t.1 0 7)), (4, .int 1), (5, .int (t.1 0 15)), (6, .int 0), (7, .int 1), (8, .int 0)] := lv_sub hl [1, 2, 3, 4, 5, 6, 7, 0] rfl
        refine lv_aload_n C.1 C.2.1 dX12_perform_112 rfl (lv_at hl 0 rfl) ?_
        refine k_get (v := .int (t.1 0 16)) C hP 0 rfl rfl inlX12 16 (by decide) m_57_3 rfl dX12_perform_113 ?_
        refine lv_iconst (v := 5) C.1 C.2.1 dX12_perform_116 (by decide) ?_
        refine lv_icmp_ne (tgt := 132) C.1 C.2.1 dX12_perform_117 (by decide) (fun c_461 => ?_) (fun c_461 => False.elim (by have c_461 : (t.1 0 16).toInt = 5 := i_eq c_461; omega))
        replace c_461 : ¬ (t.1 0 16).toInt = 5 := i_ne c_461
        refine lv_iconst (v := 0) C.1 C.2.1 dX12_perform_132 (by decide) ?_
        refine lv_istore (lv' := [(9, .int 0), (0, .ref (ad 0)), (1, .long r_256), (3, .int (t.1 0 7)), (4, .int 1), (5, .int (t.1 0 15)), (6, .int 0), (7, .int 1), (8, .int 0)]) C.1 C.2.1 dX12_perform_133 hl (by decide) rfl (fun ls hl => ?_)
        have hl : lv_has ls 10 [(0, .ref (ad 0)), (1, .long r_256), (3, .int (t.1 0 7)), (4, .int 1), (5, .int (t.1 0 15)), (6, .int 0), (7, .int 1), (8, .int 0), (9, .int 0)] := lv_sub hl [1, 2, 3, 4, 5, 6, 7, 8, 0] rfl
        refine lv_iload C.1 C.2.1 dX12_perform_135 (lv_at hl 6 rfl) ?_
        refine lv_if_eq (tgt := 147) C.1 C.2.1 dX12_perform_137 (by decide) (fun h => absurd h (by decide)) (fun _ => ?_)
        refine lv_aload_n C.1 C.2.1 dX12_perform_140 rfl (lv_at hl 0 rfl) ?_
        refine g_Vv (As := []) (rest := []) C hP hD hS hA (T_X12_jump l D K Z Y ad t hok (show (t.1 0 16).toInt = 34 ∨ (t.1 0 16).toInt = 38 → (t.1 0 17).toInt ≤ 19 from by omega)) hE hZ (uwV m_60_4 m_60_5 m_60_6 m_1_5 m_60_7) (hdV 0 (by decide +kernel) rfl) ⟨Nat.le_of_ble_eq_true rfl, Nat.le_of_ble_eq_true rfl⟩ rfl rfl (ci := 11) (q0 := 0) rfl rfl rfl hl.1 (Nat.le_of_ble_eq_true rfl) dX12_perform_141 ⟨Nat.le_of_ble_eq_true rfl, Nat.le_of_ble_eq_true rfl⟩ (fun t_462 H locs hw hP hD hS => ?_)
        obtain ⟨hok, f_464⟩ := hw
        have hfr : frA [(0, 5), (0, 6), (0, 7), (0, 9), (0, 10), (0, 30), (0, 35), (0, 91)] [(0, 8)] [2, 3, 5, 7, 8, 9, 10, 11, 12, 13, 14] [4, 6] t t_462 := frA_tr hfr f_464 rfl
        have h_465 : (t_462.1 0 10).toInt = (t.1 0 10).toInt := ti_eq (f_464.1 0 10 rfl)
        have h_466 : (t_462.1 0 15).toInt = (t.1 0 15).toInt := ti_eq (f_464.1 0 15 rfl)
        have h_467 : (t_462.1 0 16).toInt = (t.1 0 16).toInt := ti_eq (f_464.1 0 16 rfl)
        have h_468 : (t_462.2.1 0 8).toInt = (t.2.1 0 8).toInt := tl_eq (f_464.2.1 0 8 rfl)
        have h_469 : (t_462.1 0 9).toInt = (t.1 0 9).toInt := ti_eq (f_464.1 0 9 rfl)
        have h_470 : (t_462.1 0 12).toInt = (t.1 0 12).toInt := ti_eq (f_464.1 0 12 rfl)
        have h_471 : (t_462.2.1 0 13).toInt = (t.2.1 0 13).toInt := tl_eq (f_464.2.1 0 13 rfl)
        have h_472 : (t_462.1 0 17).toInt = (t.1 0 17).toInt := ti_eq (f_464.1 0 17 rfl)
        have h_473 : (t_462.1 0 18).toInt = (t.1 0 18).toInt := ti_eq (f_464.1 0 18 rfl)
        have h_474 : (t_462.1 0 35).toInt = (t.1 0 35).toInt := ti_eq (f_464.1 0 35 rfl)
        have h_475 : (t_462.1 0 36).toInt = (t.1 0 36).toInt := ti_eq (f_464.1 0 36 rfl)
        have e_476 : t_462.2.2.2 4 = t.2.2.2 4 := f_464.2.2.2 4 rfl
        have e_477 : t_462.2.2.1 9 = t.2.2.1 9 := f_464.2.2.1 9 rfl
        have h_478 : (0 : Int) ≤ (t_462.1 0 9).toInt ∧ (t_462.1 0 9).toInt ≤ 10 := hok.1 0 9
        have h_479 : (0 : Int) ≤ (t_462.1 0 12).toInt ∧ (t_462.1 0 12).toInt ≤ 1 := hok.1 0 12
        have h_480 : (0 : Int) ≤ (t_462.1 0 17).toInt ∧ (t_462.1 0 17).toInt ≤ 63 := hok.1 0 17
        have h_481 : (0 : Int) ≤ (t_462.1 0 35).toInt ∧ (t_462.1 0 35).toInt ≤ 1700 := hok.1 0 35
        have h_482 : (0 : Int) ≤ (t_462.1 0 36).toInt ∧ (t_462.1 0 36).toInt ≤ 1700 := hok.1 0 36
        refine lv_goto (tgt := 176) C.1 C.2.1 dX12_perform_144 (by decide) ?_
        exact L_176 t_462 r_256 (t.1 0 7) 1 (t.1 0 15) 0 1 0 0 _ _ _ hok hfr ⟨by decide, by decide⟩ ⟨by decide, by decide⟩ ⟨by decide, by decide⟩ ⟨by decide, by decide⟩ ⟨by decide, by decide⟩ (show (t.1 0 12).toInt = 1 → 1 ≤ r_256.toInt ∧ (t.2.1 0 8).toInt + r_256.toInt ≤ (t.2.1 0 13).toInt from by omega) (show (t_462.2.1 0 8).toInt = (t.2.1 0 8).toInt from by omega) hP hD hS (lv_sub hl [0, 1, 2, 3, 4, 5, 6, 7, 8] rfl)
      · replace c_459 : ¬ (t.1 0 16).toInt = 34 := i_ne c_459
        refine lv_aload_n C.1 C.2.1 dX12_perform_62 rfl (lv_at hl 0 rfl) ?_
        refine k_get (v := .int (t.1 0 16)) C hP 0 rfl rfl inlX12 16 (by decide) m_57_3 rfl dX12_perform_63 ?_
        refine lv_bipush (v := 37) C.1 C.2.1 dX12_perform_66 (by decide) ?_
        refine lv_icmp_le (tgt := 84) C.1 C.2.1 dX12_perform_68 (by decide) (fun c_483 => ?_) (fun c_483 => ?_)
        · replace c_483 : (t.1 0 16).toInt ≤ 37 := i_le c_483
          refine lv_iconst (v := 0) C.1 C.2.1 dX12_perform_84 (by decide) ?_
          refine lv_istore (lv' := [(7, .int 0), (0, .ref (ad 0)), (1, .long r_256), (3, .int (t.1 0 7)), (4, .int 1), (5, .int (t.1 0 15)), (6, .int 0)]) C.1 C.2.1 dX12_perform_85 hl (by decide) rfl (fun ls hl => ?_)
          have hl : lv_has ls 10 [(0, .ref (ad 0)), (1, .long r_256), (3, .int (t.1 0 7)), (4, .int 1), (5, .int (t.1 0 15)), (6, .int 0), (7, .int 0)] := lv_sub hl [1, 2, 3, 4, 5, 6, 0] rfl
          refine lv_aload_n C.1 C.2.1 dX12_perform_87 rfl (lv_at hl 0 rfl) ?_
          refine k_get (v := .int (t.1 0 16)) C hP 0 rfl rfl inlX12 16 (by decide) m_57_3 rfl dX12_perform_88 ?_
          refine lv_bipush (v := 34) C.1 C.2.1 dX12_perform_91 (by decide) ?_
          refine lv_icmp_le (tgt := 109) C.1 C.2.1 dX12_perform_93 (by decide) (fun c_484 => ?_) (fun c_484 => ?_)
          · replace c_484 : (t.1 0 16).toInt ≤ 34 := i_le c_484
            refine lv_iconst (v := 0) C.1 C.2.1 dX12_perform_109 (by decide) ?_
            refine lv_istore (lv' := [(8, .int 0), (0, .ref (ad 0)), (1, .long r_256), (3, .int (t.1 0 7)), (4, .int 1), (5, .int (t.1 0 15)), (6, .int 0), (7, .int 0)]) C.1 C.2.1 dX12_perform_110 hl (by decide) rfl (fun ls hl => ?_)
            have hl : lv_has ls 10 [(0, .ref (ad 0)), (1, .long r_256), (3, .int (t.1 0 7)), (4, .int 1), (5, .int (t.1 0 15)), (6, .int 0), (7, .int 0), (8, .int 0)] := lv_sub hl [1, 2, 3, 4, 5, 6, 7, 0] rfl
            refine lv_aload_n C.1 C.2.1 dX12_perform_112 rfl (lv_at hl 0 rfl) ?_
            refine k_get (v := .int (t.1 0 16)) C hP 0 rfl rfl inlX12 16 (by decide) m_57_3 rfl dX12_perform_113 ?_
            refine lv_iconst (v := 5) C.1 C.2.1 dX12_perform_116 (by decide) ?_
            refine lv_icmp_ne (tgt := 132) C.1 C.2.1 dX12_perform_117 (by decide) (fun c_485 => ?_) (fun c_485 => ?_)
            · replace c_485 : ¬ (t.1 0 16).toInt = 5 := i_ne c_485
              refine lv_iconst (v := 0) C.1 C.2.1 dX12_perform_132 (by decide) ?_
              refine lv_istore (lv' := [(9, .int 0), (0, .ref (ad 0)), (1, .long r_256), (3, .int (t.1 0 7)), (4, .int 1), (5, .int (t.1 0 15)), (6, .int 0), (7, .int 0), (8, .int 0)]) C.1 C.2.1 dX12_perform_133 hl (by decide) rfl (fun ls hl => ?_)
              have hl : lv_has ls 10 [(0, .ref (ad 0)), (1, .long r_256), (3, .int (t.1 0 7)), (4, .int 1), (5, .int (t.1 0 15)), (6, .int 0), (7, .int 0), (8, .int 0), (9, .int 0)] := lv_sub hl [1, 2, 3, 4, 5, 6, 7, 8, 0] rfl
              refine lv_iload C.1 C.2.1 dX12_perform_135 (lv_at hl 6 rfl) ?_
              refine lv_if_eq (tgt := 147) C.1 C.2.1 dX12_perform_137 (by decide) (fun _ => ?_) (fun h => absurd (by decide) h)
              refine lv_iload C.1 C.2.1 dX12_perform_147 (lv_at hl 7 rfl) ?_
              refine lv_if_eq (tgt := 167) C.1 C.2.1 dX12_perform_149 (by decide) (fun _ => ?_) (fun h => absurd (by decide) h)
              refine lv_iload C.1 C.2.1 dX12_perform_167 (lv_at hl 8 rfl) ?_
              refine lv_if_ne (tgt := 176) C.1 C.2.1 dX12_perform_169 (by decide) (fun h => absurd h (by decide)) (fun _ => ?_)
              refine lv_aload_n C.1 C.2.1 dX12_perform_172 rfl (lv_at hl 0 rfl) ?_
              refine g_Vv (As := []) (rest := []) C hP hD hS hA (T_X12_work l D K Z Y ad t hok (show gdA (t.1 0 16) (t.1 0 17) (t.1 0 18) (t.2.2.1 3) from hs0)) hE hZ (uwV m_61_10 m_61_11 m_61_12 m_1_5 m_61_13) (hdV 0 (by decide +kernel) rfl) ⟨Nat.le_of_ble_eq_true rfl, Nat.le_of_ble_eq_true rfl⟩ rfl rfl (ci := 11) (q0 := 0) rfl rfl rfl hl.1 (Nat.le_of_ble_eq_true rfl) dX12_perform_173 ⟨Nat.le_of_ble_eq_true rfl, Nat.le_of_ble_eq_true rfl⟩ (fun t_486 H locs hw hP hD hS => ?_)
              obtain ⟨hok, f_488⟩ := hw
              have hfr : frA [(0, 5), (0, 6), (0, 7), (0, 9), (0, 10), (0, 30), (0, 35), (0, 91)] [(0, 8)] [2, 3, 5, 7, 8, 9, 10, 11, 12, 13, 14] [4, 6] t t_486 := frA_tr hfr f_488 rfl
              have h_489 : (t_486.1 0 7).toInt = (t.1 0 7).toInt := ti_eq (f_488.1 0 7 rfl)
              have h_490 : (t_486.1 0 10).toInt = (t.1 0 10).toInt := ti_eq (f_488.1 0 10 rfl)
              have h_491 : (t_486.1 0 15).toInt = (t.1 0 15).toInt := ti_eq (f_488.1 0 15 rfl)
              have h_492 : (t_486.1 0 16).toInt = (t.1 0 16).toInt := ti_eq (f_488.1 0 16 rfl)
              have h_493 : (t_486.2.1 0 8).toInt = (t.2.1 0 8).toInt := tl_eq (f_488.2.1 0 8 rfl)
              have h_494 : (t_486.1 0 9).toInt = (t.1 0 9).toInt := ti_eq (f_488.1 0 9 rfl)
              have h_495 : (t_486.1 0 12).toInt = (t.1 0 12).toInt := ti_eq (f_488.1 0 12 rfl)
              have h_496 : (t_486.2.1 0 13).toInt = (t.2.1 0 13).toInt := tl_eq (f_488.2.1 0 13 rfl)
              have h_497 : (t_486.1 0 17).toInt = (t.1 0 17).toInt := ti_eq (f_488.1 0 17 rfl)
              have h_498 : (t_486.1 0 18).toInt = (t.1 0 18).toInt := ti_eq (f_488.1 0 18 rfl)
              have h_499 : (t_486.1 0 35).toInt = (t.1 0 35).toInt := ti_eq (f_488.1 0 35 rfl)
              have h_500 : (t_486.1 0 36).toInt = (t.1 0 36).toInt := ti_eq (f_488.1 0 36 rfl)
              have e_501 : t_486.2.2.2 4 = t.2.2.2 4 := f_488.2.2.2 4 rfl
              have e_502 : t_486.2.2.1 9 = t.2.2.1 9 := f_488.2.2.1 9 rfl
              have h_503 : (0 : Int) ≤ (t_486.1 0 9).toInt ∧ (t_486.1 0 9).toInt ≤ 10 := hok.1 0 9
              have h_504 : (0 : Int) ≤ (t_486.1 0 12).toInt ∧ (t_486.1 0 12).toInt ≤ 1 := hok.1 0 12
              have h_505 : (0 : Int) ≤ (t_486.1 0 17).toInt ∧ (t_486.1 0 17).toInt ≤ 63 := hok.1 0 17
              have h_506 : (0 : Int) ≤ (t_486.1 0 35).toInt ∧ (t_486.1 0 35).toInt ≤ 1700 := hok.1 0 35
              have h_507 : (0 : Int) ≤ (t_486.1 0 36).toInt ∧ (t_486.1 0 36).toInt ≤ 1700 := hok.1 0 36
              exact L_176 t_486 r_256 (t.1 0 7) 1 (t.1 0 15) 0 0 0 0 _ _ _ hok hfr ⟨by decide, by decide⟩ ⟨by decide, by decide⟩ ⟨by decide, by decide⟩ ⟨by decide, by decide⟩ ⟨by decide, by decide⟩ (show (t.1 0 12).toInt = 1 → 1 ≤ r_256.toInt ∧ (t.2.1 0 8).toInt + r_256.toInt ≤ (t.2.1 0 13).toInt from by omega) (show (t_486.2.1 0 8).toInt = (t.2.1 0 8).toInt from by omega) hP hD hS (lv_sub hl [0, 1, 2, 3, 4, 5, 6, 7, 8] rfl)
            · replace c_485 : (t.1 0 16).toInt = 5 := i_eq c_485
              refine lv_aload_n C.1 C.2.1 dX12_perform_120 rfl (lv_at hl 0 rfl) ?_
              refine k_get (v := .int (t.1 0 17)) C hP 0 rfl rfl inlX12 17 (by decide) m_57_4 rfl dX12_perform_121 ?_
              refine lv_iconst (v := 3) C.1 C.2.1 dX12_perform_124 (by decide) ?_
              refine lv_icmp_ne (tgt := 132) C.1 C.2.1 dX12_perform_125 (by decide) (fun c_508 => ?_) (fun c_508 => ?_)
              · replace c_508 : ¬ (t.1 0 17).toInt = 3 := i_ne c_508
                refine lv_iconst (v := 0) C.1 C.2.1 dX12_perform_132 (by decide) ?_
                refine lv_istore (lv' := [(9, .int 0), (0, .ref (ad 0)), (1, .long r_256), (3, .int (t.1 0 7)), (4, .int 1), (5, .int (t.1 0 15)), (6, .int 0), (7, .int 0), (8, .int 0)]) C.1 C.2.1 dX12_perform_133 hl (by decide) rfl (fun ls hl => ?_)
                have hl : lv_has ls 10 [(0, .ref (ad 0)), (1, .long r_256), (3, .int (t.1 0 7)), (4, .int 1), (5, .int (t.1 0 15)), (6, .int 0), (7, .int 0), (8, .int 0), (9, .int 0)] := lv_sub hl [1, 2, 3, 4, 5, 6, 7, 8, 0] rfl
                refine lv_iload C.1 C.2.1 dX12_perform_135 (lv_at hl 6 rfl) ?_
                refine lv_if_eq (tgt := 147) C.1 C.2.1 dX12_perform_137 (by decide) (fun _ => ?_) (fun h => absurd (by decide) h)
                refine lv_iload C.1 C.2.1 dX12_perform_147 (lv_at hl 7 rfl) ?_
                refine lv_if_eq (tgt := 167) C.1 C.2.1 dX12_perform_149 (by decide) (fun _ => ?_) (fun h => absurd (by decide) h)
                refine lv_iload C.1 C.2.1 dX12_perform_167 (lv_at hl 8 rfl) ?_
                refine lv_if_ne (tgt := 176) C.1 C.2.1 dX12_perform_169 (by decide) (fun h => absurd h (by decide)) (fun _ => ?_)
                refine lv_aload_n C.1 C.2.1 dX12_perform_172 rfl (lv_at hl 0 rfl) ?_
                refine g_Vv (As := []) (rest := []) C hP hD hS hA (T_X12_work l D K Z Y ad t hok (show gdA (t.1 0 16) (t.1 0 17) (t.1 0 18) (t.2.2.1 3) from hs0)) hE hZ (uwV m_61_10 m_61_11 m_61_12 m_1_5 m_61_13) (hdV 0 (by decide +kernel) rfl) ⟨Nat.le_of_ble_eq_true rfl, Nat.le_of_ble_eq_true rfl⟩ rfl rfl (ci := 11) (q0 := 0) rfl rfl rfl hl.1 (Nat.le_of_ble_eq_true rfl) dX12_perform_173 ⟨Nat.le_of_ble_eq_true rfl, Nat.le_of_ble_eq_true rfl⟩ (fun t_509 H locs hw hP hD hS => ?_)
                obtain ⟨hok, f_511⟩ := hw
                have hfr : frA [(0, 5), (0, 6), (0, 7), (0, 9), (0, 10), (0, 30), (0, 35), (0, 91)] [(0, 8)] [2, 3, 5, 7, 8, 9, 10, 11, 12, 13, 14] [4, 6] t t_509 := frA_tr hfr f_511 rfl
                have h_512 : (t_509.1 0 7).toInt = (t.1 0 7).toInt := ti_eq (f_511.1 0 7 rfl)
                have h_513 : (t_509.1 0 10).toInt = (t.1 0 10).toInt := ti_eq (f_511.1 0 10 rfl)
                have h_514 : (t_509.1 0 15).toInt = (t.1 0 15).toInt := ti_eq (f_511.1 0 15 rfl)
                have h_515 : (t_509.1 0 16).toInt = (t.1 0 16).toInt := ti_eq (f_511.1 0 16 rfl)
                have h_516 : (t_509.1 0 17).toInt = (t.1 0 17).toInt := ti_eq (f_511.1 0 17 rfl)
                have h_517 : (t_509.2.1 0 8).toInt = (t.2.1 0 8).toInt := tl_eq (f_511.2.1 0 8 rfl)
                have h_518 : (t_509.1 0 9).toInt = (t.1 0 9).toInt := ti_eq (f_511.1 0 9 rfl)
                have h_519 : (t_509.1 0 12).toInt = (t.1 0 12).toInt := ti_eq (f_511.1 0 12 rfl)
                have h_520 : (t_509.2.1 0 13).toInt = (t.2.1 0 13).toInt := tl_eq (f_511.2.1 0 13 rfl)
                have h_521 : (t_509.1 0 18).toInt = (t.1 0 18).toInt := ti_eq (f_511.1 0 18 rfl)
                have h_522 : (t_509.1 0 35).toInt = (t.1 0 35).toInt := ti_eq (f_511.1 0 35 rfl)
                have h_523 : (t_509.1 0 36).toInt = (t.1 0 36).toInt := ti_eq (f_511.1 0 36 rfl)
                have e_524 : t_509.2.2.2 4 = t.2.2.2 4 := f_511.2.2.2 4 rfl
                have e_525 : t_509.2.2.1 9 = t.2.2.1 9 := f_511.2.2.1 9 rfl
                have h_526 : (0 : Int) ≤ (t_509.1 0 9).toInt ∧ (t_509.1 0 9).toInt ≤ 10 := hok.1 0 9
                have h_527 : (0 : Int) ≤ (t_509.1 0 12).toInt ∧ (t_509.1 0 12).toInt ≤ 1 := hok.1 0 12
                have h_528 : (0 : Int) ≤ (t_509.1 0 35).toInt ∧ (t_509.1 0 35).toInt ≤ 1700 := hok.1 0 35
                have h_529 : (0 : Int) ≤ (t_509.1 0 36).toInt ∧ (t_509.1 0 36).toInt ≤ 1700 := hok.1 0 36
                exact L_176 t_509 r_256 (t.1 0 7) 1 (t.1 0 15) 0 0 0 0 _ _ _ hok hfr ⟨by decide, by decide⟩ ⟨by decide, by decide⟩ ⟨by decide, by decide⟩ ⟨by decide, by decide⟩ ⟨by decide, by decide⟩ (show (t.1 0 12).toInt = 1 → 1 ≤ r_256.toInt ∧ (t.2.1 0 8).toInt + r_256.toInt ≤ (t.2.1 0 13).toInt from by omega) (show (t_509.2.1 0 8).toInt = (t.2.1 0 8).toInt from by omega) hP hD hS (lv_sub hl [0, 1, 2, 3, 4, 5, 6, 7, 8] rfl)
              · replace c_508 : (t.1 0 17).toInt = 3 := i_eq c_508
                refine lv_iconst (v := 1) C.1 C.2.1 dX12_perform_128 (by decide) ?_
                refine lv_goto (tgt := 133) C.1 C.2.1 dX12_perform_129 (by decide) ?_
                refine lv_istore (lv' := [(9, .int 1), (0, .ref (ad 0)), (1, .long r_256), (3, .int (t.1 0 7)), (4, .int 1), (5, .int (t.1 0 15)), (6, .int 0), (7, .int 0), (8, .int 0)]) C.1 C.2.1 dX12_perform_133 hl (by decide) rfl (fun ls hl => ?_)
                have hl : lv_has ls 10 [(0, .ref (ad 0)), (1, .long r_256), (3, .int (t.1 0 7)), (4, .int 1), (5, .int (t.1 0 15)), (6, .int 0), (7, .int 0), (8, .int 0), (9, .int 1)] := lv_sub hl [1, 2, 3, 4, 5, 6, 7, 8, 0] rfl
                refine lv_iload C.1 C.2.1 dX12_perform_135 (lv_at hl 6 rfl) ?_
                refine lv_if_eq (tgt := 147) C.1 C.2.1 dX12_perform_137 (by decide) (fun _ => ?_) (fun h => absurd (by decide) h)
                refine lv_iload C.1 C.2.1 dX12_perform_147 (lv_at hl 7 rfl) ?_
                refine lv_if_eq (tgt := 167) C.1 C.2.1 dX12_perform_149 (by decide) (fun _ => ?_) (fun h => absurd (by decide) h)
                refine lv_iload C.1 C.2.1 dX12_perform_167 (lv_at hl 8 rfl) ?_
                refine lv_if_ne (tgt := 176) C.1 C.2.1 dX12_perform_169 (by decide) (fun _ => ?_) (fun h => absurd h (by decide))
                exact L_176 t r_256 (t.1 0 7) 1 (t.1 0 15) 0 0 0 1 _ _ _ hok hfr ⟨by decide, by decide⟩ ⟨by decide, by decide⟩ ⟨by decide, by decide⟩ ⟨by decide, by decide⟩ ⟨by decide, by decide⟩ (show (t.1 0 12).toInt = 1 → 1 ≤ r_256.toInt ∧ (t.2.1 0 8).toInt + r_256.toInt ≤ (t.2.1 0 13).toInt from by omega) (show (t.2.1 0 8).toInt = (t.2.1 0 8).toInt from by omega) hP hD hS (lv_sub hl [0, 1, 2, 3, 4, 5, 6, 7, 8] rfl)
          · replace c_484 : 34 < (t.1 0 16).toInt := i_nle c_484
            refine lv_aload_n C.1 C.2.1 dX12_perform_96 rfl (lv_at hl 0 rfl) ?_
            refine k_get (v := .int (t.1 0 16)) C hP 0 rfl rfl inlX12 16 (by decide) m_57_3 rfl dX12_perform_97 ?_
            refine lv_bipush (v := 38) C.1 C.2.1 dX12_perform_100 (by decide) ?_
            refine lv_icmp_ge (tgt := 109) C.1 C.2.1 dX12_perform_102 (by decide) (fun c_530 => False.elim (by have c_530 : 38 ≤ (t.1 0 16).toInt := i_le c_530; omega)) (fun c_530 => ?_)
            replace c_530 : (t.1 0 16).toInt < 38 := i_nle c_530
            refine lv_iconst (v := 1) C.1 C.2.1 dX12_perform_105 (by decide) ?_
            refine lv_goto (tgt := 110) C.1 C.2.1 dX12_perform_106 (by decide) ?_
            refine lv_istore (lv' := [(8, .int 1), (0, .ref (ad 0)), (1, .long r_256), (3, .int (t.1 0 7)), (4, .int 1), (5, .int (t.1 0 15)), (6, .int 0), (7, .int 0)]) C.1 C.2.1 dX12_perform_110 hl (by decide) rfl (fun ls hl => ?_)
            have hl : lv_has ls 10 [(0, .ref (ad 0)), (1, .long r_256), (3, .int (t.1 0 7)), (4, .int 1), (5, .int (t.1 0 15)), (6, .int 0), (7, .int 0), (8, .int 1)] := lv_sub hl [1, 2, 3, 4, 5, 6, 7, 0] rfl
            refine lv_aload_n C.1 C.2.1 dX12_perform_112 rfl (lv_at hl 0 rfl) ?_
            refine k_get (v := .int (t.1 0 16)) C hP 0 rfl rfl inlX12 16 (by decide) m_57_3 rfl dX12_perform_113 ?_
            refine lv_iconst (v := 5) C.1 C.2.1 dX12_perform_116 (by decide) ?_
            refine lv_icmp_ne (tgt := 132) C.1 C.2.1 dX12_perform_117 (by decide) (fun c_531 => ?_) (fun c_531 => False.elim (by have c_531 : (t.1 0 16).toInt = 5 := i_eq c_531; omega))
            replace c_531 : ¬ (t.1 0 16).toInt = 5 := i_ne c_531
            refine lv_iconst (v := 0) C.1 C.2.1 dX12_perform_132 (by decide) ?_
            refine lv_istore (lv' := [(9, .int 0), (0, .ref (ad 0)), (1, .long r_256), (3, .int (t.1 0 7)), (4, .int 1), (5, .int (t.1 0 15)), (6, .int 0), (7, .int 0), (8, .int 1)]) C.1 C.2.1 dX12_perform_133 hl (by decide) rfl (fun ls hl => ?_)
            have hl : lv_has ls 10 [(0, .ref (ad 0)), (1, .long r_256), (3, .int (t.1 0 7)), (4, .int 1), (5, .int (t.1 0 15)), (6, .int 0), (7, .int 0), (8, .int 1), (9, .int 0)] := lv_sub hl [1, 2, 3, 4, 5, 6, 7, 8, 0] rfl
            refine lv_iload C.1 C.2.1 dX12_perform_135 (lv_at hl 6 rfl) ?_
            refine lv_if_eq (tgt := 147) C.1 C.2.1 dX12_perform_137 (by decide) (fun _ => ?_) (fun h => absurd (by decide) h)
            refine lv_iload C.1 C.2.1 dX12_perform_147 (lv_at hl 7 rfl) ?_
            refine lv_if_eq (tgt := 167) C.1 C.2.1 dX12_perform_149 (by decide) (fun h => absurd h (by decide)) (fun _ => ?_)
            refine lv_aload_n C.1 C.2.1 dX12_perform_152 rfl (lv_at hl 0 rfl) ?_
            refine lv_aload_n C.1 C.2.1 dX12_perform_153 rfl (lv_at hl 0 rfl) ?_
            refine k_get (v := .int (t.1 0 16)) C hP 0 rfl rfl inlX12 16 (by decide) m_57_3 rfl dX12_perform_154 ?_
            refine lv_aload_n C.1 C.2.1 dX12_perform_157 rfl (lv_at hl 0 rfl) ?_
            refine k_get (v := .int (t.1 0 17)) C hP 0 rfl rfl inlX12 17 (by decide) m_57_4 rfl dX12_perform_158 ?_
            refine g_Vv (As := [.int (t.1 0 16), .int (t.1 0 17)]) (rest := []) C hP hD hS hA (T_X12_begins l D K Z Y ad t hok ((t.1 0 16)) (show (35 : Int) ≤ ((t.1 0 16) : Int32).toInt ∧ ((t.1 0 16) : Int32).toInt ≤ 37 from ⟨by omega, by omega⟩) ((t.1 0 17)) (show (0 : Int) ≤ ((t.1 0 17) : Int32).toInt ∧ ((t.1 0 17) : Int32).toInt ≤ 19 from ⟨by omega, by omega⟩) (show gdA (t.1 0 16) (t.1 0 17) (t.1 0 18) (t.2.2.1 3) from hs0) (show gdU (t.1 0 16) (t.1 0 17) (t.2.2.1 3) (t.2.2.1 9) (t.1 0 35) (t.1 0 36) from hs1) (show (t.1 0 12).toInt = 1 → (t.2.1 0 8).toInt + 1 ≤ (t.2.1 0 13).toInt ∧ (t.2.2.2 4 ((t.1 0 17) : Int32).toNatClampNeg).toInt + 1 ≤ (t.2.1 0 13).toInt from by omega)) hE hZ (uwV m_60_8 m_60_9 m_60_10 m_1_5 m_60_11) (hdV 2 (by decide +kernel) rfl) ⟨Nat.le_of_ble_eq_true rfl, Nat.le_of_ble_eq_true rfl⟩ rfl rfl (ci := 11) (q0 := 0) rfl rfl rfl hl.1 (Nat.le_of_ble_eq_true rfl) dX12_perform_161 ⟨Nat.le_of_ble_eq_true rfl, Nat.le_of_ble_eq_true rfl⟩ (fun t_532 H locs hw hP hD hS => ?_)
            obtain ⟨hok, f_534⟩ := hw
            have hfr : frA [(0, 5), (0, 6), (0, 7), (0, 9), (0, 10), (0, 30), (0, 35), (0, 91)] [(0, 8)] [2, 3, 5, 7, 8, 9, 10, 11, 12, 13, 14] [4, 6] t t_532 := frA_tr hfr f_534 rfl
            have h_535 : (t_532.1 0 7).toInt = (t.1 0 7).toInt := ti_eq (f_534.1 0 7 rfl)
            have h_536 : (t_532.1 0 10).toInt = (t.1 0 10).toInt := ti_eq (f_534.1 0 10 rfl)
            have h_537 : (t_532.1 0 15).toInt = (t.1 0 15).toInt := ti_eq (f_534.1 0 15 rfl)
            have h_538 : (t_532.1 0 16).toInt = (t.1 0 16).toInt := ti_eq (f_534.1 0 16 rfl)
            have h_539 : (t_532.1 0 17).toInt = (t.1 0 17).toInt := ti_eq (f_534.1 0 17 rfl)
            have h_540 : (t_532.2.1 0 8).toInt = (t.2.1 0 8).toInt := tl_eq (f_534.2.1 0 8 rfl)
            have h_541 : (t_532.1 0 9).toInt = (t.1 0 9).toInt := ti_eq (f_534.1 0 9 rfl)
            have h_542 : (t_532.1 0 12).toInt = (t.1 0 12).toInt := ti_eq (f_534.1 0 12 rfl)
            have h_543 : (t_532.2.1 0 13).toInt = (t.2.1 0 13).toInt := tl_eq (f_534.2.1 0 13 rfl)
            have h_544 : (t_532.1 0 18).toInt = (t.1 0 18).toInt := ti_eq (f_534.1 0 18 rfl)
            have h_545 : (t_532.1 0 36).toInt = (t.1 0 36).toInt := ti_eq (f_534.1 0 36 rfl)
            have e_546 : t_532.2.2.1 3 = t.2.2.1 3 := f_534.2.2.1 3 rfl
            have h_547 : (0 : Int) ≤ (t_532.1 0 9).toInt ∧ (t_532.1 0 9).toInt ≤ 10 := hok.1 0 9
            have h_548 : (0 : Int) ≤ (t_532.1 0 12).toInt ∧ (t_532.1 0 12).toInt ≤ 1 := hok.1 0 12
            have h_549 : (0 : Int) ≤ (t_532.1 0 35).toInt ∧ (t_532.1 0 35).toInt ≤ 1700 := hok.1 0 35
            have h_550 : (0 : Int) ≤ (t_532.1 0 36).toInt ∧ (t_532.1 0 36).toInt ≤ 1700 := hok.1 0 36
            refine lv_goto (tgt := 176) C.1 C.2.1 dX12_perform_164 (by decide) ?_
            exact L_176 t_532 r_256 (t.1 0 7) 1 (t.1 0 15) 0 0 1 0 _ _ _ hok hfr ⟨by decide, by decide⟩ ⟨by decide, by decide⟩ ⟨by decide, by decide⟩ ⟨by decide, by decide⟩ ⟨by decide, by decide⟩ (show (t.1 0 12).toInt = 1 → 1 ≤ r_256.toInt ∧ (t.2.1 0 8).toInt + r_256.toInt ≤ (t.2.1 0 13).toInt from by omega) (show (t_532.2.1 0 8).toInt = (t.2.1 0 8).toInt from by omega) hP hD hS (lv_sub hl [0, 1, 2, 3, 4, 5, 6, 7, 8] rfl)
        · replace c_483 : 37 < (t.1 0 16).toInt := i_nle c_483
          refine lv_aload_n C.1 C.2.1 dX12_perform_71 rfl (lv_at hl 0 rfl) ?_
          refine k_get (v := .int (t.1 0 16)) C hP 0 rfl rfl inlX12 16 (by decide) m_57_3 rfl dX12_perform_72 ?_
          refine lv_bipush (v := 48) C.1 C.2.1 dX12_perform_75 (by decide) ?_
          refine lv_icmp_ge (tgt := 84) C.1 C.2.1 dX12_perform_77 (by decide) (fun c_551 => ?_) (fun c_551 => ?_)
          · replace c_551 : 48 ≤ (t.1 0 16).toInt := i_le c_551
            refine lv_iconst (v := 0) C.1 C.2.1 dX12_perform_84 (by decide) ?_
            refine lv_istore (lv' := [(7, .int 0), (0, .ref (ad 0)), (1, .long r_256), (3, .int (t.1 0 7)), (4, .int 1), (5, .int (t.1 0 15)), (6, .int 0)]) C.1 C.2.1 dX12_perform_85 hl (by decide) rfl (fun ls hl => ?_)
            have hl : lv_has ls 10 [(0, .ref (ad 0)), (1, .long r_256), (3, .int (t.1 0 7)), (4, .int 1), (5, .int (t.1 0 15)), (6, .int 0), (7, .int 0)] := lv_sub hl [1, 2, 3, 4, 5, 6, 0] rfl
            refine lv_aload_n C.1 C.2.1 dX12_perform_87 rfl (lv_at hl 0 rfl) ?_
            refine k_get (v := .int (t.1 0 16)) C hP 0 rfl rfl inlX12 16 (by decide) m_57_3 rfl dX12_perform_88 ?_
            refine lv_bipush (v := 34) C.1 C.2.1 dX12_perform_91 (by decide) ?_
            refine lv_icmp_le (tgt := 109) C.1 C.2.1 dX12_perform_93 (by decide) (fun c_552 => False.elim (by have c_552 : (t.1 0 16).toInt ≤ 34 := i_le c_552; omega)) (fun c_552 => ?_)
            replace c_552 : 34 < (t.1 0 16).toInt := i_nle c_552
            refine lv_aload_n C.1 C.2.1 dX12_perform_96 rfl (lv_at hl 0 rfl) ?_
            refine k_get (v := .int (t.1 0 16)) C hP 0 rfl rfl inlX12 16 (by decide) m_57_3 rfl dX12_perform_97 ?_
            refine lv_bipush (v := 38) C.1 C.2.1 dX12_perform_100 (by decide) ?_
            refine lv_icmp_ge (tgt := 109) C.1 C.2.1 dX12_perform_102 (by decide) (fun c_553 => ?_) (fun c_553 => False.elim (by have c_553 : (t.1 0 16).toInt < 38 := i_nle c_553; omega))
            replace c_553 : 38 ≤ (t.1 0 16).toInt := i_le c_553
            refine lv_iconst (v := 0) C.1 C.2.1 dX12_perform_109 (by decide) ?_
            refine lv_istore (lv' := [(8, .int 0), (0, .ref (ad 0)), (1, .long r_256), (3, .int (t.1 0 7)), (4, .int 1), (5, .int (t.1 0 15)), (6, .int 0), (7, .int 0)]) C.1 C.2.1 dX12_perform_110 hl (by decide) rfl (fun ls hl => ?_)
            have hl : lv_has ls 10 [(0, .ref (ad 0)), (1, .long r_256), (3, .int (t.1 0 7)), (4, .int 1), (5, .int (t.1 0 15)), (6, .int 0), (7, .int 0), (8, .int 0)] := lv_sub hl [1, 2, 3, 4, 5, 6, 7, 0] rfl
            refine lv_aload_n C.1 C.2.1 dX12_perform_112 rfl (lv_at hl 0 rfl) ?_
            refine k_get (v := .int (t.1 0 16)) C hP 0 rfl rfl inlX12 16 (by decide) m_57_3 rfl dX12_perform_113 ?_
            refine lv_iconst (v := 5) C.1 C.2.1 dX12_perform_116 (by decide) ?_
            refine lv_icmp_ne (tgt := 132) C.1 C.2.1 dX12_perform_117 (by decide) (fun c_554 => ?_) (fun c_554 => False.elim (by have c_554 : (t.1 0 16).toInt = 5 := i_eq c_554; omega))
            replace c_554 : ¬ (t.1 0 16).toInt = 5 := i_ne c_554
            refine lv_iconst (v := 0) C.1 C.2.1 dX12_perform_132 (by decide) ?_
            refine lv_istore (lv' := [(9, .int 0), (0, .ref (ad 0)), (1, .long r_256), (3, .int (t.1 0 7)), (4, .int 1), (5, .int (t.1 0 15)), (6, .int 0), (7, .int 0), (8, .int 0)]) C.1 C.2.1 dX12_perform_133 hl (by decide) rfl (fun ls hl => ?_)
            have hl : lv_has ls 10 [(0, .ref (ad 0)), (1, .long r_256), (3, .int (t.1 0 7)), (4, .int 1), (5, .int (t.1 0 15)), (6, .int 0), (7, .int 0), (8, .int 0), (9, .int 0)] := lv_sub hl [1, 2, 3, 4, 5, 6, 7, 8, 0] rfl
            refine lv_iload C.1 C.2.1 dX12_perform_135 (lv_at hl 6 rfl) ?_
            refine lv_if_eq (tgt := 147) C.1 C.2.1 dX12_perform_137 (by decide) (fun _ => ?_) (fun h => absurd (by decide) h)
            refine lv_iload C.1 C.2.1 dX12_perform_147 (lv_at hl 7 rfl) ?_
            refine lv_if_eq (tgt := 167) C.1 C.2.1 dX12_perform_149 (by decide) (fun _ => ?_) (fun h => absurd (by decide) h)
            refine lv_iload C.1 C.2.1 dX12_perform_167 (lv_at hl 8 rfl) ?_
            refine lv_if_ne (tgt := 176) C.1 C.2.1 dX12_perform_169 (by decide) (fun h => absurd h (by decide)) (fun _ => ?_)
            refine lv_aload_n C.1 C.2.1 dX12_perform_172 rfl (lv_at hl 0 rfl) ?_
            refine g_Vv (As := []) (rest := []) C hP hD hS hA (T_X12_work l D K Z Y ad t hok (show gdA (t.1 0 16) (t.1 0 17) (t.1 0 18) (t.2.2.1 3) from hs0)) hE hZ (uwV m_61_10 m_61_11 m_61_12 m_1_5 m_61_13) (hdV 0 (by decide +kernel) rfl) ⟨Nat.le_of_ble_eq_true rfl, Nat.le_of_ble_eq_true rfl⟩ rfl rfl (ci := 11) (q0 := 0) rfl rfl rfl hl.1 (Nat.le_of_ble_eq_true rfl) dX12_perform_173 ⟨Nat.le_of_ble_eq_true rfl, Nat.le_of_ble_eq_true rfl⟩ (fun t_555 H locs hw hP hD hS => ?_)
            obtain ⟨hok, f_557⟩ := hw
            have hfr : frA [(0, 5), (0, 6), (0, 7), (0, 9), (0, 10), (0, 30), (0, 35), (0, 91)] [(0, 8)] [2, 3, 5, 7, 8, 9, 10, 11, 12, 13, 14] [4, 6] t t_555 := frA_tr hfr f_557 rfl
            have h_558 : (t_555.1 0 7).toInt = (t.1 0 7).toInt := ti_eq (f_557.1 0 7 rfl)
            have h_559 : (t_555.1 0 10).toInt = (t.1 0 10).toInt := ti_eq (f_557.1 0 10 rfl)
            have h_560 : (t_555.1 0 15).toInt = (t.1 0 15).toInt := ti_eq (f_557.1 0 15 rfl)
            have h_561 : (t_555.1 0 16).toInt = (t.1 0 16).toInt := ti_eq (f_557.1 0 16 rfl)
            have h_562 : (t_555.2.1 0 8).toInt = (t.2.1 0 8).toInt := tl_eq (f_557.2.1 0 8 rfl)
            have h_563 : (t_555.1 0 9).toInt = (t.1 0 9).toInt := ti_eq (f_557.1 0 9 rfl)
            have h_564 : (t_555.1 0 12).toInt = (t.1 0 12).toInt := ti_eq (f_557.1 0 12 rfl)
            have h_565 : (t_555.2.1 0 13).toInt = (t.2.1 0 13).toInt := tl_eq (f_557.2.1 0 13 rfl)
            have h_566 : (t_555.1 0 17).toInt = (t.1 0 17).toInt := ti_eq (f_557.1 0 17 rfl)
            have h_567 : (t_555.1 0 18).toInt = (t.1 0 18).toInt := ti_eq (f_557.1 0 18 rfl)
            have h_568 : (t_555.1 0 35).toInt = (t.1 0 35).toInt := ti_eq (f_557.1 0 35 rfl)
            have h_569 : (t_555.1 0 36).toInt = (t.1 0 36).toInt := ti_eq (f_557.1 0 36 rfl)
            have e_570 : t_555.2.2.2 4 = t.2.2.2 4 := f_557.2.2.2 4 rfl
            have e_571 : t_555.2.2.1 9 = t.2.2.1 9 := f_557.2.2.1 9 rfl
            have h_572 : (0 : Int) ≤ (t_555.1 0 9).toInt ∧ (t_555.1 0 9).toInt ≤ 10 := hok.1 0 9
            have h_573 : (0 : Int) ≤ (t_555.1 0 12).toInt ∧ (t_555.1 0 12).toInt ≤ 1 := hok.1 0 12
            have h_574 : (0 : Int) ≤ (t_555.1 0 17).toInt ∧ (t_555.1 0 17).toInt ≤ 63 := hok.1 0 17
            have h_575 : (0 : Int) ≤ (t_555.1 0 35).toInt ∧ (t_555.1 0 35).toInt ≤ 1700 := hok.1 0 35
            have h_576 : (0 : Int) ≤ (t_555.1 0 36).toInt ∧ (t_555.1 0 36).toInt ≤ 1700 := hok.1 0 36
            exact L_176 t_555 r_256 (t.1 0 7) 1 (t.1 0 15) 0 0 0 0 _ _ _ hok hfr ⟨by decide, by decide⟩ ⟨by decide, by decide⟩ ⟨by decide, by decide⟩ ⟨by decide, by decide⟩ ⟨by decide, by decide⟩ (show (t.1 0 12).toInt = 1 → 1 ≤ r_256.toInt ∧ (t.2.1 0 8).toInt + r_256.toInt ≤ (t.2.1 0 13).toInt from by omega) (show (t_555.2.1 0 8).toInt = (t.2.1 0 8).toInt from by omega) hP hD hS (lv_sub hl [0, 1, 2, 3, 4, 5, 6, 7, 8] rfl)
          · replace c_551 : (t.1 0 16).toInt < 48 := i_nle c_551
            refine lv_iconst (v := 1) C.1 C.2.1 dX12_perform_80 (by decide) ?_
            refine lv_goto (tgt := 85) C.1 C.2.1 dX12_perform_81 (by decide) ?_
            refine lv_istore (lv' := [(7, .int 1), (0, .ref (ad 0)), (1, .long r_256), (3, .int (t.1 0 7)), (4, .int 1), (5, .int (t.1 0 15)), (6, .int 0)]) C.1 C.2.1 dX12_perform_85 hl (by decide) rfl (fun ls hl => ?_)
            have hl : lv_has ls 10 [(0, .ref (ad 0)), (1, .long r_256), (3, .int (t.1 0 7)), (4, .int 1), (5, .int (t.1 0 15)), (6, .int 0), (7, .int 1)] := lv_sub hl [1, 2, 3, 4, 5, 6, 0] rfl
            refine lv_aload_n C.1 C.2.1 dX12_perform_87 rfl (lv_at hl 0 rfl) ?_
            refine k_get (v := .int (t.1 0 16)) C hP 0 rfl rfl inlX12 16 (by decide) m_57_3 rfl dX12_perform_88 ?_
            refine lv_bipush (v := 34) C.1 C.2.1 dX12_perform_91 (by decide) ?_
            refine lv_icmp_le (tgt := 109) C.1 C.2.1 dX12_perform_93 (by decide) (fun c_577 => False.elim (by have c_577 : (t.1 0 16).toInt ≤ 34 := i_le c_577; omega)) (fun c_577 => ?_)
            replace c_577 : 34 < (t.1 0 16).toInt := i_nle c_577
            refine lv_aload_n C.1 C.2.1 dX12_perform_96 rfl (lv_at hl 0 rfl) ?_
            refine k_get (v := .int (t.1 0 16)) C hP 0 rfl rfl inlX12 16 (by decide) m_57_3 rfl dX12_perform_97 ?_
            refine lv_bipush (v := 38) C.1 C.2.1 dX12_perform_100 (by decide) ?_
            refine lv_icmp_ge (tgt := 109) C.1 C.2.1 dX12_perform_102 (by decide) (fun c_578 => ?_) (fun c_578 => False.elim (by have c_578 : (t.1 0 16).toInt < 38 := i_nle c_578; omega))
            replace c_578 : 38 ≤ (t.1 0 16).toInt := i_le c_578
            refine lv_iconst (v := 0) C.1 C.2.1 dX12_perform_109 (by decide) ?_
            refine lv_istore (lv' := [(8, .int 0), (0, .ref (ad 0)), (1, .long r_256), (3, .int (t.1 0 7)), (4, .int 1), (5, .int (t.1 0 15)), (6, .int 0), (7, .int 1)]) C.1 C.2.1 dX12_perform_110 hl (by decide) rfl (fun ls hl => ?_)
            have hl : lv_has ls 10 [(0, .ref (ad 0)), (1, .long r_256), (3, .int (t.1 0 7)), (4, .int 1), (5, .int (t.1 0 15)), (6, .int 0), (7, .int 1), (8, .int 0)] := lv_sub hl [1, 2, 3, 4, 5, 6, 7, 0] rfl
            refine lv_aload_n C.1 C.2.1 dX12_perform_112 rfl (lv_at hl 0 rfl) ?_
            refine k_get (v := .int (t.1 0 16)) C hP 0 rfl rfl inlX12 16 (by decide) m_57_3 rfl dX12_perform_113 ?_
            refine lv_iconst (v := 5) C.1 C.2.1 dX12_perform_116 (by decide) ?_
            refine lv_icmp_ne (tgt := 132) C.1 C.2.1 dX12_perform_117 (by decide) (fun c_579 => ?_) (fun c_579 => False.elim (by have c_579 : (t.1 0 16).toInt = 5 := i_eq c_579; omega))
            replace c_579 : ¬ (t.1 0 16).toInt = 5 := i_ne c_579
            refine lv_iconst (v := 0) C.1 C.2.1 dX12_perform_132 (by decide) ?_
            refine lv_istore (lv' := [(9, .int 0), (0, .ref (ad 0)), (1, .long r_256), (3, .int (t.1 0 7)), (4, .int 1), (5, .int (t.1 0 15)), (6, .int 0), (7, .int 1), (8, .int 0)]) C.1 C.2.1 dX12_perform_133 hl (by decide) rfl (fun ls hl => ?_)
            have hl : lv_has ls 10 [(0, .ref (ad 0)), (1, .long r_256), (3, .int (t.1 0 7)), (4, .int 1), (5, .int (t.1 0 15)), (6, .int 0), (7, .int 1), (8, .int 0), (9, .int 0)] := lv_sub hl [1, 2, 3, 4, 5, 6, 7, 8, 0] rfl
            refine lv_iload C.1 C.2.1 dX12_perform_135 (lv_at hl 6 rfl) ?_
            refine lv_if_eq (tgt := 147) C.1 C.2.1 dX12_perform_137 (by decide) (fun h => absurd h (by decide)) (fun _ => ?_)
            refine lv_aload_n C.1 C.2.1 dX12_perform_140 rfl (lv_at hl 0 rfl) ?_
            refine g_Vv (As := []) (rest := []) C hP hD hS hA (T_X12_jump l D K Z Y ad t hok (show (t.1 0 16).toInt = 34 ∨ (t.1 0 16).toInt = 38 → (t.1 0 17).toInt ≤ 19 from by omega)) hE hZ (uwV m_60_4 m_60_5 m_60_6 m_1_5 m_60_7) (hdV 0 (by decide +kernel) rfl) ⟨Nat.le_of_ble_eq_true rfl, Nat.le_of_ble_eq_true rfl⟩ rfl rfl (ci := 11) (q0 := 0) rfl rfl rfl hl.1 (Nat.le_of_ble_eq_true rfl) dX12_perform_141 ⟨Nat.le_of_ble_eq_true rfl, Nat.le_of_ble_eq_true rfl⟩ (fun t_580 H locs hw hP hD hS => ?_)
            obtain ⟨hok, f_582⟩ := hw
            have hfr : frA [(0, 5), (0, 6), (0, 7), (0, 9), (0, 10), (0, 30), (0, 35), (0, 91)] [(0, 8)] [2, 3, 5, 7, 8, 9, 10, 11, 12, 13, 14] [4, 6] t t_580 := frA_tr hfr f_582 rfl
            have h_583 : (t_580.1 0 10).toInt = (t.1 0 10).toInt := ti_eq (f_582.1 0 10 rfl)
            have h_584 : (t_580.1 0 15).toInt = (t.1 0 15).toInt := ti_eq (f_582.1 0 15 rfl)
            have h_585 : (t_580.1 0 16).toInt = (t.1 0 16).toInt := ti_eq (f_582.1 0 16 rfl)
            have h_586 : (t_580.2.1 0 8).toInt = (t.2.1 0 8).toInt := tl_eq (f_582.2.1 0 8 rfl)
            have h_587 : (t_580.1 0 9).toInt = (t.1 0 9).toInt := ti_eq (f_582.1 0 9 rfl)
            have h_588 : (t_580.1 0 12).toInt = (t.1 0 12).toInt := ti_eq (f_582.1 0 12 rfl)
            have h_589 : (t_580.2.1 0 13).toInt = (t.2.1 0 13).toInt := tl_eq (f_582.2.1 0 13 rfl)
            have h_590 : (t_580.1 0 17).toInt = (t.1 0 17).toInt := ti_eq (f_582.1 0 17 rfl)
            have h_591 : (t_580.1 0 18).toInt = (t.1 0 18).toInt := ti_eq (f_582.1 0 18 rfl)
            have h_592 : (t_580.1 0 35).toInt = (t.1 0 35).toInt := ti_eq (f_582.1 0 35 rfl)
            have h_593 : (t_580.1 0 36).toInt = (t.1 0 36).toInt := ti_eq (f_582.1 0 36 rfl)
            have e_594 : t_580.2.2.2 4 = t.2.2.2 4 := f_582.2.2.2 4 rfl
            have e_595 : t_580.2.2.1 9 = t.2.2.1 9 := f_582.2.2.1 9 rfl
            have h_596 : (0 : Int) ≤ (t_580.1 0 9).toInt ∧ (t_580.1 0 9).toInt ≤ 10 := hok.1 0 9
            have h_597 : (0 : Int) ≤ (t_580.1 0 12).toInt ∧ (t_580.1 0 12).toInt ≤ 1 := hok.1 0 12
            have h_598 : (0 : Int) ≤ (t_580.1 0 17).toInt ∧ (t_580.1 0 17).toInt ≤ 63 := hok.1 0 17
            have h_599 : (0 : Int) ≤ (t_580.1 0 35).toInt ∧ (t_580.1 0 35).toInt ≤ 1700 := hok.1 0 35
            have h_600 : (0 : Int) ≤ (t_580.1 0 36).toInt ∧ (t_580.1 0 36).toInt ≤ 1700 := hok.1 0 36
            refine lv_goto (tgt := 176) C.1 C.2.1 dX12_perform_144 (by decide) ?_
            exact L_176 t_580 r_256 (t.1 0 7) 1 (t.1 0 15) 0 1 0 0 _ _ _ hok hfr ⟨by decide, by decide⟩ ⟨by decide, by decide⟩ ⟨by decide, by decide⟩ ⟨by decide, by decide⟩ ⟨by decide, by decide⟩ (show (t.1 0 12).toInt = 1 → 1 ≤ r_256.toInt ∧ (t.2.1 0 8).toInt + r_256.toInt ≤ (t.2.1 0 13).toInt from by omega) (show (t_580.2.1 0 8).toInt = (t.2.1 0 8).toInt from by omega) hP hD hS (lv_sub hl [0, 1, 2, 3, 4, 5, 6, 7, 8] rfl)
    · replace c_458 : (t.1 0 16).toInt = 5 := i_eq c_458
      refine lv_aload_n C.1 C.2.1 dX12_perform_38 rfl (lv_at hl 0 rfl) ?_
      refine k_get (v := .int (t.1 0 17)) C hP 0 rfl rfl inlX12 17 (by decide) m_57_4 rfl dX12_perform_39 ?_
      refine lv_iconst (v := 2) C.1 C.2.1 dX12_perform_42 (by decide) ?_
      refine lv_icmp_ne (tgt := 50) C.1 C.2.1 dX12_perform_43 (by decide) (fun c_601 => ?_) (fun c_601 => ?_)
      · replace c_601 : ¬ (t.1 0 17).toInt = 2 := i_ne c_601
        refine lv_iconst (v := 0) C.1 C.2.1 dX12_perform_50 (by decide) ?_
        refine lv_istore (lv' := [(6, .int 0), (0, .ref (ad 0)), (1, .long r_256), (3, .int (t.1 0 7)), (4, .int 1), (5, .int (t.1 0 15))]) C.1 C.2.1 dX12_perform_51 hl (by decide) rfl (fun ls hl => ?_)
        have hl : lv_has ls 10 [(0, .ref (ad 0)), (1, .long r_256), (3, .int (t.1 0 7)), (4, .int 1), (5, .int (t.1 0 15)), (6, .int 0)] := lv_sub hl [1, 2, 3, 4, 5, 0] rfl
        refine lv_aload_n C.1 C.2.1 dX12_perform_53 rfl (lv_at hl 0 rfl) ?_
        refine k_get (v := .int (t.1 0 16)) C hP 0 rfl rfl inlX12 16 (by decide) m_57_3 rfl dX12_perform_54 ?_
        refine lv_bipush (v := 34) C.1 C.2.1 dX12_perform_57 (by decide) ?_
        refine lv_icmp_eq (tgt := 80) C.1 C.2.1 dX12_perform_59 (by decide) (fun c_602 => False.elim (by have c_602 : (t.1 0 16).toInt = 34 := i_eq c_602; omega)) (fun c_602 => ?_)
        replace c_602 : ¬ (t.1 0 16).toInt = 34 := i_ne c_602
        refine lv_aload_n C.1 C.2.1 dX12_perform_62 rfl (lv_at hl 0 rfl) ?_
        refine k_get (v := .int (t.1 0 16)) C hP 0 rfl rfl inlX12 16 (by decide) m_57_3 rfl dX12_perform_63 ?_
        refine lv_bipush (v := 37) C.1 C.2.1 dX12_perform_66 (by decide) ?_
        refine lv_icmp_le (tgt := 84) C.1 C.2.1 dX12_perform_68 (by decide) (fun c_603 => ?_) (fun c_603 => False.elim (by have c_603 : 37 < (t.1 0 16).toInt := i_nle c_603; omega))
        replace c_603 : (t.1 0 16).toInt ≤ 37 := i_le c_603
        refine lv_iconst (v := 0) C.1 C.2.1 dX12_perform_84 (by decide) ?_
        refine lv_istore (lv' := [(7, .int 0), (0, .ref (ad 0)), (1, .long r_256), (3, .int (t.1 0 7)), (4, .int 1), (5, .int (t.1 0 15)), (6, .int 0)]) C.1 C.2.1 dX12_perform_85 hl (by decide) rfl (fun ls hl => ?_)
        have hl : lv_has ls 10 [(0, .ref (ad 0)), (1, .long r_256), (3, .int (t.1 0 7)), (4, .int 1), (5, .int (t.1 0 15)), (6, .int 0), (7, .int 0)] := lv_sub hl [1, 2, 3, 4, 5, 6, 0] rfl
        refine lv_aload_n C.1 C.2.1 dX12_perform_87 rfl (lv_at hl 0 rfl) ?_
        refine k_get (v := .int (t.1 0 16)) C hP 0 rfl rfl inlX12 16 (by decide) m_57_3 rfl dX12_perform_88 ?_
        refine lv_bipush (v := 34) C.1 C.2.1 dX12_perform_91 (by decide) ?_
        refine lv_icmp_le (tgt := 109) C.1 C.2.1 dX12_perform_93 (by decide) (fun c_604 => ?_) (fun c_604 => False.elim (by have c_604 : 34 < (t.1 0 16).toInt := i_nle c_604; omega))
        replace c_604 : (t.1 0 16).toInt ≤ 34 := i_le c_604
        refine lv_iconst (v := 0) C.1 C.2.1 dX12_perform_109 (by decide) ?_
        refine lv_istore (lv' := [(8, .int 0), (0, .ref (ad 0)), (1, .long r_256), (3, .int (t.1 0 7)), (4, .int 1), (5, .int (t.1 0 15)), (6, .int 0), (7, .int 0)]) C.1 C.2.1 dX12_perform_110 hl (by decide) rfl (fun ls hl => ?_)
        have hl : lv_has ls 10 [(0, .ref (ad 0)), (1, .long r_256), (3, .int (t.1 0 7)), (4, .int 1), (5, .int (t.1 0 15)), (6, .int 0), (7, .int 0), (8, .int 0)] := lv_sub hl [1, 2, 3, 4, 5, 6, 7, 0] rfl
        refine lv_aload_n C.1 C.2.1 dX12_perform_112 rfl (lv_at hl 0 rfl) ?_
        refine k_get (v := .int (t.1 0 16)) C hP 0 rfl rfl inlX12 16 (by decide) m_57_3 rfl dX12_perform_113 ?_
        refine lv_iconst (v := 5) C.1 C.2.1 dX12_perform_116 (by decide) ?_
        refine lv_icmp_ne (tgt := 132) C.1 C.2.1 dX12_perform_117 (by decide) (fun c_605 => False.elim (by have c_605 : ¬ (t.1 0 16).toInt = 5 := i_ne c_605; omega)) (fun c_605 => ?_)
        replace c_605 : (t.1 0 16).toInt = 5 := i_eq c_605
        refine lv_aload_n C.1 C.2.1 dX12_perform_120 rfl (lv_at hl 0 rfl) ?_
        refine k_get (v := .int (t.1 0 17)) C hP 0 rfl rfl inlX12 17 (by decide) m_57_4 rfl dX12_perform_121 ?_
        refine lv_iconst (v := 3) C.1 C.2.1 dX12_perform_124 (by decide) ?_
        refine lv_icmp_ne (tgt := 132) C.1 C.2.1 dX12_perform_125 (by decide) (fun c_606 => ?_) (fun c_606 => ?_)
        · replace c_606 : ¬ (t.1 0 17).toInt = 3 := i_ne c_606
          refine lv_iconst (v := 0) C.1 C.2.1 dX12_perform_132 (by decide) ?_
          refine lv_istore (lv' := [(9, .int 0), (0, .ref (ad 0)), (1, .long r_256), (3, .int (t.1 0 7)), (4, .int 1), (5, .int (t.1 0 15)), (6, .int 0), (7, .int 0), (8, .int 0)]) C.1 C.2.1 dX12_perform_133 hl (by decide) rfl (fun ls hl => ?_)
          have hl : lv_has ls 10 [(0, .ref (ad 0)), (1, .long r_256), (3, .int (t.1 0 7)), (4, .int 1), (5, .int (t.1 0 15)), (6, .int 0), (7, .int 0), (8, .int 0), (9, .int 0)] := lv_sub hl [1, 2, 3, 4, 5, 6, 7, 8, 0] rfl
          refine lv_iload C.1 C.2.1 dX12_perform_135 (lv_at hl 6 rfl) ?_
          refine lv_if_eq (tgt := 147) C.1 C.2.1 dX12_perform_137 (by decide) (fun _ => ?_) (fun h => absurd (by decide) h)
          refine lv_iload C.1 C.2.1 dX12_perform_147 (lv_at hl 7 rfl) ?_
          refine lv_if_eq (tgt := 167) C.1 C.2.1 dX12_perform_149 (by decide) (fun _ => ?_) (fun h => absurd (by decide) h)
          refine lv_iload C.1 C.2.1 dX12_perform_167 (lv_at hl 8 rfl) ?_
          refine lv_if_ne (tgt := 176) C.1 C.2.1 dX12_perform_169 (by decide) (fun h => absurd h (by decide)) (fun _ => ?_)
          refine lv_aload_n C.1 C.2.1 dX12_perform_172 rfl (lv_at hl 0 rfl) ?_
          refine g_Vv (As := []) (rest := []) C hP hD hS hA (T_X12_work l D K Z Y ad t hok (show gdA (t.1 0 16) (t.1 0 17) (t.1 0 18) (t.2.2.1 3) from hs0)) hE hZ (uwV m_61_10 m_61_11 m_61_12 m_1_5 m_61_13) (hdV 0 (by decide +kernel) rfl) ⟨Nat.le_of_ble_eq_true rfl, Nat.le_of_ble_eq_true rfl⟩ rfl rfl (ci := 11) (q0 := 0) rfl rfl rfl hl.1 (Nat.le_of_ble_eq_true rfl) dX12_perform_173 ⟨Nat.le_of_ble_eq_true rfl, Nat.le_of_ble_eq_true rfl⟩ (fun t_607 H locs hw hP hD hS => ?_)
          obtain ⟨hok, f_609⟩ := hw
          have hfr : frA [(0, 5), (0, 6), (0, 7), (0, 9), (0, 10), (0, 30), (0, 35), (0, 91)] [(0, 8)] [2, 3, 5, 7, 8, 9, 10, 11, 12, 13, 14] [4, 6] t t_607 := frA_tr hfr f_609 rfl
          have h_610 : (t_607.1 0 7).toInt = (t.1 0 7).toInt := ti_eq (f_609.1 0 7 rfl)
          have h_611 : (t_607.1 0 10).toInt = (t.1 0 10).toInt := ti_eq (f_609.1 0 10 rfl)
          have h_612 : (t_607.1 0 15).toInt = (t.1 0 15).toInt := ti_eq (f_609.1 0 15 rfl)
          have h_613 : (t_607.1 0 16).toInt = (t.1 0 16).toInt := ti_eq (f_609.1 0 16 rfl)
          have h_614 : (t_607.1 0 17).toInt = (t.1 0 17).toInt := ti_eq (f_609.1 0 17 rfl)
          have h_615 : (t_607.2.1 0 8).toInt = (t.2.1 0 8).toInt := tl_eq (f_609.2.1 0 8 rfl)
          have h_616 : (t_607.1 0 9).toInt = (t.1 0 9).toInt := ti_eq (f_609.1 0 9 rfl)
          have h_617 : (t_607.1 0 12).toInt = (t.1 0 12).toInt := ti_eq (f_609.1 0 12 rfl)
          have h_618 : (t_607.2.1 0 13).toInt = (t.2.1 0 13).toInt := tl_eq (f_609.2.1 0 13 rfl)
          have h_619 : (t_607.1 0 18).toInt = (t.1 0 18).toInt := ti_eq (f_609.1 0 18 rfl)
          have h_620 : (t_607.1 0 35).toInt = (t.1 0 35).toInt := ti_eq (f_609.1 0 35 rfl)
          have h_621 : (t_607.1 0 36).toInt = (t.1 0 36).toInt := ti_eq (f_609.1 0 36 rfl)
          have e_622 : t_607.2.2.2 4 = t.2.2.2 4 := f_609.2.2.2 4 rfl
          have e_623 : t_607.2.2.1 9 = t.2.2.1 9 := f_609.2.2.1 9 rfl
          have h_624 : (0 : Int) ≤ (t_607.1 0 9).toInt ∧ (t_607.1 0 9).toInt ≤ 10 := hok.1 0 9
          have h_625 : (0 : Int) ≤ (t_607.1 0 12).toInt ∧ (t_607.1 0 12).toInt ≤ 1 := hok.1 0 12
          have h_626 : (0 : Int) ≤ (t_607.1 0 35).toInt ∧ (t_607.1 0 35).toInt ≤ 1700 := hok.1 0 35
          have h_627 : (0 : Int) ≤ (t_607.1 0 36).toInt ∧ (t_607.1 0 36).toInt ≤ 1700 := hok.1 0 36
          exact L_176 t_607 r_256 (t.1 0 7) 1 (t.1 0 15) 0 0 0 0 _ _ _ hok hfr ⟨by decide, by decide⟩ ⟨by decide, by decide⟩ ⟨by decide, by decide⟩ ⟨by decide, by decide⟩ ⟨by decide, by decide⟩ (show (t.1 0 12).toInt = 1 → 1 ≤ r_256.toInt ∧ (t.2.1 0 8).toInt + r_256.toInt ≤ (t.2.1 0 13).toInt from by omega) (show (t_607.2.1 0 8).toInt = (t.2.1 0 8).toInt from by omega) hP hD hS (lv_sub hl [0, 1, 2, 3, 4, 5, 6, 7, 8] rfl)
        · replace c_606 : (t.1 0 17).toInt = 3 := i_eq c_606
          refine lv_iconst (v := 1) C.1 C.2.1 dX12_perform_128 (by decide) ?_
          refine lv_goto (tgt := 133) C.1 C.2.1 dX12_perform_129 (by decide) ?_
          refine lv_istore (lv' := [(9, .int 1), (0, .ref (ad 0)), (1, .long r_256), (3, .int (t.1 0 7)), (4, .int 1), (5, .int (t.1 0 15)), (6, .int 0), (7, .int 0), (8, .int 0)]) C.1 C.2.1 dX12_perform_133 hl (by decide) rfl (fun ls hl => ?_)
          have hl : lv_has ls 10 [(0, .ref (ad 0)), (1, .long r_256), (3, .int (t.1 0 7)), (4, .int 1), (5, .int (t.1 0 15)), (6, .int 0), (7, .int 0), (8, .int 0), (9, .int 1)] := lv_sub hl [1, 2, 3, 4, 5, 6, 7, 8, 0] rfl
          refine lv_iload C.1 C.2.1 dX12_perform_135 (lv_at hl 6 rfl) ?_
          refine lv_if_eq (tgt := 147) C.1 C.2.1 dX12_perform_137 (by decide) (fun _ => ?_) (fun h => absurd (by decide) h)
          refine lv_iload C.1 C.2.1 dX12_perform_147 (lv_at hl 7 rfl) ?_
          refine lv_if_eq (tgt := 167) C.1 C.2.1 dX12_perform_149 (by decide) (fun _ => ?_) (fun h => absurd (by decide) h)
          refine lv_iload C.1 C.2.1 dX12_perform_167 (lv_at hl 8 rfl) ?_
          refine lv_if_ne (tgt := 176) C.1 C.2.1 dX12_perform_169 (by decide) (fun _ => ?_) (fun h => absurd h (by decide))
          exact L_176 t r_256 (t.1 0 7) 1 (t.1 0 15) 0 0 0 1 _ _ _ hok hfr ⟨by decide, by decide⟩ ⟨by decide, by decide⟩ ⟨by decide, by decide⟩ ⟨by decide, by decide⟩ ⟨by decide, by decide⟩ (show (t.1 0 12).toInt = 1 → 1 ≤ r_256.toInt ∧ (t.2.1 0 8).toInt + r_256.toInt ≤ (t.2.1 0 13).toInt from by omega) (show (t.2.1 0 8).toInt = (t.2.1 0 8).toInt from by omega) hP hD hS (lv_sub hl [0, 1, 2, 3, 4, 5, 6, 7, 8] rfl)
      · replace c_601 : (t.1 0 17).toInt = 2 := i_eq c_601
        refine lv_iconst (v := 1) C.1 C.2.1 dX12_perform_46 (by decide) ?_
        refine lv_goto (tgt := 51) C.1 C.2.1 dX12_perform_47 (by decide) ?_
        refine lv_istore (lv' := [(6, .int 1), (0, .ref (ad 0)), (1, .long r_256), (3, .int (t.1 0 7)), (4, .int 1), (5, .int (t.1 0 15))]) C.1 C.2.1 dX12_perform_51 hl (by decide) rfl (fun ls hl => ?_)
        have hl : lv_has ls 10 [(0, .ref (ad 0)), (1, .long r_256), (3, .int (t.1 0 7)), (4, .int 1), (5, .int (t.1 0 15)), (6, .int 1)] := lv_sub hl [1, 2, 3, 4, 5, 0] rfl
        refine lv_aload_n C.1 C.2.1 dX12_perform_53 rfl (lv_at hl 0 rfl) ?_
        refine k_get (v := .int (t.1 0 16)) C hP 0 rfl rfl inlX12 16 (by decide) m_57_3 rfl dX12_perform_54 ?_
        refine lv_bipush (v := 34) C.1 C.2.1 dX12_perform_57 (by decide) ?_
        refine lv_icmp_eq (tgt := 80) C.1 C.2.1 dX12_perform_59 (by decide) (fun c_628 => False.elim (by have c_628 : (t.1 0 16).toInt = 34 := i_eq c_628; omega)) (fun c_628 => ?_)
        replace c_628 : ¬ (t.1 0 16).toInt = 34 := i_ne c_628
        refine lv_aload_n C.1 C.2.1 dX12_perform_62 rfl (lv_at hl 0 rfl) ?_
        refine k_get (v := .int (t.1 0 16)) C hP 0 rfl rfl inlX12 16 (by decide) m_57_3 rfl dX12_perform_63 ?_
        refine lv_bipush (v := 37) C.1 C.2.1 dX12_perform_66 (by decide) ?_
        refine lv_icmp_le (tgt := 84) C.1 C.2.1 dX12_perform_68 (by decide) (fun c_629 => ?_) (fun c_629 => False.elim (by have c_629 : 37 < (t.1 0 16).toInt := i_nle c_629; omega))
        replace c_629 : (t.1 0 16).toInt ≤ 37 := i_le c_629
        refine lv_iconst (v := 0) C.1 C.2.1 dX12_perform_84 (by decide) ?_
        refine lv_istore (lv' := [(7, .int 0), (0, .ref (ad 0)), (1, .long r_256), (3, .int (t.1 0 7)), (4, .int 1), (5, .int (t.1 0 15)), (6, .int 1)]) C.1 C.2.1 dX12_perform_85 hl (by decide) rfl (fun ls hl => ?_)
        have hl : lv_has ls 10 [(0, .ref (ad 0)), (1, .long r_256), (3, .int (t.1 0 7)), (4, .int 1), (5, .int (t.1 0 15)), (6, .int 1), (7, .int 0)] := lv_sub hl [1, 2, 3, 4, 5, 6, 0] rfl
        refine lv_aload_n C.1 C.2.1 dX12_perform_87 rfl (lv_at hl 0 rfl) ?_
        refine k_get (v := .int (t.1 0 16)) C hP 0 rfl rfl inlX12 16 (by decide) m_57_3 rfl dX12_perform_88 ?_
        refine lv_bipush (v := 34) C.1 C.2.1 dX12_perform_91 (by decide) ?_
        refine lv_icmp_le (tgt := 109) C.1 C.2.1 dX12_perform_93 (by decide) (fun c_630 => ?_) (fun c_630 => False.elim (by have c_630 : 34 < (t.1 0 16).toInt := i_nle c_630; omega))
        replace c_630 : (t.1 0 16).toInt ≤ 34 := i_le c_630
        refine lv_iconst (v := 0) C.1 C.2.1 dX12_perform_109 (by decide) ?_
        refine lv_istore (lv' := [(8, .int 0), (0, .ref (ad 0)), (1, .long r_256), (3, .int (t.1 0 7)), (4, .int 1), (5, .int (t.1 0 15)), (6, .int 1), (7, .int 0)]) C.1 C.2.1 dX12_perform_110 hl (by decide) rfl (fun ls hl => ?_)
        have hl : lv_has ls 10 [(0, .ref (ad 0)), (1, .long r_256), (3, .int (t.1 0 7)), (4, .int 1), (5, .int (t.1 0 15)), (6, .int 1), (7, .int 0), (8, .int 0)] := lv_sub hl [1, 2, 3, 4, 5, 6, 7, 0] rfl
        refine lv_aload_n C.1 C.2.1 dX12_perform_112 rfl (lv_at hl 0 rfl) ?_
        refine k_get (v := .int (t.1 0 16)) C hP 0 rfl rfl inlX12 16 (by decide) m_57_3 rfl dX12_perform_113 ?_
        refine lv_iconst (v := 5) C.1 C.2.1 dX12_perform_116 (by decide) ?_
        refine lv_icmp_ne (tgt := 132) C.1 C.2.1 dX12_perform_117 (by decide) (fun c_631 => False.elim (by have c_631 : ¬ (t.1 0 16).toInt = 5 := i_ne c_631; omega)) (fun c_631 => ?_)
        replace c_631 : (t.1 0 16).toInt = 5 := i_eq c_631
        refine lv_aload_n C.1 C.2.1 dX12_perform_120 rfl (lv_at hl 0 rfl) ?_
        refine k_get (v := .int (t.1 0 17)) C hP 0 rfl rfl inlX12 17 (by decide) m_57_4 rfl dX12_perform_121 ?_
        refine lv_iconst (v := 3) C.1 C.2.1 dX12_perform_124 (by decide) ?_
        refine lv_icmp_ne (tgt := 132) C.1 C.2.1 dX12_perform_125 (by decide) (fun c_632 => ?_) (fun c_632 => False.elim (by have c_632 : (t.1 0 17).toInt = 3 := i_eq c_632; omega))
        replace c_632 : ¬ (t.1 0 17).toInt = 3 := i_ne c_632
        refine lv_iconst (v := 0) C.1 C.2.1 dX12_perform_132 (by decide) ?_
        refine lv_istore (lv' := [(9, .int 0), (0, .ref (ad 0)), (1, .long r_256), (3, .int (t.1 0 7)), (4, .int 1), (5, .int (t.1 0 15)), (6, .int 1), (7, .int 0), (8, .int 0)]) C.1 C.2.1 dX12_perform_133 hl (by decide) rfl (fun ls hl => ?_)
        have hl : lv_has ls 10 [(0, .ref (ad 0)), (1, .long r_256), (3, .int (t.1 0 7)), (4, .int 1), (5, .int (t.1 0 15)), (6, .int 1), (7, .int 0), (8, .int 0), (9, .int 0)] := lv_sub hl [1, 2, 3, 4, 5, 6, 7, 8, 0] rfl
        refine lv_iload C.1 C.2.1 dX12_perform_135 (lv_at hl 6 rfl) ?_
        refine lv_if_eq (tgt := 147) C.1 C.2.1 dX12_perform_137 (by decide) (fun _ => ?_) (fun h => absurd (by decide) h)
        refine lv_iload C.1 C.2.1 dX12_perform_147 (lv_at hl 7 rfl) ?_
        refine lv_if_eq (tgt := 167) C.1 C.2.1 dX12_perform_149 (by decide) (fun _ => ?_) (fun h => absurd (by decide) h)
        refine lv_iload C.1 C.2.1 dX12_perform_167 (lv_at hl 8 rfl) ?_
        refine lv_if_ne (tgt := 176) C.1 C.2.1 dX12_perform_169 (by decide) (fun h => absurd h (by decide)) (fun _ => ?_)
        refine lv_aload_n C.1 C.2.1 dX12_perform_172 rfl (lv_at hl 0 rfl) ?_
        refine g_Vv (As := []) (rest := []) C hP hD hS hA (T_X12_work l D K Z Y ad t hok (show gdA (t.1 0 16) (t.1 0 17) (t.1 0 18) (t.2.2.1 3) from hs0)) hE hZ (uwV m_61_10 m_61_11 m_61_12 m_1_5 m_61_13) (hdV 0 (by decide +kernel) rfl) ⟨Nat.le_of_ble_eq_true rfl, Nat.le_of_ble_eq_true rfl⟩ rfl rfl (ci := 11) (q0 := 0) rfl rfl rfl hl.1 (Nat.le_of_ble_eq_true rfl) dX12_perform_173 ⟨Nat.le_of_ble_eq_true rfl, Nat.le_of_ble_eq_true rfl⟩ (fun t_633 H locs hw hP hD hS => ?_)
        obtain ⟨hok, f_635⟩ := hw
        have hfr : frA [(0, 5), (0, 6), (0, 7), (0, 9), (0, 10), (0, 30), (0, 35), (0, 91)] [(0, 8)] [2, 3, 5, 7, 8, 9, 10, 11, 12, 13, 14] [4, 6] t t_633 := frA_tr hfr f_635 rfl
        have h_636 : (t_633.1 0 7).toInt = (t.1 0 7).toInt := ti_eq (f_635.1 0 7 rfl)
        have h_637 : (t_633.1 0 10).toInt = (t.1 0 10).toInt := ti_eq (f_635.1 0 10 rfl)
        have h_638 : (t_633.1 0 15).toInt = (t.1 0 15).toInt := ti_eq (f_635.1 0 15 rfl)
        have h_639 : (t_633.1 0 16).toInt = (t.1 0 16).toInt := ti_eq (f_635.1 0 16 rfl)
        have h_640 : (t_633.1 0 17).toInt = (t.1 0 17).toInt := ti_eq (f_635.1 0 17 rfl)
        have h_641 : (t_633.2.1 0 8).toInt = (t.2.1 0 8).toInt := tl_eq (f_635.2.1 0 8 rfl)
        have h_642 : (t_633.1 0 9).toInt = (t.1 0 9).toInt := ti_eq (f_635.1 0 9 rfl)
        have h_643 : (t_633.1 0 12).toInt = (t.1 0 12).toInt := ti_eq (f_635.1 0 12 rfl)
        have h_644 : (t_633.2.1 0 13).toInt = (t.2.1 0 13).toInt := tl_eq (f_635.2.1 0 13 rfl)
        have h_645 : (t_633.1 0 18).toInt = (t.1 0 18).toInt := ti_eq (f_635.1 0 18 rfl)
        have h_646 : (t_633.1 0 35).toInt = (t.1 0 35).toInt := ti_eq (f_635.1 0 35 rfl)
        have h_647 : (t_633.1 0 36).toInt = (t.1 0 36).toInt := ti_eq (f_635.1 0 36 rfl)
        have e_648 : t_633.2.2.2 4 = t.2.2.2 4 := f_635.2.2.2 4 rfl
        have e_649 : t_633.2.2.1 9 = t.2.2.1 9 := f_635.2.2.1 9 rfl
        have h_650 : (0 : Int) ≤ (t_633.1 0 9).toInt ∧ (t_633.1 0 9).toInt ≤ 10 := hok.1 0 9
        have h_651 : (0 : Int) ≤ (t_633.1 0 12).toInt ∧ (t_633.1 0 12).toInt ≤ 1 := hok.1 0 12
        have h_652 : (0 : Int) ≤ (t_633.1 0 35).toInt ∧ (t_633.1 0 35).toInt ≤ 1700 := hok.1 0 35
        have h_653 : (0 : Int) ≤ (t_633.1 0 36).toInt ∧ (t_633.1 0 36).toInt ≤ 1700 := hok.1 0 36
        exact L_176 t_633 r_256 (t.1 0 7) 1 (t.1 0 15) 1 0 0 0 _ _ _ hok hfr ⟨by decide, by decide⟩ ⟨by decide, by decide⟩ ⟨by decide, by decide⟩ ⟨by decide, by decide⟩ ⟨by decide, by decide⟩ (show (t.1 0 12).toInt = 1 → 1 ≤ r_256.toInt ∧ (t.2.1 0 8).toInt + r_256.toInt ≤ (t.2.1 0 13).toInt from by omega) (show (t_633.2.1 0 8).toInt = (t.2.1 0 8).toInt from by omega) hP hD hS (lv_sub hl [0, 1, 2, 3, 4, 5, 6, 7, 8] rfl)
