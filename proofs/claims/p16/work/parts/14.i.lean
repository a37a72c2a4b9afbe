theorem dX12_summary_0 : decode cX12_summary 0 = .ok (.aload_n 0, 1) := by decide +kernel
theorem dX12_summary_1 : decode cX12_summary 1 = .ok (.iconst 0, 1) := by decide +kernel
theorem dX12_summary_100 : decode cX12_summary 100 = .ok (.invokevirtual 189, 3) := by decide +kernel
theorem dX12_summary_103 : decode cX12_summary 103 = .ok (.aload_n 0, 1) := by decide +kernel
theorem dX12_summary_104 : decode cX12_summary 104 = .ok (.iload_n 3, 1) := by decide +kernel
theorem dX12_summary_105 : decode cX12_summary 105 = .ok (.i2l, 1) := by decide +kernel
theorem dX12_summary_106 : decode cX12_summary 106 = .ok (.iconst 4, 1) := by decide +kernel
theorem dX12_summary_107 : decode cX12_summary 107 = .ok (.invokevirtual 199, 3) := by decide +kernel
theorem dX12_summary_110 : decode cX12_summary 110 = .ok (.iinc 2 1, 3) := by decide +kernel
theorem dX12_summary_113 : decode cX12_summary 113 = .ok (.goto (-74), 3) := by decide +kernel
theorem dX12_summary_116 : decode cX12_summary 116 = .ok (.iconst 0, 1) := by decide +kernel
theorem dX12_summary_117 : decode cX12_summary 117 = .ok (.istore_n 2, 1) := by decide +kernel
theorem dX12_summary_118 : decode cX12_summary 118 = .ok (.iload_n 2, 1) := by decide +kernel
theorem dX12_summary_119 : decode cX12_summary 119 = .ok (.aload_n 0, 1) := by decide +kernel
theorem dX12_summary_12 : decode cX12_summary 12 = .ok (.iconst (-1), 1) := by decide +kernel
theorem dX12_summary_120 : decode cX12_summary 120 = .ok (.getfield 849, 3) := by decide +kernel
theorem dX12_summary_123 : decode cX12_summary 123 = .ok (.if_icmp .ge 18, 3) := by decide +kernel
theorem dX12_summary_126 : decode cX12_summary 126 = .ok (.iload_n 1, 1) := by decide +kernel
theorem dX12_summary_127 : decode cX12_summary 127 = .ok (.aload_n 0, 1) := by decide +kernel
theorem dX12_summary_128 : decode cX12_summary 128 = .ok (.getfield 146, 3) := by decide +kernel
theorem dX12_summary_13 : decode cX12_summary 13 = .ok (.ireturn, 1) := by decide +kernel
theorem dX12_summary_131 : decode cX12_summary 131 = .ok (.iload_n 2, 1) := by decide +kernel
theorem dX12_summary_132 : decode cX12_summary 132 = .ok (.iaload, 1) := by decide +kernel
theorem dX12_summary_133 : decode cX12_summary 133 = .ok (.iadd, 1) := by decide +kernel
theorem dX12_summary_134 : decode cX12_summary 134 = .ok (.istore_n 1, 1) := by decide +kernel
theorem dX12_summary_135 : decode cX12_summary 135 = .ok (.iinc 2 1, 3) := by decide +kernel
theorem dX12_summary_138 : decode cX12_summary 138 = .ok (.goto (-20), 3) := by decide +kernel
theorem dX12_summary_14 : decode cX12_summary 14 = .ok (.aload_n 0, 1) := by decide +kernel
theorem dX12_summary_141 : decode cX12_summary 141 = .ok (.aload_n 0, 1) := by decide +kernel
theorem dX12_summary_142 : decode cX12_summary 142 = .ok (.bipush 32, 2) := by decide +kernel
theorem dX12_summary_144 : decode cX12_summary 144 = .ok (.invokevirtual 189, 3) := by decide +kernel
theorem dX12_summary_147 : decode cX12_summary 147 = .ok (.aload_n 0, 1) := by decide +kernel
theorem dX12_summary_148 : decode cX12_summary 148 = .ok (.iload_n 1, 1) := by decide +kernel
theorem dX12_summary_149 : decode cX12_summary 149 = .ok (.i2l, 1) := by decide +kernel
theorem dX12_summary_15 : decode cX12_summary 15 = .ok (.invokevirtual 263, 3) := by decide +kernel
theorem dX12_summary_150 : decode cX12_summary 150 = .ok (.bipush 10, 2) := by decide +kernel
theorem dX12_summary_152 : decode cX12_summary 152 = .ok (.invokevirtual 199, 3) := by decide +kernel
theorem dX12_summary_155 : decode cX12_summary 155 = .ok (.aload_n 0, 1) := by decide +kernel
theorem dX12_summary_156 : decode cX12_summary 156 = .ok (.bipush 18, 2) := by decide +kernel
theorem dX12_summary_158 : decode cX12_summary 158 = .ok (.invokevirtual 269, 3) := by decide +kernel
theorem dX12_summary_161 : decode cX12_summary 161 = .ok (.iload_n 1, 1) := by decide +kernel
theorem dX12_summary_162 : decode cX12_summary 162 = .ok (.ireturn, 1) := by decide +kernel
theorem dX12_summary_18 : decode cX12_summary 18 = .ok (.aload_n 0, 1) := by decide +kernel
theorem dX12_summary_19 : decode cX12_summary 19 = .ok (.ldc_w 852, 3) := by decide +kernel
theorem dX12_summary_2 : decode cX12_summary 2 = .ok (.putfield 155, 3) := by decide +kernel
theorem dX12_summary_22 : decode cX12_summary 22 = .ok (.invokevirtual 842, 3) := by decide +kernel
theorem dX12_summary_25 : decode cX12_summary 25 = .ok (.aload_n 0, 1) := by decide +kernel
theorem dX12_summary_26 : decode cX12_summary 26 = .ok (.aload_n 0, 1) := by decide +kernel
theorem dX12_summary_27 : decode cX12_summary 27 = .ok (.getfield 849, 3) := by decide +kernel
theorem dX12_summary_30 : decode cX12_summary 30 = .ok (.i2l, 1) := by decide +kernel
theorem dX12_summary_31 : decode cX12_summary 31 = .ok (.iconst 4, 1) := by decide +kernel
theorem dX12_summary_32 : decode cX12_summary 32 = .ok (.invokevirtual 199, 3) := by decide +kernel
theorem dX12_summary_35 : decode cX12_summary 35 = .ok (.iconst 0, 1) := by decide +kernel
theorem dX12_summary_36 : decode cX12_summary 36 = .ok (.istore_n 1, 1) := by decide +kernel
theorem dX12_summary_37 : decode cX12_summary 37 = .ok (.iconst 0, 1) := by decide +kernel
theorem dX12_summary_38 : decode cX12_summary 38 = .ok (.istore_n 2, 1) := by decide +kernel
theorem dX12_summary_39 : decode cX12_summary 39 = .ok (.iload_n 2, 1) := by decide +kernel
theorem dX12_summary_40 : decode cX12_summary 40 = .ok (.iconst 5, 1) := by decide +kernel
theorem dX12_summary_41 : decode cX12_summary 41 = .ok (.if_icmp .ge 75, 3) := by decide +kernel
theorem dX12_summary_44 : decode cX12_summary 44 = .ok (.iconst 0, 1) := by decide +kernel
theorem dX12_summary_45 : decode cX12_summary 45 = .ok (.istore_n 3, 1) := by decide +kernel
theorem dX12_summary_46 : decode cX12_summary 46 = .ok (.iconst 0, 1) := by decide +kernel
theorem dX12_summary_47 : decode cX12_summary 47 = .ok (.istore 4, 2) := by decide +kernel
theorem dX12_summary_49 : decode cX12_summary 49 = .ok (.iload 4, 2) := by decide +kernel
theorem dX12_summary_5 : decode cX12_summary 5 = .ok (.aload_n 0, 1) := by decide +kernel
theorem dX12_summary_51 : decode cX12_summary 51 = .ok (.aload_n 0, 1) := by decide +kernel
theorem dX12_summary_52 : decode cX12_summary 52 = .ok (.getfield 849, 3) := by decide +kernel
theorem dX12_summary_55 : decode cX12_summary 55 = .ok (.if_icmp .ge 28, 3) := by decide +kernel
theorem dX12_summary_58 : decode cX12_summary 58 = .ok (.iload_n 3, 1) := by decide +kernel
theorem dX12_summary_59 : decode cX12_summary 59 = .ok (.aload_n 0, 1) := by decide +kernel
theorem dX12_summary_6 : decode cX12_summary 6 = .ok (.getfield 849, 3) := by decide +kernel
theorem dX12_summary_60 : decode cX12_summary 60 = .ok (.getfield 137, 3) := by decide +kernel
theorem dX12_summary_63 : decode cX12_summary 63 = .ok (.iload 4, 2) := by decide +kernel
theorem dX12_summary_65 : decode cX12_summary 65 = .ok (.iaload, 1) := by decide +kernel
theorem dX12_summary_66 : decode cX12_summary 66 = .ok (.iload_n 2, 1) := by decide +kernel
theorem dX12_summary_67 : decode cX12_summary 67 = .ok (.if_icmp .ne 7, 3) := by decide +kernel
theorem dX12_summary_70 : decode cX12_summary 70 = .ok (.iconst 1, 1) := by decide +kernel
theorem dX12_summary_71 : decode cX12_summary 71 = .ok (.goto 4, 3) := by decide +kernel
theorem dX12_summary_74 : decode cX12_summary 74 = .ok (.iconst 0, 1) := by decide +kernel
theorem dX12_summary_75 : decode cX12_summary 75 = .ok (.iadd, 1) := by decide +kernel
theorem dX12_summary_76 : decode cX12_summary 76 = .ok (.istore_n 3, 1) := by decide +kernel
theorem dX12_summary_77 : decode cX12_summary 77 = .ok (.iinc 4 1, 3) := by decide +kernel
theorem dX12_summary_80 : decode cX12_summary 80 = .ok (.goto (-31), 3) := by decide +kernel
theorem dX12_summary_83 : decode cX12_summary 83 = .ok (.aload_n 0, 1) := by decide +kernel
theorem dX12_summary_84 : decode cX12_summary 84 = .ok (.bipush 32, 2) := by decide +kernel
theorem dX12_summary_86 : decode cX12_summary 86 = .ok (.invokevirtual 189, 3) := by decide +kernel
theorem dX12_summary_89 : decode cX12_summary 89 = .ok (.aload_n 0, 1) := by decide +kernel
theorem dX12_summary_9 : decode cX12_summary 9 = .ok (.ifCond .ne 5, 3) := by decide +kernel
theorem dX12_summary_90 : decode cX12_summary 90 = .ok (.iload_n 2, 1) := by decide +kernel
theorem dX12_summary_91 : decode cX12_summary 91 = .ok (.invokestatic 839, 3) := by decide +kernel
theorem dX12_summary_94 : decode cX12_summary 94 = .ok (.invokevirtual 842, 3) := by decide +kernel
theorem dX12_summary_97 : decode cX12_summary 97 = .ok (.aload_n 0, 1) := by decide +kernel
theorem dX12_summary_98 : decode cX12_summary 98 = .ok (.bipush 32, 2) := by decide +kernel
set_option maxHeartbeats 4000000 in
set_option maxRecDepth 100000 in
theorem T_X12_summary (l : Launch) (D : va_G) (K : Nat → ClassId) (Z Y : Nat → Nat) (ad : Nat → Nat) (t : tSt) (hok : okM t)  : tMet l yX12_summary cX12_summary 5 (some .int) (rmD 5 0 0) D K Z Y [.ref (ad 0)] (WM K ad t) (QI D K (fun (r : Int32) (u : tSt) => okM u ∧ frA [(0, 0), (0, 30)] [] [11, 12, 13, 14] [] t u ∧ (-2147483648 : Int) ≤ r.toInt ∧ r.toInt ≤ 2147483647) (fun (u : tSt) => WM K ad u)) 0 0 := by
  refine t_met RX12 ⟨rfl, by decide +kernel⟩ (Nat.le_of_ble_eq_true rfl) ?_
  intro p e s m below meth c A ls C hE hZ hr hlocks hA hP hD hS hl
  have hl : lv_has ls 5 [(0, .ref (ad 0))] := hl
  have hokt := hok
  have hfr : frA [(0, 0), (0, 30)] [] [11, 12, 13, 14] [] t t := frA_rf
  have h_1 : (0 : Int) ≤ (t.1 0 30).toInt ∧ (t.1 0 30).toInt ≤ 120 := hok.1 0 30
  have L_118 : ∀ (fuel_118 : Nat) (t1 : tSt) (w118_1 : Int32) (w118_2 : Int32) (H : Heap) (locs : List Loc) (ls : Array Slot), okM t1 → frA [(0, 0), (0, 30)] [] [11, 12, 13, 14] [] t t1 → (0 : Int) ≤ w118_2.toInt ∧ w118_2.toInt ≤ 511 → (0 : Int) ≤ (t1.1 0 0).toInt ∧ (t1.1 0 0).toInt ≤ 0 → (1 : Int) ≤ (t1.1 0 82).toInt ∧ (t1.1 0 82).toInt ≤ 427 → ((t1.1 0 30).toInt ≤ 64) → (511 : Int) - w118_2.toInt < (fuel_118 : Int) → va_P D vwCl (WM K ad t1) H → va_D A (WM K ad t1) → va_S A s.heap H locs → lv_has ls 5 [(0, .ref (ad 0)), (1, .int w118_1), (2, .int w118_2)] → W p l e (rmD 5 0 0) s m [.ref (ad 0)].toArray below meth c H locs 0 0 (MQ below (QI D K (fun (r : Int32) (u : tSt) => okM u ∧ frA [(0, 0), (0, 30)] [] [11, 12, 13, 14] [] t u ∧ (-2147483648 : Int) ≤ r.toInt ∧ r.toInt ≤ 2147483647) (fun (u : tSt) => WM K ad u) A) [.ref (ad 0)].toArray s 0 0 A) (F0 m 118 ls []) := by
    intro fuel_118
    induction fuel_118 with
    | zero =>
      intro t1 w118_1 w118_2 H locs ls hok hfr hw118_2 hf118_0 hf118_82 hi118_0 hm118_118 hP hD hS hl
      have h_2 : (0 : Int) ≤ (t1.1 0 30).toInt ∧ (t1.1 0 30).toInt ≤ 120 := hok.1 0 30
      exact absurd hm118_118 (by omega)
    | succ fuel_118 ih_118 =>
      intro t1 w118_1 w118_2 H locs ls hok hfr hw118_2 hf118_0 hf118_82 hi118_0 hm118_118 hP hD hS hl
      have hm118_118 : (511 : Int) - w118_2.toInt < (fuel_118 : Int) + 1 := by omega
      have h_3 : (0 : Int) ≤ (t1.1 0 30).toInt ∧ (t1.1 0 30).toInt ≤ 120 := hok.1 0 30
      refine lv_iload_n C.1 C.2.1 dX12_summary_118 rfl (lv_at hl 2 rfl) ?_
      refine lv_aload_n C.1 C.2.1 dX12_summary_119 rfl (lv_at hl 0 rfl) ?_
      refine k_get (v := .int (t1.1 0 82)) C hP 0 rfl rfl inlX12 82 (by decide) m_81_19 rfl dX12_summary_120 ?_
      refine lv_icmp_ge (tgt := 141) C.1 C.2.1 dX12_summary_123 (by decide) (fun c_4 => ?_) (fun c_4 => ?_)
      · replace c_4 : (t1.1 0 82).toInt ≤ w118_2.toInt := i_le c_4
        refine lv_aload_n C.1 C.2.1 dX12_summary_141 rfl (lv_at hl 0 rfl) ?_
        refine lv_bipush (v := 32) C.1 C.2.1 dX12_summary_142 (by decide) ?_
        refine g_Vv (As := [.int 32]) (rest := []) C hP hD hS hA (T_X12_say l D K Z Y ad t1 hok 32 (show (t1.1 0 30).toInt ≤ 119 from by omega)) hE hZ (uwV m_42_13 m_42_14 m_42_15 m_1_5 m_42_16) (hdV 1 (by decide +kernel) rfl) ⟨Nat.le_of_ble_eq_true rfl, Nat.le_of_ble_eq_true rfl⟩ rfl rfl (ci := 11) (q0 := 0) rfl rfl rfl hl.1 (Nat.le_of_ble_eq_true rfl) dX12_summary_144 ⟨Nat.le_of_ble_eq_true rfl, Nat.le_of_ble_eq_true rfl⟩ (fun t_5 H locs hw hP hD hS => ?_)
        obtain ⟨hok, f_7, p_8⟩ := hw
        have hfr : frA [(0, 0), (0, 30)] [] [11, 12, 13, 14] [] t t_5 := frA_tr hfr f_7 rfl
        have h_9 : (t_5.1 0 0).toInt = (t1.1 0 0).toInt := ti_eq (f_7.1 0 0 rfl)
        have h_10 : (t_5.1 0 82).toInt = (t1.1 0 82).toInt := ti_eq (f_7.1 0 82 rfl)
        have h_11 : (0 : Int) ≤ (t_5.1 0 30).toInt ∧ (t_5.1 0 30).toInt ≤ 120 := hok.1 0 30
        replace p_8 : (t_5.1 0 30).toInt = (t1.1 0 30).toInt + 1 := p_8
        refine lv_aload_n C.1 C.2.1 dX12_summary_147 rfl (lv_at hl 0 rfl) ?_
        refine lv_iload_n C.1 C.2.1 dX12_summary_148 rfl (lv_at hl 1 rfl) ?_
        obtain ⟨v_12, e_13⟩ : ∃ z, z = (w118_1 : Int32).toInt64 := ⟨_, rfl⟩
        have h_14 : v_12.toInt = w118_1.toInt := by rw [e_13]; exact Jvm.Kit.i64_of_i32 _
        have h_15 := i_rng w118_1
        refine lv_i2l (v := v_12) C.1 C.2.1 dX12_summary_149 e_13.symm ?_
        refine lv_bipush (v := 10) C.1 C.2.1 dX12_summary_150 (by decide) ?_
        have h_16 : (10 : Int32).toInt = 10 := rfl
        refine g_Vv (As := [.long v_12, .int 10]) (rest := []) C hP hD hS hA (T_X12_sayDigits l D K Z Y ad t_5 hok (v_12) 10 (show (1 : Int) ≤ (10 : Int32).toInt ∧ (10 : Int32).toInt ≤ 10 from ⟨by decide, by decide⟩) (show (t_5.1 0 30).toInt + (10 : Int32).toInt ≤ 120 from by omega) (show 1 ≤ (10 : Int32).toInt from by omega) (show (10 : Int32).toInt ≤ 10 from by omega)) hE hZ (uwV m_42_9 m_42_10 m_42_11 m_1_5 m_42_12) (hdV 2 (by decide +kernel) rfl) ⟨Nat.le_of_ble_eq_true rfl, Nat.le_of_ble_eq_true rfl⟩ rfl rfl (ci := 11) (q0 := 0) rfl rfl rfl hl.1 (Nat.le_of_ble_eq_true rfl) dX12_summary_152 ⟨Nat.le_of_ble_eq_true rfl, Nat.le_of_ble_eq_true rfl⟩ (fun t_17 H locs hw hP hD hS => ?_)
        obtain ⟨hok, f_19, p_20⟩ := hw
        have hfr : frA [(0, 0), (0, 30)] [] [11, 12, 13, 14] [] t t_17 := frA_tr hfr f_19 rfl
        have h_21 : (t_17.1 0 0).toInt = (t_5.1 0 0).toInt := ti_eq (f_19.1 0 0 rfl)
        have h_22 : (t_17.1 0 82).toInt = (t_5.1 0 82).toInt := ti_eq (f_19.1 0 82 rfl)
        have h_23 : (0 : Int) ≤ (t_17.1 0 30).toInt ∧ (t_17.1 0 30).toInt ≤ 120 := hok.1 0 30
        replace p_20 : (t_17.1 0 30).toInt = (t_5.1 0 30).toInt + (10 : Int32).toInt := p_20
        refine lv_aload_n C.1 C.2.1 dX12_summary_155 rfl (lv_at hl 0 rfl) ?_
        refine lv_bipush (v := 18) C.1 C.2.1 dX12_summary_156 (by decide) ?_
        refine g_Vv (As := [.int 18]) (rest := []) C hP hD hS hA (T_X12_print l D K Z Y ad t_17 hok 18 (show (17 : Int) ≤ (18 : Int32).toInt ∧ (18 : Int32).toInt ≤ 19 from ⟨by decide, by decide⟩)) hE hZ (uwV m_42_21 m_42_22 m_42_23 m_1_5 m_43_0) (hdV 1 (by decide +kernel) rfl) ⟨Nat.le_of_ble_eq_true rfl, Nat.le_of_ble_eq_true rfl⟩ rfl rfl (ci := 11) (q0 := 0) rfl rfl rfl hl.1 (Nat.le_of_ble_eq_true rfl) dX12_summary_158 ⟨Nat.le_of_ble_eq_true rfl, Nat.le_of_ble_eq_true rfl⟩ (fun t_24 H locs hw hP hD hS => ?_)
        obtain ⟨hok, f_26⟩ := hw
        have hfr : frA [(0, 0), (0, 30)] [] [11, 12, 13, 14] [] t t_24 := frA_tr hfr f_26 rfl
        have h_27 : (t_24.1 0 0).toInt = (t_17.1 0 0).toInt := ti_eq (f_26.1 0 0 rfl)
        have h_28 : (t_24.1 0 82).toInt = (t_17.1 0 82).toInt := ti_eq (f_26.1 0 82 rfl)
        have h_29 : (0 : Int) ≤ (t_24.1 0 30).toInt ∧ (t_24.1 0 30).toInt ≤ 120 := hok.1 0 30
        refine lv_iload_n C.1 C.2.1 dX12_summary_161 rfl (lv_at hl 1 rfl) ?_
        exact g_iret C hr hlocks hP hD hS rfl t_24 rfl ⟨hok, hfr, (i_rng _).1, (i_rng _).2⟩ (Nat.le_of_ble_eq_true rfl) (Nat.le_of_ble_eq_true rfl) dX12_summary_162
      · replace c_4 : w118_2.toInt < (t1.1 0 82).toInt := i_nle c_4
        refine lv_iload_n C.1 C.2.1 dX12_summary_126 rfl (lv_at hl 1 rfl) ?_
        refine lv_aload_n C.1 C.2.1 dX12_summary_127 rfl (lv_at hl 0 rfl) ?_
        refine k_get (v := .ref (ad 42)) C hP 0 rfl rfl inlX12 87 (by decide) m_9_2 rfl dX12_summary_128 ?_
        refine lv_iload_n C.1 C.2.1 dX12_summary_131 rfl (lv_at hl 2 rfl) ?_
        obtain ⟨v_30, e_31⟩ : ∃ z, z = (t1.2.2.1 42 (w118_2 : Int32).toNatClampNeg) := ⟨_, rfl⟩
        refine k_ild (v := v_30) C hP 42 rfl (vp_in_iff.mpr ⟨by omega, by omega⟩) e_31.symm dX12_summary_132 ?_
        obtain ⟨v_32, e_33⟩ : ∃ z, z = (w118_1 : Int32) + (v_30 : Int32) := ⟨_, rfl⟩
        refine k_iadd (v := v_32) C e_33.symm dX12_summary_133 ?_
        refine lv_istore_n (lv' := [(1, .int v_32), (0, .ref (ad 0)), (2, .int w118_2)]) C.1 C.2.1 dX12_summary_134 rfl hl (by decide) rfl (fun ls hl => ?_)
        have hl : lv_has ls 5 [(0, .ref (ad 0)), (1, .int v_32), (2, .int w118_2)] := lv_sub hl [1, 0, 2] rfl
        obtain ⟨v_35, e_36⟩ : ∃ z, z = w118_2 + 1 := ⟨_, rfl⟩
        have h_37 : v_35.toInt = w118_2.toInt + 1 := by rw [e_36]; exact ti_iadd (by show (_ : Int) ≤ w118_2.toInt + 1; omega) (by show w118_2.toInt + 1 < (_ : Int); omega)
        refine lv_iinc (v := v_35) (lv' := [(2, .int v_35), (0, .ref (ad 0)), (1, .int v_32)]) C.1 C.2.1 dX12_summary_135 hl (k := 2) rfl e_36.symm (by decide) rfl (fun ls hl => ?_)
        have hl : lv_has ls 5 [(0, .ref (ad 0)), (1, .int v_32), (2, .int v_35)] := lv_sub hl [1, 2, 0] rfl
        refine lv_goto (tgt := 118) C.1 C.2.1 dX12_summary_138 (by decide) ?_
        exact ih_118 t1 v_32 v_35 _ _ _ hok hfr ⟨by omega, by omega⟩ (show (0 : Int) ≤ ((t1.1 0 0) : Int32).toInt ∧ ((t1.1 0 0) : Int32).toInt ≤ 0 from ⟨by omega, by omega⟩) (show (1 : Int) ≤ ((t1.1 0 82) : Int32).toInt ∧ ((t1.1 0 82) : Int32).toInt ≤ 427 from ⟨by omega, by omega⟩) (show (t1.1 0 30).toInt ≤ 64 from by omega) (show (511 : Int) - v_35.toInt < (fuel_118 : Int) from by omega) hP hD hS (lv_sub hl [0, 1, 2] rfl)
  have L_39 : ∀ (fuel_39 : Nat) (t1 : tSt) (w39_1 : Int32) (w39_2 : Int32) (H : Heap) (locs : List Loc) (ls : Array Slot), okM t1 → frA [(0, 0), (0, 30)] [] [11, 12, 13, 14] [] t t1 → (0 : Int) ≤ w39_1.toInt ∧ w39_1.toInt ≤ 0 → (0 : Int) ≤ w39_2.toInt ∧ w39_2.toInt ≤ 5 → (0 : Int) ≤ (t1.1 0 0).toInt ∧ (t1.1 0 0).toInt ≤ 0 → (1 : Int) ≤ (t1.1 0 82).toInt ∧ (t1.1 0 82).toInt ≤ 427 → ((t1.1 0 30).toInt ≤ 9 + 11 * w39_2.toInt) → (5 : Int) - w39_2.toInt < (fuel_39 : Int) → va_P D vwCl (WM K ad t1) H → va_D A (WM K ad t1) → va_S A s.heap H locs → lv_has ls 5 [(0, .ref (ad 0)), (1, .int w39_1), (2, .int w39_2)] → W p l e (rmD 5 0 0) s m [.ref (ad 0)].toArray below meth c H locs 0 0 (MQ below (QI D K (fun (r : Int32) (u : tSt) => okM u ∧ frA [(0, 0), (0, 30)] [] [11, 12, 13, 14] [] t u ∧ (-2147483648 : Int) ≤ r.toInt ∧ r.toInt ≤ 2147483647) (fun (u : tSt) => WM K ad u) A) [.ref (ad 0)].toArray s 0 0 A) (F0 m 39 ls []) := by
    intro fuel_39
    induction fuel_39 with
    | zero =>
      intro t1 w39_1 w39_2 H locs ls hok hfr hw39_1 hw39_2 hf39_0 hf39_82 hi39_0 hm39_39 hP hD hS hl
      have h_38 : (0 : Int) ≤ (t1.1 0 30).toInt ∧ (t1.1 0 30).toInt ≤ 120 := hok.1 0 30
      exact absurd hm39_39 (by omega)
    | succ fuel_39 ih_39 =>
      intro t1 w39_1 w39_2 H locs ls hok hfr hw39_1 hw39_2 hf39_0 hf39_82 hi39_0 hm39_39 hP hD hS hl
      have hm39_39 : (5 : Int) - w39_2.toInt < (fuel_39 : Int) + 1 := by omega
      have h_39 : (0 : Int) ≤ (t1.1 0 30).toInt ∧ (t1.1 0 30).toInt ≤ 120 := hok.1 0 30
      have L_49 : ∀ (fuel_49 : Nat) (t1 : tSt) (w49_1 : Int32) (w49_2 : Int32) (w49_3 : Int32) (w49_4 : Int32) (H : Heap) (locs : List Loc) (ls : Array Slot), okM t1 → frA [(0, 0), (0, 30)] [] [11, 12, 13, 14] [] t t1 → (0 : Int) ≤ w49_1.toInt ∧ w49_1.toInt ≤ 0 → (0 : Int) ≤ w49_2.toInt ∧ w49_2.toInt ≤ 4 → (0 : Int) ≤ w49_4.toInt ∧ w49_4.toInt ≤ 511 → (0 : Int) ≤ (t1.1 0 0).toInt ∧ (t1.1 0 0).toInt ≤ 0 → (1 : Int) ≤ (t1.1 0 82).toInt ∧ (t1.1 0 82).toInt ≤ 427 → ((t1.1 0 30).toInt ≤ 9 + 11 * w49_2.toInt) → (5 : Int) - w49_2.toInt < (fuel_39 : Int) + 1 → (511 : Int) - w49_4.toInt < (fuel_49 : Int) → va_P D vwCl (WM K ad t1) H → va_D A (WM K ad t1) → va_S A s.heap H locs → lv_has ls 5 [(0, .ref (ad 0)), (1, .int w49_1), (2, .int w49_2), (3, .int w49_3), (4, .int w49_4)] → W p l e (rmD 5 0 0) s m [.ref (ad 0)].toArray below meth c H locs 0 0 (MQ below (QI D K (fun (r : Int32) (u : tSt) => okM u ∧ frA [(0, 0), (0, 30)] [] [11, 12, 13, 14] [] t u ∧ (-2147483648 : Int) ≤ r.toInt ∧ r.toInt ≤ 2147483647) (fun (u : tSt) => WM K ad u) A) [.ref (ad 0)].toArray s 0 0 A) (F0 m 49 ls []) := by
        intro fuel_49
        induction fuel_49 with
        | zero =>
          intro t1 w49_1 w49_2 w49_3 w49_4 H locs ls hok hfr hw49_1 hw49_2 hw49_4 hf49_0 hf49_82 hi49_0 hm49_39 hm49_49 hP hD hS hl
          have h_40 : (0 : Int) ≤ (t1.1 0 30).toInt ∧ (t1.1 0 30).toInt ≤ 120 := hok.1 0 30
          exact absurd hm49_49 (by omega)
        | succ fuel_49 ih_49 =>
          intro t1 w49_1 w49_2 w49_3 w49_4 H locs ls hok hfr hw49_1 hw49_2 hw49_4 hf49_0 hf49_82 hi49_0 hm49_39 hm49_49 hP hD hS hl
          have hm49_49 : (511 : Int) - w49_4.toInt < (fuel_49 : Int) + 1 := by omega
          have h_41 : (0 : Int) ≤ (t1.1 0 30).toInt ∧ (t1.1 0 30).toInt ≤ 120 := hok.1 0 30
          have L_75 : ∀ (t1 : tSt) (w75_1 : Int32) (w75_2 : Int32) (w75_3 : Int32) (w75_4 : Int32) (k75_0 : Int32) (k75_1 : Int32) (H : Heap) (locs : List Loc) (ls : Array Slot), okM t1 → frA [(0, 0), (0, 30)] [] [11, 12, 13, 14] [] t t1 → (0 : Int) ≤ w75_1.toInt ∧ w75_1.toInt ≤ 0 → (0 : Int) ≤ w75_2.toInt ∧ w75_2.toInt ≤ 4 → (0 : Int) ≤ w75_4.toInt ∧ w75_4.toInt ≤ 426 → (0 : Int) ≤ k75_1.toInt ∧ k75_1.toInt ≤ 1 → (0 : Int) ≤ (t1.1 0 0).toInt ∧ (t1.1 0 0).toInt ≤ 0 → (1 : Int) ≤ (t1.1 0 82).toInt ∧ (t1.1 0 82).toInt ≤ 427 → ((t1.1 0 30).toInt ≤ 9 + 11 * w75_2.toInt) → (5 : Int) - w75_2.toInt < (fuel_39 : Int) + 1 → (511 : Int) - w75_4.toInt < (fuel_49 : Int) + 1 → va_P D vwCl (WM K ad t1) H → va_D A (WM K ad t1) → va_S A s.heap H locs → lv_has ls 5 [(0, .ref (ad 0)), (1, .int w75_1), (2, .int w75_2), (3, .int w75_3), (4, .int w75_4)] → W p l e (rmD 5 0 0) s m [.ref (ad 0)].toArray below meth c H locs 0 0 (MQ below (QI D K (fun (r : Int32) (u : tSt) => okM u ∧ frA [(0, 0), (0, 30)] [] [11, 12, 13, 14] [] t u ∧ (-2147483648 : Int) ≤ r.toInt ∧ r.toInt ≤ 2147483647) (fun (u : tSt) => WM K ad u) A) [.ref (ad 0)].toArray s 0 0 A) (F0 m 75 ls [.int k75_1, .int k75_0]) := by
            intro t1 w75_1 w75_2 w75_3 w75_4 k75_0 k75_1 H locs ls hok hfr hw75_1 hw75_2 hw75_4 hk75_1 hf75_0 hf75_82 hi75_0 hm75_39 hm75_49 hP hD hS hl
            have h_42 : (0 : Int) ≤ (t1.1 0 30).toInt ∧ (t1.1 0 30).toInt ≤ 120 := hok.1 0 30
            obtain ⟨v_43, e_44⟩ : ∃ z, z = (k75_0 : Int32) + (k75_1 : Int32) := ⟨_, rfl⟩
            refine k_iadd (v := v_43) C e_44.symm dX12_summary_75 ?_
            refine lv_istore_n (lv' := [(3, .int v_43), (0, .ref (ad 0)), (1, .int w75_1), (2, .int w75_2), (4, .int w75_4)]) C.1 C.2.1 dX12_summary_76 rfl hl (by decide) rfl (fun ls hl => ?_)
            have hl : lv_has ls 5 [(0, .ref (ad 0)), (1, .int w75_1), (2, .int w75_2), (3, .int v_43), (4, .int w75_4)] := lv_sub hl [1, 2, 3, 0, 4] rfl
            obtain ⟨v_46, e_47⟩ : ∃ z, z = w75_4 + 1 := ⟨_, rfl⟩
            have h_48 : v_46.toInt = w75_4.toInt + 1 := by rw [e_47]; exact ti_iadd (by show (_ : Int) ≤ w75_4.toInt + 1; omega) (by show w75_4.toInt + 1 < (_ : Int); omega)
            refine lv_iinc (v := v_46) (lv' := [(4, .int v_46), (0, .ref (ad 0)), (1, .int w75_1), (2, .int w75_2), (3, .int v_43)]) C.1 C.2.1 dX12_summary_77 hl (k := 4) rfl e_47.symm (by decide) rfl (fun ls hl => ?_)
            have hl : lv_has ls 5 [(0, .ref (ad 0)), (1, .int w75_1), (2, .int w75_2), (3, .int v_43), (4, .int v_46)] := lv_sub hl [1, 2, 3, 4, 0] rfl
            refine lv_goto (tgt := 49) C.1 C.2.1 dX12_summary_80 (by decide) ?_
            exact ih_49 t1 w75_1 w75_2 v_43 v_46 _ _ _ hok hfr ⟨by omega, by omega⟩ ⟨by omega, by omega⟩ ⟨by omega, by omega⟩ (show (0 : Int) ≤ ((t1.1 0 0) : Int32).toInt ∧ ((t1.1 0 0) : Int32).toInt ≤ 0 from ⟨by omega, by omega⟩) (show (1 : Int) ≤ ((t1.1 0 82) : Int32).toInt ∧ ((t1.1 0 82) : Int32).toInt ≤ 427 from ⟨by omega, by omega⟩) (show (t1.1 0 30).toInt ≤ 9 + 11 * w75_2.toInt from by omega) (show (5 : Int) - w75_2.toInt < (fuel_39 : Int) + 1 from by omega) (show (511 : Int) - v_46.toInt < (fuel_49 : Int) from by omega) hP hD hS (lv_sub hl [0, 1, 2, 3, 4] rfl)
          refine lv_iload C.1 C.2.1 dX12_summary_49 (lv_at hl 4 rfl) ?_
          refine lv_aload_n C.1 C.2.1 dX12_summary_51 rfl (lv_at hl 0 rfl) ?_
          refine k_get (v := .int (t1.1 0 82)) C hP 0 rfl rfl inlX12 82 (by decide) m_81_19 rfl dX12_summary_52 ?_
          refine lv_icmp_ge (tgt := 83) C.1 C.2.1 dX12_summary_55 (by decide) (fun c_49 => ?_) (fun c_49 => ?_)
          · replace c_49 : (t1.1 0 82).toInt ≤ w49_4.toInt := i_le c_49
            refine lv_aload_n C.1 C.2.1 dX12_summary_83 rfl (lv_at hl 0 rfl) ?_
            refine lv_bipush (v := 32) C.1 C.2.1 dX12_summary_84 (by decide) ?_
            refine g_Vv (As := [.int 32]) (rest := []) C hP hD hS hA (T_X12_say l D K Z Y ad t1 hok 32 (show (t1.1 0 30).toInt ≤ 119 from by omega)) hE hZ (uwV m_42_13 m_42_14 m_42_15 m_1_5 m_42_16) (hdV 1 (by decide +kernel) rfl) ⟨Nat.le_of_ble_eq_true rfl, Nat.le_of_ble_eq_true rfl⟩ rfl rfl (ci := 11) (q0 := 0) rfl rfl rfl hl.1 (Nat.le_of_ble_eq_true rfl) dX12_summary_86 ⟨Nat.le_of_ble_eq_true rfl, Nat.le_of_ble_eq_true rfl⟩ (fun t_50 H locs hw hP hD hS => ?_)
            obtain ⟨hok, f_52, p_53⟩ := hw
            have hfr : frA [(0, 0), (0, 30)] [] [11, 12, 13, 14] [] t t_50 := frA_tr hfr f_52 rfl
            have h_54 : (t_50.1 0 0).toInt = (t1.1 0 0).toInt := ti_eq (f_52.1 0 0 rfl)
            have h_55 : (t_50.1 0 82).toInt = (t1.1 0 82).toInt := ti_eq (f_52.1 0 82 rfl)
            have h_56 : (0 : Int) ≤ (t_50.1 0 30).toInt ∧ (t_50.1 0 30).toInt ≤ 120 := hok.1 0 30
            replace p_53 : (t_50.1 0 30).toInt = (t1.1 0 30).toInt + 1 := p_53
            refine lv_aload_n C.1 C.2.1 dX12_summary_89 rfl (lv_at hl 0 rfl) ?_
            refine lv_iload_n C.1 C.2.1 dX12_summary_90 rfl (lv_at hl 2 rfl) ?_
            refine g_Sr (As := [.int w49_2]) (rest := [.ref (ad 0)]) C hP hD hS hA (T_X12_endOfJob l D K Z Y ad t_50 hok (w49_2) (show (0 : Int) ≤ (w49_2 : Int32).toInt ∧ (w49_2 : Int32).toInt ≤ 4 from ⟨by omega, by omega⟩)) hE hZ (uwS m_81_20 m_81_21 m_1_5 m_81_22) (hdS 1 (by decide +kernel) rfl) ⟨Nat.le_of_ble_eq_true rfl, Nat.le_of_ble_eq_true rfl⟩ rfl rfl rfl hl.1 (Nat.le_of_ble_eq_true rfl) dX12_summary_91 ⟨Nat.le_of_ble_eq_true rfl, Nat.le_of_ble_eq_true rfl⟩ (fun t_57 H locs hw hP hD hS => ?_)
            have ht_57 := hw
            have hsq := sS_len ht_57
            refine g_Vv (As := [.ref (Z t_57)]) (rest := []) C hP hD hS hA (T_X12_sayAll l D K Z Y ad t_50 hok (t_57) ht_57 (show (t_50.1 0 30).toInt ≤ 115 from by omega)) hE hZ (uwV m_81_23 m_82_0 m_82_1 m_1_5 m_82_2) (hdV 1 (by decide +kernel) rfl) ⟨Nat.le_of_ble_eq_true rfl, Nat.le_of_ble_eq_true rfl⟩ rfl rfl (ci := 11) (q0 := 0) rfl rfl rfl hl.1 (Nat.le_of_ble_eq_true rfl) dX12_summary_94 ⟨Nat.le_of_ble_eq_true rfl, Nat.le_of_ble_eq_true rfl⟩ (fun t_60 H locs hw hP hD hS => ?_)
            obtain ⟨hok, f_62, p_63⟩ := hw
            have hfr : frA [(0, 0), (0, 30)] [] [11, 12, 13, 14] [] t t_60 := frA_tr hfr f_62 rfl
            have h_64 : (t_60.1 0 0).toInt = (t_50.1 0 0).toInt := ti_eq (f_62.1 0 0 rfl)
            have h_65 : (t_60.1 0 82).toInt = (t_50.1 0 82).toInt := ti_eq (f_62.1 0 82 rfl)
            have h_66 : (0 : Int) ≤ (t_60.1 0 30).toInt ∧ (t_60.1 0 30).toInt ≤ 120 := hok.1 0 30
            replace p_63 : (t_60.1 0 30).toInt = (t_50.1 0 30).toInt + (sL t_57) := p_63
            refine lv_aload_n C.1 C.2.1 dX12_summary_97 rfl (lv_at hl 0 rfl) ?_
            refine lv_bipush (v := 32) C.1 C.2.1 dX12_summary_98 (by decide) ?_
            refine g_Vv (As := [.int 32]) (rest := []) C hP hD hS hA (T_X12_say l D K Z Y ad t_60 hok 32 (show (t_60.1 0 30).toInt ≤ 119 from by omega)) hE hZ (uwV m_42_13 m_42_14 m_42_15 m_1_5 m_42_16) (hdV 1 (by decide +kernel) rfl) ⟨Nat.le_of_ble_eq_true rfl, Nat.le_of_ble_eq_true rfl⟩ rfl rfl (ci := 11) (q0 := 0) rfl rfl rfl hl.1 (Nat.le_of_ble_eq_true rfl) dX12_summary_100 ⟨Nat.le_of_ble_eq_true rfl, Nat.le_of_ble_eq_true rfl⟩ (fun t_67 H locs hw hP hD hS => ?_)
            obtain ⟨hok, f_69, p_70⟩ := hw
            have hfr : frA [(0, 0), (0, 30)] [] [11, 12, 13, 14] [] t t_67 := frA_tr hfr f_69 rfl
            have h_71 : (t_67.1 0 0).toInt = (t_60.1 0 0).toInt := ti_eq (f_69.1 0 0 rfl)
            have h_72 : (t_67.1 0 82).toInt = (t_60.1 0 82).toInt := ti_eq (f_69.1 0 82 rfl)
            have h_73 : (0 : Int) ≤ (t_67.1 0 30).toInt ∧ (t_67.1 0 30).toInt ≤ 120 := hok.1 0 30
            replace p_70 : (t_67.1 0 30).toInt = (t_60.1 0 30).toInt + 1 := p_70
            refine lv_aload_n C.1 C.2.1 dX12_summary_103 rfl (lv_at hl 0 rfl) ?_
            refine lv_iload_n C.1 C.2.1 dX12_summary_104 rfl (lv_at hl 3 rfl) ?_
            obtain ⟨v_74, e_75⟩ : ∃ z, z = (w49_3 : Int32).toInt64 := ⟨_, rfl⟩
            have h_76 : v_74.toInt = w49_3.toInt := by rw [e_75]; exact Jvm.Kit.i64_of_i32 _
            have h_77 := i_rng w49_3
            refine lv_i2l (v := v_74) C.1 C.2.1 dX12_summary_105 e_75.symm ?_
            refine lv_iconst (v := 4) C.1 C.2.1 dX12_summary_106 (by decide) ?_
            have h_78 : (4 : Int32).toInt = 4 := rfl
            refine g_Vv (As := [.long v_74, .int 4]) (rest := []) C hP hD hS hA (T_X12_sayDigits l D K Z Y ad t_67 hok (v_74) 4 (show (1 : Int) ≤ (4 : Int32).toInt ∧ (4 : Int32).toInt ≤ 10 from ⟨by decide, by decide⟩) (show (t_67.1 0 30).toInt + (4 : Int32).toInt ≤ 120 from by omega) (show 1 ≤ (4 : Int32).toInt from by omega) (show (4 : Int32).toInt ≤ 10 from by omega)) hE hZ (uwV m_42_9 m_42_10 m_42_11 m_1_5 m_42_12) (hdV 2 (by decide +kernel) rfl) ⟨Nat.le_of_ble_eq_true rfl, Nat.le_of_ble_eq_true rfl⟩ rfl rfl (ci := 11) (q0 := 0) rfl rfl rfl hl.1 (Nat.le_of_ble_eq_true rfl) dX12_summary_107 ⟨Nat.le_of_ble_eq_true rfl, Nat.le_of_ble_eq_true rfl⟩ (fun t_79 H locs hw hP hD hS => ?_)
            obtain ⟨hok, f_81, p_82⟩ := hw
            have hfr : frA [(0, 0), (0, 30)] [] [11, 12, 13, 14] [] t t_79 := frA_tr hfr f_81 rfl
            have h_83 : (t_79.1 0 0).toInt = (t_67.1 0 0).toInt := ti_eq (f_81.1 0 0 rfl)
            have h_84 : (t_79.1 0 82).toInt = (t_67.1 0 82).toInt := ti_eq (f_81.1 0 82 rfl)
            have h_85 : (0 : Int) ≤ (t_79.1 0 30).toInt ∧ (t_79.1 0 30).toInt ≤ 120 := hok.1 0 30
            replace p_82 : (t_79.1 0 30).toInt = (t_67.1 0 30).toInt + (4 : Int32).toInt := p_82
            obtain ⟨v_86, e_87⟩ : ∃ z, z = w49_2 + 1 := ⟨_, rfl⟩
            have h_88 : v_86.toInt = w49_2.toInt + 1 := by rw [e_87]; exact ti_iadd (by show (_ : Int) ≤ w49_2.toInt + 1; omega) (by show w49_2.toInt + 1 < (_ : Int); omega)
            refine lv_iinc (v := v_86) (lv' := [(2, .int v_86), (0, .ref (ad 0)), (1, .int w49_1), (3, .int w49_3), (4, .int w49_4)]) C.1 C.2.1 dX12_summary_110 hl (k := 2) rfl e_87.symm (by decide) rfl (fun ls hl => ?_)
            have hl : lv_has ls 5 [(0, .ref (ad 0)), (1, .int w49_1), (2, .int v_86), (3, .int w49_3), (4, .int w49_4)] := lv_sub hl [1, 2, 0, 3, 4] rfl
            refine lv_goto (tgt := 39) C.1 C.2.1 dX12_summary_113 (by decide) ?_
            exact ih_39 t_79 w49_1 v_86 _ _ _ hok hfr ⟨by omega, by omega⟩ ⟨by omega, by omega⟩ (show (0 : Int) ≤ ((t_79.1 0 0) : Int32).toInt ∧ ((t_79.1 0 0) : Int32).toInt ≤ 0 from ⟨by omega, by omega⟩) (show (1 : Int) ≤ ((t_79.1 0 82) : Int32).toInt ∧ ((t_79.1 0 82) : Int32).toInt ≤ 427 from ⟨by omega, by omega⟩) (show (t_79.1 0 30).toInt ≤ 9 + 11 * v_86.toInt from by omega) (show (5 : Int) - v_86.toInt < (fuel_39 : Int) from by omega) hP hD hS (lv_sub hl [0, 1, 2] rfl)
          · replace c_49 : w49_4.toInt < (t1.1 0 82).toInt := i_nle c_49
            refine lv_iload_n C.1 C.2.1 dX12_summary_58 rfl (lv_at hl 3 rfl) ?_
            refine lv_aload_n C.1 C.2.1 dX12_summary_59 rfl (lv_at hl 0 rfl) ?_
            refine k_get (v := .ref (ad 39)) C hP 0 rfl rfl inlX12 84 (by decide) m_8_23 rfl dX12_summary_60 ?_
            refine lv_iload C.1 C.2.1 dX12_summary_63 (lv_at hl 4 rfl) ?_
            obtain ⟨v_89, e_90⟩ : ∃ z, z = (t1.2.2.1 39 (w49_4 : Int32).toNatClampNeg) := ⟨_, rfl⟩
            have h_91 : (0 : Int) ≤ v_89.toInt ∧ v_89.toInt ≤ 4 := by rw [e_90]; exact hok.2.1 39 _
            refine k_ild (v := v_89) C hP 39 rfl (vp_in_iff.mpr ⟨by omega, by omega⟩) e_90.symm dX12_summary_65 ?_
            refine lv_iload_n C.1 C.2.1 dX12_summary_66 rfl (lv_at hl 2 rfl) ?_
            refine lv_icmp_ne (tgt := 74) C.1 C.2.1 dX12_summary_67 (by decide) (fun c_92 => ?_) (fun c_92 => ?_)
            · replace c_92 : ¬ v_89.toInt = w49_2.toInt := i_ne c_92
              refine lv_iconst (v := 0) C.1 C.2.1 dX12_summary_74 (by decide) ?_
              exact L_75 t1 w49_1 w49_2 w49_3 w49_4 w49_3 0 _ _ _ hok hfr ⟨by omega, by omega⟩ ⟨by omega, by omega⟩ ⟨by omega, by omega⟩ ⟨by decide, by decide⟩ (show (0 : Int) ≤ ((t1.1 0 0) : Int32).toInt ∧ ((t1.1 0 0) : Int32).toInt ≤ 0 from ⟨by omega, by omega⟩) (show (1 : Int) ≤ ((t1.1 0 82) : Int32).toInt ∧ ((t1.1 0 82) : Int32).toInt ≤ 427 from ⟨by omega, by omega⟩) (show (t1.1 0 30).toInt ≤ 9 + 11 * w49_2.toInt from by omega) (show (5 : Int) - w49_2.toInt < (fuel_39 : Int) + 1 from by omega) (show (511 : Int) - w49_4.toInt < (fuel_49 : Int) + 1 from by omega) hP hD hS (lv_sub hl [0, 1, 2, 3, 4] rfl)
            · replace c_92 : v_89.toInt = w49_2.toInt := i_eq c_92
              refine lv_iconst (v := 1) C.1 C.2.1 dX12_summary_70 (by decide) ?_
              refine lv_goto (tgt := 75) C.1 C.2.1 dX12_summary_71 (by decide) ?_
              exact L_75 t1 w49_1 w49_2 w49_3 w49_4 w49_3 1 _ _ _ hok hfr ⟨by omega, by omega⟩ ⟨by omega, by omega⟩ ⟨by omega, by omega⟩ ⟨by decide, by decide⟩ (show (0 : Int) ≤ ((t1.1 0 0) : Int32).toInt ∧ ((t1.1 0 0) : Int32).toInt ≤ 0 from ⟨by omega, by omega⟩) (show (1 : Int) ≤ ((t1.1 0 82) : Int32).toInt ∧ ((t1.1 0 82) : Int32).toInt ≤ 427 from ⟨by omega, by omega⟩) (show (t1.1 0 30).toInt ≤ 9 + 11 * w49_2.toInt from by omega) (show (5 : Int) - w49_2.toInt < (fuel_39 : Int) + 1 from by omega) (show (511 : Int) - w49_4.toInt < (fuel_49 : Int) + 1 from by omega) hP hD hS (lv_sub hl [0, 1, 2, 3, 4] rfl)
      refine lv_iload_n C.1 C.2.1 dX12_summary_39 rfl (lv_at hl 2 rfl) ?_
      refine lv_iconst (v := 5) C.1 C.2.1 dX12_summary_40 (by decide) ?_
      refine lv_icmp_ge (tgt := 116) C.1 C.2.1 dX12_summary_41 (by decide) (fun c_93 => ?_) (fun c_93 => ?_)
      · replace c_93 : 5 ≤ w39_2.toInt := i_le c_93
        refine lv_iconst (v := 0) C.1 C.2.1 dX12_summary_116 (by decide) ?_
        refine lv_istore_n (lv' := [(2, .int 0), (0, .ref (ad 0)), (1, .int w39_1)]) C.1 C.2.1 dX12_summary_117 rfl hl (by decide) rfl (fun ls hl => ?_)
        have hl : lv_has ls 5 [(0, .ref (ad 0)), (1, .int w39_1), (2, .int 0)] := lv_sub hl [1, 2, 0] rfl
        exact L_118 512 t1 w39_1 0 _ _ _ hok hfr ⟨by decide, by decide⟩ (show (0 : Int) ≤ ((t1.1 0 0) : Int32).toInt ∧ ((t1.1 0 0) : Int32).toInt ≤ 0 from ⟨by omega, by omega⟩) (show (1 : Int) ≤ ((t1.1 0 82) : Int32).toInt ∧ ((t1.1 0 82) : Int32).toInt ≤ 427 from ⟨by omega, by omega⟩) (show (t1.1 0 30).toInt ≤ 64 from by omega) (show (511 : Int) - 0 < ((512 : Nat) : Int) from by omega) hP hD hS (lv_sub hl [0, 1, 2] rfl)
      · replace c_93 : w39_2.toInt < 5 := i_nle c_93
        refine lv_iconst (v := 0) C.1 C.2.1 dX12_summary_44 (by decide) ?_
        refine lv_istore_n (lv' := [(3, .int 0), (0, .ref (ad 0)), (1, .int w39_1), (2, .int w39_2)]) C.1 C.2.1 dX12_summary_45 rfl hl (by decide) rfl (fun ls hl => ?_)
        have hl : lv_has ls 5 [(0, .ref (ad 0)), (1, .int w39_1), (2, .int w39_2), (3, .int 0)] := lv_sub hl [1, 2, 3, 0] rfl
        refine lv_iconst (v := 0) C.1 C.2.1 dX12_summary_46 (by decide) ?_
        refine lv_istore (lv' := [(4, .int 0), (0, .ref (ad 0)), (1, .int w39_1), (2, .int w39_2), (3, .int 0)]) C.1 C.2.1 dX12_summary_47 hl (by decide) rfl (fun ls hl => ?_)
        have hl : lv_has ls 5 [(0, .ref (ad 0)), (1, .int w39_1), (2, .int w39_2), (3, .int 0), (4, .int 0)] := lv_sub hl [1, 2, 3, 4, 0] rfl
        exact L_49 512 t1 w39_1 w39_2 0 0 _ _ _ hok hfr ⟨by omega, by omega⟩ ⟨by omega, by omega⟩ ⟨by decide, by decide⟩ (show (0 : Int) ≤ ((t1.1 0 0) : Int32).toInt ∧ ((t1.1 0 0) : Int32).toInt ≤ 0 from ⟨by omega, by omega⟩) (show (1 : Int) ≤ ((t1.1 0 82) : Int32).toInt ∧ ((t1.1 0 82) : Int32).toInt ≤ 427 from ⟨by omega, by omega⟩) (show (t1.1 0 30).toInt ≤ 9 + 11 * w39_2.toInt from by omega) (show (5 : Int) - w39_2.toInt < (fuel_39 : Int) + 1 from by omega) (show (511 : Int) - 0 < ((512 : Nat) : Int) from by omega) hP hD hS (lv_sub hl [0, 1, 2, 3, 4] rfl)
  refine lv_aload_n C.1 C.2.1 dX12_summary_0 rfl (lv_at hl 0 rfl) ?_
  refine lv_iconst (v := 0) C.1 C.2.1 dX12_summary_1 (by decide) ?_
  refine k_put (ws' := WM K ad (uI t 0 0 0)) (v := .int 0) C hP hD hS 0 rfl rfl inlX12 tyX12_ok nmX12 0 (by decide) m_9_18 rfl rfl rfl rfl rfl dX12_summary_2 (fun H locs hP hD hS => ?_)
  have hok : okM (uI t 0 0 0) := ⟨okI_I hok.1 0 0 0 (show (0 : Int) ≤ (0 : Int32).toInt ∧ (0 : Int32).toInt ≤ 1 from ⟨by decide, by decide⟩), hok.2.1, hok.2.2.1, hok.2.2.2.1, hok.2.2.2.2.1, hok.2.2.2.2.2.1, hok.2.2.2.2.2.2.1, trivial⟩
  have hfr : frA [(0, 0), (0, 30)] [] [11, 12, 13, 14] [] t (uI t 0 0 0) := frA_I hfr 0 0 _ rfl
  refine lv_aload_n C.1 C.2.1 dX12_summary_5 rfl (lv_at hl 0 rfl) ?_
  have h_94 : (0 : Int) ≤ (t.1 0 82).toInt ∧ (t.1 0 82).toInt ≤ 427 := hok.1 0 82
  refine k_get (v := .int (t.1 0 82)) C hP 0 rfl rfl inlX12 82 (by decide) m_81_19 rfl dX12_summary_6 ?_
  refine lv_if_ne (tgt := 14) C.1 C.2.1 dX12_summary_9 (by decide) (fun c_95 => ?_) (fun c_95 => ?_)
  · replace c_95 : ¬ (t.1 0 82).toInt = 0 := i_ne c_95
    refine lv_aload_n C.1 C.2.1 dX12_summary_14 rfl (lv_at hl 0 rfl) ?_
    refine g_Vv (As := []) (rest := []) C hP hD hS hA (T_X12_begin l D K Z Y ad (uI t 0 0 0) hok ) hE hZ (uwV m_42_4 m_42_5 m_42_6 m_1_5 m_42_7) (hdV 0 (by decide +kernel) rfl) ⟨Nat.le_of_ble_eq_true rfl, Nat.le_of_ble_eq_true rfl⟩ rfl rfl (ci := 11) (q0 := 0) rfl rfl rfl hl.1 (Nat.le_of_ble_eq_true rfl) dX12_summary_15 ⟨Nat.le_of_ble_eq_true rfl, Nat.le_of_ble_eq_true rfl⟩ (fun t_96 H locs hw hP hD hS => ?_)
    obtain ⟨hok, f_98, p_99⟩ := hw
    have hfr : frA [(0, 0), (0, 30)] [] [11, 12, 13, 14] [] t t_96 := frA_tr hfr f_98 rfl
    have h_100 : (t_96.1 0 0).toInt = 0 := by rw [show (t_96.1 0 0) = (0 : Int32) from f_98.1 0 0 rfl]; rfl
    have h_101 : (t_96.1 0 82).toInt = (t.1 0 82).toInt := ti_eq (f_98.1 0 82 rfl)
    have h_102 : (0 : Int) ≤ (t_96.1 0 30).toInt ∧ (t_96.1 0 30).toInt ≤ 120 := hok.1 0 30
    replace p_99 : (t_96.1 0 30).toInt = 0 := p_99
    have hs5 : sL 40 = 5 := rfl
    refine lv_aload_n C.1 C.2.1 dX12_summary_18 rfl (lv_at hl 0 rfl) ?_
    refine va_ldcwS C.1 C.2.1 C.2.2.2.1 (hE.2 40 (by decide)) dX12_summary_19 ?_
    refine g_Vv (As := [.ref (Z 40)]) (rest := []) C hP hD hS hA (T_X12_sayAll l D K Z Y ad t_96 hok (40) (show sS 40 from ⟨by decide, by decide, by decide⟩) (show (t_96.1 0 30).toInt ≤ 115 from by omega)) hE hZ (uwV m_81_23 m_82_0 m_82_1 m_1_5 m_82_2) (hdV 1 (by decide +kernel) rfl) ⟨Nat.le_of_ble_eq_true rfl, Nat.le_of_ble_eq_true rfl⟩ rfl rfl (ci := 11) (q0 := 0) rfl rfl rfl hl.1 (Nat.le_of_ble_eq_true rfl) dX12_summary_22 ⟨Nat.le_of_ble_eq_true rfl, Nat.le_of_ble_eq_true rfl⟩ (fun t_103 H locs hw hP hD hS => ?_)
    obtain ⟨hok, f_105, p_106⟩ := hw
    have hfr : frA [(0, 0), (0, 30)] [] [11, 12, 13, 14] [] t t_103 := frA_tr hfr f_105 rfl
    have h_107 : (t_103.1 0 0).toInt = (t_96.1 0 0).toInt := ti_eq (f_105.1 0 0 rfl)
    have h_108 : (t_103.1 0 82).toInt = (t_96.1 0 82).toInt := ti_eq (f_105.1 0 82 rfl)
    have h_109 : (0 : Int) ≤ (t_103.1 0 30).toInt ∧ (t_103.1 0 30).toInt ≤ 120 := hok.1 0 30
    replace p_106 : (t_103.1 0 30).toInt = (t_96.1 0 30).toInt + (sL 40) := p_106
    refine lv_aload_n C.1 C.2.1 dX12_summary_25 rfl (lv_at hl 0 rfl) ?_
    refine lv_aload_n C.1 C.2.1 dX12_summary_26 rfl (lv_at hl 0 rfl) ?_
    refine k_get (v := .int (t_103.1 0 82)) C hP 0 rfl rfl inlX12 82 (by decide) m_81_19 rfl dX12_summary_27 ?_
    obtain ⟨v_110, e_111⟩ : ∃ z, z = ((t_103.1 0 82) : Int32).toInt64 := ⟨_, rfl⟩
    have h_112 : v_110.toInt = (t_103.1 0 82).toInt := by rw [e_111]; exact Jvm.Kit.i64_of_i32 _
    refine lv_i2l (v := v_110) C.1 C.2.1 dX12_summary_30 e_111.symm ?_
    refine lv_iconst (v := 4) C.1 C.2.1 dX12_summary_31 (by decide) ?_
    have h_113 : (4 : Int32).toInt = 4 := rfl
    refine g_Vv (As := [.long v_110, .int 4]) (rest := []) C hP hD hS hA (T_X12_sayDigits l D K Z Y ad t_103 hok (v_110) 4 (show (1 : Int) ≤ (4 : Int32).toInt ∧ (4 : Int32).toInt ≤ 10 from ⟨by decide, by decide⟩) (show (t_103.1 0 30).toInt + (4 : Int32).toInt ≤ 120 from by omega) (show 1 ≤ (4 : Int32).toInt from by omega) (show (4 : Int32).toInt ≤ 10 from by omega)) hE hZ (uwV m_42_9 m_42_10 m_42_11 m_1_5 m_42_12) (hdV 2 (by decide +kernel) rfl) ⟨Nat.le_of_ble_eq_true rfl, Nat.le_of_ble_eq_true rfl⟩ rfl rfl (ci := 11) (q0 := 0) rfl rfl rfl hl.1 (Nat.le_of_ble_eq_true rfl) dX12_summary_32 ⟨Nat.le_of_ble_eq_true rfl, Nat.le_of_ble_eq_true rfl⟩ (fun t_114 H locs hw hP hD hS => ?_)
    obtain ⟨hok, f_116, p_117⟩ := hw
    have hfr : frA [(0, 0), (0, 30)] [] [11, 12, 13, 14] [] t t_114 := frA_tr hfr f_116 rfl
    have h_118 : (t_114.1 0 0).toInt = (t_103.1 0 0).toInt := ti_eq (f_116.1 0 0 rfl)
    have h_119 : (t_114.1 0 82).toInt = (t_103.1 0 82).toInt := ti_eq (f_116.1 0 82 rfl)
    have h_120 : (0 : Int) ≤ (t_114.1 0 30).toInt ∧ (t_114.1 0 30).toInt ≤ 120 := hok.1 0 30
    replace p_117 : (t_114.1 0 30).toInt = (t_103.1 0 30).toInt + (4 : Int32).toInt := p_117
    refine lv_iconst (v := 0) C.1 C.2.1 dX12_summary_35 (by decide) ?_
    refine lv_istore_n (lv' := [(1, .int 0), (0, .ref (ad 0))]) C.1 C.2.1 dX12_summary_36 rfl hl (by decide) rfl (fun ls hl => ?_)
    have hl : lv_has ls 5 [(0, .ref (ad 0)), (1, .int 0)] := lv_sub hl [1, 0] rfl
    refine lv_iconst (v := 0) C.1 C.2.1 dX12_summary_37 (by decide) ?_
    refine lv_istore_n (lv' := [(2, .int 0), (0, .ref (ad 0)), (1, .int 0)]) C.1 C.2.1 dX12_summary_38 rfl hl (by decide) rfl (fun ls hl => ?_)
    have hl : lv_has ls 5 [(0, .ref (ad 0)), (1, .int 0), (2, .int 0)] := lv_sub hl [1, 2, 0] rfl
    exact L_39 6 t_114 0 0 _ _ _ hok hfr ⟨by decide, by decide⟩ ⟨by decide, by decide⟩ (show (0 : Int) ≤ ((t_114.1 0 0) : Int32).toInt ∧ ((t_114.1 0 0) : Int32).toInt ≤ 0 from ⟨by omega, by omega⟩) (show (1 : Int) ≤ ((t_114.1 0 82) : Int32).toInt ∧ ((t_114.1 0 82) : Int32).toInt ≤ 427 from ⟨by omega, by omega⟩) (show (t_114.1 0 30).toInt ≤ 9 + 11 * 0 from by omega) (show (5 : Int) - 0 < ((6 : Nat) : Int) from by omega) hP hD hS (lv_sub hl [0, 1, 2] rfl)
  · replace c_95 : (t.1 0 82).toInt = 0 := i_eq c_95
    refine lv_iconst (v := (-1)) C.1 C.2.1 dX12_summary_12 (by decide) ?_
    exact g_iret C hr hlocks hP hD hS rfl (uI t 0 0 0) rfl ⟨hok, hfr, (i_rng _).1, (i_rng _).2⟩ (Nat.le_of_ble_eq_true rfl) (Nat.le_of_ble_eq_true rfl) dX12_summary_13

theorem dX12_register_0 : decode cX12_register 0 = .ok (.aload_n 0, 1) := by decide +kernel
theorem dX12_register_1 : decode cX12_register 1 = .ok (.iload_n 1, 1) := by decide +kernel
theorem dX12_register_11 : decode cX12_register 11 = .ok (.iconst 1, 1) := by decide +kernel
theorem dX12_register_12 : decode cX12_register 12 = .ok (.goto 4, 3) := by decide +kernel
theorem dX12_register_15 : decode cX12_register 15 = .ok (.iconst 0, 1) := by decide +kernel
theorem dX12_register_16 : decode cX12_register 16 = .ok (.putfield 155, 3) := by decide +kernel
theorem dX12_register_19 : decode cX12_register 19 = .ok (.aload_n 0, 1) := by decide +kernel
theorem dX12_register_2 : decode cX12_register 2 = .ok (.ifCond .lt 9, 3) := by decide +kernel
theorem dX12_register_20 : decode cX12_register 20 = .ok (.getfield 155, 3) := by decide +kernel
theorem dX12_register_23 : decode cX12_register 23 = .ok (.ifCond .eq 5, 3) := by decide +kernel
theorem dX12_register_26 : decode cX12_register 26 = .ok (.iconst 0, 1) := by decide +kernel
theorem dX12_register_27 : decode cX12_register 27 = .ok (.ireturn, 1) := by decide +kernel
theorem dX12_register_28 : decode cX12_register 28 = .ok (.iload_n 1, 1) := by decide +kernel
theorem dX12_register_29 : decode cX12_register 29 = .ok (.bipush 9, 2) := by decide +kernel
theorem dX12_register_31 : decode cX12_register 31 = .ok (.if_icmp .ge 13, 3) := by decide +kernel
theorem dX12_register_34 : decode cX12_register 34 = .ok (.aload_n 0, 1) := by decide +kernel
theorem dX12_register_35 : decode cX12_register 35 = .ok (.getfield 17, 3) := by decide +kernel
theorem dX12_register_38 : decode cX12_register 38 = .ok (.iload_n 1, 1) := by decide +kernel
theorem dX12_register_39 : decode cX12_register 39 = .ok (.iaload, 1) := by decide +kernel
theorem dX12_register_40 : decode cX12_register 40 = .ok (.invokestatic 715, 3) := by decide +kernel
theorem dX12_register_43 : decode cX12_register 43 = .ok (.ireturn, 1) := by decide +kernel
theorem dX12_register_44 : decode cX12_register 44 = .ok (.iload_n 1, 1) := by decide +kernel
theorem dX12_register_45 : decode cX12_register 45 = .ok (.bipush 9, 2) := by decide +kernel
theorem dX12_register_47 : decode cX12_register 47 = .ok (.if_icmp .ne 18, 3) := by decide +kernel
theorem dX12_register_5 : decode cX12_register 5 = .ok (.iload_n 1, 1) := by decide +kernel
theorem dX12_register_50 : decode cX12_register 50 = .ok (.aload_n 0, 1) := by decide +kernel
theorem dX12_register_51 : decode cX12_register 51 = .ok (.getfield 314, 3) := by decide +kernel
theorem dX12_register_54 : decode cX12_register 54 = .ok (.ifCond .eq 7, 3) := by decide +kernel
theorem dX12_register_57 : decode cX12_register 57 = .ok (.iconst 1, 1) := by decide +kernel
theorem dX12_register_58 : decode cX12_register 58 = .ok (.goto 26, 3) := by decide +kernel
theorem dX12_register_6 : decode cX12_register 6 = .ok (.bipush 11, 2) := by decide +kernel
theorem dX12_register_61 : decode cX12_register 61 = .ok (.iconst 0, 1) := by decide +kernel
theorem dX12_register_62 : decode cX12_register 62 = .ok (.goto 22, 3) := by decide +kernel
theorem dX12_register_65 : decode cX12_register 65 = .ok (.iload_n 1, 1) := by decide +kernel
theorem dX12_register_66 : decode cX12_register 66 = .ok (.bipush 10, 2) := by decide +kernel
theorem dX12_register_68 : decode cX12_register 68 = .ok (.if_icmp .ne 12, 3) := by decide +kernel
theorem dX12_register_71 : decode cX12_register 71 = .ok (.aload_n 0, 1) := by decide +kernel
theorem dX12_register_72 : decode cX12_register 72 = .ok (.getfield 20, 3) := by decide +kernel
theorem dX12_register_75 : decode cX12_register 75 = .ok (.iconst 1, 1) := by decide +kernel
theorem dX12_register_76 : decode cX12_register 76 = .ok (.isub, 1) := by decide +kernel
theorem dX12_register_77 : decode cX12_register 77 = .ok (.goto 7, 3) := by decide +kernel
theorem dX12_register_8 : decode cX12_register 8 = .ok (.if_icmp .le 7, 3) := by decide +kernel
theorem dX12_register_80 : decode cX12_register 80 = .ok (.aload_n 0, 1) := by decide +kernel
theorem dX12_register_81 : decode cX12_register 81 = .ok (.getfield 378, 3) := by decide +kernel
theorem dX12_register_84 : decode cX12_register 84 = .ok (.ireturn, 1) := by decide +kernel
set_option maxHeartbeats 4000000 in
set_option maxRecDepth 100000 in
theorem T_X12_register (l : Launch) (D : va_G) (K : Nat → ClassId) (Z Y : Nat → Nat) (ad : Nat → Nat) (t : tSt) (hok : okM t) (x1 : Int32) : tMet l yX12_register cX12_register 2 (some .int) (rmD 2 0 0) D K Z Y [.ref (ad 0), .int x1] (WM K ad t) (QI D K (fun (r : Int32) (u : tSt) => okM u ∧ frA [(0, 0)] [] [] [] t u ∧ (-2147483648 : Int) ≤ r.toInt ∧ r.toInt ≤ 2147483647) (fun (u : tSt) => WM K ad u)) 0 0 := by
  refine t_met RX12 ⟨rfl, by decide +kernel⟩ (Nat.le_of_ble_eq_true rfl) ?_
  intro p e s m below meth c A ls C hE hZ hr hlocks hA hP hD hS hl
  have hl : lv_has ls 2 [(0, .ref (ad 0)), (1, .int x1)] := hl
  have hokt := hok
  have hfr : frA [(0, 0)] [] [] [] t t := frA_rf
  refine lv_aload_n C.1 C.2.1 dX12_register_0 rfl (lv_at hl 0 rfl) ?_
  refine lv_iload_n C.1 C.2.1 dX12_register_1 rfl (lv_at hl 1 rfl) ?_
  refine lv_if_lt (tgt := 11) C.1 C.2.1 dX12_register_2 (by decide) (fun c_1 => ?_) (fun c_1 => ?_)
  · replace c_1 : x1.toInt < 0 := i_lt c_1
    refine lv_iconst (v := 1) C.1 C.2.1 dX12_register_11 (by decide) ?_
    refine lv_goto (tgt := 16) C.1 C.2.1 dX12_register_12 (by decide) ?_
    refine k_put (ws' := WM K ad (uI t 0 0 1)) (v := .int 1) C hP hD hS 0 rfl rfl inlX12 tyX12_ok nmX12 0 (by decide) m_9_18 rfl rfl rfl rfl rfl dX12_register_16 (fun H locs hP hD hS => ?_)
    have hok : okM (uI t 0 0 1) := ⟨okI_I hok.1 0 0 1 (show (0 : Int) ≤ (1 : Int32).toInt ∧ (1 : Int32).toInt ≤ 1 from ⟨by decide, by decide⟩), hok.2.1, hok.2.2.1, hok.2.2.2.1, hok.2.2.2.2.1, hok.2.2.2.2.2.1, hok.2.2.2.2.2.2.1, trivial⟩
    have hfr : frA [(0, 0)] [] [] [] t (uI t 0 0 1) := frA_I hfr 0 0 _ rfl
    refine lv_aload_n C.1 C.2.1 dX12_register_19 rfl (lv_at hl 0 rfl) ?_
    refine k_get (v := .int 1) C hP 0 rfl rfl inlX12 0 (by decide) m_9_18 rfl dX12_register_20 ?_
    refine lv_if_eq (tgt := 28) C.1 C.2.1 dX12_register_23 (by decide) (fun h => absurd h (by decide)) (fun _ => ?_)
    refine lv_iconst (v := 0) C.1 C.2.1 dX12_register_26 (by decide) ?_
    exact g_iret C hr hlocks hP hD hS rfl (uI t 0 0 1) rfl ⟨hok, hfr, (i_rng _).1, (i_rng _).2⟩ (Nat.le_of_ble_eq_true rfl) (Nat.le_of_ble_eq_true rfl) dX12_register_27
  · replace c_1 : 0 ≤ x1.toInt := i_nlt c_1
    refine lv_iload_n C.1 C.2.1 dX12_register_5 rfl (lv_at hl 1 rfl) ?_
    refine lv_bipush (v := 11) C.1 C.2.1 dX12_register_6 (by decide) ?_
    refine lv_icmp_le (tgt := 15) C.1 C.2.1 dX12_register_8 (by decide) (fun c_2 => ?_) (fun c_2 => ?_)
    · replace c_2 : x1.toInt ≤ 11 := i_le c_2
      refine lv_iconst (v := 0) C.1 C.2.1 dX12_register_15 (by decide) ?_
      refine k_put (ws' := WM K ad (uI t 0 0 0)) (v := .int 0) C hP hD hS 0 rfl rfl inlX12 tyX12_ok nmX12 0 (by decide) m_9_18 rfl rfl rfl rfl rfl dX12_register_16 (fun H locs hP hD hS => ?_)
      have hok : okM (uI t 0 0 0) := ⟨okI_I hok.1 0 0 0 (show (0 : Int) ≤ (0 : Int32).toInt ∧ (0 : Int32).toInt ≤ 1 from ⟨by decide, by decide⟩), hok.2.1, hok.2.2.1, hok.2.2.2.1, hok.2.2.2.2.1, hok.2.2.2.2.2.1, hok.2.2.2.2.2.2.1, trivial⟩
      have hfr : frA [(0, 0)] [] [] [] t (uI t 0 0 0) := frA_I hfr 0 0 _ rfl
      refine lv_aload_n C.1 C.2.1 dX12_register_19 rfl (lv_at hl 0 rfl) ?_
      refine k_get (v := .int 0) C hP 0 rfl rfl inlX12 0 (by decide) m_9_18 rfl dX12_register_20 ?_
      refine lv_if_eq (tgt := 28) C.1 C.2.1 dX12_register_23 (by decide) (fun _ => ?_) (fun h => absurd (by decide) h)
      refine lv_iload_n C.1 C.2.1 dX12_register_28 rfl (lv_at hl 1 rfl) ?_
      refine lv_bipush (v := 9) C.1 C.2.1 dX12_register_29 (by decide) ?_
      refine lv_icmp_ge (tgt := 44) C.1 C.2.1 dX12_register_31 (by decide) (fun c_3 => ?_) (fun c_3 => ?_)
      · replace c_3 : 9 ≤ x1.toInt := i_le c_3
        refine lv_iload_n C.1 C.2.1 dX12_register_44 rfl (lv_at hl 1 rfl) ?_
        refine lv_bipush (v := 9) C.1 C.2.1 dX12_register_45 (by decide) ?_
        refine lv_icmp_ne (tgt := 65) C.1 C.2.1 dX12_register_47 (by decide) (fun c_4 => ?_) (fun c_4 => ?_)
        · replace c_4 : ¬ x1.toInt = 9 := i_ne c_4
          refine lv_iload_n C.1 C.2.1 dX12_register_65 rfl (lv_at hl 1 rfl) ?_
          refine lv_bipush (v := 10) C.1 C.2.1 dX12_register_66 (by decide) ?_
          refine lv_icmp_ne (tgt := 80) C.1 C.2.1 dX12_register_68 (by decide) (fun c_5 => ?_) (fun c_5 => ?_)
          · replace c_5 : ¬ x1.toInt = 10 := i_ne c_5
            refine lv_aload_n C.1 C.2.1 dX12_register_80 rfl (lv_at hl 0 rfl) ?_
            refine k_get (v := .int (t.1 0 7)) C hP 0 rfl rfl inlX12 7 (by decide) m_29_22 rfl dX12_register_81 ?_
            exact g_iret C hr hlocks hP hD hS rfl (uI t 0 0 0) rfl ⟨hok, hfr, (i_rng _).1, (i_rng _).2⟩ (Nat.le_of_ble_eq_true rfl) (Nat.le_of_ble_eq_true rfl) dX12_register_84
          · replace c_5 : x1.toInt = 10 := i_eq c_5
            refine lv_aload_n C.1 C.2.1 dX12_register_71 rfl (lv_at hl 0 rfl) ?_
            have h_6 : (0 : Int) ≤ (t.1 0 6).toInt ∧ (t.1 0 6).toInt ≤ 7 := hok.1 0 6
            refine k_get (v := .int (t.1 0 6)) C hP 0 rfl rfl inlX12 6 (by decide) m_7_7 rfl dX12_register_72 ?_
            refine lv_iconst (v := 1) C.1 C.2.1 dX12_register_75 (by decide) ?_
            obtain ⟨v_7, e_8⟩ : ∃ z, z = ((t.1 0 6) : Int32) - (1 : Int32) := ⟨_, rfl⟩
            have h_9 : v_7.toInt = (t.1 0 6).toInt - 1 := by rw [e_8]; exact ti_isub (by show (_ : Int) ≤ (t.1 0 6).toInt - 1; omega) (by show (t.1 0 6).toInt - 1 < (_ : Int); omega)
            refine k_isub (v := v_7) C e_8.symm dX12_register_76 ?_
            refine lv_goto (tgt := 84) C.1 C.2.1 dX12_register_77 (by decide) ?_
            exact g_iret C hr hlocks hP hD hS rfl (uI t 0 0 0) rfl ⟨hok, hfr, (i_rng _).1, (i_rng _).2⟩ (Nat.le_of_ble_eq_true rfl) (Nat.le_of_ble_eq_true rfl) dX12_register_84
        · replace c_4 : x1.toInt = 9 := i_eq c_4
          refine lv_aload_n C.1 C.2.1 dX12_register_50 rfl (lv_at hl 0 rfl) ?_
          have h_10 : (0 : Int) ≤ (t.1 0 5).toInt ∧ (t.1 0 5).toInt ≤ 1 := hok.1 0 5
          refine k_get (v := .int (t.1 0 5)) C hP 0 rfl rfl inlX12 5 (by decide) m_29_21 rfl dX12_register_51 ?_
          refine lv_if_eq (tgt := 61) C.1 C.2.1 dX12_register_54 (by decide) (fun c_11 => ?_) (fun c_11 => ?_)
          · replace c_11 : (t.1 0 5).toInt = 0 := i_eq c_11
            refine lv_iconst (v := 0) C.1 C.2.1 dX12_register_61 (by decide) ?_
            refine lv_goto (tgt := 84) C.1 C.2.1 dX12_register_62 (by decide) ?_
            exact g_iret C hr hlocks hP hD hS rfl (uI t 0 0 0) rfl ⟨hok, hfr, (i_rng _).1, (i_rng _).2⟩ (Nat.le_of_ble_eq_true rfl) (Nat.le_of_ble_eq_true rfl) dX12_register_84
          · replace c_11 : ¬ (t.1 0 5).toInt = 0 := i_ne c_11
            refine lv_iconst (v := 1) C.1 C.2.1 dX12_register_57 (by decide) ?_
            refine lv_goto (tgt := 84) C.1 C.2.1 dX12_register_58 (by decide) ?_
            exact g_iret C hr hlocks hP hD hS rfl (uI t 0 0 0) rfl ⟨hok, hfr, (i_rng _).1, (i_rng _).2⟩ (Nat.le_of_ble_eq_true rfl) (Nat.le_of_ble_eq_true rfl) dX12_register_84
      · replace c_3 : x1.toInt < 9 := i_nle c_3
        refine lv_aload_n C.1 C.2.1 dX12_register_34 rfl (lv_at hl 0 rfl) ?_
        refine k_get (v := .ref (ad 3)) C hP 0 rfl rfl inlX12 4 (by decide) m_7_6 rfl dX12_register_35 ?_
        refine lv_iload_n C.1 C.2.1 dX12_register_38 rfl (lv_at hl 1 rfl) ?_
        obtain ⟨v_12, e_13⟩ : ∃ z, z = (t.2.2.1 3 (x1 : Int32).toNatClampNeg) := ⟨_, rfl⟩
        refine k_ild (v := v_12) C hP 3 rfl (vp_in_iff.mpr ⟨by omega, by omega⟩) e_13.symm dX12_register_39 ?_
        refine g_Si (As := [.int v_12]) (rest := []) C hP hD hS hA (T_X12_told l D K Z Y ad (uI t 0 0 0) hok (v_12)) hE hZ (uwS m_84_13 m_84_14 m_1_5 m_84_15) (hdS 1 (by decide +kernel) rfl) ⟨Nat.le_of_ble_eq_true rfl, Nat.le_of_ble_eq_true rfl⟩ rfl rfl rfl hl.1 (Nat.le_of_ble_eq_true rfl) dX12_register_40 ⟨Nat.le_of_ble_eq_true rfl, Nat.le_of_ble_eq_true rfl⟩ (fun r_15 t_14 H locs hw hP hD hS => ?_)
        obtain ⟨h_17, h_18⟩ := hw
        exact g_iret C hr hlocks hP hD hS rfl (uI t 0 0 0) rfl ⟨hok, hfr, (i_rng _).1, (i_rng _).2⟩ (Nat.le_of_ble_eq_true rfl) (Nat.le_of_ble_eq_true rfl) dX12_register_43
    · replace c_2 : 11 < x1.toInt := i_nle c_2
      refine lv_iconst (v := 1) C.1 C.2.1 dX12_register_11 (by decide) ?_
      refine lv_goto (tgt := 16) C.1 C.2.1 dX12_register_12 (by decide) ?_
      refine k_put (ws' := WM K ad (uI t 0 0 1)) (v := .int 1) C hP hD hS 0 rfl rfl inlX12 tyX12_ok nmX12 0 (by decide) m_9_18 rfl rfl rfl rfl rfl dX12_register_16 (fun H locs hP hD hS => ?_)
      have hok : okM (uI t 0 0 1) := ⟨okI_I hok.1 0 0 1 (show (0 : Int) ≤ (1 : Int32).toInt ∧ (1 : Int32).toInt ≤ 1 from ⟨by decide, by decide⟩), hok.2.1, hok.2.2.1, hok.2.2.2.1, hok.2.2.2.2.1, hok.2.2.2.2.2.1, hok.2.2.2.2.2.2.1, trivial⟩
      have hfr : frA [(0, 0)] [] [] [] t (uI t 0 0 1) := frA_I hfr 0 0 _ rfl
      refine lv_aload_n C.1 C.2.1 dX12_register_19 rfl (lv_at hl 0 rfl) ?_
      refine k_get (v := .int 1) C hP 0 rfl rfl inlX12 0 (by decide) m_9_18 rfl dX12_register_20 ?_
      refine lv_if_eq (tgt := 28) C.1 C.2.1 dX12_register_23 (by decide) (fun h => absurd h (by decide)) (fun _ => ?_)
      refine lv_iconst (v := 0) C.1 C.2.1 dX12_register_26 (by decide) ?_
      exact g_iret C hr hlocks hP hD hS rfl (uI t 0 0 1) rfl ⟨hok, hfr, (i_rng _).1, (i_rng _).2⟩ (Nat.le_of_ble_eq_true rfl) (Nat.le_of_ble_eq_true rfl) dX12_register_27

theorem dX12_word_0 : decode cX12_word 0 = .ok (.aload_n 0, 1) := by decide +kernel
theorem dX12_word_1 : decode cX12_word 1 = .ok (.iload_n 1, 1) := by decide +kernel
theorem dX12_word_12 : decode cX12_word 12 = .ok (.iconst 1, 1) := by decide +kernel
theorem dX12_word_13 : decode cX12_word 13 = .ok (.putfield 155, 3) := by decide +kernel
theorem dX12_word_16 : decode cX12_word 16 = .ok (.aload_n 0, 1) := by decide +kernel
theorem dX12_word_17 : decode cX12_word 17 = .ok (.getfield 155, 3) := by decide +kernel
theorem dX12_word_2 : decode cX12_word 2 = .ok (.invokestatic 854, 3) := by decide +kernel
theorem dX12_word_20 : decode cX12_word 20 = .ok (.ifCond .ne 14, 3) := by decide +kernel
theorem dX12_word_23 : decode cX12_word 23 = .ok (.aload_n 0, 1) := by decide +kernel
theorem dX12_word_24 : decode cX12_word 24 = .ok (.iload_n 1, 1) := by decide +kernel
theorem dX12_word_25 : decode cX12_word 25 = .ok (.invokevirtual 260, 3) := by decide +kernel
theorem dX12_word_28 : decode cX12_word 28 = .ok (.invokestatic 715, 3) := by decide +kernel
theorem dX12_word_31 : decode cX12_word 31 = .ok (.goto 4, 3) := by decide +kernel
theorem dX12_word_34 : decode cX12_word 34 = .ok (.iconst 0, 1) := by decide +kernel
theorem dX12_word_35 : decode cX12_word 35 = .ok (.ireturn, 1) := by decide +kernel
theorem dX12_word_5 : decode cX12_word 5 = .ok (.ifCond .eq 7, 3) := by decide +kernel
theorem dX12_word_8 : decode cX12_word 8 = .ok (.iconst 0, 1) := by decide +kernel
theorem dX12_word_9 : decode cX12_word 9 = .ok (.goto 4, 3) := by decide +kernel
set_option maxHeartbeats 4000000 in
set_option maxRecDepth 100000 in
theorem T_X12_word (l : Launch) (D : va_G) (K : Nat → ClassId) (Z Y : Nat → Nat) (ad : Nat → Nat) (t : tSt) (hok : okM t) (x1 : Int32) : tMet l yX12_word cX12_word 2 (some .int) (rmD 2 0 0) D K Z Y [.ref (ad 0), .int x1] (WM K ad t) (QI D K (fun (r : Int32) (u : tSt) => okM u ∧ frA [(0, 0)] [] [] [] t u ∧ (-2147483648 : Int) ≤ r.toInt ∧ r.toInt ≤ 2147483647) (fun (u : tSt) => WM K ad u)) 0 0 := by
  refine t_met RX12 ⟨rfl, by decide +kernel⟩ (Nat.le_of_ble_eq_true rfl) ?_
  intro p e s m below meth c A ls C hE hZ hr hlocks hA hP hD hS hl
  have hl : lv_has ls 2 [(0, .ref (ad 0)), (1, .int x1)] := hl
  have hokt := hok
  have hfr : frA [(0, 0)] [] [] [] t t := frA_rf
  refine lv_aload_n C.1 C.2.1 dX12_word_0 rfl (lv_at hl 0 rfl) ?_
  refine lv_iload_n C.1 C.2.1 dX12_word_1 rfl (lv_at hl 1 rfl) ?_
  refine g_Si (As := [.int x1]) (rest := [.ref (ad 0)]) C hP hD hS hA (T_X12_isAddress l D K Z Y ad t hok (x1)) hE hZ (uwS m_85_4 m_85_5 m_1_5 m_85_6) (hdS 1 (by decide +kernel) rfl) ⟨Nat.le_of_ble_eq_true rfl, Nat.le_of_ble_eq_true rfl⟩ rfl rfl rfl hl.1 (Nat.le_of_ble_eq_true rfl) dX12_word_2 ⟨Nat.le_of_ble_eq_true rfl, Nat.le_of_ble_eq_true rfl⟩ (fun r_2 t_1 H locs hw hP hD hS => ?_)
  obtain ⟨h_4, h_5, p_6⟩ := hw
  replace p_6 : r_2.toInt = 1 → -3999 ≤ x1.toInt ∧ x1.toInt ≤ 3999 := p_6
  refine lv_if_eq (tgt := 12) C.1 C.2.1 dX12_word_5 (by decide) (fun c_7 => ?_) (fun c_7 => ?_)
  · replace c_7 : r_2.toInt = 0 := i_eq c_7
    refine lv_iconst (v := 1) C.1 C.2.1 dX12_word_12 (by decide) ?_
    refine k_put (ws' := WM K ad (uI t 0 0 1)) (v := .int 1) C hP hD hS 0 rfl rfl inlX12 tyX12_ok nmX12 0 (by decide) m_9_18 rfl rfl rfl rfl rfl dX12_word_13 (fun H locs hP hD hS => ?_)
    have hok : okM (uI t 0 0 1) := ⟨okI_I hok.1 0 0 1 (show (0 : Int) ≤ (1 : Int32).toInt ∧ (1 : Int32).toInt ≤ 1 from ⟨by decide, by decide⟩), hok.2.1, hok.2.2.1, hok.2.2.2.1, hok.2.2.2.2.1, hok.2.2.2.2.2.1, hok.2.2.2.2.2.2.1, trivial⟩
    have hfr : frA [(0, 0)] [] [] [] t (uI t 0 0 1) := frA_I hfr 0 0 _ rfl
    refine lv_aload_n C.1 C.2.1 dX12_word_16 rfl (lv_at hl 0 rfl) ?_
    refine k_get (v := .int 1) C hP 0 rfl rfl inlX12 0 (by decide) m_9_18 rfl dX12_word_17 ?_
    refine lv_if_ne (tgt := 34) C.1 C.2.1 dX12_word_20 (by decide) (fun _ => ?_) (fun h => absurd h (by decide))
    refine lv_iconst (v := 0) C.1 C.2.1 dX12_word_34 (by decide) ?_
    exact g_iret C hr hlocks hP hD hS rfl (uI t 0 0 1) rfl ⟨hok, hfr, (i_rng _).1, (i_rng _).2⟩ (Nat.le_of_ble_eq_true rfl) (Nat.le_of_ble_eq_true rfl) dX12_word_35
  · replace c_7 : ¬ r_2.toInt = 0 := i_ne c_7
    refine lv_iconst (v := 0) C.1 C.2.1 dX12_word_8 (by decide) ?_
    refine lv_goto (tgt := 13) C.1 C.2.1 dX12_word_9 (by decide) ?_
    refine k_put (ws' := WM K ad (uI t 0 0 0)) (v := .int 0) C hP hD hS 0 rfl rfl inlX12 tyX12_ok nmX12 0 (by decide) m_9_18 rfl rfl rfl rfl rfl dX12_word_13 (fun H locs hP hD hS => ?_)
    have hok : okM (uI t 0 0 0) := ⟨okI_I hok.1 0 0 0 (show (0 : Int) ≤ (0 : Int32).toInt ∧ (0 : Int32).toInt ≤ 1 from ⟨by decide, by decide⟩), hok.2.1, hok.2.2.1, hok.2.2.2.1, hok.2.2.2.2.1, hok.2.2.2.2.2.1, hok.2.2.2.2.2.2.1, trivial⟩
    have hfr : frA [(0, 0)] [] [] [] t (uI t 0 0 0) := frA_I hfr 0 0 _ rfl
    refine lv_aload_n C.1 C.2.1 dX12_word_16 rfl (lv_at hl 0 rfl) ?_
    refine k_get (v := .int 0) C hP 0 rfl rfl inlX12 0 (by decide) m_9_18 rfl dX12_word_17 ?_
    refine lv_if_ne (tgt := 34) C.1 C.2.1 dX12_word_20 (by decide) (fun h => absurd h (by decide)) (fun _ => ?_)
    refine lv_aload_n C.1 C.2.1 dX12_word_23 rfl (lv_at hl 0 rfl) ?_
    refine lv_iload_n C.1 C.2.1 dX12_word_24 rfl (lv_at hl 1 rfl) ?_
    refine g_Vi (As := [.int x1]) (rest := []) C hP hD hS hA (T_X12_memoryAt l D K Z Y ad (uI t 0 0 0) hok (x1) (show (-3999 : Int) ≤ (x1 : Int32).toInt ∧ (x1 : Int32).toInt ≤ 3999 from ⟨by omega, by omega⟩)) hE hZ (uwV m_38_19 m_38_20 m_38_21 m_1_5 m_38_22) (hdV 1 (by decide +kernel) rfl) ⟨Nat.le_of_ble_eq_true rfl, Nat.le_of_ble_eq_true rfl⟩ rfl rfl (ci := 11) (q0 := 0) rfl rfl rfl hl.1 (Nat.le_of_ble_eq_true rfl) dX12_word_25 ⟨Nat.le_of_ble_eq_true rfl, Nat.le_of_ble_eq_true rfl⟩ (fun r_9 t_8 H locs hw hP hD hS => ?_)
    obtain ⟨h_11, h_12⟩ := hw
    refine g_Si (As := [.int r_9]) (rest := []) C hP hD hS hA (T_X12_told l D K Z Y ad (uI t 0 0 0) hok (r_9)) hE hZ (uwS m_84_13 m_84_14 m_1_5 m_84_15) (hdS 1 (by decide +kernel) rfl) ⟨Nat.le_of_ble_eq_true rfl, Nat.le_of_ble_eq_true rfl⟩ rfl rfl rfl hl.1 (Nat.le_of_ble_eq_true rfl) dX12_word_28 ⟨Nat.le_of_ble_eq_true rfl, Nat.le_of_ble_eq_true rfl⟩ (fun r_14 t_13 H locs hw hP hD hS => ?_)
    obtain ⟨h_16, h_17⟩ := hw
    refine lv_goto (tgt := 35) C.1 C.2.1 dX12_word_31 (by decide) ?_
    exact g_iret C hr hlocks hP hD hS rfl (uI t 0 0 0) rfl ⟨hok, hfr, (i_rng _).1, (i_rng _).2⟩ (Nat.le_of_ble_eq_true rfl) (Nat.le_of_ble_eq_true rfl) dX12_word_35

theorem dX12_symbol_0 : decode cX12_symbol 0 = .ok (.aload_n 0, 1) := by decide +kernel
theorem dX12_symbol_1 : decode cX12_symbol 1 = .ok (.getfield 176, 3) := by decide +kernel
theorem dX12_symbol_102 : decode cX12_symbol 102 = .ok (.iload 6, 2) := by decide +kernel
theorem dX12_symbol_104 : decode cX12_symbol 104 = .ok (.invokestatic 452, 3) := by decide +kernel
theorem dX12_symbol_107 : decode cX12_symbol 107 = .ok (.ifCond .eq 7, 3) := by decide +kernel
theorem dX12_symbol_11 : decode cX12_symbol 11 = .ok (.bipush 11, 2) := by decide +kernel
theorem dX12_symbol_110 : decode cX12_symbol 110 = .ok (.iconst 1, 1) := by decide +kernel
theorem dX12_symbol_111 : decode cX12_symbol 111 = .ok (.goto 4, 3) := by decide +kernel
theorem dX12_symbol_114 : decode cX12_symbol 114 = .ok (.iconst 0, 1) := by decide +kernel
theorem dX12_symbol_115 : decode cX12_symbol 115 = .ok (.istore_n 2, 1) := by decide +kernel
theorem dX12_symbol_116 : decode cX12_symbol 116 = .ok (.ldc2_w 458, 3) := by decide +kernel
theorem dX12_symbol_119 : decode cX12_symbol 119 = .ok (.lload_n 3, 1) := by decide +kernel
theorem dX12_symbol_120 : decode cX12_symbol 120 = .ok (.lmul, 1) := by decide +kernel
theorem dX12_symbol_121 : decode cX12_symbol 121 = .ok (.iload 5, 2) := by decide +kernel
theorem dX12_symbol_123 : decode cX12_symbol 123 = .ok (.aload_n 0, 1) := by decide +kernel
theorem dX12_symbol_124 : decode cX12_symbol 124 = .ok (.getfield 176, 3) := by decide +kernel
theorem dX12_symbol_127 : decode cX12_symbol 127 = .ok (.if_icmp .ge 15, 3) := by decide +kernel
theorem dX12_symbol_13 : decode cX12_symbol 13 = .ok (.if_icmp .ge 7, 3) := by decide +kernel
theorem dX12_symbol_130 : decode cX12_symbol 130 = .ok (.iload_n 1, 1) := by decide +kernel
theorem dX12_symbol_131 : decode cX12_symbol 131 = .ok (.ifCond .eq 11, 3) := by decide +kernel
theorem dX12_symbol_134 : decode cX12_symbol 134 = .ok (.iload 6, 2) := by decide +kernel
theorem dX12_symbol_136 : decode cX12_symbol 136 = .ok (.invokestatic 460, 3) := by decide +kernel
theorem dX12_symbol_139 : decode cX12_symbol 139 = .ok (.goto 4, 3) := by decide +kernel
theorem dX12_symbol_142 : decode cX12_symbol 142 = .ok (.iconst 0, 1) := by decide +kernel
theorem dX12_symbol_143 : decode cX12_symbol 143 = .ok (.i2l, 1) := by decide +kernel
theorem dX12_symbol_144 : decode cX12_symbol 144 = .ok (.ladd, 1) := by decide +kernel
theorem dX12_symbol_145 : decode cX12_symbol 145 = .ok (.lstore_n 3, 1) := by decide +kernel
theorem dX12_symbol_146 : decode cX12_symbol 146 = .ok (.iinc 5 1, 3) := by decide +kernel
theorem dX12_symbol_149 : decode cX12_symbol 149 = .ok (.goto (-120), 3) := by decide +kernel
theorem dX12_symbol_152 : decode cX12_symbol 152 = .ok (.aload_n 0, 1) := by decide +kernel
theorem dX12_symbol_153 : decode cX12_symbol 153 = .ok (.iconst 0, 1) := by decide +kernel
theorem dX12_symbol_154 : decode cX12_symbol 154 = .ok (.putfield 176, 3) := by decide +kernel
theorem dX12_symbol_157 : decode cX12_symbol 157 = .ok (.aload_n 0, 1) := by decide +kernel
theorem dX12_symbol_158 : decode cX12_symbol 158 = .ok (.getfield 633, 3) := by decide +kernel
theorem dX12_symbol_16 : decode cX12_symbol 16 = .ok (.iconst 1, 1) := by decide +kernel
theorem dX12_symbol_161 : decode cX12_symbol 161 = .ok (.ifCond .eq 19, 3) := by decide +kernel
theorem dX12_symbol_164 : decode cX12_symbol 164 = .ok (.iload_n 1, 1) := by decide +kernel
theorem dX12_symbol_165 : decode cX12_symbol 165 = .ok (.ifCond .eq 15, 3) := by decide +kernel
theorem dX12_symbol_168 : decode cX12_symbol 168 = .ok (.iload_n 2, 1) := by decide +kernel
theorem dX12_symbol_169 : decode cX12_symbol 169 = .ok (.ifCond .eq 11, 3) := by decide +kernel
theorem dX12_symbol_17 : decode cX12_symbol 17 = .ok (.goto 4, 3) := by decide +kernel
theorem dX12_symbol_172 : decode cX12_symbol 172 = .ok (.aload_n 0, 1) := by decide +kernel
theorem dX12_symbol_173 : decode cX12_symbol 173 = .ok (.lload_n 3, 1) := by decide +kernel
theorem dX12_symbol_174 : decode cX12_symbol 174 = .ok (.invokevirtual 466, 3) := by decide +kernel
theorem dX12_symbol_177 : decode cX12_symbol 177 = .ok (.goto 4, 3) := by decide +kernel
theorem dX12_symbol_180 : decode cX12_symbol 180 = .ok (.iconst (-1), 1) := by decide +kernel
theorem dX12_symbol_181 : decode cX12_symbol 181 = .ok (.istore 5, 2) := by decide +kernel
theorem dX12_symbol_183 : decode cX12_symbol 183 = .ok (.aload_n 0, 1) := by decide +kernel
theorem dX12_symbol_184 : decode cX12_symbol 184 = .ok (.iload 5, 2) := by decide +kernel
theorem dX12_symbol_186 : decode cX12_symbol 186 = .ok (.iconst (-1), 1) := by decide +kernel
theorem dX12_symbol_187 : decode cX12_symbol 187 = .ok (.if_icmp .eq 17, 3) := by decide +kernel
theorem dX12_symbol_190 : decode cX12_symbol 190 = .ok (.aload_n 0, 1) := by decide +kernel
theorem dX12_symbol_191 : decode cX12_symbol 191 = .ok (.getfield 95, 3) := by decide +kernel
theorem dX12_symbol_194 : decode cX12_symbol 194 = .ok (.iload 5, 2) := by decide +kernel
theorem dX12_symbol_196 : decode cX12_symbol 196 = .ok (.baload, 1) := by decide +kernel
theorem dX12_symbol_197 : decode cX12_symbol 197 = .ok (.ifCond .eq 7, 3) := by decide +kernel
theorem dX12_symbol_20 : decode cX12_symbol 20 = .ok (.iconst 0, 1) := by decide +kernel
theorem dX12_symbol_200 : decode cX12_symbol 200 = .ok (.iconst 0, 1) := by decide +kernel
theorem dX12_symbol_201 : decode cX12_symbol 201 = .ok (.goto 4, 3) := by decide +kernel
theorem dX12_symbol_204 : decode cX12_symbol 204 = .ok (.iconst 1, 1) := by decide +kernel
theorem dX12_symbol_205 : decode cX12_symbol 205 = .ok (.putfield 155, 3) := by decide +kernel
theorem dX12_symbol_208 : decode cX12_symbol 208 = .ok (.aload_n 0, 1) := by decide +kernel
theorem dX12_symbol_209 : decode cX12_symbol 209 = .ok (.getfield 155, 3) := by decide +kernel
theorem dX12_symbol_21 : decode cX12_symbol 21 = .ok (.istore_n 1, 1) := by decide +kernel
theorem dX12_symbol_212 : decode cX12_symbol 212 = .ok (.ifCond .ne 16, 3) := by decide +kernel
theorem dX12_symbol_215 : decode cX12_symbol 215 = .ok (.aload_n 0, 1) := by decide +kernel
theorem dX12_symbol_216 : decode cX12_symbol 216 = .ok (.getfield 92, 3) := by decide +kernel
theorem dX12_symbol_219 : decode cX12_symbol 219 = .ok (.iload 5, 2) := by decide +kernel
theorem dX12_symbol_22 : decode cX12_symbol 22 = .ok (.iconst 0, 1) := by decide +kernel
theorem dX12_symbol_221 : decode cX12_symbol 221 = .ok (.iaload, 1) := by decide +kernel
theorem dX12_symbol_222 : decode cX12_symbol 222 = .ok (.invokestatic 715, 3) := by decide +kernel
theorem dX12_symbol_225 : decode cX12_symbol 225 = .ok (.goto 4, 3) := by decide +kernel
theorem dX12_symbol_228 : decode cX12_symbol 228 = .ok (.iconst 0, 1) := by decide +kernel
theorem dX12_symbol_229 : decode cX12_symbol 229 = .ok (.ireturn, 1) := by decide +kernel
theorem dX12_symbol_23 : decode cX12_symbol 23 = .ok (.istore_n 2, 1) := by decide +kernel
theorem dX12_symbol_24 : decode cX12_symbol 24 = .ok (.lconst 0, 1) := by decide +kernel
theorem dX12_symbol_25 : decode cX12_symbol 25 = .ok (.lstore_n 3, 1) := by decide +kernel
theorem dX12_symbol_26 : decode cX12_symbol 26 = .ok (.iconst 0, 1) := by decide +kernel
theorem dX12_symbol_27 : decode cX12_symbol 27 = .ok (.istore 5, 2) := by decide +kernel
theorem dX12_symbol_29 : decode cX12_symbol 29 = .ok (.iload 5, 2) := by decide +kernel
theorem dX12_symbol_31 : decode cX12_symbol 31 = .ok (.bipush 10, 2) := by decide +kernel
theorem dX12_symbol_33 : decode cX12_symbol 33 = .ok (.if_icmp .ge 119, 3) := by decide +kernel
theorem dX12_symbol_36 : decode cX12_symbol 36 = .ok (.iload_n 1, 1) := by decide +kernel
theorem dX12_symbol_37 : decode cX12_symbol 37 = .ok (.ifCond .eq 115, 3) := by decide +kernel
theorem dX12_symbol_4 : decode cX12_symbol 4 = .ok (.ifCond .le 16, 3) := by decide +kernel
theorem dX12_symbol_40 : decode cX12_symbol 40 = .ok (.iload 5, 2) := by decide +kernel
theorem dX12_symbol_42 : decode cX12_symbol 42 = .ok (.aload_n 0, 1) := by decide +kernel
theorem dX12_symbol_43 : decode cX12_symbol 43 = .ok (.getfield 176, 3) := by decide +kernel
theorem dX12_symbol_46 : decode cX12_symbol 46 = .ok (.if_icmp .ge 17, 3) := by decide +kernel
theorem dX12_symbol_49 : decode cX12_symbol 49 = .ok (.aload_n 0, 1) := by decide +kernel
theorem dX12_symbol_50 : decode cX12_symbol 50 = .ok (.getfield 9, 3) := by decide +kernel
theorem dX12_symbol_53 : decode cX12_symbol 53 = .ok (.iload 5, 2) := by decide +kernel
theorem dX12_symbol_55 : decode cX12_symbol 55 = .ok (.baload, 1) := by decide +kernel
theorem dX12_symbol_56 : decode cX12_symbol 56 = .ok (.sipush 255, 3) := by decide +kernel
theorem dX12_symbol_59 : decode cX12_symbol 59 = .ok (.iand, 1) := by decide +kernel
theorem dX12_symbol_60 : decode cX12_symbol 60 = .ok (.goto 5, 3) := by decide +kernel
theorem dX12_symbol_63 : decode cX12_symbol 63 = .ok (.bipush 32, 2) := by decide +kernel
theorem dX12_symbol_65 : decode cX12_symbol 65 = .ok (.istore 6, 2) := by decide +kernel
theorem dX12_symbol_67 : decode cX12_symbol 67 = .ok (.iload 5, 2) := by decide +kernel
theorem dX12_symbol_69 : decode cX12_symbol 69 = .ok (.aload_n 0, 1) := by decide +kernel
theorem dX12_symbol_7 : decode cX12_symbol 7 = .ok (.aload_n 0, 1) := by decide +kernel
theorem dX12_symbol_70 : decode cX12_symbol 70 = .ok (.getfield 176, 3) := by decide +kernel
theorem dX12_symbol_73 : decode cX12_symbol 73 = .ok (.if_icmp .ge 19, 3) := by decide +kernel
theorem dX12_symbol_76 : decode cX12_symbol 76 = .ok (.iload 6, 2) := by decide +kernel
theorem dX12_symbol_78 : decode cX12_symbol 78 = .ok (.invokestatic 452, 3) := by decide +kernel
theorem dX12_symbol_8 : decode cX12_symbol 8 = .ok (.getfield 176, 3) := by decide +kernel
theorem dX12_symbol_81 : decode cX12_symbol 81 = .ok (.ifCond .ne 11, 3) := by decide +kernel
theorem dX12_symbol_84 : decode cX12_symbol 84 = .ok (.iload 6, 2) := by decide +kernel
theorem dX12_symbol_86 : decode cX12_symbol 86 = .ok (.invokestatic 455, 3) := by decide +kernel
theorem dX12_symbol_89 : decode cX12_symbol 89 = .ok (.ifCond .eq 7, 3) := by decide +kernel
theorem dX12_symbol_92 : decode cX12_symbol 92 = .ok (.iconst 1, 1) := by decide +kernel
theorem dX12_symbol_93 : decode cX12_symbol 93 = .ok (.goto 4, 3) := by decide +kernel
theorem dX12_symbol_96 : decode cX12_symbol 96 = .ok (.iconst 0, 1) := by decide +kernel
theorem dX12_symbol_97 : decode cX12_symbol 97 = .ok (.istore_n 1, 1) := by decide +kernel
theorem dX12_symbol_98 : decode cX12_symbol 98 = .ok (.iload_n 2, 1) := by decide +kernel
theorem dX12_symbol_99 : decode cX12_symbol 99 = .ok (.ifCond .ne 11, 3) := by decide +kernel
set_option maxHeartbeats 4000000 in
set_option maxRecDepth 100000 in
theorem T_X12_symbol (l : Launch) (D : va_G) (K : Nat → ClassId) (Z Y : Nat → Nat) (ad : Nat → Nat) (t : tSt) (hok : okM t)  : tMet l yX12_symbol cX12_symbol 7 (some .int) (rmD 2 0 0) D K Z Y [.ref (ad 0)] (WM K ad t) (QI D K (fun (r : Int32) (u : tSt) => okM u ∧ frA [(0, 0), (0, 2)] [] [] [] t u ∧ (-2147483648 : Int) ≤ r.toInt ∧ r.toInt ≤ 2147483647 ∧ ((u.1 0 2).toInt = 0)) (fun (u : tSt) => WM K ad u)) 0 0 := by
  refine t_met RX12 ⟨rfl, by decide +kernel⟩ (Nat.le_of_ble_eq_true rfl) ?_
  intro p e s m below meth c A ls C hE hZ hr hlocks hA hP hD hS hl
  have hl : lv_has ls 7 [(0, .ref (ad 0))] := hl
  have hokt := hok
  have hfr : frA [(0, 0), (0, 2)] [] [] [] t t := frA_rf
  have h_1 : (0 : Int) ≤ (t.1 0 2).toInt ∧ (t.1 0 2).toInt ≤ 1280 := hok.1 0 2
  have h_2 : (0 : Int) ≤ (t.1 0 52).toInt ∧ (t.1 0 52).toInt ≤ 1200 := hok.1 0 52
  have L_152 : ∀ (t1 : tSt) (w152_1 : Int32) (w152_2 : Int32) (w152_3 : Int64) (w152_5 : Int32) (H : Heap) (locs : List Loc) (ls : Array Slot), okM t1 → frA [(0, 0), (0, 2)] [] [] [] t t1 → (0 : Int) ≤ w152_1.toInt ∧ w152_1.toInt ≤ 1 → (0 : Int) ≤ w152_2.toInt ∧ w152_2.toInt ≤ 1 → (0 : Int) ≤ w152_5.toInt ∧ w152_5.toInt ≤ 10 → va_P D vwCl (WM K ad t1) H → va_D A (WM K ad t1) → va_S A s.heap H locs → lv_has ls 7 [(0, .ref (ad 0)), (1, .int w152_1), (2, .int w152_2), (3, .long w152_3), (5, .int w152_5)] → W p l e (rmD 2 0 0) s m [.ref (ad 0)].toArray below meth c H locs 0 0 (MQ below (QI D K (fun (r : Int32) (u : tSt) => okM u ∧ frA [(0, 0), (0, 2)] [] [] [] t u ∧ (-2147483648 : Int) ≤ r.toInt ∧ r.toInt ≤ 2147483647 ∧ ((u.1 0 2).toInt = 0)) (fun (u : tSt) => WM K ad u) A) [.ref (ad 0)].toArray s 0 0 A) (F0 m 152 ls []) := by
    intro t1 w152_1 w152_2 w152_3 w152_5 H locs ls hok hfr hw152_1 hw152_2 hw152_5 hP hD hS hl
    have h_3 : (t1.1 0 52).toInt = (t.1 0 52).toInt := ti_eq (hfr.1 0 52 rfl)
    have h_4 : (0 : Int) ≤ (t1.1 0 2).toInt ∧ (t1.1 0 2).toInt ≤ 1280 := hok.1 0 2
    have h_5 : (0 : Int) ≤ (t1.1 0 52).toInt ∧ (t1.1 0 52).toInt ≤ 1200 := hok.1 0 52
    refine lv_aload_n C.1 C.2.1 dX12_symbol_152 rfl (lv_at hl 0 rfl) ?_
    refine lv_iconst (v := 0) C.1 C.2.1 dX12_symbol_153 (by decide) ?_
    refine k_put (ws' := WM K ad (uI t1 0 2 0)) (v := .int 0) C hP hD hS 0 rfl rfl inlX12 tyX12_ok nmX12 2 (by decide) m_9_19 rfl rfl rfl rfl rfl dX12_symbol_154 (fun H locs hP hD hS => ?_)
    have hok : okM (uI t1 0 2 0) := ⟨okI_I hok.1 0 2 0 (show (0 : Int) ≤ (0 : Int32).toInt ∧ (0 : Int32).toInt ≤ 1280 from ⟨by decide, by decide⟩), hok.2.1, hok.2.2.1, hok.2.2.2.1, hok.2.2.2.2.1, hok.2.2.2.2.2.1, hok.2.2.2.2.2.2.1, trivial⟩
    have hfr : frA [(0, 0), (0, 2)] [] [] [] t (uI t1 0 2 0) := frA_I hfr 0 2 _ rfl
    refine lv_aload_n C.1 C.2.1 dX12_symbol_157 rfl (lv_at hl 0 rfl) ?_
    have h_6 : (0 : Int) ≤ (t1.1 0 42).toInt ∧ (t1.1 0 42).toInt ≤ 1 := hok.1 0 42
    refine k_get (v := .int (t1.1 0 42)) C hP 0 rfl rfl inlX12 42 (by decide) m_29_16 rfl dX12_symbol_158 ?_
    refine lv_if_eq (tgt := 180) C.1 C.2.1 dX12_symbol_161 (by decide) (fun c_7 => ?_) (fun c_7 => ?_)
    · replace c_7 : (t1.1 0 42).toInt = 0 := i_eq c_7
      refine lv_iconst (v := (-1)) C.1 C.2.1 dX12_symbol_180 (by decide) ?_
      refine lv_istore (lv' := [(5, .int (-1)), (0, .ref (ad 0)), (1, .int w152_1), (2, .int w152_2), (3, .long w152_3)]) C.1 C.2.1 dX12_symbol_181 hl (by decide) rfl (fun ls hl => ?_)
      have hl : lv_has ls 7 [(0, .ref (ad 0)), (1, .int w152_1), (2, .int w152_2), (3, .long w152_3), (5, .int (-1))] := lv_sub hl [1, 2, 3, 4, 0] rfl
      refine lv_aload_n C.1 C.2.1 dX12_symbol_183 rfl (lv_at hl 0 rfl) ?_
      refine lv_iload C.1 C.2.1 dX12_symbol_184 (lv_at hl 4 rfl) ?_
      refine lv_iconst (v := (-1)) C.1 C.2.1 dX12_symbol_186 (by decide) ?_
      refine lv_icmp_eq (tgt := 204) C.1 C.2.1 dX12_symbol_187 (by decide) (fun _ => ?_) (fun h => absurd (by decide) h)
      refine lv_iconst (v := 1) C.1 C.2.1 dX12_symbol_204 (by decide) ?_
      refine k_put (ws' := WM K ad (uI (uI t1 0 2 0) 0 0 1)) (v := .int 1) C hP hD hS 0 rfl rfl inlX12 tyX12_ok nmX12 0 (by decide) m_9_18 rfl rfl rfl rfl rfl dX12_symbol_205 (fun H locs hP hD hS => ?_)
      have hok : okM (uI (uI t1 0 2 0) 0 0 1) := ⟨okI_I hok.1 0 0 1 (show (0 : Int) ≤ (1 : Int32).toInt ∧ (1 : Int32).toInt ≤ 1 from ⟨by decide, by decide⟩), hok.2.1, hok.2.2.1, hok.2.2.2.1, hok.2.2.2.2.1, hok.2.2.2.2.2.1, hok.2.2.2.2.2.2.1, trivial⟩
      have hfr : frA [(0, 0), (0, 2)] [] [] [] t (uI (uI t1 0 2 0) 0 0 1) := frA_I hfr 0 0 _ rfl
      refine lv_aload_n C.1 C.2.1 dX12_symbol_208 rfl (lv_at hl 0 rfl) ?_
      refine k_get (v := .int 1) C hP 0 rfl rfl inlX12 0 (by decide) m_9_18 rfl dX12_symbol_209 ?_
      refine lv_if_ne (tgt := 228) C.1 C.2.1 dX12_symbol_212 (by decide) (fun _ => ?_) (fun h => absurd h (by decide))
      refine lv_iconst (v := 0) C.1 C.2.1 dX12_symbol_228 (by decide) ?_
      exact g_iret C hr hlocks hP hD hS rfl (uI (uI t1 0 2 0) 0 0 1) rfl ⟨hok, hfr, (i_rng _).1, (i_rng _).2, (show 0 = 0 from by omega)⟩ (Nat.le_of_ble_eq_true rfl) (Nat.le_of_ble_eq_true rfl) dX12_symbol_229
    · replace c_7 : ¬ (t1.1 0 42).toInt = 0 := i_ne c_7
      refine lv_iload_n C.1 C.2.1 dX12_symbol_164 rfl (lv_at hl 1 rfl) ?_
      refine lv_if_eq (tgt := 180) C.1 C.2.1 dX12_symbol_165 (by decide) (fun c_8 => ?_) (fun c_8 => ?_)
      · replace c_8 : w152_1.toInt = 0 := i_eq c_8
        refine lv_iconst (v := (-1)) C.1 C.2.1 dX12_symbol_180 (by decide) ?_
        refine lv_istore (lv' := [(5, .int (-1)), (0, .ref (ad 0)), (1, .int w152_1), (2, .int w152_2), (3, .long w152_3)]) C.1 C.2.1 dX12_symbol_181 hl (by decide) rfl (fun ls hl => ?_)
        have hl : lv_has ls 7 [(0, .ref (ad 0)), (1, .int w152_1), (2, .int w152_2), (3, .long w152_3), (5, .int (-1))] := lv_sub hl [1, 2, 3, 4, 0] rfl
        refine lv_aload_n C.1 C.2.1 dX12_symbol_183 rfl (lv_at hl 0 rfl) ?_
        refine lv_iload C.1 C.2.1 dX12_symbol_184 (lv_at hl 4 rfl) ?_
        refine lv_iconst (v := (-1)) C.1 C.2.1 dX12_symbol_186 (by decide) ?_
        refine lv_icmp_eq (tgt := 204) C.1 C.2.1 dX12_symbol_187 (by decide) (fun _ => ?_) (fun h => absurd (by decide) h)
        refine lv_iconst (v := 1) C.1 C.2.1 dX12_symbol_204 (by decide) ?_
        refine k_put (ws' := WM K ad (uI (uI t1 0 2 0) 0 0 1)) (v := .int 1) C hP hD hS 0 rfl rfl inlX12 tyX12_ok nmX12 0 (by decide) m_9_18 rfl rfl rfl rfl rfl dX12_symbol_205 (fun H locs hP hD hS => ?_)
        have hok : okM (uI (uI t1 0 2 0) 0 0 1) := ⟨okI_I hok.1 0 0 1 (show (0 : Int) ≤ (1 : Int32).toInt ∧ (1 : Int32).toInt ≤ 1 from ⟨by decide, by decide⟩), hok.2.1, hok.2.2.1, hok.2.2.2.1, hok.2.2.2.2.1, hok.2.2.2.2.2.1, hok.2.2.2.2.2.2.1, trivial⟩
        have hfr : frA [(0, 0), (0, 2)] [] [] [] t (uI (uI t1 0 2 0) 0 0 1) := frA_I hfr 0 0 _ rfl
        refine lv_aload_n C.1 C.2.1 dX12_symbol_208 rfl (lv_at hl 0 rfl) ?_
        refine k_get (v := .int 1) C hP 0 rfl rfl inlX12 0 (by decide) m_9_18 rfl dX12_symbol_209 ?_
        refine lv_if_ne (tgt := 228) C.1 C.2.1 dX12_symbol_212 (by decide) (fun _ => ?_) (fun h => absurd h (by decide))
        refine lv_iconst (v := 0) C.1 C.2.1 dX12_symbol_228 (by decide) ?_
        exact g_iret C hr hlocks hP hD hS rfl (uI (uI t1 0 2 0) 0 0 1) rfl ⟨hok, hfr, (i_rng _).1, (i_rng _).2, (show 0 = 0 from by omega)⟩ (Nat.le_of_ble_eq_true rfl) (Nat.le_of_ble_eq_true rfl) dX12_symbol_229
      · replace c_8 : ¬ w152_1.toInt = 0 := i_ne c_8
        refine lv_iload_n C.1 C.2.1 dX12_symbol_168 rfl (lv_at hl 2 rfl) ?_
        refine lv_if_eq (tgt := 180) C.1 C.2.1 dX12_symbol_169 (by decide) (fun c_9 => ?_) (fun c_9 => ?_)
        · replace c_9 : w152_2.toInt = 0 := i_eq c_9
          refine lv_iconst (v := (-1)) C.1 C.2.1 dX12_symbol_180 (by decide) ?_
          refine lv_istore (lv' := [(5, .int (-1)), (0, .ref (ad 0)), (1, .int w152_1), (2, .int w152_2), (3, .long w152_3)]) C.1 C.2.1 dX12_symbol_181 hl (by decide) rfl (fun ls hl => ?_)
          have hl : lv_has ls 7 [(0, .ref (ad 0)), (1, .int w152_1), (2, .int w152_2), (3, .long w152_3), (5, .int (-1))] := lv_sub hl [1, 2, 3, 4, 0] rfl
          refine lv_aload_n C.1 C.2.1 dX12_symbol_183 rfl (lv_at hl 0 rfl) ?_
          refine lv_iload C.1 C.2.1 dX12_symbol_184 (lv_at hl 4 rfl) ?_
          refine lv_iconst (v := (-1)) C.1 C.2.1 dX12_symbol_186 (by decide) ?_
          refine lv_icmp_eq (tgt := 204) C.1 C.2.1 dX12_symbol_187 (by decide) (fun _ => ?_) (fun h => absurd (by decide) h)
          refine lv_iconst (v := 1) C.1 C.2.1 dX12_symbol_204 (by decide) ?_
          refine k_put (ws' := WM K ad (uI (uI t1 0 2 0) 0 0 1)) (v := .int 1) C hP hD hS 0 rfl rfl inlX12 tyX12_ok nmX12 0 (by decide) m_9_18 rfl rfl rfl rfl rfl dX12_symbol_205 (fun H locs hP hD hS => ?_)
          have hok : okM (uI (uI t1 0 2 0) 0 0 1) := ⟨okI_I hok.1 0 0 1 (show (0 : Int) ≤ (1 : Int32).toInt ∧ (1 : Int32).toInt ≤ 1 from ⟨by decide, by decide⟩), hok.2.1, hok.2.2.1, hok.2.2.2.1, hok.2.2.2.2.1, hok.2.2.2.2.2.1, hok.2.2.2.2.2.2.1, trivial⟩
          have hfr : frA [(0, 0), (0, 2)] [] [] [] t (uI (uI t1 0 2 0) 0 0 1) := frA_I hfr 0 0 _ rfl
          refine lv_aload_n C.1 C.2.1 dX12_symbol_208 rfl (lv_at hl 0 rfl) ?_
          refine k_get (v := .int 1) C hP 0 rfl rfl inlX12 0 (by decide) m_9_18 rfl dX12_symbol_209 ?_
          refine lv_if_ne (tgt := 228) C.1 C.2.1 dX12_symbol_212 (by decide) (fun _ => ?_) (fun h => absurd h (by decide))
          refine lv_iconst (v := 0) C.1 C.2.1 dX12_symbol_228 (by decide) ?_
          exact g_iret C hr hlocks hP hD hS rfl (uI (uI t1 0 2 0) 0 0 1) rfl ⟨hok, hfr, (i_rng _).1, (i_rng _).2, (show 0 = 0 from by omega)⟩ (Nat.le_of_ble_eq_true rfl) (Nat.le_of_ble_eq_true rfl) dX12_symbol_229
        · replace c_9 : ¬ w152_2.toInt = 0 := i_ne c_9
          refine lv_aload_n C.1 C.2.1 dX12_symbol_172 rfl (lv_at hl 0 rfl) ?_
          refine lv_lload_n C.1 C.2.1 dX12_symbol_173 rfl (lv_at hl 3 rfl) ?_
          refine g_Vi (As := [.long w152_3]) (rest := []) C hP hD hS hA (T_X12_find l D K Z Y ad (uI t1 0 2 0) hok (w152_3)) hE hZ (uwV m_33_22 m_33_23 m_34_0 m_1_5 m_34_1) (hdV 1 (by decide +kernel) rfl) ⟨Nat.le_of_ble_eq_true rfl, Nat.le_of_ble_eq_true rfl⟩ rfl rfl (ci := 11) (q0 := 0) rfl rfl rfl hl.1 (Nat.le_of_ble_eq_true rfl) dX12_symbol_174 ⟨Nat.le_of_ble_eq_true rfl, Nat.le_of_ble_eq_true rfl⟩ (fun r_11 t_10 H locs hw hP hD hS => ?_)
          obtain ⟨h_13, h_14, p_15⟩ := hw
          replace p_15 : r_11.toInt < (t1.1 0 52).toInt ∨ r_11.toInt = -1 := p_15
          refine lv_goto (tgt := 181) C.1 C.2.1 dX12_symbol_177 (by decide) ?_
          refine lv_istore (lv' := [(5, .int r_11), (0, .ref (ad 0)), (1, .int w152_1), (2, .int w152_2), (3, .long w152_3)]) C.1 C.2.1 dX12_symbol_181 hl (by decide) rfl (fun ls hl => ?_)
          have hl : lv_has ls 7 [(0, .ref (ad 0)), (1, .int w152_1), (2, .int w152_2), (3, .long w152_3), (5, .int r_11)] := lv_sub hl [1, 2, 3, 4, 0] rfl
          refine lv_aload_n C.1 C.2.1 dX12_symbol_183 rfl (lv_at hl 0 rfl) ?_
          refine lv_iload C.1 C.2.1 dX12_symbol_184 (lv_at hl 4 rfl) ?_
          refine lv_iconst (v := (-1)) C.1 C.2.1 dX12_symbol_186 (by decide) ?_
          refine lv_icmp_eq (tgt := 204) C.1 C.2.1 dX12_symbol_187 (by decide) (fun c_16 => ?_) (fun c_16 => ?_)
          · replace c_16 : r_11.toInt = (-1) := i_eq c_16
            refine lv_iconst (v := 1) C.1 C.2.1 dX12_symbol_204 (by decide) ?_
            refine k_put (ws' := WM K ad (uI (uI t1 0 2 0) 0 0 1)) (v := .int 1) C hP hD hS 0 rfl rfl inlX12 tyX12_ok nmX12 0 (by decide) m_9_18 rfl rfl rfl rfl rfl dX12_symbol_205 (fun H locs hP hD hS => ?_)
            have hok : okM (uI (uI t1 0 2 0) 0 0 1) := ⟨okI_I hok.1 0 0 1 (show (0 : Int) ≤ (1 : Int32).toInt ∧ (1 : Int32).toInt ≤ 1 from ⟨by decide, by decide⟩), hok.2.1, hok.2.2.1, hok.2.2.2.1, hok.2.2.2.2.1, hok.2.2.2.2.2.1, hok.2.2.2.2.2.2.1, trivial⟩
            have hfr : frA [(0, 0), (0, 2)] [] [] [] t (uI (uI t1 0 2 0) 0 0 1) := frA_I hfr 0 0 _ rfl
            refine lv_aload_n C.1 C.2.1 dX12_symbol_208 rfl (lv_at hl 0 rfl) ?_
            refine k_get (v := .int 1) C hP 0 rfl rfl inlX12 0 (by decide) m_9_18 rfl dX12_symbol_209 ?_
            refine lv_if_ne (tgt := 228) C.1 C.2.1 dX12_symbol_212 (by decide) (fun _ => ?_) (fun h => absurd h (by decide))
            refine lv_iconst (v := 0) C.1 C.2.1 dX12_symbol_228 (by decide) ?_
            exact g_iret C hr hlocks hP hD hS rfl (uI (uI t1 0 2 0) 0 0 1) rfl ⟨hok, hfr, (i_rng _).1, (i_rng _).2, (show 0 = 0 from by omega)⟩ (Nat.le_of_ble_eq_true rfl) (Nat.le_of_ble_eq_true rfl) dX12_symbol_229
          · replace c_16 : ¬ r_11.toInt = (-1) := i_ne c_16
            refine lv_aload_n C.1 C.2.1 dX12_symbol_190 rfl (lv_at hl 0 rfl) ?_
            refine k_get (v := .ref (ad 25)) C hP 0 rfl rfl inlX12 55 (by decide) m_8_9 rfl dX12_symbol_191 ?_
            refine lv_iload C.1 C.2.1 dX12_symbol_194 (lv_at hl 4 rfl) ?_
            obtain ⟨v_17, e_18⟩ : ∃ z, z = (t1.2.2.1 25 (r_11 : Int32).toNatClampNeg) := ⟨_, rfl⟩
            have h_19 : (0 : Int) ≤ v_17.toInt ∧ v_17.toInt ≤ 1 := by rw [e_18]; exact hok.2.1 25 _
            refine k_zld (v := v_17) C hP 25 rfl (vp_in_iff.mpr ⟨by omega, by omega⟩) e_18.symm dX12_symbol_196 ?_
            refine lv_if_eq (tgt := 204) C.1 C.2.1 dX12_symbol_197 (by decide) (fun c_20 => ?_) (fun c_20 => ?_)
            · replace c_20 : v_17.toInt = 0 := i_eq c_20
              refine lv_iconst (v := 1) C.1 C.2.1 dX12_symbol_204 (by decide) ?_
              refine k_put (ws' := WM K ad (uI (uI t1 0 2 0) 0 0 1)) (v := .int 1) C hP hD hS 0 rfl rfl inlX12 tyX12_ok nmX12 0 (by decide) m_9_18 rfl rfl rfl rfl rfl dX12_symbol_205 (fun H locs hP hD hS => ?_)
              have hok : okM (uI (uI t1 0 2 0) 0 0 1) := ⟨okI_I hok.1 0 0 1 (show (0 : Int) ≤ (1 : Int32).toInt ∧ (1 : Int32).toInt ≤ 1 from ⟨by decide, by decide⟩), hok.2.1, hok.2.2.1, hok.2.2.2.1, hok.2.2.2.2.1, hok.2.2.2.2.2.1, hok.2.2.2.2.2.2.1, trivial⟩
              have hfr : frA [(0, 0), (0, 2)] [] [] [] t (uI (uI t1 0 2 0) 0 0 1) := frA_I hfr 0 0 _ rfl
              refine lv_aload_n C.1 C.2.1 dX12_symbol_208 rfl (lv_at hl 0 rfl) ?_
              refine k_get (v := .int 1) C hP 0 rfl rfl inlX12 0 (by decide) m_9_18 rfl dX12_symbol_209 ?_
              refine lv_if_ne (tgt := 228) C.1 C.2.1 dX12_symbol_212 (by decide) (fun _ => ?_) (fun h => absurd h (by decide))
              refine lv_iconst (v := 0) C.1 C.2.1 dX12_symbol_228 (by decide) ?_
              exact g_iret C hr hlocks hP hD hS rfl (uI (uI t1 0 2 0) 0 0 1) rfl ⟨hok, hfr, (i_rng _).1, (i_rng _).2, (show 0 = 0 from by omega)⟩ (Nat.le_of_ble_eq_true rfl) (Nat.le_of_ble_eq_true rfl) dX12_symbol_229
            · replace c_20 : ¬ v_17.toInt = 0 := i_ne c_20
              refine lv_iconst (v := 0) C.1 C.2.1 dX12_symbol_200 (by decide) ?_
              refine lv_goto (tgt := 205) C.1 C.2.1 dX12_symbol_201 (by decide) ?_
              refine k_put (ws' := WM K ad (uI (uI t1 0 2 0) 0 0 0)) (v := .int 0) C hP hD hS 0 rfl rfl inlX12 tyX12_ok nmX12 0 (by decide) m_9_18 rfl rfl rfl rfl rfl dX12_symbol_205 (fun H locs hP hD hS => ?_)
              have hok : okM (uI (uI t1 0 2 0) 0 0 0) := ⟨okI_I hok.1 0 0 0 (show (0 : Int) ≤ (0 : Int32).toInt ∧ (0 : Int32).toInt ≤ 1 from ⟨by decide, by decide⟩), hok.2.1, hok.2.2.1, hok.2.2.2.1, hok.2.2.2.2.1, hok.2.2.2.2.2.1, hok.2.2.2.2.2.2.1, trivial⟩
              have hfr : frA [(0, 0), (0, 2)] [] [] [] t (uI (uI t1 0 2 0) 0 0 0) := frA_I hfr 0 0 _ rfl
              refine lv_aload_n C.1 C.2.1 dX12_symbol_208 rfl (lv_at hl 0 rfl) ?_
              refine k_get (v := .int 0) C hP 0 rfl rfl inlX12 0 (by decide) m_9_18 rfl dX12_symbol_209 ?_
              refine lv_if_ne (tgt := 228) C.1 C.2.1 dX12_symbol_212 (by decide) (fun h => absurd h (by decide)) (fun _ => ?_)
              refine lv_aload_n C.1 C.2.1 dX12_symbol_215 rfl (lv_at hl 0 rfl) ?_
              refine k_get (v := .ref (ad 24)) C hP 0 rfl rfl inlX12 54 (by decide) m_8_8 rfl dX12_symbol_216 ?_
              refine lv_iload C.1 C.2.1 dX12_symbol_219 (lv_at hl 4 rfl) ?_
              obtain ⟨v_21, e_22⟩ : ∃ z, z = (t1.2.2.1 24 (r_11 : Int32).toNatClampNeg) := ⟨_, rfl⟩
              refine k_ild (v := v_21) C hP 24 rfl (vp_in_iff.mpr ⟨by omega, by omega⟩) e_22.symm dX12_symbol_221 ?_
              refine g_Si (As := [.int v_21]) (rest := []) C hP hD hS hA (T_X12_told l D K Z Y ad (uI (uI t1 0 2 0) 0 0 0) hok (v_21)) hE hZ (uwS m_84_13 m_84_14 m_1_5 m_84_15) (hdS 1 (by decide +kernel) rfl) ⟨Nat.le_of_ble_eq_true rfl, Nat.le_of_ble_eq_true rfl⟩ rfl rfl rfl hl.1 (Nat.le_of_ble_eq_true rfl) dX12_symbol_222 ⟨Nat.le_of_ble_eq_true rfl, Nat.le_of_ble_eq_true rfl⟩ (fun r_24 t_23 H locs hw hP hD hS => ?_)
              obtain ⟨h_26, h_27⟩ := hw
              refine lv_goto (tgt := 229) C.1 C.2.1 dX12_symbol_225 (by decide) ?_
              exact g_iret C hr hlocks hP hD hS rfl (uI (uI t1 0 2 0) 0 0 0) rfl ⟨hok, hfr, (i_rng _).1, (i_rng _).2, (show 0 = 0 from by omega)⟩ (Nat.le_of_ble_eq_true rfl) (Nat.le_of_ble_eq_true rfl) dX12_symbol_229
  have L_29 : ∀ (fuel_29 : Nat) (t1 : tSt) (w29_1 : Int32) (w29_2 : Int32) (w29_3 : Int64) (w29_5 : Int32) (H : Heap) (locs : List Loc) (ls : Array Slot), okM t1 → frA [(0, 0), (0, 2)] [] [] [] t t1 → (0 : Int) ≤ w29_1.toInt ∧ w29_1.toInt ≤ 1 → (0 : Int) ≤ w29_2.toInt ∧ w29_2.toInt ≤ 1 → (0 : Int) ≤ w29_5.toInt ∧ w29_5.toInt ≤ 10 → (10 : Int) - w29_5.toInt < (fuel_29 : Int) → va_P D vwCl (WM K ad t1) H → va_D A (WM K ad t1) → va_S A s.heap H locs → lv_has ls 7 [(0, .ref (ad 0)), (1, .int w29_1), (2, .int w29_2), (3, .long w29_3), (5, .int w29_5)] → W p l e (rmD 2 0 0) s m [.ref (ad 0)].toArray below meth c H locs 0 0 (MQ below (QI D K (fun (r : Int32) (u : tSt) => okM u ∧ frA [(0, 0), (0, 2)] [] [] [] t u ∧ (-2147483648 : Int) ≤ r.toInt ∧ r.toInt ≤ 2147483647 ∧ ((u.1 0 2).toInt = 0)) (fun (u : tSt) => WM K ad u) A) [.ref (ad 0)].toArray s 0 0 A) (F0 m 29 ls []) := by
    intro fuel_29
    induction fuel_29 with
    | zero =>
      intro t1 w29_1 w29_2 w29_3 w29_5 H locs ls hok hfr hw29_1 hw29_2 hw29_5 hm29_29 hP hD hS hl
      have h_28 : (t1.1 0 52).toInt = (t.1 0 52).toInt := ti_eq (hfr.1 0 52 rfl)
      have h_29 : (0 : Int) ≤ (t1.1 0 2).toInt ∧ (t1.1 0 2).toInt ≤ 1280 := hok.1 0 2
      have h_30 : (0 : Int) ≤ (t1.1 0 52).toInt ∧ (t1.1 0 52).toInt ≤ 1200 := hok.1 0 52
      exact absurd hm29_29 (by omega)
    | succ fuel_29 ih_29 =>
      intro t1 w29_1 w29_2 w29_3 w29_5 H locs ls hok hfr hw29_1 hw29_2 hw29_5 hm29_29 hP hD hS hl
      have hm29_29 : (10 : Int) - w29_5.toInt < (fuel_29 : Int) + 1 := by omega
      have h_31 : (t1.1 0 52).toInt = (t.1 0 52).toInt := ti_eq (hfr.1 0 52 rfl)
      have h_32 : (0 : Int) ≤ (t1.1 0 2).toInt ∧ (t1.1 0 2).toInt ≤ 1280 := hok.1 0 2
      have h_33 : (0 : Int) ≤ (t1.1 0 52).toInt ∧ (t1.1 0 52).toInt ≤ 1200 := hok.1 0 52
      have L_143 : ∀ (t1 : tSt) (w143_1 : Int32) (w143_2 : Int32) (w143_3 : Int64) (w143_5 : Int32) (w143_6 : Int32) (k143_0 : Int64) (k143_1 : Int32) (H : Heap) (locs : List Loc) (ls : Array Slot), okM t1 → frA [(0, 0), (0, 2)] [] [] [] t t1 → (0 : Int) ≤ w143_1.toInt ∧ w143_1.toInt ≤ 1 → (0 : Int) ≤ w143_2.toInt ∧ w143_2.toInt ≤ 1 → (0 : Int) ≤ w143_5.toInt ∧ w143_5.toInt ≤ 9 → (0 : Int) ≤ w143_6.toInt ∧ w143_6.toInt ≤ 255 → (-54 : Int) ≤ k143_1.toInt ∧ k143_1.toInt ≤ 208 → (10 : Int) - w143_5.toInt < (fuel_29 : Int) + 1 → va_P D vwCl (WM K ad t1) H → va_D A (WM K ad t1) → va_S A s.heap H locs → lv_has ls 7 [(0, .ref (ad 0)), (1, .int w143_1), (2, .int w143_2), (3, .long w143_3), (5, .int w143_5), (6, .int w143_6)] → W p l e (rmD 2 0 0) s m [.ref (ad 0)].toArray below meth c H locs 0 0 (MQ below (QI D K (fun (r : Int32) (u : tSt) => okM u ∧ frA [(0, 0), (0, 2)] [] [] [] t u ∧ (-2147483648 : Int) ≤ r.toInt ∧ r.toInt ≤ 2147483647 ∧ ((u.1 0 2).toInt = 0)) (fun (u : tSt) => WM K ad u) A) [.ref (ad 0)].toArray s 0 0 A) (F0 m 143 ls [.int k143_1, .long k143_0]) := by
        intro t1 w143_1 w143_2 w143_3 w143_5 w143_6 k143_0 k143_1 H locs ls hok hfr hw143_1 hw143_2 hw143_5 hw143_6 hk143_1 hm143_29 hP hD hS hl
        have h_34 : (t1.1 0 52).toInt = (t.1 0 52).toInt := ti_eq (hfr.1 0 52 rfl)
        have h_35 : (0 : Int) ≤ (t1.1 0 2).toInt ∧ (t1.1 0 2).toInt ≤ 1280 := hok.1 0 2
        have h_36 : (0 : Int) ≤ (t1.1 0 52).toInt ∧ (t1.1 0 52).toInt ≤ 1200 := hok.1 0 52
        obtain ⟨v_37, e_38⟩ : ∃ z, z = (k143_1 : Int32).toInt64 := ⟨_, rfl⟩
        have h_39 : v_37.toInt = k143_1.toInt := by rw [e_38]; exact Jvm.Kit.i64_of_i32 _
        refine lv_i2l (v := v_37) C.1 C.2.1 dX12_symbol_143 e_38.symm ?_
        obtain ⟨v_40, e_41⟩ : ∃ z, z = (k143_0 : Int64) + (v_37 : Int64) := ⟨_, rfl⟩
        refine k_ladd (v := v_40) C e_41.symm dX12_symbol_144 ?_
        refine lv_lstore_n (lv' := [(3, .long v_40), (0, .ref (ad 0)), (1, .int w143_1), (2, .int w143_2), (5, .int w143_5), (6, .int w143_6)]) C.1 C.2.1 dX12_symbol_145 rfl hl (by decide) rfl (fun ls hl => ?_)
        have hl : lv_has ls 7 [(0, .ref (ad 0)), (1, .int w143_1), (2, .int w143_2), (3, .long v_40), (5, .int w143_5), (6, .int w143_6)] := lv_sub hl [1, 2, 3, 0, 4, 5] rfl
        obtain ⟨v_42, e_43⟩ : ∃ z, z = w143_5 + 1 := ⟨_, rfl⟩
        have h_44 : v_42.toInt = w143_5.toInt + 1 := by rw [e_43]; exact ti_iadd (by show (_ : Int) ≤ w143_5.toInt + 1; omega) (by show w143_5.toInt + 1 < (_ : Int); omega)
        refine lv_iinc (v := v_42) (lv' := [(5, .int v_42), (0, .ref (ad 0)), (1, .int w143_1), (2, .int w143_2), (3, .long v_40), (6, .int w143_6)]) C.1 C.2.1 dX12_symbol_146 hl (k := 4) rfl e_43.symm (by decide) rfl (fun ls hl => ?_)
        have hl : lv_has ls 7 [(0, .ref (ad 0)), (1, .int w143_1), (2, .int w143_2), (3, .long v_40), (5, .int v_42), (6, .int w143_6)] := lv_sub hl [1, 2, 3, 4, 0, 5] rfl
        refine lv_goto (tgt := 29) C.1 C.2.1 dX12_symbol_149 (by decide) ?_
        exact ih_29 t1 w143_1 w143_2 v_40 v_42 _ _ _ hok hfr ⟨by omega, by omega⟩ ⟨by omega, by omega⟩ ⟨by omega, by omega⟩ (show (10 : Int) - v_42.toInt < (fuel_29 : Int) from by omega) hP hD hS (lv_sub hl [0, 1, 2, 3, 4] rfl)
      have L_142 : ∀ (t1 : tSt) (w142_1 : Int32) (w142_2 : Int32) (w142_3 : Int64) (w142_5 : Int32) (w142_6 : Int32) (k142_0 : Int64) (H : Heap) (locs : List Loc) (ls : Array Slot), okM t1 → frA [(0, 0), (0, 2)] [] [] [] t t1 → (0 : Int) ≤ w142_1.toInt ∧ w142_1.toInt ≤ 1 → (0 : Int) ≤ w142_2.toInt ∧ w142_2.toInt ≤ 1 → (0 : Int) ≤ w142_5.toInt ∧ w142_5.toInt ≤ 9 → (0 : Int) ≤ w142_6.toInt ∧ w142_6.toInt ≤ 255 → (10 : Int) - w142_5.toInt < (fuel_29 : Int) + 1 → va_P D vwCl (WM K ad t1) H → va_D A (WM K ad t1) → va_S A s.heap H locs → lv_has ls 7 [(0, .ref (ad 0)), (1, .int w142_1), (2, .int w142_2), (3, .long w142_3), (5, .int w142_5), (6, .int w142_6)] → W p l e (rmD 2 0 0) s m [.ref (ad 0)].toArray below meth c H locs 0 0 (MQ below (QI D K (fun (r : Int32) (u : tSt) => okM u ∧ frA [(0, 0), (0, 2)] [] [] [] t u ∧ (-2147483648 : Int) ≤ r.toInt ∧ r.toInt ≤ 2147483647 ∧ ((u.1 0 2).toInt = 0)) (fun (u : tSt) => WM K ad u) A) [.ref (ad 0)].toArray s 0 0 A) (F0 m 142 ls [.long k142_0]) := by
        intro t1 w142_1 w142_2 w142_3 w142_5 w142_6 k142_0 H locs ls hok hfr hw142_1 hw142_2 hw142_5 hw142_6 hm142_29 hP hD hS hl
        have h_45 : (t1.1 0 52).toInt = (t.1 0 52).toInt := ti_eq (hfr.1 0 52 rfl)
        have h_46 : (0 : Int) ≤ (t1.1 0 2).toInt ∧ (t1.1 0 2).toInt ≤ 1280 := hok.1 0 2
        have h_47 : (0 : Int) ≤ (t1.1 0 52).toInt ∧ (t1.1 0 52).toInt ≤ 1200 := hok.1 0 52
        refine lv_iconst (v := 0) C.1 C.2.1 dX12_symbol_142 (by decide) ?_
        exact L_143 t1 w142_1 w142_2 w142_3 w142_5 w142_6 k142_0 0 _ _ _ hok hfr ⟨by omega, by omega⟩ ⟨by omega, by omega⟩ ⟨by omega, by omega⟩ ⟨by omega, by omega⟩ ⟨by decide, by decide⟩ (show (10 : Int) - w142_5.toInt < (fuel_29 : Int) + 1 from by omega) hP hD hS (lv_sub hl [0, 1, 2, 3, 4, 5] rfl)
      have L_115 : ∀ (t1 : tSt) (w115_1 : Int32) (w115_2 : Int32) (w115_3 : Int64) (w115_5 : Int32) (w115_6 : Int32) (k115_0 : Int32) (H : Heap) (locs : List Loc) (ls : Array Slot), okM t1 → frA [(0, 0), (0, 2)] [] [] [] t t1 → (0 : Int) ≤ w115_1.toInt ∧ w115_1.toInt ≤ 1 → (0 : Int) ≤ w115_2.toInt ∧ w115_2.toInt ≤ 1 → (0 : Int) ≤ w115_5.toInt ∧ w115_5.toInt ≤ 9 → (0 : Int) ≤ w115_6.toInt ∧ w115_6.toInt ≤ 255 → (0 : Int) ≤ k115_0.toInt ∧ k115_0.toInt ≤ 1 → (10 : Int) - w115_5.toInt < (fuel_29 : Int) + 1 → va_P D vwCl (WM K ad t1) H → va_D A (WM K ad t1) → va_S A s.heap H locs → lv_has ls 7 [(0, .ref (ad 0)), (1, .int w115_1), (2, .int w115_2), (3, .long w115_3), (5, .int w115_5), (6, .int w115_6)] → W p l e (rmD 2 0 0) s m [.ref (ad 0)].toArray below meth c H locs 0 0 (MQ below (QI D K (fun (r : Int32) (u : tSt) => okM u ∧ frA [(0, 0), (0, 2)] [] [] [] t u ∧ (-2147483648 : Int) ≤ r.toInt ∧ r.toInt ≤ 2147483647 ∧ ((u.1 0 2).toInt = 0)) (fun (u : tSt) => WM K ad u) A) [.ref (ad 0)].toArray s 0 0 A) (F0 m 115 ls [.int k115_0]) := by
        intro t1 w115_1 w115_2 w115_3 w115_5 w115_6 k115_0 H locs ls hok hfr hw115_1 hw115_2 hw115_5 hw115_6 hk115_0 hm115_29 hP hD hS hl
        have h_48 : (t1.1 0 52).toInt = (t.1 0 52).toInt := ti_eq (hfr.1 0 52 rfl)
        have h_49 : (0 : Int) ≤ (t1.1 0 2).toInt ∧ (t1.1 0 2).toInt ≤ 1280 := hok.1 0 2
        have h_50 : (0 : Int) ≤ (t1.1 0 52).toInt ∧ (t1.1 0 52).toInt ≤ 1200 := hok.1 0 52
        refine lv_istore_n (lv' := [(2, .int k115_0), (0, .ref (ad 0)), (1, .int w115_1), (3, .long w115_3), (5, .int w115_5), (6, .int w115_6)]) C.1 C.2.1 dX12_symbol_115 rfl hl (by decide) rfl (fun ls hl => ?_)
        have hl : lv_has ls 7 [(0, .ref (ad 0)), (1, .int w115_1), (2, .int k115_0), (3, .long w115_3), (5, .int w115_5), (6, .int w115_6)] := lv_sub hl [1, 2, 0, 3, 4, 5] rfl
        refine lv_ldc2 (v := 37) C.1 C.2.1 C.2.2.2.1 (C.2.2.2.2.1 _ m_33_18) dX12_symbol_116 ?_
        refine lv_lload_n C.1 C.2.1 dX12_symbol_119 rfl (lv_at hl 3 rfl) ?_
        obtain ⟨v_51, e_52⟩ : ∃ z, z = (37 : Int64) * (w115_3 : Int64) := ⟨_, rfl⟩
        refine k_lmul (v := v_51) C e_52.symm dX12_symbol_120 ?_
        refine lv_iload C.1 C.2.1 dX12_symbol_121 (lv_at hl 4 rfl) ?_
        refine lv_aload_n C.1 C.2.1 dX12_symbol_123 rfl (lv_at hl 0 rfl) ?_
        refine k_get (v := .int (t1.1 0 2)) C hP 0 rfl rfl inlX12 2 (by decide) m_9_19 rfl dX12_symbol_124 ?_
        refine lv_icmp_ge (tgt := 142) C.1 C.2.1 dX12_symbol_127 (by decide) (fun c_53 => ?_) (fun c_53 => ?_)
        · replace c_53 : (t1.1 0 2).toInt ≤ w115_5.toInt := i_le c_53
          exact L_142 t1 w115_1 k115_0 w115_3 w115_5 w115_6 v_51 _ _ _ hok hfr ⟨by omega, by omega⟩ ⟨by omega, by omega⟩ ⟨by omega, by omega⟩ ⟨by omega, by omega⟩ (show (10 : Int) - w115_5.toInt < (fuel_29 : Int) + 1 from by omega) hP hD hS (lv_sub hl [0, 1, 2, 3, 4, 5] rfl)
        · replace c_53 : w115_5.toInt < (t1.1 0 2).toInt := i_nle c_53
          refine lv_iload_n C.1 C.2.1 dX12_symbol_130 rfl (lv_at hl 1 rfl) ?_
          refine lv_if_eq (tgt := 142) C.1 C.2.1 dX12_symbol_131 (by decide) (fun c_54 => ?_) (fun c_54 => ?_)
          · replace c_54 : w115_1.toInt = 0 := i_eq c_54
            exact L_142 t1 w115_1 k115_0 w115_3 w115_5 w115_6 v_51 _ _ _ hok hfr ⟨by omega, by omega⟩ ⟨by omega, by omega⟩ ⟨by omega, by omega⟩ ⟨by omega, by omega⟩ (show (10 : Int) - w115_5.toInt < (fuel_29 : Int) + 1 from by omega) hP hD hS (lv_sub hl [0, 1, 2, 3, 4, 5] rfl)
          · replace c_54 : ¬ w115_1.toInt = 0 := i_ne c_54
            refine lv_iload C.1 C.2.1 dX12_symbol_134 (lv_at hl 5 rfl) ?_
            refine g_Si (As := [.int w115_6]) (rest := [.long v_51]) C hP hD hS hA (T_X12_signOf l D K Z Y ad t1 hok (w115_6) (show (0 : Int) ≤ (w115_6 : Int32).toInt ∧ (w115_6 : Int32).toInt ≤ 255 from ⟨by omega, by omega⟩)) hE hZ (uwS m_33_19 m_33_20 m_1_5 m_33_21) (hdS 1 (by decide +kernel) rfl) ⟨Nat.le_of_ble_eq_true rfl, Nat.le_of_ble_eq_true rfl⟩ rfl rfl rfl hl.1 (Nat.le_of_ble_eq_true rfl) dX12_symbol_136 ⟨Nat.le_of_ble_eq_true rfl, Nat.le_of_ble_eq_true rfl⟩ (fun r_56 t_55 H locs hw hP hD hS => ?_)
            obtain ⟨h_58, h_59⟩ := hw
            refine lv_goto (tgt := 143) C.1 C.2.1 dX12_symbol_139 (by decide) ?_
            exact L_143 t1 w115_1 k115_0 w115_3 w115_5 w115_6 v_51 r_56 _ _ _ hok hfr ⟨by omega, by omega⟩ ⟨by omega, by omega⟩ ⟨by omega, by omega⟩ ⟨by omega, by omega⟩ ⟨by omega, by omega⟩ (show (10 : Int) - w115_5.toInt < (fuel_29 : Int) + 1 from by omega) hP hD hS (lv_sub hl [0, 1, 2, 3, 4, 5] rfl)
      have L_110 : ∀ (t1 : tSt) (w110_1 : Int32) (w110_2 : Int32) (w110_3 : Int64) (w110_5 : Int32) (w110_6 : Int32) (H : Heap) (locs : List Loc) (ls : Array Slot), okM t1 → frA [(0, 0), (0, 2)] [] [] [] t t1 → (0 : Int) ≤ w110_1.toInt ∧ w110_1.toInt ≤ 1 → (0 : Int) ≤ w110_2.toInt ∧ w110_2.toInt ≤ 1 → (0 : Int) ≤ w110_5.toInt ∧ w110_5.toInt ≤ 9 → (0 : Int) ≤ w110_6.toInt ∧ w110_6.toInt ≤ 255 → (10 : Int) - w110_5.toInt < (fuel_29 : Int) + 1 → va_P D vwCl (WM K ad t1) H → va_D A (WM K ad t1) → va_S A s.heap H locs → lv_has ls 7 [(0, .ref (ad 0)), (1, .int w110_1), (2, .int w110_2), (3, .long w110_3), (5, .int w110_5), (6, .int w110_6)] → W p l e (rmD 2 0 0) s m [.ref (ad 0)].toArray below meth c H locs 0 0 (MQ below (QI D K (fun (r : Int32) (u : tSt) => okM u ∧ frA [(0, 0), (0, 2)] [] [] [] t u ∧ (-2147483648 : Int) ≤ r.toInt ∧ r.toInt ≤ 2147483647 ∧ ((u.1 0 2).toInt = 0)) (fun (u : tSt) => WM K ad u) A) [.ref (ad 0)].toArray s 0 0 A) (F0 m 110 ls []) := by
        intro t1 w110_1 w110_2 w110_3 w110_5 w110_6 H locs ls hok hfr hw110_1 hw110_2 hw110_5 hw110_6 hm110_29 hP hD hS hl
        have h_60 : (t1.1 0 52).toInt = (t.1 0 52).toInt := ti_eq (hfr.1 0 52 rfl)
        have h_61 : (0 : Int) ≤ (t1.1 0 2).toInt ∧ (t1.1 0 2).toInt ≤ 1280 := hok.1 0 2
        have h_62 : (0 : Int) ≤ (t1.1 0 52).toInt ∧ (t1.1 0 52).toInt ≤ 1200 := hok.1 0 52
        refine lv_iconst (v := 1) C.1 C.2.1 dX12_symbol_110 (by decide) ?_
        refine lv_goto (tgt := 115) C.1 C.2.1 dX12_symbol_111 (by decide) ?_
        exact L_115 t1 w110_1 w110_2 w110_3 w110_5 w110_6 1 _ _ _ hok hfr ⟨by omega, by omega⟩ ⟨by omega, by omega⟩ ⟨by omega, by omega⟩ ⟨by omega, by omega⟩ ⟨by decide, by decide⟩ (show (10 : Int) - w110_5.toInt < (fuel_29 : Int) + 1 from by omega) hP hD hS (lv_sub hl [0, 1, 2, 3, 4, 5] rfl)
      have L_97 : ∀ (t1 : tSt) (w97_1 : Int32) (w97_2 : Int32) (w97_3 : Int64) (w97_5 : Int32) (w97_6 : Int32) (k97_0 : Int32) (H : Heap) (locs : List Loc) (ls : Array Slot), okM t1 → frA [(0, 0), (0, 2)] [] [] [] t t1 → (1 : Int) ≤ w97_1.toInt ∧ w97_1.toInt ≤ 1 → (0 : Int) ≤ w97_2.toInt ∧ w97_2.toInt ≤ 1 → (0 : Int) ≤ w97_5.toInt ∧ w97_5.toInt ≤ 9 → (0 : Int) ≤ w97_6.toInt ∧ w97_6.toInt ≤ 255 → (0 : Int) ≤ k97_0.toInt ∧ k97_0.toInt ≤ 1 → (10 : Int) - w97_5.toInt < (fuel_29 : Int) + 1 → va_P D vwCl (WM K ad t1) H → va_D A (WM K ad t1) → va_S A s.heap H locs → lv_has ls 7 [(0, .ref (ad 0)), (1, .int w97_1), (2, .int w97_2), (3, .long w97_3), (5, .int w97_5), (6, .int w97_6)] → W p l e (rmD 2 0 0) s m [.ref (ad 0)].toArray below meth c H locs 0 0 (MQ below (QI D K (fun (r : Int32) (u : tSt) => okM u ∧ frA [(0, 0), (0, 2)] [] [] [] t u ∧ (-2147483648 : Int) ≤ r.toInt ∧ r.toInt ≤ 2147483647 ∧ ((u.1 0 2).toInt = 0)) (fun (u : tSt) => WM K ad u) A) [.ref (ad 0)].toArray s 0 0 A) (F0 m 97 ls [.int k97_0]) := by
        intro t1 w97_1 w97_2 w97_3 w97_5 w97_6 k97_0 H locs ls hok hfr hw97_1 hw97_2 hw97_5 hw97_6 hk97_0 hm97_29 hP hD hS hl
        have h_63 : (t1.1 0 52).toInt = (t.1 0 52).toInt := ti_eq (hfr.1 0 52 rfl)
        have h_64 : (0 : Int) ≤ (t1.1 0 2).toInt ∧ (t1.1 0 2).toInt ≤ 1280 := hok.1 0 2
        have h_65 : (0 : Int) ≤ (t1.1 0 52).toInt ∧ (t1.1 0 52).toInt ≤ 1200 := hok.1 0 52
        refine lv_istore_n (lv' := [(1, .int k97_0), (0, .ref (ad 0)), (2, .int w97_2), (3, .long w97_3), (5, .int w97_5), (6, .int w97_6)]) C.1 C.2.1 dX12_symbol_97 rfl hl (by decide) rfl (fun ls hl => ?_)
        have hl : lv_has ls 7 [(0, .ref (ad 0)), (1, .int k97_0), (2, .int w97_2), (3, .long w97_3), (5, .int w97_5), (6, .int w97_6)] := lv_sub hl [1, 0, 2, 3, 4, 5] rfl
        refine lv_iload_n C.1 C.2.1 dX12_symbol_98 rfl (lv_at hl 2 rfl) ?_
        refine lv_if_ne (tgt := 110) C.1 C.2.1 dX12_symbol_99 (by decide) (fun c_66 => ?_) (fun c_66 => ?_)
        · replace c_66 : ¬ w97_2.toInt = 0 := i_ne c_66
          exact L_110 t1 k97_0 w97_2 w97_3 w97_5 w97_6 _ _ _ hok hfr ⟨by omega, by omega⟩ ⟨by omega, by omega⟩ ⟨by omega, by omega⟩ ⟨by omega, by omega⟩ (show (10 : Int) - w97_5.toInt < (fuel_29 : Int) + 1 from by omega) hP hD hS (lv_sub hl [0, 1, 2, 3, 4, 5] rfl)
        · replace c_66 : w97_2.toInt = 0 := i_eq c_66
          refine lv_iload C.1 C.2.1 dX12_symbol_102 (lv_at hl 5 rfl) ?_
          refine g_Si (As := [.int w97_6]) (rest := []) C hP hD hS hA (T_X12_isGreat l D K Z Y ad t1 hok (w97_6) (show (0 : Int) ≤ (w97_6 : Int32).toInt ∧ (w97_6 : Int32).toInt ≤ 255 from ⟨by omega, by omega⟩)) hE hZ (uwS m_32_12 m_32_13 m_1_5 m_32_14) (hdS 1 (by decide +kernel) rfl) ⟨Nat.le_of_ble_eq_true rfl, Nat.le_of_ble_eq_true rfl⟩ rfl rfl rfl hl.1 (Nat.le_of_ble_eq_true rfl) dX12_symbol_104 ⟨Nat.le_of_ble_eq_true rfl, Nat.le_of_ble_eq_true rfl⟩ (fun r_68 t_67 H locs hw hP hD hS => ?_)
          obtain ⟨h_70, h_71, p_72⟩ := hw
          replace p_72 : r_68.toInt = 1 → 65 ≤ w97_6.toInt ∧ w97_6.toInt ≤ 90 := p_72
          refine lv_if_eq (tgt := 114) C.1 C.2.1 dX12_symbol_107 (by decide) (fun c_73 => ?_) (fun c_73 => ?_)
          · replace c_73 : r_68.toInt = 0 := i_eq c_73
            refine lv_iconst (v := 0) C.1 C.2.1 dX12_symbol_114 (by decide) ?_
            exact L_115 t1 k97_0 w97_2 w97_3 w97_5 w97_6 0 _ _ _ hok hfr ⟨by omega, by omega⟩ ⟨by omega, by omega⟩ ⟨by omega, by omega⟩ ⟨by omega, by omega⟩ ⟨by decide, by decide⟩ (show (10 : Int) - w97_5.toInt < (fuel_29 : Int) + 1 from by omega) hP hD hS (lv_sub hl [0, 1, 2, 3, 4, 5] rfl)
          · replace c_73 : ¬ r_68.toInt = 0 := i_ne c_73
            exact L_110 t1 k97_0 w97_2 w97_3 w97_5 w97_6 _ _ _ hok hfr ⟨by omega, by omega⟩ ⟨by omega, by omega⟩ ⟨by omega, by omega⟩ ⟨by omega, by omega⟩ (show (10 : Int) - w97_5.toInt < (fuel_29 : Int) + 1 from by omega) hP hD hS (lv_sub hl [0, 1, 2, 3, 4, 5] rfl)
      have L_92 : ∀ (t1 : tSt) (w92_1 : Int32) (w92_2 : Int32) (w92_3 : Int64) (w92_5 : Int32) (w92_6 : Int32) (H : Heap) (locs : List Loc) (ls : Array Slot), okM t1 → frA [(0, 0), (0, 2)] [] [] [] t t1 → (1 : Int) ≤ w92_1.toInt ∧ w92_1.toInt ≤ 1 → (0 : Int) ≤ w92_2.toInt ∧ w92_2.toInt ≤ 1 → (0 : Int) ≤ w92_5.toInt ∧ w92_5.toInt ≤ 9 → (0 : Int) ≤ w92_6.toInt ∧ w92_6.toInt ≤ 255 → (10 : Int) - w92_5.toInt < (fuel_29 : Int) + 1 → va_P D vwCl (WM K ad t1) H → va_D A (WM K ad t1) → va_S A s.heap H locs → lv_has ls 7 [(0, .ref (ad 0)), (1, .int w92_1), (2, .int w92_2), (3, .long w92_3), (5, .int w92_5), (6, .int w92_6)] → W p l e (rmD 2 0 0) s m [.ref (ad 0)].toArray below meth c H locs 0 0 (MQ below (QI D K (fun (r : Int32) (u : tSt) => okM u ∧ frA [(0, 0), (0, 2)] [] [] [] t u ∧ (-2147483648 : Int) ≤ r.toInt ∧ r.toInt ≤ 2147483647 ∧ ((u.1 0 2).toInt = 0)) (fun (u : tSt) => WM K ad u) A) [.ref (ad 0)].toArray s 0 0 A) (F0 m 92 ls []) := by
        intro t1 w92_1 w92_2 w92_3 w92_5 w92_6 H locs ls hok hfr hw92_1 hw92_2 hw92_5 hw92_6 hm92_29 hP hD hS hl
        have h_74 : (t1.1 0 52).toInt = (t.1 0 52).toInt := ti_eq (hfr.1 0 52 rfl)
        have h_75 : (0 : Int) ≤ (t1.1 0 2).toInt ∧ (t1.1 0 2).toInt ≤ 1280 := hok.1 0 2
        have h_76 : (0 : Int) ≤ (t1.1 0 52).toInt ∧ (t1.1 0 52).toInt ≤ 1200 := hok.1 0 52
        refine lv_iconst (v := 1) C.1 C.2.1 dX12_symbol_92 (by decide) ?_
        refine lv_goto (tgt := 97) C.1 C.2.1 dX12_symbol_93 (by decide) ?_
        exact L_97 t1 w92_1 w92_2 w92_3 w92_5 w92_6 1 _ _ _ hok hfr ⟨by omega, by omega⟩ ⟨by omega, by omega⟩ ⟨by omega, by omega⟩ ⟨by omega, by omega⟩ ⟨by decide, by decide⟩ (show (10 : Int) - w92_5.toInt < (fuel_29 : Int) + 1 from by omega) hP hD hS (lv_sub hl [0, 1, 2, 3, 4, 5] rfl)
      have L_65 : ∀ (t1 : tSt) (w65_1 : Int32) (w65_2 : Int32) (w65_3 : Int64) (w65_5 : Int32) (k65_0 : Int32) (H : Heap) (locs : List Loc) (ls : Array Slot), okM t1 → frA [(0, 0), (0, 2)] [] [] [] t t1 → (1 : Int) ≤ w65_1.toInt ∧ w65_1.toInt ≤ 1 → (0 : Int) ≤ w65_2.toInt ∧ w65_2.toInt ≤ 1 → (0 : Int) ≤ w65_5.toInt ∧ w65_5.toInt ≤ 9 → (0 : Int) ≤ k65_0.toInt ∧ k65_0.toInt ≤ 255 → (10 : Int) - w65_5.toInt < (fuel_29 : Int) + 1 → va_P D vwCl (WM K ad t1) H → va_D A (WM K ad t1) → va_S A s.heap H locs → lv_has ls 7 [(0, .ref (ad 0)), (1, .int w65_1), (2, .int w65_2), (3, .long w65_3), (5, .int w65_5)] → W p l e (rmD 2 0 0) s m [.ref (ad 0)].toArray below meth c H locs 0 0 (MQ below (QI D K (fun (r : Int32) (u : tSt) => okM u ∧ frA [(0, 0), (0, 2)] [] [] [] t u ∧ (-2147483648 : Int) ≤ r.toInt ∧ r.toInt ≤ 2147483647 ∧ ((u.1 0 2).toInt = 0)) (fun (u : tSt) => WM K ad u) A) [.ref (ad 0)].toArray s 0 0 A) (F0 m 65 ls [.int k65_0]) := by
        intro t1 w65_1 w65_2 w65_3 w65_5 k65_0 H locs ls hok hfr hw65_1 hw65_2 hw65_5 hk65_0 hm65_29 hP hD hS hl
        have h_77 : (t1.1 0 52).toInt = (t.1 0 52).toInt := ti_eq (hfr.1 0 52 rfl)
        have h_78 : (0 : Int) ≤ (t1.1 0 2).toInt ∧ (t1.1 0 2).toInt ≤ 1280 := hok.1 0 2
        have h_79 : (0 : Int) ≤ (t1.1 0 52).toInt ∧ (t1.1 0 52).toInt ≤ 1200 := hok.1 0 52
        refine lv_istore (lv' := [(6, .int k65_0), (0, .ref (ad 0)), (1, .int w65_1), (2, .int w65_2), (3, .long w65_3), (5, .int w65_5)]) C.1 C.2.1 dX12_symbol_65 hl (by decide) rfl (fun ls hl => ?_)
        have hl : lv_has ls 7 [(0, .ref (ad 0)), (1, .int w65_1), (2, .int w65_2), (3, .long w65_3), (5, .int w65_5), (6, .int k65_0)] := lv_sub hl [1, 2, 3, 4, 5, 0] rfl
        refine lv_iload C.1 C.2.1 dX12_symbol_67 (lv_at hl 4 rfl) ?_
        refine lv_aload_n C.1 C.2.1 dX12_symbol_69 rfl (lv_at hl 0 rfl) ?_
        refine k_get (v := .int (t1.1 0 2)) C hP 0 rfl rfl inlX12 2 (by decide) m_9_19 rfl dX12_symbol_70 ?_
        refine lv_icmp_ge (tgt := 92) C.1 C.2.1 dX12_symbol_73 (by decide) (fun c_80 => ?_) (fun c_80 => ?_)
        · replace c_80 : (t1.1 0 2).toInt ≤ w65_5.toInt := i_le c_80
          exact L_92 t1 w65_1 w65_2 w65_3 w65_5 k65_0 _ _ _ hok hfr ⟨by omega, by omega⟩ ⟨by omega, by omega⟩ ⟨by omega, by omega⟩ ⟨by omega, by omega⟩ (show (10 : Int) - w65_5.toInt < (fuel_29 : Int) + 1 from by omega) hP hD hS (lv_sub hl [0, 1, 2, 3, 4, 5] rfl)
        · replace c_80 : w65_5.toInt < (t1.1 0 2).toInt := i_nle c_80
          refine lv_iload C.1 C.2.1 dX12_symbol_76 (lv_at hl 5 rfl) ?_
          refine g_Si (As := [.int k65_0]) (rest := []) C hP hD hS hA (T_X12_isGreat l D K Z Y ad t1 hok (k65_0) (show (0 : Int) ≤ (k65_0 : Int32).toInt ∧ (k65_0 : Int32).toInt ≤ 255 from ⟨by omega, by omega⟩)) hE hZ (uwS m_32_12 m_32_13 m_1_5 m_32_14) (hdS 1 (by decide +kernel) rfl) ⟨Nat.le_of_ble_eq_true rfl, Nat.le_of_ble_eq_true rfl⟩ rfl rfl rfl hl.1 (Nat.le_of_ble_eq_true rfl) dX12_symbol_78 ⟨Nat.le_of_ble_eq_true rfl, Nat.le_of_ble_eq_true rfl⟩ (fun r_82 t_81 H locs hw hP hD hS => ?_)
          obtain ⟨h_84, h_85, p_86⟩ := hw
          replace p_86 : r_82.toInt = 1 → 65 ≤ k65_0.toInt ∧ k65_0.toInt ≤ 90 := p_86
          refine lv_if_ne (tgt := 92) C.1 C.2.1 dX12_symbol_81 (by decide) (fun c_87 => ?_) (fun c_87 => ?_)
          · replace c_87 : ¬ r_82.toInt = 0 := i_ne c_87
            exact L_92 t1 w65_1 w65_2 w65_3 w65_5 k65_0 _ _ _ hok hfr ⟨by omega, by omega⟩ ⟨by omega, by omega⟩ ⟨by omega, by omega⟩ ⟨by omega, by omega⟩ (show (10 : Int) - w65_5.toInt < (fuel_29 : Int) + 1 from by omega) hP hD hS (lv_sub hl [0, 1, 2, 3, 4, 5] rfl)
          · replace c_87 : r_82.toInt = 0 := i_eq c_87
            refine lv_iload C.1 C.2.1 dX12_symbol_84 (lv_at hl 5 rfl) ?_
            refine g_Si (As := [.int k65_0]) (rest := []) C hP hD hS hA (T_X12_isDigit l D K Z Y ad t1 hok (k65_0) (show (0 : Int) ≤ (k65_0 : Int32).toInt ∧ (k65_0 : Int32).toInt ≤ 255 from ⟨by omega, by omega⟩)) hE hZ (uwS m_32_15 m_32_16 m_1_5 m_32_17) (hdS 1 (by decide +kernel) rfl) ⟨Nat.le_of_ble_eq_true rfl, Nat.le_of_ble_eq_true rfl⟩ rfl rfl rfl hl.1 (Nat.le_of_ble_eq_true rfl) dX12_symbol_86 ⟨Nat.le_of_ble_eq_true rfl, Nat.le_of_ble_eq_true rfl⟩ (fun r_89 t_88 H locs hw hP hD hS => ?_)
            obtain ⟨h_91, h_92, p_93⟩ := hw
            replace p_93 : r_89.toInt = 1 → 48 ≤ k65_0.toInt ∧ k65_0.toInt ≤ 57 := p_93
            refine lv_if_eq (tgt := 96) C.1 C.2.1 dX12_symbol_89 (by decide) (fun c_94 => ?_) (fun c_94 => ?_)
            · replace c_94 : r_89.toInt = 0 := i_eq c_94
              refine lv_iconst (v := 0) C.1 C.2.1 dX12_symbol_96 (by decide) ?_
              exact L_97 t1 w65_1 w65_2 w65_3 w65_5 k65_0 0 _ _ _ hok hfr ⟨by omega, by omega⟩ ⟨by omega, by omega⟩ ⟨by omega, by omega⟩ ⟨by omega, by omega⟩ ⟨by decide, by decide⟩ (show (10 : Int) - w65_5.toInt < (fuel_29 : Int) + 1 from by omega) hP hD hS (lv_sub hl [0, 1, 2, 3, 4, 5] rfl)
            · replace c_94 : ¬ r_89.toInt = 0 := i_ne c_94
              exact L_92 t1 w65_1 w65_2 w65_3 w65_5 k65_0 _ _ _ hok hfr ⟨by omega, by omega⟩ ⟨by omega, by omega⟩ ⟨by omega, by omega⟩ ⟨by omega, by omega⟩ (show (10 : Int) - w65_5.toInt < (fuel_29 : Int) + 1 from by omega) hP hD hS (lv_sub hl [0, 1, 2, 3, 4, 5] rfl)
      refine lv_iload C.1 C.2.1 dX12_symbol_29 (lv_at hl 4 rfl) ?_
      refine lv_bipush (v := 10) C.1 C.2.1 dX12_symbol_31 (by decide) ?_
      refine lv_icmp_ge (tgt := 152) C.1 C.2.1 dX12_symbol_33 (by decide) (fun c_95 => ?_) (fun c_95 => ?_)
      · replace c_95 : 10 ≤ w29_5.toInt := i_le c_95
        exact L_152 t1 w29_1 w29_2 w29_3 w29_5 _ _ _ hok hfr ⟨by omega, by omega⟩ ⟨by omega, by omega⟩ ⟨by omega, by omega⟩ hP hD hS (lv_sub hl [0, 1, 2, 3, 4] rfl)
      · replace c_95 : w29_5.toInt < 10 := i_nle c_95
        refine lv_iload_n C.1 C.2.1 dX12_symbol_36 rfl (lv_at hl 1 rfl) ?_
        refine lv_if_eq (tgt := 152) C.1 C.2.1 dX12_symbol_37 (by decide) (fun c_96 => ?_) (fun c_96 => ?_)
        · replace c_96 : w29_1.toInt = 0 := i_eq c_96
          exact L_152 t1 w29_1 w29_2 w29_3 w29_5 _ _ _ hok hfr ⟨by omega, by omega⟩ ⟨by omega, by omega⟩ ⟨by omega, by omega⟩ hP hD hS (lv_sub hl [0, 1, 2, 3, 4] rfl)
        · replace c_96 : ¬ w29_1.toInt = 0 := i_ne c_96
          refine lv_iload C.1 C.2.1 dX12_symbol_40 (lv_at hl 4 rfl) ?_
          refine lv_aload_n C.1 C.2.1 dX12_symbol_42 rfl (lv_at hl 0 rfl) ?_
          refine k_get (v := .int (t1.1 0 2)) C hP 0 rfl rfl inlX12 2 (by decide) m_9_19 rfl dX12_symbol_43 ?_
          refine lv_icmp_ge (tgt := 63) C.1 C.2.1 dX12_symbol_46 (by decide) (fun c_97 => ?_) (fun c_97 => ?_)
          · replace c_97 : (t1.1 0 2).toInt ≤ w29_5.toInt := i_le c_97
            refine lv_bipush (v := 32) C.1 C.2.1 dX12_symbol_63 (by decide) ?_
            exact L_65 t1 w29_1 w29_2 w29_3 w29_5 32 _ _ _ hok hfr ⟨by omega, by omega⟩ ⟨by omega, by omega⟩ ⟨by omega, by omega⟩ ⟨by decide, by decide⟩ (show (10 : Int) - w29_5.toInt < (fuel_29 : Int) + 1 from by omega) hP hD hS (lv_sub hl [0, 1, 2, 3, 4] rfl)
          · replace c_97 : w29_5.toInt < (t1.1 0 2).toInt := i_nle c_97
            refine lv_aload_n C.1 C.2.1 dX12_symbol_49 rfl (lv_at hl 0 rfl) ?_
            refine k_get (v := .ref (ad 1)) C hP 0 rfl rfl inlX12 1 (by decide) m_7_4 rfl dX12_symbol_50 ?_
            refine lv_iload C.1 C.2.1 dX12_symbol_53 (lv_at hl 4 rfl) ?_
            obtain ⟨v_98, e_99⟩ : ∃ z, z = (t1.2.2.1 1 (w29_5 : Int32).toNatClampNeg) := ⟨_, rfl⟩
            have h_100 : (-3999 : Int) ≤ v_98.toInt ∧ v_98.toInt ≤ 127 := by rw [e_99]; exact hok.2.1 1 _
            refine k_bld (v := v_98) C hP 1 rfl (vp_in_iff.mpr ⟨by omega, by omega⟩) e_99.symm dX12_symbol_55 ?_
            refine lv_sipush (v := 255) C.1 C.2.1 dX12_symbol_56 (by decide) ?_
            obtain ⟨v_101, e_102⟩ : ∃ z, z = (v_98 : Int32) &&& (255 : Int32) := ⟨_, rfl⟩
            have h_103 : v_101.toInt = v_98.toInt % 2 ^ 8 := by rw [e_102]; exact Jvm.Kit.i32_mask _ _ (k := 8) (by decide) (by decide)
            refine k_iand (v := v_101) C e_102.symm dX12_symbol_59 ?_
            refine lv_goto (tgt := 65) C.1 C.2.1 dX12_symbol_60 (by decide) ?_
            exact L_65 t1 w29_1 w29_2 w29_3 w29_5 v_101 _ _ _ hok hfr ⟨by omega, by omega⟩ ⟨by omega, by omega⟩ ⟨by omega, by omega⟩ ⟨by omega, by omega⟩ (show (10 : Int) - w29_5.toInt < (fuel_29 : Int) + 1 from by omega) hP hD hS (lv_sub hl [0, 1, 2, 3, 4] rfl)
  have L_21 : ∀ (t1 : tSt) (k21_0 : Int32) (H : Heap) (locs : List Loc) (ls : Array Slot), okM t1 → frA [(0, 0), (0, 2)] [] [] [] t t1 → (0 : Int) ≤ k21_0.toInt ∧ k21_0.toInt ≤ 1 → va_P D vwCl (WM K ad t1) H → va_D A (WM K ad t1) → va_S A s.heap H locs → lv_has ls 7 [(0, .ref (ad 0))] → W p l e (rmD 2 0 0) s m [.ref (ad 0)].toArray below meth c H locs 0 0 (MQ below (QI D K (fun (r : Int32) (u : tSt) => okM u ∧ frA [(0, 0), (0, 2)] [] [] [] t u ∧ (-2147483648 : Int) ≤ r.toInt ∧ r.toInt ≤ 2147483647 ∧ ((u.1 0 2).toInt = 0)) (fun (u : tSt) => WM K ad u) A) [.ref (ad 0)].toArray s 0 0 A) (F0 m 21 ls [.int k21_0]) := by
    intro t1 k21_0 H locs ls hok hfr hk21_0 hP hD hS hl
    have h_104 : (t1.1 0 52).toInt = (t.1 0 52).toInt := ti_eq (hfr.1 0 52 rfl)
    have h_105 : (0 : Int) ≤ (t1.1 0 2).toInt ∧ (t1.1 0 2).toInt ≤ 1280 := hok.1 0 2
    have h_106 : (0 : Int) ≤ (t1.1 0 52).toInt ∧ (t1.1 0 52).toInt ≤ 1200 := hok.1 0 52
    refine lv_istore_n (lv' := [(1, .int k21_0), (0, .ref (ad 0))]) C.1 C.2.1 dX12_symbol_21 rfl hl (by decide) rfl (fun ls hl => ?_)
    have hl : lv_has ls 7 [(0, .ref (ad 0)), (1, .int k21_0)] := lv_sub hl [1, 0] rfl
    refine lv_iconst (v := 0) C.1 C.2.1 dX12_symbol_22 (by decide) ?_
    refine lv_istore_n (lv' := [(2, .int 0), (0, .ref (ad 0)), (1, .int k21_0)]) C.1 C.2.1 dX12_symbol_23 rfl hl (by decide) rfl (fun ls hl => ?_)
    have hl : lv_has ls 7 [(0, .ref (ad 0)), (1, .int k21_0), (2, .int 0)] := lv_sub hl [1, 2, 0] rfl
    refine lv_lconst (v := 0) C.1 C.2.1 dX12_symbol_24 (by decide) ?_
    refine lv_lstore_n (lv' := [(3, .long 0), (0, .ref (ad 0)), (1, .int k21_0), (2, .int 0)]) C.1 C.2.1 dX12_symbol_25 rfl hl (by decide) rfl (fun ls hl => ?_)
    have hl : lv_has ls 7 [(0, .ref (ad 0)), (1, .int k21_0), (2, .int 0), (3, .long 0)] := lv_sub hl [1, 2, 3, 0] rfl
    refine lv_iconst (v := 0) C.1 C.2.1 dX12_symbol_26 (by decide) ?_
    refine lv_istore (lv' := [(5, .int 0), (0, .ref (ad 0)), (1, .int k21_0), (2, .int 0), (3, .long 0)]) C.1 C.2.1 dX12_symbol_27 hl (by decide) rfl (fun ls hl => ?_)
    have hl : lv_has ls 7 [(0, .ref (ad 0)), (1, .int k21_0), (2, .int 0), (3, .long 0), (5, .int 0)] := lv_sub hl [1, 2, 3, 4, 0] rfl
    exact L_29 11 t1 k21_0 0 0 0 _ _ _ hok hfr ⟨by omega, by omega⟩ ⟨by decide, by decide⟩ ⟨by decide, by decide⟩ (show (10 : Int) - 0 < ((11 : Nat) : Int) from by omega) hP hD hS (lv_sub hl [0, 1, 2, 3, 4] rfl)
  have L_20 : ∀ (t1 : tSt) (H : Heap) (locs : List Loc) (ls : Array Slot), okM t1 → frA [(0, 0), (0, 2)] [] [] [] t t1 → va_P D vwCl (WM K ad t1) H → va_D A (WM K ad t1) → va_S A s.heap H locs → lv_has ls 7 [(0, .ref (ad 0))] → W p l e (rmD 2 0 0) s m [.ref (ad 0)].toArray below meth c H locs 0 0 (MQ below (QI D K (fun (r : Int32) (u : tSt) => okM u ∧ frA [(0, 0), (0, 2)] [] [] [] t u ∧ (-2147483648 : Int) ≤ r.toInt ∧ r.toInt ≤ 2147483647 ∧ ((u.1 0 2).toInt = 0)) (fun (u : tSt) => WM K ad u) A) [.ref (ad 0)].toArray s 0 0 A) (F0 m 20 ls []) := by
    intro t1 H locs ls hok hfr hP hD hS hl
    have h_107 : (t1.1 0 52).toInt = (t.1 0 52).toInt := ti_eq (hfr.1 0 52 rfl)
    have h_108 : (0 : Int) ≤ (t1.1 0 2).toInt ∧ (t1.1 0 2).toInt ≤ 1280 := hok.1 0 2
    have h_109 : (0 : Int) ≤ (t1.1 0 52).toInt ∧ (t1.1 0 52).toInt ≤ 1200 := hok.1 0 52
    refine lv_iconst (v := 0) C.1 C.2.1 dX12_symbol_20 (by decide) ?_
    exact L_21 t1 0 _ _ _ hok hfr ⟨by decide, by decide⟩ hP hD hS (lv_sub hl [0] rfl)
  refine lv_aload_n C.1 C.2.1 dX12_symbol_0 rfl (lv_at hl 0 rfl) ?_
  refine k_get (v := .int (t.1 0 2)) C hP 0 rfl rfl inlX12 2 (by decide) m_9_19 rfl dX12_symbol_1 ?_
  refine lv_if_le (tgt := 20) C.1 C.2.1 dX12_symbol_4 (by decide) (fun c_110 => ?_) (fun c_110 => ?_)
  · replace c_110 : (t.1 0 2).toInt ≤ 0 := i_le c_110
    exact L_20 t _ _ _ hok hfr hP hD hS (lv_sub hl [0] rfl)
  · replace c_110 : 0 < (t.1 0 2).toInt := i_nle c_110
    refine lv_aload_n C.1 C.2.1 dX12_symbol_7 rfl (lv_at hl 0 rfl) ?_
    refine k_get (v := .int (t.1 0 2)) C hP 0 rfl rfl inlX12 2 (by decide) m_9_19 rfl dX12_symbol_8 ?_
    refine lv_bipush (v := 11) C.1 C.2.1 dX12_symbol_11 (by decide) ?_
    refine lv_icmp_ge (tgt := 20) C.1 C.2.1 dX12_symbol_13 (by decide) (fun c_111 => ?_) (fun c_111 => ?_)
    · replace c_111 : 11 ≤ (t.1 0 2).toInt := i_le c_111
      exact L_20 t _ _ _ hok hfr hP hD hS (lv_sub hl [0] rfl)
    · replace c_111 : (t.1 0 2).toInt < 11 := i_nle c_111
      refine lv_iconst (v := 1) C.1 C.2.1 dX12_symbol_16 (by decide) ?_
      refine lv_goto (tgt := 21) C.1 C.2.1 dX12_symbol_17 (by decide) ?_
      exact L_21 t 1 _ _ _ hok hfr ⟨by decide, by decide⟩ hP hD hS (lv_sub hl [0] rfl)

theorem dX12_block_0 : decode cX12_block 0 = .ok (.aload_n 0, 1) := by decide +kernel
theorem dX12_block_1 : decode cX12_block 1 = .ok (.iload_n 1, 1) := by decide +kernel
theorem dX12_block_11 : decode cX12_block 11 = .ok (.iload_n 2, 1) := by decide +kernel
theorem dX12_block_12 : decode cX12_block 12 = .ok (.ifCond .lt 19, 3) := by decide +kernel
theorem dX12_block_15 : decode cX12_block 15 = .ok (.iload_n 2, 1) := by decide +kernel
theorem dX12_block_16 : decode cX12_block 16 = .ok (.bipush 63, 2) := by decide +kernel
theorem dX12_block_18 : decode cX12_block 18 = .ok (.if_icmp .gt 13, 3) := by decide +kernel
theorem dX12_block_2 : decode cX12_block 2 = .ok (.ifCond .lt 29, 3) := by decide +kernel
theorem dX12_block_21 : decode cX12_block 21 = .ok (.iload_n 3, 1) := by decide +kernel
theorem dX12_block_22 : decode cX12_block 22 = .ok (.ifCond .lt 9, 3) := by decide +kernel
theorem dX12_block_25 : decode cX12_block 25 = .ok (.iload_n 3, 1) := by decide +kernel
theorem dX12_block_26 : decode cX12_block 26 = .ok (.bipush 99, 2) := by decide +kernel
theorem dX12_block_28 : decode cX12_block 28 = .ok (.if_icmp .le 7, 3) := by decide +kernel
theorem dX12_block_31 : decode cX12_block 31 = .ok (.iconst 1, 1) := by decide +kernel
theorem dX12_block_32 : decode cX12_block 32 = .ok (.goto 4, 3) := by decide +kernel
theorem dX12_block_35 : decode cX12_block 35 = .ok (.iconst 0, 1) := by decide +kernel
theorem dX12_block_36 : decode cX12_block 36 = .ok (.putfield 155, 3) := by decide +kernel
theorem dX12_block_39 : decode cX12_block 39 = .ok (.aload_n 0, 1) := by decide +kernel
theorem dX12_block_40 : decode cX12_block 40 = .ok (.getfield 155, 3) := by decide +kernel
theorem dX12_block_43 : decode cX12_block 43 = .ok (.ifCond .ne 26, 3) := by decide +kernel
theorem dX12_block_46 : decode cX12_block 46 = .ok (.aload_n 0, 1) := by decide +kernel
theorem dX12_block_47 : decode cX12_block 47 = .ok (.getfield 48, 3) := by decide +kernel
theorem dX12_block_5 : decode cX12_block 5 = .ok (.iload_n 1, 1) := by decide +kernel
theorem dX12_block_50 : decode cX12_block 50 = .ok (.sipush 6400, 3) := by decide +kernel
theorem dX12_block_53 : decode cX12_block 53 = .ok (.iload_n 1, 1) := by decide +kernel
theorem dX12_block_54 : decode cX12_block 54 = .ok (.imul, 1) := by decide +kernel
theorem dX12_block_55 : decode cX12_block 55 = .ok (.bipush 100, 2) := by decide +kernel
theorem dX12_block_57 : decode cX12_block 57 = .ok (.iload_n 2, 1) := by decide +kernel
theorem dX12_block_58 : decode cX12_block 58 = .ok (.imul, 1) := by decide +kernel
theorem dX12_block_59 : decode cX12_block 59 = .ok (.iadd, 1) := by decide +kernel
theorem dX12_block_6 : decode cX12_block 6 = .ok (.bipush 15, 2) := by decide +kernel
theorem dX12_block_60 : decode cX12_block 60 = .ok (.iload_n 3, 1) := by decide +kernel
theorem dX12_block_61 : decode cX12_block 61 = .ok (.iadd, 1) := by decide +kernel
theorem dX12_block_62 : decode cX12_block 62 = .ok (.iaload, 1) := by decide +kernel
theorem dX12_block_63 : decode cX12_block 63 = .ok (.invokestatic 715, 3) := by decide +kernel
theorem dX12_block_66 : decode cX12_block 66 = .ok (.goto 4, 3) := by decide +kernel
theorem dX12_block_69 : decode cX12_block 69 = .ok (.iconst 0, 1) := by decide +kernel
theorem dX12_block_70 : decode cX12_block 70 = .ok (.ireturn, 1) := by decide +kernel
theorem dX12_block_8 : decode cX12_block 8 = .ok (.if_icmp .gt 23, 3) := by decide +kernel
set_option maxHeartbeats 4000000 in
set_option maxRecDepth 100000 in
theorem T_X12_block (l : Launch) (D : va_G) (K : Nat → ClassId) (Z Y : Nat → Nat) (ad : Nat → Nat) (t : tSt) (hok : okM t) (x1 : Int32) (x2 : Int32) (x3 : Int32) : tMet l yX12_block cX12_block 4 (some .int) (rmD 2 0 0) D K Z Y [.ref (ad 0), .int x1, .int x2, .int x3] (WM K ad t) (QI D K (fun (r : Int32) (u : tSt) => okM u ∧ frA [(0, 0)] [] [] [] t u ∧ (-2147483648 : Int) ≤ r.toInt ∧ r.toInt ≤ 2147483647) (fun (u : tSt) => WM K ad u)) 0 0 := by
  refine t_met RX12 ⟨rfl, by decide +kernel⟩ (Nat.le_of_ble_eq_true rfl) ?_
  intro p e s m below meth c A ls C hE hZ hr hlocks hA hP hD hS hl
  have hl : lv_has ls 4 [(0, .ref (ad 0)), (1, .int x1), (2, .int x2), (3, .int x3)] := hl
  have hokt := hok
  have hfr : frA [(0, 0)] [] [] [] t t := frA_rf
  refine lv_aload_n C.1 C.2.1 dX12_block_0 rfl (lv_at hl 0 rfl) ?_
  refine lv_iload_n C.1 C.2.1 dX12_block_1 rfl (lv_at hl 1 rfl) ?_
  refine lv_if_lt (tgt := 31) C.1 C.2.1 dX12_block_2 (by decide) (fun c_1 => ?_) (fun c_1 => ?_)
  · replace c_1 : x1.toInt < 0 := i_lt c_1
    refine lv_iconst (v := 1) C.1 C.2.1 dX12_block_31 (by decide) ?_
    refine lv_goto (tgt := 36) C.1 C.2.1 dX12_block_32 (by decide) ?_
    refine k_put (ws' := WM K ad (uI t 0 0 1)) (v := .int 1) C hP hD hS 0 rfl rfl inlX12 tyX12_ok nmX12 0 (by decide) m_9_18 rfl rfl rfl rfl rfl dX12_block_36 (fun H locs hP hD hS => ?_)
    have hok : okM (uI t 0 0 1) := ⟨okI_I hok.1 0 0 1 (show (0 : Int) ≤ (1 : Int32).toInt ∧ (1 : Int32).toInt ≤ 1 from ⟨by decide, by decide⟩), hok.2.1, hok.2.2.1, hok.2.2.2.1, hok.2.2.2.2.1, hok.2.2.2.2.2.1, hok.2.2.2.2.2.2.1, trivial⟩
    have hfr : frA [(0, 0)] [] [] [] t (uI t 0 0 1) := frA_I hfr 0 0 _ rfl
    refine lv_aload_n C.1 C.2.1 dX12_block_39 rfl (lv_at hl 0 rfl) ?_
    refine k_get (v := .int 1) C hP 0 rfl rfl inlX12 0 (by decide) m_9_18 rfl dX12_block_40 ?_
    refine lv_if_ne (tgt := 69) C.1 C.2.1 dX12_block_43 (by decide) (fun _ => ?_) (fun h => absurd h (by decide))
    refine lv_iconst (v := 0) C.1 C.2.1 dX12_block_69 (by decide) ?_
    exact g_iret C hr hlocks hP hD hS rfl (uI t 0 0 1) rfl ⟨hok, hfr, (i_rng _).1, (i_rng _).2⟩ (Nat.le_of_ble_eq_true rfl) (Nat.le_of_ble_eq_true rfl) dX12_block_70
  · replace c_1 : 0 ≤ x1.toInt := i_nlt c_1
    refine lv_iload_n C.1 C.2.1 dX12_block_5 rfl (lv_at hl 1 rfl) ?_
    refine lv_bipush (v := 15) C.1 C.2.1 dX12_block_6 (by decide) ?_
    refine lv_icmp_gt (tgt := 31) C.1 C.2.1 dX12_block_8 (by decide) (fun c_2 => ?_) (fun c_2 => ?_)
    · replace c_2 : 15 < x1.toInt := i_lt c_2
      refine lv_iconst (v := 1) C.1 C.2.1 dX12_block_31 (by decide) ?_
      refine lv_goto (tgt := 36) C.1 C.2.1 dX12_block_32 (by decide) ?_
      refine k_put (ws' := WM K ad (uI t 0 0 1)) (v := .int 1) C hP hD hS 0 rfl rfl inlX12 tyX12_ok nmX12 0 (by decide) m_9_18 rfl rfl rfl rfl rfl dX12_block_36 (fun H locs hP hD hS => ?_)
      have hok : okM (uI t 0 0 1) := ⟨okI_I hok.1 0 0 1 (show (0 : Int) ≤ (1 : Int32).toInt ∧ (1 : Int32).toInt ≤ 1 from ⟨by decide, by decide⟩), hok.2.1, hok.2.2.1, hok.2.2.2.1, hok.2.2.2.2.1, hok.2.2.2.2.2.1, hok.2.2.2.2.2.2.1, trivial⟩
      have hfr : frA [(0, 0)] [] [] [] t (uI t 0 0 1) := frA_I hfr 0 0 _ rfl
      refine lv_aload_n C.1 C.2.1 dX12_block_39 rfl (lv_at hl 0 rfl) ?_
      refine k_get (v := .int 1) C hP 0 rfl rfl inlX12 0 (by decide) m_9_18 rfl dX12_block_40 ?_
      refine lv_if_ne (tgt := 69) C.1 C.2.1 dX12_block_43 (by decide) (fun _ => ?_) (fun h => absurd h (by decide))
      refine lv_iconst (v := 0) C.1 C.2.1 dX12_block_69 (by decide) ?_
      exact g_iret C hr hlocks hP hD hS rfl (uI t 0 0 1) rfl ⟨hok, hfr, (i_rng _).1, (i_rng _).2⟩ (Nat.le_of_ble_eq_true rfl) (Nat.le_of_ble_eq_true rfl) dX12_block_70
    · replace c_2 : x1.toInt ≤ 15 := i_nlt c_2
      refine lv_iload_n C.1 C.2.1 dX12_block_11 rfl (lv_at hl 2 rfl) ?_
      refine lv_if_lt (tgt := 31) C.1 C.2.1 dX12_block_12 (by decide) (fun c_3 => ?_) (fun c_3 => ?_)
      · replace c_3 : x2.toInt < 0 := i_lt c_3
        refine lv_iconst (v := 1) C.1 C.2.1 dX12_block_31 (by decide) ?_
        refine lv_goto (tgt := 36) C.1 C.2.1 dX12_block_32 (by decide) ?_
        refine k_put (ws' := WM K ad (uI t 0 0 1)) (v := .int 1) C hP hD hS 0 rfl rfl inlX12 tyX12_ok nmX12 0 (by decide) m_9_18 rfl rfl rfl rfl rfl dX12_block_36 (fun H locs hP hD hS => ?_)
        have hok : okM (uI t 0 0 1) := ⟨okI_I hok.1 0 0 1 (show (0 : Int) ≤ (1 : Int32).toInt ∧ (1 : Int32).toInt ≤ 1 from ⟨by decide, by decide⟩), hok.2.1, hok.2.2.1, hok.2.2.2.1, hok.2.2.2.2.1, hok.2.2.2.2.2.1, hok.2.2.2.2.2.2.1, trivial⟩
        have hfr : frA [(0, 0)] [] [] [] t (uI t 0 0 1) := frA_I hfr 0 0 _ rfl
        refine lv_aload_n C.1 C.2.1 dX12_block_39 rfl (lv_at hl 0 rfl) ?_
        refine k_get (v := .int 1) C hP 0 rfl rfl inlX12 0 (by decide) m_9_18 rfl dX12_block_40 ?_
        refine lv_if_ne (tgt := 69) C.1 C.2.1 dX12_block_43 (by decide) (fun _ => ?_) (fun h => absurd h (by decide))
        refine lv_iconst (v := 0) C.1 C.2.1 dX12_block_69 (by decide) ?_
        exact g_iret C hr hlocks hP hD hS rfl (uI t 0 0 1) rfl ⟨hok, hfr, (i_rng _).1, (i_rng _).2⟩ (Nat.le_of_ble_eq_true rfl) (Nat.le_of_ble_eq_true rfl) dX12_block_70
      · replace c_3 : 0 ≤ x2.toInt := i_nlt c_3
        refine lv_iload_n C.1 C.2.1 dX12_block_15 rfl (lv_at hl 2 rfl) ?_
        refine lv_bipush (v := 63) C.1 C.2.1 dX12_block_16 (by decide) ?_
        refine lv_icmp_gt (tgt := 31) C.1 C.2.1 dX12_block_18 (by decide) (fun c_4 => ?_) (fun c_4 => ?_)
        · replace c_4 : 63 < x2.toInt := i_lt c_4
          refine lv_iconst (v := 1) C.1 C.2.1 dX12_block_31 (by decide) ?_
          refine lv_goto (tgt := 36) C.1 C.2.1 dX12_block_32 (by decide) ?_
          refine k_put (ws' := WM K ad (uI t 0 0 1)) (v := .int 1) C hP hD hS 0 rfl rfl inlX12 tyX12_ok nmX12 0 (by decide) m_9_18 rfl rfl rfl rfl rfl dX12_block_36 (fun H locs hP hD hS => ?_)
          have hok : okM (uI t 0 0 1) := ⟨okI_I hok.1 0 0 1 (show (0 : Int) ≤ (1 : Int32).toInt ∧ (1 : Int32).toInt ≤ 1 from ⟨by decide, by decide⟩), hok.2.1, hok.2.2.1, hok.2.2.2.1, hok.2.2.2.2.1, hok.2.2.2.2.2.1, hok.2.2.2.2.2.2.1, trivial⟩
          have hfr : frA [(0, 0)] [] [] [] t (uI t 0 0 1) := frA_I hfr 0 0 _ rfl
          refine lv_aload_n C.1 C.2.1 dX12_block_39 rfl (lv_at hl 0 rfl) ?_
          refine k_get (v := .int 1) C hP 0 rfl rfl inlX12 0 (by decide) m_9_18 rfl dX12_block_40 ?_
          refine lv_if_ne (tgt := 69) C.1 C.2.1 dX12_block_43 (by decide) (fun _ => ?_) (fun h => absurd h (by decide))
          refine lv_iconst (v := 0) C.1 C.2.1 dX12_block_69 (by decide) ?_
          exact g_iret C hr hlocks hP hD hS rfl (uI t 0 0 1) rfl ⟨hok, hfr, (i_rng _).1, (i_rng _).2⟩ (Nat.le_of_ble_eq_true rfl) (Nat.le_of_ble_eq_true rfl) dX12_block_70
        · replace c_4 : x2.toInt ≤ 63 := i_nlt c_4
          refine lv_iload_n C.1 C.2.1 dX12_block_21 rfl (lv_at hl 3 rfl) ?_
          refine lv_if_lt (tgt := 31) C.1 C.2.1 dX12_block_22 (by decide) (fun c_5 => ?_) (fun c_5 => ?_)
          · replace c_5 : x3.toInt < 0 := i_lt c_5
            refine lv_iconst (v := 1) C.1 C.2.1 dX12_block_31 (by decide) ?_
            refine lv_goto (tgt := 36) C.1 C.2.1 dX12_block_32 (by decide) ?_
            refine k_put (ws' := WM K ad (uI t 0 0 1)) (v := .int 1) C hP hD hS 0 rfl rfl inlX12 tyX12_ok nmX12 0 (by decide) m_9_18 rfl rfl rfl rfl rfl dX12_block_36 (fun H locs hP hD hS => ?_)
            have hok : okM (uI t 0 0 1) := ⟨okI_I hok.1 0 0 1 (show (0 : Int) ≤ (1 : Int32).toInt ∧ (1 : Int32).toInt ≤ 1 from ⟨by decide, by decide⟩), hok.2.1, hok.2.2.1, hok.2.2.2.1, hok.2.2.2.2.1, hok.2.2.2.2.2.1, hok.2.2.2.2.2.2.1, trivial⟩
            have hfr : frA [(0, 0)] [] [] [] t (uI t 0 0 1) := frA_I hfr 0 0 _ rfl
            refine lv_aload_n C.1 C.2.1 dX12_block_39 rfl (lv_at hl 0 rfl) ?_
            refine k_get (v := .int 1) C hP 0 rfl rfl inlX12 0 (by decide) m_9_18 rfl dX12_block_40 ?_
            refine lv_if_ne (tgt := 69) C.1 C.2.1 dX12_block_43 (by decide) (fun _ => ?_) (fun h => absurd h (by decide))
            refine lv_iconst (v := 0) C.1 C.2.1 dX12_block_69 (by decide) ?_
            exact g_iret C hr hlocks hP hD hS rfl (uI t 0 0 1) rfl ⟨hok, hfr, (i_rng _).1, (i_rng _).2⟩ (Nat.le_of_ble_eq_true rfl) (Nat.le_of_ble_eq_true rfl) dX12_block_70
          · replace c_5 : 0 ≤ x3.toInt := i_nlt c_5
            refine lv_iload_n C.1 C.2.1 dX12_block_25 rfl (lv_at hl 3 rfl) ?_
            refine lv_bipush (v := 99) C.1 C.2.1 dX12_block_26 (by decide) ?_
            refine lv_icmp_le (tgt := 35) C.1 C.2.1 dX12_block_28 (by decide) (fun c_6 => ?_) (fun c_6 => ?_)
            · replace c_6 : x3.toInt ≤ 99 := i_le c_6
              refine lv_iconst (v := 0) C.1 C.2.1 dX12_block_35 (by decide) ?_
              refine k_put (ws' := WM K ad (uI t 0 0 0)) (v := .int 0) C hP hD hS 0 rfl rfl inlX12 tyX12_ok nmX12 0 (by decide) m_9_18 rfl rfl rfl rfl rfl dX12_block_36 (fun H locs hP hD hS => ?_)
              have hok : okM (uI t 0 0 0) := ⟨okI_I hok.1 0 0 0 (show (0 : Int) ≤ (0 : Int32).toInt ∧ (0 : Int32).toInt ≤ 1 from ⟨by decide, by decide⟩), hok.2.1, hok.2.2.1, hok.2.2.2.1, hok.2.2.2.2.1, hok.2.2.2.2.2.1, hok.2.2.2.2.2.2.1, trivial⟩
              have hfr : frA [(0, 0)] [] [] [] t (uI t 0 0 0) := frA_I hfr 0 0 _ rfl
              refine lv_aload_n C.1 C.2.1 dX12_block_39 rfl (lv_at hl 0 rfl) ?_
              refine k_get (v := .int 0) C hP 0 rfl rfl inlX12 0 (by decide) m_9_18 rfl dX12_block_40 ?_
              refine lv_if_ne (tgt := 69) C.1 C.2.1 dX12_block_43 (by decide) (fun h => absurd h (by decide)) (fun _ => ?_)
              refine lv_aload_n C.1 C.2.1 dX12_block_46 rfl (lv_at hl 0 rfl) ?_
              refine k_get (v := .ref (ad 10)) C hP 0 rfl rfl inlX12 25 (by decide) m_7_16 rfl dX12_block_47 ?_
              refine lv_sipush (v := 6400) C.1 C.2.1 dX12_block_50 (by decide) ?_
              refine lv_iload_n C.1 C.2.1 dX12_block_53 rfl (lv_at hl 1 rfl) ?_
              obtain ⟨v_7, e_8⟩ : ∃ z, z = (6400 : Int32) * (x1 : Int32) := ⟨_, rfl⟩
              have h_9 : v_7.toInt = 6400 * x1.toInt := by rw [e_8]; exact ti_mull (k := 6400) (by decide) (by omega) (by omega)
              refine k_imul (v := v_7) C e_8.symm dX12_block_54 ?_
              refine lv_bipush (v := 100) C.1 C.2.1 dX12_block_55 (by decide) ?_
              refine lv_iload_n C.1 C.2.1 dX12_block_57 rfl (lv_at hl 2 rfl) ?_
              obtain ⟨v_10, e_11⟩ : ∃ z, z = (100 : Int32) * (x2 : Int32) := ⟨_, rfl⟩
              have h_12 : v_10.toInt = 100 * x2.toInt := by rw [e_11]; exact ti_mull (k := 100) (by decide) (by omega) (by omega)
              refine k_imul (v := v_10) C e_11.symm dX12_block_58 ?_
              obtain ⟨v_13, e_14⟩ : ∃ z, z = (v_7 : Int32) + (v_10 : Int32) := ⟨_, rfl⟩
              have h_15 : v_13.toInt = v_7.toInt + v_10.toInt := by rw [e_14]; exact ti_iadd (by show (_ : Int) ≤ v_7.toInt + v_10.toInt; omega) (by show v_7.toInt + v_10.toInt < (_ : Int); omega)
              refine k_iadd (v := v_13) C e_14.symm dX12_block_59 ?_
              refine lv_iload_n C.1 C.2.1 dX12_block_60 rfl (lv_at hl 3 rfl) ?_
              obtain ⟨v_16, e_17⟩ : ∃ z, z = (v_13 : Int32) + (x3 : Int32) := ⟨_, rfl⟩
              have h_18 : v_16.toInt = v_13.toInt + x3.toInt := by rw [e_17]; exact ti_iadd (by show (_ : Int) ≤ v_13.toInt + x3.toInt; omega) (by show v_13.toInt + x3.toInt < (_ : Int); omega)
              refine k_iadd (v := v_16) C e_17.symm dX12_block_61 ?_
              obtain ⟨v_19, e_20⟩ : ∃ z, z = (t.2.2.1 10 (v_16 : Int32).toNatClampNeg) := ⟨_, rfl⟩
              refine k_ild (v := v_19) C hP 10 rfl (vp_in_iff.mpr ⟨by omega, by omega⟩) e_20.symm dX12_block_62 ?_
              refine g_Si (As := [.int v_19]) (rest := []) C hP hD hS hA (T_X12_told l D K Z Y ad (uI t 0 0 0) hok (v_19)) hE hZ (uwS m_84_13 m_84_14 m_1_5 m_84_15) (hdS 1 (by decide +kernel) rfl) ⟨Nat.le_of_ble_eq_true rfl, Nat.le_of_ble_eq_true rfl⟩ rfl rfl rfl hl.1 (Nat.le_of_ble_eq_true rfl) dX12_block_63 ⟨Nat.le_of_ble_eq_true rfl, Nat.le_of_ble_eq_true rfl⟩ (fun r_22 t_21 H locs hw hP hD hS => ?_)
              obtain ⟨h_24, h_25⟩ := hw
              refine lv_goto (tgt := 70) C.1 C.2.1 dX12_block_66 (by decide) ?_
              exact g_iret C hr hlocks hP hD hS rfl (uI t 0 0 0) rfl ⟨hok, hfr, (i_rng _).1, (i_rng _).2⟩ (Nat.le_of_ble_eq_true rfl) (Nat.le_of_ble_eq_true rfl) dX12_block_70
            · replace c_6 : 99 < x3.toInt := i_nle c_6
              refine lv_iconst (v := 1) C.1 C.2.1 dX12_block_31 (by decide) ?_
              refine lv_goto (tgt := 36) C.1 C.2.1 dX12_block_32 (by decide) ?_
              refine k_put (ws' := WM K ad (uI t 0 0 1)) (v := .int 1) C hP hD hS 0 rfl rfl inlX12 tyX12_ok nmX12 0 (by decide) m_9_18 rfl rfl rfl rfl rfl dX12_block_36 (fun H locs hP hD hS => ?_)
              have hok : okM (uI t 0 0 1) := ⟨okI_I hok.1 0 0 1 (show (0 : Int) ≤ (1 : Int32).toInt ∧ (1 : Int32).toInt ≤ 1 from ⟨by decide, by decide⟩), hok.2.1, hok.2.2.1, hok.2.2.2.1, hok.2.2.2.2.1, hok.2.2.2.2.2.1, hok.2.2.2.2.2.2.1, trivial⟩
              have hfr : frA [(0, 0)] [] [] [] t (uI t 0 0 1) := frA_I hfr 0 0 _ rfl
              refine lv_aload_n C.1 C.2.1 dX12_block_39 rfl (lv_at hl 0 rfl) ?_
              refine k_get (v := .int 1) C hP 0 rfl rfl inlX12 0 (by decide) m_9_18 rfl dX12_block_40 ?_
              refine lv_if_ne (tgt := 69) C.1 C.2.1 dX12_block_43 (by decide) (fun _ => ?_) (fun h => absurd h (by decide))
              refine lv_iconst (v := 0) C.1 C.2.1 dX12_block_69 (by decide) ?_
              exact g_iret C hr hlocks hP hD hS rfl (uI t 0 0 1) rfl ⟨hok, hfr, (i_rng _).1, (i_rng _).2⟩ (Nat.le_of_ble_eq_true rfl) (Nat.le_of_ble_eq_true rfl) dX12_block_70

theorem dX12_isWord_0 : decode cX12_isWord 0 = .ok (.iconst 0, 1) := by decide +kernel
theorem dX12_isWord_1 : decode cX12_isWord 1 = .ok (.istore_n 3, 1) := by decide +kernel
theorem dX12_isWord_10 : decode cX12_isWord 10 = .ok (.aload_n 0, 1) := by decide +kernel
theorem dX12_isWord_11 : decode cX12_isWord 11 = .ok (.iload_n 1, 1) := by decide +kernel
theorem dX12_isWord_12 : decode cX12_isWord 12 = .ok (.iload_n 3, 1) := by decide +kernel
theorem dX12_isWord_13 : decode cX12_isWord 13 = .ok (.iconst 1, 1) := by decide +kernel
theorem dX12_isWord_14 : decode cX12_isWord 14 = .ok (.iadd, 1) := by decide +kernel
theorem dX12_isWord_15 : decode cX12_isWord 15 = .ok (.invokevirtual 725, 3) := by decide +kernel
theorem dX12_isWord_18 : decode cX12_isWord 18 = .ok (.aload_n 2, 1) := by decide +kernel
theorem dX12_isWord_19 : decode cX12_isWord 19 = .ok (.iload_n 3, 1) := by decide +kernel
theorem dX12_isWord_2 : decode cX12_isWord 2 = .ok (.iload_n 3, 1) := by decide +kernel
theorem dX12_isWord_20 : decode cX12_isWord 20 = .ok (.invokevirtual 172, 3) := by decide +kernel
theorem dX12_isWord_23 : decode cX12_isWord 23 = .ok (.if_icmp .eq 5, 3) := by decide +kernel
theorem dX12_isWord_26 : decode cX12_isWord 26 = .ok (.iconst 0, 1) := by decide +kernel
theorem dX12_isWord_27 : decode cX12_isWord 27 = .ok (.ireturn, 1) := by decide +kernel
theorem dX12_isWord_28 : decode cX12_isWord 28 = .ok (.iinc 3 1, 3) := by decide +kernel
theorem dX12_isWord_3 : decode cX12_isWord 3 = .ok (.aload_n 2, 1) := by decide +kernel
theorem dX12_isWord_31 : decode cX12_isWord 31 = .ok (.goto (-29), 3) := by decide +kernel
theorem dX12_isWord_34 : decode cX12_isWord 34 = .ok (.aload_n 0, 1) := by decide +kernel
theorem dX12_isWord_35 : decode cX12_isWord 35 = .ok (.iload_n 1, 1) := by decide +kernel
theorem dX12_isWord_36 : decode cX12_isWord 36 = .ok (.aload_n 2, 1) := by decide +kernel
theorem dX12_isWord_37 : decode cX12_isWord 37 = .ok (.invokevirtual 203, 3) := by decide +kernel
theorem dX12_isWord_4 : decode cX12_isWord 4 = .ok (.invokevirtual 203, 3) := by decide +kernel
theorem dX12_isWord_40 : decode cX12_isWord 40 = .ok (.iconst 1, 1) := by decide +kernel
theorem dX12_isWord_41 : decode cX12_isWord 41 = .ok (.iadd, 1) := by decide +kernel
theorem dX12_isWord_42 : decode cX12_isWord 42 = .ok (.invokevirtual 725, 3) := by decide +kernel
theorem dX12_isWord_45 : decode cX12_isWord 45 = .ok (.bipush 32, 2) := by decide +kernel
theorem dX12_isWord_47 : decode cX12_isWord 47 = .ok (.if_icmp .ne 7, 3) := by decide +kernel
theorem dX12_isWord_50 : decode cX12_isWord 50 = .ok (.iconst 1, 1) := by decide +kernel
theorem dX12_isWord_51 : decode cX12_isWord 51 = .ok (.goto 4, 3) := by decide +kernel
theorem dX12_isWord_54 : decode cX12_isWord 54 = .ok (.iconst 0, 1) := by decide +kernel
theorem dX12_isWord_55 : decode cX12_isWord 55 = .ok (.ireturn, 1) := by decide +kernel
theorem dX12_isWord_7 : decode cX12_isWord 7 = .ok (.if_icmp .ge 27, 3) := by decide +kernel
set_option maxHeartbeats 4000000 in
set_option maxRecDepth 100000 in
theorem T_X12_isWord (l : Launch) (D : va_G) (K : Nat → ClassId) (Z Y : Nat → Nat) (ad : Nat → Nat) (t : tSt) (hok : okM t) (x1 : Int32) (hx1 : (0 : Int) ≤ x1.toInt ∧ x1.toInt ≤ 1280) (i2 : Nat) (hi2 : sS i2) : tMet l yX12_isWord cX12_isWord 4 (some .boolean) (rmD 8 0 0) D K Z Y [.ref (ad 0), .int x1, .ref (Z i2)] (WM K ad t) (QI D K (fun (r : Int32) (u : Unit) => (0 : Int) ≤ r.toInt ∧ r.toInt ≤ 1) (fun (_ : Unit) => WM K ad t)) 0 0 := by
  refine t_met RX12 ⟨rfl, by decide +kernel⟩ (Nat.le_of_ble_eq_true rfl) ?_
  intro p e s m below meth c A ls C hE hZ hr hlocks hA hP hD hS hl
  have hl : lv_has ls 4 [(0, .ref (ad 0)), (1, .int x1), (2, .ref (Z i2))] := hl
  have L_2 : ∀ (fuel_2 : Nat) (w2_3 : Int32) (H : Heap) (locs : List Loc) (ls : Array Slot), (0 : Int) ≤ w2_3.toInt ∧ w2_3.toInt ≤ 400 → (400 : Int) - w2_3.toInt < (fuel_2 : Int) → va_P D vwCl (WM K ad t) H → va_D A (WM K ad t) → va_S A s.heap H locs → lv_has ls 4 [(0, .ref (ad 0)), (1, .int x1), (2, .ref (Z i2)), (3, .int w2_3)] → W p l e (rmD 8 0 0) s m [.ref (ad 0), .int x1, .ref (Z i2)].toArray below meth c H locs 0 0 (MQ below (QI D K (fun (r : Int32) (u : Unit) => (0 : Int) ≤ r.toInt ∧ r.toInt ≤ 1) (fun (_ : Unit) => WM K ad t) A) [.ref (ad 0), .int x1, .ref (Z i2)].toArray s 0 0 A) (F0 m 2 ls []) := by
    intro fuel_2
    induction fuel_2 with
    | zero =>
      intro w2_3 H locs ls hw2_3 hm2_2 hP hD hS hl
      exact absurd hm2_2 (by omega)
    | succ fuel_2 ih_2 =>
      intro w2_3 H locs ls hw2_3 hm2_2 hP hD hS hl
      have hm2_2 : (400 : Int) - w2_3.toInt < (fuel_2 : Int) + 1 := by omega
      refine lv_iload_n C.1 C.2.1 dX12_isWord_2 rfl (lv_at hl 3 rfl) ?_
      refine lv_aload_n C.1 C.2.1 dX12_isWord_3 rfl (lv_at hl 2 rfl) ?_
      refine g_Ti (As := []) (rest := [.int w2_3]) C hP hD hS hA (TJ_length l D K Z Y (WM K ad t) i2 (sS_lt hi2)) hE hZ (uwV m_79_5 m_14_22 m_14_23 m_14_8 m_15_0) (hdV 0 (by decide +kernel) rfl) ⟨Nat.le_of_ble_eq_true rfl, Nat.le_of_ble_eq_true rfl⟩ rfl rfl (i0 := i2) (sS_lt hi2) rfl rfl hl.1 (Nat.le_of_ble_eq_true rfl) dX12_isWord_4 ⟨Nat.le_of_ble_eq_true rfl, Nat.le_of_ble_eq_true rfl⟩ (fun r_1 u_r_1 H locs hw hP hD hS => ?_)
      have h_2 : r_1.toInt = sL i2 := hw
      have h_3 := sS_len hi2
      refine lv_icmp_ge (tgt := 34) C.1 C.2.1 dX12_isWord_7 (by decide) (fun c_4 => ?_) (fun c_4 => ?_)
      · replace c_4 : r_1.toInt ≤ w2_3.toInt := i_le c_4
        refine lv_aload_n C.1 C.2.1 dX12_isWord_34 rfl (lv_at hl 0 rfl) ?_
        refine lv_iload_n C.1 C.2.1 dX12_isWord_35 rfl (lv_at hl 1 rfl) ?_
        refine lv_aload_n C.1 C.2.1 dX12_isWord_36 rfl (lv_at hl 2 rfl) ?_
        refine g_Ti (As := []) (rest := [.int x1, .ref (ad 0)]) C hP hD hS hA (TJ_length l D K Z Y (WM K ad t) i2 (sS_lt hi2)) hE hZ (uwV m_79_5 m_14_22 m_14_23 m_14_8 m_15_0) (hdV 0 (by decide +kernel) rfl) ⟨Nat.le_of_ble_eq_true rfl, Nat.le_of_ble_eq_true rfl⟩ rfl rfl (i0 := i2) (sS_lt hi2) rfl rfl hl.1 (Nat.le_of_ble_eq_true rfl) dX12_isWord_37 ⟨Nat.le_of_ble_eq_true rfl, Nat.le_of_ble_eq_true rfl⟩ (fun r_5 u_r_5 H locs hw hP hD hS => ?_)
        have h_6 : r_5.toInt = sL i2 := hw
        have h_7 := sS_len hi2
        refine lv_iconst (v := 1) C.1 C.2.1 dX12_isWord_40 (by decide) ?_
        obtain ⟨v_8, e_9⟩ : ∃ z, z = (r_5 : Int32) + (1 : Int32) := ⟨_, rfl⟩
        have h_10 : v_8.toInt = r_5.toInt + 1 := by rw [e_9]; exact ti_iadd (by show (_ : Int) ≤ r_5.toInt + 1; omega) (by show r_5.toInt + 1 < (_ : Int); omega)
        refine k_iadd (v := v_8) C e_9.symm dX12_isWord_41 ?_
        refine g_Vi (As := [.int x1, .int v_8]) (rest := []) C hP hD hS hA (T_X12_deckLetter l D K Z Y ad t hok (x1) (show (0 : Int) ≤ (x1 : Int32).toInt ∧ (x1 : Int32).toInt ≤ 1280 from ⟨by omega, by omega⟩) (v_8) (show (1 : Int) ≤ (v_8 : Int32).toInt ∧ (v_8 : Int32).toInt ≤ 200 from ⟨by omega, by omega⟩)) hE hZ (uwV m_79_6 m_79_7 m_79_8 m_1_5 m_79_9) (hdV 2 (by decide +kernel) rfl) ⟨Nat.le_of_ble_eq_true rfl, Nat.le_of_ble_eq_true rfl⟩ rfl rfl (ci := 11) (q0 := 0) rfl rfl rfl hl.1 (Nat.le_of_ble_eq_true rfl) dX12_isWord_42 ⟨Nat.le_of_ble_eq_true rfl, Nat.le_of_ble_eq_true rfl⟩ (fun r_12 t_11 H locs hw hP hD hS => ?_)
        obtain ⟨h_14, h_15, p_16, p_17, p_18, p_19⟩ := hw
        replace p_16 : r_12 = fDeck t x1 v_8 := p_16
        replace p_17 : r_12.toInt = (fDeck t x1 v_8).toInt := p_17
        replace p_18 : ¬ r_12.toInt = 32 → (t.2.2.1 37 (x1 : Int32).toNatClampNeg).toInt + v_8.toInt ≤ (t.2.2.1 38 (x1 : Int32).toNatClampNeg).toInt := p_18
        replace p_19 : 81 ≤ v_8.toInt → r_12.toInt = 32 := p_19
        refine lv_bipush (v := 32) C.1 C.2.1 dX12_isWord_45 (by decide) ?_
        refine lv_icmp_ne (tgt := 54) C.1 C.2.1 dX12_isWord_47 (by decide) (fun c_20 => ?_) (fun c_20 => ?_)
        · replace c_20 : ¬ r_12.toInt = 32 := i_ne c_20
          refine lv_iconst (v := 0) C.1 C.2.1 dX12_isWord_54 (by decide) ?_
          exact g_iret C hr hlocks hP hD hS (by decide) () rfl ⟨by decide, by decide⟩ (Nat.le_of_ble_eq_true rfl) (Nat.le_of_ble_eq_true rfl) dX12_isWord_55
        · replace c_20 : r_12.toInt = 32 := i_eq c_20
          refine lv_iconst (v := 1) C.1 C.2.1 dX12_isWord_50 (by decide) ?_
          refine lv_goto (tgt := 55) C.1 C.2.1 dX12_isWord_51 (by decide) ?_
          exact g_iret C hr hlocks hP hD hS (by decide) () rfl ⟨by decide, by decide⟩ (Nat.le_of_ble_eq_true rfl) (Nat.le_of_ble_eq_true rfl) dX12_isWord_55
      · replace c_4 : w2_3.toInt < r_1.toInt := i_nle c_4
        refine lv_aload_n C.1 C.2.1 dX12_isWord_10 rfl (lv_at hl 0 rfl) ?_
        refine lv_iload_n C.1 C.2.1 dX12_isWord_11 rfl (lv_at hl 1 rfl) ?_
        refine lv_iload_n C.1 C.2.1 dX12_isWord_12 rfl (lv_at hl 3 rfl) ?_
        refine lv_iconst (v := 1) C.1 C.2.1 dX12_isWord_13 (by decide) ?_
        obtain ⟨v_21, e_22⟩ : ∃ z, z = (w2_3 : Int32) + (1 : Int32) := ⟨_, rfl⟩
        have h_23 : v_21.toInt = w2_3.toInt + 1 := by rw [e_22]; exact ti_iadd (by show (_ : Int) ≤ w2_3.toInt + 1; omega) (by show w2_3.toInt + 1 < (_ : Int); omega)
        refine k_iadd (v := v_21) C e_22.symm dX12_isWord_14 ?_
        refine g_Vi (As := [.int x1, .int v_21]) (rest := []) C hP hD hS hA (T_X12_deckLetter l D K Z Y ad t hok (x1) (show (0 : Int) ≤ (x1 : Int32).toInt ∧ (x1 : Int32).toInt ≤ 1280 from ⟨by omega, by omega⟩) (v_21) (show (1 : Int) ≤ (v_21 : Int32).toInt ∧ (v_21 : Int32).toInt ≤ 200 from ⟨by omega, by omega⟩)) hE hZ (uwV m_79_6 m_79_7 m_79_8 m_1_5 m_79_9) (hdV 2 (by decide +kernel) rfl) ⟨Nat.le_of_ble_eq_true rfl, Nat.le_of_ble_eq_true rfl⟩ rfl rfl (ci := 11) (q0 := 0) rfl rfl rfl hl.1 (Nat.le_of_ble_eq_true rfl) dX12_isWord_15 ⟨Nat.le_of_ble_eq_true rfl, Nat.le_of_ble_eq_true rfl⟩ (fun r_25 t_24 H locs hw hP hD hS => ?_)
        obtain ⟨h_27, h_28, p_29, p_30, p_31, p_32⟩ := hw
        replace p_29 : r_25 = fDeck t x1 v_21 := p_29
        replace p_30 : r_25.toInt = (fDeck t x1 v_21).toInt := p_30
        replace p_31 : ¬ r_25.toInt = 32 → (t.2.2.1 37 (x1 : Int32).toNatClampNeg).toInt + v_21.toInt ≤ (t.2.2.1 38 (x1 : Int32).toNatClampNeg).toInt := p_31
        replace p_32 : 81 ≤ v_21.toInt → r_25.toInt = 32 := p_32
        refine lv_aload_n C.1 C.2.1 dX12_isWord_18 rfl (lv_at hl 2 rfl) ?_
        refine lv_iload_n C.1 C.2.1 dX12_isWord_19 rfl (lv_at hl 3 rfl) ?_
        refine g_Ti (As := [.int w2_3]) (rest := [.int r_25]) C hP hD hS hA (TJ_charAt l D K Z Y (WM K ad t) i2 (sS_lt hi2) w2_3 (show 0 ≤ w2_3.toInt ∧ w2_3.toInt < sL i2 from by omega)) hE hZ (uwV m_31_19 m_17_21 m_17_22 m_14_8 m_17_23) (hdV 1 (by decide +kernel) rfl) ⟨Nat.le_of_ble_eq_true rfl, Nat.le_of_ble_eq_true rfl⟩ rfl rfl (i0 := i2) (sS_lt hi2) rfl rfl hl.1 (Nat.le_of_ble_eq_true rfl) dX12_isWord_20 ⟨Nat.le_of_ble_eq_true rfl, Nat.le_of_ble_eq_true rfl⟩ (fun r_33 u_r_33 H locs hw hP hD hS => ?_)
        have er_33 : r_33 = (sByt i2).getD (w2_3 : Int32).toNatClampNeg 0 := hw
        have h_34 : (32 : Int) ≤ r_33.toInt ∧ r_33.toInt ≤ 126 := by rw [er_33]; exact sByt_rr (sS_lt hi2) (by omega) (by omega)
        refine lv_icmp_eq (tgt := 28) C.1 C.2.1 dX12_isWord_23 (by decide) (fun c_35 => ?_) (fun c_35 => ?_)
        · replace c_35 : r_25.toInt = r_33.toInt := i_eq c_35
          obtain ⟨v_36, e_37⟩ : ∃ z, z = w2_3 + 1 := ⟨_, rfl⟩
          have h_38 : v_36.toInt = w2_3.toInt + 1 := by rw [e_37]; exact ti_iadd (by show (_ : Int) ≤ w2_3.toInt + 1; omega) (by show w2_3.toInt + 1 < (_ : Int); omega)
          refine lv_iinc (v := v_36) (lv' := [(3, .int v_36), (0, .ref (ad 0)), (1, .int x1), (2, .ref (Z i2))]) C.1 C.2.1 dX12_isWord_28 hl (k := 3) rfl e_37.symm (by decide) rfl (fun ls hl => ?_)
          have hl : lv_has ls 4 [(0, .ref (ad 0)), (1, .int x1), (2, .ref (Z i2)), (3, .int v_36)] := lv_sub hl [1, 2, 3, 0] rfl
          refine lv_goto (tgt := 2) C.1 C.2.1 dX12_isWord_31 (by decide) ?_
          exact ih_2 v_36 _ _ _ ⟨by omega, by omega⟩ (show (400 : Int) - v_36.toInt < (fuel_2 : Int) from by omega) hP hD hS (lv_sub hl [0, 1, 2, 3] rfl)
        · replace c_35 : ¬ r_25.toInt = r_33.toInt := i_ne c_35
          refine lv_iconst (v := 0) C.1 C.2.1 dX12_isWord_26 (by decide) ?_
          exact g_iret C hr hlocks hP hD hS (by decide) () rfl ⟨by decide, by decide⟩ (Nat.le_of_ble_eq_true rfl) (Nat.le_of_ble_eq_true rfl) dX12_isWord_27
  refine lv_iconst (v := 0) C.1 C.2.1 dX12_isWord_0 (by decide) ?_
  refine lv_istore_n (lv' := [(3, .int 0), (0, .ref (ad 0)), (1, .int x1), (2, .ref (Z i2))]) C.1 C.2.1 dX12_isWord_1 rfl hl (by decide) rfl (fun ls hl => ?_)
  have hl : lv_has ls 4 [(0, .ref (ad 0)), (1, .int x1), (2, .ref (Z i2)), (3, .int 0)] := lv_sub hl [1, 2, 3, 0] rfl
  exact L_2 401 0 _ _ _ ⟨by decide, by decide⟩ (show (400 : Int) - 0 < ((401 : Nat) : Int) from by omega) hP hD hS (lv_sub hl [0, 1, 2, 3] rfl)

theorem dX12_clearAssembling_0 : decode cX12_clearAssembling 0 = .ok (.aload_n 0, 1) := by decide +kernel
theorem dX12_clearAssembling_1 : decode cX12_clearAssembling 1 = .ok (.iconst 0, 1) := by decide +kernel
theorem dX12_clearAssembling_10 : decode cX12_clearAssembling 10 = .ok (.aload_n 0, 1) := by decide +kernel
theorem dX12_clearAssembling_11 : decode cX12_clearAssembling 11 = .ok (.iconst 0, 1) := by decide +kernel
theorem dX12_clearAssembling_12 : decode cX12_clearAssembling 12 = .ok (.putfield 494, 3) := by decide +kernel
theorem dX12_clearAssembling_15 : decode cX12_clearAssembling 15 = .ok (.aload_n 0, 1) := by decide +kernel
theorem dX12_clearAssembling_16 : decode cX12_clearAssembling 16 = .ok (.iconst 0, 1) := by decide +kernel
theorem dX12_clearAssembling_17 : decode cX12_clearAssembling 17 = .ok (.putfield 569, 3) := by decide +kernel
theorem dX12_clearAssembling_2 : decode cX12_clearAssembling 2 = .ok (.putfield 633, 3) := by decide +kernel
theorem dX12_clearAssembling_20 : decode cX12_clearAssembling 20 = .ok (.aload_n 0, 1) := by decide +kernel
theorem dX12_clearAssembling_21 : decode cX12_clearAssembling 21 = .ok (.iconst 0, 1) := by decide +kernel
theorem dX12_clearAssembling_22 : decode cX12_clearAssembling 22 = .ok (.putfield 602, 3) := by decide +kernel
theorem dX12_clearAssembling_25 : decode cX12_clearAssembling 25 = .ok (.aload_n 0, 1) := by decide +kernel
theorem dX12_clearAssembling_26 : decode cX12_clearAssembling 26 = .ok (.iconst 0, 1) := by decide +kernel
theorem dX12_clearAssembling_27 : decode cX12_clearAssembling 27 = .ok (.putfield 463, 3) := by decide +kernel
theorem dX12_clearAssembling_30 : decode cX12_clearAssembling 30 = .ok (.aload_n 0, 1) := by decide +kernel
theorem dX12_clearAssembling_31 : decode cX12_clearAssembling 31 = .ok (.iconst 0, 1) := by decide +kernel
theorem dX12_clearAssembling_32 : decode cX12_clearAssembling 32 = .ok (.putfield 572, 3) := by decide +kernel
theorem dX12_clearAssembling_35 : decode cX12_clearAssembling 35 = .ok (.iconst 0, 1) := by decide +kernel
theorem dX12_clearAssembling_36 : decode cX12_clearAssembling 36 = .ok (.istore_n 1, 1) := by decide +kernel
theorem dX12_clearAssembling_37 : decode cX12_clearAssembling 37 = .ok (.iload_n 1, 1) := by decide +kernel
theorem dX12_clearAssembling_38 : decode cX12_clearAssembling 38 = .ok (.sipush 7999, 3) := by decide +kernel
theorem dX12_clearAssembling_41 : decode cX12_clearAssembling 41 = .ok (.if_icmp .ge 16, 3) := by decide +kernel
theorem dX12_clearAssembling_44 : decode cX12_clearAssembling 44 = .ok (.aload_n 0, 1) := by decide +kernel
theorem dX12_clearAssembling_45 : decode cX12_clearAssembling 45 = .ok (.getfield 83, 3) := by decide +kernel
theorem dX12_clearAssembling_48 : decode cX12_clearAssembling 48 = .ok (.iload_n 1, 1) := by decide +kernel
theorem dX12_clearAssembling_49 : decode cX12_clearAssembling 49 = .ok (.iconst 0, 1) := by decide +kernel
theorem dX12_clearAssembling_5 : decode cX12_clearAssembling 5 = .ok (.aload_n 0, 1) := by decide +kernel
theorem dX12_clearAssembling_50 : decode cX12_clearAssembling 50 = .ok (.bastore, 1) := by decide +kernel
theorem dX12_clearAssembling_51 : decode cX12_clearAssembling 51 = .ok (.iinc 1 1, 3) := by decide +kernel
theorem dX12_clearAssembling_54 : decode cX12_clearAssembling 54 = .ok (.goto (-17), 3) := by decide +kernel
theorem dX12_clearAssembling_57 : decode cX12_clearAssembling 57 = .ok (.iconst 0, 1) := by decide +kernel
theorem dX12_clearAssembling_58 : decode cX12_clearAssembling 58 = .ok (.istore_n 1, 1) := by decide +kernel
theorem dX12_clearAssembling_59 : decode cX12_clearAssembling 59 = .ok (.iload_n 1, 1) := by decide +kernel
theorem dX12_clearAssembling_6 : decode cX12_clearAssembling 6 = .ok (.iconst 0, 1) := by decide +kernel
theorem dX12_clearAssembling_60 : decode cX12_clearAssembling 60 = .ok (.bipush 10, 2) := by decide +kernel
theorem dX12_clearAssembling_62 : decode cX12_clearAssembling 62 = .ok (.if_icmp .ge 16, 3) := by decide +kernel
theorem dX12_clearAssembling_65 : decode cX12_clearAssembling 65 = .ok (.aload_n 0, 1) := by decide +kernel
theorem dX12_clearAssembling_66 : decode cX12_clearAssembling 66 = .ok (.getfield 107, 3) := by decide +kernel
theorem dX12_clearAssembling_69 : decode cX12_clearAssembling 69 = .ok (.iload_n 1, 1) := by decide +kernel
theorem dX12_clearAssembling_7 : decode cX12_clearAssembling 7 = .ok (.putfield 469, 3) := by decide +kernel
theorem dX12_clearAssembling_70 : decode cX12_clearAssembling 70 = .ok (.iconst 0, 1) := by decide +kernel
theorem dX12_clearAssembling_71 : decode cX12_clearAssembling 71 = .ok (.bastore, 1) := by decide +kernel
theorem dX12_clearAssembling_72 : decode cX12_clearAssembling 72 = .ok (.iinc 1 1, 3) := by decide +kernel
theorem dX12_clearAssembling_75 : decode cX12_clearAssembling 75 = .ok (.goto (-16), 3) := by decide +kernel
theorem dX12_clearAssembling_78 : decode cX12_clearAssembling 78 = .ok (.aload_n 0, 1) := by decide +kernel
theorem dX12_clearAssembling_79 : decode cX12_clearAssembling 79 = .ok (.invokevirtual 636, 3) := by decide +kernel
theorem dX12_clearAssembling_82 : decode cX12_clearAssembling 82 = .ok (.return_, 1) := by decide +kernel
set_option maxHeartbeats 4000000 in
set_option maxRecDepth 100000 in
theorem T_X12_clearAssembling (l : Launch) (D : va_G) (K : Nat → ClassId) (Z Y : Nat → Nat) (ad : Nat → Nat) (t : tSt) (hok : okM t)  : tMet l yX12_clearAssembling cX12_clearAssembling 2 none (rmD 2 0 0) D K Z Y [.ref (ad 0)] (WM K ad t) (QV D K (fun (u : tSt) => okM u ∧ frA [(0, 41), (0, 42), (0, 45), (0, 47), (0, 48), (0, 52), (0, 60), (0, 70)] [] [19, 20, 21, 29] [] t u ∧ (lnS (u.1 0 41).toInt (u.2.2.1 19) (u.2.2.1 20)) ∧ ((u.1 0 52).toInt = 0) ∧ ((u.1 0 60).toInt = 0) ∧ ((u.1 0 70).toInt = 0)) (fun (u : tSt) => WM K ad u)) 0 0 := by
  refine t_met RX12 ⟨rfl, by decide +kernel⟩ (Nat.le_of_ble_eq_true rfl) ?_
  intro p e s m below meth c A ls C hE hZ hr hlocks hA hP hD hS hl
  have hl : lv_has ls 2 [(0, .ref (ad 0))] := hl
  have hokt := hok
  have hfr : frA [(0, 41), (0, 42), (0, 45), (0, 47), (0, 48), (0, 52), (0, 60), (0, 70)] [] [19, 20, 21, 29] [] t t := frA_rf
  have h_1 : (0 : Int) ≤ (t.1 0 41).toInt ∧ (t.1 0 41).toInt ≤ 1280 := hok.1 0 41
  have h_2 : (0 : Int) ≤ (t.1 0 52).toInt ∧ (t.1 0 52).toInt ≤ 1200 := hok.1 0 52
  have h_3 : (0 : Int) ≤ (t.1 0 60).toInt ∧ (t.1 0 60).toInt ≤ 1200 := hok.1 0 60
  have h_4 : (0 : Int) ≤ (t.1 0 70).toInt ∧ (t.1 0 70).toInt ≤ 8 := hok.1 0 70
  have L_59 : ∀ (fuel_59 : Nat) (t1 : tSt) (w59_1 : Int32) (H : Heap) (locs : List Loc) (ls : Array Slot), okM t1 → frA [(0, 41), (0, 42), (0, 45), (0, 47), (0, 48), (0, 52), (0, 60), (0, 70)] [] [19, 20, 21, 29] [] t t1 → (0 : Int) ≤ w59_1.toInt ∧ w59_1.toInt ≤ 10 → (0 : Int) ≤ (t1.1 0 42).toInt ∧ (t1.1 0 42).toInt ≤ 0 → (0 : Int) ≤ (t1.1 0 45).toInt ∧ (t1.1 0 45).toInt ≤ 0 → (0 : Int) ≤ (t1.1 0 47).toInt ∧ (t1.1 0 47).toInt ≤ 0 → (0 : Int) ≤ (t1.1 0 48).toInt ∧ (t1.1 0 48).toInt ≤ 0 → (0 : Int) ≤ (t1.1 0 52).toInt ∧ (t1.1 0 52).toInt ≤ 0 → (0 : Int) ≤ (t1.1 0 60).toInt ∧ (t1.1 0 60).toInt ≤ 0 → (0 : Int) ≤ (t1.1 0 70).toInt ∧ (t1.1 0 70).toInt ≤ 0 → ((t1.1 0 52).toInt = 0) → ((t1.1 0 60).toInt = 0) → ((t1.1 0 70).toInt = 0) → (10 : Int) - w59_1.toInt < (fuel_59 : Int) → va_P D vwCl (WM K ad t1) H → va_D A (WM K ad t1) → va_S A s.heap H locs → lv_has ls 2 [(0, .ref (ad 0)), (1, .int w59_1)] → W p l e (rmD 2 0 0) s m [.ref (ad 0)].toArray below meth c H locs 0 0 (MQ below (QV D K (fun (u : tSt) => okM u ∧ frA [(0, 41), (0, 42), (0, 45), (0, 47), (0, 48), (0, 52), (0, 60), (0, 70)] [] [19, 20, 21, 29] [] t u ∧ (lnS (u.1 0 41).toInt (u.2.2.1 19) (u.2.2.1 20)) ∧ ((u.1 0 52).toInt = 0) ∧ ((u.1 0 60).toInt = 0) ∧ ((u.1 0 70).toInt = 0)) (fun (u : tSt) => WM K ad u) A) [.ref (ad 0)].toArray s 0 0 A) (F0 m 59 ls []) := by
    intro fuel_59
    induction fuel_59 with
    | zero =>
      intro t1 w59_1 H locs ls hok hfr hw59_1 hf59_42 hf59_45 hf59_47 hf59_48 hf59_52 hf59_60 hf59_70 hi59_0 hi59_1 hi59_2 hm59_59 hP hD hS hl
      have h_5 : (0 : Int) ≤ (t1.1 0 41).toInt ∧ (t1.1 0 41).toInt ≤ 1280 := hok.1 0 41
      exact absurd hm59_59 (by omega)
    | succ fuel_59 ih_59 =>
      intro t1 w59_1 H locs ls hok hfr hw59_1 hf59_42 hf59_45 hf59_47 hf59_48 hf59_52 hf59_60 hf59_70 hi59_0 hi59_1 hi59_2 hm59_59 hP hD hS hl
      have hm59_59 : (10 : Int) - w59_1.toInt < (fuel_59 : Int) + 1 := by omega
      have h_6 : (0 : Int) ≤ (t1.1 0 41).toInt ∧ (t1.1 0 41).toInt ≤ 1280 := hok.1 0 41
      refine lv_iload_n C.1 C.2.1 dX12_clearAssembling_59 rfl (lv_at hl 1 rfl) ?_
      refine lv_bipush (v := 10) C.1 C.2.1 dX12_clearAssembling_60 (by decide) ?_
      refine lv_icmp_ge (tgt := 78) C.1 C.2.1 dX12_clearAssembling_62 (by decide) (fun c_7 => ?_) (fun c_7 => ?_)
      · replace c_7 : 10 ≤ w59_1.toInt := i_le c_7
        refine lv_aload_n C.1 C.2.1 dX12_clearAssembling_78 rfl (lv_at hl 0 rfl) ?_
        refine g_Vv (As := []) (rest := []) C hP hD hS hA (T_X12_findLines l D K Z Y ad t1 hok ) hE hZ (uwV m_30_19 m_30_20 m_30_21 m_1_5 m_30_22) (hdV 0 (by decide +kernel) rfl) ⟨Nat.le_of_ble_eq_true rfl, Nat.le_of_ble_eq_true rfl⟩ rfl rfl (ci := 11) (q0 := 0) rfl rfl rfl hl.1 (Nat.le_of_ble_eq_true rfl) dX12_clearAssembling_79 ⟨Nat.le_of_ble_eq_true rfl, Nat.le_of_ble_eq_true rfl⟩ (fun t_8 H locs hw hP hD hS => ?_)
        obtain ⟨hok, f_10, p_11⟩ := hw
        have hfr : frA [(0, 41), (0, 42), (0, 45), (0, 47), (0, 48), (0, 52), (0, 60), (0, 70)] [] [19, 20, 21, 29] [] t t_8 := frA_tr hfr f_10 rfl
        have h_12 : (t_8.1 0 42).toInt = (t1.1 0 42).toInt := ti_eq (f_10.1 0 42 rfl)
        have h_13 : (t_8.1 0 45).toInt = (t1.1 0 45).toInt := ti_eq (f_10.1 0 45 rfl)
        have h_14 : (t_8.1 0 47).toInt = (t1.1 0 47).toInt := ti_eq (f_10.1 0 47 rfl)
        have h_15 : (t_8.1 0 48).toInt = (t1.1 0 48).toInt := ti_eq (f_10.1 0 48 rfl)
        have h_16 : (t_8.1 0 52).toInt = (t1.1 0 52).toInt := ti_eq (f_10.1 0 52 rfl)
        have h_17 : (t_8.1 0 60).toInt = (t1.1 0 60).toInt := ti_eq (f_10.1 0 60 rfl)
        have h_18 : (t_8.1 0 70).toInt = (t1.1 0 70).toInt := ti_eq (f_10.1 0 70 rfl)
        have h_19 : (0 : Int) ≤ (t_8.1 0 41).toInt ∧ (t_8.1 0 41).toInt ≤ 1280 := hok.1 0 41
        replace p_11 : lnS (t_8.1 0 41).toInt (t_8.2.2.1 19) (t_8.2.2.1 20) := p_11
        have hln := p_11
        exact g_vret C hr hlocks hP hD hS t_8 rfl ⟨hok, hfr, (show lnS (t_8.1 0 41).toInt (t_8.2.2.1 19) (t_8.2.2.1 20) from by exact hln), (show (t_8.1 0 52).toInt = 0 from by omega), (show (t_8.1 0 60).toInt = 0 from by omega), (show (t_8.1 0 70).toInt = 0 from by omega)⟩ (Nat.le_of_ble_eq_true rfl) (Nat.le_of_ble_eq_true rfl) dX12_clearAssembling_82
      · replace c_7 : w59_1.toInt < 10 := i_nle c_7
        refine lv_aload_n C.1 C.2.1 dX12_clearAssembling_65 rfl (lv_at hl 0 rfl) ?_
        refine k_get (v := .ref (ad 29)) C hP 0 rfl rfl inlX12 59 (by decide) m_8_13 rfl dX12_clearAssembling_66 ?_
        refine lv_iload_n C.1 C.2.1 dX12_clearAssembling_69 rfl (lv_at hl 1 rfl) ?_
        refine lv_iconst (v := 0) C.1 C.2.1 dX12_clearAssembling_70 (by decide) ?_
        obtain ⟨v_20, e_21⟩ : ∃ z, z = vp_nar .boolean 0 := ⟨_, rfl⟩
        have h_22 : (0 : Int) ≤ v_20.toInt ∧ v_20.toInt ≤ 1 := by rw [e_21]; exact nar_boolean _
        refine k_zst (ws' := WM K ad (uB t1 29 (w59_1 : Int32).toNatClampNeg v_20)) (x' := v_20) C hP hD hS 29 rfl (vp_in_iff.mpr ⟨by omega, by omega⟩) rfl e_21.symm rfl dX12_clearAssembling_71 (fun H locs hP hD hS => ?_)
        have hok : okM (uB t1 29 (w59_1 : Int32).toNatClampNeg v_20) := ⟨hok.1, okB_B hok.2.1 29 _ v_20 (show (0 : Int) ≤ (v_20 : Int32).toInt ∧ (v_20 : Int32).toInt ≤ 1 from ⟨by omega, by omega⟩), hok.2.2.1, hok.2.2.2.1, hok.2.2.2.2.1, hok.2.2.2.2.2.1, hok.2.2.2.2.2.2.1, trivial⟩
        have hfr : frA [(0, 41), (0, 42), (0, 45), (0, 47), (0, 48), (0, 52), (0, 60), (0, 70)] [] [19, 20, 21, 29] [] t (uB t1 29 (w59_1 : Int32).toNatClampNeg v_20) := frA_B hfr 29 _ _ rfl
        obtain ⟨v_23, e_24⟩ : ∃ z, z = w59_1 + 1 := ⟨_, rfl⟩
        have h_25 : v_23.toInt = w59_1.toInt + 1 := by rw [e_24]; exact ti_iadd (by show (_ : Int) ≤ w59_1.toInt + 1; omega) (by show w59_1.toInt + 1 < (_ : Int); omega)
        refine lv_iinc (v := v_23) (lv' := [(1, .int v_23), (0, .ref (ad 0))]) C.1 C.2.1 dX12_clearAssembling_72 hl (k := 1) rfl e_24.symm (by decide) rfl (fun ls hl => ?_)
        have hl : lv_has ls 2 [(0, .ref (ad 0)), (1, .int v_23)] := lv_sub hl [1, 0] rfl
        refine lv_goto (tgt := 59) C.1 C.2.1 dX12_clearAssembling_75 (by decide) ?_
        exact ih_59 (uB t1 29 (w59_1 : Int32).toNatClampNeg v_20) v_23 _ _ _ hok hfr ⟨by omega, by omega⟩ (show (0 : Int) ≤ ((t1.1 0 42) : Int32).toInt ∧ ((t1.1 0 42) : Int32).toInt ≤ 0 from ⟨by omega, by omega⟩) (show (0 : Int) ≤ ((t1.1 0 45) : Int32).toInt ∧ ((t1.1 0 45) : Int32).toInt ≤ 0 from ⟨by omega, by omega⟩) (show (0 : Int) ≤ ((t1.1 0 47) : Int32).toInt ∧ ((t1.1 0 47) : Int32).toInt ≤ 0 from ⟨by omega, by omega⟩) (show (0 : Int) ≤ ((t1.1 0 48) : Int32).toInt ∧ ((t1.1 0 48) : Int32).toInt ≤ 0 from ⟨by omega, by omega⟩) (show (0 : Int) ≤ ((t1.1 0 52) : Int32).toInt ∧ ((t1.1 0 52) : Int32).toInt ≤ 0 from ⟨by omega, by omega⟩) (show (0 : Int) ≤ ((t1.1 0 60) : Int32).toInt ∧ ((t1.1 0 60) : Int32).toInt ≤ 0 from ⟨by omega, by omega⟩) (show (0 : Int) ≤ ((t1.1 0 70) : Int32).toInt ∧ ((t1.1 0 70) : Int32).toInt ≤ 0 from ⟨by omega, by omega⟩) (show (t1.1 0 52).toInt = 0 from by omega) (show (t1.1 0 60).toInt = 0 from by omega) (show (t1.1 0 70).toInt = 0 from by omega) (show (10 : Int) - v_23.toInt < (fuel_59 : Int) from by omega) hP hD hS (lv_sub hl [0, 1] rfl)
  have L_37 : ∀ (fuel_37 : Nat) (t1 : tSt) (w37_1 : Int32) (H : Heap) (locs : List Loc) (ls : Array Slot), okM t1 → frA [(0, 41), (0, 42), (0, 45), (0, 47), (0, 48), (0, 52), (0, 60), (0, 70)] [] [19, 20, 21, 29] [] t t1 → (0 : Int) ≤ w37_1.toInt ∧ w37_1.toInt ≤ 7999 → (0 : Int) ≤ (t1.1 0 42).toInt ∧ (t1.1 0 42).toInt ≤ 0 → (0 : Int) ≤ (t1.1 0 45).toInt ∧ (t1.1 0 45).toInt ≤ 0 → (0 : Int) ≤ (t1.1 0 47).toInt ∧ (t1.1 0 47).toInt ≤ 0 → (0 : Int) ≤ (t1.1 0 48).toInt ∧ (t1.1 0 48).toInt ≤ 0 → (0 : Int) ≤ (t1.1 0 52).toInt ∧ (t1.1 0 52).toInt ≤ 0 → (0 : Int) ≤ (t1.1 0 60).toInt ∧ (t1.1 0 60).toInt ≤ 0 → (0 : Int) ≤ (t1.1 0 70).toInt ∧ (t1.1 0 70).toInt ≤ 0 → ((t1.1 0 52).toInt = 0) → ((t1.1 0 60).toInt = 0) → ((t1.1 0 70).toInt = 0) → (7999 : Int) - w37_1.toInt < (fuel_37 : Int) → va_P D vwCl (WM K ad t1) H → va_D A (WM K ad t1) → va_S A s.heap H locs → lv_has ls 2 [(0, .ref (ad 0)), (1, .int w37_1)] → W p l e (rmD 2 0 0) s m [.ref (ad 0)].toArray below meth c H locs 0 0 (MQ below (QV D K (fun (u : tSt) => okM u ∧ frA [(0, 41), (0, 42), (0, 45), (0, 47), (0, 48), (0, 52), (0, 60), (0, 70)] [] [19, 20, 21, 29] [] t u ∧ (lnS (u.1 0 41).toInt (u.2.2.1 19) (u.2.2.1 20)) ∧ ((u.1 0 52).toInt = 0) ∧ ((u.1 0 60).toInt = 0) ∧ ((u.1 0 70).toInt = 0)) (fun (u : tSt) => WM K ad u) A) [.ref (ad 0)].toArray s 0 0 A) (F0 m 37 ls []) := by
    intro fuel_37
    induction fuel_37 with
    | zero =>
      intro t1 w37_1 H locs ls hok hfr hw37_1 hf37_42 hf37_45 hf37_47 hf37_48 hf37_52 hf37_60 hf37_70 hi37_0 hi37_1 hi37_2 hm37_37 hP hD hS hl
      have h_26 : (0 : Int) ≤ (t1.1 0 41).toInt ∧ (t1.1 0 41).toInt ≤ 1280 := hok.1 0 41
      exact absurd hm37_37 (by omega)
    | succ fuel_37 ih_37 =>
      intro t1 w37_1 H locs ls hok hfr hw37_1 hf37_42 hf37_45 hf37_47 hf37_48 hf37_52 hf37_60 hf37_70 hi37_0 hi37_1 hi37_2 hm37_37 hP hD hS hl
      have hm37_37 : (7999 : Int) - w37_1.toInt < (fuel_37 : Int) + 1 := by omega
      have h_27 : (0 : Int) ≤ (t1.1 0 41).toInt ∧ (t1.1 0 41).toInt ≤ 1280 := hok.1 0 41
      refine lv_iload_n C.1 C.2.1 dX12_clearAssembling_37 rfl (lv_at hl 1 rfl) ?_
      refine lv_sipush (v := 7999) C.1 C.2.1 dX12_clearAssembling_38 (by decide) ?_
      refine lv_icmp_ge (tgt := 57) C.1 C.2.1 dX12_clearAssembling_41 (by decide) (fun c_28 => ?_) (fun c_28 => ?_)
      · replace c_28 : 7999 ≤ w37_1.toInt := i_le c_28
        refine lv_iconst (v := 0) C.1 C.2.1 dX12_clearAssembling_57 (by decide) ?_
        refine lv_istore_n (lv' := [(1, .int 0), (0, .ref (ad 0))]) C.1 C.2.1 dX12_clearAssembling_58 rfl hl (by decide) rfl (fun ls hl => ?_)
        have hl : lv_has ls 2 [(0, .ref (ad 0)), (1, .int 0)] := lv_sub hl [1, 0] rfl
        exact L_59 11 t1 0 _ _ _ hok hfr ⟨by decide, by decide⟩ (show (0 : Int) ≤ ((t1.1 0 42) : Int32).toInt ∧ ((t1.1 0 42) : Int32).toInt ≤ 0 from ⟨by omega, by omega⟩) (show (0 : Int) ≤ ((t1.1 0 45) : Int32).toInt ∧ ((t1.1 0 45) : Int32).toInt ≤ 0 from ⟨by omega, by omega⟩) (show (0 : Int) ≤ ((t1.1 0 47) : Int32).toInt ∧ ((t1.1 0 47) : Int32).toInt ≤ 0 from ⟨by omega, by omega⟩) (show (0 : Int) ≤ ((t1.1 0 48) : Int32).toInt ∧ ((t1.1 0 48) : Int32).toInt ≤ 0 from ⟨by omega, by omega⟩) (show (0 : Int) ≤ ((t1.1 0 52) : Int32).toInt ∧ ((t1.1 0 52) : Int32).toInt ≤ 0 from ⟨by omega, by omega⟩) (show (0 : Int) ≤ ((t1.1 0 60) : Int32).toInt ∧ ((t1.1 0 60) : Int32).toInt ≤ 0 from ⟨by omega, by omega⟩) (show (0 : Int) ≤ ((t1.1 0 70) : Int32).toInt ∧ ((t1.1 0 70) : Int32).toInt ≤ 0 from ⟨by omega, by omega⟩) (show (t1.1 0 52).toInt = 0 from by omega) (show (t1.1 0 60).toInt = 0 from by omega) (show (t1.1 0 70).toInt = 0 from by omega) (show (10 : Int) - 0 < ((11 : Nat) : Int) from by omega) hP hD hS (lv_sub hl [0, 1] rfl)
      · replace c_28 : w37_1.toInt < 7999 := i_nle c_28
        refine lv_aload_n C.1 C.2.1 dX12_clearAssembling_44 rfl (lv_at hl 0 rfl) ?_
        refine k_get (v := .ref (ad 21)) C hP 0 rfl rfl inlX12 49 (by decide) m_8_5 rfl dX12_clearAssembling_45 ?_
        refine lv_iload_n C.1 C.2.1 dX12_clearAssembling_48 rfl (lv_at hl 1 rfl) ?_
        refine lv_iconst (v := 0) C.1 C.2.1 dX12_clearAssembling_49 (by decide) ?_
        obtain ⟨v_29, e_30⟩ : ∃ z, z = vp_nar .boolean 0 := ⟨_, rfl⟩
        have h_31 : (0 : Int) ≤ v_29.toInt ∧ v_29.toInt ≤ 1 := by rw [e_30]; exact nar_boolean _
        refine k_zst (ws' := WM K ad (uB t1 21 (w37_1 : Int32).toNatClampNeg v_29)) (x' := v_29) C hP hD hS 21 rfl (vp_in_iff.mpr ⟨by omega, by omega⟩) rfl e_30.symm rfl dX12_clearAssembling_50 (fun H locs hP hD hS => ?_)
        have hok : okM (uB t1 21 (w37_1 : Int32).toNatClampNeg v_29) := ⟨hok.1, okB_B hok.2.1 21 _ v_29 (show (0 : Int) ≤ (v_29 : Int32).toInt ∧ (v_29 : Int32).toInt ≤ 1 from ⟨by omega, by omega⟩), hok.2.2.1, hok.2.2.2.1, hok.2.2.2.2.1, hok.2.2.2.2.2.1, hok.2.2.2.2.2.2.1, trivial⟩
        have hfr : frA [(0, 41), (0, 42), (0, 45), (0, 47), (0, 48), (0, 52), (0, 60), (0, 70)] [] [19, 20, 21, 29] [] t (uB t1 21 (w37_1 : Int32).toNatClampNeg v_29) := frA_B hfr 21 _ _ rfl
        obtain ⟨v_32, e_33⟩ : ∃ z, z = w37_1 + 1 := ⟨_, rfl⟩
        have h_34 : v_32.toInt = w37_1.toInt + 1 := by rw [e_33]; exact ti_iadd (by show (_ : Int) ≤ w37_1.toInt + 1; omega) (by show w37_1.toInt + 1 < (_ : Int); omega)
        refine lv_iinc (v := v_32) (lv' := [(1, .int v_32), (0, .ref (ad 0))]) C.1 C.2.1 dX12_clearAssembling_51 hl (k := 1) rfl e_33.symm (by decide) rfl (fun ls hl => ?_)
        have hl : lv_has ls 2 [(0, .ref (ad 0)), (1, .int v_32)] := lv_sub hl [1, 0] rfl
        refine lv_goto (tgt := 37) C.1 C.2.1 dX12_clearAssembling_54 (by decide) ?_
        exact ih_37 (uB t1 21 (w37_1 : Int32).toNatClampNeg v_29) v_32 _ _ _ hok hfr ⟨by omega, by omega⟩ (show (0 : Int) ≤ ((t1.1 0 42) : Int32).toInt ∧ ((t1.1 0 42) : Int32).toInt ≤ 0 from ⟨by omega, by omega⟩) (show (0 : Int) ≤ ((t1.1 0 45) : Int32).toInt ∧ ((t1.1 0 45) : Int32).toInt ≤ 0 from ⟨by omega, by omega⟩) (show (0 : Int) ≤ ((t1.1 0 47) : Int32).toInt ∧ ((t1.1 0 47) : Int32).toInt ≤ 0 from ⟨by omega, by omega⟩) (show (0 : Int) ≤ ((t1.1 0 48) : Int32).toInt ∧ ((t1.1 0 48) : Int32).toInt ≤ 0 from ⟨by omega, by omega⟩) (show (0 : Int) ≤ ((t1.1 0 52) : Int32).toInt ∧ ((t1.1 0 52) : Int32).toInt ≤ 0 from ⟨by omega, by omega⟩) (show (0 : Int) ≤ ((t1.1 0 60) : Int32).toInt ∧ ((t1.1 0 60) : Int32).toInt ≤ 0 from ⟨by omega, by omega⟩) (show (0 : Int) ≤ ((t1.1 0 70) : Int32).toInt ∧ ((t1.1 0 70) : Int32).toInt ≤ 0 from ⟨by omega, by omega⟩) (show (t1.1 0 52).toInt = 0 from by omega) (show (t1.1 0 60).toInt = 0 from by omega) (show (t1.1 0 70).toInt = 0 from by omega) (show (7999 : Int) - v_32.toInt < (fuel_37 : Int) from by omega) hP hD hS (lv_sub hl [0, 1] rfl)
  refine lv_aload_n C.1 C.2.1 dX12_clearAssembling_0 rfl (lv_at hl 0 rfl) ?_
  refine lv_iconst (v := 0) C.1 C.2.1 dX12_clearAssembling_1 (by decide) ?_
  refine k_put (ws' := WM K ad (uI t 0 42 0)) (v := .int 0) C hP hD hS 0 rfl rfl inlX12 tyX12_ok nmX12 42 (by decide) m_29_16 rfl (by decide) (by decide) rfl rfl dX12_clearAssembling_2 (fun H locs hP hD hS => ?_)
  have hok : okM (uI t 0 42 0) := ⟨okI_I hok.1 0 42 0 (show (0 : Int) ≤ (0 : Int32).toInt ∧ (0 : Int32).toInt ≤ 1 from ⟨by decide, by decide⟩), hok.2.1, hok.2.2.1, hok.2.2.2.1, hok.2.2.2.2.1, hok.2.2.2.2.2.1, hok.2.2.2.2.2.2.1, trivial⟩
  have hfr : frA [(0, 41), (0, 42), (0, 45), (0, 47), (0, 48), (0, 52), (0, 60), (0, 70)] [] [19, 20, 21, 29] [] t (uI t 0 42 0) := frA_I hfr 0 42 _ rfl
  refine lv_aload_n C.1 C.2.1 dX12_clearAssembling_5 rfl (lv_at hl 0 rfl) ?_
  refine lv_iconst (v := 0) C.1 C.2.1 dX12_clearAssembling_6 (by decide) ?_
  refine k_put (ws' := WM K ad (uI (uI t 0 42 0) 0 70 0)) (v := .int 0) C hP hD hS 0 rfl rfl inlX12 tyX12_ok nmX12 70 (by decide) m_29_13 rfl rfl rfl rfl rfl dX12_clearAssembling_7 (fun H locs hP hD hS => ?_)
  have hok : okM (uI (uI t 0 42 0) 0 70 0) := ⟨okI_I hok.1 0 70 0 (show (0 : Int) ≤ (0 : Int32).toInt ∧ (0 : Int32).toInt ≤ 8 from ⟨by decide, by decide⟩), hok.2.1, hok.2.2.1, hok.2.2.2.1, hok.2.2.2.2.1, hok.2.2.2.2.2.1, hok.2.2.2.2.2.2.1, trivial⟩
  have hfr : frA [(0, 41), (0, 42), (0, 45), (0, 47), (0, 48), (0, 52), (0, 60), (0, 70)] [] [19, 20, 21, 29] [] t (uI (uI t 0 42 0) 0 70 0) := frA_I hfr 0 70 _ rfl
  refine lv_aload_n C.1 C.2.1 dX12_clearAssembling_10 rfl (lv_at hl 0 rfl) ?_
  refine lv_iconst (v := 0) C.1 C.2.1 dX12_clearAssembling_11 (by decide) ?_
  refine k_put (ws' := WM K ad (uI (uI (uI t 0 42 0) 0 70 0) 0 47 0)) (v := .int 0) C hP hD hS 0 rfl rfl inlX12 tyX12_ok nmX12 47 (by decide) m_30_16 rfl rfl rfl rfl rfl dX12_clearAssembling_12 (fun H locs hP hD hS => ?_)
  have hok : okM (uI (uI (uI t 0 42 0) 0 70 0) 0 47 0) := ⟨okI_I hok.1 0 47 0 (show (-3999 : Int) ≤ (0 : Int32).toInt ∧ (0 : Int32).toInt ≤ 4000 from ⟨by decide, by decide⟩), hok.2.1, hok.2.2.1, hok.2.2.2.1, hok.2.2.2.2.1, hok.2.2.2.2.2.1, hok.2.2.2.2.2.2.1, trivial⟩
  have hfr : frA [(0, 41), (0, 42), (0, 45), (0, 47), (0, 48), (0, 52), (0, 60), (0, 70)] [] [19, 20, 21, 29] [] t (uI (uI (uI t 0 42 0) 0 70 0) 0 47 0) := frA_I hfr 0 47 _ rfl
  refine lv_aload_n C.1 C.2.1 dX12_clearAssembling_15 rfl (lv_at hl 0 rfl) ?_
  refine lv_iconst (v := 0) C.1 C.2.1 dX12_clearAssembling_16 (by decide) ?_
  refine k_put (ws' := WM K ad (uI (uI (uI (uI t 0 42 0) 0 70 0) 0 47 0) 0 48 0)) (v := .int 0) C hP hD hS 0 rfl rfl inlX12 tyX12_ok nmX12 48 (by decide) m_29_1 rfl rfl rfl rfl rfl dX12_clearAssembling_17 (fun H locs hP hD hS => ?_)
  have hok : okM (uI (uI (uI (uI t 0 42 0) 0 70 0) 0 47 0) 0 48 0) := ⟨okI_I hok.1 0 48 0 (show (-2147483648 : Int) ≤ (0 : Int32).toInt ∧ (0 : Int32).toInt ≤ 2147483647 from (i_rng _)), hok.2.1, hok.2.2.1, hok.2.2.2.1, hok.2.2.2.2.1, hok.2.2.2.2.2.1, hok.2.2.2.2.2.2.1, trivial⟩
  have hfr : frA [(0, 41), (0, 42), (0, 45), (0, 47), (0, 48), (0, 52), (0, 60), (0, 70)] [] [19, 20, 21, 29] [] t (uI (uI (uI (uI t 0 42 0) 0 70 0) 0 47 0) 0 48 0) := frA_I hfr 0 48 _ rfl
  refine lv_aload_n C.1 C.2.1 dX12_clearAssembling_20 rfl (lv_at hl 0 rfl) ?_
  refine lv_iconst (v := 0) C.1 C.2.1 dX12_clearAssembling_21 (by decide) ?_
  refine k_put (ws' := WM K ad (uI (uI (uI (uI (uI t 0 42 0) 0 70 0) 0 47 0) 0 48 0) 0 45 0)) (v := .int 0) C hP hD hS 0 rfl rfl inlX12 tyX12_ok nmX12 45 (by decide) m_29_0 rfl rfl rfl rfl rfl dX12_clearAssembling_22 (fun H locs hP hD hS => ?_)
  have hok : okM (uI (uI (uI (uI (uI t 0 42 0) 0 70 0) 0 47 0) 0 48 0) 0 45 0) := ⟨okI_I hok.1 0 45 0 (show (-3999 : Int) ≤ (0 : Int32).toInt ∧ (0 : Int32).toInt ≤ 3999 from ⟨by decide, by decide⟩), hok.2.1, hok.2.2.1, hok.2.2.2.1, hok.2.2.2.2.1, hok.2.2.2.2.2.1, hok.2.2.2.2.2.2.1, trivial⟩
  have hfr : frA [(0, 41), (0, 42), (0, 45), (0, 47), (0, 48), (0, 52), (0, 60), (0, 70)] [] [19, 20, 21, 29] [] t (uI (uI (uI (uI (uI t 0 42 0) 0 70 0) 0 47 0) 0 48 0) 0 45 0) := frA_I hfr 0 45 _ rfl
  refine lv_aload_n C.1 C.2.1 dX12_clearAssembling_25 rfl (lv_at hl 0 rfl) ?_
  refine lv_iconst (v := 0) C.1 C.2.1 dX12_clearAssembling_26 (by decide) ?_
  refine k_put (ws' := WM K ad (uI (uI (uI (uI (uI (uI t 0 42 0) 0 70 0) 0 47 0) 0 48 0) 0 45 0) 0 52 0)) (v := .int 0) C hP hD hS 0 rfl rfl inlX12 tyX12_ok nmX12 52 (by decide) m_30_17 rfl rfl rfl rfl rfl dX12_clearAssembling_27 (fun H locs hP hD hS => ?_)
  have hok : okM (uI (uI (uI (uI (uI (uI t 0 42 0) 0 70 0) 0 47 0) 0 48 0) 0 45 0) 0 52 0) := ⟨okI_I hok.1 0 52 0 (show (0 : Int) ≤ (0 : Int32).toInt ∧ (0 : Int32).toInt ≤ 1200 from ⟨by decide, by decide⟩), hok.2.1, hok.2.2.1, hok.2.2.2.1, hok.2.2.2.2.1, hok.2.2.2.2.2.1, hok.2.2.2.2.2.2.1, trivial⟩
  have hfr : frA [(0, 41), (0, 42), (0, 45), (0, 47), (0, 48), (0, 52), (0, 60), (0, 70)] [] [19, 20, 21, 29] [] t (uI (uI (uI (uI (uI (uI t 0 42 0) 0 70 0) 0 47 0) 0 48 0) 0 45 0) 0 52 0) := frA_I hfr 0 52 _ rfl
  refine lv_aload_n C.1 C.2.1 dX12_clearAssembling_30 rfl (lv_at hl 0 rfl) ?_
  refine lv_iconst (v := 0) C.1 C.2.1 dX12_clearAssembling_31 (by decide) ?_
  refine k_put (ws' := WM K ad (uI (uI (uI (uI (uI (uI (uI t 0 42 0) 0 70 0) 0 47 0) 0 48 0) 0 45 0) 0 52 0) 0 60 0)) (v := .int 0) C hP hD hS 0 rfl rfl inlX12 tyX12_ok nmX12 60 (by decide) m_30_18 rfl rfl rfl rfl rfl dX12_clearAssembling_32 (fun H locs hP hD hS => ?_)
  have hok : okM (uI (uI (uI (uI (uI (uI (uI t 0 42 0) 0 70 0) 0 47 0) 0 48 0) 0 45 0) 0 52 0) 0 60 0) := ⟨okI_I hok.1 0 60 0 (show (0 : Int) ≤ (0 : Int32).toInt ∧ (0 : Int32).toInt ≤ 1200 from ⟨by decide, by decide⟩), hok.2.1, hok.2.2.1, hok.2.2.2.1, hok.2.2.2.2.1, hok.2.2.2.2.2.1, hok.2.2.2.2.2.2.1, trivial⟩
  have hfr : frA [(0, 41), (0, 42), (0, 45), (0, 47), (0, 48), (0, 52), (0, 60), (0, 70)] [] [19, 20, 21, 29] [] t (uI (uI (uI (uI (uI (uI (uI t 0 42 0) 0 70 0) 0 47 0) 0 48 0) 0 45 0) 0 52 0) 0 60 0) := frA_I hfr 0 60 _ rfl
  refine lv_iconst (v := 0) C.1 C.2.1 dX12_clearAssembling_35 (by decide) ?_
  refine lv_istore_n (lv' := [(1, .int 0), (0, .ref (ad 0))]) C.1 C.2.1 dX12_clearAssembling_36 rfl hl (by decide) rfl (fun ls hl => ?_)
  have hl : lv_has ls 2 [(0, .ref (ad 0)), (1, .int 0)] := lv_sub hl [1, 0] rfl
  exact L_37 8000 (uI (uI (uI (uI (uI (uI (uI t 0 42 0) 0 70 0) 0 47 0) 0 48 0) 0 45 0) 0 52 0) 0 60 0) 0 _ _ _ hok hfr ⟨by decide, by decide⟩ (show (0 : Int) ≤ (0 : Int32).toInt ∧ (0 : Int32).toInt ≤ 0 from ⟨by decide, by decide⟩) (show (0 : Int) ≤ (0 : Int32).toInt ∧ (0 : Int32).toInt ≤ 0 from ⟨by decide, by decide⟩) (show (0 : Int) ≤ (0 : Int32).toInt ∧ (0 : Int32).toInt ≤ 0 from ⟨by decide, by decide⟩) (show (0 : Int) ≤ (0 : Int32).toInt ∧ (0 : Int32).toInt ≤ 0 from ⟨by decide, by decide⟩) (show (0 : Int) ≤ (0 : Int32).toInt ∧ (0 : Int32).toInt ≤ 0 from ⟨by decide, by decide⟩) (show (0 : Int) ≤ (0 : Int32).toInt ∧ (0 : Int32).toInt ≤ 0 from ⟨by decide, by decide⟩) (show (0 : Int) ≤ (0 : Int32).toInt ∧ (0 : Int32).toInt ≤ 0 from ⟨by decide, by decide⟩) (show 0 = 0 from by omega) (show 0 = 0 from by omega) (show 0 = 0 from by omega) (show (7999 : Int) - 0 < ((8000 : Nat) : Int) from by omega) hP hD hS (lv_sub hl [0, 1] rfl)

theorem dX12_sayError_0 : decode cX12_sayError 0 = .ok (.aload_n 0, 1) := by decide +kernel
theorem dX12_sayError_1 : decode cX12_sayError 1 = .ok (.invokevirtual 263, 3) := by decide +kernel
theorem dX12_sayError_10 : decode cX12_sayError 10 = .ok (.iadd, 1) := by decide +kernel
theorem dX12_sayError_11 : decode cX12_sayError 11 = .ok (.i2l, 1) := by decide +kernel
theorem dX12_sayError_12 : decode cX12_sayError 12 = .ok (.iconst 4, 1) := by decide +kernel
theorem dX12_sayError_13 : decode cX12_sayError 13 = .ok (.invokevirtual 199, 3) := by decide +kernel
theorem dX12_sayError_16 : decode cX12_sayError 16 = .ok (.aload_n 0, 1) := by decide +kernel
theorem dX12_sayError_17 : decode cX12_sayError 17 = .ok (.bipush 6, 2) := by decide +kernel
theorem dX12_sayError_19 : decode cX12_sayError 19 = .ok (.invokevirtual 667, 3) := by decide +kernel
theorem dX12_sayError_22 : decode cX12_sayError 22 = .ok (.aload_n 0, 1) := by decide +kernel
theorem dX12_sayError_23 : decode cX12_sayError 23 = .ok (.aload_n 0, 1) := by decide +kernel
theorem dX12_sayError_24 : decode cX12_sayError 24 = .ok (.getfield 469, 3) := by decide +kernel
theorem dX12_sayError_27 : decode cX12_sayError 27 = .ok (.i2l, 1) := by decide +kernel
theorem dX12_sayError_28 : decode cX12_sayError 28 = .ok (.iconst 1, 1) := by decide +kernel
theorem dX12_sayError_29 : decode cX12_sayError 29 = .ok (.invokevirtual 199, 3) := by decide +kernel
theorem dX12_sayError_32 : decode cX12_sayError 32 = .ok (.aload_n 0, 1) := by decide +kernel
theorem dX12_sayError_33 : decode cX12_sayError 33 = .ok (.bipush 8, 2) := by decide +kernel
theorem dX12_sayError_35 : decode cX12_sayError 35 = .ok (.invokevirtual 667, 3) := by decide +kernel
theorem dX12_sayError_38 : decode cX12_sayError 38 = .ok (.iconst 1, 1) := by decide +kernel
theorem dX12_sayError_39 : decode cX12_sayError 39 = .ok (.istore_n 1, 1) := by decide +kernel
theorem dX12_sayError_4 : decode cX12_sayError 4 = .ok (.aload_n 0, 1) := by decide +kernel
theorem dX12_sayError_40 : decode cX12_sayError 40 = .ok (.iload_n 1, 1) := by decide +kernel
theorem dX12_sayError_41 : decode cX12_sayError 41 = .ok (.bipush 81, 2) := by decide +kernel
theorem dX12_sayError_43 : decode cX12_sayError 43 = .ok (.if_icmp .ge 27, 3) := by decide +kernel
theorem dX12_sayError_46 : decode cX12_sayError 46 = .ok (.aload_n 0, 1) := by decide +kernel
theorem dX12_sayError_47 : decode cX12_sayError 47 = .ok (.getfield 469, 3) := by decide +kernel
theorem dX12_sayError_5 : decode cX12_sayError 5 = .ok (.aload_n 0, 1) := by decide +kernel
theorem dX12_sayError_50 : decode cX12_sayError 50 = .ok (.bipush 7, 2) := by decide +kernel
theorem dX12_sayError_52 : decode cX12_sayError 52 = .ok (.if_icmp .eq 18, 3) := by decide +kernel
theorem dX12_sayError_55 : decode cX12_sayError 55 = .ok (.aload_n 0, 1) := by decide +kernel
theorem dX12_sayError_56 : decode cX12_sayError 56 = .ok (.aload_n 0, 1) := by decide +kernel
theorem dX12_sayError_57 : decode cX12_sayError 57 = .ok (.iload_n 1, 1) := by decide +kernel
theorem dX12_sayError_58 : decode cX12_sayError 58 = .ok (.invokevirtual 446, 3) := by decide +kernel
theorem dX12_sayError_6 : decode cX12_sayError 6 = .ok (.getfield 443, 3) := by decide +kernel
theorem dX12_sayError_61 : decode cX12_sayError 61 = .ok (.invokevirtual 189, 3) := by decide +kernel
theorem dX12_sayError_64 : decode cX12_sayError 64 = .ok (.iinc 1 1, 3) := by decide +kernel
theorem dX12_sayError_67 : decode cX12_sayError 67 = .ok (.goto (-27), 3) := by decide +kernel
theorem dX12_sayError_70 : decode cX12_sayError 70 = .ok (.aload_n 0, 1) := by decide +kernel
theorem dX12_sayError_71 : decode cX12_sayError 71 = .ok (.bipush 18, 2) := by decide +kernel
theorem dX12_sayError_73 : decode cX12_sayError 73 = .ok (.invokevirtual 269, 3) := by decide +kernel
theorem dX12_sayError_76 : decode cX12_sayError 76 = .ok (.return_, 1) := by decide +kernel
theorem dX12_sayError_9 : decode cX12_sayError 9 = .ok (.iconst 1, 1) := by decide +kernel
set_option maxHeartbeats 4000000 in
set_option maxRecDepth 100000 in
theorem T_X12_sayError (l : Launch) (D : va_G) (K : Nat → ClassId) (Z Y : Nat → Nat) (ad : Nat → Nat) (t : tSt) (hok : okM t)  : tMet l yX12_sayError cX12_sayError 2 none (rmD 8 0 0) D K Z Y [.ref (ad 0)] (WM K ad t) (QV D K (fun (u : tSt) => okM u ∧ frA [(0, 30)] [] [11, 12, 13, 14] [] t u) (fun (u : tSt) => WM K ad u)) 0 0 := by
  refine t_met RX12 ⟨rfl, by decide +kernel⟩ (Nat.le_of_ble_eq_true rfl) ?_
  intro p e s m below meth c A ls C hE hZ hr hlocks hA hP hD hS hl
  have hl : lv_has ls 2 [(0, .ref (ad 0))] := hl
  have hokt := hok
  have hfr : frA [(0, 30)] [] [11, 12, 13, 14] [] t t := frA_rf
  have h_1 : (0 : Int) ≤ (t.1 0 30).toInt ∧ (t.1 0 30).toInt ≤ 120 := hok.1 0 30
  have h_2 : (0 : Int) ≤ (t.1 0 67).toInt ∧ (t.1 0 67).toInt ≤ 1281 := hok.1 0 67
  have L_40 : ∀ (fuel_40 : Nat) (t1 : tSt) (w40_1 : Int32) (H : Heap) (locs : List Loc) (ls : Array Slot), okM t1 → frA [(0, 30)] [] [11, 12, 13, 14] [] t t1 → (1 : Int) ≤ w40_1.toInt ∧ w40_1.toInt ≤ 81 → ((t1.1 0 30).toInt ≤ 6 + w40_1.toInt) → (81 : Int) - w40_1.toInt < (fuel_40 : Int) → va_P D vwCl (WM K ad t1) H → va_D A (WM K ad t1) → va_S A s.heap H locs → lv_has ls 2 [(0, .ref (ad 0)), (1, .int w40_1)] → W p l e (rmD 8 0 0) s m [.ref (ad 0)].toArray below meth c H locs 0 0 (MQ below (QV D K (fun (u : tSt) => okM u ∧ frA [(0, 30)] [] [11, 12, 13, 14] [] t u) (fun (u : tSt) => WM K ad u) A) [.ref (ad 0)].toArray s 0 0 A) (F0 m 40 ls []) := by
    intro fuel_40
    induction fuel_40 with
    | zero =>
      intro t1 w40_1 H locs ls hok hfr hw40_1 hi40_0 hm40_40 hP hD hS hl
      have h_3 : (t1.1 0 67).toInt = (t.1 0 67).toInt := ti_eq (hfr.1 0 67 rfl)
      have e_4 : t1.2.2.1 19 = t.2.2.1 19 := hfr.2.2.1 19 rfl
      have e_5 : t1.2.2.1 20 = t.2.2.1 20 := hfr.2.2.1 20 rfl
      have h_6 : (0 : Int) ≤ (t1.1 0 30).toInt ∧ (t1.1 0 30).toInt ≤ 120 := hok.1 0 30
      have h_7 : (0 : Int) ≤ (t1.1 0 67).toInt ∧ (t1.1 0 67).toInt ≤ 1281 := hok.1 0 67
      exact absurd hm40_40 (by omega)
    | succ fuel_40 ih_40 =>
      intro t1 w40_1 H locs ls hok hfr hw40_1 hi40_0 hm40_40 hP hD hS hl
      have hm40_40 : (81 : Int) - w40_1.toInt < (fuel_40 : Int) + 1 := by omega
      have h_8 : (t1.1 0 67).toInt = (t.1 0 67).toInt := ti_eq (hfr.1 0 67 rfl)
      have e_9 : t1.2.2.1 19 = t.2.2.1 19 := hfr.2.2.1 19 rfl
      have e_10 : t1.2.2.1 20 = t.2.2.1 20 := hfr.2.2.1 20 rfl
      have h_11 : (0 : Int) ≤ (t1.1 0 30).toInt ∧ (t1.1 0 30).toInt ≤ 120 := hok.1 0 30
      have h_12 : (0 : Int) ≤ (t1.1 0 67).toInt ∧ (t1.1 0 67).toInt ≤ 1281 := hok.1 0 67
      refine lv_iload_n C.1 C.2.1 dX12_sayError_40 rfl (lv_at hl 1 rfl) ?_
      refine lv_bipush (v := 81) C.1 C.2.1 dX12_sayError_41 (by decide) ?_
      refine lv_icmp_ge (tgt := 70) C.1 C.2.1 dX12_sayError_43 (by decide) (fun c_13 => ?_) (fun c_13 => ?_)
      · replace c_13 : 81 ≤ w40_1.toInt := i_le c_13
        refine lv_aload_n C.1 C.2.1 dX12_sayError_70 rfl (lv_at hl 0 rfl) ?_
        refine lv_bipush (v := 18) C.1 C.2.1 dX12_sayError_71 (by decide) ?_
        refine g_Vv (As := [.int 18]) (rest := []) C hP hD hS hA (T_X12_print l D K Z Y ad t1 hok 18 (show (17 : Int) ≤ (18 : Int32).toInt ∧ (18 : Int32).toInt ≤ 19 from ⟨by decide, by decide⟩)) hE hZ (uwV m_42_21 m_42_22 m_42_23 m_1_5 m_43_0) (hdV 1 (by decide +kernel) rfl) ⟨Nat.le_of_ble_eq_true rfl, Nat.le_of_ble_eq_true rfl⟩ rfl rfl (ci := 11) (q0 := 0) rfl rfl rfl hl.1 (Nat.le_of_ble_eq_true rfl) dX12_sayError_73 ⟨Nat.le_of_ble_eq_true rfl, Nat.le_of_ble_eq_true rfl⟩ (fun t_14 H locs hw hP hD hS => ?_)
        obtain ⟨hok, f_16⟩ := hw
        have hfr : frA [(0, 30)] [] [11, 12, 13, 14] [] t t_14 := frA_tr hfr f_16 rfl
        have h_17 : (t_14.1 0 67).toInt = (t1.1 0 67).toInt := ti_eq (f_16.1 0 67 rfl)
        have e_18 : t_14.2.2.1 19 = t.2.2.1 19 := (f_16.2.2.1 19 rfl).trans (e_9)
        have e_19 : t_14.2.2.1 20 = t.2.2.1 20 := (f_16.2.2.1 20 rfl).trans (e_10)
        have h_20 : (0 : Int) ≤ (t_14.1 0 30).toInt ∧ (t_14.1 0 30).toInt ≤ 120 := hok.1 0 30
        have h_21 : (0 : Int) ≤ (t_14.1 0 67).toInt ∧ (t_14.1 0 67).toInt ≤ 1281 := hok.1 0 67
        exact g_vret C hr hlocks hP hD hS t_14 rfl ⟨hok, hfr⟩ (Nat.le_of_ble_eq_true rfl) (Nat.le_of_ble_eq_true rfl) dX12_sayError_76
      · replace c_13 : w40_1.toInt < 81 := i_nle c_13
        refine lv_aload_n C.1 C.2.1 dX12_sayError_46 rfl (lv_at hl 0 rfl) ?_
        have h_22 : (0 : Int) ≤ (t1.1 0 70).toInt ∧ (t1.1 0 70).toInt ≤ 8 := hok.1 0 70
        refine k_get (v := .int (t1.1 0 70)) C hP 0 rfl rfl inlX12 70 (by decide) m_29_13 rfl dX12_sayError_47 ?_
        refine lv_bipush (v := 7) C.1 C.2.1 dX12_sayError_50 (by decide) ?_
        refine lv_icmp_eq (tgt := 70) C.1 C.2.1 dX12_sayError_52 (by decide) (fun c_23 => ?_) (fun c_23 => ?_)
        · replace c_23 : (t1.1 0 70).toInt = 7 := i_eq c_23
          refine lv_aload_n C.1 C.2.1 dX12_sayError_70 rfl (lv_at hl 0 rfl) ?_
          refine lv_bipush (v := 18) C.1 C.2.1 dX12_sayError_71 (by decide) ?_
          refine g_Vv (As := [.int 18]) (rest := []) C hP hD hS hA (T_X12_print l D K Z Y ad t1 hok 18 (show (17 : Int) ≤ (18 : Int32).toInt ∧ (18 : Int32).toInt ≤ 19 from ⟨by decide, by decide⟩)) hE hZ (uwV m_42_21 m_42_22 m_42_23 m_1_5 m_43_0) (hdV 1 (by decide +kernel) rfl) ⟨Nat.le_of_ble_eq_true rfl, Nat.le_of_ble_eq_true rfl⟩ rfl rfl (ci := 11) (q0 := 0) rfl rfl rfl hl.1 (Nat.le_of_ble_eq_true rfl) dX12_sayError_73 ⟨Nat.le_of_ble_eq_true rfl, Nat.le_of_ble_eq_true rfl⟩ (fun t_24 H locs hw hP hD hS => ?_)
          obtain ⟨hok, f_26⟩ := hw
          have hfr : frA [(0, 30)] [] [11, 12, 13, 14] [] t t_24 := frA_tr hfr f_26 rfl
          have h_27 : (t_24.1 0 70).toInt = (t1.1 0 70).toInt := ti_eq (f_26.1 0 70 rfl)
          have h_28 : (t_24.1 0 67).toInt = (t1.1 0 67).toInt := ti_eq (f_26.1 0 67 rfl)
          have e_29 : t_24.2.2.1 19 = t.2.2.1 19 := (f_26.2.2.1 19 rfl).trans (e_9)
          have e_30 : t_24.2.2.1 20 = t.2.2.1 20 := (f_26.2.2.1 20 rfl).trans (e_10)
          have h_31 : (0 : Int) ≤ (t_24.1 0 30).toInt ∧ (t_24.1 0 30).toInt ≤ 120 := hok.1 0 30
          have h_32 : (0 : Int) ≤ (t_24.1 0 67).toInt ∧ (t_24.1 0 67).toInt ≤ 1281 := hok.1 0 67
          exact g_vret C hr hlocks hP hD hS t_24 rfl ⟨hok, hfr⟩ (Nat.le_of_ble_eq_true rfl) (Nat.le_of_ble_eq_true rfl) dX12_sayError_76
        · replace c_23 : ¬ (t1.1 0 70).toInt = 7 := i_ne c_23
          refine lv_aload_n C.1 C.2.1 dX12_sayError_55 rfl (lv_at hl 0 rfl) ?_
          refine lv_aload_n C.1 C.2.1 dX12_sayError_56 rfl (lv_at hl 0 rfl) ?_
          refine lv_iload_n C.1 C.2.1 dX12_sayError_57 rfl (lv_at hl 1 rfl) ?_
          refine g_Vi (As := [.int w40_1]) (rest := [.ref (ad 0)]) C hP hD hS hA (T_X12_letterAt l D K Z Y ad t1 hok (w40_1) (show (1 : Int) ≤ (w40_1 : Int32).toInt ∧ (w40_1 : Int32).toInt ≤ 100 from ⟨by omega, by omega⟩)) hE hZ (uwV m_31_8 m_31_9 m_31_10 m_1_5 m_31_11) (hdV 1 (by decide +kernel) rfl) ⟨Nat.le_of_ble_eq_true rfl, Nat.le_of_ble_eq_true rfl⟩ rfl rfl (ci := 11) (q0 := 0) rfl rfl rfl hl.1 (Nat.le_of_ble_eq_true rfl) dX12_sayError_58 ⟨Nat.le_of_ble_eq_true rfl, Nat.le_of_ble_eq_true rfl⟩ (fun r_34 t_33 H locs hw hP hD hS => ?_)
          obtain ⟨h_36, h_37, p_38, p_39, p_40, p_41⟩ := hw
          replace p_38 : r_34 = fLet t1 w40_1 := p_38
          replace p_39 : r_34.toInt = (fLet t1 w40_1).toInt := p_39
          replace p_40 : ¬ r_34.toInt = 32 → (t1.2.2.1 19 ((t1.1 0 67) : Int32).toNatClampNeg).toInt + w40_1.toInt ≤ (t1.2.2.1 20 ((t1.1 0 67) : Int32).toNatClampNeg).toInt := p_40
          have h_42 : (t1.2.2.1 19 ((t1.1 0 67) : Int32).toNatClampNeg).toInt = (t.2.2.1 19 ((t1.1 0 67) : Int32).toNatClampNeg).toInt := tb_eq e_9 _
          have h_43 : (t1.2.2.1 20 ((t1.1 0 67) : Int32).toNatClampNeg).toInt = (t.2.2.1 20 ((t1.1 0 67) : Int32).toNatClampNeg).toInt := tb_eq e_10 _
          replace p_41 : 81 ≤ w40_1.toInt → r_34.toInt = 32 := p_41
          refine g_Vv (As := [.int r_34]) (rest := []) C hP hD hS hA (T_X12_say l D K Z Y ad t1 hok (r_34) (show (t1.1 0 30).toInt ≤ 119 from by omega)) hE hZ (uwV m_42_13 m_42_14 m_42_15 m_1_5 m_42_16) (hdV 1 (by decide +kernel) rfl) ⟨Nat.le_of_ble_eq_true rfl, Nat.le_of_ble_eq_true rfl⟩ rfl rfl (ci := 11) (q0 := 0) rfl rfl rfl hl.1 (Nat.le_of_ble_eq_true rfl) dX12_sayError_61 ⟨Nat.le_of_ble_eq_true rfl, Nat.le_of_ble_eq_true rfl⟩ (fun t_44 H locs hw hP hD hS => ?_)
          obtain ⟨hok, f_46, p_47⟩ := hw
          have hfr : frA [(0, 30)] [] [11, 12, 13, 14] [] t t_44 := frA_tr hfr f_46 rfl
          have h_48 : (t_44.1 0 70).toInt = (t1.1 0 70).toInt := ti_eq (f_46.1 0 70 rfl)
          have h_49 : (t_44.1 0 67).toInt = (t1.1 0 67).toInt := ti_eq (f_46.1 0 67 rfl)
          have e_50 : t_44.2.2.1 19 = t.2.2.1 19 := (f_46.2.2.1 19 rfl).trans (e_9)
          have e_51 : t_44.2.2.1 20 = t.2.2.1 20 := (f_46.2.2.1 20 rfl).trans (e_10)
          have h_52 : (0 : Int) ≤ (t_44.1 0 30).toInt ∧ (t_44.1 0 30).toInt ≤ 120 := hok.1 0 30
          have h_53 : (0 : Int) ≤ (t_44.1 0 67).toInt ∧ (t_44.1 0 67).toInt ≤ 1281 := hok.1 0 67
          replace p_47 : (t_44.1 0 30).toInt = (t1.1 0 30).toInt + 1 := p_47
          obtain ⟨v_54, e_55⟩ : ∃ z, z = w40_1 + 1 := ⟨_, rfl⟩
          have h_56 : v_54.toInt = w40_1.toInt + 1 := by rw [e_55]; exact ti_iadd (by show (_ : Int) ≤ w40_1.toInt + 1; omega) (by show w40_1.toInt + 1 < (_ : Int); omega)
          refine lv_iinc (v := v_54) (lv' := [(1, .int v_54), (0, .ref (ad 0))]) C.1 C.2.1 dX12_sayError_64 hl (k := 1) rfl e_55.symm (by decide) rfl (fun ls hl => ?_)
          have hl : lv_has ls 2 [(0, .ref (ad 0)), (1, .int v_54)] := lv_sub hl [1, 0] rfl
          refine lv_goto (tgt := 40) C.1 C.2.1 dX12_sayError_67 (by decide) ?_
          exact ih_40 t_44 v_54 _ _ _ hok hfr ⟨by omega, by omega⟩ (show (t_44.1 0 30).toInt ≤ 6 + v_54.toInt from by omega) (show (81 : Int) - v_54.toInt < (fuel_40 : Int) from by omega) hP hD hS (lv_sub hl [0, 1] rfl)
  refine lv_aload_n C.1 C.2.1 dX12_sayError_0 rfl (lv_at hl 0 rfl) ?_
  refine g_Vv (As := []) (rest := []) C hP hD hS hA (T_X12_begin l D K Z Y ad t hok ) hE hZ (uwV m_42_4 m_42_5 m_42_6 m_1_5 m_42_7) (hdV 0 (by decide +kernel) rfl) ⟨Nat.le_of_ble_eq_true rfl, Nat.le_of_ble_eq_true rfl⟩ rfl rfl (ci := 11) (q0 := 0) rfl rfl rfl hl.1 (Nat.le_of_ble_eq_true rfl) dX12_sayError_1 ⟨Nat.le_of_ble_eq_true rfl, Nat.le_of_ble_eq_true rfl⟩ (fun t_57 H locs hw hP hD hS => ?_)
  obtain ⟨hok, f_59, p_60⟩ := hw
  have hfr : frA [(0, 30)] [] [11, 12, 13, 14] [] t t_57 := frA_tr hfr f_59 rfl
  have h_61 : (t_57.1 0 67).toInt = (t.1 0 67).toInt := ti_eq (f_59.1 0 67 rfl)
  have e_62 : t_57.2.2.1 19 = t.2.2.1 19 := f_59.2.2.1 19 rfl
  have e_63 : t_57.2.2.1 20 = t.2.2.1 20 := f_59.2.2.1 20 rfl
  have h_64 : (0 : Int) ≤ (t_57.1 0 30).toInt ∧ (t_57.1 0 30).toInt ≤ 120 := hok.1 0 30
  have h_65 : (0 : Int) ≤ (t_57.1 0 67).toInt ∧ (t_57.1 0 67).toInt ≤ 1281 := hok.1 0 67
  replace p_60 : (t_57.1 0 30).toInt = 0 := p_60
  refine lv_aload_n C.1 C.2.1 dX12_sayError_4 rfl (lv_at hl 0 rfl) ?_
  refine lv_aload_n C.1 C.2.1 dX12_sayError_5 rfl (lv_at hl 0 rfl) ?_
  refine k_get (v := .int (t_57.1 0 67)) C hP 0 rfl rfl inlX12 67 (by decide) m_29_11 rfl dX12_sayError_6 ?_
  refine lv_iconst (v := 1) C.1 C.2.1 dX12_sayError_9 (by decide) ?_
  obtain ⟨v_66, e_67⟩ : ∃ z, z = ((t_57.1 0 67) : Int32) + (1 : Int32) := ⟨_, rfl⟩
  have h_68 : v_66.toInt = (t_57.1 0 67).toInt + 1 := by rw [e_67]; exact ti_iadd (by show (_ : Int) ≤ (t_57.1 0 67).toInt + 1; omega) (by show (t_57.1 0 67).toInt + 1 < (_ : Int); omega)
  refine k_iadd (v := v_66) C e_67.symm dX12_sayError_10 ?_
  obtain ⟨v_69, e_70⟩ : ∃ z, z = (v_66 : Int32).toInt64 := ⟨_, rfl⟩
  have h_71 : v_69.toInt = v_66.toInt := by rw [e_70]; exact Jvm.Kit.i64_of_i32 _
  refine lv_i2l (v := v_69) C.1 C.2.1 dX12_sayError_11 e_70.symm ?_
  refine lv_iconst (v := 4) C.1 C.2.1 dX12_sayError_12 (by decide) ?_
  have h_72 : (4 : Int32).toInt = 4 := rfl
  refine g_Vv (As := [.long v_69, .int 4]) (rest := []) C hP hD hS hA (T_X12_sayDigits l D K Z Y ad t_57 hok (v_69) 4 (show (1 : Int) ≤ (4 : Int32).toInt ∧ (4 : Int32).toInt ≤ 10 from ⟨by decide, by decide⟩) (show (t_57.1 0 30).toInt + (4 : Int32).toInt ≤ 120 from by omega) (show 1 ≤ (4 : Int32).toInt from by omega) (show (4 : Int32).toInt ≤ 10 from by omega)) hE hZ (uwV m_42_9 m_42_10 m_42_11 m_1_5 m_42_12) (hdV 2 (by decide +kernel) rfl) ⟨Nat.le_of_ble_eq_true rfl, Nat.le_of_ble_eq_true rfl⟩ rfl rfl (ci := 11) (q0 := 0) rfl rfl rfl hl.1 (Nat.le_of_ble_eq_true rfl) dX12_sayError_13 ⟨Nat.le_of_ble_eq_true rfl, Nat.le_of_ble_eq_true rfl⟩ (fun t_73 H locs hw hP hD hS => ?_)
  obtain ⟨hok, f_75, p_76⟩ := hw
  have hfr : frA [(0, 30)] [] [11, 12, 13, 14] [] t t_73 := frA_tr hfr f_75 rfl
  have h_77 : (t_73.1 0 67).toInt = (t_57.1 0 67).toInt := ti_eq (f_75.1 0 67 rfl)
  have e_78 : t_73.2.2.1 19 = t.2.2.1 19 := (f_75.2.2.1 19 rfl).trans (e_62)
  have e_79 : t_73.2.2.1 20 = t.2.2.1 20 := (f_75.2.2.1 20 rfl).trans (e_63)
  have h_80 : (0 : Int) ≤ (t_73.1 0 30).toInt ∧ (t_73.1 0 30).toInt ≤ 120 := hok.1 0 30
  replace p_76 : (t_73.1 0 30).toInt = (t_57.1 0 30).toInt + (4 : Int32).toInt := p_76
  refine lv_aload_n C.1 C.2.1 dX12_sayError_16 rfl (lv_at hl 0 rfl) ?_
  refine lv_bipush (v := 6) C.1 C.2.1 dX12_sayError_17 (by decide) ?_
  have h_81 : (6 : Int32).toInt = 6 := rfl
  refine g_Vv (As := [.int 6]) (rest := []) C hP hD hS hA (T_X12_toColumn l D K Z Y ad t_73 hok 6 (show (2 : Int) ≤ (6 : Int32).toInt ∧ (6 : Int32).toInt ≤ 63 from ⟨by decide, by decide⟩) (show (6 : Int32).toInt ≤ 121 from by omega)) hE hZ (uwV m_42_17 m_42_18 m_42_19 m_1_5 m_42_20) (hdV 1 (by decide +kernel) rfl) ⟨Nat.le_of_ble_eq_true rfl, Nat.le_of_ble_eq_true rfl⟩ rfl rfl (ci := 11) (q0 := 0) rfl rfl rfl hl.1 (Nat.le_of_ble_eq_true rfl) dX12_sayError_19 ⟨Nat.le_of_ble_eq_true rfl, Nat.le_of_ble_eq_true rfl⟩ (fun t_82 H locs hw hP hD hS => ?_)
  obtain ⟨hok, f_84, p_85, p_86⟩ := hw
  have hfr : frA [(0, 30)] [] [11, 12, 13, 14] [] t t_82 := frA_tr hfr f_84 rfl
  have h_87 : (t_82.1 0 67).toInt = (t_73.1 0 67).toInt := ti_eq (f_84.1 0 67 rfl)
  have e_88 : t_82.2.2.1 19 = t.2.2.1 19 := (f_84.2.2.1 19 rfl).trans (e_78)
  have e_89 : t_82.2.2.1 20 = t.2.2.1 20 := (f_84.2.2.1 20 rfl).trans (e_79)
  have h_90 : (0 : Int) ≤ (t_82.1 0 30).toInt ∧ (t_82.1 0 30).toInt ≤ 120 := hok.1 0 30
  replace p_85 : (t_73.1 0 30).toInt ≤ (t_82.1 0 30).toInt := p_85
  replace p_86 : (t_82.1 0 30).toInt ≤ (t_73.1 0 30).toInt ∨ (t_82.1 0 30).toInt ≤ (6 : Int32).toInt - 1 := p_86
  refine lv_aload_n C.1 C.2.1 dX12_sayError_22 rfl (lv_at hl 0 rfl) ?_
  refine lv_aload_n C.1 C.2.1 dX12_sayError_23 rfl (lv_at hl 0 rfl) ?_
  have h_91 : (0 : Int) ≤ (t_82.1 0 70).toInt ∧ (t_82.1 0 70).toInt ≤ 8 := hok.1 0 70
  refine k_get (v := .int (t_82.1 0 70)) C hP 0 rfl rfl inlX12 70 (by decide) m_29_13 rfl dX12_sayError_24 ?_
  obtain ⟨v_92, e_93⟩ : ∃ z, z = ((t_82.1 0 70) : Int32).toInt64 := ⟨_, rfl⟩
  have h_94 : v_92.toInt = (t_82.1 0 70).toInt := by rw [e_93]; exact Jvm.Kit.i64_of_i32 _
  refine lv_i2l (v := v_92) C.1 C.2.1 dX12_sayError_27 e_93.symm ?_
  refine lv_iconst (v := 1) C.1 C.2.1 dX12_sayError_28 (by decide) ?_
  have h_95 : (1 : Int32).toInt = 1 := rfl
  refine g_Vv (As := [.long v_92, .int 1]) (rest := []) C hP hD hS hA (T_X12_sayDigits l D K Z Y ad t_82 hok (v_92) 1 (show (1 : Int) ≤ (1 : Int32).toInt ∧ (1 : Int32).toInt ≤ 10 from ⟨by decide, by decide⟩) (show (t_82.1 0 30).toInt + (1 : Int32).toInt ≤ 120 from by omega) (show 1 ≤ (1 : Int32).toInt from by omega) (show (1 : Int32).toInt ≤ 10 from by omega)) hE hZ (uwV m_42_9 m_42_10 m_42_11 m_1_5 m_42_12) (hdV 2 (by decide +kernel) rfl) ⟨Nat.le_of_ble_eq_true rfl, Nat.le_of_ble_eq_true rfl⟩ rfl rfl (ci := 11) (q0 := 0) rfl rfl rfl hl.1 (Nat.le_of_ble_eq_true rfl) dX12_sayError_29 ⟨Nat.le_of_ble_eq_true rfl, Nat.le_of_ble_eq_true rfl⟩ (fun t_96 H locs hw hP hD hS => ?_)
  obtain ⟨hok, f_98, p_99⟩ := hw
  have hfr : frA [(0, 30)] [] [11, 12, 13, 14] [] t t_96 := frA_tr hfr f_98 rfl
  have h_100 : (t_96.1 0 67).toInt = (t_82.1 0 67).toInt := ti_eq (f_98.1 0 67 rfl)
  have h_101 : (t_96.1 0 70).toInt = (t_82.1 0 70).toInt := ti_eq (f_98.1 0 70 rfl)
  have e_102 : t_96.2.2.1 19 = t.2.2.1 19 := (f_98.2.2.1 19 rfl).trans (e_88)
  have e_103 : t_96.2.2.1 20 = t.2.2.1 20 := (f_98.2.2.1 20 rfl).trans (e_89)
  have h_104 : (0 : Int) ≤ (t_96.1 0 30).toInt ∧ (t_96.1 0 30).toInt ≤ 120 := hok.1 0 30
  replace p_99 : (t_96.1 0 30).toInt = (t_82.1 0 30).toInt + (1 : Int32).toInt := p_99
  refine lv_aload_n C.1 C.2.1 dX12_sayError_32 rfl (lv_at hl 0 rfl) ?_
  refine lv_bipush (v := 8) C.1 C.2.1 dX12_sayError_33 (by decide) ?_
  have h_105 : (8 : Int32).toInt = 8 := rfl
  refine g_Vv (As := [.int 8]) (rest := []) C hP hD hS hA (T_X12_toColumn l D K Z Y ad t_96 hok 8 (show (2 : Int) ≤ (8 : Int32).toInt ∧ (8 : Int32).toInt ≤ 63 from ⟨by decide, by decide⟩) (show (8 : Int32).toInt ≤ 121 from by omega)) hE hZ (uwV m_42_17 m_42_18 m_42_19 m_1_5 m_42_20) (hdV 1 (by decide +kernel) rfl) ⟨Nat.le_of_ble_eq_true rfl, Nat.le_of_ble_eq_true rfl⟩ rfl rfl (ci := 11) (q0 := 0) rfl rfl rfl hl.1 (Nat.le_of_ble_eq_true rfl) dX12_sayError_35 ⟨Nat.le_of_ble_eq_true rfl, Nat.le_of_ble_eq_true rfl⟩ (fun t_106 H locs hw hP hD hS => ?_)
  obtain ⟨hok, f_108, p_109, p_110⟩ := hw
  have hfr : frA [(0, 30)] [] [11, 12, 13, 14] [] t t_106 := frA_tr hfr f_108 rfl
  have h_111 : (t_106.1 0 67).toInt = (t_96.1 0 67).toInt := ti_eq (f_108.1 0 67 rfl)
  have h_112 : (t_106.1 0 70).toInt = (t_96.1 0 70).toInt := ti_eq (f_108.1 0 70 rfl)
  have e_113 : t_106.2.2.1 19 = t.2.2.1 19 := (f_108.2.2.1 19 rfl).trans (e_102)
  have e_114 : t_106.2.2.1 20 = t.2.2.1 20 := (f_108.2.2.1 20 rfl).trans (e_103)
  have h_115 : (0 : Int) ≤ (t_106.1 0 30).toInt ∧ (t_106.1 0 30).toInt ≤ 120 := hok.1 0 30
  replace p_109 : (t_96.1 0 30).toInt ≤ (t_106.1 0 30).toInt := p_109
  replace p_110 : (t_106.1 0 30).toInt ≤ (t_96.1 0 30).toInt ∨ (t_106.1 0 30).toInt ≤ (8 : Int32).toInt - 1 := p_110
  refine lv_iconst (v := 1) C.1 C.2.1 dX12_sayError_38 (by decide) ?_
  refine lv_istore_n (lv' := [(1, .int 1), (0, .ref (ad 0))]) C.1 C.2.1 dX12_sayError_39 rfl hl (by decide) rfl (fun ls hl => ?_)
  have hl : lv_has ls 2 [(0, .ref (ad 0)), (1, .int 1)] := lv_sub hl [1, 0] rfl
  exact L_40 81 t_106 1 _ _ _ hok hfr ⟨by decide, by decide⟩ (show (t_106.1 0 30).toInt ≤ 6 + 1 from by omega) (show (81 : Int) - 1 < ((81 : Nat) : Int) from by omega) hP hD hS (lv_sub hl [0, 1] rfl)

theorem dX12_punchCards_0 : decode cX12_punchCards 0 = .ok (.iconst 0, 1) := by decide +kernel
theorem dX12_punchCards_1 : decode cX12_punchCards 1 = .ok (.istore_n 1, 1) := by decide +kernel
theorem dX12_punchCards_102 : decode cX12_punchCards 102 = .ok (.ifCond .ge 7, 3) := by decide +kernel
theorem dX12_punchCards_105 : decode cX12_punchCards 105 = .ok (.iconst 0, 1) := by decide +kernel
theorem dX12_punchCards_106 : decode cX12_punchCards 106 = .ok (.goto 7, 3) := by decide +kernel
theorem dX12_punchCards_109 : decode cX12_punchCards 109 = .ok (.aload_n 0, 1) := by decide +kernel
theorem dX12_punchCards_11 : decode cX12_punchCards 11 = .ok (.iconst 0, 1) := by decide +kernel
theorem dX12_punchCards_110 : decode cX12_punchCards 110 = .ok (.getfield 602, 3) := by decide +kernel
theorem dX12_punchCards_113 : decode cX12_punchCards 113 = .ok (.invokevirtual 679, 3) := by decide +kernel
theorem dX12_punchCards_116 : decode cX12_punchCards 116 = .ok (.aload_n 0, 1) := by decide +kernel
theorem dX12_punchCards_117 : decode cX12_punchCards 117 = .ok (.bipush 17, 2) := by decide +kernel
theorem dX12_punchCards_119 : decode cX12_punchCards 119 = .ok (.invokevirtual 269, 3) := by decide +kernel
theorem dX12_punchCards_12 : decode cX12_punchCards 12 = .ok (.istore_n 3, 1) := by decide +kernel
theorem dX12_punchCards_122 : decode cX12_punchCards 122 = .ok (.iload_n 1, 1) := by decide +kernel
theorem dX12_punchCards_123 : decode cX12_punchCards 123 = .ok (.iconst 1, 1) := by decide +kernel
theorem dX12_punchCards_124 : decode cX12_punchCards 124 = .ok (.iadd, 1) := by decide +kernel
theorem dX12_punchCards_125 : decode cX12_punchCards 125 = .ok (.ireturn, 1) := by decide +kernel
theorem dX12_punchCards_13 : decode cX12_punchCards 13 = .ok (.iload_n 3, 1) := by decide +kernel
theorem dX12_punchCards_14 : decode cX12_punchCards 14 = .ok (.bipush 7, 2) := by decide +kernel
theorem dX12_punchCards_16 : decode cX12_punchCards 16 = .ok (.if_icmp .ge 19, 3) := by decide +kernel
theorem dX12_punchCards_19 : decode cX12_punchCards 19 = .ok (.aload_n 0, 1) := by decide +kernel
theorem dX12_punchCards_2 : decode cX12_punchCards 2 = .ok (.iconst 0, 1) := by decide +kernel
theorem dX12_punchCards_20 : decode cX12_punchCards 20 = .ok (.iload_n 2, 1) := by decide +kernel
theorem dX12_punchCards_21 : decode cX12_punchCards 21 = .ok (.iload_n 3, 1) := by decide +kernel
theorem dX12_punchCards_22 : decode cX12_punchCards 22 = .ok (.iadd, 1) := by decide +kernel
theorem dX12_punchCards_23 : decode cX12_punchCards 23 = .ok (.invokevirtual 676, 3) := by decide +kernel
theorem dX12_punchCards_26 : decode cX12_punchCards 26 = .ok (.ifCond .eq 9, 3) := by decide +kernel
theorem dX12_punchCards_29 : decode cX12_punchCards 29 = .ok (.iinc 3 1, 3) := by decide +kernel
theorem dX12_punchCards_3 : decode cX12_punchCards 3 = .ok (.istore_n 2, 1) := by decide +kernel
theorem dX12_punchCards_32 : decode cX12_punchCards 32 = .ok (.goto (-19), 3) := by decide +kernel
theorem dX12_punchCards_35 : decode cX12_punchCards 35 = .ok (.iload_n 3, 1) := by decide +kernel
theorem dX12_punchCards_36 : decode cX12_punchCards 36 = .ok (.ifCond .le 45, 3) := by decide +kernel
theorem dX12_punchCards_39 : decode cX12_punchCards 39 = .ok (.aload_n 0, 1) := by decide +kernel
theorem dX12_punchCards_4 : decode cX12_punchCards 4 = .ok (.iload_n 2, 1) := by decide +kernel
theorem dX12_punchCards_40 : decode cX12_punchCards 40 = .ok (.iload_n 3, 1) := by decide +kernel
theorem dX12_punchCards_41 : decode cX12_punchCards 41 = .ok (.iload_n 2, 1) := by decide +kernel
theorem dX12_punchCards_42 : decode cX12_punchCards 42 = .ok (.invokevirtual 679, 3) := by decide +kernel
theorem dX12_punchCards_45 : decode cX12_punchCards 45 = .ok (.iconst 0, 1) := by decide +kernel
theorem dX12_punchCards_46 : decode cX12_punchCards 46 = .ok (.istore 4, 2) := by decide +kernel
theorem dX12_punchCards_48 : decode cX12_punchCards 48 = .ok (.iload 4, 2) := by decide +kernel
theorem dX12_punchCards_5 : decode cX12_punchCards 5 = .ok (.sipush 3999, 3) := by decide +kernel
theorem dX12_punchCards_50 : decode cX12_punchCards 50 = .ok (.iload_n 3, 1) := by decide +kernel
theorem dX12_punchCards_51 : decode cX12_punchCards 51 = .ok (.if_icmp .ge 21, 3) := by decide +kernel
theorem dX12_punchCards_54 : decode cX12_punchCards 54 = .ok (.aload_n 0, 1) := by decide +kernel
theorem dX12_punchCards_55 : decode cX12_punchCards 55 = .ok (.aload_n 0, 1) := by decide +kernel
theorem dX12_punchCards_56 : decode cX12_punchCards 56 = .ok (.iload_n 2, 1) := by decide +kernel
theorem dX12_punchCards_57 : decode cX12_punchCards 57 = .ok (.iload 4, 2) := by decide +kernel
theorem dX12_punchCards_59 : decode cX12_punchCards 59 = .ok (.iadd, 1) := by decide +kernel
theorem dX12_punchCards_60 : decode cX12_punchCards 60 = .ok (.invokevirtual 260, 3) := by decide +kernel
theorem dX12_punchCards_63 : decode cX12_punchCards 63 = .ok (.invokevirtual 682, 3) := by decide +kernel
theorem dX12_punchCards_66 : decode cX12_punchCards 66 = .ok (.iinc 4 1, 3) := by decide +kernel
theorem dX12_punchCards_69 : decode cX12_punchCards 69 = .ok (.goto (-21), 3) := by decide +kernel
theorem dX12_punchCards_72 : decode cX12_punchCards 72 = .ok (.aload_n 0, 1) := by decide +kernel
theorem dX12_punchCards_73 : decode cX12_punchCards 73 = .ok (.bipush 17, 2) := by decide +kernel
theorem dX12_punchCards_75 : decode cX12_punchCards 75 = .ok (.invokevirtual 269, 3) := by decide +kernel
theorem dX12_punchCards_78 : decode cX12_punchCards 78 = .ok (.iinc 1 1, 3) := by decide +kernel
theorem dX12_punchCards_8 : decode cX12_punchCards 8 = .ok (.if_icmp .gt 88, 3) := by decide +kernel
theorem dX12_punchCards_81 : decode cX12_punchCards 81 = .ok (.iload_n 2, 1) := by decide +kernel
theorem dX12_punchCards_82 : decode cX12_punchCards 82 = .ok (.iload_n 3, 1) := by decide +kernel
theorem dX12_punchCards_83 : decode cX12_punchCards 83 = .ok (.ifCond .le 7, 3) := by decide +kernel
theorem dX12_punchCards_86 : decode cX12_punchCards 86 = .ok (.iload_n 3, 1) := by decide +kernel
theorem dX12_punchCards_87 : decode cX12_punchCards 87 = .ok (.goto 4, 3) := by decide +kernel
theorem dX12_punchCards_90 : decode cX12_punchCards 90 = .ok (.iconst 1, 1) := by decide +kernel
theorem dX12_punchCards_91 : decode cX12_punchCards 91 = .ok (.iadd, 1) := by decide +kernel
theorem dX12_punchCards_92 : decode cX12_punchCards 92 = .ok (.istore_n 2, 1) := by decide +kernel
theorem dX12_punchCards_93 : decode cX12_punchCards 93 = .ok (.goto (-89), 3) := by decide +kernel
theorem dX12_punchCards_96 : decode cX12_punchCards 96 = .ok (.aload_n 0, 1) := by decide +kernel
theorem dX12_punchCards_97 : decode cX12_punchCards 97 = .ok (.iconst 0, 1) := by decide +kernel
theorem dX12_punchCards_98 : decode cX12_punchCards 98 = .ok (.aload_n 0, 1) := by decide +kernel
theorem dX12_punchCards_99 : decode cX12_punchCards 99 = .ok (.getfield 602, 3) := by decide +kernel
set_option maxHeartbeats 4000000 in
set_option maxRecDepth 100000 in
theorem T_X12_punchCards (l : Launch) (D : va_G) (K : Nat → ClassId) (Z Y : Nat → Nat) (ad : Nat → Nat) (t : tSt) (hok : okM t)  : tMet l yX12_punchCards cX12_punchCards 5 (some .int) (rmD 3 0 0) D K Z Y [.ref (ad 0)] (WM K ad t) (QI D K (fun (r : Int32) (u : tSt) => okM u ∧ frA [(0, 30)] [] [11, 12, 13, 14] [] t u ∧ (-2147483648 : Int) ≤ r.toInt ∧ r.toInt ≤ 2147483647) (fun (u : tSt) => WM K ad u)) 0 0 := by
  refine t_met RX12 ⟨rfl, by decide +kernel⟩ (Nat.le_of_ble_eq_true rfl) ?_
  intro p e s m below meth c A ls C hE hZ hr hlocks hA hP hD hS hl
  have hl : lv_has ls 5 [(0, .ref (ad 0))] := hl
  have hokt := hok
  have hfr : frA [(0, 30)] [] [11, 12, 13, 14] [] t t := frA_rf
  have h_1 : (0 : Int) ≤ (t.1 0 30).toInt ∧ (t.1 0 30).toInt ≤ 120 := hok.1 0 30
  have L_4 : ∀ (fuel_4 : Nat) (t1 : tSt) (w4_1 : Int32) (w4_2 : Int32) (H : Heap) (locs : List Loc) (ls : Array Slot), okM t1 → frA [(0, 30)] [] [11, 12, 13, 14] [] t t1 → (0 : Int) ≤ w4_2.toInt ∧ w4_2.toInt ≤ 4095 → (0 ≤ w4_2.toInt) → (w4_2.toInt ≤ 4006) → (4010 - w4_2.toInt) < (fuel_4 : Int) → va_P D vwCl (WM K ad t1) H → va_D A (WM K ad t1) → va_S A s.heap H locs → lv_has ls 5 [(0, .ref (ad 0)), (1, .int w4_1), (2, .int w4_2)] → W p l e (rmD 3 0 0) s m [.ref (ad 0)].toArray below meth c H locs 0 0 (MQ below (QI D K (fun (r : Int32) (u : tSt) => okM u ∧ frA [(0, 30)] [] [11, 12, 13, 14] [] t u ∧ (-2147483648 : Int) ≤ r.toInt ∧ r.toInt ≤ 2147483647) (fun (u : tSt) => WM K ad u) A) [.ref (ad 0)].toArray s 0 0 A) (F0 m 4 ls []) := by
    intro fuel_4
    induction fuel_4 with
    | zero =>
      intro t1 w4_1 w4_2 H locs ls hok hfr hw4_2 hi4_0 hi4_1 hm4_4 hP hD hS hl
      have h_2 : (0 : Int) ≤ (t1.1 0 30).toInt ∧ (t1.1 0 30).toInt ≤ 120 := hok.1 0 30
      exact absurd hm4_4 (by omega)
    | succ fuel_4 ih_4 =>
      intro t1 w4_1 w4_2 H locs ls hok hfr hw4_2 hi4_0 hi4_1 hm4_4 hP hD hS hl
      have hm4_4 : (4010 - w4_2.toInt) < (fuel_4 : Int) + 1 := by omega
      have h_3 : (0 : Int) ≤ (t1.1 0 30).toInt ∧ (t1.1 0 30).toInt ≤ 120 := hok.1 0 30
      have L_81 : ∀ (t1 : tSt) (w81_1 : Int32) (w81_2 : Int32) (w81_3 : Int32) (H : Heap) (locs : List Loc) (ls : Array Slot), okM t1 → frA [(0, 30)] [] [11, 12, 13, 14] [] t t1 → (0 : Int) ≤ w81_2.toInt ∧ w81_2.toInt ≤ 3999 → (0 : Int) ≤ w81_3.toInt ∧ w81_3.toInt ≤ 7 → (0 ≤ w81_2.toInt) → (w81_2.toInt ≤ 3999) → (0 ≤ w81_3.toInt) → (w81_3.toInt ≤ 7) → (w81_3.toInt = 0 ∨ w81_2.toInt + w81_3.toInt ≤ 4000) → (4010 - w81_2.toInt) < (fuel_4 : Int) + 1 → va_P D vwCl (WM K ad t1) H → va_D A (WM K ad t1) → va_S A s.heap H locs → lv_has ls 5 [(0, .ref (ad 0)), (1, .int w81_1), (2, .int w81_2), (3, .int w81_3)] → W p l e (rmD 3 0 0) s m [.ref (ad 0)].toArray below meth c H locs 0 0 (MQ below (QI D K (fun (r : Int32) (u : tSt) => okM u ∧ frA [(0, 30)] [] [11, 12, 13, 14] [] t u ∧ (-2147483648 : Int) ≤ r.toInt ∧ r.toInt ≤ 2147483647) (fun (u : tSt) => WM K ad u) A) [.ref (ad 0)].toArray s 0 0 A) (F0 m 81 ls []) := by
        intro t1 w81_1 w81_2 w81_3 H locs ls hok hfr hw81_2 hw81_3 hi81_0 hi81_1 hi81_2 hi81_3 hi81_4 hm81_4 hP hD hS hl
        have h_4 : (0 : Int) ≤ (t1.1 0 30).toInt ∧ (t1.1 0 30).toInt ≤ 120 := hok.1 0 30
        refine lv_iload_n C.1 C.2.1 dX12_punchCards_81 rfl (lv_at hl 2 rfl) ?_
        refine lv_iload_n C.1 C.2.1 dX12_punchCards_82 rfl (lv_at hl 3 rfl) ?_
        refine lv_if_le (tgt := 90) C.1 C.2.1 dX12_punchCards_83 (by decide) (fun c_5 => ?_) (fun c_5 => ?_)
        · replace c_5 : w81_3.toInt ≤ 0 := i_le c_5
          refine lv_iconst (v := 1) C.1 C.2.1 dX12_punchCards_90 (by decide) ?_
          obtain ⟨v_6, e_7⟩ : ∃ z, z = (w81_2 : Int32) + (1 : Int32) := ⟨_, rfl⟩
          have h_8 : v_6.toInt = w81_2.toInt + 1 := by rw [e_7]; exact ti_iadd (by show (_ : Int) ≤ w81_2.toInt + 1; omega) (by show w81_2.toInt + 1 < (_ : Int); omega)
          refine k_iadd (v := v_6) C e_7.symm dX12_punchCards_91 ?_
          refine lv_istore_n (lv' := [(2, .int v_6), (0, .ref (ad 0)), (1, .int w81_1), (3, .int w81_3)]) C.1 C.2.1 dX12_punchCards_92 rfl hl (by decide) rfl (fun ls hl => ?_)
          have hl : lv_has ls 5 [(0, .ref (ad 0)), (1, .int w81_1), (2, .int v_6), (3, .int w81_3)] := lv_sub hl [1, 2, 0, 3] rfl
          refine lv_goto (tgt := 4) C.1 C.2.1 dX12_punchCards_93 (by decide) ?_
          exact ih_4 t1 w81_1 v_6 _ _ _ hok hfr ⟨by omega, by omega⟩ (show 0 ≤ v_6.toInt from by omega) (show v_6.toInt ≤ 4006 from by omega) (show (4010 - v_6.toInt) < (fuel_4 : Int) from by omega) hP hD hS (lv_sub hl [0, 1, 2] rfl)
        · replace c_5 : 0 < w81_3.toInt := i_nle c_5
          refine lv_iload_n C.1 C.2.1 dX12_punchCards_86 rfl (lv_at hl 3 rfl) ?_
          refine lv_goto (tgt := 91) C.1 C.2.1 dX12_punchCards_87 (by decide) ?_
          obtain ⟨v_9, e_10⟩ : ∃ z, z = (w81_2 : Int32) + (w81_3 : Int32) := ⟨_, rfl⟩
          have h_11 : v_9.toInt = w81_2.toInt + w81_3.toInt := by rw [e_10]; exact ti_iadd (by show (_ : Int) ≤ w81_2.toInt + w81_3.toInt; omega) (by show w81_2.toInt + w81_3.toInt < (_ : Int); omega)
          refine k_iadd (v := v_9) C e_10.symm dX12_punchCards_91 ?_
          refine lv_istore_n (lv' := [(2, .int v_9), (0, .ref (ad 0)), (1, .int w81_1), (3, .int w81_3)]) C.1 C.2.1 dX12_punchCards_92 rfl hl (by decide) rfl (fun ls hl => ?_)
          have hl : lv_has ls 5 [(0, .ref (ad 0)), (1, .int w81_1), (2, .int v_9), (3, .int w81_3)] := lv_sub hl [1, 2, 0, 3] rfl
          refine lv_goto (tgt := 4) C.1 C.2.1 dX12_punchCards_93 (by decide) ?_
          exact ih_4 t1 w81_1 v_9 _ _ _ hok hfr ⟨by omega, by omega⟩ (show 0 ≤ v_9.toInt from by omega) (show v_9.toInt ≤ 4006 from by omega) (show (4010 - v_9.toInt) < (fuel_4 : Int) from by omega) hP hD hS (lv_sub hl [0, 1, 2] rfl)
      have L_48 : ∀ (fuel_48 : Nat) (t1 : tSt) (w48_1 : Int32) (w48_2 : Int32) (w48_3 : Int32) (w48_4 : Int32) (H : Heap) (locs : List Loc) (ls : Array Slot), okM t1 → frA [(0, 30)] [] [11, 12, 13, 14] [] t t1 → (0 : Int) ≤ w48_2.toInt ∧ w48_2.toInt ≤ 3999 → (1 : Int) ≤ w48_3.toInt ∧ w48_3.toInt ≤ 7 → (0 : Int) ≤ w48_4.toInt ∧ w48_4.toInt ≤ 7 → (0 ≤ w48_2.toInt) → (w48_2.toInt ≤ 3999) → (0 ≤ w48_3.toInt) → (w48_3.toInt ≤ 7) → (w48_3.toInt = 0 ∨ w48_2.toInt + w48_3.toInt ≤ 4000) → ((t1.1 0 30).toInt ≤ 10 + 10 * w48_4.toInt) → (0 ≤ w48_4.toInt) → (w48_4.toInt ≤ w48_3.toInt) → (1 ≤ w48_3.toInt) → (4010 - w48_2.toInt) < (fuel_4 : Int) + 1 → (7 : Int) - w48_4.toInt < (fuel_48 : Int) → va_P D vwCl (WM K ad t1) H → va_D A (WM K ad t1) → va_S A s.heap H locs → lv_has ls 5 [(0, .ref (ad 0)), (1, .int w48_1), (2, .int w48_2), (3, .int w48_3), (4, .int w48_4)] → W p l e (rmD 3 0 0) s m [.ref (ad 0)].toArray below meth c H locs 0 0 (MQ below (QI D K (fun (r : Int32) (u : tSt) => okM u ∧ frA [(0, 30)] [] [11, 12, 13, 14] [] t u ∧ (-2147483648 : Int) ≤ r.toInt ∧ r.toInt ≤ 2147483647) (fun (u : tSt) => WM K ad u) A) [.ref (ad 0)].toArray s 0 0 A) (F0 m 48 ls []) := by
        intro fuel_48
        induction fuel_48 with
        | zero =>
          intro t1 w48_1 w48_2 w48_3 w48_4 H locs ls hok hfr hw48_2 hw48_3 hw48_4 hi48_0 hi48_1 hi48_2 hi48_3 hi48_4 hi48_5 hi48_6 hi48_7 hi48_8 hm48_4 hm48_48 hP hD hS hl
          have h_12 : (0 : Int) ≤ (t1.1 0 30).toInt ∧ (t1.1 0 30).toInt ≤ 120 := hok.1 0 30
          exact absurd hm48_48 (by omega)
        | succ fuel_48 ih_48 =>
          intro t1 w48_1 w48_2 w48_3 w48_4 H locs ls hok hfr hw48_2 hw48_3 hw48_4 hi48_0 hi48_1 hi48_2 hi48_3 hi48_4 hi48_5 hi48_6 hi48_7 hi48_8 hm48_4 hm48_48 hP hD hS hl
          have hm48_48 : (7 : Int) - w48_4.toInt < (fuel_48 : Int) + 1 := by omega
          have h_13 : (0 : Int) ≤ (t1.1 0 30).toInt ∧ (t1.1 0 30).toInt ≤ 120 := hok.1 0 30
          refine lv_iload C.1 C.2.1 dX12_punchCards_48 (lv_at hl 4 rfl) ?_
          refine lv_iload_n C.1 C.2.1 dX12_punchCards_50 rfl (lv_at hl 3 rfl) ?_
          refine lv_icmp_ge (tgt := 72) C.1 C.2.1 dX12_punchCards_51 (by decide) (fun c_14 => ?_) (fun c_14 => ?_)
          · replace c_14 : w48_3.toInt ≤ w48_4.toInt := i_le c_14
            refine lv_aload_n C.1 C.2.1 dX12_punchCards_72 rfl (lv_at hl 0 rfl) ?_
            refine lv_bipush (v := 17) C.1 C.2.1 dX12_punchCards_73 (by decide) ?_
            refine g_Vv (As := [.int 17]) (rest := []) C hP hD hS hA (T_X12_print l D K Z Y ad t1 hok 17 (show (17 : Int) ≤ (17 : Int32).toInt ∧ (17 : Int32).toInt ≤ 19 from ⟨by decide, by decide⟩)) hE hZ (uwV m_42_21 m_42_22 m_42_23 m_1_5 m_43_0) (hdV 1 (by decide +kernel) rfl) ⟨Nat.le_of_ble_eq_true rfl, Nat.le_of_ble_eq_true rfl⟩ rfl rfl (ci := 11) (q0 := 0) rfl rfl rfl hl.1 (Nat.le_of_ble_eq_true rfl) dX12_punchCards_75 ⟨Nat.le_of_ble_eq_true rfl, Nat.le_of_ble_eq_true rfl⟩ (fun t_15 H locs hw hP hD hS => ?_)
            obtain ⟨hok, f_17⟩ := hw
            have hfr : frA [(0, 30)] [] [11, 12, 13, 14] [] t t_15 := frA_tr hfr f_17 rfl
            have h_18 : (0 : Int) ≤ (t_15.1 0 30).toInt ∧ (t_15.1 0 30).toInt ≤ 120 := hok.1 0 30
            obtain ⟨v_19, e_20⟩ : ∃ z, z = w48_1 + 1 := ⟨_, rfl⟩
            refine lv_iinc (v := v_19) (lv' := [(1, .int v_19), (0, .ref (ad 0)), (2, .int w48_2), (3, .int w48_3), (4, .int w48_4)]) C.1 C.2.1 dX12_punchCards_78 hl (k := 1) rfl e_20.symm (by decide) rfl (fun ls hl => ?_)
            have hl : lv_has ls 5 [(0, .ref (ad 0)), (1, .int v_19), (2, .int w48_2), (3, .int w48_3), (4, .int w48_4)] := lv_sub hl [1, 0, 2, 3, 4] rfl
            exact L_81 t_15 v_19 w48_2 w48_3 _ _ _ hok hfr ⟨by omega, by omega⟩ ⟨by omega, by omega⟩ (show 0 ≤ w48_2.toInt from by omega) (show w48_2.toInt ≤ 3999 from by omega) (show 0 ≤ w48_3.toInt from by omega) (show w48_3.toInt ≤ 7 from by omega) (show w48_3.toInt = 0 ∨ w48_2.toInt + w48_3.toInt ≤ 4000 from by omega) (show (4010 - w48_2.toInt) < (fuel_4 : Int) + 1 from by omega) hP hD hS (lv_sub hl [0, 1, 2, 3] rfl)
          · replace c_14 : w48_4.toInt < w48_3.toInt := i_nle c_14
            refine lv_aload_n C.1 C.2.1 dX12_punchCards_54 rfl (lv_at hl 0 rfl) ?_
            refine lv_aload_n C.1 C.2.1 dX12_punchCards_55 rfl (lv_at hl 0 rfl) ?_
            refine lv_iload_n C.1 C.2.1 dX12_punchCards_56 rfl (lv_at hl 2 rfl) ?_
            refine lv_iload C.1 C.2.1 dX12_punchCards_57 (lv_at hl 4 rfl) ?_
            obtain ⟨v_21, e_22⟩ : ∃ z, z = (w48_2 : Int32) + (w48_4 : Int32) := ⟨_, rfl⟩
            have h_23 : v_21.toInt = w48_2.toInt + w48_4.toInt := by rw [e_22]; exact ti_iadd (by show (_ : Int) ≤ w48_2.toInt + w48_4.toInt; omega) (by show w48_2.toInt + w48_4.toInt < (_ : Int); omega)
            refine k_iadd (v := v_21) C e_22.symm dX12_punchCards_59 ?_
            refine g_Vi (As := [.int v_21]) (rest := [.ref (ad 0)]) C hP hD hS hA (T_X12_memoryAt l D K Z Y ad t1 hok (v_21) (show (-3999 : Int) ≤ (v_21 : Int32).toInt ∧ (v_21 : Int32).toInt ≤ 3999 from ⟨by omega, by omega⟩)) hE hZ (uwV m_38_19 m_38_20 m_38_21 m_1_5 m_38_22) (hdV 1 (by decide +kernel) rfl) ⟨Nat.le_of_ble_eq_true rfl, Nat.le_of_ble_eq_true rfl⟩ rfl rfl (ci := 11) (q0 := 0) rfl rfl rfl hl.1 (Nat.le_of_ble_eq_true rfl) dX12_punchCards_60 ⟨Nat.le_of_ble_eq_true rfl, Nat.le_of_ble_eq_true rfl⟩ (fun r_25 t_24 H locs hw hP hD hS => ?_)
            obtain ⟨h_27, h_28⟩ := hw
            refine g_Vv (As := [.int r_25]) (rest := []) C hP hD hS hA (T_X12_sayCardWord l D K Z Y ad t1 hok (r_25) (show (t1.1 0 30).toInt ≤ 110 from by omega)) hE hZ (uwV m_66_16 m_66_17 m_66_18 m_1_5 m_66_19) (hdV 1 (by decide +kernel) rfl) ⟨Nat.le_of_ble_eq_true rfl, Nat.le_of_ble_eq_true rfl⟩ rfl rfl (ci := 11) (q0 := 0) rfl rfl rfl hl.1 (Nat.le_of_ble_eq_true rfl) dX12_punchCards_63 ⟨Nat.le_of_ble_eq_true rfl, Nat.le_of_ble_eq_true rfl⟩ (fun t_29 H locs hw hP hD hS => ?_)
            obtain ⟨hok, f_31, p_32⟩ := hw
            have hfr : frA [(0, 30)] [] [11, 12, 13, 14] [] t t_29 := frA_tr hfr f_31 rfl
            have h_33 : (0 : Int) ≤ (t_29.1 0 30).toInt ∧ (t_29.1 0 30).toInt ≤ 120 := hok.1 0 30
            replace p_32 : (t_29.1 0 30).toInt = (t1.1 0 30).toInt + 10 := p_32
            obtain ⟨v_34, e_35⟩ : ∃ z, z = w48_4 + 1 := ⟨_, rfl⟩
            have h_36 : v_34.toInt = w48_4.toInt + 1 := by rw [e_35]; exact ti_iadd (by show (_ : Int) ≤ w48_4.toInt + 1; omega) (by show w48_4.toInt + 1 < (_ : Int); omega)
            refine lv_iinc (v := v_34) (lv' := [(4, .int v_34), (0, .ref (ad 0)), (1, .int w48_1), (2, .int w48_2), (3, .int w48_3)]) C.1 C.2.1 dX12_punchCards_66 hl (k := 4) rfl e_35.symm (by decide) rfl (fun ls hl => ?_)
            have hl : lv_has ls 5 [(0, .ref (ad 0)), (1, .int w48_1), (2, .int w48_2), (3, .int w48_3), (4, .int v_34)] := lv_sub hl [1, 2, 3, 4, 0] rfl
            refine lv_goto (tgt := 48) C.1 C.2.1 dX12_punchCards_69 (by decide) ?_
            exact ih_48 t_29 w48_1 w48_2 w48_3 v_34 _ _ _ hok hfr ⟨by omega, by omega⟩ ⟨by omega, by omega⟩ ⟨by omega, by omega⟩ (show 0 ≤ w48_2.toInt from by omega) (show w48_2.toInt ≤ 3999 from by omega) (show 0 ≤ w48_3.toInt from by omega) (show w48_3.toInt ≤ 7 from by omega) (show w48_3.toInt = 0 ∨ w48_2.toInt + w48_3.toInt ≤ 4000 from by omega) (show (t_29.1 0 30).toInt ≤ 10 + 10 * v_34.toInt from by omega) (show 0 ≤ v_34.toInt from by omega) (show v_34.toInt ≤ w48_3.toInt from by omega) (show 1 ≤ w48_3.toInt from by omega) (show (4010 - w48_2.toInt) < (fuel_4 : Int) + 1 from by omega) (show (7 : Int) - v_34.toInt < (fuel_48 : Int) from by omega) hP hD hS (lv_sub hl [0, 1, 2, 3, 4] rfl)
      have L_35 : ∀ (t1 : tSt) (w35_1 : Int32) (w35_2 : Int32) (w35_3 : Int32) (H : Heap) (locs : List Loc) (ls : Array Slot), okM t1 → frA [(0, 30)] [] [11, 12, 13, 14] [] t t1 → (0 : Int) ≤ w35_2.toInt ∧ w35_2.toInt ≤ 3999 → (0 : Int) ≤ w35_3.toInt ∧ w35_3.toInt ≤ 7 → (0 ≤ w35_2.toInt) → (w35_2.toInt ≤ 3999) → (0 ≤ w35_3.toInt) → (w35_3.toInt ≤ 7) → (w35_3.toInt = 0 ∨ w35_2.toInt + w35_3.toInt ≤ 4000) → (4010 - w35_2.toInt) < (fuel_4 : Int) + 1 → va_P D vwCl (WM K ad t1) H → va_D A (WM K ad t1) → va_S A s.heap H locs → lv_has ls 5 [(0, .ref (ad 0)), (1, .int w35_1), (2, .int w35_2), (3, .int w35_3)] → W p l e (rmD 3 0 0) s m [.ref (ad 0)].toArray below meth c H locs 0 0 (MQ below (QI D K (fun (r : Int32) (u : tSt) => okM u ∧ frA [(0, 30)] [] [11, 12, 13, 14] [] t u ∧ (-2147483648 : Int) ≤ r.toInt ∧ r.toInt ≤ 2147483647) (fun (u : tSt) => WM K ad u) A) [.ref (ad 0)].toArray s 0 0 A) (F0 m 35 ls []) := by
        intro t1 w35_1 w35_2 w35_3 H locs ls hok hfr hw35_2 hw35_3 hi35_0 hi35_1 hi35_2 hi35_3 hi35_4 hm35_4 hP hD hS hl
        have h_37 : (0 : Int) ≤ (t1.1 0 30).toInt ∧ (t1.1 0 30).toInt ≤ 120 := hok.1 0 30
        refine lv_iload_n C.1 C.2.1 dX12_punchCards_35 rfl (lv_at hl 3 rfl) ?_
        refine lv_if_le (tgt := 81) C.1 C.2.1 dX12_punchCards_36 (by decide) (fun c_38 => ?_) (fun c_38 => ?_)
        · replace c_38 : w35_3.toInt ≤ 0 := i_le c_38
          exact L_81 t1 w35_1 w35_2 w35_3 _ _ _ hok hfr ⟨by omega, by omega⟩ ⟨by omega, by omega⟩ (show 0 ≤ w35_2.toInt from by omega) (show w35_2.toInt ≤ 3999 from by omega) (show 0 ≤ w35_3.toInt from by omega) (show w35_3.toInt ≤ 7 from by omega) (show w35_3.toInt = 0 ∨ w35_2.toInt + w35_3.toInt ≤ 4000 from by omega) (show (4010 - w35_2.toInt) < (fuel_4 : Int) + 1 from by omega) hP hD hS (lv_sub hl [0, 1, 2, 3] rfl)
        · replace c_38 : 0 < w35_3.toInt := i_nle c_38
          refine lv_aload_n C.1 C.2.1 dX12_punchCards_39 rfl (lv_at hl 0 rfl) ?_
          refine lv_iload_n C.1 C.2.1 dX12_punchCards_40 rfl (lv_at hl 3 rfl) ?_
          refine lv_iload_n C.1 C.2.1 dX12_punchCards_41 rfl (lv_at hl 2 rfl) ?_
          refine g_Vv (As := [.int w35_3, .int w35_2]) (rest := []) C hP hD hS hA (T_X12_beginCard l D K Z Y ad t1 hok (w35_3) (show (0 : Int) ≤ (w35_3 : Int32).toInt ∧ (w35_3 : Int32).toInt ≤ 7 from ⟨by omega, by omega⟩) (w35_2) (show (0 : Int) ≤ (w35_2 : Int32).toInt ∧ (w35_2 : Int32).toInt ≤ 2147483647 from ⟨by omega, (i_rng _).2⟩)) hE hZ (uwV m_66_12 m_66_13 m_66_14 m_1_5 m_66_15) (hdV 2 (by decide +kernel) rfl) ⟨Nat.le_of_ble_eq_true rfl, Nat.le_of_ble_eq_true rfl⟩ rfl rfl (ci := 11) (q0 := 0) rfl rfl rfl hl.1 (Nat.le_of_ble_eq_true rfl) dX12_punchCards_42 ⟨Nat.le_of_ble_eq_true rfl, Nat.le_of_ble_eq_true rfl⟩ (fun t_39 H locs hw hP hD hS => ?_)
          obtain ⟨hok, f_41, p_42⟩ := hw
          have hfr : frA [(0, 30)] [] [11, 12, 13, 14] [] t t_39 := frA_tr hfr f_41 rfl
          have h_43 : (0 : Int) ≤ (t_39.1 0 30).toInt ∧ (t_39.1 0 30).toInt ≤ 120 := hok.1 0 30
          replace p_42 : (t_39.1 0 30).toInt ≤ 10 := p_42
          refine lv_iconst (v := 0) C.1 C.2.1 dX12_punchCards_45 (by decide) ?_
          refine lv_istore (lv' := [(4, .int 0), (0, .ref (ad 0)), (1, .int w35_1), (2, .int w35_2), (3, .int w35_3)]) C.1 C.2.1 dX12_punchCards_46 hl (by decide) rfl (fun ls hl => ?_)
          have hl : lv_has ls 5 [(0, .ref (ad 0)), (1, .int w35_1), (2, .int w35_2), (3, .int w35_3), (4, .int 0)] := lv_sub hl [1, 2, 3, 4, 0] rfl
          exact L_48 8 t_39 w35_1 w35_2 w35_3 0 _ _ _ hok hfr ⟨by omega, by omega⟩ ⟨by omega, by omega⟩ ⟨by decide, by decide⟩ (show 0 ≤ w35_2.toInt from by omega) (show w35_2.toInt ≤ 3999 from by omega) (show 0 ≤ w35_3.toInt from by omega) (show w35_3.toInt ≤ 7 from by omega) (show w35_3.toInt = 0 ∨ w35_2.toInt + w35_3.toInt ≤ 4000 from by omega) (show (t_39.1 0 30).toInt ≤ 10 + 10 * 0 from by omega) (show 0 ≤ 0 from by omega) (show 0 ≤ w35_3.toInt from by omega) (show 1 ≤ w35_3.toInt from by omega) (show (4010 - w35_2.toInt) < (fuel_4 : Int) + 1 from by omega) (show (7 : Int) - 0 < ((8 : Nat) : Int) from by omega) hP hD hS (lv_sub hl [0, 1, 2, 3, 4] rfl)
      have L_13 : ∀ (fuel_13 : Nat) (t1 : tSt) (w13_1 : Int32) (w13_2 : Int32) (w13_3 : Int32) (H : Heap) (locs : List Loc) (ls : Array Slot), okM t1 → frA [(0, 30)] [] [11, 12, 13, 14] [] t t1 → (0 : Int) ≤ w13_2.toInt ∧ w13_2.toInt ≤ 3999 → (0 : Int) ≤ w13_3.toInt ∧ w13_3.toInt ≤ 7 → (0 ≤ w13_2.toInt) → (w13_2.toInt ≤ 3999) → (0 ≤ w13_3.toInt) → (w13_3.toInt ≤ 7) → (w13_3.toInt = 0 ∨ w13_2.toInt + w13_3.toInt ≤ 4000) → (4010 - w13_2.toInt) < (fuel_4 : Int) + 1 → (7 : Int) - w13_3.toInt < (fuel_13 : Int) → va_P D vwCl (WM K ad t1) H → va_D A (WM K ad t1) → va_S A s.heap H locs → lv_has ls 5 [(0, .ref (ad 0)), (1, .int w13_1), (2, .int w13_2), (3, .int w13_3)] → W p l e (rmD 3 0 0) s m [.ref (ad 0)].toArray below meth c H locs 0 0 (MQ below (QI D K (fun (r : Int32) (u : tSt) => okM u ∧ frA [(0, 30)] [] [11, 12, 13, 14] [] t u ∧ (-2147483648 : Int) ≤ r.toInt ∧ r.toInt ≤ 2147483647) (fun (u : tSt) => WM K ad u) A) [.ref (ad 0)].toArray s 0 0 A) (F0 m 13 ls []) := by
        intro fuel_13
        induction fuel_13 with
        | zero =>
          intro t1 w13_1 w13_2 w13_3 H locs ls hok hfr hw13_2 hw13_3 hi13_0 hi13_1 hi13_2 hi13_3 hi13_4 hm13_4 hm13_13 hP hD hS hl
          have h_44 : (0 : Int) ≤ (t1.1 0 30).toInt ∧ (t1.1 0 30).toInt ≤ 120 := hok.1 0 30
          exact absurd hm13_13 (by omega)
        | succ fuel_13 ih_13 =>
          intro t1 w13_1 w13_2 w13_3 H locs ls hok hfr hw13_2 hw13_3 hi13_0 hi13_1 hi13_2 hi13_3 hi13_4 hm13_4 hm13_13 hP hD hS hl
          have hm13_13 : (7 : Int) - w13_3.toInt < (fuel_13 : Int) + 1 := by omega
          have h_45 : (0 : Int) ≤ (t1.1 0 30).toInt ∧ (t1.1 0 30).toInt ≤ 120 := hok.1 0 30
          refine lv_iload_n C.1 C.2.1 dX12_punchCards_13 rfl (lv_at hl 3 rfl) ?_
          refine lv_bipush (v := 7) C.1 C.2.1 dX12_punchCards_14 (by decide) ?_
          refine lv_icmp_ge (tgt := 35) C.1 C.2.1 dX12_punchCards_16 (by decide) (fun c_46 => ?_) (fun c_46 => ?_)
          · replace c_46 : 7 ≤ w13_3.toInt := i_le c_46
            exact L_35 t1 w13_1 w13_2 w13_3 _ _ _ hok hfr ⟨by omega, by omega⟩ ⟨by omega, by omega⟩ (show 0 ≤ w13_2.toInt from by omega) (show w13_2.toInt ≤ 3999 from by omega) (show 0 ≤ w13_3.toInt from by omega) (show w13_3.toInt ≤ 7 from by omega) (show w13_3.toInt = 0 ∨ w13_2.toInt + w13_3.toInt ≤ 4000 from by omega) (show (4010 - w13_2.toInt) < (fuel_4 : Int) + 1 from by omega) hP hD hS (lv_sub hl [0, 1, 2, 3] rfl)
          · replace c_46 : w13_3.toInt < 7 := i_nle c_46
            refine lv_aload_n C.1 C.2.1 dX12_punchCards_19 rfl (lv_at hl 0 rfl) ?_
            refine lv_iload_n C.1 C.2.1 dX12_punchCards_20 rfl (lv_at hl 2 rfl) ?_
            refine lv_iload_n C.1 C.2.1 dX12_punchCards_21 rfl (lv_at hl 3 rfl) ?_
            obtain ⟨v_47, e_48⟩ : ∃ z, z = (w13_2 : Int32) + (w13_3 : Int32) := ⟨_, rfl⟩
            have h_49 : v_47.toInt = w13_2.toInt + w13_3.toInt := by rw [e_48]; exact ti_iadd (by show (_ : Int) ≤ w13_2.toInt + w13_3.toInt; omega) (by show w13_2.toInt + w13_3.toInt < (_ : Int); omega)
            refine k_iadd (v := v_47) C e_48.symm dX12_punchCards_22 ?_
            refine g_Vi (As := [.int v_47]) (rest := []) C hP hD hS hA (T_X12_hasPut l D K Z Y ad t1 hok (v_47) (show (0 : Int) ≤ (v_47 : Int32).toInt ∧ (v_47 : Int32).toInt ≤ 2147483647 from ⟨by omega, (i_rng _).2⟩)) hE hZ (uwV m_66_8 m_66_9 m_66_10 m_1_5 m_66_11) (hdV 1 (by decide +kernel) rfl) ⟨Nat.le_of_ble_eq_true rfl, Nat.le_of_ble_eq_true rfl⟩ rfl rfl (ci := 11) (q0 := 0) rfl rfl rfl hl.1 (Nat.le_of_ble_eq_true rfl) dX12_punchCards_23 ⟨Nat.le_of_ble_eq_true rfl, Nat.le_of_ble_eq_true rfl⟩ (fun r_51 t_50 H locs hw hP hD hS => ?_)
            obtain ⟨h_53, h_54, p_55⟩ := hw
            replace p_55 : r_51.toInt = 1 → v_47.toInt ≤ 3999 := p_55
            refine lv_if_eq (tgt := 35) C.1 C.2.1 dX12_punchCards_26 (by decide) (fun c_56 => ?_) (fun c_56 => ?_)
            · replace c_56 : r_51.toInt = 0 := i_eq c_56
              exact L_35 t1 w13_1 w13_2 w13_3 _ _ _ hok hfr ⟨by omega, by omega⟩ ⟨by omega, by omega⟩ (show 0 ≤ w13_2.toInt from by omega) (show w13_2.toInt ≤ 3999 from by omega) (show 0 ≤ w13_3.toInt from by omega) (show w13_3.toInt ≤ 7 from by omega) (show w13_3.toInt = 0 ∨ w13_2.toInt + w13_3.toInt ≤ 4000 from by omega) (show (4010 - w13_2.toInt) < (fuel_4 : Int) + 1 from by omega) hP hD hS (lv_sub hl [0, 1, 2, 3] rfl)
            · replace c_56 : ¬ r_51.toInt = 0 := i_ne c_56
              obtain ⟨v_57, e_58⟩ : ∃ z, z = w13_3 + 1 := ⟨_, rfl⟩
              have h_59 : v_57.toInt = w13_3.toInt + 1 := by rw [e_58]; exact ti_iadd (by show (_ : Int) ≤ w13_3.toInt + 1; omega) (by show w13_3.toInt + 1 < (_ : Int); omega)
              refine lv_iinc (v := v_57) (lv' := [(3, .int v_57), (0, .ref (ad 0)), (1, .int w13_1), (2, .int w13_2)]) C.1 C.2.1 dX12_punchCards_29 hl (k := 3) rfl e_58.symm (by decide) rfl (fun ls hl => ?_)
              have hl : lv_has ls 5 [(0, .ref (ad 0)), (1, .int w13_1), (2, .int w13_2), (3, .int v_57)] := lv_sub hl [1, 2, 3, 0] rfl
              refine lv_goto (tgt := 13) C.1 C.2.1 dX12_punchCards_32 (by decide) ?_
              exact ih_13 t1 w13_1 w13_2 v_57 _ _ _ hok hfr ⟨by omega, by omega⟩ ⟨by omega, by omega⟩ (show 0 ≤ w13_2.toInt from by omega) (show w13_2.toInt ≤ 3999 from by omega) (show 0 ≤ v_57.toInt from by omega) (show v_57.toInt ≤ 7 from by omega) (show v_57.toInt = 0 ∨ w13_2.toInt + v_57.toInt ≤ 4000 from by omega) (show (4010 - w13_2.toInt) < (fuel_4 : Int) + 1 from by omega) (show (7 : Int) - v_57.toInt < (fuel_13 : Int) from by omega) hP hD hS (lv_sub hl [0, 1, 2, 3] rfl)
      refine lv_iload_n C.1 C.2.1 dX12_punchCards_4 rfl (lv_at hl 2 rfl) ?_
      refine lv_sipush (v := 3999) C.1 C.2.1 dX12_punchCards_5 (by decide) ?_
      refine lv_icmp_gt (tgt := 96) C.1 C.2.1 dX12_punchCards_8 (by decide) (fun c_60 => ?_) (fun c_60 => ?_)
      · replace c_60 : 3999 < w4_2.toInt := i_lt c_60
        refine lv_aload_n C.1 C.2.1 dX12_punchCards_96 rfl (lv_at hl 0 rfl) ?_
        refine lv_iconst (v := 0) C.1 C.2.1 dX12_punchCards_97 (by decide) ?_
        refine lv_aload_n C.1 C.2.1 dX12_punchCards_98 rfl (lv_at hl 0 rfl) ?_
        have h_61 : (-3999 : Int) ≤ (t1.1 0 45).toInt ∧ (t1.1 0 45).toInt ≤ 3999 := hok.1 0 45
        refine k_get (v := .int (t1.1 0 45)) C hP 0 rfl rfl inlX12 45 (by decide) m_29_0 rfl dX12_punchCards_99 ?_
        refine lv_if_ge (tgt := 109) C.1 C.2.1 dX12_punchCards_102 (by decide) (fun c_62 => ?_) (fun c_62 => ?_)
        · replace c_62 : 0 ≤ (t1.1 0 45).toInt := i_le c_62
          refine lv_aload_n C.1 C.2.1 dX12_punchCards_109 rfl (lv_at hl 0 rfl) ?_
          refine k_get (v := .int (t1.1 0 45)) C hP 0 rfl rfl inlX12 45 (by decide) m_29_0 rfl dX12_punchCards_110 ?_
          refine g_Vv (As := [.int 0, .int (t1.1 0 45)]) (rest := []) C hP hD hS hA (T_X12_beginCard l D K Z Y ad t1 hok 0 (show (0 : Int) ≤ (0 : Int32).toInt ∧ (0 : Int32).toInt ≤ 7 from ⟨by decide, by decide⟩) ((t1.1 0 45)) (show (0 : Int) ≤ ((t1.1 0 45) : Int32).toInt ∧ ((t1.1 0 45) : Int32).toInt ≤ 2147483647 from ⟨by omega, (i_rng _).2⟩)) hE hZ (uwV m_66_12 m_66_13 m_66_14 m_1_5 m_66_15) (hdV 2 (by decide +kernel) rfl) ⟨Nat.le_of_ble_eq_true rfl, Nat.le_of_ble_eq_true rfl⟩ rfl rfl (ci := 11) (q0 := 0) rfl rfl rfl hl.1 (Nat.le_of_ble_eq_true rfl) dX12_punchCards_113 ⟨Nat.le_of_ble_eq_true rfl, Nat.le_of_ble_eq_true rfl⟩ (fun t_63 H locs hw hP hD hS => ?_)
          obtain ⟨hok, f_65, p_66⟩ := hw
          have hfr : frA [(0, 30)] [] [11, 12, 13, 14] [] t t_63 := frA_tr hfr f_65 rfl
          have h_67 : (t_63.1 0 45).toInt = (t1.1 0 45).toInt := ti_eq (f_65.1 0 45 rfl)
          have h_68 : (0 : Int) ≤ (t_63.1 0 30).toInt ∧ (t_63.1 0 30).toInt ≤ 120 := hok.1 0 30
          replace p_66 : (t_63.1 0 30).toInt ≤ 10 := p_66
          refine lv_aload_n C.1 C.2.1 dX12_punchCards_116 rfl (lv_at hl 0 rfl) ?_
          refine lv_bipush (v := 17) C.1 C.2.1 dX12_punchCards_117 (by decide) ?_
          refine g_Vv (As := [.int 17]) (rest := []) C hP hD hS hA (T_X12_print l D K Z Y ad t_63 hok 17 (show (17 : Int) ≤ (17 : Int32).toInt ∧ (17 : Int32).toInt ≤ 19 from ⟨by decide, by decide⟩)) hE hZ (uwV m_42_21 m_42_22 m_42_23 m_1_5 m_43_0) (hdV 1 (by decide +kernel) rfl) ⟨Nat.le_of_ble_eq_true rfl, Nat.le_of_ble_eq_true rfl⟩ rfl rfl (ci := 11) (q0 := 0) rfl rfl rfl hl.1 (Nat.le_of_ble_eq_true rfl) dX12_punchCards_119 ⟨Nat.le_of_ble_eq_true rfl, Nat.le_of_ble_eq_true rfl⟩ (fun t_69 H locs hw hP hD hS => ?_)
          obtain ⟨hok, f_71⟩ := hw
          have hfr : frA [(0, 30)] [] [11, 12, 13, 14] [] t t_69 := frA_tr hfr f_71 rfl
          have h_72 : (t_69.1 0 45).toInt = (t_63.1 0 45).toInt := ti_eq (f_71.1 0 45 rfl)
          have h_73 : (0 : Int) ≤ (t_69.1 0 30).toInt ∧ (t_69.1 0 30).toInt ≤ 120 := hok.1 0 30
          refine lv_iload_n C.1 C.2.1 dX12_punchCards_122 rfl (lv_at hl 1 rfl) ?_
          refine lv_iconst (v := 1) C.1 C.2.1 dX12_punchCards_123 (by decide) ?_
          obtain ⟨v_74, e_75⟩ : ∃ z, z = (w4_1 : Int32) + (1 : Int32) := ⟨_, rfl⟩
          refine k_iadd (v := v_74) C e_75.symm dX12_punchCards_124 ?_
          exact g_iret C hr hlocks hP hD hS rfl t_69 rfl ⟨hok, hfr, (i_rng _).1, (i_rng _).2⟩ (Nat.le_of_ble_eq_true rfl) (Nat.le_of_ble_eq_true rfl) dX12_punchCards_125
        · replace c_62 : (t1.1 0 45).toInt < 0 := i_nle c_62
          refine lv_iconst (v := 0) C.1 C.2.1 dX12_punchCards_105 (by decide) ?_
          refine lv_goto (tgt := 113) C.1 C.2.1 dX12_punchCards_106 (by decide) ?_
          refine g_Vv (As := [.int 0, .int 0]) (rest := []) C hP hD hS hA (T_X12_beginCard l D K Z Y ad t1 hok 0 (show (0 : Int) ≤ (0 : Int32).toInt ∧ (0 : Int32).toInt ≤ 7 from ⟨by decide, by decide⟩) 0 (show (0 : Int) ≤ (0 : Int32).toInt ∧ (0 : Int32).toInt ≤ 2147483647 from ⟨by decide, by decide⟩)) hE hZ (uwV m_66_12 m_66_13 m_66_14 m_1_5 m_66_15) (hdV 2 (by decide +kernel) rfl) ⟨Nat.le_of_ble_eq_true rfl, Nat.le_of_ble_eq_true rfl⟩ rfl rfl (ci := 11) (q0 := 0) rfl rfl rfl hl.1 (Nat.le_of_ble_eq_true rfl) dX12_punchCards_113 ⟨Nat.le_of_ble_eq_true rfl, Nat.le_of_ble_eq_true rfl⟩ (fun t_77 H locs hw hP hD hS => ?_)
          obtain ⟨hok, f_79, p_80⟩ := hw
          have hfr : frA [(0, 30)] [] [11, 12, 13, 14] [] t t_77 := frA_tr hfr f_79 rfl
          have h_81 : (t_77.1 0 45).toInt = (t1.1 0 45).toInt := ti_eq (f_79.1 0 45 rfl)
          have h_82 : (0 : Int) ≤ (t_77.1 0 30).toInt ∧ (t_77.1 0 30).toInt ≤ 120 := hok.1 0 30
          replace p_80 : (t_77.1 0 30).toInt ≤ 10 := p_80
          refine lv_aload_n C.1 C.2.1 dX12_punchCards_116 rfl (lv_at hl 0 rfl) ?_
          refine lv_bipush (v := 17) C.1 C.2.1 dX12_punchCards_117 (by decide) ?_
          refine g_Vv (As := [.int 17]) (rest := []) C hP hD hS hA (T_X12_print l D K Z Y ad t_77 hok 17 (show (17 : Int) ≤ (17 : Int32).toInt ∧ (17 : Int32).toInt ≤ 19 from ⟨by decide, by decide⟩)) hE hZ (uwV m_42_21 m_42_22 m_42_23 m_1_5 m_43_0) (hdV 1 (by decide +kernel) rfl) ⟨Nat.le_of_ble_eq_true rfl, Nat.le_of_ble_eq_true rfl⟩ rfl rfl (ci := 11) (q0 := 0) rfl rfl rfl hl.1 (Nat.le_of_ble_eq_true rfl) dX12_punchCards_119 ⟨Nat.le_of_ble_eq_true rfl, Nat.le_of_ble_eq_true rfl⟩ (fun t_83 H locs hw hP hD hS => ?_)
          obtain ⟨hok, f_85⟩ := hw
          have hfr : frA [(0, 30)] [] [11, 12, 13, 14] [] t t_83 := frA_tr hfr f_85 rfl
          have h_86 : (t_83.1 0 45).toInt = (t_77.1 0 45).toInt := ti_eq (f_85.1 0 45 rfl)
          have h_87 : (0 : Int) ≤ (t_83.1 0 30).toInt ∧ (t_83.1 0 30).toInt ≤ 120 := hok.1 0 30
          refine lv_iload_n C.1 C.2.1 dX12_punchCards_122 rfl (lv_at hl 1 rfl) ?_
          refine lv_iconst (v := 1) C.1 C.2.1 dX12_punchCards_123 (by decide) ?_
          obtain ⟨v_88, e_89⟩ : ∃ z, z = (w4_1 : Int32) + (1 : Int32) := ⟨_, rfl⟩
          refine k_iadd (v := v_88) C e_89.symm dX12_punchCards_124 ?_
          exact g_iret C hr hlocks hP hD hS rfl t_83 rfl ⟨hok, hfr, (i_rng _).1, (i_rng _).2⟩ (Nat.le_of_ble_eq_true rfl) (Nat.le_of_ble_eq_true rfl) dX12_punchCards_125
      · replace c_60 : w4_2.toInt ≤ 3999 := i_nlt c_60
        refine lv_iconst (v := 0) C.1 C.2.1 dX12_punchCards_11 (by decide) ?_
        refine lv_istore_n (lv' := [(3, .int 0), (0, .ref (ad 0)), (1, .int w4_1), (2, .int w4_2)]) C.1 C.2.1 dX12_punchCards_12 rfl hl (by decide) rfl (fun ls hl => ?_)
        have hl : lv_has ls 5 [(0, .ref (ad 0)), (1, .int w4_1), (2, .int w4_2), (3, .int 0)] := lv_sub hl [1, 2, 3, 0] rfl
        exact L_13 8 t1 w4_1 w4_2 0 _ _ _ hok hfr ⟨by omega, by omega⟩ ⟨by decide, by decide⟩ (show 0 ≤ w4_2.toInt from by omega) (show w4_2.toInt ≤ 3999 from by omega) (show 0 ≤ 0 from by omega) (show 0 ≤ 7 from by omega) (show 0 = 0 ∨ w4_2.toInt + 0 ≤ 4000 from by omega) (show (4010 - w4_2.toInt) < (fuel_4 : Int) + 1 from by omega) (show (7 : Int) - 0 < ((8 : Nat) : Int) from by omega) hP hD hS (lv_sub hl [0, 1, 2, 3] rfl)
  refine lv_iconst (v := 0) C.1 C.2.1 dX12_punchCards_0 (by decide) ?_
  refine lv_istore_n (lv' := [(1, .int 0), (0, .ref (ad 0))]) C.1 C.2.1 dX12_punchCards_1 rfl hl (by decide) rfl (fun ls hl => ?_)
  have hl : lv_has ls 5 [(0, .ref (ad 0)), (1, .int 0)] := lv_sub hl [1, 0] rfl
  refine lv_iconst (v := 0) C.1 C.2.1 dX12_punchCards_2 (by decide) ?_
  refine lv_istore_n (lv' := [(2, .int 0), (0, .ref (ad 0)), (1, .int 0)]) C.1 C.2.1 dX12_punchCards_3 rfl hl (by decide) rfl (fun ls hl => ?_)
  have hl : lv_has ls 5 [(0, .ref (ad 0)), (1, .int 0), (2, .int 0)] := lv_sub hl [1, 2, 0] rfl
  exact L_4 8100 t 0 0 _ _ _ hok hfr ⟨by decide, by decide⟩ (show 0 ≤ 0 from by omega) (show 0 ≤ 4006 from by omega) (show (4010 - 0) < ((8100 : Nat) : Int) from by omega) hP hD hS (lv_sub hl [0, 1, 2] rfl)

theorem dX12_listWords_0 : decode cX12_listWords 0 = .ok (.iconst 0, 1) := by decide +kernel
theorem dX12_listWords_1 : decode cX12_listWords 1 = .ok (.istore_n 1, 1) := by decide +kernel
theorem dX12_listWords_11 : decode cX12_listWords 11 = .ok (.aload_n 0, 1) := by decide +kernel
theorem dX12_listWords_12 : decode cX12_listWords 12 = .ok (.iload_n 2, 1) := by decide +kernel
theorem dX12_listWords_13 : decode cX12_listWords 13 = .ok (.invokevirtual 676, 3) := by decide +kernel
theorem dX12_listWords_16 : decode cX12_listWords 16 = .ok (.ifCond .ne 6, 3) := by decide +kernel
theorem dX12_listWords_19 : decode cX12_listWords 19 = .ok (.goto 47, 3) := by decide +kernel
theorem dX12_listWords_2 : decode cX12_listWords 2 = .ok (.iconst 0, 1) := by decide +kernel
theorem dX12_listWords_22 : decode cX12_listWords 22 = .ok (.aload_n 0, 1) := by decide +kernel
theorem dX12_listWords_23 : decode cX12_listWords 23 = .ok (.invokevirtual 263, 3) := by decide +kernel
theorem dX12_listWords_26 : decode cX12_listWords 26 = .ok (.aload_n 0, 1) := by decide +kernel
theorem dX12_listWords_27 : decode cX12_listWords 27 = .ok (.iload_n 2, 1) := by decide +kernel
theorem dX12_listWords_28 : decode cX12_listWords 28 = .ok (.i2l, 1) := by decide +kernel
theorem dX12_listWords_29 : decode cX12_listWords 29 = .ok (.iconst 4, 1) := by decide +kernel
theorem dX12_listWords_3 : decode cX12_listWords 3 = .ok (.istore_n 2, 1) := by decide +kernel
theorem dX12_listWords_30 : decode cX12_listWords 30 = .ok (.invokevirtual 199, 3) := by decide +kernel
theorem dX12_listWords_33 : decode cX12_listWords 33 = .ok (.aload_n 0, 1) := by decide +kernel
theorem dX12_listWords_34 : decode cX12_listWords 34 = .ok (.bipush 32, 2) := by decide +kernel
theorem dX12_listWords_36 : decode cX12_listWords 36 = .ok (.invokevirtual 189, 3) := by decide +kernel
theorem dX12_listWords_39 : decode cX12_listWords 39 = .ok (.aload_n 0, 1) := by decide +kernel
theorem dX12_listWords_4 : decode cX12_listWords 4 = .ok (.iload_n 2, 1) := by decide +kernel
theorem dX12_listWords_40 : decode cX12_listWords 40 = .ok (.aload_n 0, 1) := by decide +kernel
theorem dX12_listWords_41 : decode cX12_listWords 41 = .ok (.iload_n 2, 1) := by decide +kernel
theorem dX12_listWords_42 : decode cX12_listWords 42 = .ok (.invokevirtual 260, 3) := by decide +kernel
theorem dX12_listWords_45 : decode cX12_listWords 45 = .ok (.invokevirtual 688, 3) := by decide +kernel
theorem dX12_listWords_48 : decode cX12_listWords 48 = .ok (.aload_n 0, 1) := by decide +kernel
theorem dX12_listWords_49 : decode cX12_listWords 49 = .ok (.aload_n 0, 1) := by decide +kernel
theorem dX12_listWords_5 : decode cX12_listWords 5 = .ok (.sipush 3999, 3) := by decide +kernel
theorem dX12_listWords_50 : decode cX12_listWords 50 = .ok (.iload_n 2, 1) := by decide +kernel
theorem dX12_listWords_51 : decode cX12_listWords 51 = .ok (.invokevirtual 260, 3) := by decide +kernel
theorem dX12_listWords_54 : decode cX12_listWords 54 = .ok (.invokevirtual 691, 3) := by decide +kernel
theorem dX12_listWords_57 : decode cX12_listWords 57 = .ok (.aload_n 0, 1) := by decide +kernel
theorem dX12_listWords_58 : decode cX12_listWords 58 = .ok (.bipush 18, 2) := by decide +kernel
theorem dX12_listWords_60 : decode cX12_listWords 60 = .ok (.invokevirtual 269, 3) := by decide +kernel
theorem dX12_listWords_63 : decode cX12_listWords 63 = .ok (.iinc 1 1, 3) := by decide +kernel
theorem dX12_listWords_66 : decode cX12_listWords 66 = .ok (.iinc 2 1, 3) := by decide +kernel
theorem dX12_listWords_69 : decode cX12_listWords 69 = .ok (.goto (-65), 3) := by decide +kernel
theorem dX12_listWords_72 : decode cX12_listWords 72 = .ok (.iload_n 1, 1) := by decide +kernel
theorem dX12_listWords_73 : decode cX12_listWords 73 = .ok (.ireturn, 1) := by decide +kernel
theorem dX12_listWords_8 : decode cX12_listWords 8 = .ok (.if_icmp .gt 64, 3) := by decide +kernel
set_option maxHeartbeats 4000000 in
set_option maxRecDepth 100000 in
theorem T_X12_listWords (l : Launch) (D : va_G) (K : Nat → ClassId) (Z Y : Nat → Nat) (ad : Nat → Nat) (t : tSt) (hok : okM t)  : tMet l yX12_listWords cX12_listWords 3 (some .int) (rmD 6 0 0) D K Z Y [.ref (ad 0)] (WM K ad t) (QI D K (fun (r : Int32) (u : tSt) => okM u ∧ frA [(0, 30)] [] [11, 12, 13, 14] [] t u ∧ (-2147483648 : Int) ≤ r.toInt ∧ r.toInt ≤ 2147483647) (fun (u : tSt) => WM K ad u)) 0 0 := by
  refine t_met RX12 ⟨rfl, by decide +kernel⟩ (Nat.le_of_ble_eq_true rfl) ?_
  intro p e s m below meth c A ls C hE hZ hr hlocks hA hP hD hS hl
  have hl : lv_has ls 3 [(0, .ref (ad 0))] := hl
  have hokt := hok
  have hfr : frA [(0, 30)] [] [11, 12, 13, 14] [] t t := frA_rf
  have h_1 : (0 : Int) ≤ (t.1 0 30).toInt ∧ (t.1 0 30).toInt ≤ 120 := hok.1 0 30
  have L_4 : ∀ (fuel_4 : Nat) (t1 : tSt) (w4_1 : Int32) (w4_2 : Int32) (H : Heap) (locs : List Loc) (ls : Array Slot), okM t1 → frA [(0, 30)] [] [11, 12, 13, 14] [] t t1 → (0 : Int) ≤ w4_2.toInt ∧ w4_2.toInt ≤ 4000 → (4000 : Int) - w4_2.toInt < (fuel_4 : Int) → va_P D vwCl (WM K ad t1) H → va_D A (WM K ad t1) → va_S A s.heap H locs → lv_has ls 3 [(0, .ref (ad 0)), (1, .int w4_1), (2, .int w4_2)] → W p l e (rmD 6 0 0) s m [.ref (ad 0)].toArray below meth c H locs 0 0 (MQ below (QI D K (fun (r : Int32) (u : tSt) => okM u ∧ frA [(0, 30)] [] [11, 12, 13, 14] [] t u ∧ (-2147483648 : Int) ≤ r.toInt ∧ r.toInt ≤ 2147483647) (fun (u : tSt) => WM K ad u) A) [.ref (ad 0)].toArray s 0 0 A) (F0 m 4 ls []) := by
    intro fuel_4
    induction fuel_4 with
    | zero =>
      intro t1 w4_1 w4_2 H locs ls hok hfr hw4_2 hm4_4 hP hD hS hl
      have h_2 : (0 : Int) ≤ (t1.1 0 30).toInt ∧ (t1.1 0 30).toInt ≤ 120 := hok.1 0 30
      exact absurd hm4_4 (by omega)
    | succ fuel_4 ih_4 =>
      intro t1 w4_1 w4_2 H locs ls hok hfr hw4_2 hm4_4 hP hD hS hl
      have hm4_4 : (4000 : Int) - w4_2.toInt < (fuel_4 : Int) + 1 := by omega
      have h_3 : (0 : Int) ≤ (t1.1 0 30).toInt ∧ (t1.1 0 30).toInt ≤ 120 := hok.1 0 30
      have L_66 : ∀ (t1 : tSt) (w66_1 : Int32) (w66_2 : Int32) (H : Heap) (locs : List Loc) (ls : Array Slot), okM t1 → frA [(0, 30)] [] [11, 12, 13, 14] [] t t1 → (0 : Int) ≤ w66_2.toInt ∧ w66_2.toInt ≤ 3999 → (4000 : Int) - w66_2.toInt < (fuel_4 : Int) + 1 → va_P D vwCl (WM K ad t1) H → va_D A (WM K ad t1) → va_S A s.heap H locs → lv_has ls 3 [(0, .ref (ad 0)), (1, .int w66_1), (2, .int w66_2)] → W p l e (rmD 6 0 0) s m [.ref (ad 0)].toArray below meth c H locs 0 0 (MQ below (QI D K (fun (r : Int32) (u : tSt) => okM u ∧ frA [(0, 30)] [] [11, 12, 13, 14] [] t u ∧ (-2147483648 : Int) ≤ r.toInt ∧ r.toInt ≤ 2147483647) (fun (u : tSt) => WM K ad u) A) [.ref (ad 0)].toArray s 0 0 A) (F0 m 66 ls []) := by
        intro t1 w66_1 w66_2 H locs ls hok hfr hw66_2 hm66_4 hP hD hS hl
        have h_4 : (0 : Int) ≤ (t1.1 0 30).toInt ∧ (t1.1 0 30).toInt ≤ 120 := hok.1 0 30
        obtain ⟨v_5, e_6⟩ : ∃ z, z = w66_2 + 1 := ⟨_, rfl⟩
        have h_7 : v_5.toInt = w66_2.toInt + 1 := by rw [e_6]; exact ti_iadd (by show (_ : Int) ≤ w66_2.toInt + 1; omega) (by show w66_2.toInt + 1 < (_ : Int); omega)
        refine lv_iinc (v := v_5) (lv' := [(2, .int v_5), (0, .ref (ad 0)), (1, .int w66_1)]) C.1 C.2.1 dX12_listWords_66 hl (k := 2) rfl e_6.symm (by decide) rfl (fun ls hl => ?_)
        have hl : lv_has ls 3 [(0, .ref (ad 0)), (1, .int w66_1), (2, .int v_5)] := lv_sub hl [1, 2, 0] rfl
        refine lv_goto (tgt := 4) C.1 C.2.1 dX12_listWords_69 (by decide) ?_
        exact ih_4 t1 w66_1 v_5 _ _ _ hok hfr ⟨by omega, by omega⟩ (show (4000 : Int) - v_5.toInt < (fuel_4 : Int) from by omega) hP hD hS (lv_sub hl [0, 1, 2] rfl)
      refine lv_iload_n C.1 C.2.1 dX12_listWords_4 rfl (lv_at hl 2 rfl) ?_
      refine lv_sipush (v := 3999) C.1 C.2.1 dX12_listWords_5 (by decide) ?_
      refine lv_icmp_gt (tgt := 72) C.1 C.2.1 dX12_listWords_8 (by decide) (fun c_8 => ?_) (fun c_8 => ?_)
      · replace c_8 : 3999 < w4_2.toInt := i_lt c_8
        refine lv_iload_n C.1 C.2.1 dX12_listWords_72 rfl (lv_at hl 1 rfl) ?_
        exact g_iret C hr hlocks hP hD hS rfl t1 rfl ⟨hok, hfr, (i_rng _).1, (i_rng _).2⟩ (Nat.le_of_ble_eq_true rfl) (Nat.le_of_ble_eq_true rfl) dX12_listWords_73
      · replace c_8 : w4_2.toInt ≤ 3999 := i_nlt c_8
        refine lv_aload_n C.1 C.2.1 dX12_listWords_11 rfl (lv_at hl 0 rfl) ?_
        refine lv_iload_n C.1 C.2.1 dX12_listWords_12 rfl (lv_at hl 2 rfl) ?_
        refine g_Vi (As := [.int w4_2]) (rest := []) C hP hD hS hA (T_X12_hasPut l D K Z Y ad t1 hok (w4_2) (show (0 : Int) ≤ (w4_2 : Int32).toInt ∧ (w4_2 : Int32).toInt ≤ 2147483647 from ⟨by omega, (i_rng _).2⟩)) hE hZ (uwV m_66_8 m_66_9 m_66_10 m_1_5 m_66_11) (hdV 1 (by decide +kernel) rfl) ⟨Nat.le_of_ble_eq_true rfl, Nat.le_of_ble_eq_true rfl⟩ rfl rfl (ci := 11) (q0 := 0) rfl rfl rfl hl.1 (Nat.le_of_ble_eq_true rfl) dX12_listWords_13 ⟨Nat.le_of_ble_eq_true rfl, Nat.le_of_ble_eq_true rfl⟩ (fun r_10 t_9 H locs hw hP hD hS => ?_)
        obtain ⟨h_12, h_13, p_14⟩ := hw
        replace p_14 : r_10.toInt = 1 → w4_2.toInt ≤ 3999 := p_14
        refine lv_if_ne (tgt := 22) C.1 C.2.1 dX12_listWords_16 (by decide) (fun c_15 => ?_) (fun c_15 => ?_)
        · replace c_15 : ¬ r_10.toInt = 0 := i_ne c_15
          refine lv_aload_n C.1 C.2.1 dX12_listWords_22 rfl (lv_at hl 0 rfl) ?_
          refine g_Vv (As := []) (rest := []) C hP hD hS hA (T_X12_begin l D K Z Y ad t1 hok ) hE hZ (uwV m_42_4 m_42_5 m_42_6 m_1_5 m_42_7) (hdV 0 (by decide +kernel) rfl) ⟨Nat.le_of_ble_eq_true rfl, Nat.le_of_ble_eq_true rfl⟩ rfl rfl (ci := 11) (q0 := 0) rfl rfl rfl hl.1 (Nat.le_of_ble_eq_true rfl) dX12_listWords_23 ⟨Nat.le_of_ble_eq_true rfl, Nat.le_of_ble_eq_true rfl⟩ (fun t_16 H locs hw hP hD hS => ?_)
          obtain ⟨hok, f_18, p_19⟩ := hw
          have hfr : frA [(0, 30)] [] [11, 12, 13, 14] [] t t_16 := frA_tr hfr f_18 rfl
          have h_20 : (0 : Int) ≤ (t_16.1 0 30).toInt ∧ (t_16.1 0 30).toInt ≤ 120 := hok.1 0 30
          replace p_19 : (t_16.1 0 30).toInt = 0 := p_19
          refine lv_aload_n C.1 C.2.1 dX12_listWords_26 rfl (lv_at hl 0 rfl) ?_
          refine lv_iload_n C.1 C.2.1 dX12_listWords_27 rfl (lv_at hl 2 rfl) ?_
          obtain ⟨v_21, e_22⟩ : ∃ z, z = (w4_2 : Int32).toInt64 := ⟨_, rfl⟩
          have h_23 : v_21.toInt = w4_2.toInt := by rw [e_22]; exact Jvm.Kit.i64_of_i32 _
          refine lv_i2l (v := v_21) C.1 C.2.1 dX12_listWords_28 e_22.symm ?_
          refine lv_iconst (v := 4) C.1 C.2.1 dX12_listWords_29 (by decide) ?_
          have h_24 : (4 : Int32).toInt = 4 := rfl
          refine g_Vv (As := [.long v_21, .int 4]) (rest := []) C hP hD hS hA (T_X12_sayDigits l D K Z Y ad t_16 hok (v_21) 4 (show (1 : Int) ≤ (4 : Int32).toInt ∧ (4 : Int32).toInt ≤ 10 from ⟨by decide, by decide⟩) (show (t_16.1 0 30).toInt + (4 : Int32).toInt ≤ 120 from by omega) (show 1 ≤ (4 : Int32).toInt from by omega) (show (4 : Int32).toInt ≤ 10 from by omega)) hE hZ (uwV m_42_9 m_42_10 m_42_11 m_1_5 m_42_12) (hdV 2 (by decide +kernel) rfl) ⟨Nat.le_of_ble_eq_true rfl, Nat.le_of_ble_eq_true rfl⟩ rfl rfl (ci := 11) (q0 := 0) rfl rfl rfl hl.1 (Nat.le_of_ble_eq_true rfl) dX12_listWords_30 ⟨Nat.le_of_ble_eq_true rfl, Nat.le_of_ble_eq_true rfl⟩ (fun t_25 H locs hw hP hD hS => ?_)
          obtain ⟨hok, f_27, p_28⟩ := hw
          have hfr : frA [(0, 30)] [] [11, 12, 13, 14] [] t t_25 := frA_tr hfr f_27 rfl
          have h_29 : (0 : Int) ≤ (t_25.1 0 30).toInt ∧ (t_25.1 0 30).toInt ≤ 120 := hok.1 0 30
          replace p_28 : (t_25.1 0 30).toInt = (t_16.1 0 30).toInt + (4 : Int32).toInt := p_28
          refine lv_aload_n C.1 C.2.1 dX12_listWords_33 rfl (lv_at hl 0 rfl) ?_
          refine lv_bipush (v := 32) C.1 C.2.1 dX12_listWords_34 (by decide) ?_
          refine g_Vv (As := [.int 32]) (rest := []) C hP hD hS hA (T_X12_say l D K Z Y ad t_25 hok 32 (show (t_25.1 0 30).toInt ≤ 119 from by omega)) hE hZ (uwV m_42_13 m_42_14 m_42_15 m_1_5 m_42_16) (hdV 1 (by decide +kernel) rfl) ⟨Nat.le_of_ble_eq_true rfl, Nat.le_of_ble_eq_true rfl⟩ rfl rfl (ci := 11) (q0 := 0) rfl rfl rfl hl.1 (Nat.le_of_ble_eq_true rfl) dX12_listWords_36 ⟨Nat.le_of_ble_eq_true rfl, Nat.le_of_ble_eq_true rfl⟩ (fun t_30 H locs hw hP hD hS => ?_)
          obtain ⟨hok, f_32, p_33⟩ := hw
          have hfr : frA [(0, 30)] [] [11, 12, 13, 14] [] t t_30 := frA_tr hfr f_32 rfl
          have h_34 : (0 : Int) ≤ (t_30.1 0 30).toInt ∧ (t_30.1 0 30).toInt ≤ 120 := hok.1 0 30
          replace p_33 : (t_30.1 0 30).toInt = (t_25.1 0 30).toInt + 1 := p_33
          refine lv_aload_n C.1 C.2.1 dX12_listWords_39 rfl (lv_at hl 0 rfl) ?_
          refine lv_aload_n C.1 C.2.1 dX12_listWords_40 rfl (lv_at hl 0 rfl) ?_
          refine lv_iload_n C.1 C.2.1 dX12_listWords_41 rfl (lv_at hl 2 rfl) ?_
          refine g_Vi (As := [.int w4_2]) (rest := [.ref (ad 0)]) C hP hD hS hA (T_X12_memoryAt l D K Z Y ad t_30 hok (w4_2) (show (-3999 : Int) ≤ (w4_2 : Int32).toInt ∧ (w4_2 : Int32).toInt ≤ 3999 from ⟨by omega, by omega⟩)) hE hZ (uwV m_38_19 m_38_20 m_38_21 m_1_5 m_38_22) (hdV 1 (by decide +kernel) rfl) ⟨Nat.le_of_ble_eq_true rfl, Nat.le_of_ble_eq_true rfl⟩ rfl rfl (ci := 11) (q0 := 0) rfl rfl rfl hl.1 (Nat.le_of_ble_eq_true rfl) dX12_listWords_42 ⟨Nat.le_of_ble_eq_true rfl, Nat.le_of_ble_eq_true rfl⟩ (fun r_36 t_35 H locs hw hP hD hS => ?_)
          obtain ⟨h_38, h_39⟩ := hw
          refine g_Vv (As := [.int r_36]) (rest := []) C hP hD hS hA (T_X12_sayParts l D K Z Y ad t_30 hok (r_36) (show (t_30.1 0 30).toInt ≤ 105 from by omega)) hE hZ (uwV m_63_20 m_63_21 m_63_22 m_1_5 m_63_23) (hdV 1 (by decide +kernel) rfl) ⟨Nat.le_of_ble_eq_true rfl, Nat.le_of_ble_eq_true rfl⟩ rfl rfl (ci := 11) (q0 := 0) rfl rfl rfl hl.1 (Nat.le_of_ble_eq_true rfl) dX12_listWords_45 ⟨Nat.le_of_ble_eq_true rfl, Nat.le_of_ble_eq_true rfl⟩ (fun t_40 H locs hw hP hD hS => ?_)
          obtain ⟨hok, f_42, p_43⟩ := hw
          have hfr : frA [(0, 30)] [] [11, 12, 13, 14] [] t t_40 := frA_tr hfr f_42 rfl
          have h_44 : (0 : Int) ≤ (t_40.1 0 30).toInt ∧ (t_40.1 0 30).toInt ≤ 120 := hok.1 0 30
          replace p_43 : (t_40.1 0 30).toInt = (t_30.1 0 30).toInt + 15 := p_43
          refine lv_aload_n C.1 C.2.1 dX12_listWords_48 rfl (lv_at hl 0 rfl) ?_
          refine lv_aload_n C.1 C.2.1 dX12_listWords_49 rfl (lv_at hl 0 rfl) ?_
          refine lv_iload_n C.1 C.2.1 dX12_listWords_50 rfl (lv_at hl 2 rfl) ?_
          refine g_Vi (As := [.int w4_2]) (rest := [.ref (ad 0)]) C hP hD hS hA (T_X12_memoryAt l D K Z Y ad t_40 hok (w4_2) (show (-3999 : Int) ≤ (w4_2 : Int32).toInt ∧ (w4_2 : Int32).toInt ≤ 3999 from ⟨by omega, by omega⟩)) hE hZ (uwV m_38_19 m_38_20 m_38_21 m_1_5 m_38_22) (hdV 1 (by decide +kernel) rfl) ⟨Nat.le_of_ble_eq_true rfl, Nat.le_of_ble_eq_true rfl⟩ rfl rfl (ci := 11) (q0 := 0) rfl rfl rfl hl.1 (Nat.le_of_ble_eq_true rfl) dX12_listWords_51 ⟨Nat.le_of_ble_eq_true rfl, Nat.le_of_ble_eq_true rfl⟩ (fun r_46 t_45 H locs hw hP hD hS => ?_)
          obtain ⟨h_48, h_49⟩ := hw
          refine g_Vv (As := [.int r_46]) (rest := []) C hP hD hS hA (T_X12_sayName l D K Z Y ad t_40 hok (r_46) (show (t_40.1 0 30).toInt ≤ 110 from by omega)) hE hZ (uwV m_64_4 m_64_5 m_64_6 m_1_5 m_64_7) (hdV 1 (by decide +kernel) rfl) ⟨Nat.le_of_ble_eq_true rfl, Nat.le_of_ble_eq_true rfl⟩ rfl rfl (ci := 11) (q0 := 0) rfl rfl rfl hl.1 (Nat.le_of_ble_eq_true rfl) dX12_listWords_54 ⟨Nat.le_of_ble_eq_true rfl, Nat.le_of_ble_eq_true rfl⟩ (fun t_50 H locs hw hP hD hS => ?_)
          obtain ⟨hok, f_52, p_53, p_54⟩ := hw
          have hfr : frA [(0, 30)] [] [11, 12, 13, 14] [] t t_50 := frA_tr hfr f_52 rfl
          have h_55 : (0 : Int) ≤ (t_50.1 0 30).toInt ∧ (t_50.1 0 30).toInt ≤ 120 := hok.1 0 30
          replace p_53 : (t_40.1 0 30).toInt ≤ (t_50.1 0 30).toInt := p_53
          replace p_54 : (t_50.1 0 30).toInt ≤ (t_40.1 0 30).toInt + 4 := p_54
          refine lv_aload_n C.1 C.2.1 dX12_listWords_57 rfl (lv_at hl 0 rfl) ?_
          refine lv_bipush (v := 18) C.1 C.2.1 dX12_listWords_58 (by decide) ?_
          refine g_Vv (As := [.int 18]) (rest := []) C hP hD hS hA (T_X12_print l D K Z Y ad t_50 hok 18 (show (17 : Int) ≤ (18 : Int32).toInt ∧ (18 : Int32).toInt ≤ 19 from ⟨by decide, by decide⟩)) hE hZ (uwV m_42_21 m_42_22 m_42_23 m_1_5 m_43_0) (hdV 1 (by decide +kernel) rfl) ⟨Nat.le_of_ble_eq_true rfl, Nat.le_of_ble_eq_true rfl⟩ rfl rfl (ci := 11) (q0 := 0) rfl rfl rfl hl.1 (Nat.le_of_ble_eq_true rfl) dX12_listWords_60 ⟨Nat.le_of_ble_eq_true rfl, Nat.le_of_ble_eq_true rfl⟩ (fun t_56 H locs hw hP hD hS => ?_)
          obtain ⟨hok, f_58⟩ := hw
          have hfr : frA [(0, 30)] [] [11, 12, 13, 14] [] t t_56 := frA_tr hfr f_58 rfl
          have h_59 : (0 : Int) ≤ (t_56.1 0 30).toInt ∧ (t_56.1 0 30).toInt ≤ 120 := hok.1 0 30
          obtain ⟨v_60, e_61⟩ : ∃ z, z = w4_1 + 1 := ⟨_, rfl⟩
          refine lv_iinc (v := v_60) (lv' := [(1, .int v_60), (0, .ref (ad 0)), (2, .int w4_2)]) C.1 C.2.1 dX12_listWords_63 hl (k := 1) rfl e_61.symm (by decide) rfl (fun ls hl => ?_)
          have hl : lv_has ls 3 [(0, .ref (ad 0)), (1, .int v_60), (2, .int w4_2)] := lv_sub hl [1, 0, 2] rfl
          exact L_66 t_56 v_60 w4_2 _ _ _ hok hfr ⟨by omega, by omega⟩ (show (4000 : Int) - w4_2.toInt < (fuel_4 : Int) + 1 from by omega) hP hD hS (lv_sub hl [0, 1, 2] rfl)
        · replace c_15 : r_10.toInt = 0 := i_eq c_15
          refine lv_goto (tgt := 66) C.1 C.2.1 dX12_listWords_19 (by decide) ?_
          exact L_66 t1 w4_1 w4_2 _ _ _ hok hfr ⟨by omega, by omega⟩ (show (4000 : Int) - w4_2.toInt < (fuel_4 : Int) + 1 from by omega) hP hD hS (lv_sub hl [0, 1, 2] rfl)
  refine lv_iconst (v := 0) C.1 C.2.1 dX12_listWords_0 (by decide) ?_
  refine lv_istore_n (lv' := [(1, .int 0), (0, .ref (ad 0))]) C.1 C.2.1 dX12_listWords_1 rfl hl (by decide) rfl (fun ls hl => ?_)
  have hl : lv_has ls 3 [(0, .ref (ad 0)), (1, .int 0)] := lv_sub hl [1, 0] rfl
  refine lv_iconst (v := 0) C.1 C.2.1 dX12_listWords_2 (by decide) ?_
  refine lv_istore_n (lv' := [(2, .int 0), (0, .ref (ad 0)), (1, .int 0)]) C.1 C.2.1 dX12_listWords_3 rfl hl (by decide) rfl (fun ls hl => ?_)
  have hl : lv_has ls 3 [(0, .ref (ad 0)), (1, .int 0), (2, .int 0)] := lv_sub hl [1, 2, 0] rfl
  exact L_4 4001 t 0 0 _ _ _ hok hfr ⟨by decide, by decide⟩ (show (4000 : Int) - 0 < ((4001 : Nat) : Int) from by omega) hP hD hS (lv_sub hl [0, 1, 2] rfl)
