theorem dX5_bounded_0 : decode cX5_bounded 0 = .ok (.aload_n 0, 1) := by decide +kernel
theorem dX5_bounded_1 : decode cX5_bounded 1 = .ok (.invokevirtual 126, 3) := by decide +kernel
theorem dX5_bounded_12 : decode cX5_bounded 12 = .ok (.iload_n 2, 1) := by decide +kernel
theorem dX5_bounded_13 : decode cX5_bounded 13 = .ok (.iload_n 1, 1) := by decide +kernel
theorem dX5_bounded_14 : decode cX5_bounded 14 = .ok (.if_icmp .le 8, 3) := by decide +kernel
theorem dX5_bounded_17 : decode cX5_bounded 17 = .ok (.aload_n 0, 1) := by decide +kernel
theorem dX5_bounded_18 : decode cX5_bounded 18 = .ok (.iconst 5, 1) := by decide +kernel
theorem dX5_bounded_19 : decode cX5_bounded 19 = .ok (.invokevirtual 99, 3) := by decide +kernel
theorem dX5_bounded_22 : decode cX5_bounded 22 = .ok (.iload_n 2, 1) := by decide +kernel
theorem dX5_bounded_23 : decode cX5_bounded 23 = .ok (.ireturn, 1) := by decide +kernel
theorem dX5_bounded_4 : decode cX5_bounded 4 = .ok (.invokestatic 109, 3) := by decide +kernel
theorem dX5_bounded_7 : decode cX5_bounded 7 = .ok (.istore_n 2, 1) := by decide +kernel
theorem dX5_bounded_8 : decode cX5_bounded 8 = .ok (.iload_n 2, 1) := by decide +kernel
theorem dX5_bounded_9 : decode cX5_bounded 9 = .ok (.ifCond .lt 8, 3) := by decide +kernel
set_option maxHeartbeats 4000000 in
set_option maxRecDepth 100000 in
theorem T_X5_bounded (l : Launch) (D : va_G) (K : Nat → ClassId) (Z Y : Nat → Nat) (ad : Nat → Nat) (d : dSt) (t : tSt) (hok : okX t) (x1 : Int32) (hx1 : (6 : Int) ≤ x1.toInt ∧ x1.toInt ≤ 63) : tMet l yX5_bounded cX5_bounded 3 (some .int) (rmD 4 0 0) D K Z Y [.ref (ad 24), .int x1] ((WX d) K ad t) (QI D K (fun (r : Int32) (u : tSt) => okX u ∧ frA [(23, 6), (24, 2), (24, 4), (24, 8)] [(24, 7), (24, 9)] [44, 45] [] t u ∧ (-1073741824 : Int) ≤ r.toInt ∧ r.toInt ≤ 1073741823) (fun (u : tSt) => (WX d) K ad u)) 0 0 := by
  refine t_met RX5 ⟨rfl, by decide +kernel⟩ (Nat.le_of_ble_eq_true rfl) ?_
  intro p e s m below meth c A ls C hE hZ hr hlocks hA hP hD hS hl
  have hl : lv_has ls 3 [(0, .ref (ad 24)), (1, .int x1)] := hl
  have hokt := hok
  have hfr : frA [(23, 6), (24, 2), (24, 4), (24, 8)] [(24, 7), (24, 9)] [44, 45] [] t t := frA_rf
  have L_17 : ∀ (t1 : tSt) (w17_2 : Int32) (H : Heap) (locs : List Loc) (ls : Array Slot), okX t1 → frA [(23, 6), (24, 2), (24, 4), (24, 8)] [(24, 7), (24, 9)] [44, 45] [] t t1 → (-1073741824 : Int) ≤ w17_2.toInt ∧ w17_2.toInt ≤ 1073741823 → va_P D vwCl ((WX d) K ad t1) H → va_D A ((WX d) K ad t1) → va_S A s.heap H locs → lv_has ls 3 [(0, .ref (ad 24)), (1, .int x1), (2, .int w17_2)] → W p l e (rmD 4 0 0) s m [.ref (ad 24), .int x1].toArray below meth c H locs 0 0 (MQ below (QI D K (fun (r : Int32) (u : tSt) => okX u ∧ frA [(23, 6), (24, 2), (24, 4), (24, 8)] [(24, 7), (24, 9)] [44, 45] [] t u ∧ (-1073741824 : Int) ≤ r.toInt ∧ r.toInt ≤ 1073741823) (fun (u : tSt) => (WX d) K ad u) A) [.ref (ad 24), .int x1].toArray s 0 0 A) (F0 m 17 ls []) := by
    intro t1 w17_2 H locs ls hok hfr hw17_2 hP hD hS hl
    refine lv_aload_n C.1 C.2.1 dX5_bounded_17 rfl (lv_at hl 0 rfl) ?_
    refine lv_iconst (v := 5) C.1 C.2.1 dX5_bounded_18 (by decide) ?_
    refine g_Vv (As := [.int 5]) (rest := []) C hP hD hS hA (T_X5_fail l D K Z Y ad d t1 hok 5 (show (1 : Int) ≤ (5 : Int32).toInt ∧ (5 : Int32).toInt ≤ 6 from ⟨by decide, by decide⟩)) hE hZ (uwV m_23_0 m_23_1 m_23_2 m_5_22 m_23_3) (hdV 1 (by decide +kernel) rfl) ⟨Nat.le_of_ble_eq_true rfl, Nat.le_of_ble_eq_true rfl⟩ rfl rfl (ci := 4) (q0 := 24) rfl rfl rfl hl.1 (Nat.le_of_ble_eq_true rfl) dX5_bounded_19 ⟨Nat.le_of_ble_eq_true rfl, Nat.le_of_ble_eq_true rfl⟩ (fun t_1 H locs hw hP hD hS => ?_)
    obtain ⟨hok, f_3⟩ := hw
    have hfr : frA [(23, 6), (24, 2), (24, 4), (24, 8)] [(24, 7), (24, 9)] [44, 45] [] t t_1 := frA_tr hfr f_3 rfl
    refine lv_iload_n C.1 C.2.1 dX5_bounded_22 rfl (lv_at hl 2 rfl) ?_
    exact g_iret C hr hlocks hP hD hS rfl t_1 rfl ⟨hok, hfr, by omega, by omega⟩ (Nat.le_of_ble_eq_true rfl) (Nat.le_of_ble_eq_true rfl) dX5_bounded_23
  refine lv_aload_n C.1 C.2.1 dX5_bounded_0 rfl (lv_at hl 0 rfl) ?_
  refine g_Vi (As := []) (rest := []) C hP hD hS hA (T_X5_expression l D K Z Y ad d t hok ) hE hZ (uwV m_21_16 m_21_17 m_21_18 m_5_22 m_21_19) (hdV 0 (by decide +kernel) rfl) ⟨Nat.le_of_ble_eq_true rfl, Nat.le_of_ble_eq_true rfl⟩ rfl rfl (ci := 4) (q0 := 24) rfl rfl rfl hl.1 (Nat.le_of_ble_eq_true rfl) dX5_bounded_1 ⟨Nat.le_of_ble_eq_true rfl, Nat.le_of_ble_eq_true rfl⟩ (fun r_5 t_4 H locs hw hP hD hS => ?_)
  obtain ⟨hok, f_6, h_7, h_8⟩ := hw
  have hfr : frA [(23, 6), (24, 2), (24, 4), (24, 8)] [(24, 7), (24, 9)] [44, 45] [] t t_4 := frA_tr hfr f_6 rfl
  refine g_Si (As := [.int r_5]) (rest := []) C hP hD hS hA (T_X1_value l D K Z Y ad d t_4 hok (r_5)) hE hZ (uwS m_23_8 m_23_9 m_14_2 m_23_10) (hdS 1 (by decide +kernel) rfl) ⟨Nat.le_of_ble_eq_true rfl, Nat.le_of_ble_eq_true rfl⟩ rfl rfl rfl hl.1 (Nat.le_of_ble_eq_true rfl) dX5_bounded_4 ⟨Nat.le_of_ble_eq_true rfl, Nat.le_of_ble_eq_true rfl⟩ (fun r_10 t_9 H locs hw hP hD hS => ?_)
  obtain ⟨h_12, h_13⟩ := hw
  refine lv_istore_n (lv' := [(2, .int r_10), (0, .ref (ad 24)), (1, .int x1)]) C.1 C.2.1 dX5_bounded_7 rfl hl (by decide) rfl (fun ls hl => ?_)
  have hl : lv_has ls 3 [(0, .ref (ad 24)), (1, .int x1), (2, .int r_10)] := lv_sub hl [1, 2, 0] rfl
  refine lv_iload_n C.1 C.2.1 dX5_bounded_8 rfl (lv_at hl 2 rfl) ?_
  refine lv_if_lt (tgt := 17) C.1 C.2.1 dX5_bounded_9 (by decide) (fun c_14 => ?_) (fun c_14 => ?_)
  · replace c_14 : r_10.toInt < 0 := i_lt c_14
    exact L_17 t_4 r_10 _ _ _ hok hfr ⟨by omega, by omega⟩ hP hD hS (lv_sub hl [0, 1, 2] rfl)
  · replace c_14 : 0 ≤ r_10.toInt := i_nlt c_14
    refine lv_iload_n C.1 C.2.1 dX5_bounded_12 rfl (lv_at hl 2 rfl) ?_
    refine lv_iload_n C.1 C.2.1 dX5_bounded_13 rfl (lv_at hl 1 rfl) ?_
    refine lv_icmp_le (tgt := 22) C.1 C.2.1 dX5_bounded_14 (by decide) (fun c_15 => ?_) (fun c_15 => ?_)
    · replace c_15 : r_10.toInt ≤ x1.toInt := i_le c_15
      refine lv_iload_n C.1 C.2.1 dX5_bounded_22 rfl (lv_at hl 2 rfl) ?_
      exact g_iret C hr hlocks hP hD hS rfl t_4 rfl ⟨hok, hfr, by omega, by omega⟩ (Nat.le_of_ble_eq_true rfl) (Nat.le_of_ble_eq_true rfl) dX5_bounded_23
    · replace c_15 : x1.toInt < r_10.toInt := i_nle c_15
      exact L_17 t_4 r_10 _ _ _ hok hfr ⟨by omega, by omega⟩ hP hD hS (lv_sub hl [0, 1, 2] rfl)

theorem dX0_workEnd_0 : decode cX0_workEnd 0 = .ok (.aload_n 0, 1) := by decide +kernel
theorem dX0_workEnd_1 : decode cX0_workEnd 1 = .ok (.invokevirtual 233, 3) := by decide +kernel
theorem dX0_workEnd_10 : decode cX0_workEnd 10 = .ok (.putfield 236, 3) := by decide +kernel
theorem dX0_workEnd_100 : decode cX0_workEnd 100 = .ok (.ifCond .eq 5, 3) := by decide +kernel
theorem dX0_workEnd_103 : decode cX0_workEnd 103 = .ok (.iconst 5, 1) := by decide +kernel
theorem dX0_workEnd_104 : decode cX0_workEnd 104 = .ok (.ireturn, 1) := by decide +kernel
theorem dX0_workEnd_105 : decode cX0_workEnd 105 = .ok (.iload_n 1, 1) := by decide +kernel
theorem dX0_workEnd_106 : decode cX0_workEnd 106 = .ok (.aload_n 0, 1) := by decide +kernel
theorem dX0_workEnd_107 : decode cX0_workEnd 107 = .ok (.getfield 70, 3) := by decide +kernel
theorem dX0_workEnd_110 : decode cX0_workEnd 110 = .ok (.if_icmp .le 13, 3) := by decide +kernel
theorem dX0_workEnd_113 : decode cX0_workEnd 113 = .ok (.iload_n 1, 1) := by decide +kernel
theorem dX0_workEnd_114 : decode cX0_workEnd 114 = .ok (.sipush 4000, 3) := by decide +kernel
theorem dX0_workEnd_117 : decode cX0_workEnd 117 = .ok (.if_icmp .le 6, 3) := by decide +kernel
theorem dX0_workEnd_120 : decode cX0_workEnd 120 = .ok (.bipush 6, 2) := by decide +kernel
theorem dX0_workEnd_122 : decode cX0_workEnd 122 = .ok (.ireturn, 1) := by decide +kernel
theorem dX0_workEnd_123 : decode cX0_workEnd 123 = .ok (.aload_n 0, 1) := by decide +kernel
theorem dX0_workEnd_124 : decode cX0_workEnd 124 = .ok (.aload_n 0, 1) := by decide +kernel
theorem dX0_workEnd_125 : decode cX0_workEnd 125 = .ok (.getfield 70, 3) := by decide +kernel
theorem dX0_workEnd_128 : decode cX0_workEnd 128 = .ok (.i2l, 1) := by decide +kernel
theorem dX0_workEnd_129 : decode cX0_workEnd 129 = .ok (.invokestatic 192, 3) := by decide +kernel
theorem dX0_workEnd_13 : decode cX0_workEnd 13 = .ok (.aload_n 0, 1) := by decide +kernel
theorem dX0_workEnd_132 : decode cX0_workEnd 132 = .ok (.invokevirtual 195, 3) := by decide +kernel
theorem dX0_workEnd_135 : decode cX0_workEnd 135 = .ok (.aload_n 0, 1) := by decide +kernel
theorem dX0_workEnd_136 : decode cX0_workEnd 136 = .ok (.invokevirtual 245, 3) := by decide +kernel
theorem dX0_workEnd_139 : decode cX0_workEnd 139 = .ok (.aload_n 0, 1) := by decide +kernel
theorem dX0_workEnd_14 : decode cX0_workEnd 14 = .ok (.getfield 47, 3) := by decide +kernel
theorem dX0_workEnd_140 : decode cX0_workEnd 140 = .ok (.iload_n 2, 1) := by decide +kernel
theorem dX0_workEnd_141 : decode cX0_workEnd 141 = .ok (.putfield 84, 3) := by decide +kernel
theorem dX0_workEnd_144 : decode cX0_workEnd 144 = .ok (.iconst 0, 1) := by decide +kernel
theorem dX0_workEnd_145 : decode cX0_workEnd 145 = .ok (.ireturn, 1) := by decide +kernel
theorem dX0_workEnd_17 : decode cX0_workEnd 17 = .ok (.invokevirtual 161, 3) := by decide +kernel
theorem dX0_workEnd_20 : decode cX0_workEnd 20 = .ok (.invokestatic 218, 3) := by decide +kernel
theorem dX0_workEnd_23 : decode cX0_workEnd 23 = .ok (.istore_n 2, 1) := by decide +kernel
theorem dX0_workEnd_24 : decode cX0_workEnd 24 = .ok (.iload_n 2, 1) := by decide +kernel
theorem dX0_workEnd_25 : decode cX0_workEnd 25 = .ok (.aload_n 0, 1) := by decide +kernel
theorem dX0_workEnd_26 : decode cX0_workEnd 26 = .ok (.getfield 75, 3) := by decide +kernel
theorem dX0_workEnd_29 : decode cX0_workEnd 29 = .ok (.if_icmp .lt 10, 3) := by decide +kernel
theorem dX0_workEnd_32 : decode cX0_workEnd 32 = .ok (.iload_n 2, 1) := by decide +kernel
theorem dX0_workEnd_33 : decode cX0_workEnd 33 = .ok (.sipush 3999, 3) := by decide +kernel
theorem dX0_workEnd_36 : decode cX0_workEnd 36 = .ok (.if_icmp .le 11, 3) := by decide +kernel
theorem dX0_workEnd_39 : decode cX0_workEnd 39 = .ok (.aload_n 0, 1) := by decide +kernel
theorem dX0_workEnd_4 : decode cX0_workEnd 4 = .ok (.istore_n 1, 1) := by decide +kernel
theorem dX0_workEnd_40 : decode cX0_workEnd 40 = .ok (.getfield 47, 3) := by decide +kernel
theorem dX0_workEnd_43 : decode cX0_workEnd 43 = .ok (.iconst 5, 1) := by decide +kernel
theorem dX0_workEnd_44 : decode cX0_workEnd 44 = .ok (.invokevirtual 221, 3) := by decide +kernel
theorem dX0_workEnd_47 : decode cX0_workEnd 47 = .ok (.aload_n 0, 1) := by decide +kernel
theorem dX0_workEnd_48 : decode cX0_workEnd 48 = .ok (.getfield 47, 3) := by decide +kernel
theorem dX0_workEnd_5 : decode cX0_workEnd 5 = .ok (.aload_n 0, 1) := by decide +kernel
theorem dX0_workEnd_51 : decode cX0_workEnd 51 = .ok (.invokevirtual 186, 3) := by decide +kernel
theorem dX0_workEnd_54 : decode cX0_workEnd 54 = .ok (.aload_n 0, 1) := by decide +kernel
theorem dX0_workEnd_55 : decode cX0_workEnd 55 = .ok (.getfield 47, 3) := by decide +kernel
theorem dX0_workEnd_58 : decode cX0_workEnd 58 = .ok (.getfield 189, 3) := by decide +kernel
theorem dX0_workEnd_6 : decode cX0_workEnd 6 = .ok (.getfield 47, 3) := by decide +kernel
theorem dX0_workEnd_61 : decode cX0_workEnd 61 = .ok (.ifCond .eq 15, 3) := by decide +kernel
theorem dX0_workEnd_64 : decode cX0_workEnd 64 = .ok (.aload_n 0, 1) := by decide +kernel
theorem dX0_workEnd_65 : decode cX0_workEnd 65 = .ok (.invokevirtual 239, 3) := by decide +kernel
theorem dX0_workEnd_68 : decode cX0_workEnd 68 = .ok (.aload_n 0, 1) := by decide +kernel
theorem dX0_workEnd_69 : decode cX0_workEnd 69 = .ok (.getfield 47, 3) := by decide +kernel
theorem dX0_workEnd_72 : decode cX0_workEnd 72 = .ok (.getfield 189, 3) := by decide +kernel
theorem dX0_workEnd_75 : decode cX0_workEnd 75 = .ok (.ireturn, 1) := by decide +kernel
theorem dX0_workEnd_76 : decode cX0_workEnd 76 = .ok (.aload_n 0, 1) := by decide +kernel
theorem dX0_workEnd_77 : decode cX0_workEnd 77 = .ok (.aload_n 0, 1) := by decide +kernel
theorem dX0_workEnd_78 : decode cX0_workEnd 78 = .ok (.getfield 25, 3) := by decide +kernel
theorem dX0_workEnd_81 : decode cX0_workEnd 81 = .ok (.getfield 98, 3) := by decide +kernel
theorem dX0_workEnd_84 : decode cX0_workEnd 84 = .ok (.putfield 78, 3) := by decide +kernel
theorem dX0_workEnd_87 : decode cX0_workEnd 87 = .ok (.iload_n 1, 1) := by decide +kernel
theorem dX0_workEnd_88 : decode cX0_workEnd 88 = .ok (.iconst 1, 1) := by decide +kernel
theorem dX0_workEnd_89 : decode cX0_workEnd 89 = .ok (.isub, 1) := by decide +kernel
theorem dX0_workEnd_9 : decode cX0_workEnd 9 = .ok (.iload_n 1, 1) := by decide +kernel
theorem dX0_workEnd_90 : decode cX0_workEnd 90 = .ok (.sipush 4095, 3) := by decide +kernel
theorem dX0_workEnd_93 : decode cX0_workEnd 93 = .ok (.if_icmp .gt 10, 3) := by decide +kernel
theorem dX0_workEnd_96 : decode cX0_workEnd 96 = .ok (.aload_n 0, 1) := by decide +kernel
theorem dX0_workEnd_97 : decode cX0_workEnd 97 = .ok (.invokevirtual 242, 3) := by decide +kernel
set_option maxHeartbeats 4000000 in
set_option maxRecDepth 100000 in
theorem T_X0_workEnd (l : Launch) (D : va_G) (K : Nat → ClassId) (Z Y : Nat → Nat) (ad : Nat → Nat) (d : dSt) (t : tSt) (hok : okX t)  : tMet l yX0_workEnd cX0_workEnd 3 (some .int) (rmD 5 0 0) D K Z Y [.ref (ad 5)] ((WX d) K ad t) (QI D K (fun (r : Int32) (u : tSt) => okX u ∧ frA [(5, 9), (5, 15), (5, 16), (5, 17), (23, 3), (23, 6), (24, 2), (24, 4), (24, 5), (24, 8)] [(24, 7), (24, 9)] [10, 28, 42, 43, 44, 45, 46, 47, 49, 50] [25, 41] t u ∧ (0 : Int) ≤ r.toInt ∧ r.toInt ≤ 6) (fun (u : tSt) => (WX d) K ad u)) 0 0 := by
  refine t_met RX0 ⟨rfl, by decide +kernel⟩ (Nat.le_of_ble_eq_true rfl) ?_
  intro p e s m below meth c A ls C hE hZ hr hlocks hA hP hD hS hl
  have hl : lv_has ls 3 [(0, .ref (ad 5))] := hl
  have hokt := hok
  have hfr : frA [(5, 9), (5, 15), (5, 16), (5, 17), (23, 3), (23, 6), (24, 2), (24, 4), (24, 5), (24, 8)] [(24, 7), (24, 9)] [10, 28, 42, 43, 44, 45, 46, 47, 49, 50] [25, 41] t t := frA_rf
  have L_123 : ∀ (t1 : tSt) (w123_1 : Int32) (w123_2 : Int32) (H : Heap) (locs : List Loc) (ls : Array Slot), okX t1 → frA [(5, 9), (5, 15), (5, 16), (5, 17), (23, 3), (23, 6), (24, 2), (24, 4), (24, 5), (24, 8)] [(24, 7), (24, 9)] [10, 28, 42, 43, 44, 45, 46, 47, 49, 50] [25, 41] t t1 → (-2147483648 : Int) ≤ w123_1.toInt ∧ w123_1.toInt ≤ 1073741824 → (-1073741824 : Int) ≤ w123_2.toInt ∧ w123_2.toInt ≤ 1073741823 → (0 : Int) ≤ (t1.1 24 4).toInt ∧ (t1.1 24 4).toInt ≤ 0 → va_P D vwCl ((WX d) K ad t1) H → va_D A ((WX d) K ad t1) → va_S A s.heap H locs → lv_has ls 3 [(0, .ref (ad 5)), (1, .int w123_1), (2, .int w123_2)] → W p l e (rmD 5 0 0) s m [.ref (ad 5)].toArray below meth c H locs 0 0 (MQ below (QI D K (fun (r : Int32) (u : tSt) => okX u ∧ frA [(5, 9), (5, 15), (5, 16), (5, 17), (23, 3), (23, 6), (24, 2), (24, 4), (24, 5), (24, 8)] [(24, 7), (24, 9)] [10, 28, 42, 43, 44, 45, 46, 47, 49, 50] [25, 41] t u ∧ (0 : Int) ≤ r.toInt ∧ r.toInt ≤ 6) (fun (u : tSt) => (WX d) K ad u) A) [.ref (ad 5)].toArray s 0 0 A) (F0 m 123 ls []) := by
    intro t1 w123_1 w123_2 H locs ls hok hfr hw123_1 hw123_2 hf123_4 hP hD hS hl
    refine lv_aload_n C.1 C.2.1 dX0_workEnd_123 rfl (lv_at hl 0 rfl) ?_
    refine lv_aload_n C.1 C.2.1 dX0_workEnd_124 rfl (lv_at hl 0 rfl) ?_
    have h_1 : (-1073741824 : Int) ≤ (t1.1 5 9).toInt ∧ (t1.1 5 9).toInt ≤ 1073741824 := hok.1 5 9
    refine k_get (v := .int (t1.1 5 9)) C hP 5 rfl rfl inlX0 9 (by decide) m_12_3 rfl dX0_workEnd_125 ?_
    obtain ⟨v_2, e_3⟩ : ∃ z, z = ((t1.1 5 9) : Int32).toInt64 := ⟨_, rfl⟩
    have h_4 : v_2.toInt = (t1.1 5 9).toInt := by rw [e_3]; exact Jvm.Kit.i64_of_i32 _
    refine lv_i2l (v := v_2) C.1 C.2.1 dX0_workEnd_128 e_3.symm ?_
    refine g_Si (As := [.long v_2]) (rest := [.ref (ad 5)]) C hP hD hS hA (T_X1_wordOf l D K Z Y ad d t1 hok (v_2)) hE hZ (uwS m_25_10 m_22_11 m_14_2 m_22_12) (hdS 1 (by decide +kernel) rfl) ⟨Nat.le_of_ble_eq_true rfl, Nat.le_of_ble_eq_true rfl⟩ rfl rfl rfl hl.1 (Nat.le_of_ble_eq_true rfl) dX0_workEnd_129 ⟨Nat.le_of_ble_eq_true rfl, Nat.le_of_ble_eq_true rfl⟩ (fun r_6 t_5 H locs hw hP hD hS => ?_)
    obtain ⟨h_8, h_9⟩ := hw
    refine g_Vv (As := [.int r_6]) (rest := []) C hP hD hS hA (T_X0_define l D K Z Y ad d t1 hok (r_6)) hE hZ (uwV m_25_11 m_25_12 m_25_13 m_2_2 m_25_14) (hdV 1 (by decide +kernel) rfl) ⟨Nat.le_of_ble_eq_true rfl, Nat.le_of_ble_eq_true rfl⟩ rfl rfl (ci := 0) (q0 := 5) rfl rfl rfl hl.1 (Nat.le_of_ble_eq_true rfl) dX0_workEnd_132 ⟨Nat.le_of_ble_eq_true rfl, Nat.le_of_ble_eq_true rfl⟩ (fun t_10 H locs hw hP hD hS => ?_)
    obtain ⟨hok, f_12⟩ := hw
    have hfr : frA [(5, 9), (5, 15), (5, 16), (5, 17), (23, 3), (23, 6), (24, 2), (24, 4), (24, 5), (24, 8)] [(24, 7), (24, 9)] [10, 28, 42, 43, 44, 45, 46, 47, 49, 50] [25, 41] t t_10 := frA_tr hfr f_12 rfl
    have h_13 : (t_10.1 24 4).toInt = (t1.1 24 4).toInt := ti_eq (f_12.1 24 4 rfl)
    have h_14 : (t_10.1 5 9).toInt = (t1.1 5 9).toInt := ti_eq (f_12.1 5 9 rfl)
    refine lv_aload_n C.1 C.2.1 dX0_workEnd_135 rfl (lv_at hl 0 rfl) ?_
    refine g_Vv (As := []) (rest := []) C hP hD hS hA (T_X0_layComing l D K Z Y ad d t_10 hok ) hE hZ (uwV m_27_20 m_27_21 m_27_22 m_2_2 m_27_23) (hdV 0 (by decide +kernel) rfl) ⟨Nat.le_of_ble_eq_true rfl, Nat.le_of_ble_eq_true rfl⟩ rfl rfl (ci := 0) (q0 := 5) rfl rfl rfl hl.1 (Nat.le_of_ble_eq_true rfl) dX0_workEnd_136 ⟨Nat.le_of_ble_eq_true rfl, Nat.le_of_ble_eq_true rfl⟩ (fun t_15 H locs hw hP hD hS => ?_)
    obtain ⟨hok, f_17⟩ := hw
    have hfr : frA [(5, 9), (5, 15), (5, 16), (5, 17), (23, 3), (23, 6), (24, 2), (24, 4), (24, 5), (24, 8)] [(24, 7), (24, 9)] [10, 28, 42, 43, 44, 45, 46, 47, 49, 50] [25, 41] t t_15 := frA_tr hfr f_17 rfl
    have h_18 : (t_15.1 24 4).toInt = (t_10.1 24 4).toInt := ti_eq (f_17.1 24 4 rfl)
    refine lv_aload_n C.1 C.2.1 dX0_workEnd_139 rfl (lv_at hl 0 rfl) ?_
    refine lv_iload_n C.1 C.2.1 dX0_workEnd_140 rfl (lv_at hl 2 rfl) ?_
    refine k_put (ws' := (WX d) K ad (uI t_15 5 17 w123_2)) (v := .int w123_2) C hP hD hS 5 rfl rfl inlX0 tyX0_ok nmX0 17 (by decide) m_12_7 rfl rfl rfl rfl rfl dX0_workEnd_141 (fun H locs hP hD hS => ?_)
    have hok : okX (uI t_15 5 17 w123_2) := ⟨okI_I hok.1 5 17 w123_2 (show (-1073741824 : Int) ≤ (w123_2 : Int32).toInt ∧ (w123_2 : Int32).toInt ≤ 1073741823 from ⟨by omega, by omega⟩), hok.2.1, trivial⟩
    have hfr : frA [(5, 9), (5, 15), (5, 16), (5, 17), (23, 3), (23, 6), (24, 2), (24, 4), (24, 5), (24, 8)] [(24, 7), (24, 9)] [10, 28, 42, 43, 44, 45, 46, 47, 49, 50] [25, 41] t (uI t_15 5 17 w123_2) := frA_I hfr 5 17 _ rfl
    refine lv_iconst (v := 0) C.1 C.2.1 dX0_workEnd_144 (by decide) ?_
    exact g_iret C hr hlocks hP hD hS rfl (uI t_15 5 17 w123_2) rfl ⟨hok, hfr, by decide, by decide⟩ (Nat.le_of_ble_eq_true rfl) (Nat.le_of_ble_eq_true rfl) dX0_workEnd_145
  have L_47 : ∀ (t1 : tSt) (w47_1 : Int32) (w47_2 : Int32) (H : Heap) (locs : List Loc) (ls : Array Slot), okX t1 → frA [(5, 9), (5, 15), (5, 16), (5, 17), (23, 3), (23, 6), (24, 2), (24, 4), (24, 5), (24, 8)] [(24, 7), (24, 9)] [10, 28, 42, 43, 44, 45, 46, 47, 49, 50] [25, 41] t t1 → (-1073741824 : Int) ≤ w47_2.toInt ∧ w47_2.toInt ≤ 1073741823 → va_P D vwCl ((WX d) K ad t1) H → va_D A ((WX d) K ad t1) → va_S A s.heap H locs → lv_has ls 3 [(0, .ref (ad 5)), (1, .int w47_1), (2, .int w47_2)] → W p l e (rmD 5 0 0) s m [.ref (ad 5)].toArray below meth c H locs 0 0 (MQ below (QI D K (fun (r : Int32) (u : tSt) => okX u ∧ frA [(5, 9), (5, 15), (5, 16), (5, 17), (23, 3), (23, 6), (24, 2), (24, 4), (24, 5), (24, 8)] [(24, 7), (24, 9)] [10, 28, 42, 43, 44, 45, 46, 47, 49, 50] [25, 41] t u ∧ (0 : Int) ≤ r.toInt ∧ r.toInt ≤ 6) (fun (u : tSt) => (WX d) K ad u) A) [.ref (ad 5)].toArray s 0 0 A) (F0 m 47 ls []) := by
    intro t1 w47_1 w47_2 H locs ls hok hfr hw47_2 hP hD hS hl
    refine lv_aload_n C.1 C.2.1 dX0_workEnd_47 rfl (lv_at hl 0 rfl) ?_
    refine k_get (v := .ref (ad 24)) C hP 5 rfl rfl inlX0 3 (by decide) m_6_0 rfl dX0_workEnd_48 ?_
    refine g_Vv (As := []) (rest := []) C hP hD hS hA (T_X5_finish l D K Z Y ad d t1 hok ) hE hZ (uwV m_25_6 m_25_7 m_25_8 m_5_22 m_25_9) (hdV 0 (by decide +kernel) rfl) ⟨Nat.le_of_ble_eq_true rfl, Nat.le_of_ble_eq_true rfl⟩ rfl rfl (ci := 4) (q0 := 24) rfl rfl rfl hl.1 (Nat.le_of_ble_eq_true rfl) dX0_workEnd_51 ⟨Nat.le_of_ble_eq_true rfl, Nat.le_of_ble_eq_true rfl⟩ (fun t_19 H locs hw hP hD hS => ?_)
    obtain ⟨hok, f_21⟩ := hw
    have hfr : frA [(5, 9), (5, 15), (5, 16), (5, 17), (23, 3), (23, 6), (24, 2), (24, 4), (24, 5), (24, 8)] [(24, 7), (24, 9)] [10, 28, 42, 43, 44, 45, 46, 47, 49, 50] [25, 41] t t_19 := frA_tr hfr f_21 rfl
    refine lv_aload_n C.1 C.2.1 dX0_workEnd_54 rfl (lv_at hl 0 rfl) ?_
    refine k_get (v := .ref (ad 24)) C hP 5 rfl rfl inlX0 3 (by decide) m_6_0 rfl dX0_workEnd_55 ?_
    have h_22 : (0 : Int) ≤ (t_19.1 24 4).toInt ∧ (t_19.1 24 4).toInt ≤ 6 := hok.1 24 4
    refine k_get (v := .int (t_19.1 24 4)) C hP 24 rfl rfl inlX5 4 (by decide) m_21_6 rfl dX0_workEnd_58 ?_
    refine lv_if_eq (tgt := 76) C.1 C.2.1 dX0_workEnd_61 (by decide) (fun c_23 => ?_) (fun c_23 => ?_)
    · replace c_23 : (t_19.1 24 4).toInt = 0 := i_eq c_23
      refine lv_aload_n C.1 C.2.1 dX0_workEnd_76 rfl (lv_at hl 0 rfl) ?_
      refine lv_aload_n C.1 C.2.1 dX0_workEnd_77 rfl (lv_at hl 0 rfl) ?_
      refine k_get (v := .ref (ad 2)) C hP 5 rfl rfl inlX0 0 (by decide) m_5_17 rfl dX0_workEnd_78 ?_
      refine k_get (v := .int (t_19.1 2 5)) C hP 2 rfl rfl inlX9 5 (by decide) m_13_16 rfl dX0_workEnd_81 ?_
      refine k_put (ws' := (WX d) K ad (uI t_19 5 15 (t_19.1 2 5))) (v := .int (t_19.1 2 5)) C hP hD hS 5 rfl rfl inlX0 tyX0_ok nmX0 15 (by decide) m_12_5 rfl rfl rfl rfl rfl dX0_workEnd_84 (fun H locs hP hD hS => ?_)
      have hok : okX (uI t_19 5 15 (t_19.1 2 5)) := ⟨okI_I hok.1 5 15 (t_19.1 2 5) (show (-2147483648 : Int) ≤ ((t_19.1 2 5) : Int32).toInt ∧ ((t_19.1 2 5) : Int32).toInt ≤ 2147483647 from (i_rng _)), hok.2.1, trivial⟩
      have hfr : frA [(5, 9), (5, 15), (5, 16), (5, 17), (23, 3), (23, 6), (24, 2), (24, 4), (24, 5), (24, 8)] [(24, 7), (24, 9)] [10, 28, 42, 43, 44, 45, 46, 47, 49, 50] [25, 41] t (uI t_19 5 15 (t_19.1 2 5)) := frA_I hfr 5 15 _ rfl
      refine lv_iload_n C.1 C.2.1 dX0_workEnd_87 rfl (lv_at hl 1 rfl) ?_
      refine lv_iconst (v := 1) C.1 C.2.1 dX0_workEnd_88 (by decide) ?_
      obtain ⟨v_24, e_25⟩ : ∃ z, z = (w47_1 : Int32) - (1 : Int32) := ⟨_, rfl⟩
      refine k_isub (v := v_24) C e_25.symm dX0_workEnd_89 ?_
      refine lv_sipush (v := 4095) C.1 C.2.1 dX0_workEnd_90 (by decide) ?_
      refine lv_icmp_gt (tgt := 103) C.1 C.2.1 dX0_workEnd_93 (by decide) (fun c_27 => ?_) (fun c_27 => ?_)
      · replace c_27 : 4095 < v_24.toInt := i_lt c_27
        refine lv_iconst (v := 5) C.1 C.2.1 dX0_workEnd_103 (by decide) ?_
        exact g_iret C hr hlocks hP hD hS rfl (uI t_19 5 15 (t_19.1 2 5)) rfl ⟨hok, hfr, by decide, by decide⟩ (Nat.le_of_ble_eq_true rfl) (Nat.le_of_ble_eq_true rfl) dX0_workEnd_104
      · replace c_27 : v_24.toInt ≤ 4095 := i_nlt c_27
        refine lv_aload_n C.1 C.2.1 dX0_workEnd_96 rfl (lv_at hl 0 rfl) ?_
        refine g_Vi (As := []) (rest := []) C hP hD hS hA (T_X0_hasWideUse l D K Z Y ad d (uI t_19 5 15 (t_19.1 2 5)) hok ) hE hZ (uwV m_27_13 m_27_14 m_27_15 m_2_2 m_27_16) (hdV 0 (by decide +kernel) rfl) ⟨Nat.le_of_ble_eq_true rfl, Nat.le_of_ble_eq_true rfl⟩ rfl rfl (ci := 0) (q0 := 5) rfl rfl rfl hl.1 (Nat.le_of_ble_eq_true rfl) dX0_workEnd_97 ⟨Nat.le_of_ble_eq_true rfl, Nat.le_of_ble_eq_true rfl⟩ (fun r_29 t_28 H locs hw hP hD hS => ?_)
        obtain ⟨h_31, h_32⟩ := hw
        refine lv_if_eq (tgt := 105) C.1 C.2.1 dX0_workEnd_100 (by decide) (fun c_33 => ?_) (fun c_33 => ?_)
        · replace c_33 : r_29.toInt = 0 := i_eq c_33
          refine lv_iload_n C.1 C.2.1 dX0_workEnd_105 rfl (lv_at hl 1 rfl) ?_
          refine lv_aload_n C.1 C.2.1 dX0_workEnd_106 rfl (lv_at hl 0 rfl) ?_
          have h_34 : (-1073741824 : Int) ≤ (t_19.1 5 9).toInt ∧ (t_19.1 5 9).toInt ≤ 1073741824 := hok.1 5 9
          refine k_get (v := .int (t_19.1 5 9)) C hP 5 rfl rfl inlX0 9 (by decide) m_12_3 rfl dX0_workEnd_107 ?_
          refine lv_icmp_le (tgt := 123) C.1 C.2.1 dX0_workEnd_110 (by decide) (fun c_35 => ?_) (fun c_35 => ?_)
          · replace c_35 : w47_1.toInt ≤ (t_19.1 5 9).toInt := i_le c_35
            exact L_123 (uI t_19 5 15 (t_19.1 2 5)) w47_1 w47_2 _ _ _ hok hfr ⟨(i_rng _).1, by omega⟩ ⟨by omega, by omega⟩ (show (0 : Int) ≤ ((t_19.1 24 4) : Int32).toInt ∧ ((t_19.1 24 4) : Int32).toInt ≤ 0 from ⟨by omega, by omega⟩) hP hD hS (lv_sub hl [0, 1, 2] rfl)
          · replace c_35 : (t_19.1 5 9).toInt < w47_1.toInt := i_nle c_35
            refine lv_iload_n C.1 C.2.1 dX0_workEnd_113 rfl (lv_at hl 1 rfl) ?_
            refine lv_sipush (v := 4000) C.1 C.2.1 dX0_workEnd_114 (by decide) ?_
            refine lv_icmp_le (tgt := 123) C.1 C.2.1 dX0_workEnd_117 (by decide) (fun c_36 => ?_) (fun c_36 => ?_)
            · replace c_36 : w47_1.toInt ≤ 4000 := i_le c_36
              exact L_123 (uI t_19 5 15 (t_19.1 2 5)) w47_1 w47_2 _ _ _ hok hfr ⟨(i_rng _).1, by omega⟩ ⟨by omega, by omega⟩ (show (0 : Int) ≤ ((t_19.1 24 4) : Int32).toInt ∧ ((t_19.1 24 4) : Int32).toInt ≤ 0 from ⟨by omega, by omega⟩) hP hD hS (lv_sub hl [0, 1, 2] rfl)
            · replace c_36 : 4000 < w47_1.toInt := i_nle c_36
              refine lv_bipush (v := 6) C.1 C.2.1 dX0_workEnd_120 (by decide) ?_
              exact g_iret C hr hlocks hP hD hS rfl (uI t_19 5 15 (t_19.1 2 5)) rfl ⟨hok, hfr, by decide, by decide⟩ (Nat.le_of_ble_eq_true rfl) (Nat.le_of_ble_eq_true rfl) dX0_workEnd_122
        · replace c_33 : ¬ r_29.toInt = 0 := i_ne c_33
          refine lv_iconst (v := 5) C.1 C.2.1 dX0_workEnd_103 (by decide) ?_
          exact g_iret C hr hlocks hP hD hS rfl (uI t_19 5 15 (t_19.1 2 5)) rfl ⟨hok, hfr, by decide, by decide⟩ (Nat.le_of_ble_eq_true rfl) (Nat.le_of_ble_eq_true rfl) dX0_workEnd_104
    · replace c_23 : ¬ (t_19.1 24 4).toInt = 0 := i_ne c_23
      refine lv_aload_n C.1 C.2.1 dX0_workEnd_64 rfl (lv_at hl 0 rfl) ?_
      refine g_Vv (As := []) (rest := []) C hP hD hS hA (T_X0_forgetComing l D K Z Y ad d t_19 hok ) hE hZ (uwV m_27_8 m_27_9 m_27_10 m_2_2 m_27_11) (hdV 0 (by decide +kernel) rfl) ⟨Nat.le_of_ble_eq_true rfl, Nat.le_of_ble_eq_true rfl⟩ rfl rfl (ci := 0) (q0 := 5) rfl rfl rfl hl.1 (Nat.le_of_ble_eq_true rfl) dX0_workEnd_65 ⟨Nat.le_of_ble_eq_true rfl, Nat.le_of_ble_eq_true rfl⟩ (fun t_37 H locs hw hP hD hS => ?_)
      obtain ⟨hok, f_39⟩ := hw
      have hfr : frA [(5, 9), (5, 15), (5, 16), (5, 17), (23, 3), (23, 6), (24, 2), (24, 4), (24, 5), (24, 8)] [(24, 7), (24, 9)] [10, 28, 42, 43, 44, 45, 46, 47, 49, 50] [25, 41] t t_37 := frA_tr hfr f_39 rfl
      have h_40 : (t_37.1 24 4).toInt = (t_19.1 24 4).toInt := ti_eq (f_39.1 24 4 rfl)
      refine lv_aload_n C.1 C.2.1 dX0_workEnd_68 rfl (lv_at hl 0 rfl) ?_
      refine k_get (v := .ref (ad 24)) C hP 5 rfl rfl inlX0 3 (by decide) m_6_0 rfl dX0_workEnd_69 ?_
      refine k_get (v := .int (t_37.1 24 4)) C hP 24 rfl rfl inlX5 4 (by decide) m_21_6 rfl dX0_workEnd_72 ?_
      exact g_iret C hr hlocks hP hD hS rfl t_37 rfl ⟨hok, hfr, by omega, by omega⟩ (Nat.le_of_ble_eq_true rfl) (Nat.le_of_ble_eq_true rfl) dX0_workEnd_75
  have L_39 : ∀ (t1 : tSt) (w39_1 : Int32) (w39_2 : Int32) (H : Heap) (locs : List Loc) (ls : Array Slot), okX t1 → frA [(5, 9), (5, 15), (5, 16), (5, 17), (23, 3), (23, 6), (24, 2), (24, 4), (24, 5), (24, 8)] [(24, 7), (24, 9)] [10, 28, 42, 43, 44, 45, 46, 47, 49, 50] [25, 41] t t1 → (-1073741824 : Int) ≤ w39_2.toInt ∧ w39_2.toInt ≤ 1073741823 → va_P D vwCl ((WX d) K ad t1) H → va_D A ((WX d) K ad t1) → va_S A s.heap H locs → lv_has ls 3 [(0, .ref (ad 5)), (1, .int w39_1), (2, .int w39_2)] → W p l e (rmD 5 0 0) s m [.ref (ad 5)].toArray below meth c H locs 0 0 (MQ below (QI D K (fun (r : Int32) (u : tSt) => okX u ∧ frA [(5, 9), (5, 15), (5, 16), (5, 17), (23, 3), (23, 6), (24, 2), (24, 4), (24, 5), (24, 8)] [(24, 7), (24, 9)] [10, 28, 42, 43, 44, 45, 46, 47, 49, 50] [25, 41] t u ∧ (0 : Int) ≤ r.toInt ∧ r.toInt ≤ 6) (fun (u : tSt) => (WX d) K ad u) A) [.ref (ad 5)].toArray s 0 0 A) (F0 m 39 ls []) := by
    intro t1 w39_1 w39_2 H locs ls hok hfr hw39_2 hP hD hS hl
    refine lv_aload_n C.1 C.2.1 dX0_workEnd_39 rfl (lv_at hl 0 rfl) ?_
    refine k_get (v := .ref (ad 24)) C hP 5 rfl rfl inlX0 3 (by decide) m_6_0 rfl dX0_workEnd_40 ?_
    refine lv_iconst (v := 5) C.1 C.2.1 dX0_workEnd_43 (by decide) ?_
    refine g_Vv (As := [.int 5]) (rest := []) C hP hD hS hA (T_X5_fail l D K Z Y ad d t1 hok 5 (show (1 : Int) ≤ (5 : Int32).toInt ∧ (5 : Int32).toInt ≤ 6 from ⟨by decide, by decide⟩)) hE hZ (uwV m_27_7 m_23_1 m_23_2 m_5_22 m_23_3) (hdV 1 (by decide +kernel) rfl) ⟨Nat.le_of_ble_eq_true rfl, Nat.le_of_ble_eq_true rfl⟩ rfl rfl (ci := 4) (q0 := 24) rfl rfl rfl hl.1 (Nat.le_of_ble_eq_true rfl) dX0_workEnd_44 ⟨Nat.le_of_ble_eq_true rfl, Nat.le_of_ble_eq_true rfl⟩ (fun t_41 H locs hw hP hD hS => ?_)
    obtain ⟨hok, f_43⟩ := hw
    have hfr : frA [(5, 9), (5, 15), (5, 16), (5, 17), (23, 3), (23, 6), (24, 2), (24, 4), (24, 5), (24, 8)] [(24, 7), (24, 9)] [10, 28, 42, 43, 44, 45, 46, 47, 49, 50] [25, 41] t t_41 := frA_tr hfr f_43 rfl
    exact L_47 t_41 w39_1 w39_2 _ _ _ hok hfr ⟨by omega, by omega⟩ hP hD hS (lv_sub hl [0, 1, 2] rfl)
  refine lv_aload_n C.1 C.2.1 dX0_workEnd_0 rfl (lv_at hl 0 rfl) ?_
  refine g_Vi (As := []) (rest := []) C hP hD hS hA (T_X0_placeComing l D K Z Y ad d t hok ) hE hZ (uwV m_26_23 m_27_0 m_27_1 m_2_2 m_27_2) (hdV 0 (by decide +kernel) rfl) ⟨Nat.le_of_ble_eq_true rfl, Nat.le_of_ble_eq_true rfl⟩ rfl rfl (ci := 0) (q0 := 5) rfl rfl rfl hl.1 (Nat.le_of_ble_eq_true rfl) dX0_workEnd_1 ⟨Nat.le_of_ble_eq_true rfl, Nat.le_of_ble_eq_true rfl⟩ (fun r_45 t_44 H locs hw hP hD hS => ?_)
  obtain ⟨hok, f_46, h_47, h_48⟩ := hw
  have hfr : frA [(5, 9), (5, 15), (5, 16), (5, 17), (23, 3), (23, 6), (24, 2), (24, 4), (24, 5), (24, 8)] [(24, 7), (24, 9)] [10, 28, 42, 43, 44, 45, 46, 47, 49, 50] [25, 41] t t_44 := frA_tr hfr f_46 rfl
  refine lv_istore_n (lv' := [(1, .int r_45), (0, .ref (ad 5))]) C.1 C.2.1 dX0_workEnd_4 rfl hl (by decide) rfl (fun ls hl => ?_)
  have hl : lv_has ls 3 [(0, .ref (ad 5)), (1, .int r_45)] := lv_sub hl [1, 0] rfl
  refine lv_aload_n C.1 C.2.1 dX0_workEnd_5 rfl (lv_at hl 0 rfl) ?_
  refine k_get (v := .ref (ad 24)) C hP 5 rfl rfl inlX0 3 (by decide) m_6_0 rfl dX0_workEnd_6 ?_
  refine lv_iload_n C.1 C.2.1 dX0_workEnd_9 rfl (lv_at hl 1 rfl) ?_
  refine k_put (ws' := (WX d) K ad (uI t_44 24 5 r_45)) (v := .int r_45) C hP hD hS 24 rfl rfl inlX5 tyX5_ok nmX5 5 (by decide) m_26_22 rfl rfl rfl rfl rfl dX0_workEnd_10 (fun H locs hP hD hS => ?_)
  have hok : okX (uI t_44 24 5 r_45) := ⟨okI_I hok.1 24 5 r_45 (show (-2147483648 : Int) ≤ (r_45 : Int32).toInt ∧ (r_45 : Int32).toInt ≤ 2147483647 from (i_rng _)), hok.2.1, trivial⟩
  have hfr : frA [(5, 9), (5, 15), (5, 16), (5, 17), (23, 3), (23, 6), (24, 2), (24, 4), (24, 5), (24, 8)] [(24, 7), (24, 9)] [10, 28, 42, 43, 44, 45, 46, 47, 49, 50] [25, 41] t (uI t_44 24 5 r_45) := frA_I hfr 24 5 _ rfl
  refine lv_aload_n C.1 C.2.1 dX0_workEnd_13 rfl (lv_at hl 0 rfl) ?_
  refine k_get (v := .ref (ad 24)) C hP 5 rfl rfl inlX0 3 (by decide) m_6_0 rfl dX0_workEnd_14 ?_
  refine g_Vi (As := []) (rest := []) C hP hD hS hA (T_X5_wValue l D K Z Y ad d (uI t_44 24 5 r_45) hok ) hE hZ (uwV m_21_12 m_21_13 m_21_14 m_5_22 m_21_15) (hdV 0 (by decide +kernel) rfl) ⟨Nat.le_of_ble_eq_true rfl, Nat.le_of_ble_eq_true rfl⟩ rfl rfl (ci := 4) (q0 := 24) rfl rfl rfl hl.1 (Nat.le_of_ble_eq_true rfl) dX0_workEnd_17 ⟨Nat.le_of_ble_eq_true rfl, Nat.le_of_ble_eq_true rfl⟩ (fun r_50 t_49 H locs hw hP hD hS => ?_)
  obtain ⟨hok, f_51, h_52, h_53⟩ := hw
  have hfr : frA [(5, 9), (5, 15), (5, 16), (5, 17), (23, 3), (23, 6), (24, 2), (24, 4), (24, 5), (24, 8)] [(24, 7), (24, 9)] [10, 28, 42, 43, 44, 45, 46, 47, 49, 50] [25, 41] t t_49 := frA_tr hfr f_51 rfl
  have h_54 : (t_49.1 24 5).toInt = r_45.toInt := ti_eq (f_51.1 24 5 rfl)
  refine g_Si (As := [.int r_50]) (rest := []) C hP hD hS hA (T_X1_value l D K Z Y ad d t_49 hok (r_50)) hE hZ (uwS m_27_6 m_23_9 m_14_2 m_23_10) (hdS 1 (by decide +kernel) rfl) ⟨Nat.le_of_ble_eq_true rfl, Nat.le_of_ble_eq_true rfl⟩ rfl rfl rfl hl.1 (Nat.le_of_ble_eq_true rfl) dX0_workEnd_20 ⟨Nat.le_of_ble_eq_true rfl, Nat.le_of_ble_eq_true rfl⟩ (fun r_56 t_55 H locs hw hP hD hS => ?_)
  obtain ⟨h_58, h_59⟩ := hw
  refine lv_istore_n (lv' := [(2, .int r_56), (0, .ref (ad 5)), (1, .int r_45)]) C.1 C.2.1 dX0_workEnd_23 rfl hl (by decide) rfl (fun ls hl => ?_)
  have hl : lv_has ls 3 [(0, .ref (ad 5)), (1, .int r_45), (2, .int r_56)] := lv_sub hl [1, 2, 0] rfl
  refine lv_iload_n C.1 C.2.1 dX0_workEnd_24 rfl (lv_at hl 2 rfl) ?_
  refine lv_aload_n C.1 C.2.1 dX0_workEnd_25 rfl (lv_at hl 0 rfl) ?_
  have h_60 : (-3999 : Int) ≤ (t_49.1 5 10).toInt ∧ (t_49.1 5 10).toInt ≤ 0 := hok.1 5 10
  refine k_get (v := .int (t_49.1 5 10)) C hP 5 rfl rfl inlX0 10 (by decide) m_12_4 rfl dX0_workEnd_26 ?_
  refine lv_icmp_lt (tgt := 39) C.1 C.2.1 dX0_workEnd_29 (by decide) (fun c_61 => ?_) (fun c_61 => ?_)
  · replace c_61 : r_56.toInt < (t_49.1 5 10).toInt := i_lt c_61
    exact L_39 t_49 r_45 r_56 _ _ _ hok hfr ⟨by omega, by omega⟩ hP hD hS (lv_sub hl [0, 1, 2] rfl)
  · replace c_61 : (t_49.1 5 10).toInt ≤ r_56.toInt := i_nlt c_61
    refine lv_iload_n C.1 C.2.1 dX0_workEnd_32 rfl (lv_at hl 2 rfl) ?_
    refine lv_sipush (v := 3999) C.1 C.2.1 dX0_workEnd_33 (by decide) ?_
    refine lv_icmp_le (tgt := 47) C.1 C.2.1 dX0_workEnd_36 (by decide) (fun c_62 => ?_) (fun c_62 => ?_)
    · replace c_62 : r_56.toInt ≤ 3999 := i_le c_62
      exact L_47 t_49 r_45 r_56 _ _ _ hok hfr ⟨by omega, by omega⟩ hP hD hS (lv_sub hl [0, 1, 2] rfl)
    · replace c_62 : 3999 < r_56.toInt := i_nle c_62
      exact L_39 t_49 r_45 r_56 _ _ _ hok hfr ⟨by omega, by omega⟩ hP hD hS (lv_sub hl [0, 1, 2] rfl)

theorem dX0_workOther_0 : decode cX0_workOther 0 = .ok (.iconst 0, 1) := by decide +kernel
theorem dX0_workOther_1 : decode cX0_workOther 1 = .ok (.istore_n 1, 1) := by decide +kernel
theorem dX0_workOther_101 : decode cX0_workOther 101 = .ok (.if_icmp .eq 10, 3) := by decide +kernel
theorem dX0_workOther_104 : decode cX0_workOther 104 = .ok (.aload_n 0, 1) := by decide +kernel
theorem dX0_workOther_105 : decode cX0_workOther 105 = .ok (.getfield 47, 3) := by decide +kernel
theorem dX0_workOther_108 : decode cX0_workOther 108 = .ok (.invokevirtual 186, 3) := by decide +kernel
theorem dX0_workOther_111 : decode cX0_workOther 111 = .ok (.aload_n 0, 1) := by decide +kernel
theorem dX0_workOther_112 : decode cX0_workOther 112 = .ok (.getfield 105, 3) := by decide +kernel
theorem dX0_workOther_115 : decode cX0_workOther 115 = .ok (.sipush 147, 3) := by decide +kernel
theorem dX0_workOther_118 : decode cX0_workOther 118 = .ok (.if_icmp .eq 13, 3) := by decide +kernel
theorem dX0_workOther_12 : decode cX0_workOther 12 = .ok (.bipush 16, 2) := by decide +kernel
theorem dX0_workOther_121 : decode cX0_workOther 121 = .ok (.aload_n 0, 1) := by decide +kernel
theorem dX0_workOther_122 : decode cX0_workOther 122 = .ok (.getfield 105, 3) := by decide +kernel
theorem dX0_workOther_125 : decode cX0_workOther 125 = .ok (.sipush 148, 3) := by decide +kernel
theorem dX0_workOther_128 : decode cX0_workOther 128 = .ok (.if_icmp .ne 7, 3) := by decide +kernel
theorem dX0_workOther_131 : decode cX0_workOther 131 = .ok (.iconst 1, 1) := by decide +kernel
theorem dX0_workOther_132 : decode cX0_workOther 132 = .ok (.goto 4, 3) := by decide +kernel
theorem dX0_workOther_135 : decode cX0_workOther 135 = .ok (.iconst 0, 1) := by decide +kernel
theorem dX0_workOther_136 : decode cX0_workOther 136 = .ok (.istore_n 3, 1) := by decide +kernel
theorem dX0_workOther_137 : decode cX0_workOther 137 = .ok (.iload_n 3, 1) := by decide +kernel
theorem dX0_workOther_138 : decode cX0_workOther 138 = .ok (.ifCond .eq 22, 3) := by decide +kernel
theorem dX0_workOther_14 : decode cX0_workOther 14 = .ok (.istore_n 2, 1) := by decide +kernel
theorem dX0_workOther_141 : decode cX0_workOther 141 = .ok (.aload_n 0, 1) := by decide +kernel
theorem dX0_workOther_142 : decode cX0_workOther 142 = .ok (.getfield 70, 3) := by decide +kernel
theorem dX0_workOther_145 : decode cX0_workOther 145 = .ok (.sipush 3999, 3) := by decide +kernel
theorem dX0_workOther_148 : decode cX0_workOther 148 = .ok (.if_icmp .le 12, 3) := by decide +kernel
theorem dX0_workOther_15 : decode cX0_workOther 15 = .ok (.iload_n 2, 1) := by decide +kernel
theorem dX0_workOther_151 : decode cX0_workOther 151 = .ok (.aload_n 0, 1) := by decide +kernel
theorem dX0_workOther_152 : decode cX0_workOther 152 = .ok (.getfield 47, 3) := by decide +kernel
theorem dX0_workOther_155 : decode cX0_workOther 155 = .ok (.bipush 6, 2) := by decide +kernel
theorem dX0_workOther_157 : decode cX0_workOther 157 = .ok (.invokevirtual 221, 3) := by decide +kernel
theorem dX0_workOther_16 : decode cX0_workOther 16 = .ok (.bipush 21, 2) := by decide +kernel
theorem dX0_workOther_160 : decode cX0_workOther 160 = .ok (.aload_n 0, 1) := by decide +kernel
theorem dX0_workOther_161 : decode cX0_workOther 161 = .ok (.getfield 47, 3) := by decide +kernel
theorem dX0_workOther_164 : decode cX0_workOther 164 = .ok (.getfield 189, 3) := by decide +kernel
theorem dX0_workOther_167 : decode cX0_workOther 167 = .ok (.ifCond .eq 11, 3) := by decide +kernel
theorem dX0_workOther_170 : decode cX0_workOther 170 = .ok (.aload_n 0, 1) := by decide +kernel
theorem dX0_workOther_171 : decode cX0_workOther 171 = .ok (.getfield 47, 3) := by decide +kernel
theorem dX0_workOther_174 : decode cX0_workOther 174 = .ok (.getfield 189, 3) := by decide +kernel
theorem dX0_workOther_177 : decode cX0_workOther 177 = .ok (.ireturn, 1) := by decide +kernel
theorem dX0_workOther_178 : decode cX0_workOther 178 = .ok (.aload_n 0, 1) := by decide +kernel
theorem dX0_workOther_179 : decode cX0_workOther 179 = .ok (.aload_n 0, 1) := by decide +kernel
theorem dX0_workOther_18 : decode cX0_workOther 18 = .ok (.if_icmp .ge 27, 3) := by decide +kernel
theorem dX0_workOther_180 : decode cX0_workOther 180 = .ok (.getfield 105, 3) := by decide +kernel
theorem dX0_workOther_183 : decode cX0_workOther 183 = .ok (.sipush 145, 3) := by decide +kernel
theorem dX0_workOther_186 : decode cX0_workOther 186 = .ok (.if_icmp .ne 7, 3) := by decide +kernel
theorem dX0_workOther_189 : decode cX0_workOther 189 = .ok (.iload_n 1, 1) := by decide +kernel
theorem dX0_workOther_190 : decode cX0_workOther 190 = .ok (.goto 11, 3) := by decide +kernel
theorem dX0_workOther_193 : decode cX0_workOther 193 = .ok (.aload_n 0, 1) := by decide +kernel
theorem dX0_workOther_194 : decode cX0_workOther 194 = .ok (.getfield 70, 3) := by decide +kernel
theorem dX0_workOther_197 : decode cX0_workOther 197 = .ok (.i2l, 1) := by decide +kernel
theorem dX0_workOther_198 : decode cX0_workOther 198 = .ok (.invokestatic 192, 3) := by decide +kernel
theorem dX0_workOther_2 : decode cX0_workOther 2 = .ok (.aload_n 0, 1) := by decide +kernel
theorem dX0_workOther_201 : decode cX0_workOther 201 = .ok (.invokevirtual 195, 3) := by decide +kernel
theorem dX0_workOther_204 : decode cX0_workOther 204 = .ok (.aload_n 0, 1) := by decide +kernel
theorem dX0_workOther_205 : decode cX0_workOther 205 = .ok (.getfield 105, 3) := by decide +kernel
theorem dX0_workOther_208 : decode cX0_workOther 208 = .ok (.sipush 146, 3) := by decide +kernel
theorem dX0_workOther_21 : decode cX0_workOther 21 = .ok (.iload_n 1, 1) := by decide +kernel
theorem dX0_workOther_211 : decode cX0_workOther 211 = .ok (.if_icmp .ne 11, 3) := by decide +kernel
theorem dX0_workOther_214 : decode cX0_workOther 214 = .ok (.aload_n 0, 1) := by decide +kernel
theorem dX0_workOther_215 : decode cX0_workOther 215 = .ok (.iload_n 2, 1) := by decide +kernel
theorem dX0_workOther_216 : decode cX0_workOther 216 = .ok (.putfield 70, 3) := by decide +kernel
theorem dX0_workOther_219 : decode cX0_workOther 219 = .ok (.goto 12, 3) := by decide +kernel
theorem dX0_workOther_22 : decode cX0_workOther 22 = .ok (.bipush 6, 2) := by decide +kernel
theorem dX0_workOther_222 : decode cX0_workOther 222 = .ok (.iload_n 3, 1) := by decide +kernel
theorem dX0_workOther_223 : decode cX0_workOther 223 = .ok (.ifCond .eq 8, 3) := by decide +kernel
theorem dX0_workOther_226 : decode cX0_workOther 226 = .ok (.aload_n 0, 1) := by decide +kernel
theorem dX0_workOther_227 : decode cX0_workOther 227 = .ok (.iload_n 1, 1) := by decide +kernel
theorem dX0_workOther_228 : decode cX0_workOther 228 = .ok (.invokevirtual 212, 3) := by decide +kernel
theorem dX0_workOther_231 : decode cX0_workOther 231 = .ok (.iconst 0, 1) := by decide +kernel
theorem dX0_workOther_232 : decode cX0_workOther 232 = .ok (.ireturn, 1) := by decide +kernel
theorem dX0_workOther_24 : decode cX0_workOther 24 = .ok (.ishl, 1) := by decide +kernel
theorem dX0_workOther_25 : decode cX0_workOther 25 = .ok (.aload_n 0, 1) := by decide +kernel
theorem dX0_workOther_26 : decode cX0_workOther 26 = .ok (.getfield 25, 3) := by decide +kernel
theorem dX0_workOther_29 : decode cX0_workOther 29 = .ok (.getfield 38, 3) := by decide +kernel
theorem dX0_workOther_3 : decode cX0_workOther 3 = .ok (.getfield 105, 3) := by decide +kernel
theorem dX0_workOther_32 : decode cX0_workOther 32 = .ok (.iload_n 2, 1) := by decide +kernel
theorem dX0_workOther_33 : decode cX0_workOther 33 = .ok (.baload, 1) := by decide +kernel
theorem dX0_workOther_34 : decode cX0_workOther 34 = .ok (.invokestatic 215, 3) := by decide +kernel
theorem dX0_workOther_37 : decode cX0_workOther 37 = .ok (.ior, 1) := by decide +kernel
theorem dX0_workOther_38 : decode cX0_workOther 38 = .ok (.istore_n 1, 1) := by decide +kernel
theorem dX0_workOther_39 : decode cX0_workOther 39 = .ok (.iinc 2 1, 3) := by decide +kernel
theorem dX0_workOther_42 : decode cX0_workOther 42 = .ok (.goto (-27), 3) := by decide +kernel
theorem dX0_workOther_45 : decode cX0_workOther 45 = .ok (.goto 11, 3) := by decide +kernel
theorem dX0_workOther_48 : decode cX0_workOther 48 = .ok (.aload_n 0, 1) := by decide +kernel
theorem dX0_workOther_49 : decode cX0_workOther 49 = .ok (.getfield 47, 3) := by decide +kernel
theorem dX0_workOther_52 : decode cX0_workOther 52 = .ok (.invokevirtual 161, 3) := by decide +kernel
theorem dX0_workOther_55 : decode cX0_workOther 55 = .ok (.istore_n 1, 1) := by decide +kernel
theorem dX0_workOther_56 : decode cX0_workOther 56 = .ok (.iload_n 1, 1) := by decide +kernel
theorem dX0_workOther_57 : decode cX0_workOther 57 = .ok (.invokestatic 218, 3) := by decide +kernel
theorem dX0_workOther_6 : decode cX0_workOther 6 = .ok (.sipush 148, 3) := by decide +kernel
theorem dX0_workOther_60 : decode cX0_workOther 60 = .ok (.istore_n 2, 1) := by decide +kernel
theorem dX0_workOther_61 : decode cX0_workOther 61 = .ok (.aload_n 0, 1) := by decide +kernel
theorem dX0_workOther_62 : decode cX0_workOther 62 = .ok (.getfield 105, 3) := by decide +kernel
theorem dX0_workOther_65 : decode cX0_workOther 65 = .ok (.sipush 146, 3) := by decide +kernel
theorem dX0_workOther_68 : decode cX0_workOther 68 = .ok (.if_icmp .ne 26, 3) := by decide +kernel
theorem dX0_workOther_71 : decode cX0_workOther 71 = .ok (.iload_n 2, 1) := by decide +kernel
theorem dX0_workOther_72 : decode cX0_workOther 72 = .ok (.aload_n 0, 1) := by decide +kernel
theorem dX0_workOther_73 : decode cX0_workOther 73 = .ok (.getfield 75, 3) := by decide +kernel
theorem dX0_workOther_76 : decode cX0_workOther 76 = .ok (.if_icmp .lt 10, 3) := by decide +kernel
theorem dX0_workOther_79 : decode cX0_workOther 79 = .ok (.iload_n 2, 1) := by decide +kernel
theorem dX0_workOther_80 : decode cX0_workOther 80 = .ok (.sipush 4000, 3) := by decide +kernel
theorem dX0_workOther_83 : decode cX0_workOther 83 = .ok (.if_icmp .le 11, 3) := by decide +kernel
theorem dX0_workOther_86 : decode cX0_workOther 86 = .ok (.aload_n 0, 1) := by decide +kernel
theorem dX0_workOther_87 : decode cX0_workOther 87 = .ok (.getfield 47, 3) := by decide +kernel
theorem dX0_workOther_9 : decode cX0_workOther 9 = .ok (.if_icmp .ne 39, 3) := by decide +kernel
theorem dX0_workOther_90 : decode cX0_workOther 90 = .ok (.iconst 5, 1) := by decide +kernel
theorem dX0_workOther_91 : decode cX0_workOther 91 = .ok (.invokevirtual 221, 3) := by decide +kernel
theorem dX0_workOther_94 : decode cX0_workOther 94 = .ok (.aload_n 0, 1) := by decide +kernel
theorem dX0_workOther_95 : decode cX0_workOther 95 = .ok (.getfield 105, 3) := by decide +kernel
theorem dX0_workOther_98 : decode cX0_workOther 98 = .ok (.sipush 148, 3) := by decide +kernel
set_option maxHeartbeats 4000000 in
set_option maxRecDepth 100000 in
theorem T_X0_workOther (l : Launch) (D : va_G) (K : Nat → ClassId) (Z Y : Nat → Nat) (ad : Nat → Nat) (d : dSt) (t : tSt) (hok : okX t)  : tMet l yX0_workOther cX0_workOther 4 (some .int) (rmD 6 0 0) D K Z Y [.ref (ad 5)] ((WX d) K ad t) (QI D K (fun (r : Int32) (u : tSt) => okX u ∧ frA [(5, 7), (5, 9), (5, 16), (23, 3), (23, 6), (24, 2), (24, 4), (24, 8)] [(24, 7), (24, 9)] [10, 26, 27, 42, 43, 44, 45, 46, 47, 49, 50] [25, 41] t u ∧ (0 : Int) ≤ r.toInt ∧ r.toInt ≤ 6) (fun (u : tSt) => (WX d) K ad u)) 0 0 := by
  refine t_met RX0 ⟨rfl, by decide +kernel⟩ (Nat.le_of_ble_eq_true rfl) ?_
  intro p e s m below meth c A ls C hE hZ hr hlocks hA hP hD hS hl
  have hl : lv_has ls 4 [(0, .ref (ad 5))] := hl
  have hokt := hok
  have hfr : frA [(5, 7), (5, 9), (5, 16), (23, 3), (23, 6), (24, 2), (24, 4), (24, 8)] [(24, 7), (24, 9)] [10, 26, 27, 42, 43, 44, 45, 46, 47, 49, 50] [25, 41] t t := frA_rf
  have L_201 : ∀ (t1 : tSt) (w201_1 : Int32) (w201_2 : Int32) (w201_3 : Int32) (k201_1 : Int32) (H : Heap) (locs : List Loc) (ls : Array Slot), okX t1 → frA [(5, 7), (5, 9), (5, 16), (23, 3), (23, 6), (24, 2), (24, 4), (24, 8)] [(24, 7), (24, 9)] [10, 26, 27, 42, 43, 44, 45, 46, 47, 49, 50] [25, 41] t t1 → (-1073741824 : Int) ≤ w201_2.toInt ∧ w201_2.toInt ≤ 1073741823 → (0 : Int) ≤ w201_3.toInt ∧ w201_3.toInt ≤ 1 → (0 : Int) ≤ (t1.1 24 4).toInt ∧ (t1.1 24 4).toInt ≤ 0 → va_P D vwCl ((WX d) K ad t1) H → va_D A ((WX d) K ad t1) → va_S A s.heap H locs → lv_has ls 4 [(0, .ref (ad 5)), (1, .int w201_1), (2, .int w201_2), (3, .int w201_3)] → W p l e (rmD 6 0 0) s m [.ref (ad 5)].toArray below meth c H locs 0 0 (MQ below (QI D K (fun (r : Int32) (u : tSt) => okX u ∧ frA [(5, 7), (5, 9), (5, 16), (23, 3), (23, 6), (24, 2), (24, 4), (24, 8)] [(24, 7), (24, 9)] [10, 26, 27, 42, 43, 44, 45, 46, 47, 49, 50] [25, 41] t u ∧ (0 : Int) ≤ r.toInt ∧ r.toInt ≤ 6) (fun (u : tSt) => (WX d) K ad u) A) [.ref (ad 5)].toArray s 0 0 A) (F0 m 201 ls [.int k201_1, .ref (ad 5)]) := by
    intro t1 w201_1 w201_2 w201_3 k201_1 H locs ls hok hfr hw201_2 hw201_3 hf201_4 hP hD hS hl
    refine g_Vv (As := [.int k201_1]) (rest := []) C hP hD hS hA (T_X0_define l D K Z Y ad d t1 hok (k201_1)) hE hZ (uwV m_25_11 m_25_12 m_25_13 m_2_2 m_25_14) (hdV 1 (by decide +kernel) rfl) ⟨Nat.le_of_ble_eq_true rfl, Nat.le_of_ble_eq_true rfl⟩ rfl rfl (ci := 0) (q0 := 5) rfl rfl rfl hl.1 (Nat.le_of_ble_eq_true rfl) dX0_workOther_201 ⟨Nat.le_of_ble_eq_true rfl, Nat.le_of_ble_eq_true rfl⟩ (fun t_1 H locs hw hP hD hS => ?_)
    obtain ⟨hok, f_3⟩ := hw
    have hfr : frA [(5, 7), (5, 9), (5, 16), (23, 3), (23, 6), (24, 2), (24, 4), (24, 8)] [(24, 7), (24, 9)] [10, 26, 27, 42, 43, 44, 45, 46, 47, 49, 50] [25, 41] t t_1 := frA_tr hfr f_3 rfl
    have h_4 : (t_1.1 24 4).toInt = (t1.1 24 4).toInt := ti_eq (f_3.1 24 4 rfl)
    refine lv_aload_n C.1 C.2.1 dX0_workOther_204 rfl (lv_at hl 0 rfl) ?_
    have h_5 : (-1 : Int) ≤ (t_1.1 5 11).toInt ∧ (t_1.1 5 11).toInt ≤ 156 := hok.1 5 11
    refine k_get (v := .int (t_1.1 5 11)) C hP 5 rfl rfl inlX0 11 (by decide) m_13_17 rfl dX0_workOther_205 ?_
    refine lv_sipush (v := 146) C.1 C.2.1 dX0_workOther_208 (by decide) ?_
    refine lv_icmp_ne (tgt := 222) C.1 C.2.1 dX0_workOther_211 (by decide) (fun c_6 => ?_) (fun c_6 => ?_)
    · replace c_6 : ¬ (t_1.1 5 11).toInt = 146 := i_ne c_6
      refine lv_iload_n C.1 C.2.1 dX0_workOther_222 rfl (lv_at hl 3 rfl) ?_
      refine lv_if_eq (tgt := 231) C.1 C.2.1 dX0_workOther_223 (by decide) (fun c_7 => ?_) (fun c_7 => ?_)
      · replace c_7 : w201_3.toInt = 0 := i_eq c_7
        refine lv_iconst (v := 0) C.1 C.2.1 dX0_workOther_231 (by decide) ?_
        exact g_iret C hr hlocks hP hD hS rfl t_1 rfl ⟨hok, hfr, by decide, by decide⟩ (Nat.le_of_ble_eq_true rfl) (Nat.le_of_ble_eq_true rfl) dX0_workOther_232
      · replace c_7 : ¬ w201_3.toInt = 0 := i_ne c_7
        refine lv_aload_n C.1 C.2.1 dX0_workOther_226 rfl (lv_at hl 0 rfl) ?_
        refine lv_iload_n C.1 C.2.1 dX0_workOther_227 rfl (lv_at hl 1 rfl) ?_
        refine g_Vv (As := [.int w201_1]) (rest := []) C hP hD hS hA (T_X0_put l D K Z Y ad d t_1 hok (w201_1)) hE hZ (uwV m_26_10 m_26_11 m_26_12 m_2_2 m_26_13) (hdV 1 (by decide +kernel) rfl) ⟨Nat.le_of_ble_eq_true rfl, Nat.le_of_ble_eq_true rfl⟩ rfl rfl (ci := 0) (q0 := 5) rfl rfl rfl hl.1 (Nat.le_of_ble_eq_true rfl) dX0_workOther_228 ⟨Nat.le_of_ble_eq_true rfl, Nat.le_of_ble_eq_true rfl⟩ (fun t_8 H locs hw hP hD hS => ?_)
        obtain ⟨hok, f_10⟩ := hw
        have hfr : frA [(5, 7), (5, 9), (5, 16), (23, 3), (23, 6), (24, 2), (24, 4), (24, 8)] [(24, 7), (24, 9)] [10, 26, 27, 42, 43, 44, 45, 46, 47, 49, 50] [25, 41] t t_8 := frA_tr hfr f_10 rfl
        have h_11 : (t_8.1 24 4).toInt = (t_1.1 24 4).toInt := ti_eq (f_10.1 24 4 rfl)
        have h_12 : (t_8.1 5 11).toInt = (t_1.1 5 11).toInt := ti_eq (f_10.1 5 11 rfl)
        refine lv_iconst (v := 0) C.1 C.2.1 dX0_workOther_231 (by decide) ?_
        exact g_iret C hr hlocks hP hD hS rfl t_8 rfl ⟨hok, hfr, by decide, by decide⟩ (Nat.le_of_ble_eq_true rfl) (Nat.le_of_ble_eq_true rfl) dX0_workOther_232
    · replace c_6 : (t_1.1 5 11).toInt = 146 := i_eq c_6
      refine lv_aload_n C.1 C.2.1 dX0_workOther_214 rfl (lv_at hl 0 rfl) ?_
      refine lv_iload_n C.1 C.2.1 dX0_workOther_215 rfl (lv_at hl 2 rfl) ?_
      refine k_put (ws' := (WX d) K ad (uI t_1 5 9 w201_2)) (v := .int w201_2) C hP hD hS 5 rfl rfl inlX0 tyX0_ok nmX0 9 (by decide) m_12_3 rfl rfl rfl rfl rfl dX0_workOther_216 (fun H locs hP hD hS => ?_)
      have hok : okX (uI t_1 5 9 w201_2) := ⟨okI_I hok.1 5 9 w201_2 (show (-1073741824 : Int) ≤ (w201_2 : Int32).toInt ∧ (w201_2 : Int32).toInt ≤ 1073741824 from ⟨by omega, by omega⟩), hok.2.1, trivial⟩
      have hfr : frA [(5, 7), (5, 9), (5, 16), (23, 3), (23, 6), (24, 2), (24, 4), (24, 8)] [(24, 7), (24, 9)] [10, 26, 27, 42, 43, 44, 45, 46, 47, 49, 50] [25, 41] t (uI t_1 5 9 w201_2) := frA_I hfr 5 9 _ rfl
      refine lv_goto (tgt := 231) C.1 C.2.1 dX0_workOther_219 (by decide) ?_
      refine lv_iconst (v := 0) C.1 C.2.1 dX0_workOther_231 (by decide) ?_
      exact g_iret C hr hlocks hP hD hS rfl (uI t_1 5 9 w201_2) rfl ⟨hok, hfr, by decide, by decide⟩ (Nat.le_of_ble_eq_true rfl) (Nat.le_of_ble_eq_true rfl) dX0_workOther_232
  have L_160 : ∀ (t1 : tSt) (w160_1 : Int32) (w160_2 : Int32) (w160_3 : Int32) (H : Heap) (locs : List Loc) (ls : Array Slot), okX t1 → frA [(5, 7), (5, 9), (5, 16), (23, 3), (23, 6), (24, 2), (24, 4), (24, 8)] [(24, 7), (24, 9)] [10, 26, 27, 42, 43, 44, 45, 46, 47, 49, 50] [25, 41] t t1 → (-1073741824 : Int) ≤ w160_2.toInt ∧ w160_2.toInt ≤ 1073741823 → (0 : Int) ≤ w160_3.toInt ∧ w160_3.toInt ≤ 1 → va_P D vwCl ((WX d) K ad t1) H → va_D A ((WX d) K ad t1) → va_S A s.heap H locs → lv_has ls 4 [(0, .ref (ad 5)), (1, .int w160_1), (2, .int w160_2), (3, .int w160_3)] → W p l e (rmD 6 0 0) s m [.ref (ad 5)].toArray below meth c H locs 0 0 (MQ below (QI D K (fun (r : Int32) (u : tSt) => okX u ∧ frA [(5, 7), (5, 9), (5, 16), (23, 3), (23, 6), (24, 2), (24, 4), (24, 8)] [(24, 7), (24, 9)] [10, 26, 27, 42, 43, 44, 45, 46, 47, 49, 50] [25, 41] t u ∧ (0 : Int) ≤ r.toInt ∧ r.toInt ≤ 6) (fun (u : tSt) => (WX d) K ad u) A) [.ref (ad 5)].toArray s 0 0 A) (F0 m 160 ls []) := by
    intro t1 w160_1 w160_2 w160_3 H locs ls hok hfr hw160_2 hw160_3 hP hD hS hl
    refine lv_aload_n C.1 C.2.1 dX0_workOther_160 rfl (lv_at hl 0 rfl) ?_
    refine k_get (v := .ref (ad 24)) C hP 5 rfl rfl inlX0 3 (by decide) m_6_0 rfl dX0_workOther_161 ?_
    have h_13 : (0 : Int) ≤ (t1.1 24 4).toInt ∧ (t1.1 24 4).toInt ≤ 6 := hok.1 24 4
    refine k_get (v := .int (t1.1 24 4)) C hP 24 rfl rfl inlX5 4 (by decide) m_21_6 rfl dX0_workOther_164 ?_
    refine lv_if_eq (tgt := 178) C.1 C.2.1 dX0_workOther_167 (by decide) (fun c_14 => ?_) (fun c_14 => ?_)
    · replace c_14 : (t1.1 24 4).toInt = 0 := i_eq c_14
      refine lv_aload_n C.1 C.2.1 dX0_workOther_178 rfl (lv_at hl 0 rfl) ?_
      refine lv_aload_n C.1 C.2.1 dX0_workOther_179 rfl (lv_at hl 0 rfl) ?_
      have h_15 : (-1 : Int) ≤ (t1.1 5 11).toInt ∧ (t1.1 5 11).toInt ≤ 156 := hok.1 5 11
      refine k_get (v := .int (t1.1 5 11)) C hP 5 rfl rfl inlX0 11 (by decide) m_13_17 rfl dX0_workOther_180 ?_
      refine lv_sipush (v := 145) C.1 C.2.1 dX0_workOther_183 (by decide) ?_
      refine lv_icmp_ne (tgt := 193) C.1 C.2.1 dX0_workOther_186 (by decide) (fun c_16 => ?_) (fun c_16 => ?_)
      · replace c_16 : ¬ (t1.1 5 11).toInt = 145 := i_ne c_16
        refine lv_aload_n C.1 C.2.1 dX0_workOther_193 rfl (lv_at hl 0 rfl) ?_
        have h_17 : (-1073741824 : Int) ≤ (t1.1 5 9).toInt ∧ (t1.1 5 9).toInt ≤ 1073741824 := hok.1 5 9
        refine k_get (v := .int (t1.1 5 9)) C hP 5 rfl rfl inlX0 9 (by decide) m_12_3 rfl dX0_workOther_194 ?_
        obtain ⟨v_18, e_19⟩ : ∃ z, z = ((t1.1 5 9) : Int32).toInt64 := ⟨_, rfl⟩
        have h_20 : v_18.toInt = (t1.1 5 9).toInt := by rw [e_19]; exact Jvm.Kit.i64_of_i32 _
        refine lv_i2l (v := v_18) C.1 C.2.1 dX0_workOther_197 e_19.symm ?_
        refine g_Si (As := [.long v_18]) (rest := [.ref (ad 5)]) C hP hD hS hA (T_X1_wordOf l D K Z Y ad d t1 hok (v_18)) hE hZ (uwS m_25_10 m_22_11 m_14_2 m_22_12) (hdS 1 (by decide +kernel) rfl) ⟨Nat.le_of_ble_eq_true rfl, Nat.le_of_ble_eq_true rfl⟩ rfl rfl rfl hl.1 (Nat.le_of_ble_eq_true rfl) dX0_workOther_198 ⟨Nat.le_of_ble_eq_true rfl, Nat.le_of_ble_eq_true rfl⟩ (fun r_22 t_21 H locs hw hP hD hS => ?_)
        obtain ⟨h_24, h_25⟩ := hw
        exact L_201 t1 w160_1 w160_2 w160_3 r_22 _ _ _ hok hfr ⟨by omega, by omega⟩ ⟨by omega, by omega⟩ (show (0 : Int) ≤ ((t1.1 24 4) : Int32).toInt ∧ ((t1.1 24 4) : Int32).toInt ≤ 0 from ⟨by omega, by omega⟩) hP hD hS (lv_sub hl [0, 1, 2, 3] rfl)
      · replace c_16 : (t1.1 5 11).toInt = 145 := i_eq c_16
        refine lv_iload_n C.1 C.2.1 dX0_workOther_189 rfl (lv_at hl 1 rfl) ?_
        refine lv_goto (tgt := 201) C.1 C.2.1 dX0_workOther_190 (by decide) ?_
        exact L_201 t1 w160_1 w160_2 w160_3 w160_1 _ _ _ hok hfr ⟨by omega, by omega⟩ ⟨by omega, by omega⟩ (show (0 : Int) ≤ ((t1.1 24 4) : Int32).toInt ∧ ((t1.1 24 4) : Int32).toInt ≤ 0 from ⟨by omega, by omega⟩) hP hD hS (lv_sub hl [0, 1, 2, 3] rfl)
    · replace c_14 : ¬ (t1.1 24 4).toInt = 0 := i_ne c_14
      refine lv_aload_n C.1 C.2.1 dX0_workOther_170 rfl (lv_at hl 0 rfl) ?_
      refine k_get (v := .ref (ad 24)) C hP 5 rfl rfl inlX0 3 (by decide) m_6_0 rfl dX0_workOther_171 ?_
      refine k_get (v := .int (t1.1 24 4)) C hP 24 rfl rfl inlX5 4 (by decide) m_21_6 rfl dX0_workOther_174 ?_
      exact g_iret C hr hlocks hP hD hS rfl t1 rfl ⟨hok, hfr, by omega, by omega⟩ (Nat.le_of_ble_eq_true rfl) (Nat.le_of_ble_eq_true rfl) dX0_workOther_177
  have L_136 : ∀ (t1 : tSt) (w136_1 : Int32) (w136_2 : Int32) (k136_0 : Int32) (H : Heap) (locs : List Loc) (ls : Array Slot), okX t1 → frA [(5, 7), (5, 9), (5, 16), (23, 3), (23, 6), (24, 2), (24, 4), (24, 8)] [(24, 7), (24, 9)] [10, 26, 27, 42, 43, 44, 45, 46, 47, 49, 50] [25, 41] t t1 → (-1073741824 : Int) ≤ w136_2.toInt ∧ w136_2.toInt ≤ 1073741823 → (0 : Int) ≤ k136_0.toInt ∧ k136_0.toInt ≤ 1 → va_P D vwCl ((WX d) K ad t1) H → va_D A ((WX d) K ad t1) → va_S A s.heap H locs → lv_has ls 4 [(0, .ref (ad 5)), (1, .int w136_1), (2, .int w136_2)] → W p l e (rmD 6 0 0) s m [.ref (ad 5)].toArray below meth c H locs 0 0 (MQ below (QI D K (fun (r : Int32) (u : tSt) => okX u ∧ frA [(5, 7), (5, 9), (5, 16), (23, 3), (23, 6), (24, 2), (24, 4), (24, 8)] [(24, 7), (24, 9)] [10, 26, 27, 42, 43, 44, 45, 46, 47, 49, 50] [25, 41] t u ∧ (0 : Int) ≤ r.toInt ∧ r.toInt ≤ 6) (fun (u : tSt) => (WX d) K ad u) A) [.ref (ad 5)].toArray s 0 0 A) (F0 m 136 ls [.int k136_0]) := by
    intro t1 w136_1 w136_2 k136_0 H locs ls hok hfr hw136_2 hk136_0 hP hD hS hl
    refine lv_istore_n (lv' := [(3, .int k136_0), (0, .ref (ad 5)), (1, .int w136_1), (2, .int w136_2)]) C.1 C.2.1 dX0_workOther_136 rfl hl (by decide) rfl (fun ls hl => ?_)
    have hl : lv_has ls 4 [(0, .ref (ad 5)), (1, .int w136_1), (2, .int w136_2), (3, .int k136_0)] := lv_sub hl [1, 2, 3, 0] rfl
    refine lv_iload_n C.1 C.2.1 dX0_workOther_137 rfl (lv_at hl 3 rfl) ?_
    refine lv_if_eq (tgt := 160) C.1 C.2.1 dX0_workOther_138 (by decide) (fun c_26 => ?_) (fun c_26 => ?_)
    · replace c_26 : k136_0.toInt = 0 := i_eq c_26
      exact L_160 t1 w136_1 w136_2 k136_0 _ _ _ hok hfr ⟨by omega, by omega⟩ ⟨by omega, by omega⟩ hP hD hS (lv_sub hl [0, 1, 2, 3] rfl)
    · replace c_26 : ¬ k136_0.toInt = 0 := i_ne c_26
      refine lv_aload_n C.1 C.2.1 dX0_workOther_141 rfl (lv_at hl 0 rfl) ?_
      have h_27 : (-1073741824 : Int) ≤ (t1.1 5 9).toInt ∧ (t1.1 5 9).toInt ≤ 1073741824 := hok.1 5 9
      refine k_get (v := .int (t1.1 5 9)) C hP 5 rfl rfl inlX0 9 (by decide) m_12_3 rfl dX0_workOther_142 ?_
      refine lv_sipush (v := 3999) C.1 C.2.1 dX0_workOther_145 (by decide) ?_
      refine lv_icmp_le (tgt := 160) C.1 C.2.1 dX0_workOther_148 (by decide) (fun c_28 => ?_) (fun c_28 => ?_)
      · replace c_28 : (t1.1 5 9).toInt ≤ 3999 := i_le c_28
        exact L_160 t1 w136_1 w136_2 k136_0 _ _ _ hok hfr ⟨by omega, by omega⟩ ⟨by omega, by omega⟩ hP hD hS (lv_sub hl [0, 1, 2, 3] rfl)
      · replace c_28 : 3999 < (t1.1 5 9).toInt := i_nle c_28
        refine lv_aload_n C.1 C.2.1 dX0_workOther_151 rfl (lv_at hl 0 rfl) ?_
        refine k_get (v := .ref (ad 24)) C hP 5 rfl rfl inlX0 3 (by decide) m_6_0 rfl dX0_workOther_152 ?_
        refine lv_bipush (v := 6) C.1 C.2.1 dX0_workOther_155 (by decide) ?_
        refine g_Vv (As := [.int 6]) (rest := []) C hP hD hS hA (T_X5_fail l D K Z Y ad d t1 hok 6 (show (1 : Int) ≤ (6 : Int32).toInt ∧ (6 : Int32).toInt ≤ 6 from ⟨by decide, by decide⟩)) hE hZ (uwV m_27_7 m_23_1 m_23_2 m_5_22 m_23_3) (hdV 1 (by decide +kernel) rfl) ⟨Nat.le_of_ble_eq_true rfl, Nat.le_of_ble_eq_true rfl⟩ rfl rfl (ci := 4) (q0 := 24) rfl rfl rfl hl.1 (Nat.le_of_ble_eq_true rfl) dX0_workOther_157 ⟨Nat.le_of_ble_eq_true rfl, Nat.le_of_ble_eq_true rfl⟩ (fun t_29 H locs hw hP hD hS => ?_)
        obtain ⟨hok, f_31⟩ := hw
        have hfr : frA [(5, 7), (5, 9), (5, 16), (23, 3), (23, 6), (24, 2), (24, 4), (24, 8)] [(24, 7), (24, 9)] [10, 26, 27, 42, 43, 44, 45, 46, 47, 49, 50] [25, 41] t t_29 := frA_tr hfr f_31 rfl
        have h_32 : (t_29.1 5 9).toInt = (t1.1 5 9).toInt := ti_eq (f_31.1 5 9 rfl)
        exact L_160 t_29 w136_1 w136_2 k136_0 _ _ _ hok hfr ⟨by omega, by omega⟩ ⟨by omega, by omega⟩ hP hD hS (lv_sub hl [0, 1, 2, 3] rfl)
  have L_131 : ∀ (t1 : tSt) (w131_1 : Int32) (w131_2 : Int32) (H : Heap) (locs : List Loc) (ls : Array Slot), okX t1 → frA [(5, 7), (5, 9), (5, 16), (23, 3), (23, 6), (24, 2), (24, 4), (24, 8)] [(24, 7), (24, 9)] [10, 26, 27, 42, 43, 44, 45, 46, 47, 49, 50] [25, 41] t t1 → (-1073741824 : Int) ≤ w131_2.toInt ∧ w131_2.toInt ≤ 1073741823 → (147 : Int) ≤ (t1.1 5 11).toInt ∧ (t1.1 5 11).toInt ≤ 148 → va_P D vwCl ((WX d) K ad t1) H → va_D A ((WX d) K ad t1) → va_S A s.heap H locs → lv_has ls 4 [(0, .ref (ad 5)), (1, .int w131_1), (2, .int w131_2)] → W p l e (rmD 6 0 0) s m [.ref (ad 5)].toArray below meth c H locs 0 0 (MQ below (QI D K (fun (r : Int32) (u : tSt) => okX u ∧ frA [(5, 7), (5, 9), (5, 16), (23, 3), (23, 6), (24, 2), (24, 4), (24, 8)] [(24, 7), (24, 9)] [10, 26, 27, 42, 43, 44, 45, 46, 47, 49, 50] [25, 41] t u ∧ (0 : Int) ≤ r.toInt ∧ r.toInt ≤ 6) (fun (u : tSt) => (WX d) K ad u) A) [.ref (ad 5)].toArray s 0 0 A) (F0 m 131 ls []) := by
    intro t1 w131_1 w131_2 H locs ls hok hfr hw131_2 hf131_11 hP hD hS hl
    refine lv_iconst (v := 1) C.1 C.2.1 dX0_workOther_131 (by decide) ?_
    refine lv_goto (tgt := 136) C.1 C.2.1 dX0_workOther_132 (by decide) ?_
    exact L_136 t1 w131_1 w131_2 1 _ _ _ hok hfr ⟨by omega, by omega⟩ ⟨by decide, by decide⟩ hP hD hS (lv_sub hl [0, 1, 2] rfl)
  have L_111 : ∀ (t1 : tSt) (w111_1 : Int32) (w111_2 : Int32) (H : Heap) (locs : List Loc) (ls : Array Slot), okX t1 → frA [(5, 7), (5, 9), (5, 16), (23, 3), (23, 6), (24, 2), (24, 4), (24, 8)] [(24, 7), (24, 9)] [10, 26, 27, 42, 43, 44, 45, 46, 47, 49, 50] [25, 41] t t1 → (-1073741824 : Int) ≤ w111_2.toInt ∧ w111_2.toInt ≤ 1073741823 → va_P D vwCl ((WX d) K ad t1) H → va_D A ((WX d) K ad t1) → va_S A s.heap H locs → lv_has ls 4 [(0, .ref (ad 5)), (1, .int w111_1), (2, .int w111_2)] → W p l e (rmD 6 0 0) s m [.ref (ad 5)].toArray below meth c H locs 0 0 (MQ below (QI D K (fun (r : Int32) (u : tSt) => okX u ∧ frA [(5, 7), (5, 9), (5, 16), (23, 3), (23, 6), (24, 2), (24, 4), (24, 8)] [(24, 7), (24, 9)] [10, 26, 27, 42, 43, 44, 45, 46, 47, 49, 50] [25, 41] t u ∧ (0 : Int) ≤ r.toInt ∧ r.toInt ≤ 6) (fun (u : tSt) => (WX d) K ad u) A) [.ref (ad 5)].toArray s 0 0 A) (F0 m 111 ls []) := by
    intro t1 w111_1 w111_2 H locs ls hok hfr hw111_2 hP hD hS hl
    refine lv_aload_n C.1 C.2.1 dX0_workOther_111 rfl (lv_at hl 0 rfl) ?_
    have h_33 : (-1 : Int) ≤ (t1.1 5 11).toInt ∧ (t1.1 5 11).toInt ≤ 156 := hok.1 5 11
    refine k_get (v := .int (t1.1 5 11)) C hP 5 rfl rfl inlX0 11 (by decide) m_13_17 rfl dX0_workOther_112 ?_
    refine lv_sipush (v := 147) C.1 C.2.1 dX0_workOther_115 (by decide) ?_
    refine lv_icmp_eq (tgt := 131) C.1 C.2.1 dX0_workOther_118 (by decide) (fun c_34 => ?_) (fun c_34 => ?_)
    · replace c_34 : (t1.1 5 11).toInt = 147 := i_eq c_34
      exact L_131 t1 w111_1 w111_2 _ _ _ hok hfr ⟨by omega, by omega⟩ (show (147 : Int) ≤ ((t1.1 5 11) : Int32).toInt ∧ ((t1.1 5 11) : Int32).toInt ≤ 148 from ⟨by omega, by omega⟩) hP hD hS (lv_sub hl [0, 1, 2] rfl)
    · replace c_34 : ¬ (t1.1 5 11).toInt = 147 := i_ne c_34
      refine lv_aload_n C.1 C.2.1 dX0_workOther_121 rfl (lv_at hl 0 rfl) ?_
      refine k_get (v := .int (t1.1 5 11)) C hP 5 rfl rfl inlX0 11 (by decide) m_13_17 rfl dX0_workOther_122 ?_
      refine lv_sipush (v := 148) C.1 C.2.1 dX0_workOther_125 (by decide) ?_
      refine lv_icmp_ne (tgt := 135) C.1 C.2.1 dX0_workOther_128 (by decide) (fun c_35 => ?_) (fun c_35 => ?_)
      · replace c_35 : ¬ (t1.1 5 11).toInt = 148 := i_ne c_35
        refine lv_iconst (v := 0) C.1 C.2.1 dX0_workOther_135 (by decide) ?_
        exact L_136 t1 w111_1 w111_2 0 _ _ _ hok hfr ⟨by omega, by omega⟩ ⟨by decide, by decide⟩ hP hD hS (lv_sub hl [0, 1, 2] rfl)
      · replace c_35 : (t1.1 5 11).toInt = 148 := i_eq c_35
        exact L_131 t1 w111_1 w111_2 _ _ _ hok hfr ⟨by omega, by omega⟩ (show (147 : Int) ≤ ((t1.1 5 11) : Int32).toInt ∧ ((t1.1 5 11) : Int32).toInt ≤ 148 from ⟨by omega, by omega⟩) hP hD hS (lv_sub hl [0, 1, 2] rfl)
  have L_94 : ∀ (t1 : tSt) (w94_1 : Int32) (w94_2 : Int32) (H : Heap) (locs : List Loc) (ls : Array Slot), okX t1 → frA [(5, 7), (5, 9), (5, 16), (23, 3), (23, 6), (24, 2), (24, 4), (24, 8)] [(24, 7), (24, 9)] [10, 26, 27, 42, 43, 44, 45, 46, 47, 49, 50] [25, 41] t t1 → (-1073741824 : Int) ≤ w94_2.toInt ∧ w94_2.toInt ≤ 1073741823 → va_P D vwCl ((WX d) K ad t1) H → va_D A ((WX d) K ad t1) → va_S A s.heap H locs → lv_has ls 4 [(0, .ref (ad 5)), (1, .int w94_1), (2, .int w94_2)] → W p l e (rmD 6 0 0) s m [.ref (ad 5)].toArray below meth c H locs 0 0 (MQ below (QI D K (fun (r : Int32) (u : tSt) => okX u ∧ frA [(5, 7), (5, 9), (5, 16), (23, 3), (23, 6), (24, 2), (24, 4), (24, 8)] [(24, 7), (24, 9)] [10, 26, 27, 42, 43, 44, 45, 46, 47, 49, 50] [25, 41] t u ∧ (0 : Int) ≤ r.toInt ∧ r.toInt ≤ 6) (fun (u : tSt) => (WX d) K ad u) A) [.ref (ad 5)].toArray s 0 0 A) (F0 m 94 ls []) := by
    intro t1 w94_1 w94_2 H locs ls hok hfr hw94_2 hP hD hS hl
    refine lv_aload_n C.1 C.2.1 dX0_workOther_94 rfl (lv_at hl 0 rfl) ?_
    have h_36 : (-1 : Int) ≤ (t1.1 5 11).toInt ∧ (t1.1 5 11).toInt ≤ 156 := hok.1 5 11
    refine k_get (v := .int (t1.1 5 11)) C hP 5 rfl rfl inlX0 11 (by decide) m_13_17 rfl dX0_workOther_95 ?_
    refine lv_sipush (v := 148) C.1 C.2.1 dX0_workOther_98 (by decide) ?_
    refine lv_icmp_eq (tgt := 111) C.1 C.2.1 dX0_workOther_101 (by decide) (fun c_37 => ?_) (fun c_37 => ?_)
    · replace c_37 : (t1.1 5 11).toInt = 148 := i_eq c_37
      exact L_111 t1 w94_1 w94_2 _ _ _ hok hfr ⟨by omega, by omega⟩ hP hD hS (lv_sub hl [0, 1, 2] rfl)
    · replace c_37 : ¬ (t1.1 5 11).toInt = 148 := i_ne c_37
      refine lv_aload_n C.1 C.2.1 dX0_workOther_104 rfl (lv_at hl 0 rfl) ?_
      refine k_get (v := .ref (ad 24)) C hP 5 rfl rfl inlX0 3 (by decide) m_6_0 rfl dX0_workOther_105 ?_
      refine g_Vv (As := []) (rest := []) C hP hD hS hA (T_X5_finish l D K Z Y ad d t1 hok ) hE hZ (uwV m_25_6 m_25_7 m_25_8 m_5_22 m_25_9) (hdV 0 (by decide +kernel) rfl) ⟨Nat.le_of_ble_eq_true rfl, Nat.le_of_ble_eq_true rfl⟩ rfl rfl (ci := 4) (q0 := 24) rfl rfl rfl hl.1 (Nat.le_of_ble_eq_true rfl) dX0_workOther_108 ⟨Nat.le_of_ble_eq_true rfl, Nat.le_of_ble_eq_true rfl⟩ (fun t_38 H locs hw hP hD hS => ?_)
      obtain ⟨hok, f_40⟩ := hw
      have hfr : frA [(5, 7), (5, 9), (5, 16), (23, 3), (23, 6), (24, 2), (24, 4), (24, 8)] [(24, 7), (24, 9)] [10, 26, 27, 42, 43, 44, 45, 46, 47, 49, 50] [25, 41] t t_38 := frA_tr hfr f_40 rfl
      have h_41 : (t_38.1 5 11).toInt = (t1.1 5 11).toInt := ti_eq (f_40.1 5 11 rfl)
      exact L_111 t_38 w94_1 w94_2 _ _ _ hok hfr ⟨by omega, by omega⟩ hP hD hS (lv_sub hl [0, 1, 2] rfl)
  have L_86 : ∀ (t1 : tSt) (w86_1 : Int32) (w86_2 : Int32) (H : Heap) (locs : List Loc) (ls : Array Slot), okX t1 → frA [(5, 7), (5, 9), (5, 16), (23, 3), (23, 6), (24, 2), (24, 4), (24, 8)] [(24, 7), (24, 9)] [10, 26, 27, 42, 43, 44, 45, 46, 47, 49, 50] [25, 41] t t1 → (-1073741824 : Int) ≤ w86_2.toInt ∧ w86_2.toInt ≤ 1073741823 → (146 : Int) ≤ (t1.1 5 11).toInt ∧ (t1.1 5 11).toInt ≤ 146 → va_P D vwCl ((WX d) K ad t1) H → va_D A ((WX d) K ad t1) → va_S A s.heap H locs → lv_has ls 4 [(0, .ref (ad 5)), (1, .int w86_1), (2, .int w86_2)] → W p l e (rmD 6 0 0) s m [.ref (ad 5)].toArray below meth c H locs 0 0 (MQ below (QI D K (fun (r : Int32) (u : tSt) => okX u ∧ frA [(5, 7), (5, 9), (5, 16), (23, 3), (23, 6), (24, 2), (24, 4), (24, 8)] [(24, 7), (24, 9)] [10, 26, 27, 42, 43, 44, 45, 46, 47, 49, 50] [25, 41] t u ∧ (0 : Int) ≤ r.toInt ∧ r.toInt ≤ 6) (fun (u : tSt) => (WX d) K ad u) A) [.ref (ad 5)].toArray s 0 0 A) (F0 m 86 ls []) := by
    intro t1 w86_1 w86_2 H locs ls hok hfr hw86_2 hf86_11 hP hD hS hl
    refine lv_aload_n C.1 C.2.1 dX0_workOther_86 rfl (lv_at hl 0 rfl) ?_
    refine k_get (v := .ref (ad 24)) C hP 5 rfl rfl inlX0 3 (by decide) m_6_0 rfl dX0_workOther_87 ?_
    refine lv_iconst (v := 5) C.1 C.2.1 dX0_workOther_90 (by decide) ?_
    refine g_Vv (As := [.int 5]) (rest := []) C hP hD hS hA (T_X5_fail l D K Z Y ad d t1 hok 5 (show (1 : Int) ≤ (5 : Int32).toInt ∧ (5 : Int32).toInt ≤ 6 from ⟨by decide, by decide⟩)) hE hZ (uwV m_27_7 m_23_1 m_23_2 m_5_22 m_23_3) (hdV 1 (by decide +kernel) rfl) ⟨Nat.le_of_ble_eq_true rfl, Nat.le_of_ble_eq_true rfl⟩ rfl rfl (ci := 4) (q0 := 24) rfl rfl rfl hl.1 (Nat.le_of_ble_eq_true rfl) dX0_workOther_91 ⟨Nat.le_of_ble_eq_true rfl, Nat.le_of_ble_eq_true rfl⟩ (fun t_42 H locs hw hP hD hS => ?_)
    obtain ⟨hok, f_44⟩ := hw
    have hfr : frA [(5, 7), (5, 9), (5, 16), (23, 3), (23, 6), (24, 2), (24, 4), (24, 8)] [(24, 7), (24, 9)] [10, 26, 27, 42, 43, 44, 45, 46, 47, 49, 50] [25, 41] t t_42 := frA_tr hfr f_44 rfl
    have h_45 : (t_42.1 5 11).toInt = (t1.1 5 11).toInt := ti_eq (f_44.1 5 11 rfl)
    exact L_94 t_42 w86_1 w86_2 _ _ _ hok hfr ⟨by omega, by omega⟩ hP hD hS (lv_sub hl [0, 1, 2] rfl)
  have L_56 : ∀ (t1 : tSt) (w56_1 : Int32) (H : Heap) (locs : List Loc) (ls : Array Slot), okX t1 → frA [(5, 7), (5, 9), (5, 16), (23, 3), (23, 6), (24, 2), (24, 4), (24, 8)] [(24, 7), (24, 9)] [10, 26, 27, 42, 43, 44, 45, 46, 47, 49, 50] [25, 41] t t1 → va_P D vwCl ((WX d) K ad t1) H → va_D A ((WX d) K ad t1) → va_S A s.heap H locs → lv_has ls 4 [(0, .ref (ad 5)), (1, .int w56_1)] → W p l e (rmD 6 0 0) s m [.ref (ad 5)].toArray below meth c H locs 0 0 (MQ below (QI D K (fun (r : Int32) (u : tSt) => okX u ∧ frA [(5, 7), (5, 9), (5, 16), (23, 3), (23, 6), (24, 2), (24, 4), (24, 8)] [(24, 7), (24, 9)] [10, 26, 27, 42, 43, 44, 45, 46, 47, 49, 50] [25, 41] t u ∧ (0 : Int) ≤ r.toInt ∧ r.toInt ≤ 6) (fun (u : tSt) => (WX d) K ad u) A) [.ref (ad 5)].toArray s 0 0 A) (F0 m 56 ls []) := by
    intro t1 w56_1 H locs ls hok hfr hP hD hS hl
    refine lv_iload_n C.1 C.2.1 dX0_workOther_56 rfl (lv_at hl 1 rfl) ?_
    refine g_Si (As := [.int w56_1]) (rest := []) C hP hD hS hA (T_X1_value l D K Z Y ad d t1 hok (w56_1)) hE hZ (uwS m_27_6 m_23_9 m_14_2 m_23_10) (hdS 1 (by decide +kernel) rfl) ⟨Nat.le_of_ble_eq_true rfl, Nat.le_of_ble_eq_true rfl⟩ rfl rfl rfl hl.1 (Nat.le_of_ble_eq_true rfl) dX0_workOther_57 ⟨Nat.le_of_ble_eq_true rfl, Nat.le_of_ble_eq_true rfl⟩ (fun r_47 t_46 H locs hw hP hD hS => ?_)
    obtain ⟨h_49, h_50⟩ := hw
    refine lv_istore_n (lv' := [(2, .int r_47), (0, .ref (ad 5)), (1, .int w56_1)]) C.1 C.2.1 dX0_workOther_60 rfl hl (by decide) rfl (fun ls hl => ?_)
    have hl : lv_has ls 4 [(0, .ref (ad 5)), (1, .int w56_1), (2, .int r_47)] := lv_sub hl [1, 2, 0] rfl
    refine lv_aload_n C.1 C.2.1 dX0_workOther_61 rfl (lv_at hl 0 rfl) ?_
    have h_51 : (-1 : Int) ≤ (t1.1 5 11).toInt ∧ (t1.1 5 11).toInt ≤ 156 := hok.1 5 11
    refine k_get (v := .int (t1.1 5 11)) C hP 5 rfl rfl inlX0 11 (by decide) m_13_17 rfl dX0_workOther_62 ?_
    refine lv_sipush (v := 146) C.1 C.2.1 dX0_workOther_65 (by decide) ?_
    refine lv_icmp_ne (tgt := 94) C.1 C.2.1 dX0_workOther_68 (by decide) (fun c_52 => ?_) (fun c_52 => ?_)
    · replace c_52 : ¬ (t1.1 5 11).toInt = 146 := i_ne c_52
      exact L_94 t1 w56_1 r_47 _ _ _ hok hfr ⟨by omega, by omega⟩ hP hD hS (lv_sub hl [0, 1, 2] rfl)
    · replace c_52 : (t1.1 5 11).toInt = 146 := i_eq c_52
      refine lv_iload_n C.1 C.2.1 dX0_workOther_71 rfl (lv_at hl 2 rfl) ?_
      refine lv_aload_n C.1 C.2.1 dX0_workOther_72 rfl (lv_at hl 0 rfl) ?_
      have h_53 : (-3999 : Int) ≤ (t1.1 5 10).toInt ∧ (t1.1 5 10).toInt ≤ 0 := hok.1 5 10
      refine k_get (v := .int (t1.1 5 10)) C hP 5 rfl rfl inlX0 10 (by decide) m_12_4 rfl dX0_workOther_73 ?_
      refine lv_icmp_lt (tgt := 86) C.1 C.2.1 dX0_workOther_76 (by decide) (fun c_54 => ?_) (fun c_54 => ?_)
      · replace c_54 : r_47.toInt < (t1.1 5 10).toInt := i_lt c_54
        exact L_86 t1 w56_1 r_47 _ _ _ hok hfr ⟨by omega, by omega⟩ (show (146 : Int) ≤ ((t1.1 5 11) : Int32).toInt ∧ ((t1.1 5 11) : Int32).toInt ≤ 146 from ⟨by omega, by omega⟩) hP hD hS (lv_sub hl [0, 1, 2] rfl)
      · replace c_54 : (t1.1 5 10).toInt ≤ r_47.toInt := i_nlt c_54
        refine lv_iload_n C.1 C.2.1 dX0_workOther_79 rfl (lv_at hl 2 rfl) ?_
        refine lv_sipush (v := 4000) C.1 C.2.1 dX0_workOther_80 (by decide) ?_
        refine lv_icmp_le (tgt := 94) C.1 C.2.1 dX0_workOther_83 (by decide) (fun c_55 => ?_) (fun c_55 => ?_)
        · replace c_55 : r_47.toInt ≤ 4000 := i_le c_55
          exact L_94 t1 w56_1 r_47 _ _ _ hok hfr ⟨by omega, by omega⟩ hP hD hS (lv_sub hl [0, 1, 2] rfl)
        · replace c_55 : 4000 < r_47.toInt := i_nle c_55
          exact L_86 t1 w56_1 r_47 _ _ _ hok hfr ⟨by omega, by omega⟩ (show (146 : Int) ≤ ((t1.1 5 11) : Int32).toInt ∧ ((t1.1 5 11) : Int32).toInt ≤ 146 from ⟨by omega, by omega⟩) hP hD hS (lv_sub hl [0, 1, 2] rfl)
  have L_15 : ∀ (fuel_15 : Nat) (t1 : tSt) (w15_1 : Int32) (w15_2 : Int32) (H : Heap) (locs : List Loc) (ls : Array Slot), okX t1 → frA [(5, 7), (5, 9), (5, 16), (23, 3), (23, 6), (24, 2), (24, 4), (24, 8)] [(24, 7), (24, 9)] [10, 26, 27, 42, 43, 44, 45, 46, 47, 49, 50] [25, 41] t t1 → (16 : Int) ≤ w15_2.toInt ∧ w15_2.toInt ≤ 31 → (148 : Int) ≤ (t1.1 5 11).toInt ∧ (t1.1 5 11).toInt ≤ 148 → (31 : Int) - w15_2.toInt < (fuel_15 : Int) → va_P D vwCl ((WX d) K ad t1) H → va_D A ((WX d) K ad t1) → va_S A s.heap H locs → lv_has ls 4 [(0, .ref (ad 5)), (1, .int w15_1), (2, .int w15_2)] → W p l e (rmD 6 0 0) s m [.ref (ad 5)].toArray below meth c H locs 0 0 (MQ below (QI D K (fun (r : Int32) (u : tSt) => okX u ∧ frA [(5, 7), (5, 9), (5, 16), (23, 3), (23, 6), (24, 2), (24, 4), (24, 8)] [(24, 7), (24, 9)] [10, 26, 27, 42, 43, 44, 45, 46, 47, 49, 50] [25, 41] t u ∧ (0 : Int) ≤ r.toInt ∧ r.toInt ≤ 6) (fun (u : tSt) => (WX d) K ad u) A) [.ref (ad 5)].toArray s 0 0 A) (F0 m 15 ls []) := by
    intro fuel_15
    induction fuel_15 with
    | zero =>
      intro t1 w15_1 w15_2 H locs ls hok hfr hw15_2 hf15_11 hm15_15 hP hD hS hl
      exact absurd hm15_15 (by omega)
    | succ fuel_15 ih_15 =>
      intro t1 w15_1 w15_2 H locs ls hok hfr hw15_2 hf15_11 hm15_15 hP hD hS hl
      have hm15_15 : (31 : Int) - w15_2.toInt < (fuel_15 : Int) + 1 := by omega
      refine lv_iload_n C.1 C.2.1 dX0_workOther_15 rfl (lv_at hl 2 rfl) ?_
      refine lv_bipush (v := 21) C.1 C.2.1 dX0_workOther_16 (by decide) ?_
      refine lv_icmp_ge (tgt := 45) C.1 C.2.1 dX0_workOther_18 (by decide) (fun c_56 => ?_) (fun c_56 => ?_)
      · replace c_56 : 21 ≤ w15_2.toInt := i_le c_56
        refine lv_goto (tgt := 56) C.1 C.2.1 dX0_workOther_45 (by decide) ?_
        exact L_56 t1 w15_1 _ _ _ hok hfr hP hD hS (lv_sub hl [0, 1] rfl)
      · replace c_56 : w15_2.toInt < 21 := i_nle c_56
        refine lv_iload_n C.1 C.2.1 dX0_workOther_21 rfl (lv_at hl 1 rfl) ?_
        refine lv_bipush (v := 6) C.1 C.2.1 dX0_workOther_22 (by decide) ?_
        obtain ⟨v_57, e_58⟩ : ∃ z, z = (w15_1 : Int32) <<< ((6 : Int32) &&& 31) := ⟨_, rfl⟩
        refine k_ishl (v := v_57) C e_58.symm dX0_workOther_24 ?_
        refine lv_aload_n C.1 C.2.1 dX0_workOther_25 rfl (lv_at hl 0 rfl) ?_
        refine k_get (v := .ref (ad 2)) C hP 5 rfl rfl inlX0 0 (by decide) m_5_17 rfl dX0_workOther_26 ?_
        refine k_get (v := .ref (ad 9)) C hP 2 rfl rfl inlX9 1 (by decide) m_5_23 rfl dX0_workOther_29 ?_
        refine lv_iload_n C.1 C.2.1 dX0_workOther_32 rfl (lv_at hl 2 rfl) ?_
        obtain ⟨v_60, e_61⟩ : ∃ z, z = (t1.2.2.1 9 (w15_2 : Int32).toNatClampNeg) := ⟨_, rfl⟩
        have h_62 : (-128 : Int) ≤ v_60.toInt ∧ v_60.toInt ≤ 127 := by rw [e_61]; exact hok.2.1 9 _
        refine k_bld (v := v_60) C hP 9 rfl (vp_in_iff.mpr ⟨by omega, by omega⟩) e_61.symm dX0_workOther_33 ?_
        refine g_Si (As := [.int v_60]) (rest := [.int v_57]) C hP hD hS hA (T_X1_code l D K Z Y ad d t1 hok (v_60) (show (-128 : Int) ≤ (v_60 : Int32).toInt ∧ (v_60 : Int32).toInt ≤ 127 from ⟨by omega, by omega⟩)) hE hZ (uwS m_28_6 m_14_1 m_14_2 m_14_3) (hdS 1 (by decide +kernel) rfl) ⟨Nat.le_of_ble_eq_true rfl, Nat.le_of_ble_eq_true rfl⟩ rfl rfl rfl hl.1 (Nat.le_of_ble_eq_true rfl) dX0_workOther_34 ⟨Nat.le_of_ble_eq_true rfl, Nat.le_of_ble_eq_true rfl⟩ (fun r_64 t_63 H locs hw hP hD hS => ?_)
        obtain ⟨h_66, h_67⟩ := hw
        obtain ⟨v_68, e_69⟩ : ∃ z, z = (v_57 : Int32) ||| (r_64 : Int32) := ⟨_, rfl⟩
        refine k_ior (v := v_68) C e_69.symm dX0_workOther_37 ?_
        refine lv_istore_n (lv' := [(1, .int v_68), (0, .ref (ad 5)), (2, .int w15_2)]) C.1 C.2.1 dX0_workOther_38 rfl hl (by decide) rfl (fun ls hl => ?_)
        have hl : lv_has ls 4 [(0, .ref (ad 5)), (1, .int v_68), (2, .int w15_2)] := lv_sub hl [1, 0, 2] rfl
        obtain ⟨v_71, e_72⟩ : ∃ z, z = w15_2 + 1 := ⟨_, rfl⟩
        have h_73 : v_71.toInt = w15_2.toInt + 1 := by rw [e_72]; exact ti_iadd (by show (_ : Int) ≤ w15_2.toInt + 1; omega) (by show w15_2.toInt + 1 < (_ : Int); omega)
        refine lv_iinc (v := v_71) (lv' := [(2, .int v_71), (0, .ref (ad 5)), (1, .int v_68)]) C.1 C.2.1 dX0_workOther_39 hl (k := 2) rfl e_72.symm (by decide) rfl (fun ls hl => ?_)
        have hl : lv_has ls 4 [(0, .ref (ad 5)), (1, .int v_68), (2, .int v_71)] := lv_sub hl [1, 2, 0] rfl
        refine lv_goto (tgt := 15) C.1 C.2.1 dX0_workOther_42 (by decide) ?_
        exact ih_15 t1 v_68 v_71 _ _ _ hok hfr ⟨by omega, by omega⟩ (show (148 : Int) ≤ ((t1.1 5 11) : Int32).toInt ∧ ((t1.1 5 11) : Int32).toInt ≤ 148 from ⟨by omega, by omega⟩) (show (31 : Int) - v_71.toInt < (fuel_15 : Int) from by omega) hP hD hS (lv_sub hl [0, 1, 2] rfl)
  refine lv_iconst (v := 0) C.1 C.2.1 dX0_workOther_0 (by decide) ?_
  refine lv_istore_n (lv' := [(1, .int 0), (0, .ref (ad 5))]) C.1 C.2.1 dX0_workOther_1 rfl hl (by decide) rfl (fun ls hl => ?_)
  have hl : lv_has ls 4 [(0, .ref (ad 5)), (1, .int 0)] := lv_sub hl [1, 0] rfl
  refine lv_aload_n C.1 C.2.1 dX0_workOther_2 rfl (lv_at hl 0 rfl) ?_
  have h_74 : (-1 : Int) ≤ (t.1 5 11).toInt ∧ (t.1 5 11).toInt ≤ 156 := hok.1 5 11
  refine k_get (v := .int (t.1 5 11)) C hP 5 rfl rfl inlX0 11 (by decide) m_13_17 rfl dX0_workOther_3 ?_
  refine lv_sipush (v := 148) C.1 C.2.1 dX0_workOther_6 (by decide) ?_
  refine lv_icmp_ne (tgt := 48) C.1 C.2.1 dX0_workOther_9 (by decide) (fun c_75 => ?_) (fun c_75 => ?_)
  · replace c_75 : ¬ (t.1 5 11).toInt = 148 := i_ne c_75
    refine lv_aload_n C.1 C.2.1 dX0_workOther_48 rfl (lv_at hl 0 rfl) ?_
    refine k_get (v := .ref (ad 24)) C hP 5 rfl rfl inlX0 3 (by decide) m_6_0 rfl dX0_workOther_49 ?_
    refine g_Vi (As := []) (rest := []) C hP hD hS hA (T_X5_wValue l D K Z Y ad d t hok ) hE hZ (uwV m_21_12 m_21_13 m_21_14 m_5_22 m_21_15) (hdV 0 (by decide +kernel) rfl) ⟨Nat.le_of_ble_eq_true rfl, Nat.le_of_ble_eq_true rfl⟩ rfl rfl (ci := 4) (q0 := 24) rfl rfl rfl hl.1 (Nat.le_of_ble_eq_true rfl) dX0_workOther_52 ⟨Nat.le_of_ble_eq_true rfl, Nat.le_of_ble_eq_true rfl⟩ (fun r_77 t_76 H locs hw hP hD hS => ?_)
    obtain ⟨hok, f_78, h_79, h_80⟩ := hw
    have hfr : frA [(5, 7), (5, 9), (5, 16), (23, 3), (23, 6), (24, 2), (24, 4), (24, 8)] [(24, 7), (24, 9)] [10, 26, 27, 42, 43, 44, 45, 46, 47, 49, 50] [25, 41] t t_76 := frA_tr hfr f_78 rfl
    have h_81 : (t_76.1 5 11).toInt = (t.1 5 11).toInt := ti_eq (f_78.1 5 11 rfl)
    refine lv_istore_n (lv' := [(1, .int r_77), (0, .ref (ad 5))]) C.1 C.2.1 dX0_workOther_55 rfl hl (by decide) rfl (fun ls hl => ?_)
    have hl : lv_has ls 4 [(0, .ref (ad 5)), (1, .int r_77)] := lv_sub hl [1, 0] rfl
    exact L_56 t_76 r_77 _ _ _ hok hfr hP hD hS (lv_sub hl [0, 1] rfl)
  · replace c_75 : (t.1 5 11).toInt = 148 := i_eq c_75
    refine lv_bipush (v := 16) C.1 C.2.1 dX0_workOther_12 (by decide) ?_
    refine lv_istore_n (lv' := [(2, .int 16), (0, .ref (ad 5)), (1, .int 0)]) C.1 C.2.1 dX0_workOther_14 rfl hl (by decide) rfl (fun ls hl => ?_)
    have hl : lv_has ls 4 [(0, .ref (ad 5)), (1, .int 0), (2, .int 16)] := lv_sub hl [1, 2, 0] rfl
    exact L_15 16 t 0 16 _ _ _ hok hfr ⟨by decide, by decide⟩ (show (148 : Int) ≤ ((t.1 5 11) : Int32).toInt ∧ ((t.1 5 11) : Int32).toInt ≤ 148 from ⟨by omega, by omega⟩) (show (31 : Int) - 16 < ((16 : Nat) : Int) from by omega) hP hD hS (lv_sub hl [0, 1, 2] rfl)

theorem dX0_workInstruction_0 : decode cX0_workInstruction 0 = .ok (.iconst 0, 1) := by decide +kernel
theorem dX0_workInstruction_1 : decode cX0_workInstruction 1 = .ok (.istore_n 1, 1) := by decide +kernel
theorem dX0_workInstruction_10 : decode cX0_workInstruction 10 = .ok (.bipush 61, 2) := by decide +kernel
theorem dX0_workInstruction_100 : decode cX0_workInstruction 100 = .ok (.aload_n 0, 1) := by decide +kernel
theorem dX0_workInstruction_101 : decode cX0_workInstruction 101 = .ok (.getfield 47, 3) := by decide +kernel
theorem dX0_workInstruction_104 : decode cX0_workInstruction 104 = .ok (.getfield 130, 3) := by decide +kernel
theorem dX0_workInstruction_107 : decode cX0_workInstruction 107 = .ok (.lstore 5, 2) := by decide +kernel
theorem dX0_workInstruction_109 : decode cX0_workInstruction 109 = .ok (.aload_n 0, 1) := by decide +kernel
theorem dX0_workInstruction_110 : decode cX0_workInstruction 110 = .ok (.getfield 47, 3) := by decide +kernel
theorem dX0_workInstruction_113 : decode cX0_workInstruction 113 = .ok (.getfield 137, 3) := by decide +kernel
theorem dX0_workInstruction_116 : decode cX0_workInstruction 116 = .ok (.istore 7, 2) := by decide +kernel
theorem dX0_workInstruction_118 : decode cX0_workInstruction 118 = .ok (.aload_n 0, 1) := by decide +kernel
theorem dX0_workInstruction_119 : decode cX0_workInstruction 119 = .ok (.getfield 47, 3) := by decide +kernel
theorem dX0_workInstruction_12 : decode cX0_workInstruction 12 = .ok (.invokevirtual 157, 3) := by decide +kernel
theorem dX0_workInstruction_122 : decode cX0_workInstruction 122 = .ok (.bipush 44, 2) := by decide +kernel
theorem dX0_workInstruction_124 : decode cX0_workInstruction 124 = .ok (.invokevirtual 157, 3) := by decide +kernel
theorem dX0_workInstruction_127 : decode cX0_workInstruction 127 = .ok (.ifCond .eq 15, 3) := by decide +kernel
theorem dX0_workInstruction_130 : decode cX0_workInstruction 130 = .ok (.aload_n 0, 1) := by decide +kernel
theorem dX0_workInstruction_131 : decode cX0_workInstruction 131 = .ok (.getfield 47, 3) := by decide +kernel
theorem dX0_workInstruction_134 : decode cX0_workInstruction 134 = .ok (.bipush 6, 2) := by decide +kernel
theorem dX0_workInstruction_136 : decode cX0_workInstruction 136 = .ok (.invokevirtual 180, 3) := by decide +kernel
theorem dX0_workInstruction_139 : decode cX0_workInstruction 139 = .ok (.goto 4, 3) := by decide +kernel
theorem dX0_workInstruction_142 : decode cX0_workInstruction 142 = .ok (.iconst 0, 1) := by decide +kernel
theorem dX0_workInstruction_143 : decode cX0_workInstruction 143 = .ok (.istore 8, 2) := by decide +kernel
theorem dX0_workInstruction_145 : decode cX0_workInstruction 145 = .ok (.aload_n 0, 1) := by decide +kernel
theorem dX0_workInstruction_146 : decode cX0_workInstruction 146 = .ok (.getfield 105, 3) := by decide +kernel
theorem dX0_workInstruction_149 : decode cX0_workInstruction 149 = .ok (.invokestatic 183, 3) := by decide +kernel
theorem dX0_workInstruction_15 : decode cX0_workInstruction 15 = .ok (.istore 4, 2) := by decide +kernel
theorem dX0_workInstruction_152 : decode cX0_workInstruction 152 = .ok (.istore 9, 2) := by decide +kernel
theorem dX0_workInstruction_154 : decode cX0_workInstruction 154 = .ok (.aload_n 0, 1) := by decide +kernel
theorem dX0_workInstruction_155 : decode cX0_workInstruction 155 = .ok (.getfield 47, 3) := by decide +kernel
theorem dX0_workInstruction_158 : decode cX0_workInstruction 158 = .ok (.bipush 40, 2) := by decide +kernel
theorem dX0_workInstruction_160 : decode cX0_workInstruction 160 = .ok (.invokevirtual 157, 3) := by decide +kernel
theorem dX0_workInstruction_163 : decode cX0_workInstruction 163 = .ok (.ifCond .eq 23, 3) := by decide +kernel
theorem dX0_workInstruction_166 : decode cX0_workInstruction 166 = .ok (.aload_n 0, 1) := by decide +kernel
theorem dX0_workInstruction_167 : decode cX0_workInstruction 167 = .ok (.getfield 47, 3) := by decide +kernel
theorem dX0_workInstruction_17 : decode cX0_workInstruction 17 = .ok (.iload 4, 2) := by decide +kernel
theorem dX0_workInstruction_170 : decode cX0_workInstruction 170 = .ok (.bipush 63, 2) := by decide +kernel
theorem dX0_workInstruction_172 : decode cX0_workInstruction 172 = .ok (.invokevirtual 180, 3) := by decide +kernel
theorem dX0_workInstruction_175 : decode cX0_workInstruction 175 = .ok (.istore 9, 2) := by decide +kernel
theorem dX0_workInstruction_177 : decode cX0_workInstruction 177 = .ok (.aload_n 0, 1) := by decide +kernel
theorem dX0_workInstruction_178 : decode cX0_workInstruction 178 = .ok (.getfield 47, 3) := by decide +kernel
theorem dX0_workInstruction_181 : decode cX0_workInstruction 181 = .ok (.bipush 41, 2) := by decide +kernel
theorem dX0_workInstruction_183 : decode cX0_workInstruction 183 = .ok (.invokevirtual 164, 3) := by decide +kernel
theorem dX0_workInstruction_186 : decode cX0_workInstruction 186 = .ok (.aload_n 0, 1) := by decide +kernel
theorem dX0_workInstruction_187 : decode cX0_workInstruction 187 = .ok (.getfield 47, 3) := by decide +kernel
theorem dX0_workInstruction_19 : decode cX0_workInstruction 19 = .ok (.ifCond .eq 23, 3) := by decide +kernel
theorem dX0_workInstruction_190 : decode cX0_workInstruction 190 = .ok (.invokevirtual 186, 3) := by decide +kernel
theorem dX0_workInstruction_193 : decode cX0_workInstruction 193 = .ok (.aload_n 0, 1) := by decide +kernel
theorem dX0_workInstruction_194 : decode cX0_workInstruction 194 = .ok (.getfield 47, 3) := by decide +kernel
theorem dX0_workInstruction_197 : decode cX0_workInstruction 197 = .ok (.getfield 189, 3) := by decide +kernel
theorem dX0_workInstruction_2 : decode cX0_workInstruction 2 = .ok (.iconst 0, 1) := by decide +kernel
theorem dX0_workInstruction_200 : decode cX0_workInstruction 200 = .ok (.ifCond .ne 13, 3) := by decide +kernel
theorem dX0_workInstruction_203 : decode cX0_workInstruction 203 = .ok (.aload_n 0, 1) := by decide +kernel
theorem dX0_workInstruction_204 : decode cX0_workInstruction 204 = .ok (.getfield 70, 3) := by decide +kernel
theorem dX0_workInstruction_207 : decode cX0_workInstruction 207 = .ok (.sipush 3999, 3) := by decide +kernel
theorem dX0_workInstruction_210 : decode cX0_workInstruction 210 = .ok (.if_icmp .le 26, 3) := by decide +kernel
theorem dX0_workInstruction_213 : decode cX0_workInstruction 213 = .ok (.aload_n 0, 1) := by decide +kernel
theorem dX0_workInstruction_214 : decode cX0_workInstruction 214 = .ok (.getfield 47, 3) := by decide +kernel
theorem dX0_workInstruction_217 : decode cX0_workInstruction 217 = .ok (.getfield 189, 3) := by decide +kernel
theorem dX0_workInstruction_22 : decode cX0_workInstruction 22 = .ok (.aload_n 0, 1) := by decide +kernel
theorem dX0_workInstruction_220 : decode cX0_workInstruction 220 = .ok (.ifCond .eq 13, 3) := by decide +kernel
theorem dX0_workInstruction_223 : decode cX0_workInstruction 223 = .ok (.aload_n 0, 1) := by decide +kernel
theorem dX0_workInstruction_224 : decode cX0_workInstruction 224 = .ok (.getfield 47, 3) := by decide +kernel
theorem dX0_workInstruction_227 : decode cX0_workInstruction 227 = .ok (.getfield 189, 3) := by decide +kernel
theorem dX0_workInstruction_23 : decode cX0_workInstruction 23 = .ok (.getfield 47, 3) := by decide +kernel
theorem dX0_workInstruction_230 : decode cX0_workInstruction 230 = .ok (.goto 5, 3) := by decide +kernel
theorem dX0_workInstruction_233 : decode cX0_workInstruction 233 = .ok (.bipush 6, 2) := by decide +kernel
theorem dX0_workInstruction_235 : decode cX0_workInstruction 235 = .ok (.ireturn, 1) := by decide +kernel
theorem dX0_workInstruction_236 : decode cX0_workInstruction 236 = .ok (.aload_n 0, 1) := by decide +kernel
theorem dX0_workInstruction_237 : decode cX0_workInstruction 237 = .ok (.aload_n 0, 1) := by decide +kernel
theorem dX0_workInstruction_238 : decode cX0_workInstruction 238 = .ok (.getfield 70, 3) := by decide +kernel
theorem dX0_workInstruction_241 : decode cX0_workInstruction 241 = .ok (.i2l, 1) := by decide +kernel
theorem dX0_workInstruction_242 : decode cX0_workInstruction 242 = .ok (.invokestatic 192, 3) := by decide +kernel
theorem dX0_workInstruction_245 : decode cX0_workInstruction 245 = .ok (.invokevirtual 195, 3) := by decide +kernel
theorem dX0_workInstruction_248 : decode cX0_workInstruction 248 = .ok (.iload 4, 2) := by decide +kernel
theorem dX0_workInstruction_250 : decode cX0_workInstruction 250 = .ok (.ifCond .eq 19, 3) := by decide +kernel
theorem dX0_workInstruction_253 : decode cX0_workInstruction 253 = .ok (.aload_n 0, 1) := by decide +kernel
theorem dX0_workInstruction_254 : decode cX0_workInstruction 254 = .ok (.getfield 32, 3) := by decide +kernel
theorem dX0_workInstruction_257 : decode cX0_workInstruction 257 = .ok (.aload_n 0, 1) := by decide +kernel
theorem dX0_workInstruction_258 : decode cX0_workInstruction 258 = .ok (.getfield 70, 3) := by decide +kernel
theorem dX0_workInstruction_26 : decode cX0_workInstruction 26 = .ok (.invokevirtual 161, 3) := by decide +kernel
theorem dX0_workInstruction_261 : decode cX0_workInstruction 261 = .ok (.iconst (-1), 1) := by decide +kernel
theorem dX0_workInstruction_262 : decode cX0_workInstruction 262 = .ok (.iload_n 2, 1) := by decide +kernel
theorem dX0_workInstruction_263 : decode cX0_workInstruction 263 = .ok (.invokevirtual 198, 3) := by decide +kernel
theorem dX0_workInstruction_266 : decode cX0_workInstruction 266 = .ok (.goto 74, 3) := by decide +kernel
theorem dX0_workInstruction_269 : decode cX0_workInstruction 269 = .ok (.iload_n 3, 1) := by decide +kernel
theorem dX0_workInstruction_270 : decode cX0_workInstruction 270 = .ok (.iconst 5, 1) := by decide +kernel
theorem dX0_workInstruction_271 : decode cX0_workInstruction 271 = .ok (.if_icmp .ne 23, 3) := by decide +kernel
theorem dX0_workInstruction_274 : decode cX0_workInstruction 274 = .ok (.aload_n 0, 1) := by decide +kernel
theorem dX0_workInstruction_275 : decode cX0_workInstruction 275 = .ok (.getfield 32, 3) := by decide +kernel
theorem dX0_workInstruction_278 : decode cX0_workInstruction 278 = .ok (.aload_n 0, 1) := by decide +kernel
theorem dX0_workInstruction_279 : decode cX0_workInstruction 279 = .ok (.getfield 70, 3) := by decide +kernel
theorem dX0_workInstruction_282 : decode cX0_workInstruction 282 = .ok (.bipush (-10), 2) := by decide +kernel
theorem dX0_workInstruction_284 : decode cX0_workInstruction 284 = .ok (.iload 7, 2) := by decide +kernel
theorem dX0_workInstruction_286 : decode cX0_workInstruction 286 = .ok (.isub, 1) := by decide +kernel
theorem dX0_workInstruction_287 : decode cX0_workInstruction 287 = .ok (.iconst 0, 1) := by decide +kernel
theorem dX0_workInstruction_288 : decode cX0_workInstruction 288 = .ok (.invokevirtual 198, 3) := by decide +kernel
theorem dX0_workInstruction_29 : decode cX0_workInstruction 29 = .ok (.istore_n 2, 1) := by decide +kernel
theorem dX0_workInstruction_291 : decode cX0_workInstruction 291 = .ok (.goto 49, 3) := by decide +kernel
theorem dX0_workInstruction_294 : decode cX0_workInstruction 294 = .ok (.iload_n 3, 1) := by decide +kernel
theorem dX0_workInstruction_295 : decode cX0_workInstruction 295 = .ok (.iconst 2, 1) := by decide +kernel
theorem dX0_workInstruction_296 : decode cX0_workInstruction 296 = .ok (.if_icmp .ne 44, 3) := by decide +kernel
theorem dX0_workInstruction_299 : decode cX0_workInstruction 299 = .ok (.aload_n 0, 1) := by decide +kernel
theorem dX0_workInstruction_3 : decode cX0_workInstruction 3 = .ok (.istore_n 2, 1) := by decide +kernel
theorem dX0_workInstruction_30 : decode cX0_workInstruction 30 = .ok (.aload_n 0, 1) := by decide +kernel
theorem dX0_workInstruction_300 : decode cX0_workInstruction 300 = .ok (.getfield 32, 3) := by decide +kernel
theorem dX0_workInstruction_303 : decode cX0_workInstruction 303 = .ok (.lload 5, 2) := by decide +kernel
theorem dX0_workInstruction_305 : decode cX0_workInstruction 305 = .ok (.invokevirtual 202, 3) := by decide +kernel
theorem dX0_workInstruction_308 : decode cX0_workInstruction 308 = .ok (.istore 10, 2) := by decide +kernel
theorem dX0_workInstruction_31 : decode cX0_workInstruction 31 = .ok (.getfield 47, 3) := by decide +kernel
theorem dX0_workInstruction_310 : decode cX0_workInstruction 310 = .ok (.aload_n 0, 1) := by decide +kernel
theorem dX0_workInstruction_311 : decode cX0_workInstruction 311 = .ok (.getfield 32, 3) := by decide +kernel
theorem dX0_workInstruction_314 : decode cX0_workInstruction 314 = .ok (.iload 10, 2) := by decide +kernel
theorem dX0_workInstruction_316 : decode cX0_workInstruction 316 = .ok (.aload_n 0, 1) := by decide +kernel
theorem dX0_workInstruction_317 : decode cX0_workInstruction 317 = .ok (.getfield 25, 3) := by decide +kernel
theorem dX0_workInstruction_320 : decode cX0_workInstruction 320 = .ok (.getfield 98, 3) := by decide +kernel
theorem dX0_workInstruction_323 : decode cX0_workInstruction 323 = .ok (.invokevirtual 205, 3) := by decide +kernel
theorem dX0_workInstruction_326 : decode cX0_workInstruction 326 = .ok (.aload_n 0, 1) := by decide +kernel
theorem dX0_workInstruction_327 : decode cX0_workInstruction 327 = .ok (.getfield 32, 3) := by decide +kernel
theorem dX0_workInstruction_330 : decode cX0_workInstruction 330 = .ok (.aload_n 0, 1) := by decide +kernel
theorem dX0_workInstruction_331 : decode cX0_workInstruction 331 = .ok (.getfield 70, 3) := by decide +kernel
theorem dX0_workInstruction_334 : decode cX0_workInstruction 334 = .ok (.iload 10, 2) := by decide +kernel
theorem dX0_workInstruction_336 : decode cX0_workInstruction 336 = .ok (.iconst 0, 1) := by decide +kernel
theorem dX0_workInstruction_337 : decode cX0_workInstruction 337 = .ok (.invokevirtual 198, 3) := by decide +kernel
theorem dX0_workInstruction_34 : decode cX0_workInstruction 34 = .ok (.bipush 61, 2) := by decide +kernel
theorem dX0_workInstruction_340 : decode cX0_workInstruction 340 = .ok (.aload_n 0, 1) := by decide +kernel
theorem dX0_workInstruction_341 : decode cX0_workInstruction 341 = .ok (.iload_n 1, 1) := by decide +kernel
theorem dX0_workInstruction_342 : decode cX0_workInstruction 342 = .ok (.ldc 208, 2) := by decide +kernel
theorem dX0_workInstruction_344 : decode cX0_workInstruction 344 = .ok (.iand, 1) := by decide +kernel
theorem dX0_workInstruction_345 : decode cX0_workInstruction 345 = .ok (.iload_n 1, 1) := by decide +kernel
theorem dX0_workInstruction_346 : decode cX0_workInstruction 346 = .ok (.sipush 4095, 3) := by decide +kernel
theorem dX0_workInstruction_349 : decode cX0_workInstruction 349 = .ok (.iand, 1) := by decide +kernel
theorem dX0_workInstruction_350 : decode cX0_workInstruction 350 = .ok (.bipush 18, 2) := by decide +kernel
theorem dX0_workInstruction_352 : decode cX0_workInstruction 352 = .ok (.ishl, 1) := by decide +kernel
theorem dX0_workInstruction_353 : decode cX0_workInstruction 353 = .ok (.ior, 1) := by decide +kernel
theorem dX0_workInstruction_354 : decode cX0_workInstruction 354 = .ok (.iload 8, 2) := by decide +kernel
theorem dX0_workInstruction_356 : decode cX0_workInstruction 356 = .ok (.bipush 12, 2) := by decide +kernel
theorem dX0_workInstruction_358 : decode cX0_workInstruction 358 = .ok (.ishl, 1) := by decide +kernel
theorem dX0_workInstruction_359 : decode cX0_workInstruction 359 = .ok (.ior, 1) := by decide +kernel
theorem dX0_workInstruction_36 : decode cX0_workInstruction 36 = .ok (.invokevirtual 164, 3) := by decide +kernel
theorem dX0_workInstruction_360 : decode cX0_workInstruction 360 = .ok (.iload 9, 2) := by decide +kernel
theorem dX0_workInstruction_362 : decode cX0_workInstruction 362 = .ok (.bipush 6, 2) := by decide +kernel
theorem dX0_workInstruction_364 : decode cX0_workInstruction 364 = .ok (.ishl, 1) := by decide +kernel
theorem dX0_workInstruction_365 : decode cX0_workInstruction 365 = .ok (.ior, 1) := by decide +kernel
theorem dX0_workInstruction_366 : decode cX0_workInstruction 366 = .ok (.aload_n 0, 1) := by decide +kernel
theorem dX0_workInstruction_367 : decode cX0_workInstruction 367 = .ok (.getfield 105, 3) := by decide +kernel
theorem dX0_workInstruction_370 : decode cX0_workInstruction 370 = .ok (.invokestatic 209, 3) := by decide +kernel
theorem dX0_workInstruction_373 : decode cX0_workInstruction 373 = .ok (.ior, 1) := by decide +kernel
theorem dX0_workInstruction_374 : decode cX0_workInstruction 374 = .ok (.invokevirtual 212, 3) := by decide +kernel
theorem dX0_workInstruction_377 : decode cX0_workInstruction 377 = .ok (.iconst 0, 1) := by decide +kernel
theorem dX0_workInstruction_378 : decode cX0_workInstruction 378 = .ok (.ireturn, 1) := by decide +kernel
theorem dX0_workInstruction_39 : decode cX0_workInstruction 39 = .ok (.goto 61, 3) := by decide +kernel
theorem dX0_workInstruction_4 : decode cX0_workInstruction 4 = .ok (.iconst 0, 1) := by decide +kernel
theorem dX0_workInstruction_42 : decode cX0_workInstruction 42 = .ok (.aload_n 0, 1) := by decide +kernel
theorem dX0_workInstruction_43 : decode cX0_workInstruction 43 = .ok (.getfield 47, 3) := by decide +kernel
theorem dX0_workInstruction_46 : decode cX0_workInstruction 46 = .ok (.invokevirtual 168, 3) := by decide +kernel
theorem dX0_workInstruction_49 : decode cX0_workInstruction 49 = .ok (.ifCond .ne 51, 3) := by decide +kernel
theorem dX0_workInstruction_5 : decode cX0_workInstruction 5 = .ok (.istore_n 3, 1) := by decide +kernel
theorem dX0_workInstruction_52 : decode cX0_workInstruction 52 = .ok (.aload_n 0, 1) := by decide +kernel
theorem dX0_workInstruction_53 : decode cX0_workInstruction 53 = .ok (.getfield 47, 3) := by decide +kernel
theorem dX0_workInstruction_56 : decode cX0_workInstruction 56 = .ok (.invokevirtual 171, 3) := by decide +kernel
theorem dX0_workInstruction_59 : decode cX0_workInstruction 59 = .ok (.bipush 44, 2) := by decide +kernel
theorem dX0_workInstruction_6 : decode cX0_workInstruction 6 = .ok (.aload_n 0, 1) := by decide +kernel
theorem dX0_workInstruction_61 : decode cX0_workInstruction 61 = .ok (.if_icmp .eq 39, 3) := by decide +kernel
theorem dX0_workInstruction_64 : decode cX0_workInstruction 64 = .ok (.aload_n 0, 1) := by decide +kernel
theorem dX0_workInstruction_65 : decode cX0_workInstruction 65 = .ok (.getfield 47, 3) := by decide +kernel
theorem dX0_workInstruction_68 : decode cX0_workInstruction 68 = .ok (.invokevirtual 171, 3) := by decide +kernel
theorem dX0_workInstruction_7 : decode cX0_workInstruction 7 = .ok (.getfield 47, 3) := by decide +kernel
theorem dX0_workInstruction_71 : decode cX0_workInstruction 71 = .ok (.bipush 40, 2) := by decide +kernel
theorem dX0_workInstruction_73 : decode cX0_workInstruction 73 = .ok (.if_icmp .eq 27, 3) := by decide +kernel
theorem dX0_workInstruction_76 : decode cX0_workInstruction 76 = .ok (.aload_n 0, 1) := by decide +kernel
theorem dX0_workInstruction_77 : decode cX0_workInstruction 77 = .ok (.getfield 47, 3) := by decide +kernel
theorem dX0_workInstruction_80 : decode cX0_workInstruction 80 = .ok (.invokevirtual 174, 3) := by decide +kernel
theorem dX0_workInstruction_83 : decode cX0_workInstruction 83 = .ok (.istore_n 3, 1) := by decide +kernel
theorem dX0_workInstruction_84 : decode cX0_workInstruction 84 = .ok (.iload_n 3, 1) := by decide +kernel
theorem dX0_workInstruction_85 : decode cX0_workInstruction 85 = .ok (.ifCond .ne 13, 3) := by decide +kernel
theorem dX0_workInstruction_88 : decode cX0_workInstruction 88 = .ok (.aload_n 0, 1) := by decide +kernel
theorem dX0_workInstruction_89 : decode cX0_workInstruction 89 = .ok (.getfield 47, 3) := by decide +kernel
theorem dX0_workInstruction_92 : decode cX0_workInstruction 92 = .ok (.invokevirtual 177, 3) := by decide +kernel
theorem dX0_workInstruction_95 : decode cX0_workInstruction 95 = .ok (.goto 4, 3) := by decide +kernel
theorem dX0_workInstruction_98 : decode cX0_workInstruction 98 = .ok (.iconst 0, 1) := by decide +kernel
theorem dX0_workInstruction_99 : decode cX0_workInstruction 99 = .ok (.istore_n 1, 1) := by decide +kernel
set_option maxHeartbeats 4000000 in
set_option maxRecDepth 100000 in
theorem T_X0_workInstruction (l : Launch) (D : va_G) (K : Nat → ClassId) (Z Y : Nat → Nat) (ad : Nat → Nat) (d : dSt) (t : tSt) (hok : okX t)  : tMet l yX0_workInstruction cX0_workInstruction 11 (some .int) (rmD 5 0 0) D K Z Y [.ref (ad 5)] ((WX d) K ad t) (QI D K (fun (r : Int32) (u : tSt) => okX u ∧ frA [(5, 7), (5, 9), (5, 16), (23, 3), (23, 6), (23, 12), (24, 2), (24, 4), (24, 8)] [(24, 7), (24, 9)] [10, 26, 27, 42, 43, 44, 45, 46, 47, 48, 49, 50] [25, 41] t u ∧ (0 : Int) ≤ r.toInt ∧ r.toInt ≤ 6) (fun (u : tSt) => (WX d) K ad u)) 0 0 := by
  refine t_met RX0 ⟨rfl, by decide +kernel⟩ (Nat.le_of_ble_eq_true rfl) ?_
  intro p e s m below meth c A ls C hE hZ hr hlocks hA hP hD hS hl
  have hl : lv_has ls 11 [(0, .ref (ad 5))] := hl
  have hokt := hok
  have hfr : frA [(5, 7), (5, 9), (5, 16), (23, 3), (23, 6), (23, 12), (24, 2), (24, 4), (24, 8)] [(24, 7), (24, 9)] [10, 26, 27, 42, 43, 44, 45, 46, 47, 48, 49, 50] [25, 41] t t := frA_rf
  have h_1 : (0 : Int) ≤ (t.1 24 2).toInt ∧ (t.1 24 2).toInt ≤ 81 := hok.1 24 2
  have h_2 : (-1 : Int) ≤ (t.1 24 3).toInt ∧ (t.1 24 3).toInt ≤ 80 := hok.1 24 3
  have L_340 : ∀ (t1 : tSt) (w340_1 : Int32) (w340_2 : Int32) (w340_3 : Int32) (w340_4 : Int32) (w340_5 : Int64) (w340_7 : Int32) (w340_8 : Int32) (w340_9 : Int32) (H : Heap) (locs : List Loc) (ls : Array Slot), okX t1 → frA [(5, 7), (5, 9), (5, 16), (23, 3), (23, 6), (23, 12), (24, 2), (24, 4), (24, 8)] [(24, 7), (24, 9)] [10, 26, 27, 42, 43, 44, 45, 46, 47, 48, 49, 50] [25, 41] t t1 → (0 : Int) ≤ w340_3.toInt ∧ w340_3.toInt ≤ 5 → (0 : Int) ≤ w340_4.toInt ∧ w340_4.toInt ≤ 1 → (-3999 : Int) ≤ w340_7.toInt ∧ w340_7.toInt ≤ 79 → (-1073741824 : Int) ≤ w340_8.toInt ∧ w340_8.toInt ≤ 1073741823 → (-1073741824 : Int) ≤ w340_9.toInt ∧ w340_9.toInt ≤ 1073741823 → (-1073741824 : Int) ≤ (t1.1 5 9).toInt ∧ (t1.1 5 9).toInt ≤ 3999 → (0 : Int) ≤ (t1.1 24 4).toInt ∧ (t1.1 24 4).toInt ≤ 0 → va_P D vwCl ((WX d) K ad t1) H → va_D A ((WX d) K ad t1) → va_S A s.heap H locs → lv_has ls 11 [(0, .ref (ad 5)), (1, .int w340_1), (2, .int w340_2), (3, .int w340_3), (4, .int w340_4), (5, .long w340_5), (7, .int w340_7), (8, .int w340_8), (9, .int w340_9)] → W p l e (rmD 5 0 0) s m [.ref (ad 5)].toArray below meth c H locs 0 0 (MQ below (QI D K (fun (r : Int32) (u : tSt) => okX u ∧ frA [(5, 7), (5, 9), (5, 16), (23, 3), (23, 6), (23, 12), (24, 2), (24, 4), (24, 8)] [(24, 7), (24, 9)] [10, 26, 27, 42, 43, 44, 45, 46, 47, 48, 49, 50] [25, 41] t u ∧ (0 : Int) ≤ r.toInt ∧ r.toInt ≤ 6) (fun (u : tSt) => (WX d) K ad u) A) [.ref (ad 5)].toArray s 0 0 A) (F0 m 340 ls []) := by
    intro t1 w340_1 w340_2 w340_3 w340_4 w340_5 w340_7 w340_8 w340_9 H locs ls hok hfr hw340_3 hw340_4 hw340_7 hw340_8 hw340_9 hf340_9 hf340_4 hP hD hS hl
    have h_3 : (t1.1 24 3).toInt = (t.1 24 3).toInt := ti_eq (hfr.1 24 3 rfl)
    have h_4 : (0 : Int) ≤ (t1.1 24 2).toInt ∧ (t1.1 24 2).toInt ≤ 81 := hok.1 24 2
    have h_5 : (-1 : Int) ≤ (t1.1 24 3).toInt ∧ (t1.1 24 3).toInt ≤ 80 := hok.1 24 3
    refine lv_aload_n C.1 C.2.1 dX0_workInstruction_340 rfl (lv_at hl 0 rfl) ?_
    refine lv_iload_n C.1 C.2.1 dX0_workInstruction_341 rfl (lv_at hl 1 rfl) ?_
    refine lv_ldc (v := 1073741824) C.1 C.2.1 C.2.2.2.1 (C.2.2.2.2.1 _ m_21_7) dX0_workInstruction_342 ?_
    obtain ⟨v_6, e_7⟩ : ∃ z, z = (w340_1 : Int32) &&& (1073741824 : Int32) := ⟨_, rfl⟩
    have h_8 : (0 : Int) ≤ v_6.toInt ∧ v_6.toInt ≤ 1073741824 := by rw [e_7]; exact z_and _ (k := 1073741824) (by decide) (by decide)
    refine k_iand (v := v_6) C e_7.symm dX0_workInstruction_344 ?_
    refine lv_iload_n C.1 C.2.1 dX0_workInstruction_345 rfl (lv_at hl 1 rfl) ?_
    refine lv_sipush (v := 4095) C.1 C.2.1 dX0_workInstruction_346 (by decide) ?_
    obtain ⟨v_9, e_10⟩ : ∃ z, z = (w340_1 : Int32) &&& (4095 : Int32) := ⟨_, rfl⟩
    have h_11 : v_9.toInt = w340_1.toInt % 2 ^ 12 := by rw [e_10]; exact Jvm.Kit.i32_mask _ _ (k := 12) (by decide) (by decide)
    refine k_iand (v := v_9) C e_10.symm dX0_workInstruction_349 ?_
    refine lv_bipush (v := 18) C.1 C.2.1 dX0_workInstruction_350 (by decide) ?_
    obtain ⟨v_12, e_13⟩ : ∃ z, z = (v_9 : Int32) <<< ((18 : Int32) &&& 31) := ⟨_, rfl⟩
    have h_14 : v_12.toInt = v_9.toInt * 2 ^ 18 := by rw [e_13]; exact Jvm.Kit.i32_shl _ _ (k := 18) (by decide) (by omega) (by omega)
    refine k_ishl (v := v_12) C e_13.symm dX0_workInstruction_352 ?_
    obtain ⟨v_15, e_16⟩ : ∃ z, z = (v_6 : Int32) ||| (v_12 : Int32) := ⟨_, rfl⟩
    have h_17 : (0 : Int) ≤ v_15.toInt ∧ v_15.toInt ≤ 2147483647 := by rw [e_16]; exact z_or (k := 31) (by decide) (by show (0 : Int) ≤ v_6.toInt; omega) (by show v_6.toInt < (_ : Int); omega) (by show (0 : Int) ≤ v_12.toInt; omega) (by show v_12.toInt < (_ : Int); omega)
    refine k_ior (v := v_15) C e_16.symm dX0_workInstruction_353 ?_
    refine lv_iload C.1 C.2.1 dX0_workInstruction_354 (lv_at hl 7 rfl) ?_
    refine lv_bipush (v := 12) C.1 C.2.1 dX0_workInstruction_356 (by decide) ?_
    obtain ⟨v_18, e_19⟩ : ∃ z, z = (w340_8 : Int32) <<< ((12 : Int32) &&& 31) := ⟨_, rfl⟩
    refine k_ishl (v := v_18) C e_19.symm dX0_workInstruction_358 ?_
    obtain ⟨v_21, e_22⟩ : ∃ z, z = (v_15 : Int32) ||| (v_18 : Int32) := ⟨_, rfl⟩
    refine k_ior (v := v_21) C e_22.symm dX0_workInstruction_359 ?_
    refine lv_iload C.1 C.2.1 dX0_workInstruction_360 (lv_at hl 8 rfl) ?_
    refine lv_bipush (v := 6) C.1 C.2.1 dX0_workInstruction_362 (by decide) ?_
    obtain ⟨v_24, e_25⟩ : ∃ z, z = (w340_9 : Int32) <<< ((6 : Int32) &&& 31) := ⟨_, rfl⟩
    refine k_ishl (v := v_24) C e_25.symm dX0_workInstruction_364 ?_
    obtain ⟨v_27, e_28⟩ : ∃ z, z = (v_21 : Int32) ||| (v_24 : Int32) := ⟨_, rfl⟩
    refine k_ior (v := v_27) C e_28.symm dX0_workInstruction_365 ?_
    refine lv_aload_n C.1 C.2.1 dX0_workInstruction_366 rfl (lv_at hl 0 rfl) ?_
    have h_30 : (-1 : Int) ≤ (t1.1 5 11).toInt ∧ (t1.1 5 11).toInt ≤ 156 := hok.1 5 11
    refine k_get (v := .int (t1.1 5 11)) C hP 5 rfl rfl inlX0 11 (by decide) m_13_17 rfl dX0_workInstruction_367 ?_
    refine g_Si (As := [.int (t1.1 5 11)]) (rest := [.int v_27, .ref (ad 5)]) C hP hD hS hA (T_X1_cOf l D K Z Y ad d t1 hok ((t1.1 5 11)) (show (-1 : Int) ≤ ((t1.1 5 11) : Int32).toInt ∧ ((t1.1 5 11) : Int32).toInt ≤ 255 from ⟨by omega, by omega⟩)) hE hZ (uwS m_26_9 m_25_4 m_14_2 m_25_5) (hdS 1 (by decide +kernel) rfl) ⟨Nat.le_of_ble_eq_true rfl, Nat.le_of_ble_eq_true rfl⟩ rfl rfl rfl hl.1 (Nat.le_of_ble_eq_true rfl) dX0_workInstruction_370 ⟨Nat.le_of_ble_eq_true rfl, Nat.le_of_ble_eq_true rfl⟩ (fun r_32 t_31 H locs hw hP hD hS => ?_)
    obtain ⟨h_34, h_35⟩ := hw
    obtain ⟨v_36, e_37⟩ : ∃ z, z = (v_27 : Int32) ||| (r_32 : Int32) := ⟨_, rfl⟩
    refine k_ior (v := v_36) C e_37.symm dX0_workInstruction_373 ?_
    refine g_Vv (As := [.int v_36]) (rest := []) C hP hD hS hA (T_X0_put l D K Z Y ad d t1 hok (v_36)) hE hZ (uwV m_26_10 m_26_11 m_26_12 m_2_2 m_26_13) (hdV 1 (by decide +kernel) rfl) ⟨Nat.le_of_ble_eq_true rfl, Nat.le_of_ble_eq_true rfl⟩ rfl rfl (ci := 0) (q0 := 5) rfl rfl rfl hl.1 (Nat.le_of_ble_eq_true rfl) dX0_workInstruction_374 ⟨Nat.le_of_ble_eq_true rfl, Nat.le_of_ble_eq_true rfl⟩ (fun t_39 H locs hw hP hD hS => ?_)
    obtain ⟨hok, f_41⟩ := hw
    have hfr : frA [(5, 7), (5, 9), (5, 16), (23, 3), (23, 6), (23, 12), (24, 2), (24, 4), (24, 8)] [(24, 7), (24, 9)] [10, 26, 27, 42, 43, 44, 45, 46, 47, 48, 49, 50] [25, 41] t t_39 := frA_tr hfr f_41 rfl
    have h_42 : (t_39.1 24 4).toInt = (t1.1 24 4).toInt := ti_eq (f_41.1 24 4 rfl)
    have h_43 : (t_39.1 5 11).toInt = (t1.1 5 11).toInt := ti_eq (f_41.1 5 11 rfl)
    have h_44 : (t_39.1 24 2).toInt = (t1.1 24 2).toInt := ti_eq (f_41.1 24 2 rfl)
    have h_45 : (t_39.1 24 3).toInt = (t1.1 24 3).toInt := ti_eq (f_41.1 24 3 rfl)
    have h_46 : (0 : Int) ≤ (t_39.1 24 2).toInt ∧ (t_39.1 24 2).toInt ≤ 81 := hok.1 24 2
    have h_47 : (-1 : Int) ≤ (t_39.1 24 3).toInt ∧ (t_39.1 24 3).toInt ≤ 80 := hok.1 24 3
    refine lv_iconst (v := 0) C.1 C.2.1 dX0_workInstruction_377 (by decide) ?_
    exact g_iret C hr hlocks hP hD hS rfl t_39 rfl ⟨hok, hfr, by decide, by decide⟩ (Nat.le_of_ble_eq_true rfl) (Nat.le_of_ble_eq_true rfl) dX0_workInstruction_378
  have L_213 : ∀ (t1 : tSt) (w213_1 : Int32) (w213_2 : Int32) (w213_3 : Int32) (w213_4 : Int32) (w213_5 : Int64) (w213_7 : Int32) (w213_8 : Int32) (w213_9 : Int32) (H : Heap) (locs : List Loc) (ls : Array Slot), okX t1 → frA [(5, 7), (5, 9), (5, 16), (23, 3), (23, 6), (23, 12), (24, 2), (24, 4), (24, 8)] [(24, 7), (24, 9)] [10, 26, 27, 42, 43, 44, 45, 46, 47, 48, 49, 50] [25, 41] t t1 → (0 : Int) ≤ w213_3.toInt ∧ w213_3.toInt ≤ 5 → (0 : Int) ≤ w213_4.toInt ∧ w213_4.toInt ≤ 1 → (-3999 : Int) ≤ w213_7.toInt ∧ w213_7.toInt ≤ 79 → (-1073741824 : Int) ≤ w213_8.toInt ∧ w213_8.toInt ≤ 1073741823 → (-1073741824 : Int) ≤ w213_9.toInt ∧ w213_9.toInt ≤ 1073741823 → va_P D vwCl ((WX d) K ad t1) H → va_D A ((WX d) K ad t1) → va_S A s.heap H locs → lv_has ls 11 [(0, .ref (ad 5)), (1, .int w213_1), (2, .int w213_2), (3, .int w213_3), (4, .int w213_4), (5, .long w213_5), (7, .int w213_7), (8, .int w213_8), (9, .int w213_9)] → W p l e (rmD 5 0 0) s m [.ref (ad 5)].toArray below meth c H locs 0 0 (MQ below (QI D K (fun (r : Int32) (u : tSt) => okX u ∧ frA [(5, 7), (5, 9), (5, 16), (23, 3), (23, 6), (23, 12), (24, 2), (24, 4), (24, 8)] [(24, 7), (24, 9)] [10, 26, 27, 42, 43, 44, 45, 46, 47, 48, 49, 50] [25, 41] t u ∧ (0 : Int) ≤ r.toInt ∧ r.toInt ≤ 6) (fun (u : tSt) => (WX d) K ad u) A) [.ref (ad 5)].toArray s 0 0 A) (F0 m 213 ls []) := by
    intro t1 w213_1 w213_2 w213_3 w213_4 w213_5 w213_7 w213_8 w213_9 H locs ls hok hfr hw213_3 hw213_4 hw213_7 hw213_8 hw213_9 hP hD hS hl
    have h_48 : (t1.1 24 3).toInt = (t.1 24 3).toInt := ti_eq (hfr.1 24 3 rfl)
    have h_49 : (0 : Int) ≤ (t1.1 24 2).toInt ∧ (t1.1 24 2).toInt ≤ 81 := hok.1 24 2
    have h_50 : (-1 : Int) ≤ (t1.1 24 3).toInt ∧ (t1.1 24 3).toInt ≤ 80 := hok.1 24 3
    refine lv_aload_n C.1 C.2.1 dX0_workInstruction_213 rfl (lv_at hl 0 rfl) ?_
    refine k_get (v := .ref (ad 24)) C hP 5 rfl rfl inlX0 3 (by decide) m_6_0 rfl dX0_workInstruction_214 ?_
    have h_51 : (0 : Int) ≤ (t1.1 24 4).toInt ∧ (t1.1 24 4).toInt ≤ 6 := hok.1 24 4
    refine k_get (v := .int (t1.1 24 4)) C hP 24 rfl rfl inlX5 4 (by decide) m_21_6 rfl dX0_workInstruction_217 ?_
    refine lv_if_eq (tgt := 233) C.1 C.2.1 dX0_workInstruction_220 (by decide) (fun c_52 => ?_) (fun c_52 => ?_)
    · replace c_52 : (t1.1 24 4).toInt = 0 := i_eq c_52
      refine lv_bipush (v := 6) C.1 C.2.1 dX0_workInstruction_233 (by decide) ?_
      exact g_iret C hr hlocks hP hD hS rfl t1 rfl ⟨hok, hfr, by decide, by decide⟩ (Nat.le_of_ble_eq_true rfl) (Nat.le_of_ble_eq_true rfl) dX0_workInstruction_235
    · replace c_52 : ¬ (t1.1 24 4).toInt = 0 := i_ne c_52
      refine lv_aload_n C.1 C.2.1 dX0_workInstruction_223 rfl (lv_at hl 0 rfl) ?_
      refine k_get (v := .ref (ad 24)) C hP 5 rfl rfl inlX0 3 (by decide) m_6_0 rfl dX0_workInstruction_224 ?_
      refine k_get (v := .int (t1.1 24 4)) C hP 24 rfl rfl inlX5 4 (by decide) m_21_6 rfl dX0_workInstruction_227 ?_
      refine lv_goto (tgt := 235) C.1 C.2.1 dX0_workInstruction_230 (by decide) ?_
      exact g_iret C hr hlocks hP hD hS rfl t1 rfl ⟨hok, hfr, by omega, by omega⟩ (Nat.le_of_ble_eq_true rfl) (Nat.le_of_ble_eq_true rfl) dX0_workInstruction_235
  have L_186 : ∀ (t1 : tSt) (w186_1 : Int32) (w186_2 : Int32) (w186_3 : Int32) (w186_4 : Int32) (w186_5 : Int64) (w186_7 : Int32) (w186_8 : Int32) (w186_9 : Int32) (H : Heap) (locs : List Loc) (ls : Array Slot), okX t1 → frA [(5, 7), (5, 9), (5, 16), (23, 3), (23, 6), (23, 12), (24, 2), (24, 4), (24, 8)] [(24, 7), (24, 9)] [10, 26, 27, 42, 43, 44, 45, 46, 47, 48, 49, 50] [25, 41] t t1 → (0 : Int) ≤ w186_3.toInt ∧ w186_3.toInt ≤ 5 → (0 : Int) ≤ w186_4.toInt ∧ w186_4.toInt ≤ 1 → (-3999 : Int) ≤ w186_7.toInt ∧ w186_7.toInt ≤ 79 → (-1073741824 : Int) ≤ w186_8.toInt ∧ w186_8.toInt ≤ 1073741823 → (-1073741824 : Int) ≤ w186_9.toInt ∧ w186_9.toInt ≤ 1073741823 → va_P D vwCl ((WX d) K ad t1) H → va_D A ((WX d) K ad t1) → va_S A s.heap H locs → lv_has ls 11 [(0, .ref (ad 5)), (1, .int w186_1), (2, .int w186_2), (3, .int w186_3), (4, .int w186_4), (5, .long w186_5), (7, .int w186_7), (8, .int w186_8), (9, .int w186_9)] → W p l e (rmD 5 0 0) s m [.ref (ad 5)].toArray below meth c H locs 0 0 (MQ below (QI D K (fun (r : Int32) (u : tSt) => okX u ∧ frA [(5, 7), (5, 9), (5, 16), (23, 3), (23, 6), (23, 12), (24, 2), (24, 4), (24, 8)] [(24, 7), (24, 9)] [10, 26, 27, 42, 43, 44, 45, 46, 47, 48, 49, 50] [25, 41] t u ∧ (0 : Int) ≤ r.toInt ∧ r.toInt ≤ 6) (fun (u : tSt) => (WX d) K ad u) A) [.ref (ad 5)].toArray s 0 0 A) (F0 m 186 ls []) := by
    intro t1 w186_1 w186_2 w186_3 w186_4 w186_5 w186_7 w186_8 w186_9 H locs ls hok hfr hw186_3 hw186_4 hw186_7 hw186_8 hw186_9 hP hD hS hl
    have h_53 : (t1.1 24 3).toInt = (t.1 24 3).toInt := ti_eq (hfr.1 24 3 rfl)
    have h_54 : (0 : Int) ≤ (t1.1 24 2).toInt ∧ (t1.1 24 2).toInt ≤ 81 := hok.1 24 2
    have h_55 : (-1 : Int) ≤ (t1.1 24 3).toInt ∧ (t1.1 24 3).toInt ≤ 80 := hok.1 24 3
    refine lv_aload_n C.1 C.2.1 dX0_workInstruction_186 rfl (lv_at hl 0 rfl) ?_
    refine k_get (v := .ref (ad 24)) C hP 5 rfl rfl inlX0 3 (by decide) m_6_0 rfl dX0_workInstruction_187 ?_
    refine g_Vv (As := []) (rest := []) C hP hD hS hA (T_X5_finish l D K Z Y ad d t1 hok ) hE hZ (uwV m_25_6 m_25_7 m_25_8 m_5_22 m_25_9) (hdV 0 (by decide +kernel) rfl) ⟨Nat.le_of_ble_eq_true rfl, Nat.le_of_ble_eq_true rfl⟩ rfl rfl (ci := 4) (q0 := 24) rfl rfl rfl hl.1 (Nat.le_of_ble_eq_true rfl) dX0_workInstruction_190 ⟨Nat.le_of_ble_eq_true rfl, Nat.le_of_ble_eq_true rfl⟩ (fun t_56 H locs hw hP hD hS => ?_)
    obtain ⟨hok, f_58⟩ := hw
    have hfr : frA [(5, 7), (5, 9), (5, 16), (23, 3), (23, 6), (23, 12), (24, 2), (24, 4), (24, 8)] [(24, 7), (24, 9)] [10, 26, 27, 42, 43, 44, 45, 46, 47, 48, 49, 50] [25, 41] t t_56 := frA_tr hfr f_58 rfl
    have h_59 : (t_56.1 24 2).toInt = (t1.1 24 2).toInt := ti_eq (f_58.1 24 2 rfl)
    have h_60 : (t_56.1 24 3).toInt = (t1.1 24 3).toInt := ti_eq (f_58.1 24 3 rfl)
    have h_61 : (0 : Int) ≤ (t_56.1 24 2).toInt ∧ (t_56.1 24 2).toInt ≤ 81 := hok.1 24 2
    have h_62 : (-1 : Int) ≤ (t_56.1 24 3).toInt ∧ (t_56.1 24 3).toInt ≤ 80 := hok.1 24 3
    refine lv_aload_n C.1 C.2.1 dX0_workInstruction_193 rfl (lv_at hl 0 rfl) ?_
    refine k_get (v := .ref (ad 24)) C hP 5 rfl rfl inlX0 3 (by decide) m_6_0 rfl dX0_workInstruction_194 ?_
    have h_63 : (0 : Int) ≤ (t_56.1 24 4).toInt ∧ (t_56.1 24 4).toInt ≤ 6 := hok.1 24 4
    refine k_get (v := .int (t_56.1 24 4)) C hP 24 rfl rfl inlX5 4 (by decide) m_21_6 rfl dX0_workInstruction_197 ?_
    refine lv_if_ne (tgt := 213) C.1 C.2.1 dX0_workInstruction_200 (by decide) (fun c_64 => ?_) (fun c_64 => ?_)
    · replace c_64 : ¬ (t_56.1 24 4).toInt = 0 := i_ne c_64
      exact L_213 t_56 w186_1 w186_2 w186_3 w186_4 w186_5 w186_7 w186_8 w186_9 _ _ _ hok hfr ⟨by omega, by omega⟩ ⟨by omega, by omega⟩ ⟨by omega, by omega⟩ ⟨by omega, by omega⟩ ⟨by omega, by omega⟩ hP hD hS (lv_sub hl [0, 1, 2, 3, 4, 5, 6, 7, 8] rfl)
    · replace c_64 : (t_56.1 24 4).toInt = 0 := i_eq c_64
      refine lv_aload_n C.1 C.2.1 dX0_workInstruction_203 rfl (lv_at hl 0 rfl) ?_
      have h_65 : (-1073741824 : Int) ≤ (t_56.1 5 9).toInt ∧ (t_56.1 5 9).toInt ≤ 1073741824 := hok.1 5 9
      refine k_get (v := .int (t_56.1 5 9)) C hP 5 rfl rfl inlX0 9 (by decide) m_12_3 rfl dX0_workInstruction_204 ?_
      refine lv_sipush (v := 3999) C.1 C.2.1 dX0_workInstruction_207 (by decide) ?_
      refine lv_icmp_le (tgt := 236) C.1 C.2.1 dX0_workInstruction_210 (by decide) (fun c_66 => ?_) (fun c_66 => ?_)
      · replace c_66 : (t_56.1 5 9).toInt ≤ 3999 := i_le c_66
        refine lv_aload_n C.1 C.2.1 dX0_workInstruction_236 rfl (lv_at hl 0 rfl) ?_
        refine lv_aload_n C.1 C.2.1 dX0_workInstruction_237 rfl (lv_at hl 0 rfl) ?_
        refine k_get (v := .int (t_56.1 5 9)) C hP 5 rfl rfl inlX0 9 (by decide) m_12_3 rfl dX0_workInstruction_238 ?_
        obtain ⟨v_67, e_68⟩ : ∃ z, z = ((t_56.1 5 9) : Int32).toInt64 := ⟨_, rfl⟩
        have h_69 : v_67.toInt = (t_56.1 5 9).toInt := by rw [e_68]; exact Jvm.Kit.i64_of_i32 _
        refine lv_i2l (v := v_67) C.1 C.2.1 dX0_workInstruction_241 e_68.symm ?_
        refine g_Si (As := [.long v_67]) (rest := [.ref (ad 5)]) C hP hD hS hA (T_X1_wordOf l D K Z Y ad d t_56 hok (v_67)) hE hZ (uwS m_25_10 m_22_11 m_14_2 m_22_12) (hdS 1 (by decide +kernel) rfl) ⟨Nat.le_of_ble_eq_true rfl, Nat.le_of_ble_eq_true rfl⟩ rfl rfl rfl hl.1 (Nat.le_of_ble_eq_true rfl) dX0_workInstruction_242 ⟨Nat.le_of_ble_eq_true rfl, Nat.le_of_ble_eq_true rfl⟩ (fun r_71 t_70 H locs hw hP hD hS => ?_)
        obtain ⟨h_73, h_74⟩ := hw
        refine g_Vv (As := [.int r_71]) (rest := []) C hP hD hS hA (T_X0_define l D K Z Y ad d t_56 hok (r_71)) hE hZ (uwV m_25_11 m_25_12 m_25_13 m_2_2 m_25_14) (hdV 1 (by decide +kernel) rfl) ⟨Nat.le_of_ble_eq_true rfl, Nat.le_of_ble_eq_true rfl⟩ rfl rfl (ci := 0) (q0 := 5) rfl rfl rfl hl.1 (Nat.le_of_ble_eq_true rfl) dX0_workInstruction_245 ⟨Nat.le_of_ble_eq_true rfl, Nat.le_of_ble_eq_true rfl⟩ (fun t_75 H locs hw hP hD hS => ?_)
        obtain ⟨hok, f_77⟩ := hw
        have hfr : frA [(5, 7), (5, 9), (5, 16), (23, 3), (23, 6), (23, 12), (24, 2), (24, 4), (24, 8)] [(24, 7), (24, 9)] [10, 26, 27, 42, 43, 44, 45, 46, 47, 48, 49, 50] [25, 41] t t_75 := frA_tr hfr f_77 rfl
        have h_78 : (t_75.1 24 4).toInt = (t_56.1 24 4).toInt := ti_eq (f_77.1 24 4 rfl)
        have h_79 : (t_75.1 5 9).toInt = (t_56.1 5 9).toInt := ti_eq (f_77.1 5 9 rfl)
        have h_80 : (t_75.1 24 2).toInt = (t_56.1 24 2).toInt := ti_eq (f_77.1 24 2 rfl)
        have h_81 : (t_75.1 24 3).toInt = (t_56.1 24 3).toInt := ti_eq (f_77.1 24 3 rfl)
        have h_82 : (0 : Int) ≤ (t_75.1 24 2).toInt ∧ (t_75.1 24 2).toInt ≤ 81 := hok.1 24 2
        have h_83 : (-1 : Int) ≤ (t_75.1 24 3).toInt ∧ (t_75.1 24 3).toInt ≤ 80 := hok.1 24 3
        refine lv_iload C.1 C.2.1 dX0_workInstruction_248 (lv_at hl 4 rfl) ?_
        refine lv_if_eq (tgt := 269) C.1 C.2.1 dX0_workInstruction_250 (by decide) (fun c_84 => ?_) (fun c_84 => ?_)
        · replace c_84 : w186_4.toInt = 0 := i_eq c_84
          refine lv_iload_n C.1 C.2.1 dX0_workInstruction_269 rfl (lv_at hl 3 rfl) ?_
          refine lv_iconst (v := 5) C.1 C.2.1 dX0_workInstruction_270 (by decide) ?_
          refine lv_icmp_ne (tgt := 294) C.1 C.2.1 dX0_workInstruction_271 (by decide) (fun c_85 => ?_) (fun c_85 => ?_)
          · replace c_85 : ¬ w186_3.toInt = 5 := i_ne c_85
            refine lv_iload_n C.1 C.2.1 dX0_workInstruction_294 rfl (lv_at hl 3 rfl) ?_
            refine lv_iconst (v := 2) C.1 C.2.1 dX0_workInstruction_295 (by decide) ?_
            refine lv_icmp_ne (tgt := 340) C.1 C.2.1 dX0_workInstruction_296 (by decide) (fun c_86 => ?_) (fun c_86 => ?_)
            · replace c_86 : ¬ w186_3.toInt = 2 := i_ne c_86
              exact L_340 t_75 w186_1 w186_2 w186_3 w186_4 w186_5 w186_7 w186_8 w186_9 _ _ _ hok hfr ⟨by omega, by omega⟩ ⟨by omega, by omega⟩ ⟨by omega, by omega⟩ ⟨by omega, by omega⟩ ⟨by omega, by omega⟩ (show (-1073741824 : Int) ≤ ((t_75.1 5 9) : Int32).toInt ∧ ((t_75.1 5 9) : Int32).toInt ≤ 3999 from ⟨by omega, by omega⟩) (show (0 : Int) ≤ ((t_75.1 24 4) : Int32).toInt ∧ ((t_75.1 24 4) : Int32).toInt ≤ 0 from ⟨by omega, by omega⟩) hP hD hS (lv_sub hl [0, 1, 2, 3, 4, 5, 6, 7, 8] rfl)
            · replace c_86 : w186_3.toInt = 2 := i_eq c_86
              refine lv_aload_n C.1 C.2.1 dX0_workInstruction_299 rfl (lv_at hl 0 rfl) ?_
              refine k_get (v := .ref (ad 23)) C hP 5 rfl rfl inlX0 2 (by decide) m_5_19 rfl dX0_workInstruction_300 ?_
              refine lv_lload C.1 C.2.1 dX0_workInstruction_303 (lv_at hl 5 rfl) ?_
              refine g_Vi (As := [.long w186_5]) (rest := []) C hP hD hS hA (T_X8_enter l D K Z Y ad d t_75 hok (w186_5)) hE hZ (uwV m_25_15 m_25_16 m_25_17 m_2_5 m_25_18) (hdV 1 (by decide +kernel) rfl) ⟨Nat.le_of_ble_eq_true rfl, Nat.le_of_ble_eq_true rfl⟩ rfl rfl (ci := 7) (q0 := 23) rfl rfl rfl hl.1 (Nat.le_of_ble_eq_true rfl) dX0_workInstruction_305 ⟨Nat.le_of_ble_eq_true rfl, Nat.le_of_ble_eq_true rfl⟩ (fun r_88 t_87 H locs hw hP hD hS => ?_)
              obtain ⟨hok, f_89, h_90, h_91⟩ := hw
              have hfr : frA [(5, 7), (5, 9), (5, 16), (23, 3), (23, 6), (23, 12), (24, 2), (24, 4), (24, 8)] [(24, 7), (24, 9)] [10, 26, 27, 42, 43, 44, 45, 46, 47, 48, 49, 50] [25, 41] t t_87 := frA_tr hfr f_89 rfl
              have h_92 : (t_87.1 24 4).toInt = (t_75.1 24 4).toInt := ti_eq (f_89.1 24 4 rfl)
              have h_93 : (t_87.1 5 9).toInt = (t_75.1 5 9).toInt := ti_eq (f_89.1 5 9 rfl)
              have h_94 : (t_87.1 24 2).toInt = (t_75.1 24 2).toInt := ti_eq (f_89.1 24 2 rfl)
              have h_95 : (t_87.1 24 3).toInt = (t_75.1 24 3).toInt := ti_eq (f_89.1 24 3 rfl)
              have h_96 : (0 : Int) ≤ (t_87.1 24 2).toInt ∧ (t_87.1 24 2).toInt ≤ 81 := hok.1 24 2
              have h_97 : (-1 : Int) ≤ (t_87.1 24 3).toInt ∧ (t_87.1 24 3).toInt ≤ 80 := hok.1 24 3
              refine lv_istore (lv' := [(10, .int r_88), (0, .ref (ad 5)), (1, .int w186_1), (2, .int w186_2), (3, .int w186_3), (4, .int w186_4), (5, .long w186_5), (7, .int w186_7), (8, .int w186_8), (9, .int w186_9)]) C.1 C.2.1 dX0_workInstruction_308 hl (by decide) rfl (fun ls hl => ?_)
              have hl : lv_has ls 11 [(0, .ref (ad 5)), (1, .int w186_1), (2, .int w186_2), (3, .int w186_3), (4, .int w186_4), (5, .long w186_5), (7, .int w186_7), (8, .int w186_8), (9, .int w186_9), (10, .int r_88)] := lv_sub hl [1, 2, 3, 4, 5, 6, 7, 8, 9, 0] rfl
              refine lv_aload_n C.1 C.2.1 dX0_workInstruction_310 rfl (lv_at hl 0 rfl) ?_
              refine k_get (v := .ref (ad 23)) C hP 5 rfl rfl inlX0 2 (by decide) m_5_19 rfl dX0_workInstruction_311 ?_
              refine lv_iload C.1 C.2.1 dX0_workInstruction_314 (lv_at hl 9 rfl) ?_
              refine lv_aload_n C.1 C.2.1 dX0_workInstruction_316 rfl (lv_at hl 0 rfl) ?_
              refine k_get (v := .ref (ad 2)) C hP 5 rfl rfl inlX0 0 (by decide) m_5_17 rfl dX0_workInstruction_317 ?_
              refine k_get (v := .int (t_87.1 2 5)) C hP 2 rfl rfl inlX9 5 (by decide) m_13_16 rfl dX0_workInstruction_320 ?_
              refine g_Vv (As := [.int r_88, .int (t_87.1 2 5)]) (rest := []) C hP hD hS hA (T_X8_noteRead l D K Z Y ad d t_87 hok (r_88) (show (-1 : Int) ≤ (r_88 : Int32).toInt ∧ (r_88 : Int32).toInt ≤ 2147483647 from ⟨by omega, (i_rng _).2⟩) ((t_87.1 2 5))) hE hZ (uwV m_26_8 m_22_21 m_22_22 m_2_5 m_22_23) (hdV 2 (by decide +kernel) rfl) ⟨Nat.le_of_ble_eq_true rfl, Nat.le_of_ble_eq_true rfl⟩ rfl rfl (ci := 7) (q0 := 23) rfl rfl rfl hl.1 (Nat.le_of_ble_eq_true rfl) dX0_workInstruction_323 ⟨Nat.le_of_ble_eq_true rfl, Nat.le_of_ble_eq_true rfl⟩ (fun t_98 H locs hw hP hD hS => ?_)
              obtain ⟨hok, f_100⟩ := hw
              have hfr : frA [(5, 7), (5, 9), (5, 16), (23, 3), (23, 6), (23, 12), (24, 2), (24, 4), (24, 8)] [(24, 7), (24, 9)] [10, 26, 27, 42, 43, 44, 45, 46, 47, 48, 49, 50] [25, 41] t t_98 := frA_tr hfr f_100 rfl
              have h_101 : (t_98.1 24 4).toInt = (t_87.1 24 4).toInt := ti_eq (f_100.1 24 4 rfl)
              have h_102 : (t_98.1 5 9).toInt = (t_87.1 5 9).toInt := ti_eq (f_100.1 5 9 rfl)
              have h_103 : (t_98.1 2 5).toInt = (t_87.1 2 5).toInt := ti_eq (f_100.1 2 5 rfl)
              have h_104 : (t_98.1 24 2).toInt = (t_87.1 24 2).toInt := ti_eq (f_100.1 24 2 rfl)
              have h_105 : (t_98.1 24 3).toInt = (t_87.1 24 3).toInt := ti_eq (f_100.1 24 3 rfl)
              have h_106 : (0 : Int) ≤ (t_98.1 24 2).toInt ∧ (t_98.1 24 2).toInt ≤ 81 := hok.1 24 2
              have h_107 : (-1 : Int) ≤ (t_98.1 24 3).toInt ∧ (t_98.1 24 3).toInt ≤ 80 := hok.1 24 3
              refine lv_aload_n C.1 C.2.1 dX0_workInstruction_326 rfl (lv_at hl 0 rfl) ?_
              refine k_get (v := .ref (ad 23)) C hP 5 rfl rfl inlX0 2 (by decide) m_5_19 rfl dX0_workInstruction_327 ?_
              refine lv_aload_n C.1 C.2.1 dX0_workInstruction_330 rfl (lv_at hl 0 rfl) ?_
              refine k_get (v := .int (t_98.1 5 9)) C hP 5 rfl rfl inlX0 9 (by decide) m_12_3 rfl dX0_workInstruction_331 ?_
              refine lv_iload C.1 C.2.1 dX0_workInstruction_334 (lv_at hl 9 rfl) ?_
              refine lv_iconst (v := 0) C.1 C.2.1 dX0_workInstruction_336 (by decide) ?_
              refine g_Vv (As := [.int (t_98.1 5 9), .int r_88, .int 0]) (rest := []) C hP hD hS hA (T_X8_addUse l D K Z Y ad d t_98 hok ((t_98.1 5 9)) (show (-1073741824 : Int) ≤ ((t_98.1 5 9) : Int32).toInt ∧ ((t_98.1 5 9) : Int32).toInt ≤ 3999 from ⟨by omega, by omega⟩) (r_88) (show (-89 : Int) ≤ (r_88 : Int32).toInt ∧ (r_88 : Int32).toInt ≤ 2147483647 from ⟨by omega, (i_rng _).2⟩) 0) hE hZ (uwV m_26_4 m_26_5 m_26_6 m_2_5 m_26_7) (hdV 3 (by decide +kernel) rfl) ⟨Nat.le_of_ble_eq_true rfl, Nat.le_of_ble_eq_true rfl⟩ rfl rfl (ci := 7) (q0 := 23) rfl rfl rfl hl.1 (Nat.le_of_ble_eq_true rfl) dX0_workInstruction_337 ⟨Nat.le_of_ble_eq_true rfl, Nat.le_of_ble_eq_true rfl⟩ (fun t_108 H locs hw hP hD hS => ?_)
              obtain ⟨hok, f_110⟩ := hw
              have hfr : frA [(5, 7), (5, 9), (5, 16), (23, 3), (23, 6), (23, 12), (24, 2), (24, 4), (24, 8)] [(24, 7), (24, 9)] [10, 26, 27, 42, 43, 44, 45, 46, 47, 48, 49, 50] [25, 41] t t_108 := frA_tr hfr f_110 rfl
              have h_111 : (t_108.1 24 4).toInt = (t_98.1 24 4).toInt := ti_eq (f_110.1 24 4 rfl)
              have h_112 : (t_108.1 5 9).toInt = (t_98.1 5 9).toInt := ti_eq (f_110.1 5 9 rfl)
              have h_113 : (t_108.1 2 5).toInt = (t_98.1 2 5).toInt := ti_eq (f_110.1 2 5 rfl)
              have h_114 : (t_108.1 24 2).toInt = (t_98.1 24 2).toInt := ti_eq (f_110.1 24 2 rfl)
              have h_115 : (t_108.1 24 3).toInt = (t_98.1 24 3).toInt := ti_eq (f_110.1 24 3 rfl)
              have h_116 : (0 : Int) ≤ (t_108.1 24 2).toInt ∧ (t_108.1 24 2).toInt ≤ 81 := hok.1 24 2
              have h_117 : (-1 : Int) ≤ (t_108.1 24 3).toInt ∧ (t_108.1 24 3).toInt ≤ 80 := hok.1 24 3
              exact L_340 t_108 w186_1 w186_2 w186_3 w186_4 w186_5 w186_7 w186_8 w186_9 _ _ _ hok hfr ⟨by omega, by omega⟩ ⟨by omega, by omega⟩ ⟨by omega, by omega⟩ ⟨by omega, by omega⟩ ⟨by omega, by omega⟩ (show (-1073741824 : Int) ≤ ((t_108.1 5 9) : Int32).toInt ∧ ((t_108.1 5 9) : Int32).toInt ≤ 3999 from ⟨by omega, by omega⟩) (show (0 : Int) ≤ ((t_108.1 24 4) : Int32).toInt ∧ ((t_108.1 24 4) : Int32).toInt ≤ 0 from ⟨by omega, by omega⟩) hP hD hS (lv_sub hl [0, 1, 2, 3, 4, 5, 6, 7, 8] rfl)
          · replace c_85 : w186_3.toInt = 5 := i_eq c_85
            refine lv_aload_n C.1 C.2.1 dX0_workInstruction_274 rfl (lv_at hl 0 rfl) ?_
            refine k_get (v := .ref (ad 23)) C hP 5 rfl rfl inlX0 2 (by decide) m_5_19 rfl dX0_workInstruction_275 ?_
            refine lv_aload_n C.1 C.2.1 dX0_workInstruction_278 rfl (lv_at hl 0 rfl) ?_
            refine k_get (v := .int (t_75.1 5 9)) C hP 5 rfl rfl inlX0 9 (by decide) m_12_3 rfl dX0_workInstruction_279 ?_
            refine lv_bipush (v := (-10)) C.1 C.2.1 dX0_workInstruction_282 (by decide) ?_
            refine lv_iload C.1 C.2.1 dX0_workInstruction_284 (lv_at hl 6 rfl) ?_
            obtain ⟨v_118, e_119⟩ : ∃ z, z = ((-10) : Int32) - (w186_7 : Int32) := ⟨_, rfl⟩
            have h_120 : v_118.toInt = (-10) - w186_7.toInt := by rw [e_119]; exact ti_isub (by show (_ : Int) ≤ (-10) - w186_7.toInt; omega) (by show (-10) - w186_7.toInt < (_ : Int); omega)
            refine k_isub (v := v_118) C e_119.symm dX0_workInstruction_286 ?_
            refine lv_iconst (v := 0) C.1 C.2.1 dX0_workInstruction_287 (by decide) ?_
            refine g_Vv (As := [.int (t_75.1 5 9), .int v_118, .int 0]) (rest := []) C hP hD hS hA (T_X8_addUse l D K Z Y ad d t_75 hok ((t_75.1 5 9)) (show (-1073741824 : Int) ≤ ((t_75.1 5 9) : Int32).toInt ∧ ((t_75.1 5 9) : Int32).toInt ≤ 3999 from ⟨by omega, by omega⟩) (v_118) (show (-89 : Int) ≤ (v_118 : Int32).toInt ∧ (v_118 : Int32).toInt ≤ 2147483647 from ⟨by omega, (i_rng _).2⟩) 0) hE hZ (uwV m_26_4 m_26_5 m_26_6 m_2_5 m_26_7) (hdV 3 (by decide +kernel) rfl) ⟨Nat.le_of_ble_eq_true rfl, Nat.le_of_ble_eq_true rfl⟩ rfl rfl (ci := 7) (q0 := 23) rfl rfl rfl hl.1 (Nat.le_of_ble_eq_true rfl) dX0_workInstruction_288 ⟨Nat.le_of_ble_eq_true rfl, Nat.le_of_ble_eq_true rfl⟩ (fun t_121 H locs hw hP hD hS => ?_)
            obtain ⟨hok, f_123⟩ := hw
            have hfr : frA [(5, 7), (5, 9), (5, 16), (23, 3), (23, 6), (23, 12), (24, 2), (24, 4), (24, 8)] [(24, 7), (24, 9)] [10, 26, 27, 42, 43, 44, 45, 46, 47, 48, 49, 50] [25, 41] t t_121 := frA_tr hfr f_123 rfl
            have h_124 : (t_121.1 24 4).toInt = (t_75.1 24 4).toInt := ti_eq (f_123.1 24 4 rfl)
            have h_125 : (t_121.1 5 9).toInt = (t_75.1 5 9).toInt := ti_eq (f_123.1 5 9 rfl)
            have h_126 : (t_121.1 24 2).toInt = (t_75.1 24 2).toInt := ti_eq (f_123.1 24 2 rfl)
            have h_127 : (t_121.1 24 3).toInt = (t_75.1 24 3).toInt := ti_eq (f_123.1 24 3 rfl)
            have h_128 : (0 : Int) ≤ (t_121.1 24 2).toInt ∧ (t_121.1 24 2).toInt ≤ 81 := hok.1 24 2
            have h_129 : (-1 : Int) ≤ (t_121.1 24 3).toInt ∧ (t_121.1 24 3).toInt ≤ 80 := hok.1 24 3
            refine lv_goto (tgt := 340) C.1 C.2.1 dX0_workInstruction_291 (by decide) ?_
            exact L_340 t_121 w186_1 w186_2 w186_3 w186_4 w186_5 w186_7 w186_8 w186_9 _ _ _ hok hfr ⟨by omega, by omega⟩ ⟨by omega, by omega⟩ ⟨by omega, by omega⟩ ⟨by omega, by omega⟩ ⟨by omega, by omega⟩ (show (-1073741824 : Int) ≤ ((t_121.1 5 9) : Int32).toInt ∧ ((t_121.1 5 9) : Int32).toInt ≤ 3999 from ⟨by omega, by omega⟩) (show (0 : Int) ≤ ((t_121.1 24 4) : Int32).toInt ∧ ((t_121.1 24 4) : Int32).toInt ≤ 0 from ⟨by omega, by omega⟩) hP hD hS (lv_sub hl [0, 1, 2, 3, 4, 5, 6, 7, 8] rfl)
        · replace c_84 : ¬ w186_4.toInt = 0 := i_ne c_84
          refine lv_aload_n C.1 C.2.1 dX0_workInstruction_253 rfl (lv_at hl 0 rfl) ?_
          refine k_get (v := .ref (ad 23)) C hP 5 rfl rfl inlX0 2 (by decide) m_5_19 rfl dX0_workInstruction_254 ?_
          refine lv_aload_n C.1 C.2.1 dX0_workInstruction_257 rfl (lv_at hl 0 rfl) ?_
          refine k_get (v := .int (t_75.1 5 9)) C hP 5 rfl rfl inlX0 9 (by decide) m_12_3 rfl dX0_workInstruction_258 ?_
          refine lv_iconst (v := (-1)) C.1 C.2.1 dX0_workInstruction_261 (by decide) ?_
          refine lv_iload_n C.1 C.2.1 dX0_workInstruction_262 rfl (lv_at hl 2 rfl) ?_
          refine g_Vv (As := [.int (t_75.1 5 9), .int (-1), .int w186_2]) (rest := []) C hP hD hS hA (T_X8_addUse l D K Z Y ad d t_75 hok ((t_75.1 5 9)) (show (-1073741824 : Int) ≤ ((t_75.1 5 9) : Int32).toInt ∧ ((t_75.1 5 9) : Int32).toInt ≤ 3999 from ⟨by omega, by omega⟩) (-1) (show (-89 : Int) ≤ ((-1) : Int32).toInt ∧ ((-1) : Int32).toInt ≤ 2147483647 from ⟨by decide, by decide⟩) (w186_2)) hE hZ (uwV m_26_4 m_26_5 m_26_6 m_2_5 m_26_7) (hdV 3 (by decide +kernel) rfl) ⟨Nat.le_of_ble_eq_true rfl, Nat.le_of_ble_eq_true rfl⟩ rfl rfl (ci := 7) (q0 := 23) rfl rfl rfl hl.1 (Nat.le_of_ble_eq_true rfl) dX0_workInstruction_263 ⟨Nat.le_of_ble_eq_true rfl, Nat.le_of_ble_eq_true rfl⟩ (fun t_130 H locs hw hP hD hS => ?_)
          obtain ⟨hok, f_132⟩ := hw
          have hfr : frA [(5, 7), (5, 9), (5, 16), (23, 3), (23, 6), (23, 12), (24, 2), (24, 4), (24, 8)] [(24, 7), (24, 9)] [10, 26, 27, 42, 43, 44, 45, 46, 47, 48, 49, 50] [25, 41] t t_130 := frA_tr hfr f_132 rfl
          have h_133 : (t_130.1 24 4).toInt = (t_75.1 24 4).toInt := ti_eq (f_132.1 24 4 rfl)
          have h_134 : (t_130.1 5 9).toInt = (t_75.1 5 9).toInt := ti_eq (f_132.1 5 9 rfl)
          have h_135 : (t_130.1 24 2).toInt = (t_75.1 24 2).toInt := ti_eq (f_132.1 24 2 rfl)
          have h_136 : (t_130.1 24 3).toInt = (t_75.1 24 3).toInt := ti_eq (f_132.1 24 3 rfl)
          have h_137 : (0 : Int) ≤ (t_130.1 24 2).toInt ∧ (t_130.1 24 2).toInt ≤ 81 := hok.1 24 2
          have h_138 : (-1 : Int) ≤ (t_130.1 24 3).toInt ∧ (t_130.1 24 3).toInt ≤ 80 := hok.1 24 3
          refine lv_goto (tgt := 340) C.1 C.2.1 dX0_workInstruction_266 (by decide) ?_
          exact L_340 t_130 w186_1 w186_2 w186_3 w186_4 w186_5 w186_7 w186_8 w186_9 _ _ _ hok hfr ⟨by omega, by omega⟩ ⟨by omega, by omega⟩ ⟨by omega, by omega⟩ ⟨by omega, by omega⟩ ⟨by omega, by omega⟩ (show (-1073741824 : Int) ≤ ((t_130.1 5 9) : Int32).toInt ∧ ((t_130.1 5 9) : Int32).toInt ≤ 3999 from ⟨by omega, by omega⟩) (show (0 : Int) ≤ ((t_130.1 24 4) : Int32).toInt ∧ ((t_130.1 24 4) : Int32).toInt ≤ 0 from ⟨by omega, by omega⟩) hP hD hS (lv_sub hl [0, 1, 2, 3, 4, 5, 6, 7, 8] rfl)
      · replace c_66 : 3999 < (t_56.1 5 9).toInt := i_nle c_66
        exact L_213 t_56 w186_1 w186_2 w186_3 w186_4 w186_5 w186_7 w186_8 w186_9 _ _ _ hok hfr ⟨by omega, by omega⟩ ⟨by omega, by omega⟩ ⟨by omega, by omega⟩ ⟨by omega, by omega⟩ ⟨by omega, by omega⟩ hP hD hS (lv_sub hl [0, 1, 2, 3, 4, 5, 6, 7, 8] rfl)
  have L_143 : ∀ (t1 : tSt) (w143_1 : Int32) (w143_2 : Int32) (w143_3 : Int32) (w143_4 : Int32) (w143_5 : Int64) (w143_7 : Int32) (k143_0 : Int32) (H : Heap) (locs : List Loc) (ls : Array Slot), okX t1 → frA [(5, 7), (5, 9), (5, 16), (23, 3), (23, 6), (23, 12), (24, 2), (24, 4), (24, 8)] [(24, 7), (24, 9)] [10, 26, 27, 42, 43, 44, 45, 46, 47, 48, 49, 50] [25, 41] t t1 → (0 : Int) ≤ w143_3.toInt ∧ w143_3.toInt ≤ 5 → (0 : Int) ≤ w143_4.toInt ∧ w143_4.toInt ≤ 1 → (-3999 : Int) ≤ w143_7.toInt ∧ w143_7.toInt ≤ 79 → (-1073741824 : Int) ≤ k143_0.toInt ∧ k143_0.toInt ≤ 1073741823 → va_P D vwCl ((WX d) K ad t1) H → va_D A ((WX d) K ad t1) → va_S A s.heap H locs → lv_has ls 11 [(0, .ref (ad 5)), (1, .int w143_1), (2, .int w143_2), (3, .int w143_3), (4, .int w143_4), (5, .long w143_5), (7, .int w143_7)] → W p l e (rmD 5 0 0) s m [.ref (ad 5)].toArray below meth c H locs 0 0 (MQ below (QI D K (fun (r : Int32) (u : tSt) => okX u ∧ frA [(5, 7), (5, 9), (5, 16), (23, 3), (23, 6), (23, 12), (24, 2), (24, 4), (24, 8)] [(24, 7), (24, 9)] [10, 26, 27, 42, 43, 44, 45, 46, 47, 48, 49, 50] [25, 41] t u ∧ (0 : Int) ≤ r.toInt ∧ r.toInt ≤ 6) (fun (u : tSt) => (WX d) K ad u) A) [.ref (ad 5)].toArray s 0 0 A) (F0 m 143 ls [.int k143_0]) := by
    intro t1 w143_1 w143_2 w143_3 w143_4 w143_5 w143_7 k143_0 H locs ls hok hfr hw143_3 hw143_4 hw143_7 hk143_0 hP hD hS hl
    have h_139 : (t1.1 24 3).toInt = (t.1 24 3).toInt := ti_eq (hfr.1 24 3 rfl)
    have h_140 : (0 : Int) ≤ (t1.1 24 2).toInt ∧ (t1.1 24 2).toInt ≤ 81 := hok.1 24 2
    have h_141 : (-1 : Int) ≤ (t1.1 24 3).toInt ∧ (t1.1 24 3).toInt ≤ 80 := hok.1 24 3
    refine lv_istore (lv' := [(8, .int k143_0), (0, .ref (ad 5)), (1, .int w143_1), (2, .int w143_2), (3, .int w143_3), (4, .int w143_4), (5, .long w143_5), (7, .int w143_7)]) C.1 C.2.1 dX0_workInstruction_143 hl (by decide) rfl (fun ls hl => ?_)
    have hl : lv_has ls 11 [(0, .ref (ad 5)), (1, .int w143_1), (2, .int w143_2), (3, .int w143_3), (4, .int w143_4), (5, .long w143_5), (7, .int w143_7), (8, .int k143_0)] := lv_sub hl [1, 2, 3, 4, 5, 6, 7, 0] rfl
    refine lv_aload_n C.1 C.2.1 dX0_workInstruction_145 rfl (lv_at hl 0 rfl) ?_
    have h_142 : (-1 : Int) ≤ (t1.1 5 11).toInt ∧ (t1.1 5 11).toInt ≤ 156 := hok.1 5 11
    refine k_get (v := .int (t1.1 5 11)) C hP 5 rfl rfl inlX0 11 (by decide) m_13_17 rfl dX0_workInstruction_146 ?_
    refine g_Si (As := [.int (t1.1 5 11)]) (rest := []) C hP hD hS hA (T_X1_fOf l D K Z Y ad d t1 hok ((t1.1 5 11)) (show (-1 : Int) ≤ ((t1.1 5 11) : Int32).toInt ∧ ((t1.1 5 11) : Int32).toInt ≤ 255 from ⟨by omega, by omega⟩)) hE hZ (uwS m_25_0 m_25_1 m_14_2 m_25_2) (hdS 1 (by decide +kernel) rfl) ⟨Nat.le_of_ble_eq_true rfl, Nat.le_of_ble_eq_true rfl⟩ rfl rfl rfl hl.1 (Nat.le_of_ble_eq_true rfl) dX0_workInstruction_149 ⟨Nat.le_of_ble_eq_true rfl, Nat.le_of_ble_eq_true rfl⟩ (fun r_144 t_143 H locs hw hP hD hS => ?_)
    obtain ⟨h_146, h_147⟩ := hw
    refine lv_istore (lv' := [(9, .int r_144), (0, .ref (ad 5)), (1, .int w143_1), (2, .int w143_2), (3, .int w143_3), (4, .int w143_4), (5, .long w143_5), (7, .int w143_7), (8, .int k143_0)]) C.1 C.2.1 dX0_workInstruction_152 hl (by decide) rfl (fun ls hl => ?_)
    have hl : lv_has ls 11 [(0, .ref (ad 5)), (1, .int w143_1), (2, .int w143_2), (3, .int w143_3), (4, .int w143_4), (5, .long w143_5), (7, .int w143_7), (8, .int k143_0), (9, .int r_144)] := lv_sub hl [1, 2, 3, 4, 5, 6, 7, 8, 0] rfl
    refine lv_aload_n C.1 C.2.1 dX0_workInstruction_154 rfl (lv_at hl 0 rfl) ?_
    refine k_get (v := .ref (ad 24)) C hP 5 rfl rfl inlX0 3 (by decide) m_6_0 rfl dX0_workInstruction_155 ?_
    refine lv_bipush (v := 40) C.1 C.2.1 dX0_workInstruction_158 (by decide) ?_
    refine g_Vi (As := [.int 40]) (rest := []) C hP hD hS hA (T_X5_pass l D K Z Y ad d t1 hok 40 (show (32 : Int) ≤ (40 : Int32).toInt ∧ (40 : Int32).toInt ≤ 61 from ⟨by decide, by decide⟩)) hE hZ (uwV m_21_8 m_21_9 m_21_10 m_5_22 m_21_11) (hdV 1 (by decide +kernel) rfl) ⟨Nat.le_of_ble_eq_true rfl, Nat.le_of_ble_eq_true rfl⟩ rfl rfl (ci := 4) (q0 := 24) rfl rfl rfl hl.1 (Nat.le_of_ble_eq_true rfl) dX0_workInstruction_160 ⟨Nat.le_of_ble_eq_true rfl, Nat.le_of_ble_eq_true rfl⟩ (fun r_149 t_148 H locs hw hP hD hS => ?_)
    obtain ⟨hok, f_150, h_151, h_152⟩ := hw
    have hfr : frA [(5, 7), (5, 9), (5, 16), (23, 3), (23, 6), (23, 12), (24, 2), (24, 4), (24, 8)] [(24, 7), (24, 9)] [10, 26, 27, 42, 43, 44, 45, 46, 47, 48, 49, 50] [25, 41] t t_148 := frA_tr hfr f_150 rfl
    have h_153 : (t_148.1 5 11).toInt = (t1.1 5 11).toInt := ti_eq (f_150.1 5 11 rfl)
    have h_154 : (t_148.1 24 3).toInt = (t1.1 24 3).toInt := ti_eq (f_150.1 24 3 rfl)
    have h_155 : (0 : Int) ≤ (t_148.1 24 2).toInt ∧ (t_148.1 24 2).toInt ≤ 81 := hok.1 24 2
    have h_156 : (-1 : Int) ≤ (t_148.1 24 3).toInt ∧ (t_148.1 24 3).toInt ≤ 80 := hok.1 24 3
    refine lv_if_eq (tgt := 186) C.1 C.2.1 dX0_workInstruction_163 (by decide) (fun c_157 => ?_) (fun c_157 => ?_)
    · replace c_157 : r_149.toInt = 0 := i_eq c_157
      exact L_186 t_148 w143_1 w143_2 w143_3 w143_4 w143_5 w143_7 k143_0 r_144 _ _ _ hok hfr ⟨by omega, by omega⟩ ⟨by omega, by omega⟩ ⟨by omega, by omega⟩ ⟨by omega, by omega⟩ ⟨by omega, by omega⟩ hP hD hS (lv_sub hl [0, 1, 2, 3, 4, 5, 6, 7, 8] rfl)
    · replace c_157 : ¬ r_149.toInt = 0 := i_ne c_157
      refine lv_aload_n C.1 C.2.1 dX0_workInstruction_166 rfl (lv_at hl 0 rfl) ?_
      refine k_get (v := .ref (ad 24)) C hP 5 rfl rfl inlX0 3 (by decide) m_6_0 rfl dX0_workInstruction_167 ?_
      refine lv_bipush (v := 63) C.1 C.2.1 dX0_workInstruction_170 (by decide) ?_
      refine g_Vi (As := [.int 63]) (rest := []) C hP hD hS hA (T_X5_bounded l D K Z Y ad d t_148 hok 63 (show (6 : Int) ≤ (63 : Int32).toInt ∧ (63 : Int32).toInt ≤ 63 from ⟨by decide, by decide⟩)) hE hZ (uwV m_24_20 m_24_21 m_24_22 m_5_22 m_24_23) (hdV 1 (by decide +kernel) rfl) ⟨Nat.le_of_ble_eq_true rfl, Nat.le_of_ble_eq_true rfl⟩ rfl rfl (ci := 4) (q0 := 24) rfl rfl rfl hl.1 (Nat.le_of_ble_eq_true rfl) dX0_workInstruction_172 ⟨Nat.le_of_ble_eq_true rfl, Nat.le_of_ble_eq_true rfl⟩ (fun r_159 t_158 H locs hw hP hD hS => ?_)
      obtain ⟨hok, f_160, h_161, h_162⟩ := hw
      have hfr : frA [(5, 7), (5, 9), (5, 16), (23, 3), (23, 6), (23, 12), (24, 2), (24, 4), (24, 8)] [(24, 7), (24, 9)] [10, 26, 27, 42, 43, 44, 45, 46, 47, 48, 49, 50] [25, 41] t t_158 := frA_tr hfr f_160 rfl
      have h_163 : (t_158.1 5 11).toInt = (t_148.1 5 11).toInt := ti_eq (f_160.1 5 11 rfl)
      have h_164 : (t_158.1 24 3).toInt = (t_148.1 24 3).toInt := ti_eq (f_160.1 24 3 rfl)
      have h_165 : (0 : Int) ≤ (t_158.1 24 2).toInt ∧ (t_158.1 24 2).toInt ≤ 81 := hok.1 24 2
      have h_166 : (-1 : Int) ≤ (t_158.1 24 3).toInt ∧ (t_158.1 24 3).toInt ≤ 80 := hok.1 24 3
      refine lv_istore (lv' := [(9, .int r_159), (0, .ref (ad 5)), (1, .int w143_1), (2, .int w143_2), (3, .int w143_3), (4, .int w143_4), (5, .long w143_5), (7, .int w143_7), (8, .int k143_0)]) C.1 C.2.1 dX0_workInstruction_175 hl (by decide) rfl (fun ls hl => ?_)
      have hl : lv_has ls 11 [(0, .ref (ad 5)), (1, .int w143_1), (2, .int w143_2), (3, .int w143_3), (4, .int w143_4), (5, .long w143_5), (7, .int w143_7), (8, .int k143_0), (9, .int r_159)] := lv_sub hl [1, 2, 3, 4, 5, 6, 7, 8, 0] rfl
      refine lv_aload_n C.1 C.2.1 dX0_workInstruction_177 rfl (lv_at hl 0 rfl) ?_
      refine k_get (v := .ref (ad 24)) C hP 5 rfl rfl inlX0 3 (by decide) m_6_0 rfl dX0_workInstruction_178 ?_
      refine lv_bipush (v := 41) C.1 C.2.1 dX0_workInstruction_181 (by decide) ?_
      refine g_Vv (As := [.int 41]) (rest := []) C hP hD hS hA (T_X5_need l D K Z Y ad d t_158 hok 41 (show (32 : Int) ≤ (41 : Int32).toInt ∧ (41 : Int32).toInt ≤ 61 from ⟨by decide, by decide⟩)) hE hZ (uwV m_24_8 m_23_23 m_24_0 m_5_22 m_24_1) (hdV 1 (by decide +kernel) rfl) ⟨Nat.le_of_ble_eq_true rfl, Nat.le_of_ble_eq_true rfl⟩ rfl rfl (ci := 4) (q0 := 24) rfl rfl rfl hl.1 (Nat.le_of_ble_eq_true rfl) dX0_workInstruction_183 ⟨Nat.le_of_ble_eq_true rfl, Nat.le_of_ble_eq_true rfl⟩ (fun t_167 H locs hw hP hD hS => ?_)
      obtain ⟨hok, f_169⟩ := hw
      have hfr : frA [(5, 7), (5, 9), (5, 16), (23, 3), (23, 6), (23, 12), (24, 2), (24, 4), (24, 8)] [(24, 7), (24, 9)] [10, 26, 27, 42, 43, 44, 45, 46, 47, 48, 49, 50] [25, 41] t t_167 := frA_tr hfr f_169 rfl
      have h_170 : (t_167.1 5 11).toInt = (t_158.1 5 11).toInt := ti_eq (f_169.1 5 11 rfl)
      have h_171 : (t_167.1 24 3).toInt = (t_158.1 24 3).toInt := ti_eq (f_169.1 24 3 rfl)
      have h_172 : (0 : Int) ≤ (t_167.1 24 2).toInt ∧ (t_167.1 24 2).toInt ≤ 81 := hok.1 24 2
      have h_173 : (-1 : Int) ≤ (t_167.1 24 3).toInt ∧ (t_167.1 24 3).toInt ≤ 80 := hok.1 24 3
      exact L_186 t_167 w143_1 w143_2 w143_3 w143_4 w143_5 w143_7 k143_0 r_159 _ _ _ hok hfr ⟨by omega, by omega⟩ ⟨by omega, by omega⟩ ⟨by omega, by omega⟩ ⟨by omega, by omega⟩ ⟨by omega, by omega⟩ hP hD hS (lv_sub hl [0, 1, 2, 3, 4, 5, 6, 7, 8] rfl)
  have L_100 : ∀ (t1 : tSt) (w100_1 : Int32) (w100_2 : Int32) (w100_3 : Int32) (w100_4 : Int32) (H : Heap) (locs : List Loc) (ls : Array Slot), okX t1 → frA [(5, 7), (5, 9), (5, 16), (23, 3), (23, 6), (23, 12), (24, 2), (24, 4), (24, 8)] [(24, 7), (24, 9)] [10, 26, 27, 42, 43, 44, 45, 46, 47, 48, 49, 50] [25, 41] t t1 → (0 : Int) ≤ w100_3.toInt ∧ w100_3.toInt ≤ 5 → (0 : Int) ≤ w100_4.toInt ∧ w100_4.toInt ≤ 1 → va_P D vwCl ((WX d) K ad t1) H → va_D A ((WX d) K ad t1) → va_S A s.heap H locs → lv_has ls 11 [(0, .ref (ad 5)), (1, .int w100_1), (2, .int w100_2), (3, .int w100_3), (4, .int w100_4)] → W p l e (rmD 5 0 0) s m [.ref (ad 5)].toArray below meth c H locs 0 0 (MQ below (QI D K (fun (r : Int32) (u : tSt) => okX u ∧ frA [(5, 7), (5, 9), (5, 16), (23, 3), (23, 6), (23, 12), (24, 2), (24, 4), (24, 8)] [(24, 7), (24, 9)] [10, 26, 27, 42, 43, 44, 45, 46, 47, 48, 49, 50] [25, 41] t u ∧ (0 : Int) ≤ r.toInt ∧ r.toInt ≤ 6) (fun (u : tSt) => (WX d) K ad u) A) [.ref (ad 5)].toArray s 0 0 A) (F0 m 100 ls []) := by
    intro t1 w100_1 w100_2 w100_3 w100_4 H locs ls hok hfr hw100_3 hw100_4 hP hD hS hl
    have h_174 : (t1.1 24 3).toInt = (t.1 24 3).toInt := ti_eq (hfr.1 24 3 rfl)
    have h_175 : (0 : Int) ≤ (t1.1 24 2).toInt ∧ (t1.1 24 2).toInt ≤ 81 := hok.1 24 2
    have h_176 : (-1 : Int) ≤ (t1.1 24 3).toInt ∧ (t1.1 24 3).toInt ≤ 80 := hok.1 24 3
    refine lv_aload_n C.1 C.2.1 dX0_workInstruction_100 rfl (lv_at hl 0 rfl) ?_
    refine k_get (v := .ref (ad 24)) C hP 5 rfl rfl inlX0 3 (by decide) m_6_0 rfl dX0_workInstruction_101 ?_
    refine k_get (v := .long (t1.2.1 24 7)) C hP 24 rfl rfl inlX5 7 (by decide) m_18_21 rfl dX0_workInstruction_104 ?_
    refine lv_lstore (lv' := [(5, .long (t1.2.1 24 7)), (0, .ref (ad 5)), (1, .int w100_1), (2, .int w100_2), (3, .int w100_3), (4, .int w100_4)]) C.1 C.2.1 dX0_workInstruction_107 hl (by decide) rfl (fun ls hl => ?_)
    have hl : lv_has ls 11 [(0, .ref (ad 5)), (1, .int w100_1), (2, .int w100_2), (3, .int w100_3), (4, .int w100_4), (5, .long (t1.2.1 24 7))] := lv_sub hl [1, 2, 3, 4, 5, 0] rfl
    refine lv_aload_n C.1 C.2.1 dX0_workInstruction_109 rfl (lv_at hl 0 rfl) ?_
    refine k_get (v := .ref (ad 24)) C hP 5 rfl rfl inlX0 3 (by decide) m_6_0 rfl dX0_workInstruction_110 ?_
    have h_177 : (-3999 : Int) ≤ (t1.1 24 8).toInt ∧ (t1.1 24 8).toInt ≤ 79 := hok.1 24 8
    refine k_get (v := .int (t1.1 24 8)) C hP 24 rfl rfl inlX5 8 (by decide) m_18_23 rfl dX0_workInstruction_113 ?_
    refine lv_istore (lv' := [(7, .int (t1.1 24 8)), (0, .ref (ad 5)), (1, .int w100_1), (2, .int w100_2), (3, .int w100_3), (4, .int w100_4), (5, .long (t1.2.1 24 7))]) C.1 C.2.1 dX0_workInstruction_116 hl (by decide) rfl (fun ls hl => ?_)
    have hl : lv_has ls 11 [(0, .ref (ad 5)), (1, .int w100_1), (2, .int w100_2), (3, .int w100_3), (4, .int w100_4), (5, .long (t1.2.1 24 7)), (7, .int (t1.1 24 8))] := lv_sub hl [1, 2, 3, 4, 5, 6, 0] rfl
    refine lv_aload_n C.1 C.2.1 dX0_workInstruction_118 rfl (lv_at hl 0 rfl) ?_
    refine k_get (v := .ref (ad 24)) C hP 5 rfl rfl inlX0 3 (by decide) m_6_0 rfl dX0_workInstruction_119 ?_
    refine lv_bipush (v := 44) C.1 C.2.1 dX0_workInstruction_122 (by decide) ?_
    refine g_Vi (As := [.int 44]) (rest := []) C hP hD hS hA (T_X5_pass l D K Z Y ad d t1 hok 44 (show (32 : Int) ≤ (44 : Int32).toInt ∧ (44 : Int32).toInt ≤ 61 from ⟨by decide, by decide⟩)) hE hZ (uwV m_21_8 m_21_9 m_21_10 m_5_22 m_21_11) (hdV 1 (by decide +kernel) rfl) ⟨Nat.le_of_ble_eq_true rfl, Nat.le_of_ble_eq_true rfl⟩ rfl rfl (ci := 4) (q0 := 24) rfl rfl rfl hl.1 (Nat.le_of_ble_eq_true rfl) dX0_workInstruction_124 ⟨Nat.le_of_ble_eq_true rfl, Nat.le_of_ble_eq_true rfl⟩ (fun r_179 t_178 H locs hw hP hD hS => ?_)
    obtain ⟨hok, f_180, h_181, h_182⟩ := hw
    have hfr : frA [(5, 7), (5, 9), (5, 16), (23, 3), (23, 6), (23, 12), (24, 2), (24, 4), (24, 8)] [(24, 7), (24, 9)] [10, 26, 27, 42, 43, 44, 45, 46, 47, 48, 49, 50] [25, 41] t t_178 := frA_tr hfr f_180 rfl
    have h_183 : (t_178.1 24 8).toInt = (t1.1 24 8).toInt := ti_eq (f_180.1 24 8 rfl)
    have h_184 : (t_178.1 24 3).toInt = (t1.1 24 3).toInt := ti_eq (f_180.1 24 3 rfl)
    have h_185 : (0 : Int) ≤ (t_178.1 24 2).toInt ∧ (t_178.1 24 2).toInt ≤ 81 := hok.1 24 2
    have h_186 : (-1 : Int) ≤ (t_178.1 24 3).toInt ∧ (t_178.1 24 3).toInt ≤ 80 := hok.1 24 3
    refine lv_if_eq (tgt := 142) C.1 C.2.1 dX0_workInstruction_127 (by decide) (fun c_187 => ?_) (fun c_187 => ?_)
    · replace c_187 : r_179.toInt = 0 := i_eq c_187
      refine lv_iconst (v := 0) C.1 C.2.1 dX0_workInstruction_142 (by decide) ?_
      exact L_143 t_178 w100_1 w100_2 w100_3 w100_4 (t1.2.1 24 7) (t1.1 24 8) 0 _ _ _ hok hfr ⟨by omega, by omega⟩ ⟨by omega, by omega⟩ ⟨by omega, by omega⟩ ⟨by decide, by decide⟩ hP hD hS (lv_sub hl [0, 1, 2, 3, 4, 5, 6] rfl)
    · replace c_187 : ¬ r_179.toInt = 0 := i_ne c_187
      refine lv_aload_n C.1 C.2.1 dX0_workInstruction_130 rfl (lv_at hl 0 rfl) ?_
      refine k_get (v := .ref (ad 24)) C hP 5 rfl rfl inlX0 3 (by decide) m_6_0 rfl dX0_workInstruction_131 ?_
      refine lv_bipush (v := 6) C.1 C.2.1 dX0_workInstruction_134 (by decide) ?_
      refine g_Vi (As := [.int 6]) (rest := []) C hP hD hS hA (T_X5_bounded l D K Z Y ad d t_178 hok 6 (show (6 : Int) ≤ (6 : Int32).toInt ∧ (6 : Int32).toInt ≤ 63 from ⟨by decide, by decide⟩)) hE hZ (uwV m_24_20 m_24_21 m_24_22 m_5_22 m_24_23) (hdV 1 (by decide +kernel) rfl) ⟨Nat.le_of_ble_eq_true rfl, Nat.le_of_ble_eq_true rfl⟩ rfl rfl (ci := 4) (q0 := 24) rfl rfl rfl hl.1 (Nat.le_of_ble_eq_true rfl) dX0_workInstruction_136 ⟨Nat.le_of_ble_eq_true rfl, Nat.le_of_ble_eq_true rfl⟩ (fun r_189 t_188 H locs hw hP hD hS => ?_)
      obtain ⟨hok, f_190, h_191, h_192⟩ := hw
      have hfr : frA [(5, 7), (5, 9), (5, 16), (23, 3), (23, 6), (23, 12), (24, 2), (24, 4), (24, 8)] [(24, 7), (24, 9)] [10, 26, 27, 42, 43, 44, 45, 46, 47, 48, 49, 50] [25, 41] t t_188 := frA_tr hfr f_190 rfl
      have h_193 : (t_188.1 24 3).toInt = (t_178.1 24 3).toInt := ti_eq (f_190.1 24 3 rfl)
      have h_194 : (0 : Int) ≤ (t_188.1 24 2).toInt ∧ (t_188.1 24 2).toInt ≤ 81 := hok.1 24 2
      have h_195 : (-1 : Int) ≤ (t_188.1 24 3).toInt ∧ (t_188.1 24 3).toInt ≤ 80 := hok.1 24 3
      refine lv_goto (tgt := 143) C.1 C.2.1 dX0_workInstruction_139 (by decide) ?_
      exact L_143 t_188 w100_1 w100_2 w100_3 w100_4 (t1.2.1 24 7) (t1.1 24 8) r_189 _ _ _ hok hfr ⟨by omega, by omega⟩ ⟨by omega, by omega⟩ ⟨by omega, by omega⟩ ⟨by omega, by omega⟩ hP hD hS (lv_sub hl [0, 1, 2, 3, 4, 5, 6] rfl)
  have L_99 : ∀ (t1 : tSt) (w99_1 : Int32) (w99_2 : Int32) (w99_3 : Int32) (w99_4 : Int32) (k99_0 : Int32) (H : Heap) (locs : List Loc) (ls : Array Slot), okX t1 → frA [(5, 7), (5, 9), (5, 16), (23, 3), (23, 6), (23, 12), (24, 2), (24, 4), (24, 8)] [(24, 7), (24, 9)] [10, 26, 27, 42, 43, 44, 45, 46, 47, 48, 49, 50] [25, 41] t t1 → (0 : Int) ≤ w99_1.toInt ∧ w99_1.toInt ≤ 0 → (0 : Int) ≤ w99_2.toInt ∧ w99_2.toInt ≤ 0 → (0 : Int) ≤ w99_3.toInt ∧ w99_3.toInt ≤ 5 → (0 : Int) ≤ w99_4.toInt ∧ w99_4.toInt ≤ 0 → va_P D vwCl ((WX d) K ad t1) H → va_D A ((WX d) K ad t1) → va_S A s.heap H locs → lv_has ls 11 [(0, .ref (ad 5)), (1, .int w99_1), (2, .int w99_2), (3, .int w99_3), (4, .int w99_4)] → W p l e (rmD 5 0 0) s m [.ref (ad 5)].toArray below meth c H locs 0 0 (MQ below (QI D K (fun (r : Int32) (u : tSt) => okX u ∧ frA [(5, 7), (5, 9), (5, 16), (23, 3), (23, 6), (23, 12), (24, 2), (24, 4), (24, 8)] [(24, 7), (24, 9)] [10, 26, 27, 42, 43, 44, 45, 46, 47, 48, 49, 50] [25, 41] t u ∧ (0 : Int) ≤ r.toInt ∧ r.toInt ≤ 6) (fun (u : tSt) => (WX d) K ad u) A) [.ref (ad 5)].toArray s 0 0 A) (F0 m 99 ls [.int k99_0]) := by
    intro t1 w99_1 w99_2 w99_3 w99_4 k99_0 H locs ls hok hfr hw99_1 hw99_2 hw99_3 hw99_4 hP hD hS hl
    have h_196 : (t1.1 24 3).toInt = (t.1 24 3).toInt := ti_eq (hfr.1 24 3 rfl)
    have h_197 : (0 : Int) ≤ (t1.1 24 2).toInt ∧ (t1.1 24 2).toInt ≤ 81 := hok.1 24 2
    have h_198 : (-1 : Int) ≤ (t1.1 24 3).toInt ∧ (t1.1 24 3).toInt ≤ 80 := hok.1 24 3
    refine lv_istore_n (lv' := [(1, .int k99_0), (0, .ref (ad 5)), (2, .int w99_2), (3, .int w99_3), (4, .int w99_4)]) C.1 C.2.1 dX0_workInstruction_99 rfl hl (by decide) rfl (fun ls hl => ?_)
    have hl : lv_has ls 11 [(0, .ref (ad 5)), (1, .int k99_0), (2, .int w99_2), (3, .int w99_3), (4, .int w99_4)] := lv_sub hl [1, 0, 2, 3, 4] rfl
    exact L_100 t1 k99_0 w99_2 w99_3 w99_4 _ _ _ hok hfr ⟨by omega, by omega⟩ ⟨by omega, by omega⟩ hP hD hS (lv_sub hl [0, 1, 2, 3, 4] rfl)
  refine lv_iconst (v := 0) C.1 C.2.1 dX0_workInstruction_0 (by decide) ?_
  refine lv_istore_n (lv' := [(1, .int 0), (0, .ref (ad 5))]) C.1 C.2.1 dX0_workInstruction_1 rfl hl (by decide) rfl (fun ls hl => ?_)
  have hl : lv_has ls 11 [(0, .ref (ad 5)), (1, .int 0)] := lv_sub hl [1, 0] rfl
  refine lv_iconst (v := 0) C.1 C.2.1 dX0_workInstruction_2 (by decide) ?_
  refine lv_istore_n (lv' := [(2, .int 0), (0, .ref (ad 5)), (1, .int 0)]) C.1 C.2.1 dX0_workInstruction_3 rfl hl (by decide) rfl (fun ls hl => ?_)
  have hl : lv_has ls 11 [(0, .ref (ad 5)), (1, .int 0), (2, .int 0)] := lv_sub hl [1, 2, 0] rfl
  refine lv_iconst (v := 0) C.1 C.2.1 dX0_workInstruction_4 (by decide) ?_
  refine lv_istore_n (lv' := [(3, .int 0), (0, .ref (ad 5)), (1, .int 0), (2, .int 0)]) C.1 C.2.1 dX0_workInstruction_5 rfl hl (by decide) rfl (fun ls hl => ?_)
  have hl : lv_has ls 11 [(0, .ref (ad 5)), (1, .int 0), (2, .int 0), (3, .int 0)] := lv_sub hl [1, 2, 3, 0] rfl
  refine lv_aload_n C.1 C.2.1 dX0_workInstruction_6 rfl (lv_at hl 0 rfl) ?_
  refine k_get (v := .ref (ad 24)) C hP 5 rfl rfl inlX0 3 (by decide) m_6_0 rfl dX0_workInstruction_7 ?_
  refine lv_bipush (v := 61) C.1 C.2.1 dX0_workInstruction_10 (by decide) ?_
  refine g_Vi (As := [.int 61]) (rest := []) C hP hD hS hA (T_X5_pass l D K Z Y ad d t hok 61 (show (32 : Int) ≤ (61 : Int32).toInt ∧ (61 : Int32).toInt ≤ 61 from ⟨by decide, by decide⟩)) hE hZ (uwV m_21_8 m_21_9 m_21_10 m_5_22 m_21_11) (hdV 1 (by decide +kernel) rfl) ⟨Nat.le_of_ble_eq_true rfl, Nat.le_of_ble_eq_true rfl⟩ rfl rfl (ci := 4) (q0 := 24) rfl rfl rfl hl.1 (Nat.le_of_ble_eq_true rfl) dX0_workInstruction_12 ⟨Nat.le_of_ble_eq_true rfl, Nat.le_of_ble_eq_true rfl⟩ (fun r_200 t_199 H locs hw hP hD hS => ?_)
  obtain ⟨hok, f_201, h_202, h_203⟩ := hw
  have hfr : frA [(5, 7), (5, 9), (5, 16), (23, 3), (23, 6), (23, 12), (24, 2), (24, 4), (24, 8)] [(24, 7), (24, 9)] [10, 26, 27, 42, 43, 44, 45, 46, 47, 48, 49, 50] [25, 41] t t_199 := frA_tr hfr f_201 rfl
  have h_204 : (t_199.1 24 3).toInt = (t.1 24 3).toInt := ti_eq (f_201.1 24 3 rfl)
  have h_205 : (0 : Int) ≤ (t_199.1 24 2).toInt ∧ (t_199.1 24 2).toInt ≤ 81 := hok.1 24 2
  have h_206 : (-1 : Int) ≤ (t_199.1 24 3).toInt ∧ (t_199.1 24 3).toInt ≤ 80 := hok.1 24 3
  refine lv_istore (lv' := [(4, .int r_200), (0, .ref (ad 5)), (1, .int 0), (2, .int 0), (3, .int 0)]) C.1 C.2.1 dX0_workInstruction_15 hl (by decide) rfl (fun ls hl => ?_)
  have hl : lv_has ls 11 [(0, .ref (ad 5)), (1, .int 0), (2, .int 0), (3, .int 0), (4, .int r_200)] := lv_sub hl [1, 2, 3, 4, 0] rfl
  refine lv_iload C.1 C.2.1 dX0_workInstruction_17 (lv_at hl 4 rfl) ?_
  refine lv_if_eq (tgt := 42) C.1 C.2.1 dX0_workInstruction_19 (by decide) (fun c_207 => ?_) (fun c_207 => ?_)
  · replace c_207 : r_200.toInt = 0 := i_eq c_207
    refine lv_aload_n C.1 C.2.1 dX0_workInstruction_42 rfl (lv_at hl 0 rfl) ?_
    refine k_get (v := .ref (ad 24)) C hP 5 rfl rfl inlX0 3 (by decide) m_6_0 rfl dX0_workInstruction_43 ?_
    refine g_Vi (As := []) (rest := []) C hP hD hS hA (T_X5_isAtEnd l D K Z Y ad d t_199 hok ) hE hZ (uwV m_24_9 m_19_21 m_19_22 m_5_22 m_19_23) (hdV 0 (by decide +kernel) rfl) ⟨Nat.le_of_ble_eq_true rfl, Nat.le_of_ble_eq_true rfl⟩ rfl rfl (ci := 4) (q0 := 24) rfl rfl rfl hl.1 (Nat.le_of_ble_eq_true rfl) dX0_workInstruction_46 ⟨Nat.le_of_ble_eq_true rfl, Nat.le_of_ble_eq_true rfl⟩ (fun r_209 t_208 H locs hw hP hD hS => ?_)
    obtain ⟨h_211, h_212⟩ := hw
    refine lv_if_ne (tgt := 100) C.1 C.2.1 dX0_workInstruction_49 (by decide) (fun c_213 => ?_) (fun c_213 => ?_)
    · replace c_213 : ¬ r_209.toInt = 0 := i_ne c_213
      exact L_100 t_199 0 0 0 r_200 _ _ _ hok hfr ⟨by decide, by decide⟩ ⟨by omega, by omega⟩ hP hD hS (lv_sub hl [0, 1, 2, 3, 4] rfl)
    · replace c_213 : r_209.toInt = 0 := i_eq c_213
      refine lv_aload_n C.1 C.2.1 dX0_workInstruction_52 rfl (lv_at hl 0 rfl) ?_
      refine k_get (v := .ref (ad 24)) C hP 5 rfl rfl inlX0 3 (by decide) m_6_0 rfl dX0_workInstruction_53 ?_
      refine g_Vi (As := []) (rest := []) C hP hD hS hA (T_X5_letterHere l D K Z Y ad d t_199 hok ) hE hZ (uwV m_24_10 m_21_22 m_21_23 m_5_22 m_22_0) (hdV 0 (by decide +kernel) rfl) ⟨Nat.le_of_ble_eq_true rfl, Nat.le_of_ble_eq_true rfl⟩ rfl rfl (ci := 4) (q0 := 24) rfl rfl rfl hl.1 (Nat.le_of_ble_eq_true rfl) dX0_workInstruction_56 ⟨Nat.le_of_ble_eq_true rfl, Nat.le_of_ble_eq_true rfl⟩ (fun r_215 t_214 H locs hw hP hD hS => ?_)
      obtain ⟨h_217, h_218, p_219⟩ := hw
      replace p_219 : ¬ r_215.toInt = 32 → (t_199.1 24 2).toInt < (t_199.1 24 3).toInt := p_219
      refine lv_bipush (v := 44) C.1 C.2.1 dX0_workInstruction_59 (by decide) ?_
      refine lv_icmp_eq (tgt := 100) C.1 C.2.1 dX0_workInstruction_61 (by decide) (fun c_220 => ?_) (fun c_220 => ?_)
      · replace c_220 : r_215.toInt = 44 := i_eq c_220
        exact L_100 t_199 0 0 0 r_200 _ _ _ hok hfr ⟨by decide, by decide⟩ ⟨by omega, by omega⟩ hP hD hS (lv_sub hl [0, 1, 2, 3, 4] rfl)
      · replace c_220 : ¬ r_215.toInt = 44 := i_ne c_220
        refine lv_aload_n C.1 C.2.1 dX0_workInstruction_64 rfl (lv_at hl 0 rfl) ?_
        refine k_get (v := .ref (ad 24)) C hP 5 rfl rfl inlX0 3 (by decide) m_6_0 rfl dX0_workInstruction_65 ?_
        refine g_Vi (As := []) (rest := []) C hP hD hS hA (T_X5_letterHere l D K Z Y ad d t_199 hok ) hE hZ (uwV m_24_10 m_21_22 m_21_23 m_5_22 m_22_0) (hdV 0 (by decide +kernel) rfl) ⟨Nat.le_of_ble_eq_true rfl, Nat.le_of_ble_eq_true rfl⟩ rfl rfl (ci := 4) (q0 := 24) rfl rfl rfl hl.1 (Nat.le_of_ble_eq_true rfl) dX0_workInstruction_68 ⟨Nat.le_of_ble_eq_true rfl, Nat.le_of_ble_eq_true rfl⟩ (fun r_222 t_221 H locs hw hP hD hS => ?_)
        obtain ⟨h_224, h_225, p_226⟩ := hw
        replace p_226 : ¬ r_222.toInt = 32 → (t_199.1 24 2).toInt < (t_199.1 24 3).toInt := p_226
        refine lv_bipush (v := 40) C.1 C.2.1 dX0_workInstruction_71 (by decide) ?_
        refine lv_icmp_eq (tgt := 100) C.1 C.2.1 dX0_workInstruction_73 (by decide) (fun c_227 => ?_) (fun c_227 => ?_)
        · replace c_227 : r_222.toInt = 40 := i_eq c_227
          exact L_100 t_199 0 0 0 r_200 _ _ _ hok hfr ⟨by decide, by decide⟩ ⟨by omega, by omega⟩ hP hD hS (lv_sub hl [0, 1, 2, 3, 4] rfl)
        · replace c_227 : ¬ r_222.toInt = 40 := i_ne c_227
          refine lv_aload_n C.1 C.2.1 dX0_workInstruction_76 rfl (lv_at hl 0 rfl) ?_
          refine k_get (v := .ref (ad 24)) C hP 5 rfl rfl inlX0 3 (by decide) m_6_0 rfl dX0_workInstruction_77 ?_
          refine g_Vi (As := []) (rest := []) C hP hD hS hA (T_X5_future l D K Z Y ad d t_199 hok ) hE hZ (uwV m_24_11 m_24_12 m_24_13 m_5_22 m_24_14) (hdV 0 (by decide +kernel) rfl) ⟨Nat.le_of_ble_eq_true rfl, Nat.le_of_ble_eq_true rfl⟩ rfl rfl (ci := 4) (q0 := 24) rfl rfl rfl hl.1 (Nat.le_of_ble_eq_true rfl) dX0_workInstruction_80 ⟨Nat.le_of_ble_eq_true rfl, Nat.le_of_ble_eq_true rfl⟩ (fun r_229 t_228 H locs hw hP hD hS => ?_)
          obtain ⟨hok, f_230, h_231, h_232⟩ := hw
          have hfr : frA [(5, 7), (5, 9), (5, 16), (23, 3), (23, 6), (23, 12), (24, 2), (24, 4), (24, 8)] [(24, 7), (24, 9)] [10, 26, 27, 42, 43, 44, 45, 46, 47, 48, 49, 50] [25, 41] t t_228 := frA_tr hfr f_230 rfl
          have h_233 : (t_228.1 24 3).toInt = (t_199.1 24 3).toInt := ti_eq (f_230.1 24 3 rfl)
          have h_234 : (0 : Int) ≤ (t_228.1 24 2).toInt ∧ (t_228.1 24 2).toInt ≤ 81 := hok.1 24 2
          have h_235 : (-1 : Int) ≤ (t_228.1 24 3).toInt ∧ (t_228.1 24 3).toInt ≤ 80 := hok.1 24 3
          refine lv_istore_n (lv' := [(3, .int r_229), (0, .ref (ad 5)), (1, .int 0), (2, .int 0), (4, .int r_200)]) C.1 C.2.1 dX0_workInstruction_83 rfl hl (by decide) rfl (fun ls hl => ?_)
          have hl : lv_has ls 11 [(0, .ref (ad 5)), (1, .int 0), (2, .int 0), (3, .int r_229), (4, .int r_200)] := lv_sub hl [1, 2, 3, 0, 4] rfl
          refine lv_iload_n C.1 C.2.1 dX0_workInstruction_84 rfl (lv_at hl 3 rfl) ?_
          refine lv_if_ne (tgt := 98) C.1 C.2.1 dX0_workInstruction_85 (by decide) (fun c_236 => ?_) (fun c_236 => ?_)
          · replace c_236 : ¬ r_229.toInt = 0 := i_ne c_236
            refine lv_iconst (v := 0) C.1 C.2.1 dX0_workInstruction_98 (by decide) ?_
            exact L_99 t_228 0 0 r_229 r_200 0 _ _ _ hok hfr ⟨by decide, by decide⟩ ⟨by decide, by decide⟩ ⟨by omega, by omega⟩ ⟨by omega, by omega⟩ hP hD hS (lv_sub hl [0, 1, 2, 3, 4] rfl)
          · replace c_236 : r_229.toInt = 0 := i_eq c_236
            refine lv_aload_n C.1 C.2.1 dX0_workInstruction_88 rfl (lv_at hl 0 rfl) ?_
            refine k_get (v := .ref (ad 24)) C hP 5 rfl rfl inlX0 3 (by decide) m_6_0 rfl dX0_workInstruction_89 ?_
            refine g_Vi (As := []) (rest := []) C hP hD hS hA (T_X5_address l D K Z Y ad d t_228 hok ) hE hZ (uwV m_24_15 m_24_16 m_24_17 m_5_22 m_24_18) (hdV 0 (by decide +kernel) rfl) ⟨Nat.le_of_ble_eq_true rfl, Nat.le_of_ble_eq_true rfl⟩ rfl rfl (ci := 4) (q0 := 24) rfl rfl rfl hl.1 (Nat.le_of_ble_eq_true rfl) dX0_workInstruction_92 ⟨Nat.le_of_ble_eq_true rfl, Nat.le_of_ble_eq_true rfl⟩ (fun r_238 t_237 H locs hw hP hD hS => ?_)
            obtain ⟨hok, f_239, h_240, h_241⟩ := hw
            have hfr : frA [(5, 7), (5, 9), (5, 16), (23, 3), (23, 6), (23, 12), (24, 2), (24, 4), (24, 8)] [(24, 7), (24, 9)] [10, 26, 27, 42, 43, 44, 45, 46, 47, 48, 49, 50] [25, 41] t t_237 := frA_tr hfr f_239 rfl
            have h_242 : (t_237.1 24 3).toInt = (t_228.1 24 3).toInt := ti_eq (f_239.1 24 3 rfl)
            have h_243 : (0 : Int) ≤ (t_237.1 24 2).toInt ∧ (t_237.1 24 2).toInt ≤ 81 := hok.1 24 2
            have h_244 : (-1 : Int) ≤ (t_237.1 24 3).toInt ∧ (t_237.1 24 3).toInt ≤ 80 := hok.1 24 3
            refine lv_goto (tgt := 99) C.1 C.2.1 dX0_workInstruction_95 (by decide) ?_
            exact L_99 t_237 0 0 r_229 r_200 r_238 _ _ _ hok hfr ⟨by decide, by decide⟩ ⟨by decide, by decide⟩ ⟨by omega, by omega⟩ ⟨by omega, by omega⟩ hP hD hS (lv_sub hl [0, 1, 2, 3, 4] rfl)
  · replace c_207 : ¬ r_200.toInt = 0 := i_ne c_207
    refine lv_aload_n C.1 C.2.1 dX0_workInstruction_22 rfl (lv_at hl 0 rfl) ?_
    refine k_get (v := .ref (ad 24)) C hP 5 rfl rfl inlX0 3 (by decide) m_6_0 rfl dX0_workInstruction_23 ?_
    refine g_Vi (As := []) (rest := []) C hP hD hS hA (T_X5_wValue l D K Z Y ad d t_199 hok ) hE hZ (uwV m_21_12 m_21_13 m_21_14 m_5_22 m_21_15) (hdV 0 (by decide +kernel) rfl) ⟨Nat.le_of_ble_eq_true rfl, Nat.le_of_ble_eq_true rfl⟩ rfl rfl (ci := 4) (q0 := 24) rfl rfl rfl hl.1 (Nat.le_of_ble_eq_true rfl) dX0_workInstruction_26 ⟨Nat.le_of_ble_eq_true rfl, Nat.le_of_ble_eq_true rfl⟩ (fun r_246 t_245 H locs hw hP hD hS => ?_)
    obtain ⟨hok, f_247, h_248, h_249⟩ := hw
    have hfr : frA [(5, 7), (5, 9), (5, 16), (23, 3), (23, 6), (23, 12), (24, 2), (24, 4), (24, 8)] [(24, 7), (24, 9)] [10, 26, 27, 42, 43, 44, 45, 46, 47, 48, 49, 50] [25, 41] t t_245 := frA_tr hfr f_247 rfl
    have h_250 : (t_245.1 24 3).toInt = (t_199.1 24 3).toInt := ti_eq (f_247.1 24 3 rfl)
    have h_251 : (0 : Int) ≤ (t_245.1 24 2).toInt ∧ (t_245.1 24 2).toInt ≤ 81 := hok.1 24 2
    have h_252 : (-1 : Int) ≤ (t_245.1 24 3).toInt ∧ (t_245.1 24 3).toInt ≤ 80 := hok.1 24 3
    refine lv_istore_n (lv' := [(2, .int r_246), (0, .ref (ad 5)), (1, .int 0), (3, .int 0), (4, .int r_200)]) C.1 C.2.1 dX0_workInstruction_29 rfl hl (by decide) rfl (fun ls hl => ?_)
    have hl : lv_has ls 11 [(0, .ref (ad 5)), (1, .int 0), (2, .int r_246), (3, .int 0), (4, .int r_200)] := lv_sub hl [1, 2, 0, 3, 4] rfl
    refine lv_aload_n C.1 C.2.1 dX0_workInstruction_30 rfl (lv_at hl 0 rfl) ?_
    refine k_get (v := .ref (ad 24)) C hP 5 rfl rfl inlX0 3 (by decide) m_6_0 rfl dX0_workInstruction_31 ?_
    refine lv_bipush (v := 61) C.1 C.2.1 dX0_workInstruction_34 (by decide) ?_
    refine g_Vv (As := [.int 61]) (rest := []) C hP hD hS hA (T_X5_need l D K Z Y ad d t_245 hok 61 (show (32 : Int) ≤ (61 : Int32).toInt ∧ (61 : Int32).toInt ≤ 61 from ⟨by decide, by decide⟩)) hE hZ (uwV m_24_8 m_23_23 m_24_0 m_5_22 m_24_1) (hdV 1 (by decide +kernel) rfl) ⟨Nat.le_of_ble_eq_true rfl, Nat.le_of_ble_eq_true rfl⟩ rfl rfl (ci := 4) (q0 := 24) rfl rfl rfl hl.1 (Nat.le_of_ble_eq_true rfl) dX0_workInstruction_36 ⟨Nat.le_of_ble_eq_true rfl, Nat.le_of_ble_eq_true rfl⟩ (fun t_253 H locs hw hP hD hS => ?_)
    obtain ⟨hok, f_255⟩ := hw
    have hfr : frA [(5, 7), (5, 9), (5, 16), (23, 3), (23, 6), (23, 12), (24, 2), (24, 4), (24, 8)] [(24, 7), (24, 9)] [10, 26, 27, 42, 43, 44, 45, 46, 47, 48, 49, 50] [25, 41] t t_253 := frA_tr hfr f_255 rfl
    have h_256 : (t_253.1 24 3).toInt = (t_245.1 24 3).toInt := ti_eq (f_255.1 24 3 rfl)
    have h_257 : (0 : Int) ≤ (t_253.1 24 2).toInt ∧ (t_253.1 24 2).toInt ≤ 81 := hok.1 24 2
    have h_258 : (-1 : Int) ≤ (t_253.1 24 3).toInt ∧ (t_253.1 24 3).toInt ≤ 80 := hok.1 24 3
    refine lv_goto (tgt := 100) C.1 C.2.1 dX0_workInstruction_39 (by decide) ?_
    exact L_100 t_253 0 r_246 0 r_200 _ _ _ hok hfr ⟨by decide, by decide⟩ ⟨by omega, by omega⟩ hP hD hS (lv_sub hl [0, 1, 2, 3, 4] rfl)

theorem dX0_nextWrong_0 : decode cX0_nextWrong 0 = .ok (.iconst 0, 1) := by decide +kernel
theorem dX0_nextWrong_1 : decode cX0_nextWrong 1 = .ok (.istore_n 1, 1) := by decide +kernel
theorem dX0_nextWrong_10 : decode cX0_nextWrong 10 = .ok (.getfield 78, 3) := by decide +kernel
theorem dX0_nextWrong_100 : decode cX0_nextWrong 100 = .ok (.ireturn, 1) := by decide +kernel
theorem dX0_nextWrong_101 : decode cX0_nextWrong 101 = .ok (.iinc 1 1, 3) := by decide +kernel
theorem dX0_nextWrong_104 : decode cX0_nextWrong 104 = .ok (.goto (-102), 3) := by decide +kernel
theorem dX0_nextWrong_107 : decode cX0_nextWrong 107 = .ok (.iconst 0, 1) := by decide +kernel
theorem dX0_nextWrong_108 : decode cX0_nextWrong 108 = .ok (.ireturn, 1) := by decide +kernel
theorem dX0_nextWrong_13 : decode cX0_nextWrong 13 = .ok (.ifCond .ne 94, 3) := by decide +kernel
theorem dX0_nextWrong_16 : decode cX0_nextWrong 16 = .ok (.aload_n 0, 1) := by decide +kernel
theorem dX0_nextWrong_17 : decode cX0_nextWrong 17 = .ok (.getfield 25, 3) := by decide +kernel
theorem dX0_nextWrong_2 : decode cX0_nextWrong 2 = .ok (.iload_n 1, 1) := by decide +kernel
theorem dX0_nextWrong_20 : decode cX0_nextWrong 20 = .ok (.invokevirtual 94, 3) := by decide +kernel
theorem dX0_nextWrong_23 : decode cX0_nextWrong 23 = .ok (.ifCond .ne 17, 3) := by decide +kernel
theorem dX0_nextWrong_26 : decode cX0_nextWrong 26 = .ok (.aload_n 0, 1) := by decide +kernel
theorem dX0_nextWrong_27 : decode cX0_nextWrong 27 = .ok (.aload_n 0, 1) := by decide +kernel
theorem dX0_nextWrong_28 : decode cX0_nextWrong 28 = .ok (.getfield 25, 3) := by decide +kernel
theorem dX0_nextWrong_3 : decode cX0_nextWrong 3 = .ok (.sipush 8192, 3) := by decide +kernel
theorem dX0_nextWrong_31 : decode cX0_nextWrong 31 = .ok (.getfield 98, 3) := by decide +kernel
theorem dX0_nextWrong_34 : decode cX0_nextWrong 34 = .ok (.putfield 78, 3) := by decide +kernel
theorem dX0_nextWrong_37 : decode cX0_nextWrong 37 = .ok (.bipush 7, 2) := by decide +kernel
theorem dX0_nextWrong_39 : decode cX0_nextWrong 39 = .ok (.ireturn, 1) := by decide +kernel
theorem dX0_nextWrong_40 : decode cX0_nextWrong 40 = .ok (.aload_n 0, 1) := by decide +kernel
theorem dX0_nextWrong_41 : decode cX0_nextWrong 41 = .ok (.invokevirtual 101, 3) := by decide +kernel
theorem dX0_nextWrong_44 : decode cX0_nextWrong 44 = .ok (.istore_n 2, 1) := by decide +kernel
theorem dX0_nextWrong_45 : decode cX0_nextWrong 45 = .ok (.iload_n 2, 1) := by decide +kernel
theorem dX0_nextWrong_46 : decode cX0_nextWrong 46 = .ok (.ifCond .ne 49, 3) := by decide +kernel
theorem dX0_nextWrong_49 : decode cX0_nextWrong 49 = .ok (.aload_n 0, 1) := by decide +kernel
theorem dX0_nextWrong_50 : decode cX0_nextWrong 50 = .ok (.getfield 105, 3) := by decide +kernel
theorem dX0_nextWrong_53 : decode cX0_nextWrong 53 = .ok (.ifCond .lt 42, 3) := by decide +kernel
theorem dX0_nextWrong_56 : decode cX0_nextWrong 56 = .ok (.aload_n 0, 1) := by decide +kernel
theorem dX0_nextWrong_57 : decode cX0_nextWrong 57 = .ok (.getfield 105, 3) := by decide +kernel
theorem dX0_nextWrong_6 : decode cX0_nextWrong 6 = .ok (.if_icmp .gt 101, 3) := by decide +kernel
theorem dX0_nextWrong_60 : decode cX0_nextWrong 60 = .ok (.sipush 145, 3) := by decide +kernel
theorem dX0_nextWrong_63 : decode cX0_nextWrong 63 = .ok (.if_icmp .ge 10, 3) := by decide +kernel
theorem dX0_nextWrong_66 : decode cX0_nextWrong 66 = .ok (.aload_n 0, 1) := by decide +kernel
theorem dX0_nextWrong_67 : decode cX0_nextWrong 67 = .ok (.invokevirtual 110, 3) := by decide +kernel
theorem dX0_nextWrong_70 : decode cX0_nextWrong 70 = .ok (.goto 24, 3) := by decide +kernel
theorem dX0_nextWrong_73 : decode cX0_nextWrong 73 = .ok (.aload_n 0, 1) := by decide +kernel
theorem dX0_nextWrong_74 : decode cX0_nextWrong 74 = .ok (.getfield 105, 3) := by decide +kernel
theorem dX0_nextWrong_77 : decode cX0_nextWrong 77 = .ok (.sipush 149, 3) := by decide +kernel
theorem dX0_nextWrong_80 : decode cX0_nextWrong 80 = .ok (.if_icmp .ne 10, 3) := by decide +kernel
theorem dX0_nextWrong_83 : decode cX0_nextWrong 83 = .ok (.aload_n 0, 1) := by decide +kernel
theorem dX0_nextWrong_84 : decode cX0_nextWrong 84 = .ok (.invokevirtual 113, 3) := by decide +kernel
theorem dX0_nextWrong_87 : decode cX0_nextWrong 87 = .ok (.goto 7, 3) := by decide +kernel
theorem dX0_nextWrong_9 : decode cX0_nextWrong 9 = .ok (.aload_n 0, 1) := by decide +kernel
theorem dX0_nextWrong_90 : decode cX0_nextWrong 90 = .ok (.aload_n 0, 1) := by decide +kernel
theorem dX0_nextWrong_91 : decode cX0_nextWrong 91 = .ok (.invokevirtual 116, 3) := by decide +kernel
theorem dX0_nextWrong_94 : decode cX0_nextWrong 94 = .ok (.istore_n 2, 1) := by decide +kernel
theorem dX0_nextWrong_95 : decode cX0_nextWrong 95 = .ok (.iload_n 2, 1) := by decide +kernel
theorem dX0_nextWrong_96 : decode cX0_nextWrong 96 = .ok (.ifCond .eq 5, 3) := by decide +kernel
theorem dX0_nextWrong_99 : decode cX0_nextWrong 99 = .ok (.iload_n 2, 1) := by decide +kernel
set_option maxHeartbeats 4000000 in
set_option maxRecDepth 100000 in
theorem T_X0_nextWrong (l : Launch) (D : va_G) (K : Nat → ClassId) (Z Y : Nat → Nat) (ad : Nat → Nat) (d : dSt) (t : tSt) (hok : okX t)  : tMet l yX0_nextWrong cX0_nextWrong 3 (some .int) (rmD 8 0 0) D K Z Y [.ref (ad 5)] ((WX d) K ad t) (QI D K (fun (r : Int32) (u : tSt) => okX u ∧ frA [(2, 2), (2, 3), (2, 4), (2, 5), (5, 7), (5, 9), (5, 11), (5, 12), (5, 14), (5, 15), (5, 16), (5, 17), (23, 3), (23, 6), (23, 12), (24, 2), (24, 3), (24, 4), (24, 5), (24, 6), (24, 8)] [(5, 13), (24, 7), (24, 9)] [9, 10, 26, 27, 28, 42, 43, 44, 45, 46, 47, 48, 49, 50] [25, 41] t u ∧ (0 : Int) ≤ r.toInt ∧ r.toInt ≤ 8) (fun (u : tSt) => (WX d) K ad u)) 0 0 := by
  refine t_met RX0 ⟨rfl, by decide +kernel⟩ (Nat.le_of_ble_eq_true rfl) ?_
  intro p e s m below meth c A ls C hE hZ hr hlocks hA hP hD hS hl
  have hl : lv_has ls 3 [(0, .ref (ad 5))] := hl
  have hokt := hok
  have hfr : frA [(2, 2), (2, 3), (2, 4), (2, 5), (5, 7), (5, 9), (5, 11), (5, 12), (5, 14), (5, 15), (5, 16), (5, 17), (23, 3), (23, 6), (23, 12), (24, 2), (24, 3), (24, 4), (24, 5), (24, 6), (24, 8)] [(5, 13), (24, 7), (24, 9)] [9, 10, 26, 27, 28, 42, 43, 44, 45, 46, 47, 48, 49, 50] [25, 41] t t := frA_rf
  have h_1 : (0 : Int) ≤ (t.1 2 2).toInt ∧ (t.1 2 2).toInt ≤ 1280 := hok.1 2 2
  have h_2 : (0 : Int) ≤ (t.1 2 3).toInt ∧ (t.1 2 3).toInt ≤ 80 := hok.1 2 3
  have h_3 : (0 : Int) ≤ (t.1 2 4).toInt ∧ (t.1 2 4).toInt ≤ 1281 := hok.1 2 4
  have h_4 : (0 : Int) ≤ (t.1 2 7).toInt ∧ (t.1 2 7).toInt ≤ 1280 := hok.1 2 7
  have L_2 : ∀ (fuel_2 : Nat) (t1 : tSt) (w2_1 : Int32) (H : Heap) (locs : List Loc) (ls : Array Slot), okX t1 → frA [(2, 2), (2, 3), (2, 4), (2, 5), (5, 7), (5, 9), (5, 11), (5, 12), (5, 14), (5, 15), (5, 16), (5, 17), (23, 3), (23, 6), (23, 12), (24, 2), (24, 3), (24, 4), (24, 5), (24, 6), (24, 8)] [(5, 13), (24, 7), (24, 9)] [9, 10, 26, 27, 28, 42, 43, 44, 45, 46, 47, 48, 49, 50] [25, 41] t t1 → (0 : Int) ≤ w2_1.toInt ∧ w2_1.toInt ≤ 32399 → (32399 : Int) - w2_1.toInt < (fuel_2 : Int) → va_P D vwCl ((WX d) K ad t1) H → va_D A ((WX d) K ad t1) → va_S A s.heap H locs → lv_has ls 3 [(0, .ref (ad 5)), (1, .int w2_1)] → W p l e (rmD 8 0 0) s m [.ref (ad 5)].toArray below meth c H locs 0 0 (MQ below (QI D K (fun (r : Int32) (u : tSt) => okX u ∧ frA [(2, 2), (2, 3), (2, 4), (2, 5), (5, 7), (5, 9), (5, 11), (5, 12), (5, 14), (5, 15), (5, 16), (5, 17), (23, 3), (23, 6), (23, 12), (24, 2), (24, 3), (24, 4), (24, 5), (24, 6), (24, 8)] [(5, 13), (24, 7), (24, 9)] [9, 10, 26, 27, 28, 42, 43, 44, 45, 46, 47, 48, 49, 50] [25, 41] t u ∧ (0 : Int) ≤ r.toInt ∧ r.toInt ≤ 8) (fun (u : tSt) => (WX d) K ad u) A) [.ref (ad 5)].toArray s 0 0 A) (F0 m 2 ls []) := by
    intro fuel_2
    induction fuel_2 with
    | zero =>
      intro t1 w2_1 H locs ls hok hfr hw2_1 hm2_2 hP hD hS hl
      have h_5 : (t1.1 2 7).toInt = (t.1 2 7).toInt := ti_eq (hfr.1 2 7 rfl)
      have h_6 : (0 : Int) ≤ (t1.1 2 2).toInt ∧ (t1.1 2 2).toInt ≤ 1280 := hok.1 2 2
      have h_7 : (0 : Int) ≤ (t1.1 2 3).toInt ∧ (t1.1 2 3).toInt ≤ 80 := hok.1 2 3
      have h_8 : (0 : Int) ≤ (t1.1 2 4).toInt ∧ (t1.1 2 4).toInt ≤ 1281 := hok.1 2 4
      have h_9 : (0 : Int) ≤ (t1.1 2 7).toInt ∧ (t1.1 2 7).toInt ≤ 1280 := hok.1 2 7
      exact absurd hm2_2 (by omega)
    | succ fuel_2 ih_2 =>
      intro t1 w2_1 H locs ls hok hfr hw2_1 hm2_2 hP hD hS hl
      have hm2_2 : (32399 : Int) - w2_1.toInt < (fuel_2 : Int) + 1 := by omega
      have h_10 : (t1.1 2 7).toInt = (t.1 2 7).toInt := ti_eq (hfr.1 2 7 rfl)
      have h_11 : (0 : Int) ≤ (t1.1 2 2).toInt ∧ (t1.1 2 2).toInt ≤ 1280 := hok.1 2 2
      have h_12 : (0 : Int) ≤ (t1.1 2 3).toInt ∧ (t1.1 2 3).toInt ≤ 80 := hok.1 2 3
      have h_13 : (0 : Int) ≤ (t1.1 2 4).toInt ∧ (t1.1 2 4).toInt ≤ 1281 := hok.1 2 4
      have h_14 : (0 : Int) ≤ (t1.1 2 7).toInt ∧ (t1.1 2 7).toInt ≤ 1280 := hok.1 2 7
      have L_95 : ∀ (t1 : tSt) (w95_1 : Int32) (w95_2 : Int32) (H : Heap) (locs : List Loc) (ls : Array Slot), okX t1 → frA [(2, 2), (2, 3), (2, 4), (2, 5), (5, 7), (5, 9), (5, 11), (5, 12), (5, 14), (5, 15), (5, 16), (5, 17), (23, 3), (23, 6), (23, 12), (24, 2), (24, 3), (24, 4), (24, 5), (24, 6), (24, 8)] [(5, 13), (24, 7), (24, 9)] [9, 10, 26, 27, 28, 42, 43, 44, 45, 46, 47, 48, 49, 50] [25, 41] t t1 → (0 : Int) ≤ w95_1.toInt ∧ w95_1.toInt ≤ 8192 → (0 : Int) ≤ w95_2.toInt ∧ w95_2.toInt ≤ 8 → (32399 : Int) - w95_1.toInt < (fuel_2 : Int) + 1 → va_P D vwCl ((WX d) K ad t1) H → va_D A ((WX d) K ad t1) → va_S A s.heap H locs → lv_has ls 3 [(0, .ref (ad 5)), (1, .int w95_1), (2, .int w95_2)] → W p l e (rmD 8 0 0) s m [.ref (ad 5)].toArray below meth c H locs 0 0 (MQ below (QI D K (fun (r : Int32) (u : tSt) => okX u ∧ frA [(2, 2), (2, 3), (2, 4), (2, 5), (5, 7), (5, 9), (5, 11), (5, 12), (5, 14), (5, 15), (5, 16), (5, 17), (23, 3), (23, 6), (23, 12), (24, 2), (24, 3), (24, 4), (24, 5), (24, 6), (24, 8)] [(5, 13), (24, 7), (24, 9)] [9, 10, 26, 27, 28, 42, 43, 44, 45, 46, 47, 48, 49, 50] [25, 41] t u ∧ (0 : Int) ≤ r.toInt ∧ r.toInt ≤ 8) (fun (u : tSt) => (WX d) K ad u) A) [.ref (ad 5)].toArray s 0 0 A) (F0 m 95 ls []) := by
        intro t1 w95_1 w95_2 H locs ls hok hfr hw95_1 hw95_2 hm95_2 hP hD hS hl
        have h_15 : (t1.1 2 7).toInt = (t.1 2 7).toInt := ti_eq (hfr.1 2 7 rfl)
        have h_16 : (0 : Int) ≤ (t1.1 2 2).toInt ∧ (t1.1 2 2).toInt ≤ 1280 := hok.1 2 2
        have h_17 : (0 : Int) ≤ (t1.1 2 3).toInt ∧ (t1.1 2 3).toInt ≤ 80 := hok.1 2 3
        have h_18 : (0 : Int) ≤ (t1.1 2 4).toInt ∧ (t1.1 2 4).toInt ≤ 1281 := hok.1 2 4
        have h_19 : (0 : Int) ≤ (t1.1 2 7).toInt ∧ (t1.1 2 7).toInt ≤ 1280 := hok.1 2 7
        refine lv_iload_n C.1 C.2.1 dX0_nextWrong_95 rfl (lv_at hl 2 rfl) ?_
        refine lv_if_eq (tgt := 101) C.1 C.2.1 dX0_nextWrong_96 (by decide) (fun c_20 => ?_) (fun c_20 => ?_)
        · replace c_20 : w95_2.toInt = 0 := i_eq c_20
          obtain ⟨v_21, e_22⟩ : ∃ z, z = w95_1 + 1 := ⟨_, rfl⟩
          have h_23 : v_21.toInt = w95_1.toInt + 1 := by rw [e_22]; exact ti_iadd (by show (_ : Int) ≤ w95_1.toInt + 1; omega) (by show w95_1.toInt + 1 < (_ : Int); omega)
          refine lv_iinc (v := v_21) (lv' := [(1, .int v_21), (0, .ref (ad 5)), (2, .int w95_2)]) C.1 C.2.1 dX0_nextWrong_101 hl (k := 1) rfl e_22.symm (by decide) rfl (fun ls hl => ?_)
          have hl : lv_has ls 3 [(0, .ref (ad 5)), (1, .int v_21), (2, .int w95_2)] := lv_sub hl [1, 0, 2] rfl
          refine lv_goto (tgt := 2) C.1 C.2.1 dX0_nextWrong_104 (by decide) ?_
          exact ih_2 t1 v_21 _ _ _ hok hfr ⟨by omega, by omega⟩ (show (32399 : Int) - v_21.toInt < (fuel_2 : Int) from by omega) hP hD hS (lv_sub hl [0, 1] rfl)
        · replace c_20 : ¬ w95_2.toInt = 0 := i_ne c_20
          refine lv_iload_n C.1 C.2.1 dX0_nextWrong_99 rfl (lv_at hl 2 rfl) ?_
          exact g_iret C hr hlocks hP hD hS rfl t1 rfl ⟨hok, hfr, by omega, by omega⟩ (Nat.le_of_ble_eq_true rfl) (Nat.le_of_ble_eq_true rfl) dX0_nextWrong_100
      have L_94 : ∀ (t1 : tSt) (w94_1 : Int32) (w94_2 : Int32) (k94_0 : Int32) (H : Heap) (locs : List Loc) (ls : Array Slot), okX t1 → frA [(2, 2), (2, 3), (2, 4), (2, 5), (5, 7), (5, 9), (5, 11), (5, 12), (5, 14), (5, 15), (5, 16), (5, 17), (23, 3), (23, 6), (23, 12), (24, 2), (24, 3), (24, 4), (24, 5), (24, 6), (24, 8)] [(5, 13), (24, 7), (24, 9)] [9, 10, 26, 27, 28, 42, 43, 44, 45, 46, 47, 48, 49, 50] [25, 41] t t1 → (0 : Int) ≤ w94_1.toInt ∧ w94_1.toInt ≤ 8192 → (0 : Int) ≤ w94_2.toInt ∧ w94_2.toInt ≤ 0 → (0 : Int) ≤ k94_0.toInt ∧ k94_0.toInt ≤ 6 → (0 : Int) ≤ (t1.1 5 11).toInt ∧ (t1.1 5 11).toInt ≤ 156 → (32399 : Int) - w94_1.toInt < (fuel_2 : Int) + 1 → va_P D vwCl ((WX d) K ad t1) H → va_D A ((WX d) K ad t1) → va_S A s.heap H locs → lv_has ls 3 [(0, .ref (ad 5)), (1, .int w94_1), (2, .int w94_2)] → W p l e (rmD 8 0 0) s m [.ref (ad 5)].toArray below meth c H locs 0 0 (MQ below (QI D K (fun (r : Int32) (u : tSt) => okX u ∧ frA [(2, 2), (2, 3), (2, 4), (2, 5), (5, 7), (5, 9), (5, 11), (5, 12), (5, 14), (5, 15), (5, 16), (5, 17), (23, 3), (23, 6), (23, 12), (24, 2), (24, 3), (24, 4), (24, 5), (24, 6), (24, 8)] [(5, 13), (24, 7), (24, 9)] [9, 10, 26, 27, 28, 42, 43, 44, 45, 46, 47, 48, 49, 50] [25, 41] t u ∧ (0 : Int) ≤ r.toInt ∧ r.toInt ≤ 8) (fun (u : tSt) => (WX d) K ad u) A) [.ref (ad 5)].toArray s 0 0 A) (F0 m 94 ls [.int k94_0]) := by
        intro t1 w94_1 w94_2 k94_0 H locs ls hok hfr hw94_1 hw94_2 hk94_0 hf94_11 hm94_2 hP hD hS hl
        have h_24 : (t1.1 2 7).toInt = (t.1 2 7).toInt := ti_eq (hfr.1 2 7 rfl)
        have h_25 : (0 : Int) ≤ (t1.1 2 2).toInt ∧ (t1.1 2 2).toInt ≤ 1280 := hok.1 2 2
        have h_26 : (0 : Int) ≤ (t1.1 2 3).toInt ∧ (t1.1 2 3).toInt ≤ 80 := hok.1 2 3
        have h_27 : (0 : Int) ≤ (t1.1 2 4).toInt ∧ (t1.1 2 4).toInt ≤ 1281 := hok.1 2 4
        have h_28 : (0 : Int) ≤ (t1.1 2 7).toInt ∧ (t1.1 2 7).toInt ≤ 1280 := hok.1 2 7
        refine lv_istore_n (lv' := [(2, .int k94_0), (0, .ref (ad 5)), (1, .int w94_1)]) C.1 C.2.1 dX0_nextWrong_94 rfl hl (by decide) rfl (fun ls hl => ?_)
        have hl : lv_has ls 3 [(0, .ref (ad 5)), (1, .int w94_1), (2, .int k94_0)] := lv_sub hl [1, 2, 0] rfl
        exact L_95 t1 w94_1 k94_0 _ _ _ hok hfr ⟨by omega, by omega⟩ ⟨by omega, by omega⟩ (show (32399 : Int) - w94_1.toInt < (fuel_2 : Int) + 1 from by omega) hP hD hS (lv_sub hl [0, 1, 2] rfl)
      refine lv_iload_n C.1 C.2.1 dX0_nextWrong_2 rfl (lv_at hl 1 rfl) ?_
      refine lv_sipush (v := 8192) C.1 C.2.1 dX0_nextWrong_3 (by decide) ?_
      refine lv_icmp_gt (tgt := 107) C.1 C.2.1 dX0_nextWrong_6 (by decide) (fun c_29 => ?_) (fun c_29 => ?_)
      · replace c_29 : 8192 < w2_1.toInt := i_lt c_29
        refine lv_iconst (v := 0) C.1 C.2.1 dX0_nextWrong_107 (by decide) ?_
        exact g_iret C hr hlocks hP hD hS rfl t1 rfl ⟨hok, hfr, by decide, by decide⟩ (Nat.le_of_ble_eq_true rfl) (Nat.le_of_ble_eq_true rfl) dX0_nextWrong_108
      · replace c_29 : w2_1.toInt ≤ 8192 := i_nlt c_29
        refine lv_aload_n C.1 C.2.1 dX0_nextWrong_9 rfl (lv_at hl 0 rfl) ?_
        refine k_get (v := .int (t1.1 5 15)) C hP 5 rfl rfl inlX0 15 (by decide) m_12_5 rfl dX0_nextWrong_10 ?_
        refine lv_if_ne (tgt := 107) C.1 C.2.1 dX0_nextWrong_13 (by decide) (fun c_30 => ?_) (fun c_30 => ?_)
        · replace c_30 : ¬ (t1.1 5 15).toInt = 0 := i_ne c_30
          refine lv_iconst (v := 0) C.1 C.2.1 dX0_nextWrong_107 (by decide) ?_
          exact g_iret C hr hlocks hP hD hS rfl t1 rfl ⟨hok, hfr, by decide, by decide⟩ (Nat.le_of_ble_eq_true rfl) (Nat.le_of_ble_eq_true rfl) dX0_nextWrong_108
        · replace c_30 : (t1.1 5 15).toInt = 0 := i_eq c_30
          refine lv_aload_n C.1 C.2.1 dX0_nextWrong_16 rfl (lv_at hl 0 rfl) ?_
          refine k_get (v := .ref (ad 2)) C hP 5 rfl rfl inlX0 0 (by decide) m_5_17 rfl dX0_nextWrong_17 ?_
          refine g_Vi (As := []) (rest := []) C hP hD hS hA (T_X9_advance_1 l D K Z Y ad d t1 hok ) hE hZ (uwV m_13_18 m_13_19 m_13_20 m_1_17 m_13_21) (hdV 0 (by decide +kernel) rfl) ⟨Nat.le_of_ble_eq_true rfl, Nat.le_of_ble_eq_true rfl⟩ rfl rfl (ci := 8) (q0 := 2) rfl rfl rfl hl.1 (Nat.le_of_ble_eq_true rfl) dX0_nextWrong_20 ⟨Nat.le_of_ble_eq_true rfl, Nat.le_of_ble_eq_true rfl⟩ (fun r_32 t_31 H locs hw hP hD hS => ?_)
          obtain ⟨hok, f_33, h_34, h_35, p_36, p_37⟩ := hw
          have hfr : frA [(2, 2), (2, 3), (2, 4), (2, 5), (5, 7), (5, 9), (5, 11), (5, 12), (5, 14), (5, 15), (5, 16), (5, 17), (23, 3), (23, 6), (23, 12), (24, 2), (24, 3), (24, 4), (24, 5), (24, 6), (24, 8)] [(5, 13), (24, 7), (24, 9)] [9, 10, 26, 27, 28, 42, 43, 44, 45, 46, 47, 48, 49, 50] [25, 41] t t_31 := frA_tr hfr f_33 rfl
          have h_38 : (t_31.1 5 15).toInt = (t1.1 5 15).toInt := ti_eq (f_33.1 5 15 rfl)
          have h_39 : (t_31.1 2 7).toInt = (t1.1 2 7).toInt := ti_eq (f_33.1 2 7 rfl)
          have h_40 : (0 : Int) ≤ (t_31.1 2 2).toInt ∧ (t_31.1 2 2).toInt ≤ 1280 := hok.1 2 2
          have h_41 : (0 : Int) ≤ (t_31.1 2 3).toInt ∧ (t_31.1 2 3).toInt ≤ 80 := hok.1 2 3
          have h_42 : (0 : Int) ≤ (t_31.1 2 4).toInt ∧ (t_31.1 2 4).toInt ≤ 1281 := hok.1 2 4
          have h_43 : (0 : Int) ≤ (t_31.1 2 7).toInt ∧ (t_31.1 2 7).toInt ≤ 1280 := hok.1 2 7
          replace p_36 : r_32.toInt = 1 → (t_31.1 2 2).toInt + (t_31.1 2 3).toInt ≤ 1280 := p_36
          replace p_37 : r_32.toInt = 1 → (t1.1 2 4).toInt + (t_31.1 2 3).toInt + 1 ≤ (t_31.1 2 4).toInt ∧ (t_31.1 2 4).toInt ≤ (t1.1 2 7).toInt + 1 := p_37
          refine lv_if_ne (tgt := 40) C.1 C.2.1 dX0_nextWrong_23 (by decide) (fun c_44 => ?_) (fun c_44 => ?_)
          · replace c_44 : ¬ r_32.toInt = 0 := i_ne c_44
            refine lv_aload_n C.1 C.2.1 dX0_nextWrong_40 rfl (lv_at hl 0 rfl) ?_
            refine g_Vi (As := []) (rest := []) C hP hD hS hA (T_X0_takeApart l D K Z Y ad d t_31 hok ) hE hZ (uwV m_18_16 m_18_17 m_18_18 m_2_2 m_18_19) (hdV 0 (by decide +kernel) rfl) ⟨Nat.le_of_ble_eq_true rfl, Nat.le_of_ble_eq_true rfl⟩ rfl rfl (ci := 0) (q0 := 5) rfl rfl rfl hl.1 (Nat.le_of_ble_eq_true rfl) dX0_nextWrong_41 ⟨Nat.le_of_ble_eq_true rfl, Nat.le_of_ble_eq_true rfl⟩ (fun r_46 t_45 H locs hw hP hD hS => ?_)
            obtain ⟨hok, f_47, h_48, h_49⟩ := hw
            have hfr : frA [(2, 2), (2, 3), (2, 4), (2, 5), (5, 7), (5, 9), (5, 11), (5, 12), (5, 14), (5, 15), (5, 16), (5, 17), (23, 3), (23, 6), (23, 12), (24, 2), (24, 3), (24, 4), (24, 5), (24, 6), (24, 8)] [(5, 13), (24, 7), (24, 9)] [9, 10, 26, 27, 28, 42, 43, 44, 45, 46, 47, 48, 49, 50] [25, 41] t t_45 := frA_tr hfr f_47 rfl
            have h_50 : (t_45.1 5 15).toInt = (t_31.1 5 15).toInt := ti_eq (f_47.1 5 15 rfl)
            have h_51 : (t_45.1 2 2).toInt = (t_31.1 2 2).toInt := ti_eq (f_47.1 2 2 rfl)
            have h_52 : (t_45.1 2 3).toInt = (t_31.1 2 3).toInt := ti_eq (f_47.1 2 3 rfl)
            have h_53 : (t_45.1 2 4).toInt = (t_31.1 2 4).toInt := ti_eq (f_47.1 2 4 rfl)
            have h_54 : (t_45.1 2 7).toInt = (t_31.1 2 7).toInt := ti_eq (f_47.1 2 7 rfl)
            have h_55 : (0 : Int) ≤ (t_45.1 2 2).toInt ∧ (t_45.1 2 2).toInt ≤ 1280 := hok.1 2 2
            have h_56 : (0 : Int) ≤ (t_45.1 2 3).toInt ∧ (t_45.1 2 3).toInt ≤ 80 := hok.1 2 3
            have h_57 : (0 : Int) ≤ (t_45.1 2 4).toInt ∧ (t_45.1 2 4).toInt ≤ 1281 := hok.1 2 4
            have h_58 : (0 : Int) ≤ (t_45.1 2 7).toInt ∧ (t_45.1 2 7).toInt ≤ 1280 := hok.1 2 7
            refine lv_istore_n (lv' := [(2, .int r_46), (0, .ref (ad 5)), (1, .int w2_1)]) C.1 C.2.1 dX0_nextWrong_44 rfl hl (by decide) rfl (fun ls hl => ?_)
            have hl : lv_has ls 3 [(0, .ref (ad 5)), (1, .int w2_1), (2, .int r_46)] := lv_sub hl [1, 2, 0] rfl
            refine lv_iload_n C.1 C.2.1 dX0_nextWrong_45 rfl (lv_at hl 2 rfl) ?_
            refine lv_if_ne (tgt := 95) C.1 C.2.1 dX0_nextWrong_46 (by decide) (fun c_59 => ?_) (fun c_59 => ?_)
            · replace c_59 : ¬ r_46.toInt = 0 := i_ne c_59
              exact L_95 t_45 w2_1 r_46 _ _ _ hok hfr ⟨by omega, by omega⟩ ⟨by omega, by omega⟩ (show (32399 : Int) - w2_1.toInt < (fuel_2 : Int) + 1 from by omega) hP hD hS (lv_sub hl [0, 1, 2] rfl)
            · replace c_59 : r_46.toInt = 0 := i_eq c_59
              refine lv_aload_n C.1 C.2.1 dX0_nextWrong_49 rfl (lv_at hl 0 rfl) ?_
              have h_60 : (-1 : Int) ≤ (t_45.1 5 11).toInt ∧ (t_45.1 5 11).toInt ≤ 156 := hok.1 5 11
              refine k_get (v := .int (t_45.1 5 11)) C hP 5 rfl rfl inlX0 11 (by decide) m_13_17 rfl dX0_nextWrong_50 ?_
              refine lv_if_lt (tgt := 95) C.1 C.2.1 dX0_nextWrong_53 (by decide) (fun c_61 => ?_) (fun c_61 => ?_)
              · replace c_61 : (t_45.1 5 11).toInt < 0 := i_lt c_61
                exact L_95 t_45 w2_1 r_46 _ _ _ hok hfr ⟨by omega, by omega⟩ ⟨by omega, by omega⟩ (show (32399 : Int) - w2_1.toInt < (fuel_2 : Int) + 1 from by omega) hP hD hS (lv_sub hl [0, 1, 2] rfl)
              · replace c_61 : 0 ≤ (t_45.1 5 11).toInt := i_nlt c_61
                refine lv_aload_n C.1 C.2.1 dX0_nextWrong_56 rfl (lv_at hl 0 rfl) ?_
                refine k_get (v := .int (t_45.1 5 11)) C hP 5 rfl rfl inlX0 11 (by decide) m_13_17 rfl dX0_nextWrong_57 ?_
                refine lv_sipush (v := 145) C.1 C.2.1 dX0_nextWrong_60 (by decide) ?_
                refine lv_icmp_ge (tgt := 73) C.1 C.2.1 dX0_nextWrong_63 (by decide) (fun c_62 => ?_) (fun c_62 => ?_)
                · replace c_62 : 145 ≤ (t_45.1 5 11).toInt := i_le c_62
                  refine lv_aload_n C.1 C.2.1 dX0_nextWrong_73 rfl (lv_at hl 0 rfl) ?_
                  refine k_get (v := .int (t_45.1 5 11)) C hP 5 rfl rfl inlX0 11 (by decide) m_13_17 rfl dX0_nextWrong_74 ?_
                  refine lv_sipush (v := 149) C.1 C.2.1 dX0_nextWrong_77 (by decide) ?_
                  refine lv_icmp_ne (tgt := 90) C.1 C.2.1 dX0_nextWrong_80 (by decide) (fun c_63 => ?_) (fun c_63 => ?_)
                  · replace c_63 : ¬ (t_45.1 5 11).toInt = 149 := i_ne c_63
                    refine lv_aload_n C.1 C.2.1 dX0_nextWrong_90 rfl (lv_at hl 0 rfl) ?_
                    refine g_Vi (As := []) (rest := []) C hP hD hS hA (T_X0_workOther l D K Z Y ad d t_45 hok ) hE hZ (uwV m_28_2 m_28_3 m_28_4 m_2_2 m_28_5) (hdV 0 (by decide +kernel) rfl) ⟨Nat.le_of_ble_eq_true rfl, Nat.le_of_ble_eq_true rfl⟩ rfl rfl (ci := 0) (q0 := 5) rfl rfl rfl hl.1 (Nat.le_of_ble_eq_true rfl) dX0_nextWrong_91 ⟨Nat.le_of_ble_eq_true rfl, Nat.le_of_ble_eq_true rfl⟩ (fun r_65 t_64 H locs hw hP hD hS => ?_)
                    obtain ⟨hok, f_66, h_67, h_68⟩ := hw
                    have hfr : frA [(2, 2), (2, 3), (2, 4), (2, 5), (5, 7), (5, 9), (5, 11), (5, 12), (5, 14), (5, 15), (5, 16), (5, 17), (23, 3), (23, 6), (23, 12), (24, 2), (24, 3), (24, 4), (24, 5), (24, 6), (24, 8)] [(5, 13), (24, 7), (24, 9)] [9, 10, 26, 27, 28, 42, 43, 44, 45, 46, 47, 48, 49, 50] [25, 41] t t_64 := frA_tr hfr f_66 rfl
                    have h_69 : (t_64.1 5 15).toInt = (t_45.1 5 15).toInt := ti_eq (f_66.1 5 15 rfl)
                    have h_70 : (t_64.1 5 11).toInt = (t_45.1 5 11).toInt := ti_eq (f_66.1 5 11 rfl)
                    have h_71 : (t_64.1 2 2).toInt = (t_45.1 2 2).toInt := ti_eq (f_66.1 2 2 rfl)
                    have h_72 : (t_64.1 2 3).toInt = (t_45.1 2 3).toInt := ti_eq (f_66.1 2 3 rfl)
                    have h_73 : (t_64.1 2 4).toInt = (t_45.1 2 4).toInt := ti_eq (f_66.1 2 4 rfl)
                    have h_74 : (t_64.1 2 7).toInt = (t_45.1 2 7).toInt := ti_eq (f_66.1 2 7 rfl)
                    have h_75 : (0 : Int) ≤ (t_64.1 2 2).toInt ∧ (t_64.1 2 2).toInt ≤ 1280 := hok.1 2 2
                    have h_76 : (0 : Int) ≤ (t_64.1 2 3).toInt ∧ (t_64.1 2 3).toInt ≤ 80 := hok.1 2 3
                    have h_77 : (0 : Int) ≤ (t_64.1 2 4).toInt ∧ (t_64.1 2 4).toInt ≤ 1281 := hok.1 2 4
                    have h_78 : (0 : Int) ≤ (t_64.1 2 7).toInt ∧ (t_64.1 2 7).toInt ≤ 1280 := hok.1 2 7
                    exact L_94 t_64 w2_1 r_46 r_65 _ _ _ hok hfr ⟨by omega, by omega⟩ ⟨by omega, by omega⟩ ⟨by omega, by omega⟩ (show (0 : Int) ≤ ((t_64.1 5 11) : Int32).toInt ∧ ((t_64.1 5 11) : Int32).toInt ≤ 156 from ⟨by omega, by omega⟩) (show (32399 : Int) - w2_1.toInt < (fuel_2 : Int) + 1 from by omega) hP hD hS (lv_sub hl [0, 1, 2] rfl)
                  · replace c_63 : (t_45.1 5 11).toInt = 149 := i_eq c_63
                    refine lv_aload_n C.1 C.2.1 dX0_nextWrong_83 rfl (lv_at hl 0 rfl) ?_
                    refine g_Vi (As := []) (rest := []) C hP hD hS hA (T_X0_workEnd l D K Z Y ad d t_45 hok ) hE hZ (uwV m_26_18 m_26_19 m_26_20 m_2_2 m_26_21) (hdV 0 (by decide +kernel) rfl) ⟨Nat.le_of_ble_eq_true rfl, Nat.le_of_ble_eq_true rfl⟩ rfl rfl (ci := 0) (q0 := 5) rfl rfl rfl hl.1 (Nat.le_of_ble_eq_true rfl) dX0_nextWrong_84 ⟨Nat.le_of_ble_eq_true rfl, Nat.le_of_ble_eq_true rfl⟩ (fun r_80 t_79 H locs hw hP hD hS => ?_)
                    obtain ⟨hok, f_81, h_82, h_83⟩ := hw
                    have hfr : frA [(2, 2), (2, 3), (2, 4), (2, 5), (5, 7), (5, 9), (5, 11), (5, 12), (5, 14), (5, 15), (5, 16), (5, 17), (23, 3), (23, 6), (23, 12), (24, 2), (24, 3), (24, 4), (24, 5), (24, 6), (24, 8)] [(5, 13), (24, 7), (24, 9)] [9, 10, 26, 27, 28, 42, 43, 44, 45, 46, 47, 48, 49, 50] [25, 41] t t_79 := frA_tr hfr f_81 rfl
                    have h_84 : (t_79.1 5 11).toInt = (t_45.1 5 11).toInt := ti_eq (f_81.1 5 11 rfl)
                    have h_85 : (t_79.1 2 2).toInt = (t_45.1 2 2).toInt := ti_eq (f_81.1 2 2 rfl)
                    have h_86 : (t_79.1 2 3).toInt = (t_45.1 2 3).toInt := ti_eq (f_81.1 2 3 rfl)
                    have h_87 : (t_79.1 2 4).toInt = (t_45.1 2 4).toInt := ti_eq (f_81.1 2 4 rfl)
                    have h_88 : (t_79.1 2 7).toInt = (t_45.1 2 7).toInt := ti_eq (f_81.1 2 7 rfl)
                    have h_89 : (0 : Int) ≤ (t_79.1 2 2).toInt ∧ (t_79.1 2 2).toInt ≤ 1280 := hok.1 2 2
                    have h_90 : (0 : Int) ≤ (t_79.1 2 3).toInt ∧ (t_79.1 2 3).toInt ≤ 80 := hok.1 2 3
                    have h_91 : (0 : Int) ≤ (t_79.1 2 4).toInt ∧ (t_79.1 2 4).toInt ≤ 1281 := hok.1 2 4
                    have h_92 : (0 : Int) ≤ (t_79.1 2 7).toInt ∧ (t_79.1 2 7).toInt ≤ 1280 := hok.1 2 7
                    refine lv_goto (tgt := 94) C.1 C.2.1 dX0_nextWrong_87 (by decide) ?_
                    exact L_94 t_79 w2_1 r_46 r_80 _ _ _ hok hfr ⟨by omega, by omega⟩ ⟨by omega, by omega⟩ ⟨by omega, by omega⟩ (show (0 : Int) ≤ ((t_79.1 5 11) : Int32).toInt ∧ ((t_79.1 5 11) : Int32).toInt ≤ 156 from ⟨by omega, by omega⟩) (show (32399 : Int) - w2_1.toInt < (fuel_2 : Int) + 1 from by omega) hP hD hS (lv_sub hl [0, 1, 2] rfl)
                · replace c_62 : (t_45.1 5 11).toInt < 145 := i_nle c_62
                  refine lv_aload_n C.1 C.2.1 dX0_nextWrong_66 rfl (lv_at hl 0 rfl) ?_
                  refine g_Vi (As := []) (rest := []) C hP hD hS hA (T_X0_workInstruction l D K Z Y ad d t_45 hok ) hE hZ (uwV m_21_2 m_21_3 m_21_4 m_2_2 m_21_5) (hdV 0 (by decide +kernel) rfl) ⟨Nat.le_of_ble_eq_true rfl, Nat.le_of_ble_eq_true rfl⟩ rfl rfl (ci := 0) (q0 := 5) rfl rfl rfl hl.1 (Nat.le_of_ble_eq_true rfl) dX0_nextWrong_67 ⟨Nat.le_of_ble_eq_true rfl, Nat.le_of_ble_eq_true rfl⟩ (fun r_94 t_93 H locs hw hP hD hS => ?_)
                  obtain ⟨hok, f_95, h_96, h_97⟩ := hw
                  have hfr : frA [(2, 2), (2, 3), (2, 4), (2, 5), (5, 7), (5, 9), (5, 11), (5, 12), (5, 14), (5, 15), (5, 16), (5, 17), (23, 3), (23, 6), (23, 12), (24, 2), (24, 3), (24, 4), (24, 5), (24, 6), (24, 8)] [(5, 13), (24, 7), (24, 9)] [9, 10, 26, 27, 28, 42, 43, 44, 45, 46, 47, 48, 49, 50] [25, 41] t t_93 := frA_tr hfr f_95 rfl
                  have h_98 : (t_93.1 5 15).toInt = (t_45.1 5 15).toInt := ti_eq (f_95.1 5 15 rfl)
                  have h_99 : (t_93.1 5 11).toInt = (t_45.1 5 11).toInt := ti_eq (f_95.1 5 11 rfl)
                  have h_100 : (t_93.1 2 2).toInt = (t_45.1 2 2).toInt := ti_eq (f_95.1 2 2 rfl)
                  have h_101 : (t_93.1 2 3).toInt = (t_45.1 2 3).toInt := ti_eq (f_95.1 2 3 rfl)
                  have h_102 : (t_93.1 2 4).toInt = (t_45.1 2 4).toInt := ti_eq (f_95.1 2 4 rfl)
                  have h_103 : (t_93.1 2 7).toInt = (t_45.1 2 7).toInt := ti_eq (f_95.1 2 7 rfl)
                  have h_104 : (0 : Int) ≤ (t_93.1 2 2).toInt ∧ (t_93.1 2 2).toInt ≤ 1280 := hok.1 2 2
                  have h_105 : (0 : Int) ≤ (t_93.1 2 3).toInt ∧ (t_93.1 2 3).toInt ≤ 80 := hok.1 2 3
                  have h_106 : (0 : Int) ≤ (t_93.1 2 4).toInt ∧ (t_93.1 2 4).toInt ≤ 1281 := hok.1 2 4
                  have h_107 : (0 : Int) ≤ (t_93.1 2 7).toInt ∧ (t_93.1 2 7).toInt ≤ 1280 := hok.1 2 7
                  refine lv_goto (tgt := 94) C.1 C.2.1 dX0_nextWrong_70 (by decide) ?_
                  exact L_94 t_93 w2_1 r_46 r_94 _ _ _ hok hfr ⟨by omega, by omega⟩ ⟨by omega, by omega⟩ ⟨by omega, by omega⟩ (show (0 : Int) ≤ ((t_93.1 5 11) : Int32).toInt ∧ ((t_93.1 5 11) : Int32).toInt ≤ 156 from ⟨by omega, by omega⟩) (show (32399 : Int) - w2_1.toInt < (fuel_2 : Int) + 1 from by omega) hP hD hS (lv_sub hl [0, 1, 2] rfl)
          · replace c_44 : r_32.toInt = 0 := i_eq c_44
            refine lv_aload_n C.1 C.2.1 dX0_nextWrong_26 rfl (lv_at hl 0 rfl) ?_
            refine lv_aload_n C.1 C.2.1 dX0_nextWrong_27 rfl (lv_at hl 0 rfl) ?_
            refine k_get (v := .ref (ad 2)) C hP 5 rfl rfl inlX0 0 (by decide) m_5_17 rfl dX0_nextWrong_28 ?_
            refine k_get (v := .int (t_31.1 2 5)) C hP 2 rfl rfl inlX9 5 (by decide) m_13_16 rfl dX0_nextWrong_31 ?_
            refine k_put (ws' := (WX d) K ad (uI t_31 5 15 (t_31.1 2 5))) (v := .int (t_31.1 2 5)) C hP hD hS 5 rfl rfl inlX0 tyX0_ok nmX0 15 (by decide) m_12_5 rfl rfl rfl rfl rfl dX0_nextWrong_34 (fun H locs hP hD hS => ?_)
            have hok : okX (uI t_31 5 15 (t_31.1 2 5)) := ⟨okI_I hok.1 5 15 (t_31.1 2 5) (show (-2147483648 : Int) ≤ ((t_31.1 2 5) : Int32).toInt ∧ ((t_31.1 2 5) : Int32).toInt ≤ 2147483647 from (i_rng _)), hok.2.1, trivial⟩
            have hfr : frA [(2, 2), (2, 3), (2, 4), (2, 5), (5, 7), (5, 9), (5, 11), (5, 12), (5, 14), (5, 15), (5, 16), (5, 17), (23, 3), (23, 6), (23, 12), (24, 2), (24, 3), (24, 4), (24, 5), (24, 6), (24, 8)] [(5, 13), (24, 7), (24, 9)] [9, 10, 26, 27, 28, 42, 43, 44, 45, 46, 47, 48, 49, 50] [25, 41] t (uI t_31 5 15 (t_31.1 2 5)) := frA_I hfr 5 15 _ rfl
            refine lv_bipush (v := 7) C.1 C.2.1 dX0_nextWrong_37 (by decide) ?_
            exact g_iret C hr hlocks hP hD hS rfl (uI t_31 5 15 (t_31.1 2 5)) rfl ⟨hok, hfr, by decide, by decide⟩ (Nat.le_of_ble_eq_true rfl) (Nat.le_of_ble_eq_true rfl) dX0_nextWrong_39
  refine lv_iconst (v := 0) C.1 C.2.1 dX0_nextWrong_0 (by decide) ?_
  refine lv_istore_n (lv' := [(1, .int 0), (0, .ref (ad 5))]) C.1 C.2.1 dX0_nextWrong_1 rfl hl (by decide) rfl (fun ls hl => ?_)
  have hl : lv_has ls 3 [(0, .ref (ad 5)), (1, .int 0)] := lv_sub hl [1, 0] rfl
  exact L_2 32400 t 0 _ _ _ hok hfr ⟨by decide, by decide⟩ (show (32399 : Int) - 0 < ((32400 : Nat) : Int) from by omega) hP hD hS (lv_sub hl [0, 1] rfl)

theorem dX11_assemble_0 : decode cX11_assemble 0 = .ok (.aload_n 0, 1) := by decide +kernel
theorem dX11_assemble_1 : decode cX11_assemble 1 = .ok (.invokevirtual 78, 3) := by decide +kernel
theorem dX11_assemble_10 : decode cX11_assemble 10 = .ok (.aload_n 0, 1) := by decide +kernel
theorem dX11_assemble_11 : decode cX11_assemble 11 = .ok (.getfield 36, 3) := by decide +kernel
theorem dX11_assemble_14 : decode cX11_assemble 14 = .ok (.getfield 82, 3) := by decide +kernel
theorem dX11_assemble_17 : decode cX11_assemble 17 = .ok (.iconst 0, 1) := by decide +kernel
theorem dX11_assemble_18 : decode cX11_assemble 18 = .ok (.iload_n 1, 1) := by decide +kernel
theorem dX11_assemble_19 : decode cX11_assemble 19 = .ok (.invokestatic 85, 3) := by decide +kernel
theorem dX11_assemble_22 : decode cX11_assemble 22 = .ok (.aload_n 0, 1) := by decide +kernel
theorem dX11_assemble_23 : decode cX11_assemble 23 = .ok (.getfield 44, 3) := by decide +kernel
theorem dX11_assemble_26 : decode cX11_assemble 26 = .ok (.invokevirtual 91, 3) := by decide +kernel
theorem dX11_assemble_29 : decode cX11_assemble 29 = .ok (.aload_n 0, 1) := by decide +kernel
theorem dX11_assemble_30 : decode cX11_assemble 30 = .ok (.getfield 48, 3) := by decide +kernel
theorem dX11_assemble_33 : decode cX11_assemble 33 = .ok (.iconst 0, 1) := by decide +kernel
theorem dX11_assemble_34 : decode cX11_assemble 34 = .ok (.iload_n 1, 1) := by decide +kernel
theorem dX11_assemble_35 : decode cX11_assemble 35 = .ok (.iconst 0, 1) := by decide +kernel
theorem dX11_assemble_36 : decode cX11_assemble 36 = .ok (.invokevirtual 94, 3) := by decide +kernel
theorem dX11_assemble_39 : decode cX11_assemble 39 = .ok (.aload_n 0, 1) := by decide +kernel
theorem dX11_assemble_4 : decode cX11_assemble 4 = .ok (.istore_n 1, 1) := by decide +kernel
theorem dX11_assemble_40 : decode cX11_assemble 40 = .ok (.getfield 48, 3) := by decide +kernel
theorem dX11_assemble_43 : decode cX11_assemble 43 = .ok (.invokevirtual 98, 3) := by decide +kernel
theorem dX11_assemble_46 : decode cX11_assemble 46 = .ok (.istore_n 2, 1) := by decide +kernel
theorem dX11_assemble_47 : decode cX11_assemble 47 = .ok (.aload_n 0, 1) := by decide +kernel
theorem dX11_assemble_48 : decode cX11_assemble 48 = .ok (.getfield 48, 3) := by decide +kernel
theorem dX11_assemble_5 : decode cX11_assemble 5 = .ok (.aload_n 0, 1) := by decide +kernel
theorem dX11_assemble_51 : decode cX11_assemble 51 = .ok (.iload_n 2, 1) := by decide +kernel
theorem dX11_assemble_52 : decode cX11_assemble 52 = .ok (.invokevirtual 101, 3) := by decide +kernel
theorem dX11_assemble_55 : decode cX11_assemble 55 = .ok (.iload_n 2, 1) := by decide +kernel
theorem dX11_assemble_56 : decode cX11_assemble 56 = .ok (.ifCond .eq 20, 3) := by decide +kernel
theorem dX11_assemble_59 : decode cX11_assemble 59 = .ok (.aload_n 0, 1) := by decide +kernel
theorem dX11_assemble_6 : decode cX11_assemble 6 = .ok (.getfield 32, 3) := by decide +kernel
theorem dX11_assemble_60 : decode cX11_assemble 60 = .ok (.getfield 44, 3) := by decide +kernel
theorem dX11_assemble_63 : decode cX11_assemble 63 = .ok (.invokevirtual 91, 3) := by decide +kernel
theorem dX11_assemble_66 : decode cX11_assemble 66 = .ok (.iconst (-1), 1) := by decide +kernel
theorem dX11_assemble_67 : decode cX11_assemble 67 = .ok (.aload_n 0, 1) := by decide +kernel
theorem dX11_assemble_68 : decode cX11_assemble 68 = .ok (.getfield 36, 3) := by decide +kernel
theorem dX11_assemble_71 : decode cX11_assemble 71 = .ok (.getfield 104, 3) := by decide +kernel
theorem dX11_assemble_74 : decode cX11_assemble 74 = .ok (.isub, 1) := by decide +kernel
theorem dX11_assemble_75 : decode cX11_assemble 75 = .ok (.ireturn, 1) := by decide +kernel
theorem dX11_assemble_76 : decode cX11_assemble 76 = .ok (.aload_n 0, 1) := by decide +kernel
theorem dX11_assemble_77 : decode cX11_assemble 77 = .ok (.getfield 44, 3) := by decide +kernel
theorem dX11_assemble_80 : decode cX11_assemble 80 = .ok (.aload_n 0, 1) := by decide +kernel
theorem dX11_assemble_81 : decode cX11_assemble 81 = .ok (.getfield 48, 3) := by decide +kernel
theorem dX11_assemble_84 : decode cX11_assemble 84 = .ok (.getfield 107, 3) := by decide +kernel
theorem dX11_assemble_87 : decode cX11_assemble 87 = .ok (.invokevirtual 110, 3) := by decide +kernel
theorem dX11_assemble_9 : decode cX11_assemble 9 = .ok (.iconst 0, 1) := by decide +kernel
theorem dX11_assemble_90 : decode cX11_assemble 90 = .ok (.aload_n 0, 1) := by decide +kernel
theorem dX11_assemble_91 : decode cX11_assemble 91 = .ok (.getfield 48, 3) := by decide +kernel
theorem dX11_assemble_94 : decode cX11_assemble 94 = .ok (.getfield 112, 3) := by decide +kernel
theorem dX11_assemble_97 : decode cX11_assemble 97 = .ok (.ireturn, 1) := by decide +kernel
set_option maxHeartbeats 4000000 in
set_option maxRecDepth 100000 in
theorem T_X11_assemble (l : Launch) (D : va_G) (K : Nat → ClassId) (Z Y : Nat → Nat) (ad : Nat → Nat) (d : dSt) (t : tSt) (hok : okX t)  : tMet l yX11_assemble cX11_assemble 3 (some .int) (rmD 9 0 0) D K Z Y [.ref (ad 0)] ((WX d) K ad t) (QI D K (fun (r : Int32) (u : tSt) => okX u ∧ frA [(0, 1), (2, 2), (2, 3), (2, 4), (2, 5), (2, 6), (2, 7), (3, 8), (4, 3), (4, 4), (4, 5), (4, 8), (4, 9), (4, 10), (5, 7), (5, 9), (5, 10), (5, 11), (5, 12), (5, 14), (5, 15), (5, 16), (5, 17), (5, 18), (5, 19), (23, 3), (23, 6), (23, 12), (24, 2), (24, 3), (24, 4), (24, 5), (24, 6), (24, 8)] [(4, 6), (4, 7), (5, 13), (24, 7), (24, 9)] [8, 9, 10, 15, 22, 26, 27, 28, 42, 43, 44, 45, 46, 47, 48, 49, 50] [13, 25, 41] t u ∧ (-2147483648 : Int) ≤ r.toInt ∧ r.toInt ≤ 2147483647 ∧ ((u.1 0 1).toInt = 0)) (fun (u : tSt) => (WX d) K ad u)) 0 0 := by
  refine t_met RX11 ⟨rfl, by decide +kernel⟩ (Nat.le_of_ble_eq_true rfl) ?_
  intro p e s m below meth c A ls C hE hZ hr hlocks hA hP hD hS hl
  have hl : lv_has ls 3 [(0, .ref (ad 0))] := hl
  have hokt := hok
  have hfr : frA [(0, 1), (2, 2), (2, 3), (2, 4), (2, 5), (2, 6), (2, 7), (3, 8), (4, 3), (4, 4), (4, 5), (4, 8), (4, 9), (4, 10), (5, 7), (5, 9), (5, 10), (5, 11), (5, 12), (5, 14), (5, 15), (5, 16), (5, 17), (5, 18), (5, 19), (23, 3), (23, 6), (23, 12), (24, 2), (24, 3), (24, 4), (24, 5), (24, 6), (24, 8)] [(4, 6), (4, 7), (5, 13), (24, 7), (24, 9)] [8, 9, 10, 15, 22, 26, 27, 28, 42, 43, 44, 45, 46, 47, 48, 49, 50] [13, 25, 41] t t := frA_rf
  have h_1 : (0 : Int) ≤ (t.1 0 1).toInt ∧ (t.1 0 1).toInt ≤ 1280 := hok.1 0 1
  refine lv_aload_n C.1 C.2.1 dX11_assemble_0 rfl (lv_at hl 0 rfl) ?_
  refine g_Vi (As := []) (rest := []) C hP hD hS hA (T_X11_useUpTape l D K Z Y ad d t hok ) hE hZ (uwV m_10_20 m_10_21 m_10_22 m_1_2 m_10_23) (hdV 0 (by decide +kernel) rfl) ⟨Nat.le_of_ble_eq_true rfl, Nat.le_of_ble_eq_true rfl⟩ rfl rfl (ci := 10) (q0 := 0) rfl rfl rfl hl.1 (Nat.le_of_ble_eq_true rfl) dX11_assemble_1 ⟨Nat.le_of_ble_eq_true rfl, Nat.le_of_ble_eq_true rfl⟩ (fun r_3 t_2 H locs hw hP hD hS => ?_)
  obtain ⟨hok, f_4, h_5, h_6, p_7, p_8⟩ := hw
  have hfr : frA [(0, 1), (2, 2), (2, 3), (2, 4), (2, 5), (2, 6), (2, 7), (3, 8), (4, 3), (4, 4), (4, 5), (4, 8), (4, 9), (4, 10), (5, 7), (5, 9), (5, 10), (5, 11), (5, 12), (5, 14), (5, 15), (5, 16), (5, 17), (5, 18), (5, 19), (23, 3), (23, 6), (23, 12), (24, 2), (24, 3), (24, 4), (24, 5), (24, 6), (24, 8)] [(4, 6), (4, 7), (5, 13), (24, 7), (24, 9)] [8, 9, 10, 15, 22, 26, 27, 28, 42, 43, 44, 45, 46, 47, 48, 49, 50] [13, 25, 41] t t_2 := frA_tr hfr f_4 rfl
  have h_9 : (0 : Int) ≤ (t_2.1 0 1).toInt ∧ (t_2.1 0 1).toInt ≤ 1280 := hok.1 0 1
  replace p_7 : r_3.toInt = (t.1 0 1).toInt := p_7
  replace p_8 : (t_2.1 0 1).toInt = 0 := p_8
  refine lv_istore_n (lv' := [(1, .int r_3), (0, .ref (ad 0))]) C.1 C.2.1 dX11_assemble_4 rfl hl (by decide) rfl (fun ls hl => ?_)
  have hl : lv_has ls 3 [(0, .ref (ad 0)), (1, .int r_3)] := lv_sub hl [1, 0] rfl
  refine lv_aload_n C.1 C.2.1 dX11_assemble_5 rfl (lv_at hl 0 rfl) ?_
  refine k_get (v := .ref (ad 1)) C hP 0 rfl rfl inlX11 0 (by decide) m_2_6 rfl dX11_assemble_6 ?_
  refine lv_iconst (v := 0) C.1 C.2.1 dX11_assemble_9 (by decide) ?_
  refine lv_aload_n C.1 C.2.1 dX11_assemble_10 rfl (lv_at hl 0 rfl) ?_
  refine k_get (v := .ref (ad 2)) C hP 0 rfl rfl inlX11 2 (by decide) m_2_7 rfl dX11_assemble_11 ?_
  refine k_get (v := .ref (ad 8)) C hP 2 rfl rfl inlX9 0 (by decide) m_10_12 rfl dX11_assemble_14 ?_
  refine lv_iconst (v := 0) C.1 C.2.1 dX11_assemble_17 (by decide) ?_
  refine lv_iload_n C.1 C.2.1 dX11_assemble_18 rfl (lv_at hl 1 rfl) ?_
  refine k_copy (ws' := (WX d) K ad (uF t_2 8 (va_cpy (t_2.2.2.1 1) (t_2.2.2.1 8) (0 : Int32).toNatClampNeg (0 : Int32).toNatClampNeg (r_3 : Int32).toNatClampNeg))) C hl.1 hP hD hS 1 8 2 rfl rfl rfl rfl (by decide) (by decide) (fun hz => by have hz2 : r_3.toInt < 0 := i_lt hz; omega) rfl rfl rfl (by have hq1 := clamp_eq (x := (0 : Int32)) (by first | decide | omega); have hq2 := clamp_eq (x := (r_3 : Int32)) (by first | decide | omega); first | (have hq3 : (0 : Int32).toInt = 0 := rfl; omega) | omega) (by have hq1 := clamp_eq (x := (0 : Int32)) (by first | decide | omega); have hq2 := clamp_eq (x := (r_3 : Int32)) (by first | decide | omega); first | (have hq3 : (0 : Int32).toInt = 0 := rfl; omega) | omega) (fun i hi => fit_b (hok.2.1 1 _)) m_10_13 m_10_14 m_10_15 m_10_16 (Nat.le_of_ble_eq_true rfl) (Nat.le_of_ble_eq_true rfl) rfl dX11_assemble_19 (fun H locs hP hD hS => ?_)
  have hok : okX (uF t_2 8 (va_cpy (t_2.2.2.1 1) (t_2.2.2.1 8) (0 : Int32).toNatClampNeg (0 : Int32).toNatClampNeg (r_3 : Int32).toNatClampNeg)) := ⟨hok.1, okB_F hok.2.1 8 (cpy_r (hok.2.1 1) (hok.2.1 8)), trivial⟩
  have hfr : frA [(0, 1), (2, 2), (2, 3), (2, 4), (2, 5), (2, 6), (2, 7), (3, 8), (4, 3), (4, 4), (4, 5), (4, 8), (4, 9), (4, 10), (5, 7), (5, 9), (5, 10), (5, 11), (5, 12), (5, 14), (5, 15), (5, 16), (5, 17), (5, 18), (5, 19), (23, 3), (23, 6), (23, 12), (24, 2), (24, 3), (24, 4), (24, 5), (24, 6), (24, 8)] [(4, 6), (4, 7), (5, 13), (24, 7), (24, 9)] [8, 9, 10, 15, 22, 26, 27, 28, 42, 43, 44, 45, 46, 47, 48, 49, 50] [13, 25, 41] t (uF t_2 8 (va_cpy (t_2.2.2.1 1) (t_2.2.2.1 8) (0 : Int32).toNatClampNeg (0 : Int32).toNatClampNeg (r_3 : Int32).toNatClampNeg)) := frA_F hfr 8 _ rfl
  refine lv_aload_n C.1 C.2.1 dX11_assemble_22 rfl (lv_at hl 0 rfl) ?_
  refine k_get (v := .ref (ad 4)) C hP 0 rfl rfl inlX11 4 (by decide) m_2_9 rfl dX11_assemble_23 ?_
  refine g_Vv (As := []) (rest := []) C hP hD hS hA (T_X2_clear l D K Z Y ad d (uF t_2 8 (va_cpy (t_2.2.2.1 1) (t_2.2.2.1 8) (0 : Int32).toNatClampNeg (0 : Int32).toNatClampNeg (r_3 : Int32).toNatClampNeg)) hok ) hE hZ (uwV m_11_0 m_11_1 m_11_2 m_1_23 m_11_3) (hdV 0 (by decide +kernel) rfl) ⟨Nat.le_of_ble_eq_true rfl, Nat.le_of_ble_eq_true rfl⟩ rfl rfl (ci := 1) (q0 := 4) rfl rfl rfl hl.1 (Nat.le_of_ble_eq_true rfl) dX11_assemble_26 ⟨Nat.le_of_ble_eq_true rfl, Nat.le_of_ble_eq_true rfl⟩ (fun t_10 H locs hw hP hD hS => ?_)
  obtain ⟨hok, f_12⟩ := hw
  have hfr : frA [(0, 1), (2, 2), (2, 3), (2, 4), (2, 5), (2, 6), (2, 7), (3, 8), (4, 3), (4, 4), (4, 5), (4, 8), (4, 9), (4, 10), (5, 7), (5, 9), (5, 10), (5, 11), (5, 12), (5, 14), (5, 15), (5, 16), (5, 17), (5, 18), (5, 19), (23, 3), (23, 6), (23, 12), (24, 2), (24, 3), (24, 4), (24, 5), (24, 6), (24, 8)] [(4, 6), (4, 7), (5, 13), (24, 7), (24, 9)] [8, 9, 10, 15, 22, 26, 27, 28, 42, 43, 44, 45, 46, 47, 48, 49, 50] [13, 25, 41] t t_10 := frA_tr hfr f_12 rfl
  have h_13 : (t_10.1 0 1).toInt = (t_2.1 0 1).toInt := ti_eq (f_12.1 0 1 rfl)
  have h_14 : (0 : Int) ≤ (t_10.1 0 1).toInt ∧ (t_10.1 0 1).toInt ≤ 1280 := hok.1 0 1
  refine lv_aload_n C.1 C.2.1 dX11_assemble_29 rfl (lv_at hl 0 rfl) ?_
  refine k_get (v := .ref (ad 5)) C hP 0 rfl rfl inlX11 5 (by decide) m_2_10 rfl dX11_assemble_30 ?_
  refine lv_iconst (v := 0) C.1 C.2.1 dX11_assemble_33 (by decide) ?_
  refine lv_iload_n C.1 C.2.1 dX11_assemble_34 rfl (lv_at hl 1 rfl) ?_
  refine lv_iconst (v := 0) C.1 C.2.1 dX11_assemble_35 (by decide) ?_
  refine g_Vv (As := [.int 0, .int r_3, .int 0]) (rest := []) C hP hD hS hA (T_X0_open l D K Z Y ad d t_10 hok 0 (show (0 : Int) ≤ (0 : Int32).toInt ∧ (0 : Int32).toInt ≤ 1281 from ⟨by decide, by decide⟩) (r_3) (show (0 : Int) ≤ (r_3 : Int32).toInt ∧ (r_3 : Int32).toInt ≤ 1280 from ⟨by omega, by omega⟩) 0 (show (0 : Int) ≤ (0 : Int32).toInt ∧ (0 : Int32).toInt ≤ 1 from ⟨by decide, by decide⟩)) hE hZ (uwV m_11_22 m_11_23 m_12_0 m_2_2 m_12_1) (hdV 3 (by decide +kernel) rfl) ⟨Nat.le_of_ble_eq_true rfl, Nat.le_of_ble_eq_true rfl⟩ rfl rfl (ci := 0) (q0 := 5) rfl rfl rfl hl.1 (Nat.le_of_ble_eq_true rfl) dX11_assemble_36 ⟨Nat.le_of_ble_eq_true rfl, Nat.le_of_ble_eq_true rfl⟩ (fun t_15 H locs hw hP hD hS => ?_)
  obtain ⟨hok, f_17⟩ := hw
  have hfr : frA [(0, 1), (2, 2), (2, 3), (2, 4), (2, 5), (2, 6), (2, 7), (3, 8), (4, 3), (4, 4), (4, 5), (4, 8), (4, 9), (4, 10), (5, 7), (5, 9), (5, 10), (5, 11), (5, 12), (5, 14), (5, 15), (5, 16), (5, 17), (5, 18), (5, 19), (23, 3), (23, 6), (23, 12), (24, 2), (24, 3), (24, 4), (24, 5), (24, 6), (24, 8)] [(4, 6), (4, 7), (5, 13), (24, 7), (24, 9)] [8, 9, 10, 15, 22, 26, 27, 28, 42, 43, 44, 45, 46, 47, 48, 49, 50] [13, 25, 41] t t_15 := frA_tr hfr f_17 rfl
  have h_18 : (t_15.1 0 1).toInt = (t_10.1 0 1).toInt := ti_eq (f_17.1 0 1 rfl)
  have h_19 : (0 : Int) ≤ (t_15.1 0 1).toInt ∧ (t_15.1 0 1).toInt ≤ 1280 := hok.1 0 1
  refine lv_aload_n C.1 C.2.1 dX11_assemble_39 rfl (lv_at hl 0 rfl) ?_
  refine k_get (v := .ref (ad 5)) C hP 0 rfl rfl inlX11 5 (by decide) m_2_10 rfl dX11_assemble_40 ?_
  refine g_Vi (As := []) (rest := []) C hP hD hS hA (T_X0_nextWrong l D K Z Y ad d t_15 hok ) hE hZ (uwV m_13_12 m_13_13 m_13_14 m_2_2 m_13_15) (hdV 0 (by decide +kernel) rfl) ⟨Nat.le_of_ble_eq_true rfl, Nat.le_of_ble_eq_true rfl⟩ rfl rfl (ci := 0) (q0 := 5) rfl rfl rfl hl.1 (Nat.le_of_ble_eq_true rfl) dX11_assemble_43 ⟨Nat.le_of_ble_eq_true rfl, Nat.le_of_ble_eq_true rfl⟩ (fun r_21 t_20 H locs hw hP hD hS => ?_)
  obtain ⟨hok, f_22, h_23, h_24⟩ := hw
  have hfr : frA [(0, 1), (2, 2), (2, 3), (2, 4), (2, 5), (2, 6), (2, 7), (3, 8), (4, 3), (4, 4), (4, 5), (4, 8), (4, 9), (4, 10), (5, 7), (5, 9), (5, 10), (5, 11), (5, 12), (5, 14), (5, 15), (5, 16), (5, 17), (5, 18), (5, 19), (23, 3), (23, 6), (23, 12), (24, 2), (24, 3), (24, 4), (24, 5), (24, 6), (24, 8)] [(4, 6), (4, 7), (5, 13), (24, 7), (24, 9)] [8, 9, 10, 15, 22, 26, 27, 28, 42, 43, 44, 45, 46, 47, 48, 49, 50] [13, 25, 41] t t_20 := frA_tr hfr f_22 rfl
  have h_25 : (t_20.1 0 1).toInt = (t_15.1 0 1).toInt := ti_eq (f_22.1 0 1 rfl)
  have h_26 : (0 : Int) ≤ (t_20.1 0 1).toInt ∧ (t_20.1 0 1).toInt ≤ 1280 := hok.1 0 1
  refine lv_istore_n (lv' := [(2, .int r_21), (0, .ref (ad 0)), (1, .int r_3)]) C.1 C.2.1 dX11_assemble_46 rfl hl (by decide) rfl (fun ls hl => ?_)
  have hl : lv_has ls 3 [(0, .ref (ad 0)), (1, .int r_3), (2, .int r_21)] := lv_sub hl [1, 2, 0] rfl
  refine lv_aload_n C.1 C.2.1 dX11_assemble_47 rfl (lv_at hl 0 rfl) ?_
  refine k_get (v := .ref (ad 5)) C hP 0 rfl rfl inlX11 5 (by decide) m_2_10 rfl dX11_assemble_48 ?_
  refine lv_iload_n C.1 C.2.1 dX11_assemble_51 rfl (lv_at hl 2 rfl) ?_
  refine g_Vv (As := [.int r_21]) (rest := []) C hP hD hS hA (T_X0_close l D K Z Y ad d t_20 hok (r_21) (show (0 : Int) ≤ (r_21 : Int32).toInt ∧ (r_21 : Int32).toInt ≤ 8 from ⟨by omega, by omega⟩)) hE hZ (uwV m_28_7 m_28_8 m_28_9 m_2_2 m_28_10) (hdV 1 (by decide +kernel) rfl) ⟨Nat.le_of_ble_eq_true rfl, Nat.le_of_ble_eq_true rfl⟩ rfl rfl (ci := 0) (q0 := 5) rfl rfl rfl hl.1 (Nat.le_of_ble_eq_true rfl) dX11_assemble_52 ⟨Nat.le_of_ble_eq_true rfl, Nat.le_of_ble_eq_true rfl⟩ (fun t_27 H locs hw hP hD hS => ?_)
  obtain ⟨hok, f_29⟩ := hw
  have hfr : frA [(0, 1), (2, 2), (2, 3), (2, 4), (2, 5), (2, 6), (2, 7), (3, 8), (4, 3), (4, 4), (4, 5), (4, 8), (4, 9), (4, 10), (5, 7), (5, 9), (5, 10), (5, 11), (5, 12), (5, 14), (5, 15), (5, 16), (5, 17), (5, 18), (5, 19), (23, 3), (23, 6), (23, 12), (24, 2), (24, 3), (24, 4), (24, 5), (24, 6), (24, 8)] [(4, 6), (4, 7), (5, 13), (24, 7), (24, 9)] [8, 9, 10, 15, 22, 26, 27, 28, 42, 43, 44, 45, 46, 47, 48, 49, 50] [13, 25, 41] t t_27 := frA_tr hfr f_29 rfl
  have h_30 : (t_27.1 0 1).toInt = (t_20.1 0 1).toInt := ti_eq (f_29.1 0 1 rfl)
  have h_31 : (0 : Int) ≤ (t_27.1 0 1).toInt ∧ (t_27.1 0 1).toInt ≤ 1280 := hok.1 0 1
  refine lv_iload_n C.1 C.2.1 dX11_assemble_55 rfl (lv_at hl 2 rfl) ?_
  refine lv_if_eq (tgt := 76) C.1 C.2.1 dX11_assemble_56 (by decide) (fun c_32 => ?_) (fun c_32 => ?_)
  · replace c_32 : r_21.toInt = 0 := i_eq c_32
    refine lv_aload_n C.1 C.2.1 dX11_assemble_76 rfl (lv_at hl 0 rfl) ?_
    refine k_get (v := .ref (ad 4)) C hP 0 rfl rfl inlX11 4 (by decide) m_2_9 rfl dX11_assemble_77 ?_
    refine lv_aload_n C.1 C.2.1 dX11_assemble_80 rfl (lv_at hl 0 rfl) ?_
    refine k_get (v := .ref (ad 5)) C hP 0 rfl rfl inlX11 5 (by decide) m_2_10 rfl dX11_assemble_81 ?_
    have h_33 : (-1073741824 : Int) ≤ (t_27.1 5 17).toInt ∧ (t_27.1 5 17).toInt ≤ 1073741823 := hok.1 5 17
    refine k_get (v := .int (t_27.1 5 17)) C hP 5 rfl rfl inlX0 17 (by decide) m_10_18 rfl dX11_assemble_84 ?_
    refine g_Vv (As := [.int (t_27.1 5 17)]) (rest := []) C hP hD hS hA (T_X2_start l D K Z Y ad d t_27 hok ((t_27.1 5 17)) (show (-1073741824 : Int) ≤ ((t_27.1 5 17) : Int32).toInt ∧ ((t_27.1 5 17) : Int32).toInt ≤ 2147483647 from ⟨by omega, (i_rng _).2⟩)) hE hZ (uwV m_28_12 m_28_13 m_28_14 m_1_23 m_28_15) (hdV 1 (by decide +kernel) rfl) ⟨Nat.le_of_ble_eq_true rfl, Nat.le_of_ble_eq_true rfl⟩ rfl rfl (ci := 1) (q0 := 4) rfl rfl rfl hl.1 (Nat.le_of_ble_eq_true rfl) dX11_assemble_87 ⟨Nat.le_of_ble_eq_true rfl, Nat.le_of_ble_eq_true rfl⟩ (fun t_34 H locs hw hP hD hS => ?_)
    obtain ⟨hok, f_36⟩ := hw
    have hfr : frA [(0, 1), (2, 2), (2, 3), (2, 4), (2, 5), (2, 6), (2, 7), (3, 8), (4, 3), (4, 4), (4, 5), (4, 8), (4, 9), (4, 10), (5, 7), (5, 9), (5, 10), (5, 11), (5, 12), (5, 14), (5, 15), (5, 16), (5, 17), (5, 18), (5, 19), (23, 3), (23, 6), (23, 12), (24, 2), (24, 3), (24, 4), (24, 5), (24, 6), (24, 8)] [(4, 6), (4, 7), (5, 13), (24, 7), (24, 9)] [8, 9, 10, 15, 22, 26, 27, 28, 42, 43, 44, 45, 46, 47, 48, 49, 50] [13, 25, 41] t t_34 := frA_tr hfr f_36 rfl
    have h_37 : (t_34.1 5 17).toInt = (t_27.1 5 17).toInt := ti_eq (f_36.1 5 17 rfl)
    have h_38 : (t_34.1 0 1).toInt = (t_27.1 0 1).toInt := ti_eq (f_36.1 0 1 rfl)
    have h_39 : (0 : Int) ≤ (t_34.1 0 1).toInt ∧ (t_34.1 0 1).toInt ≤ 1280 := hok.1 0 1
    refine lv_aload_n C.1 C.2.1 dX11_assemble_90 rfl (lv_at hl 0 rfl) ?_
    refine k_get (v := .ref (ad 5)) C hP 0 rfl rfl inlX11 5 (by decide) m_2_10 rfl dX11_assemble_91 ?_
    refine k_get (v := .int (t_34.1 5 16)) C hP 5 rfl rfl inlX0 16 (by decide) m_10_19 rfl dX11_assemble_94 ?_
    exact g_iret C hr hlocks hP hD hS rfl t_34 rfl ⟨hok, hfr, (i_rng _).1, (i_rng _).2, (show (t_34.1 0 1).toInt = 0 from by omega)⟩ (Nat.le_of_ble_eq_true rfl) (Nat.le_of_ble_eq_true rfl) dX11_assemble_97
  · replace c_32 : ¬ r_21.toInt = 0 := i_ne c_32
    refine lv_aload_n C.1 C.2.1 dX11_assemble_59 rfl (lv_at hl 0 rfl) ?_
    refine k_get (v := .ref (ad 4)) C hP 0 rfl rfl inlX11 4 (by decide) m_2_9 rfl dX11_assemble_60 ?_
    refine g_Vv (As := []) (rest := []) C hP hD hS hA (T_X2_clear l D K Z Y ad d t_27 hok ) hE hZ (uwV m_11_0 m_11_1 m_11_2 m_1_23 m_11_3) (hdV 0 (by decide +kernel) rfl) ⟨Nat.le_of_ble_eq_true rfl, Nat.le_of_ble_eq_true rfl⟩ rfl rfl (ci := 1) (q0 := 4) rfl rfl rfl hl.1 (Nat.le_of_ble_eq_true rfl) dX11_assemble_63 ⟨Nat.le_of_ble_eq_true rfl, Nat.le_of_ble_eq_true rfl⟩ (fun t_40 H locs hw hP hD hS => ?_)
    obtain ⟨hok, f_42⟩ := hw
    have hfr : frA [(0, 1), (2, 2), (2, 3), (2, 4), (2, 5), (2, 6), (2, 7), (3, 8), (4, 3), (4, 4), (4, 5), (4, 8), (4, 9), (4, 10), (5, 7), (5, 9), (5, 10), (5, 11), (5, 12), (5, 14), (5, 15), (5, 16), (5, 17), (5, 18), (5, 19), (23, 3), (23, 6), (23, 12), (24, 2), (24, 3), (24, 4), (24, 5), (24, 6), (24, 8)] [(4, 6), (4, 7), (5, 13), (24, 7), (24, 9)] [8, 9, 10, 15, 22, 26, 27, 28, 42, 43, 44, 45, 46, 47, 48, 49, 50] [13, 25, 41] t t_40 := frA_tr hfr f_42 rfl
    have h_43 : (t_40.1 0 1).toInt = (t_27.1 0 1).toInt := ti_eq (f_42.1 0 1 rfl)
    have h_44 : (0 : Int) ≤ (t_40.1 0 1).toInt ∧ (t_40.1 0 1).toInt ≤ 1280 := hok.1 0 1
    refine lv_iconst (v := (-1)) C.1 C.2.1 dX11_assemble_66 (by decide) ?_
    refine lv_aload_n C.1 C.2.1 dX11_assemble_67 rfl (lv_at hl 0 rfl) ?_
    refine k_get (v := .ref (ad 2)) C hP 0 rfl rfl inlX11 2 (by decide) m_2_7 rfl dX11_assemble_68 ?_
    refine k_get (v := .int (t_40.1 2 5)) C hP 2 rfl rfl inlX9 5 (by decide) m_10_17 rfl dX11_assemble_71 ?_
    obtain ⟨v_45, e_46⟩ : ∃ z, z = ((-1) : Int32) - ((t_40.1 2 5) : Int32) := ⟨_, rfl⟩
    refine k_isub (v := v_45) C e_46.symm dX11_assemble_74 ?_
    exact g_iret C hr hlocks hP hD hS rfl t_40 rfl ⟨hok, hfr, (i_rng _).1, (i_rng _).2, (show (t_40.1 0 1).toInt = 0 from by omega)⟩ (Nat.le_of_ble_eq_true rfl) (Nat.le_of_ble_eq_true rfl) dX11_assemble_75
