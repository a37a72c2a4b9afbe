theorem dX3_wordOn_0 : decode cX3_wordOn 0 = .ok (.aload_n 0, 1) := by decide +kernel
theorem dX3_wordOn_1 : decode cX3_wordOn 1 = .ok (.iload_n 1, 1) := by decide +kernel
theorem dX3_wordOn_10 : decode cX3_wordOn 10 = .ok (.lcmp, 1) := by decide +kernel
theorem dX3_wordOn_101 : decode cX3_wordOn 101 = .ok (.iconst (-1), 1) := by decide +kernel
theorem dX3_wordOn_102 : decode cX3_wordOn 102 = .ok (.ireturn, 1) := by decide +kernel
theorem dX3_wordOn_103 : decode cX3_wordOn 103 = .ok (.ldc2_w 157, 3) := by decide +kernel
theorem dX3_wordOn_106 : decode cX3_wordOn 106 = .ok (.lload_n 2, 1) := by decide +kernel
theorem dX3_wordOn_107 : decode cX3_wordOn 107 = .ok (.lmul, 1) := by decide +kernel
theorem dX3_wordOn_108 : decode cX3_wordOn 108 = .ok (.iload 6, 2) := by decide +kernel
theorem dX3_wordOn_11 : decode cX3_wordOn 11 = .ok (.ifCond .lt 12, 3) := by decide +kernel
theorem dX3_wordOn_110 : decode cX3_wordOn 110 = .ok (.i2l, 1) := by decide +kernel
theorem dX3_wordOn_111 : decode cX3_wordOn 111 = .ok (.ladd, 1) := by decide +kernel
theorem dX3_wordOn_112 : decode cX3_wordOn 112 = .ok (.lstore 7, 2) := by decide +kernel
theorem dX3_wordOn_114 : decode cX3_wordOn 114 = .ok (.lload 7, 2) := by decide +kernel
theorem dX3_wordOn_116 : decode cX3_wordOn 116 = .ok (.ldc2_w 159, 3) := by decide +kernel
theorem dX3_wordOn_119 : decode cX3_wordOn 119 = .ok (.lcmp, 1) := by decide +kernel
theorem dX3_wordOn_120 : decode cX3_wordOn 120 = .ok (.ifCond .gt 12, 3) := by decide +kernel
theorem dX3_wordOn_123 : decode cX3_wordOn 123 = .ok (.iload 5, 2) := by decide +kernel
theorem dX3_wordOn_125 : decode cX3_wordOn 125 = .ok (.lload 7, 2) := by decide +kernel
theorem dX3_wordOn_127 : decode cX3_wordOn 127 = .ok (.l2i, 1) := by decide +kernel
theorem dX3_wordOn_128 : decode cX3_wordOn 128 = .ok (.ior, 1) := by decide +kernel
theorem dX3_wordOn_129 : decode cX3_wordOn 129 = .ok (.goto 4, 3) := by decide +kernel
theorem dX3_wordOn_132 : decode cX3_wordOn 132 = .ok (.iconst (-1), 1) := by decide +kernel
theorem dX3_wordOn_133 : decode cX3_wordOn 133 = .ok (.ireturn, 1) := by decide +kernel
theorem dX3_wordOn_14 : decode cX3_wordOn 14 = .ok (.iload_n 1, 1) := by decide +kernel
theorem dX3_wordOn_15 : decode cX3_wordOn 15 = .ok (.bipush 9, 2) := by decide +kernel
theorem dX3_wordOn_17 : decode cX3_wordOn 17 = .ok (.iadd, 1) := by decide +kernel
theorem dX3_wordOn_18 : decode cX3_wordOn 18 = .ok (.bipush 80, 2) := by decide +kernel
theorem dX3_wordOn_2 : decode cX3_wordOn 2 = .ok (.bipush 9, 2) := by decide +kernel
theorem dX3_wordOn_20 : decode cX3_wordOn 20 = .ok (.if_icmp .lt 5, 3) := by decide +kernel
theorem dX3_wordOn_23 : decode cX3_wordOn 23 = .ok (.iconst (-1), 1) := by decide +kernel
theorem dX3_wordOn_24 : decode cX3_wordOn 24 = .ok (.ireturn, 1) := by decide +kernel
theorem dX3_wordOn_25 : decode cX3_wordOn 25 = .ok (.aload_n 0, 1) := by decide +kernel
theorem dX3_wordOn_26 : decode cX3_wordOn 26 = .ok (.getfield 100, 3) := by decide +kernel
theorem dX3_wordOn_29 : decode cX3_wordOn 29 = .ok (.iload_n 1, 1) := by decide +kernel
theorem dX3_wordOn_30 : decode cX3_wordOn 30 = .ok (.bipush 9, 2) := by decide +kernel
theorem dX3_wordOn_32 : decode cX3_wordOn 32 = .ok (.iadd, 1) := by decide +kernel
theorem dX3_wordOn_33 : decode cX3_wordOn 33 = .ok (.baload, 1) := by decide +kernel
theorem dX3_wordOn_34 : decode cX3_wordOn 34 = .ok (.istore 4, 2) := by decide +kernel
theorem dX3_wordOn_36 : decode cX3_wordOn 36 = .ok (.ldc 156, 2) := by decide +kernel
theorem dX3_wordOn_38 : decode cX3_wordOn 38 = .ok (.istore 5, 2) := by decide +kernel
theorem dX3_wordOn_4 : decode cX3_wordOn 4 = .ok (.invokevirtual 115, 3) := by decide +kernel
theorem dX3_wordOn_40 : decode cX3_wordOn 40 = .ok (.iload 4, 2) := by decide +kernel
theorem dX3_wordOn_42 : decode cX3_wordOn 42 = .ok (.bipush 73, 2) := by decide +kernel
theorem dX3_wordOn_44 : decode cX3_wordOn 44 = .ok (.isub, 1) := by decide +kernel
theorem dX3_wordOn_45 : decode cX3_wordOn 45 = .ok (.istore 6, 2) := by decide +kernel
theorem dX3_wordOn_47 : decode cX3_wordOn 47 = .ok (.iload 4, 2) := by decide +kernel
theorem dX3_wordOn_49 : decode cX3_wordOn 49 = .ok (.bipush 48, 2) := by decide +kernel
theorem dX3_wordOn_51 : decode cX3_wordOn 51 = .ok (.if_icmp .lt 23, 3) := by decide +kernel
theorem dX3_wordOn_54 : decode cX3_wordOn 54 = .ok (.iload 4, 2) := by decide +kernel
theorem dX3_wordOn_56 : decode cX3_wordOn 56 = .ok (.bipush 57, 2) := by decide +kernel
theorem dX3_wordOn_58 : decode cX3_wordOn 58 = .ok (.if_icmp .gt 16, 3) := by decide +kernel
theorem dX3_wordOn_61 : decode cX3_wordOn 61 = .ok (.iconst 0, 1) := by decide +kernel
theorem dX3_wordOn_62 : decode cX3_wordOn 62 = .ok (.istore 5, 2) := by decide +kernel
theorem dX3_wordOn_64 : decode cX3_wordOn 64 = .ok (.iload 4, 2) := by decide +kernel
theorem dX3_wordOn_66 : decode cX3_wordOn 66 = .ok (.bipush 48, 2) := by decide +kernel
theorem dX3_wordOn_68 : decode cX3_wordOn 68 = .ok (.isub, 1) := by decide +kernel
theorem dX3_wordOn_69 : decode cX3_wordOn 69 = .ok (.istore 6, 2) := by decide +kernel
theorem dX3_wordOn_7 : decode cX3_wordOn 7 = .ok (.lstore_n 2, 1) := by decide +kernel
theorem dX3_wordOn_71 : decode cX3_wordOn 71 = .ok (.goto 32, 3) := by decide +kernel
theorem dX3_wordOn_74 : decode cX3_wordOn 74 = .ok (.iload 4, 2) := by decide +kernel
theorem dX3_wordOn_76 : decode cX3_wordOn 76 = .ok (.bipush 126, 2) := by decide +kernel
theorem dX3_wordOn_78 : decode cX3_wordOn 78 = .ok (.if_icmp .ne 9, 3) := by decide +kernel
theorem dX3_wordOn_8 : decode cX3_wordOn 8 = .ok (.lload_n 2, 1) := by decide +kernel
theorem dX3_wordOn_81 : decode cX3_wordOn 81 = .ok (.iconst 0, 1) := by decide +kernel
theorem dX3_wordOn_82 : decode cX3_wordOn 82 = .ok (.istore 6, 2) := by decide +kernel
theorem dX3_wordOn_84 : decode cX3_wordOn 84 = .ok (.goto 19, 3) := by decide +kernel
theorem dX3_wordOn_87 : decode cX3_wordOn 87 = .ok (.iload 4, 2) := by decide +kernel
theorem dX3_wordOn_89 : decode cX3_wordOn 89 = .ok (.bipush 74, 2) := by decide +kernel
theorem dX3_wordOn_9 : decode cX3_wordOn 9 = .ok (.lconst 0, 1) := by decide +kernel
theorem dX3_wordOn_91 : decode cX3_wordOn 91 = .ok (.if_icmp .lt 10, 3) := by decide +kernel
theorem dX3_wordOn_94 : decode cX3_wordOn 94 = .ok (.iload 4, 2) := by decide +kernel
theorem dX3_wordOn_96 : decode cX3_wordOn 96 = .ok (.bipush 82, 2) := by decide +kernel
theorem dX3_wordOn_98 : decode cX3_wordOn 98 = .ok (.if_icmp .le 5, 3) := by decide +kernel
set_option maxHeartbeats 4000000 in
set_option maxRecDepth 100000 in
theorem T_X3_wordOn (l : Launch) (D : va_G) (K : Nat → ClassId) (Z Y : Nat → Nat) (ad : Nat → Nat) (d : dSt) (t : tSt) (hok : okX t) (x1 : Int32) (hx1 : (10 : Int) ≤ x1.toInt ∧ x1.toInt ≤ 72) : tMet l yX3_wordOn cX3_wordOn 9 (some .int) (rmD 2 0 0) D K Z Y [.ref (ad 2), .int x1] ((WX d) K ad t) (QI D K (fun (r : Int32) (u : Unit) => (-2147483648 : Int) ≤ r.toInt ∧ r.toInt ≤ 2147483647) (fun (_ : Unit) => (WX d) K ad t)) 0 0 := by
  refine t_met RX3 ⟨rfl, by decide +kernel⟩ (Nat.le_of_ble_eq_true rfl) ?_
  intro p e s m below meth c A ls C hE hZ hr hlocks hA hP hD hS hl
  have hl : lv_has ls 9 [(0, .ref (ad 2)), (1, .int x1)] := hl
  have L_103 : ∀ (w103_2 : Int64) (w103_4 : Int32) (w103_5 : Int32) (w103_6 : Int32) (H : Heap) (locs : List Loc) (ls : Array Slot), (10 : Int) ≤ x1.toInt ∧ x1.toInt ≤ 70 → (48 : Int) ≤ w103_4.toInt ∧ w103_4.toInt ≤ 126 → (0 : Int) ≤ w103_5.toInt ∧ w103_5.toInt ≤ 1073741824 → (-201 : Int) ≤ w103_6.toInt ∧ w103_6.toInt ≤ 54 → va_P D vwCl ((WX d) K ad t) H → va_D A ((WX d) K ad t) → va_S A s.heap H locs → lv_has ls 9 [(0, .ref (ad 2)), (1, .int x1), (2, .long w103_2), (4, .int w103_4), (5, .int w103_5), (6, .int w103_6)] → W p l e (rmD 2 0 0) s m [.ref (ad 2), .int x1].toArray below meth c H locs 0 0 (MQ below (QI D K (fun (r : Int32) (u : Unit) => (-2147483648 : Int) ≤ r.toInt ∧ r.toInt ≤ 2147483647) (fun (_ : Unit) => (WX d) K ad t) A) [.ref (ad 2), .int x1].toArray s 0 0 A) (F0 m 103 ls []) := by
    intro w103_2 w103_4 w103_5 w103_6 H locs ls hx103_1 hw103_4 hw103_5 hw103_6 hP hD hS hl
    refine lv_ldc2 (v := 10) C.1 C.2.1 C.2.2.2.1 (C.2.2.2.2.1 _ m_75_21) dX3_wordOn_103 ?_
    refine lv_lload_n C.1 C.2.1 dX3_wordOn_106 rfl (lv_at hl 2 rfl) ?_
    obtain ⟨v_1, e_2⟩ : ∃ z, z = (10 : Int64) * (w103_2 : Int64) := ⟨_, rfl⟩
    refine k_lmul (v := v_1) C e_2.symm dX3_wordOn_107 ?_
    refine lv_iload C.1 C.2.1 dX3_wordOn_108 (lv_at hl 5 rfl) ?_
    obtain ⟨v_3, e_4⟩ : ∃ z, z = (w103_6 : Int32).toInt64 := ⟨_, rfl⟩
    have h_5 : v_3.toInt = w103_6.toInt := by rw [e_4]; exact Jvm.Kit.i64_of_i32 _
    refine lv_i2l (v := v_3) C.1 C.2.1 dX3_wordOn_110 e_4.symm ?_
    obtain ⟨v_6, e_7⟩ : ∃ z, z = (v_1 : Int64) + (v_3 : Int64) := ⟨_, rfl⟩
    refine k_ladd (v := v_6) C e_7.symm dX3_wordOn_111 ?_
    refine lv_lstore (lv' := [(7, .long v_6), (0, .ref (ad 2)), (1, .int x1), (2, .long w103_2), (4, .int w103_4), (5, .int w103_5), (6, .int w103_6)]) C.1 C.2.1 dX3_wordOn_112 hl (by decide) rfl (fun ls hl => ?_)
    have hl : lv_has ls 9 [(0, .ref (ad 2)), (1, .int x1), (2, .long w103_2), (4, .int w103_4), (5, .int w103_5), (6, .int w103_6), (7, .long v_6)] := lv_sub hl [1, 2, 3, 4, 5, 6, 0] rfl
    refine lv_lload C.1 C.2.1 dX3_wordOn_114 (lv_at hl 6 rfl) ?_
    refine lv_ldc2 (v := 1073741823) C.1 C.2.1 C.2.2.2.1 (C.2.2.2.2.1 _ m_75_22) dX3_wordOn_116 ?_
    obtain ⟨v_8, e_9⟩ : ∃ z, z = lg_cmp (v_6 : Int64) 1073741823 := ⟨_, rfl⟩
    have h_10 : (-1 : Int) ≤ v_8.toInt ∧ v_8.toInt ≤ 1 := by rw [e_9]; exact cmp_rng _ _
    refine k_lcmp (v := v_8) C e_9.symm dX3_wordOn_119 ?_
    refine lv_if_gt (tgt := 132) C.1 C.2.1 dX3_wordOn_120 (by decide) (fun c_11 => ?_) (fun c_11 => ?_)
    · replace c_11 : 0 < v_8.toInt := i_lt c_11
      refine lv_iconst (v := (-1)) C.1 C.2.1 dX3_wordOn_132 (by decide) ?_
      exact g_iret C hr hlocks hP hD hS rfl () rfl ⟨(i_rng _).1, (i_rng _).2⟩ (Nat.le_of_ble_eq_true rfl) (Nat.le_of_ble_eq_true rfl) dX3_wordOn_133
    · replace c_11 : v_8.toInt ≤ 0 := i_nlt c_11
      refine lv_iload C.1 C.2.1 dX3_wordOn_123 (lv_at hl 4 rfl) ?_
      refine lv_lload C.1 C.2.1 dX3_wordOn_125 (lv_at hl 6 rfl) ?_
      obtain ⟨v_12, e_13⟩ : ∃ z, z = (v_6).toInt32 := ⟨_, rfl⟩
      refine lv_l2i (v := v_12) C.1 C.2.1 dX3_wordOn_127 e_13.symm ?_
      obtain ⟨v_14, e_15⟩ : ∃ z, z = (w103_5 : Int32) ||| (v_12 : Int32) := ⟨_, rfl⟩
      refine k_ior (v := v_14) C e_15.symm dX3_wordOn_128 ?_
      refine lv_goto (tgt := 133) C.1 C.2.1 dX3_wordOn_129 (by decide) ?_
      exact g_iret C hr hlocks hP hD hS rfl () rfl ⟨(i_rng _).1, (i_rng _).2⟩ (Nat.le_of_ble_eq_true rfl) (Nat.le_of_ble_eq_true rfl) dX3_wordOn_133
  have L_74 : ∀ (w74_2 : Int64) (w74_4 : Int32) (w74_5 : Int32) (w74_6 : Int32) (H : Heap) (locs : List Loc) (ls : Array Slot), (10 : Int) ≤ x1.toInt ∧ x1.toInt ≤ 70 → (-128 : Int) ≤ w74_4.toInt ∧ w74_4.toInt ≤ 127 → (1073741824 : Int) ≤ w74_5.toInt ∧ w74_5.toInt ≤ 1073741824 → (-201 : Int) ≤ w74_6.toInt ∧ w74_6.toInt ≤ 54 → va_P D vwCl ((WX d) K ad t) H → va_D A ((WX d) K ad t) → va_S A s.heap H locs → lv_has ls 9 [(0, .ref (ad 2)), (1, .int x1), (2, .long w74_2), (4, .int w74_4), (5, .int w74_5), (6, .int w74_6)] → W p l e (rmD 2 0 0) s m [.ref (ad 2), .int x1].toArray below meth c H locs 0 0 (MQ below (QI D K (fun (r : Int32) (u : Unit) => (-2147483648 : Int) ≤ r.toInt ∧ r.toInt ≤ 2147483647) (fun (_ : Unit) => (WX d) K ad t) A) [.ref (ad 2), .int x1].toArray s 0 0 A) (F0 m 74 ls []) := by
    intro w74_2 w74_4 w74_5 w74_6 H locs ls hx74_1 hw74_4 hw74_5 hw74_6 hP hD hS hl
    refine lv_iload C.1 C.2.1 dX3_wordOn_74 (lv_at hl 3 rfl) ?_
    refine lv_bipush (v := 126) C.1 C.2.1 dX3_wordOn_76 (by decide) ?_
    refine lv_icmp_ne (tgt := 87) C.1 C.2.1 dX3_wordOn_78 (by decide) (fun c_17 => ?_) (fun c_17 => ?_)
    · replace c_17 : ¬ w74_4.toInt = 126 := i_ne c_17
      refine lv_iload C.1 C.2.1 dX3_wordOn_87 (lv_at hl 3 rfl) ?_
      refine lv_bipush (v := 74) C.1 C.2.1 dX3_wordOn_89 (by decide) ?_
      refine lv_icmp_lt (tgt := 101) C.1 C.2.1 dX3_wordOn_91 (by decide) (fun c_18 => ?_) (fun c_18 => ?_)
      · replace c_18 : w74_4.toInt < 74 := i_lt c_18
        refine lv_iconst (v := (-1)) C.1 C.2.1 dX3_wordOn_101 (by decide) ?_
        exact g_iret C hr hlocks hP hD hS rfl () rfl ⟨(i_rng _).1, (i_rng _).2⟩ (Nat.le_of_ble_eq_true rfl) (Nat.le_of_ble_eq_true rfl) dX3_wordOn_102
      · replace c_18 : 74 ≤ w74_4.toInt := i_nlt c_18
        refine lv_iload C.1 C.2.1 dX3_wordOn_94 (lv_at hl 3 rfl) ?_
        refine lv_bipush (v := 82) C.1 C.2.1 dX3_wordOn_96 (by decide) ?_
        refine lv_icmp_le (tgt := 103) C.1 C.2.1 dX3_wordOn_98 (by decide) (fun c_19 => ?_) (fun c_19 => ?_)
        · replace c_19 : w74_4.toInt ≤ 82 := i_le c_19
          exact L_103 w74_2 w74_4 w74_5 w74_6 _ _ _ ⟨by omega, by omega⟩ ⟨by omega, by omega⟩ ⟨by omega, by omega⟩ ⟨by omega, by omega⟩ hP hD hS (lv_sub hl [0, 1, 2, 3, 4, 5] rfl)
        · replace c_19 : 82 < w74_4.toInt := i_nle c_19
          refine lv_iconst (v := (-1)) C.1 C.2.1 dX3_wordOn_101 (by decide) ?_
          exact g_iret C hr hlocks hP hD hS rfl () rfl ⟨(i_rng _).1, (i_rng _).2⟩ (Nat.le_of_ble_eq_true rfl) (Nat.le_of_ble_eq_true rfl) dX3_wordOn_102
    · replace c_17 : w74_4.toInt = 126 := i_eq c_17
      refine lv_iconst (v := 0) C.1 C.2.1 dX3_wordOn_81 (by decide) ?_
      refine lv_istore (lv' := [(6, .int 0), (0, .ref (ad 2)), (1, .int x1), (2, .long w74_2), (4, .int w74_4), (5, .int w74_5)]) C.1 C.2.1 dX3_wordOn_82 hl (by decide) rfl (fun ls hl => ?_)
      have hl : lv_has ls 9 [(0, .ref (ad 2)), (1, .int x1), (2, .long w74_2), (4, .int w74_4), (5, .int w74_5), (6, .int 0)] := lv_sub hl [1, 2, 3, 4, 5, 0] rfl
      refine lv_goto (tgt := 103) C.1 C.2.1 dX3_wordOn_84 (by decide) ?_
      exact L_103 w74_2 w74_4 w74_5 0 _ _ _ ⟨by omega, by omega⟩ ⟨by omega, by omega⟩ ⟨by omega, by omega⟩ ⟨by decide, by decide⟩ hP hD hS (lv_sub hl [0, 1, 2, 3, 4, 5] rfl)
  refine lv_aload_n C.1 C.2.1 dX3_wordOn_0 rfl (lv_at hl 0 rfl) ?_
  refine lv_iload_n C.1 C.2.1 dX3_wordOn_1 rfl (lv_at hl 1 rfl) ?_
  refine lv_bipush (v := 9) C.1 C.2.1 dX3_wordOn_2 (by decide) ?_
  have h_20 : (9 : Int32).toInt = 9 := rfl
  refine g_Vl (As := [.int x1, .int 9]) (rest := []) C hP hD hS hA (T_X9_digits_1 l D K Z Y ad d t hok (x1) (show (5 : Int) ≤ (x1 : Int32).toInt ∧ (x1 : Int32).toInt ≤ 72 from ⟨by omega, by omega⟩) 9 (show (1 : Int) ≤ (9 : Int32).toInt ∧ (9 : Int32).toInt ≤ 9 from ⟨by decide, by decide⟩) (show 0 ≤ (9 : Int32).toInt from by omega)) hE hZ (uwV m_73_3 m_73_4 m_73_5 m_1_17 m_73_6) (hdV 2 (by decide +kernel) rfl) ⟨Nat.le_of_ble_eq_true rfl, Nat.le_of_ble_eq_true rfl⟩ rfl rfl (ci := 8) (q0 := 2) rfl rfl rfl hl.1 (Nat.le_of_ble_eq_true rfl) dX3_wordOn_4 ⟨Nat.le_of_ble_eq_true rfl, Nat.le_of_ble_eq_true rfl⟩ (fun r_22 t_21 H locs hw hP hD hS => ?_)
  have p_24 := hw
  replace p_24 : (9 : Int32).toInt ≤ 4 → -1 ≤ r_22.toInt ∧ r_22.toInt ≤ 9999 := p_24
  refine lv_lstore_n (lv' := [(2, .long r_22), (0, .ref (ad 2)), (1, .int x1)]) C.1 C.2.1 dX3_wordOn_7 rfl hl (by decide) rfl (fun ls hl => ?_)
  have hl : lv_has ls 9 [(0, .ref (ad 2)), (1, .int x1), (2, .long r_22)] := lv_sub hl [1, 2, 0] rfl
  refine lv_lload_n C.1 C.2.1 dX3_wordOn_8 rfl (lv_at hl 2 rfl) ?_
  refine lv_lconst (v := 0) C.1 C.2.1 dX3_wordOn_9 (by decide) ?_
  obtain ⟨v_25, e_26⟩ : ∃ z, z = lg_cmp (r_22 : Int64) 0 := ⟨_, rfl⟩
  have h_27 : (-1 : Int) ≤ v_25.toInt ∧ v_25.toInt ≤ 1 := by rw [e_26]; exact cmp_rng _ _
  refine k_lcmp (v := v_25) C e_26.symm dX3_wordOn_10 ?_
  refine lv_if_lt (tgt := 23) C.1 C.2.1 dX3_wordOn_11 (by decide) (fun c_28 => ?_) (fun c_28 => ?_)
  · replace c_28 : v_25.toInt < 0 := i_lt c_28
    refine lv_iconst (v := (-1)) C.1 C.2.1 dX3_wordOn_23 (by decide) ?_
    exact g_iret C hr hlocks hP hD hS rfl () rfl ⟨(i_rng _).1, (i_rng _).2⟩ (Nat.le_of_ble_eq_true rfl) (Nat.le_of_ble_eq_true rfl) dX3_wordOn_24
  · replace c_28 : 0 ≤ v_25.toInt := i_nlt c_28
    refine lv_iload_n C.1 C.2.1 dX3_wordOn_14 rfl (lv_at hl 1 rfl) ?_
    refine lv_bipush (v := 9) C.1 C.2.1 dX3_wordOn_15 (by decide) ?_
    obtain ⟨v_29, e_30⟩ : ∃ z, z = (x1 : Int32) + (9 : Int32) := ⟨_, rfl⟩
    have h_31 : v_29.toInt = x1.toInt + 9 := by rw [e_30]; exact ti_iadd (by show (_ : Int) ≤ x1.toInt + 9; omega) (by show x1.toInt + 9 < (_ : Int); omega)
    refine k_iadd (v := v_29) C e_30.symm dX3_wordOn_17 ?_
    refine lv_bipush (v := 80) C.1 C.2.1 dX3_wordOn_18 (by decide) ?_
    refine lv_icmp_lt (tgt := 25) C.1 C.2.1 dX3_wordOn_20 (by decide) (fun c_32 => ?_) (fun c_32 => ?_)
    · replace c_32 : v_29.toInt < 80 := i_lt c_32
      refine lv_aload_n C.1 C.2.1 dX3_wordOn_25 rfl (lv_at hl 0 rfl) ?_
      refine k_get (v := .ref (ad 9)) C hP 2 rfl rfl inlX9 1 (by decide) m_71_23 rfl dX3_wordOn_26 ?_
      refine lv_iload_n C.1 C.2.1 dX3_wordOn_29 rfl (lv_at hl 1 rfl) ?_
      refine lv_bipush (v := 9) C.1 C.2.1 dX3_wordOn_30 (by decide) ?_
      obtain ⟨v_33, e_34⟩ : ∃ z, z = (x1 : Int32) + (9 : Int32) := ⟨_, rfl⟩
      have h_35 : v_33.toInt = x1.toInt + 9 := by rw [e_34]; exact ti_iadd (by show (_ : Int) ≤ x1.toInt + 9; omega) (by show x1.toInt + 9 < (_ : Int); omega)
      refine k_iadd (v := v_33) C e_34.symm dX3_wordOn_32 ?_
      obtain ⟨v_36, e_37⟩ : ∃ z, z = (t.2.2.1 9 (v_33 : Int32).toNatClampNeg) := ⟨_, rfl⟩
      have h_38 : (-128 : Int) ≤ v_36.toInt ∧ v_36.toInt ≤ 127 := by rw [e_37]; exact hok.2.1 9 _
      refine k_bld (v := v_36) C hP 9 rfl (vp_in_iff.mpr ⟨by omega, by omega⟩) e_37.symm dX3_wordOn_33 ?_
      refine lv_istore (lv' := [(4, .int v_36), (0, .ref (ad 2)), (1, .int x1), (2, .long r_22)]) C.1 C.2.1 dX3_wordOn_34 hl (by decide) rfl (fun ls hl => ?_)
      have hl : lv_has ls 9 [(0, .ref (ad 2)), (1, .int x1), (2, .long r_22), (4, .int v_36)] := lv_sub hl [1, 2, 3, 0] rfl
      refine lv_ldc (v := 1073741824) C.1 C.2.1 C.2.2.2.1 (C.2.2.2.2.1 _ m_75_20) dX3_wordOn_36 ?_
      refine lv_istore (lv' := [(5, .int 1073741824), (0, .ref (ad 2)), (1, .int x1), (2, .long r_22), (4, .int v_36)]) C.1 C.2.1 dX3_wordOn_38 hl (by decide) rfl (fun ls hl => ?_)
      have hl : lv_has ls 9 [(0, .ref (ad 2)), (1, .int x1), (2, .long r_22), (4, .int v_36), (5, .int 1073741824)] := lv_sub hl [1, 2, 3, 4, 0] rfl
      refine lv_iload C.1 C.2.1 dX3_wordOn_40 (lv_at hl 3 rfl) ?_
      refine lv_bipush (v := 73) C.1 C.2.1 dX3_wordOn_42 (by decide) ?_
      obtain ⟨v_39, e_40⟩ : ∃ z, z = (v_36 : Int32) - (73 : Int32) := ⟨_, rfl⟩
      have h_41 : v_39.toInt = v_36.toInt - 73 := by rw [e_40]; exact ti_isub (by show (_ : Int) ≤ v_36.toInt - 73; omega) (by show v_36.toInt - 73 < (_ : Int); omega)
      refine k_isub (v := v_39) C e_40.symm dX3_wordOn_44 ?_
      refine lv_istore (lv' := [(6, .int v_39), (0, .ref (ad 2)), (1, .int x1), (2, .long r_22), (4, .int v_36), (5, .int 1073741824)]) C.1 C.2.1 dX3_wordOn_45 hl (by decide) rfl (fun ls hl => ?_)
      have hl : lv_has ls 9 [(0, .ref (ad 2)), (1, .int x1), (2, .long r_22), (4, .int v_36), (5, .int 1073741824), (6, .int v_39)] := lv_sub hl [1, 2, 3, 4, 5, 0] rfl
      refine lv_iload C.1 C.2.1 dX3_wordOn_47 (lv_at hl 3 rfl) ?_
      refine lv_bipush (v := 48) C.1 C.2.1 dX3_wordOn_49 (by decide) ?_
      refine lv_icmp_lt (tgt := 74) C.1 C.2.1 dX3_wordOn_51 (by decide) (fun c_42 => ?_) (fun c_42 => ?_)
      · replace c_42 : v_36.toInt < 48 := i_lt c_42
        exact L_74 r_22 v_36 1073741824 v_39 _ _ _ ⟨by omega, by omega⟩ ⟨by omega, by omega⟩ ⟨by decide, by decide⟩ ⟨by omega, by omega⟩ hP hD hS (lv_sub hl [0, 1, 2, 3, 4, 5] rfl)
      · replace c_42 : 48 ≤ v_36.toInt := i_nlt c_42
        refine lv_iload C.1 C.2.1 dX3_wordOn_54 (lv_at hl 3 rfl) ?_
        refine lv_bipush (v := 57) C.1 C.2.1 dX3_wordOn_56 (by decide) ?_
        refine lv_icmp_gt (tgt := 74) C.1 C.2.1 dX3_wordOn_58 (by decide) (fun c_43 => ?_) (fun c_43 => ?_)
        · replace c_43 : 57 < v_36.toInt := i_lt c_43
          exact L_74 r_22 v_36 1073741824 v_39 _ _ _ ⟨by omega, by omega⟩ ⟨by omega, by omega⟩ ⟨by decide, by decide⟩ ⟨by omega, by omega⟩ hP hD hS (lv_sub hl [0, 1, 2, 3, 4, 5] rfl)
        · replace c_43 : v_36.toInt ≤ 57 := i_nlt c_43
          refine lv_iconst (v := 0) C.1 C.2.1 dX3_wordOn_61 (by decide) ?_
          refine lv_istore (lv' := [(5, .int 0), (0, .ref (ad 2)), (1, .int x1), (2, .long r_22), (4, .int v_36), (6, .int v_39)]) C.1 C.2.1 dX3_wordOn_62 hl (by decide) rfl (fun ls hl => ?_)
          have hl : lv_has ls 9 [(0, .ref (ad 2)), (1, .int x1), (2, .long r_22), (4, .int v_36), (5, .int 0), (6, .int v_39)] := lv_sub hl [1, 2, 3, 4, 0, 5] rfl
          refine lv_iload C.1 C.2.1 dX3_wordOn_64 (lv_at hl 3 rfl) ?_
          refine lv_bipush (v := 48) C.1 C.2.1 dX3_wordOn_66 (by decide) ?_
          obtain ⟨v_44, e_45⟩ : ∃ z, z = (v_36 : Int32) - (48 : Int32) := ⟨_, rfl⟩
          have h_46 : v_44.toInt = v_36.toInt - 48 := by rw [e_45]; exact ti_isub (by show (_ : Int) ≤ v_36.toInt - 48; omega) (by show v_36.toInt - 48 < (_ : Int); omega)
          refine k_isub (v := v_44) C e_45.symm dX3_wordOn_68 ?_
          refine lv_istore (lv' := [(6, .int v_44), (0, .ref (ad 2)), (1, .int x1), (2, .long r_22), (4, .int v_36), (5, .int 0)]) C.1 C.2.1 dX3_wordOn_69 hl (by decide) rfl (fun ls hl => ?_)
          have hl : lv_has ls 9 [(0, .ref (ad 2)), (1, .int x1), (2, .long r_22), (4, .int v_36), (5, .int 0), (6, .int v_44)] := lv_sub hl [1, 2, 3, 4, 5, 0] rfl
          refine lv_goto (tgt := 103) C.1 C.2.1 dX3_wordOn_71 (by decide) ?_
          exact L_103 r_22 v_36 0 v_44 _ _ _ ⟨by omega, by omega⟩ ⟨by omega, by omega⟩ ⟨by decide, by decide⟩ ⟨by omega, by omega⟩ hP hD hS (lv_sub hl [0, 1, 2, 3, 4, 5] rfl)
    · replace c_32 : 80 ≤ v_29.toInt := i_nlt c_32
      refine lv_iconst (v := (-1)) C.1 C.2.1 dX3_wordOn_23 (by decide) ?_
      exact g_iret C hr hlocks hP hD hS rfl () rfl ⟨(i_rng _).1, (i_rng _).2⟩ (Nat.le_of_ble_eq_true rfl) (Nat.le_of_ble_eq_true rfl) dX3_wordOn_24

theorem dX11_register_0 : decode cX11_register 0 = .ok (.iload_n 1, 1) := by decide +kernel
theorem dX11_register_1 : decode cX11_register 1 = .ok (.ifCond .lt 9, 3) := by decide +kernel
theorem dX11_register_10 : decode cX11_register 10 = .ok (.new 223, 3) := by decide +kernel
theorem dX11_register_13 : decode cX11_register 13 = .ok (.dup, 1) := by decide +kernel
theorem dX11_register_14 : decode cX11_register 14 = .ok (.invokespecial 225, 3) := by decide +kernel
theorem dX11_register_17 : decode cX11_register 17 = .ok (.athrow, 1) := by decide +kernel
theorem dX11_register_18 : decode cX11_register 18 = .ok (.iload_n 1, 1) := by decide +kernel
theorem dX11_register_19 : decode cX11_register 19 = .ok (.bipush 9, 2) := by decide +kernel
theorem dX11_register_21 : decode cX11_register 21 = .ok (.if_icmp .ne 19, 3) := by decide +kernel
theorem dX11_register_24 : decode cX11_register 24 = .ok (.aload_n 0, 1) := by decide +kernel
theorem dX11_register_25 : decode cX11_register 25 = .ok (.getfield 44, 3) := by decide +kernel
theorem dX11_register_28 : decode cX11_register 28 = .ok (.getfield 226, 3) := by decide +kernel
theorem dX11_register_31 : decode cX11_register 31 = .ok (.ifCond .eq 7, 3) := by decide +kernel
theorem dX11_register_34 : decode cX11_register 34 = .ok (.iconst 1, 1) := by decide +kernel
theorem dX11_register_35 : decode cX11_register 35 = .ok (.goto 4, 3) := by decide +kernel
theorem dX11_register_38 : decode cX11_register 38 = .ok (.iconst 0, 1) := by decide +kernel
theorem dX11_register_39 : decode cX11_register 39 = .ok (.ireturn, 1) := by decide +kernel
theorem dX11_register_4 : decode cX11_register 4 = .ok (.iload_n 1, 1) := by decide +kernel
theorem dX11_register_40 : decode cX11_register 40 = .ok (.iload_n 1, 1) := by decide +kernel
theorem dX11_register_41 : decode cX11_register 41 = .ok (.bipush 10, 2) := by decide +kernel
theorem dX11_register_43 : decode cX11_register 43 = .ok (.if_icmp .ne 11, 3) := by decide +kernel
theorem dX11_register_46 : decode cX11_register 46 = .ok (.aload_n 0, 1) := by decide +kernel
theorem dX11_register_47 : decode cX11_register 47 = .ok (.getfield 44, 3) := by decide +kernel
theorem dX11_register_5 : decode cX11_register 5 = .ok (.bipush 11, 2) := by decide +kernel
theorem dX11_register_50 : decode cX11_register 50 = .ok (.getfield 229, 3) := by decide +kernel
theorem dX11_register_53 : decode cX11_register 53 = .ok (.ireturn, 1) := by decide +kernel
theorem dX11_register_54 : decode cX11_register 54 = .ok (.iload_n 1, 1) := by decide +kernel
theorem dX11_register_55 : decode cX11_register 55 = .ok (.bipush 11, 2) := by decide +kernel
theorem dX11_register_57 : decode cX11_register 57 = .ok (.if_icmp .ne 13, 3) := by decide +kernel
theorem dX11_register_60 : decode cX11_register 60 = .ok (.aload_n 0, 1) := by decide +kernel
theorem dX11_register_61 : decode cX11_register 61 = .ok (.getfield 44, 3) := by decide +kernel
theorem dX11_register_64 : decode cX11_register 64 = .ok (.getfield 232, 3) := by decide +kernel
theorem dX11_register_67 : decode cX11_register 67 = .ok (.goto 15, 3) := by decide +kernel
theorem dX11_register_7 : decode cX11_register 7 = .ok (.if_icmp .le 11, 3) := by decide +kernel
theorem dX11_register_70 : decode cX11_register 70 = .ok (.aload_n 0, 1) := by decide +kernel
theorem dX11_register_71 : decode cX11_register 71 = .ok (.getfield 44, 3) := by decide +kernel
theorem dX11_register_74 : decode cX11_register 74 = .ok (.getfield 235, 3) := by decide +kernel
theorem dX11_register_77 : decode cX11_register 77 = .ok (.iload_n 1, 1) := by decide +kernel
theorem dX11_register_78 : decode cX11_register 78 = .ok (.iaload, 1) := by decide +kernel
theorem dX11_register_79 : decode cX11_register 79 = .ok (.invokestatic 238, 3) := by decide +kernel
theorem dX11_register_82 : decode cX11_register 82 = .ok (.ireturn, 1) := by decide +kernel
set_option maxHeartbeats 4000000 in
set_option maxRecDepth 100000 in
theorem T_X11_register (l : Launch) (htr : l.stackTraces = false) (D : va_G) (K : Nat → ClassId) (Z Y : Nat → Nat) (ad : Nat → Nat) (d : dSt) (t : tSt) (hok : okX t) (x1 : Int32) : txMet l yX11_register cX11_register 2 (some .int) (rmD 6 1 6) D K Z Y [.ref (ad 0), .int x1] ((WX d) K ad t) (QI D K (fun (r : Int32) (u : Unit) => (-2147483648 : Int) ≤ r.toInt ∧ r.toInt ≤ 2147483647) (fun (_ : Unit) => (WX d) K ad t)) (XCt D K (fun (u : Unit) => True) (fun (_ : Unit) => (WX d) K ad t)) 1 6 := by
  refine tx_met RX11 ⟨rfl, by decide +kernel⟩ (Nat.le_of_ble_eq_true rfl) ?_
  intro p e s m below meth c A ls C hE hZ ht hr hlocks hA hP hD hS hl
  have hl : lv_has ls 2 [(0, .ref (ad 0)), (1, .int x1)] := hl
  refine lv_iload_n C.1 C.2.1 dX11_register_0 rfl (lv_at hl 1 rfl) ?_
  refine lv_if_lt (tgt := 10) C.1 C.2.1 dX11_register_1 (by decide) (fun c_1 => ?_) (fun c_1 => ?_)
  · replace c_1 : x1.toInt < 0 := i_lt c_1
    exact tx_throw C htr hE hZ ht hlocks hP hD hS hl.1 () rfl trivial m_83_23 m_84_0 dX11_register_10 dX11_register_13 dX11_register_14 dX11_register_17 (by decide) (by decide) (Nat.le_of_ble_eq_true rfl) (Nat.le_of_ble_eq_true rfl) (Nat.le_of_ble_eq_true rfl) (Nat.le_of_ble_eq_true rfl)
  · replace c_1 : 0 ≤ x1.toInt := i_nlt c_1
    refine lv_iload_n C.1 C.2.1 dX11_register_4 rfl (lv_at hl 1 rfl) ?_
    refine lv_bipush (v := 11) C.1 C.2.1 dX11_register_5 (by decide) ?_
    refine lv_icmp_le (tgt := 18) C.1 C.2.1 dX11_register_7 (by decide) (fun c_2 => ?_) (fun c_2 => ?_)
    · replace c_2 : x1.toInt ≤ 11 := i_le c_2
      refine lv_iload_n C.1 C.2.1 dX11_register_18 rfl (lv_at hl 1 rfl) ?_
      refine lv_bipush (v := 9) C.1 C.2.1 dX11_register_19 (by decide) ?_
      refine lv_icmp_ne (tgt := 40) C.1 C.2.1 dX11_register_21 (by decide) (fun c_3 => ?_) (fun c_3 => ?_)
      · replace c_3 : ¬ x1.toInt = 9 := i_ne c_3
        refine lv_iload_n C.1 C.2.1 dX11_register_40 rfl (lv_at hl 1 rfl) ?_
        refine lv_bipush (v := 10) C.1 C.2.1 dX11_register_41 (by decide) ?_
        refine lv_icmp_ne (tgt := 54) C.1 C.2.1 dX11_register_43 (by decide) (fun c_4 => ?_) (fun c_4 => ?_)
        · replace c_4 : ¬ x1.toInt = 10 := i_ne c_4
          refine lv_iload_n C.1 C.2.1 dX11_register_54 rfl (lv_at hl 1 rfl) ?_
          refine lv_bipush (v := 11) C.1 C.2.1 dX11_register_55 (by decide) ?_
          refine lv_icmp_ne (tgt := 70) C.1 C.2.1 dX11_register_57 (by decide) (fun c_5 => ?_) (fun c_5 => ?_)
          · replace c_5 : ¬ x1.toInt = 11 := i_ne c_5
            refine lv_aload_n C.1 C.2.1 dX11_register_70 rfl (lv_at hl 0 rfl) ?_
            refine k_get (v := .ref (ad 4)) C hP 0 rfl rfl inlX11 4 (by decide) m_2_9 rfl dX11_register_71 ?_
            refine k_get (v := .ref (ad 22)) C hP 4 rfl rfl inlX2 1 (by decide) m_84_3 rfl dX11_register_74 ?_
            refine lv_iload_n C.1 C.2.1 dX11_register_77 rfl (lv_at hl 1 rfl) ?_
            obtain ⟨v_6, e_7⟩ : ∃ z, z = (t.2.2.1 22 (x1 : Int32).toNatClampNeg) := ⟨_, rfl⟩
            refine k_ild (v := v_6) C hP 22 rfl (vp_in_iff.mpr ⟨by omega, by omega⟩) e_7.symm dX11_register_78 ?_
            refine g_Si (As := [.int v_6]) (rest := []) C hP hD hS hA (T_X1_shown l D K Z Y ad d t hok (v_6)) hE hZ (uwS m_84_4 m_84_5 m_14_2 m_84_6) (hdS 1 (by decide +kernel) rfl) ⟨Nat.le_of_ble_eq_true rfl, Nat.le_of_ble_eq_true rfl⟩ rfl rfl rfl hl.1 (Nat.le_of_ble_eq_true rfl) dX11_register_79 ⟨Nat.le_of_ble_eq_true rfl, Nat.le_of_ble_eq_true rfl⟩ (fun r_9 t_8 H locs hw hP hD hS => ?_)
            obtain ⟨h_11, h_12⟩ := hw
            exact vx_ret <| g_iret C hr hlocks hP hD hS rfl () rfl ⟨(i_rng _).1, (i_rng _).2⟩ (Nat.le_of_ble_eq_true rfl) (Nat.le_of_ble_eq_true rfl) dX11_register_82
          · replace c_5 : x1.toInt = 11 := i_eq c_5
            refine lv_aload_n C.1 C.2.1 dX11_register_60 rfl (lv_at hl 0 rfl) ?_
            refine k_get (v := .ref (ad 4)) C hP 0 rfl rfl inlX11 4 (by decide) m_2_9 rfl dX11_register_61 ?_
            refine k_get (v := .int (t.1 4 5)) C hP 4 rfl rfl inlX2 5 (by decide) m_76_20 rfl dX11_register_64 ?_
            refine lv_goto (tgt := 82) C.1 C.2.1 dX11_register_67 (by decide) ?_
            exact vx_ret <| g_iret C hr hlocks hP hD hS rfl () rfl ⟨(i_rng _).1, (i_rng _).2⟩ (Nat.le_of_ble_eq_true rfl) (Nat.le_of_ble_eq_true rfl) dX11_register_82
        · replace c_4 : x1.toInt = 10 := i_eq c_4
          refine lv_aload_n C.1 C.2.1 dX11_register_46 rfl (lv_at hl 0 rfl) ?_
          refine k_get (v := .ref (ad 4)) C hP 0 rfl rfl inlX11 4 (by decide) m_2_9 rfl dX11_register_47 ?_
          have h_13 : (-1 : Int) ≤ (t.1 4 4).toInt ∧ (t.1 4 4).toInt ≤ 1 := hok.1 4 4
          refine k_get (v := .int (t.1 4 4)) C hP 4 rfl rfl inlX2 4 (by decide) m_84_2 rfl dX11_register_50 ?_
          exact vx_ret <| g_iret C hr hlocks hP hD hS rfl () rfl ⟨(i_rng _).1, (i_rng _).2⟩ (Nat.le_of_ble_eq_true rfl) (Nat.le_of_ble_eq_true rfl) dX11_register_53
      · replace c_3 : x1.toInt = 9 := i_eq c_3
        refine lv_aload_n C.1 C.2.1 dX11_register_24 rfl (lv_at hl 0 rfl) ?_
        refine k_get (v := .ref (ad 4)) C hP 0 rfl rfl inlX11 4 (by decide) m_2_9 rfl dX11_register_25 ?_
        have h_14 : (0 : Int) ≤ (t.1 4 3).toInt ∧ (t.1 4 3).toInt ≤ 1 := hok.1 4 3
        refine k_get (v := .int (t.1 4 3)) C hP 4 rfl rfl inlX2 3 (by decide) m_84_1 rfl dX11_register_28 ?_
        refine lv_if_eq (tgt := 38) C.1 C.2.1 dX11_register_31 (by decide) (fun c_15 => ?_) (fun c_15 => ?_)
        · replace c_15 : (t.1 4 3).toInt = 0 := i_eq c_15
          refine lv_iconst (v := 0) C.1 C.2.1 dX11_register_38 (by decide) ?_
          exact vx_ret <| g_iret C hr hlocks hP hD hS rfl () rfl ⟨(i_rng _).1, (i_rng _).2⟩ (Nat.le_of_ble_eq_true rfl) (Nat.le_of_ble_eq_true rfl) dX11_register_39
        · replace c_15 : ¬ (t.1 4 3).toInt = 0 := i_ne c_15
          refine lv_iconst (v := 1) C.1 C.2.1 dX11_register_34 (by decide) ?_
          refine lv_goto (tgt := 39) C.1 C.2.1 dX11_register_35 (by decide) ?_
          exact vx_ret <| g_iret C hr hlocks hP hD hS rfl () rfl ⟨(i_rng _).1, (i_rng _).2⟩ (Nat.le_of_ble_eq_true rfl) (Nat.le_of_ble_eq_true rfl) dX11_register_39
    · replace c_2 : 11 < x1.toInt := i_nle c_2
      exact tx_throw C htr hE hZ ht hlocks hP hD hS hl.1 () rfl trivial m_83_23 m_84_0 dX11_register_10 dX11_register_13 dX11_register_14 dX11_register_17 (by decide) (by decide) (Nat.le_of_ble_eq_true rfl) (Nat.le_of_ble_eq_true rfl) (Nat.le_of_ble_eq_true rfl) (Nat.le_of_ble_eq_true rfl)

theorem dX11_word_0 : decode cX11_word 0 = .ok (.iload_n 1, 1) := by decide +kernel
theorem dX11_word_1 : decode cX11_word 1 = .ok (.sipush (-3999), 3) := by decide +kernel
theorem dX11_word_11 : decode cX11_word 11 = .ok (.if_icmp .le 11, 3) := by decide +kernel
theorem dX11_word_14 : decode cX11_word 14 = .ok (.new 223, 3) := by decide +kernel
theorem dX11_word_17 : decode cX11_word 17 = .ok (.dup, 1) := by decide +kernel
theorem dX11_word_18 : decode cX11_word 18 = .ok (.invokespecial 225, 3) := by decide +kernel
theorem dX11_word_21 : decode cX11_word 21 = .ok (.athrow, 1) := by decide +kernel
theorem dX11_word_22 : decode cX11_word 22 = .ok (.aload_n 0, 1) := by decide +kernel
theorem dX11_word_23 : decode cX11_word 23 = .ok (.getfield 44, 3) := by decide +kernel
theorem dX11_word_26 : decode cX11_word 26 = .ok (.getfield 157, 3) := by decide +kernel
theorem dX11_word_29 : decode cX11_word 29 = .ok (.iload_n 1, 1) := by decide +kernel
theorem dX11_word_30 : decode cX11_word 30 = .ok (.sipush 3999, 3) := by decide +kernel
theorem dX11_word_33 : decode cX11_word 33 = .ok (.iadd, 1) := by decide +kernel
theorem dX11_word_34 : decode cX11_word 34 = .ok (.iaload, 1) := by decide +kernel
theorem dX11_word_35 : decode cX11_word 35 = .ok (.invokestatic 238, 3) := by decide +kernel
theorem dX11_word_38 : decode cX11_word 38 = .ok (.ireturn, 1) := by decide +kernel
theorem dX11_word_4 : decode cX11_word 4 = .ok (.if_icmp .lt 10, 3) := by decide +kernel
theorem dX11_word_7 : decode cX11_word 7 = .ok (.iload_n 1, 1) := by decide +kernel
theorem dX11_word_8 : decode cX11_word 8 = .ok (.sipush 3999, 3) := by decide +kernel
set_option maxHeartbeats 4000000 in
set_option maxRecDepth 100000 in
theorem T_X11_word (l : Launch) (htr : l.stackTraces = false) (D : va_G) (K : Nat → ClassId) (Z Y : Nat → Nat) (ad : Nat → Nat) (d : dSt) (t : tSt) (hok : okX t) (x1 : Int32) : txMet l yX11_word cX11_word 2 (some .int) (rmD 6 1 6) D K Z Y [.ref (ad 0), .int x1] ((WX d) K ad t) (QI D K (fun (r : Int32) (u : Unit) => (-2147483648 : Int) ≤ r.toInt ∧ r.toInt ≤ 1073741823) (fun (_ : Unit) => (WX d) K ad t)) (XCt D K (fun (u : Unit) => True) (fun (_ : Unit) => (WX d) K ad t)) 1 6 := by
  refine tx_met RX11 ⟨rfl, by decide +kernel⟩ (Nat.le_of_ble_eq_true rfl) ?_
  intro p e s m below meth c A ls C hE hZ ht hr hlocks hA hP hD hS hl
  have hl : lv_has ls 2 [(0, .ref (ad 0)), (1, .int x1)] := hl
  refine lv_iload_n C.1 C.2.1 dX11_word_0 rfl (lv_at hl 1 rfl) ?_
  refine lv_sipush (v := (-3999)) C.1 C.2.1 dX11_word_1 (by decide) ?_
  refine lv_icmp_lt (tgt := 14) C.1 C.2.1 dX11_word_4 (by decide) (fun c_1 => ?_) (fun c_1 => ?_)
  · replace c_1 : x1.toInt < (-3999) := i_lt c_1
    exact tx_throw C htr hE hZ ht hlocks hP hD hS hl.1 () rfl trivial m_83_23 m_84_0 dX11_word_14 dX11_word_17 dX11_word_18 dX11_word_21 (by decide) (by decide) (Nat.le_of_ble_eq_true rfl) (Nat.le_of_ble_eq_true rfl) (Nat.le_of_ble_eq_true rfl) (Nat.le_of_ble_eq_true rfl)
  · replace c_1 : (-3999) ≤ x1.toInt := i_nlt c_1
    refine lv_iload_n C.1 C.2.1 dX11_word_7 rfl (lv_at hl 1 rfl) ?_
    refine lv_sipush (v := 3999) C.1 C.2.1 dX11_word_8 (by decide) ?_
    refine lv_icmp_le (tgt := 22) C.1 C.2.1 dX11_word_11 (by decide) (fun c_2 => ?_) (fun c_2 => ?_)
    · replace c_2 : x1.toInt ≤ 3999 := i_le c_2
      refine lv_aload_n C.1 C.2.1 dX11_word_22 rfl (lv_at hl 0 rfl) ?_
      refine k_get (v := .ref (ad 4)) C hP 0 rfl rfl inlX11 4 (by decide) m_2_9 rfl dX11_word_23 ?_
      refine k_get (v := .ref (ad 10)) C hP 4 rfl rfl inlX2 0 (by decide) m_64_17 rfl dX11_word_26 ?_
      refine lv_iload_n C.1 C.2.1 dX11_word_29 rfl (lv_at hl 1 rfl) ?_
      refine lv_sipush (v := 3999) C.1 C.2.1 dX11_word_30 (by decide) ?_
      obtain ⟨v_3, e_4⟩ : ∃ z, z = (x1 : Int32) + (3999 : Int32) := ⟨_, rfl⟩
      have h_5 : v_3.toInt = x1.toInt + 3999 := by rw [e_4]; exact ti_iadd (by show (_ : Int) ≤ x1.toInt + 3999; omega) (by show x1.toInt + 3999 < (_ : Int); omega)
      refine k_iadd (v := v_3) C e_4.symm dX11_word_33 ?_
      obtain ⟨v_6, e_7⟩ : ∃ z, z = (t.2.2.1 10 (v_3 : Int32).toNatClampNeg) := ⟨_, rfl⟩
      refine k_ild (v := v_6) C hP 10 rfl (vp_in_iff.mpr ⟨by omega, by omega⟩) e_7.symm dX11_word_34 ?_
      refine g_Si (As := [.int v_6]) (rest := []) C hP hD hS hA (T_X1_shown l D K Z Y ad d t hok (v_6)) hE hZ (uwS m_84_4 m_84_5 m_14_2 m_84_6) (hdS 1 (by decide +kernel) rfl) ⟨Nat.le_of_ble_eq_true rfl, Nat.le_of_ble_eq_true rfl⟩ rfl rfl rfl hl.1 (Nat.le_of_ble_eq_true rfl) dX11_word_35 ⟨Nat.le_of_ble_eq_true rfl, Nat.le_of_ble_eq_true rfl⟩ (fun r_9 t_8 H locs hw hP hD hS => ?_)
      obtain ⟨h_11, h_12⟩ := hw
      exact vx_ret <| g_iret C hr hlocks hP hD hS rfl () rfl ⟨by omega, by omega⟩ (Nat.le_of_ble_eq_true rfl) (Nat.le_of_ble_eq_true rfl) dX11_word_38
    · replace c_2 : 3999 < x1.toInt := i_nle c_2
      exact tx_throw C htr hE hZ ht hlocks hP hD hS hl.1 () rfl trivial m_83_23 m_84_0 dX11_word_14 dX11_word_17 dX11_word_18 dX11_word_21 (by decide) (by decide) (Nat.le_of_ble_eq_true rfl) (Nat.le_of_ble_eq_true rfl) (Nat.le_of_ble_eq_true rfl) (Nat.le_of_ble_eq_true rfl)

theorem dX11_symbol_0 : decode cX11_symbol 0 = .ok (.aload_n 0, 1) := by decide +kernel
theorem dX11_symbol_1 : decode cX11_symbol 1 = .ok (.aload_n 0, 1) := by decide +kernel
theorem dX11_symbol_10 : decode cX11_symbol 10 = .ok (.getfield 48, 3) := by decide +kernel
theorem dX11_symbol_13 : decode cX11_symbol 13 = .ok (.getfield 153, 3) := by decide +kernel
theorem dX11_symbol_16 : decode cX11_symbol 16 = .ok (.ifCond .eq 23, 3) := by decide +kernel
theorem dX11_symbol_19 : decode cX11_symbol 19 = .ok (.lload_n 1, 1) := by decide +kernel
theorem dX11_symbol_2 : decode cX11_symbol 2 = .ok (.invokevirtual 78, 3) := by decide +kernel
theorem dX11_symbol_20 : decode cX11_symbol 20 = .ok (.lconst 0, 1) := by decide +kernel
theorem dX11_symbol_21 : decode cX11_symbol 21 = .ok (.lcmp, 1) := by decide +kernel
theorem dX11_symbol_22 : decode cX11_symbol 22 = .ok (.ifCond .le 17, 3) := by decide +kernel
theorem dX11_symbol_25 : decode cX11_symbol 25 = .ok (.aload_n 0, 1) := by decide +kernel
theorem dX11_symbol_26 : decode cX11_symbol 26 = .ok (.getfield 48, 3) := by decide +kernel
theorem dX11_symbol_29 : decode cX11_symbol 29 = .ok (.getfield 252, 3) := by decide +kernel
theorem dX11_symbol_32 : decode cX11_symbol 32 = .ok (.lload_n 1, 1) := by decide +kernel
theorem dX11_symbol_33 : decode cX11_symbol 33 = .ok (.invokevirtual 256, 3) := by decide +kernel
theorem dX11_symbol_36 : decode cX11_symbol 36 = .ok (.goto 4, 3) := by decide +kernel
theorem dX11_symbol_39 : decode cX11_symbol 39 = .ok (.iconst (-1), 1) := by decide +kernel
theorem dX11_symbol_40 : decode cX11_symbol 40 = .ok (.istore_n 3, 1) := by decide +kernel
theorem dX11_symbol_41 : decode cX11_symbol 41 = .ok (.iload_n 3, 1) := by decide +kernel
theorem dX11_symbol_42 : decode cX11_symbol 42 = .ok (.ifCond .lt 18, 3) := by decide +kernel
theorem dX11_symbol_45 : decode cX11_symbol 45 = .ok (.aload_n 0, 1) := by decide +kernel
theorem dX11_symbol_46 : decode cX11_symbol 46 = .ok (.getfield 48, 3) := by decide +kernel
theorem dX11_symbol_49 : decode cX11_symbol 49 = .ok (.getfield 252, 3) := by decide +kernel
theorem dX11_symbol_5 : decode cX11_symbol 5 = .ok (.invokevirtual 248, 3) := by decide +kernel
theorem dX11_symbol_52 : decode cX11_symbol 52 = .ok (.iload_n 3, 1) := by decide +kernel
theorem dX11_symbol_53 : decode cX11_symbol 53 = .ok (.invokevirtual 260, 3) := by decide +kernel
theorem dX11_symbol_56 : decode cX11_symbol 56 = .ok (.iconst 2, 1) := by decide +kernel
theorem dX11_symbol_57 : decode cX11_symbol 57 = .ok (.if_icmp .eq 11, 3) := by decide +kernel
theorem dX11_symbol_60 : decode cX11_symbol 60 = .ok (.new 223, 3) := by decide +kernel
theorem dX11_symbol_63 : decode cX11_symbol 63 = .ok (.dup, 1) := by decide +kernel
theorem dX11_symbol_64 : decode cX11_symbol 64 = .ok (.invokespecial 225, 3) := by decide +kernel
theorem dX11_symbol_67 : decode cX11_symbol 67 = .ok (.athrow, 1) := by decide +kernel
theorem dX11_symbol_68 : decode cX11_symbol 68 = .ok (.aload_n 0, 1) := by decide +kernel
theorem dX11_symbol_69 : decode cX11_symbol 69 = .ok (.getfield 48, 3) := by decide +kernel
theorem dX11_symbol_72 : decode cX11_symbol 72 = .ok (.getfield 252, 3) := by decide +kernel
theorem dX11_symbol_75 : decode cX11_symbol 75 = .ok (.getfield 263, 3) := by decide +kernel
theorem dX11_symbol_78 : decode cX11_symbol 78 = .ok (.iload_n 3, 1) := by decide +kernel
theorem dX11_symbol_79 : decode cX11_symbol 79 = .ok (.iaload, 1) := by decide +kernel
theorem dX11_symbol_8 : decode cX11_symbol 8 = .ok (.lstore_n 1, 1) := by decide +kernel
theorem dX11_symbol_80 : decode cX11_symbol 80 = .ok (.invokestatic 238, 3) := by decide +kernel
theorem dX11_symbol_83 : decode cX11_symbol 83 = .ok (.ireturn, 1) := by decide +kernel
theorem dX11_symbol_9 : decode cX11_symbol 9 = .ok (.aload_n 0, 1) := by decide +kernel
set_option maxHeartbeats 4000000 in
set_option maxRecDepth 100000 in
theorem T_X11_symbol (l : Launch) (htr : l.stackTraces = false) (D : va_G) (K : Nat → ClassId) (Z Y : Nat → Nat) (ad : Nat → Nat) (d : dSt) (t : tSt) (hok : okX t)  : txMet l yX11_symbol cX11_symbol 4 (some .int) (rmD 6 1 6) D K Z Y [.ref (ad 0)] ((WX d) K ad t) (QI D K (fun (r : Int32) (u : tSt) => okX u ∧ frA [(0, 1)] [] [] [] t u ∧ (-2147483648 : Int) ≤ r.toInt ∧ r.toInt ≤ 1073741823 ∧ ((u.1 0 1).toInt = 0)) (fun (u : tSt) => (WX d) K ad u)) (XCt D K (fun (u : tSt) => okX u ∧ frA [(0, 1)] [] [] [] t u ∧ ((u.1 0 1).toInt = 0)) (fun (u : tSt) => (WX d) K ad u)) 1 6 := by
  refine tx_met RX11 ⟨rfl, by decide +kernel⟩ (Nat.le_of_ble_eq_true rfl) ?_
  intro p e s m below meth c A ls C hE hZ ht hr hlocks hA hP hD hS hl
  have hl : lv_has ls 4 [(0, .ref (ad 0))] := hl
  have hokt := hok
  have hfr : frA [(0, 1)] [] [] [] t t := frA_rf
  have h_1 : (0 : Int) ≤ (t.1 0 1).toInt ∧ (t.1 0 1).toInt ≤ 1280 := hok.1 0 1
  have h_2 : (0 : Int) ≤ (t.1 23 3).toInt ∧ (t.1 23 3).toInt ≤ 1024 := hok.1 23 3
  have L_40 : ∀ (t1 : tSt) (w40_1 : Int64) (k40_0 : Int32) (H : Heap) (locs : List Loc) (ls : Array Slot), okX t1 → frA [(0, 1)] [] [] [] t t1 → (-1 : Int) ≤ k40_0.toInt ∧ k40_0.toInt ≤ 2147483647 → ((t1.1 0 1).toInt = 0) → va_P D vwCl ((WX d) K ad t1) H → va_D A ((WX d) K ad t1) → va_S A s.heap H locs → lv_has ls 4 [(0, .ref (ad 0)), (1, .long w40_1)] → W p l e (rmD 6 1 6) s m [.ref (ad 0)].toArray below meth c H locs 0 0 (vx_MQ below (QI D K (fun (r : Int32) (u : tSt) => okX u ∧ frA [(0, 1)] [] [] [] t u ∧ (-2147483648 : Int) ≤ r.toInt ∧ r.toInt ≤ 1073741823 ∧ ((u.1 0 1).toInt = 0)) (fun (u : tSt) => (WX d) K ad u) A) (XCt D K (fun (u : tSt) => okX u ∧ frA [(0, 1)] [] [] [] t u ∧ ((u.1 0 1).toInt = 0)) (fun (u : tSt) => (WX d) K ad u) A) [.ref (ad 0)].toArray s 1 6 A) (F0 m 40 ls [.int k40_0]) := by
    intro t1 w40_1 k40_0 H locs ls hok hfr hk40_0 hi40_0 hP hD hS hl
    have h_3 : (t1.1 23 3).toInt = (t.1 23 3).toInt := ti_eq (hfr.1 23 3 rfl)
    have h_4 : (0 : Int) ≤ (t1.1 0 1).toInt ∧ (t1.1 0 1).toInt ≤ 1280 := hok.1 0 1
    have h_5 : (0 : Int) ≤ (t1.1 23 3).toInt ∧ (t1.1 23 3).toInt ≤ 1024 := hok.1 23 3
    refine lv_istore_n (lv' := [(3, .int k40_0), (0, .ref (ad 0)), (1, .long w40_1)]) C.1 C.2.1 dX11_symbol_40 rfl hl (by decide) rfl (fun ls hl => ?_)
    have hl : lv_has ls 4 [(0, .ref (ad 0)), (1, .long w40_1), (3, .int k40_0)] := lv_sub hl [1, 2, 0] rfl
    refine lv_iload_n C.1 C.2.1 dX11_symbol_41 rfl (lv_at hl 2 rfl) ?_
    refine lv_if_lt (tgt := 60) C.1 C.2.1 dX11_symbol_42 (by decide) (fun c_6 => ?_) (fun c_6 => ?_)
    · replace c_6 : k40_0.toInt < 0 := i_lt c_6
      exact tx_throw C htr hE hZ ht hlocks hP hD hS hl.1 t1 rfl ⟨hok, hfr, (show (t1.1 0 1).toInt = 0 from by omega)⟩ m_83_23 m_84_0 dX11_symbol_60 dX11_symbol_63 dX11_symbol_64 dX11_symbol_67 (by decide) (by decide) (Nat.le_of_ble_eq_true rfl) (Nat.le_of_ble_eq_true rfl) (Nat.le_of_ble_eq_true rfl) (Nat.le_of_ble_eq_true rfl)
    · replace c_6 : 0 ≤ k40_0.toInt := i_nlt c_6
      refine lv_aload_n C.1 C.2.1 dX11_symbol_45 rfl (lv_at hl 0 rfl) ?_
      refine k_get (v := .ref (ad 5)) C hP 0 rfl rfl inlX11 5 (by decide) m_2_10 rfl dX11_symbol_46 ?_
      refine k_get (v := .ref (ad 23)) C hP 5 rfl rfl inlX0 2 (by decide) m_85_22 rfl dX11_symbol_49 ?_
      refine lv_iload_n C.1 C.2.1 dX11_symbol_52 rfl (lv_at hl 2 rfl) ?_
      refine g_Vi (As := [.int k40_0]) (rest := []) C hP hD hS hA (T_X8_standing l D K Z Y ad d t1 hok (k40_0) (show (-128 : Int) ≤ (k40_0 : Int32).toInt ∧ (k40_0 : Int32).toInt ≤ 2147483647 from ⟨by omega, (i_rng _).2⟩)) hE hZ (uwV m_86_6 m_20_16 m_20_17 m_2_5 m_20_18) (hdV 1 (by decide +kernel) rfl) ⟨Nat.le_of_ble_eq_true rfl, Nat.le_of_ble_eq_true rfl⟩ rfl rfl (ci := 7) (q0 := 23) rfl rfl rfl hl.1 (Nat.le_of_ble_eq_true rfl) dX11_symbol_53 ⟨Nat.le_of_ble_eq_true rfl, Nat.le_of_ble_eq_true rfl⟩ (fun r_8 t_7 H locs hw hP hD hS => ?_)
      obtain ⟨h_10, h_11, p_12⟩ := hw
      replace p_12 : ¬ r_8.toInt = 0 → 0 ≤ k40_0.toInt ∧ k40_0.toInt < (t1.1 23 3).toInt := p_12
      refine lv_iconst (v := 2) C.1 C.2.1 dX11_symbol_56 (by decide) ?_
      refine lv_icmp_eq (tgt := 68) C.1 C.2.1 dX11_symbol_57 (by decide) (fun c_13 => ?_) (fun c_13 => ?_)
      · replace c_13 : r_8.toInt = 2 := i_eq c_13
        refine lv_aload_n C.1 C.2.1 dX11_symbol_68 rfl (lv_at hl 0 rfl) ?_
        refine k_get (v := .ref (ad 5)) C hP 0 rfl rfl inlX11 5 (by decide) m_2_10 rfl dX11_symbol_69 ?_
        refine k_get (v := .ref (ad 23)) C hP 5 rfl rfl inlX0 2 (by decide) m_85_22 rfl dX11_symbol_72 ?_
        refine k_get (v := .ref (ad 42)) C hP 23 rfl rfl inlX8 1 (by decide) m_85_23 rfl dX11_symbol_75 ?_
        refine lv_iload_n C.1 C.2.1 dX11_symbol_78 rfl (lv_at hl 2 rfl) ?_
        obtain ⟨v_14, e_15⟩ : ∃ z, z = (t1.2.2.1 42 (k40_0 : Int32).toNatClampNeg) := ⟨_, rfl⟩
        refine k_ild (v := v_14) C hP 42 rfl (vp_in_iff.mpr ⟨by omega, by omega⟩) e_15.symm dX11_symbol_79 ?_
        refine g_Si (As := [.int v_14]) (rest := []) C hP hD hS hA (T_X1_shown l D K Z Y ad d t1 hok (v_14)) hE hZ (uwS m_84_4 m_84_5 m_14_2 m_84_6) (hdS 1 (by decide +kernel) rfl) ⟨Nat.le_of_ble_eq_true rfl, Nat.le_of_ble_eq_true rfl⟩ rfl rfl rfl hl.1 (Nat.le_of_ble_eq_true rfl) dX11_symbol_80 ⟨Nat.le_of_ble_eq_true rfl, Nat.le_of_ble_eq_true rfl⟩ (fun r_17 t_16 H locs hw hP hD hS => ?_)
        obtain ⟨h_19, h_20⟩ := hw
        exact vx_ret <| g_iret C hr hlocks hP hD hS rfl t1 rfl ⟨hok, hfr, by omega, by omega, (show (t1.1 0 1).toInt = 0 from by omega)⟩ (Nat.le_of_ble_eq_true rfl) (Nat.le_of_ble_eq_true rfl) dX11_symbol_83
      · replace c_13 : ¬ r_8.toInt = 2 := i_ne c_13
        exact tx_throw C htr hE hZ ht hlocks hP hD hS hl.1 t1 rfl ⟨hok, hfr, (show (t1.1 0 1).toInt = 0 from by omega)⟩ m_83_23 m_84_0 dX11_symbol_60 dX11_symbol_63 dX11_symbol_64 dX11_symbol_67 (by decide) (by decide) (Nat.le_of_ble_eq_true rfl) (Nat.le_of_ble_eq_true rfl) (Nat.le_of_ble_eq_true rfl) (Nat.le_of_ble_eq_true rfl)
  have L_39 : ∀ (t1 : tSt) (w39_1 : Int64) (H : Heap) (locs : List Loc) (ls : Array Slot), okX t1 → frA [(0, 1)] [] [] [] t t1 → ((t1.1 0 1).toInt = 0) → va_P D vwCl ((WX d) K ad t1) H → va_D A ((WX d) K ad t1) → va_S A s.heap H locs → lv_has ls 4 [(0, .ref (ad 0)), (1, .long w39_1)] → W p l e (rmD 6 1 6) s m [.ref (ad 0)].toArray below meth c H locs 0 0 (vx_MQ below (QI D K (fun (r : Int32) (u : tSt) => okX u ∧ frA [(0, 1)] [] [] [] t u ∧ (-2147483648 : Int) ≤ r.toInt ∧ r.toInt ≤ 1073741823 ∧ ((u.1 0 1).toInt = 0)) (fun (u : tSt) => (WX d) K ad u) A) (XCt D K (fun (u : tSt) => okX u ∧ frA [(0, 1)] [] [] [] t u ∧ ((u.1 0 1).toInt = 0)) (fun (u : tSt) => (WX d) K ad u) A) [.ref (ad 0)].toArray s 1 6 A) (F0 m 39 ls []) := by
    intro t1 w39_1 H locs ls hok hfr hi39_0 hP hD hS hl
    have h_21 : (t1.1 23 3).toInt = (t.1 23 3).toInt := ti_eq (hfr.1 23 3 rfl)
    have h_22 : (0 : Int) ≤ (t1.1 0 1).toInt ∧ (t1.1 0 1).toInt ≤ 1280 := hok.1 0 1
    have h_23 : (0 : Int) ≤ (t1.1 23 3).toInt ∧ (t1.1 23 3).toInt ≤ 1024 := hok.1 23 3
    refine lv_iconst (v := (-1)) C.1 C.2.1 dX11_symbol_39 (by decide) ?_
    exact L_40 t1 w39_1 (-1) _ _ _ hok hfr ⟨by decide, by decide⟩ (show (t1.1 0 1).toInt = 0 from by omega) hP hD hS (lv_sub hl [0, 1] rfl)
  refine lv_aload_n C.1 C.2.1 dX11_symbol_0 rfl (lv_at hl 0 rfl) ?_
  refine lv_aload_n C.1 C.2.1 dX11_symbol_1 rfl (lv_at hl 0 rfl) ?_
  refine g_Vi (As := []) (rest := [.ref (ad 0)]) C hP hD hS hA (T_X11_useUpTape l D K Z Y ad d t hok ) hE hZ (uwV m_10_20 m_10_21 m_10_22 m_1_2 m_10_23) (hdV 0 (by decide +kernel) rfl) ⟨Nat.le_of_ble_eq_true rfl, Nat.le_of_ble_eq_true rfl⟩ rfl rfl (ci := 10) (q0 := 0) rfl rfl rfl hl.1 (Nat.le_of_ble_eq_true rfl) dX11_symbol_2 ⟨Nat.le_of_ble_eq_true rfl, Nat.le_of_ble_eq_true rfl⟩ (fun r_25 t_24 H locs hw hP hD hS => ?_)
  obtain ⟨hok, f_26, h_27, h_28, p_29, p_30⟩ := hw
  have hfr : frA [(0, 1)] [] [] [] t t_24 := frA_tr hfr f_26 rfl
  have h_31 : (t_24.1 23 3).toInt = (t.1 23 3).toInt := ti_eq (f_26.1 23 3 rfl)
  have h_32 : (0 : Int) ≤ (t_24.1 0 1).toInt ∧ (t_24.1 0 1).toInt ≤ 1280 := hok.1 0 1
  have h_33 : (0 : Int) ≤ (t_24.1 23 3).toInt ∧ (t_24.1 23 3).toInt ≤ 1024 := hok.1 23 3
  replace p_29 : r_25.toInt = (t.1 0 1).toInt := p_29
  replace p_30 : (t_24.1 0 1).toInt = 0 := p_30
  refine g_Vl (As := [.int r_25]) (rest := []) C hP hD hS hA (T_X11_tapeName l D K Z Y ad d t_24 hok (r_25) (show (0 : Int) ≤ (r_25 : Int32).toInt ∧ (r_25 : Int32).toInt ≤ 3999 from ⟨by omega, by omega⟩)) hE hZ (uwV m_86_0 m_86_1 m_86_2 m_1_2 m_86_3) (hdV 1 (by decide +kernel) rfl) ⟨Nat.le_of_ble_eq_true rfl, Nat.le_of_ble_eq_true rfl⟩ rfl rfl (ci := 10) (q0 := 0) rfl rfl rfl hl.1 (Nat.le_of_ble_eq_true rfl) dX11_symbol_5 ⟨Nat.le_of_ble_eq_true rfl, Nat.le_of_ble_eq_true rfl⟩ (fun r_35 t_34 H locs hw hP hD hS => ?_)
  refine lv_lstore_n (lv' := [(1, .long r_35), (0, .ref (ad 0))]) C.1 C.2.1 dX11_symbol_8 rfl hl (by decide) rfl (fun ls hl => ?_)
  have hl : lv_has ls 4 [(0, .ref (ad 0)), (1, .long r_35)] := lv_sub hl [1, 0] rfl
  refine lv_aload_n C.1 C.2.1 dX11_symbol_9 rfl (lv_at hl 0 rfl) ?_
  refine k_get (v := .ref (ad 5)) C hP 0 rfl rfl inlX11 5 (by decide) m_2_10 rfl dX11_symbol_10 ?_
  have h_37 : (0 : Int) ≤ (t_24.1 5 19).toInt ∧ (t_24.1 5 19).toInt ≤ 1 := hok.1 5 19
  refine k_get (v := .int (t_24.1 5 19)) C hP 5 rfl rfl inlX0 19 (by decide) m_64_16 rfl dX11_symbol_13 ?_
  refine lv_if_eq (tgt := 39) C.1 C.2.1 dX11_symbol_16 (by decide) (fun c_38 => ?_) (fun c_38 => ?_)
  · replace c_38 : (t_24.1 5 19).toInt = 0 := i_eq c_38
    exact L_39 t_24 r_35 _ _ _ hok hfr (show (t_24.1 0 1).toInt = 0 from by omega) hP hD hS (lv_sub hl [0, 1] rfl)
  · replace c_38 : ¬ (t_24.1 5 19).toInt = 0 := i_ne c_38
    refine lv_lload_n C.1 C.2.1 dX11_symbol_19 rfl (lv_at hl 1 rfl) ?_
    refine lv_lconst (v := 0) C.1 C.2.1 dX11_symbol_20 (by decide) ?_
    obtain ⟨v_39, e_40⟩ : ∃ z, z = lg_cmp (r_35 : Int64) 0 := ⟨_, rfl⟩
    have h_41 : (-1 : Int) ≤ v_39.toInt ∧ v_39.toInt ≤ 1 := by rw [e_40]; exact cmp_rng _ _
    refine k_lcmp (v := v_39) C e_40.symm dX11_symbol_21 ?_
    refine lv_if_le (tgt := 39) C.1 C.2.1 dX11_symbol_22 (by decide) (fun c_42 => ?_) (fun c_42 => ?_)
    · replace c_42 : v_39.toInt ≤ 0 := i_le c_42
      exact L_39 t_24 r_35 _ _ _ hok hfr (show (t_24.1 0 1).toInt = 0 from by omega) hP hD hS (lv_sub hl [0, 1] rfl)
    · replace c_42 : 0 < v_39.toInt := i_nle c_42
      refine lv_aload_n C.1 C.2.1 dX11_symbol_25 rfl (lv_at hl 0 rfl) ?_
      refine k_get (v := .ref (ad 5)) C hP 0 rfl rfl inlX11 5 (by decide) m_2_10 rfl dX11_symbol_26 ?_
      refine k_get (v := .ref (ad 23)) C hP 5 rfl rfl inlX0 2 (by decide) m_85_22 rfl dX11_symbol_29 ?_
      refine lv_lload_n C.1 C.2.1 dX11_symbol_32 rfl (lv_at hl 1 rfl) ?_
      refine g_Vi (As := [.long r_35]) (rest := []) C hP hD hS hA (T_X8_find l D K Z Y ad d t_24 hok (r_35)) hE hZ (uwV m_86_5 m_20_12 m_20_13 m_2_5 m_20_14) (hdV 1 (by decide +kernel) rfl) ⟨Nat.le_of_ble_eq_true rfl, Nat.le_of_ble_eq_true rfl⟩ rfl rfl (ci := 7) (q0 := 23) rfl rfl rfl hl.1 (Nat.le_of_ble_eq_true rfl) dX11_symbol_33 ⟨Nat.le_of_ble_eq_true rfl, Nat.le_of_ble_eq_true rfl⟩ (fun r_44 t_43 H locs hw hP hD hS => ?_)
      obtain ⟨h_46, h_47⟩ := hw
      refine lv_goto (tgt := 40) C.1 C.2.1 dX11_symbol_36 (by decide) ?_
      exact L_40 t_24 r_35 r_44 _ _ _ hok hfr ⟨by omega, (i_rng _).2⟩ (show (t_24.1 0 1).toInt = 0 from by omega) hP hD hS (lv_sub hl [0, 1] rfl)

theorem dX0_open_0 : decode cX0_open 0 = .ok (.aload_n 0, 1) := by decide +kernel
theorem dX0_open_1 : decode cX0_open 1 = .ok (.getfield 25, 3) := by decide +kernel
theorem dX0_open_10 : decode cX0_open 10 = .ok (.getfield 32, 3) := by decide +kernel
theorem dX0_open_13 : decode cX0_open 13 = .ok (.invokevirtual 55, 3) := by decide +kernel
theorem dX0_open_16 : decode cX0_open 16 = .ok (.aload_n 0, 1) := by decide +kernel
theorem dX0_open_17 : decode cX0_open 17 = .ok (.getfield 9, 3) := by decide +kernel
theorem dX0_open_20 : decode cX0_open 20 = .ok (.lconst 0, 1) := by decide +kernel
theorem dX0_open_21 : decode cX0_open 21 = .ok (.invokestatic 60, 3) := by decide +kernel
theorem dX0_open_24 : decode cX0_open 24 = .ok (.aload_n 0, 1) := by decide +kernel
theorem dX0_open_25 : decode cX0_open 25 = .ok (.iconst 0, 1) := by decide +kernel
theorem dX0_open_26 : decode cX0_open 26 = .ok (.putfield 66, 3) := by decide +kernel
theorem dX0_open_29 : decode cX0_open 29 = .ok (.aload_n 0, 1) := by decide +kernel
theorem dX0_open_30 : decode cX0_open 30 = .ok (.iconst 0, 1) := by decide +kernel
theorem dX0_open_31 : decode cX0_open 31 = .ok (.putfield 70, 3) := by decide +kernel
theorem dX0_open_34 : decode cX0_open 34 = .ok (.aload_n 0, 1) := by decide +kernel
theorem dX0_open_35 : decode cX0_open 35 = .ok (.iload_n 3, 1) := by decide +kernel
theorem dX0_open_36 : decode cX0_open 36 = .ok (.ifCond .eq 7, 3) := by decide +kernel
theorem dX0_open_39 : decode cX0_open 39 = .ok (.iconst 0, 1) := by decide +kernel
theorem dX0_open_4 : decode cX0_open 4 = .ok (.iload_n 1, 1) := by decide +kernel
theorem dX0_open_40 : decode cX0_open 40 = .ok (.goto 6, 3) := by decide +kernel
theorem dX0_open_43 : decode cX0_open 43 = .ok (.sipush (-3999), 3) := by decide +kernel
theorem dX0_open_46 : decode cX0_open 46 = .ok (.putfield 75, 3) := by decide +kernel
theorem dX0_open_49 : decode cX0_open 49 = .ok (.aload_n 0, 1) := by decide +kernel
theorem dX0_open_5 : decode cX0_open 5 = .ok (.iload_n 2, 1) := by decide +kernel
theorem dX0_open_50 : decode cX0_open 50 = .ok (.iconst 0, 1) := by decide +kernel
theorem dX0_open_51 : decode cX0_open 51 = .ok (.putfield 78, 3) := by decide +kernel
theorem dX0_open_54 : decode cX0_open 54 = .ok (.aload_n 0, 1) := by decide +kernel
theorem dX0_open_55 : decode cX0_open 55 = .ok (.iconst 0, 1) := by decide +kernel
theorem dX0_open_56 : decode cX0_open 56 = .ok (.putfield 81, 3) := by decide +kernel
theorem dX0_open_59 : decode cX0_open 59 = .ok (.aload_n 0, 1) := by decide +kernel
theorem dX0_open_6 : decode cX0_open 6 = .ok (.invokevirtual 51, 3) := by decide +kernel
theorem dX0_open_60 : decode cX0_open 60 = .ok (.iconst 0, 1) := by decide +kernel
theorem dX0_open_61 : decode cX0_open 61 = .ok (.putfield 84, 3) := by decide +kernel
theorem dX0_open_64 : decode cX0_open 64 = .ok (.aload_n 0, 1) := by decide +kernel
theorem dX0_open_65 : decode cX0_open 65 = .ok (.iconst 0, 1) := by decide +kernel
theorem dX0_open_66 : decode cX0_open 66 = .ok (.putfield 87, 3) := by decide +kernel
theorem dX0_open_69 : decode cX0_open 69 = .ok (.return_, 1) := by decide +kernel
theorem dX0_open_9 : decode cX0_open 9 = .ok (.aload_n 0, 1) := by decide +kernel
set_option maxHeartbeats 4000000 in
set_option maxRecDepth 100000 in
theorem T_X0_open (l : Launch) (D : va_G) (K : Nat → ClassId) (Z Y : Nat → Nat) (ad : Nat → Nat) (d : dSt) (t : tSt) (hok : okX t) (x1 : Int32) (hx1 : (0 : Int) ≤ x1.toInt ∧ x1.toInt ≤ 1281) (x2 : Int32) (hx2 : (0 : Int) ≤ x2.toInt ∧ x2.toInt ≤ 1280) (x3 : Int32) (hx3 : (0 : Int) ≤ x3.toInt ∧ x3.toInt ≤ 1) : tMet l yX0_open cX0_open 4 none (rmD 2 0 0) D K Z Y [.ref (ad 5), .int x1, .int x2, .int x3] ((WX d) K ad t) (QV D K (fun (u : tSt) => okX u ∧ frA [(2, 4), (2, 5), (2, 6), (2, 7), (5, 7), (5, 9), (5, 10), (5, 15), (5, 16), (5, 17), (5, 19), (23, 3), (23, 6), (23, 12)] [] [47] [25] t u) (fun (u : tSt) => (WX d) K ad u)) 0 0 := by
  refine t_met RX0 ⟨rfl, by decide +kernel⟩ (Nat.le_of_ble_eq_true rfl) ?_
  intro p e s m below meth c A ls C hE hZ hr hlocks hA hP hD hS hl
  have hl : lv_has ls 4 [(0, .ref (ad 5)), (1, .int x1), (2, .int x2), (3, .int x3)] := hl
  have hokt := hok
  have hfr : frA [(2, 4), (2, 5), (2, 6), (2, 7), (5, 7), (5, 9), (5, 10), (5, 15), (5, 16), (5, 17), (5, 19), (23, 3), (23, 6), (23, 12)] [] [47] [25] t t := frA_rf
  have h_1 : (0 : Int) ≤ (t.1 2 4).toInt ∧ (t.1 2 4).toInt ≤ 1281 := hok.1 2 4
  have h_2 : (0 : Int) ≤ (t.1 2 7).toInt ∧ (t.1 2 7).toInt ≤ 1280 := hok.1 2 7
  have L_46 : ∀ (t1 : tSt) (k46_1 : Int32) (H : Heap) (locs : List Loc) (ls : Array Slot), okX t1 → frA [(2, 4), (2, 5), (2, 6), (2, 7), (5, 7), (5, 9), (5, 10), (5, 15), (5, 16), (5, 17), (5, 19), (23, 3), (23, 6), (23, 12)] [] [47] [25] t t1 → (-3999 : Int) ≤ k46_1.toInt ∧ k46_1.toInt ≤ 0 → (0 : Int) ≤ (t1.1 5 7).toInt ∧ (t1.1 5 7).toInt ≤ 0 → (0 : Int) ≤ (t1.1 5 9).toInt ∧ (t1.1 5 9).toInt ≤ 0 → va_P D vwCl ((WX d) K ad t1) H → va_D A ((WX d) K ad t1) → va_S A s.heap H locs → lv_has ls 4 [(0, .ref (ad 5)), (1, .int x1), (2, .int x2), (3, .int x3)] → W p l e (rmD 2 0 0) s m [.ref (ad 5), .int x1, .int x2, .int x3].toArray below meth c H locs 0 0 (MQ below (QV D K (fun (u : tSt) => okX u ∧ frA [(2, 4), (2, 5), (2, 6), (2, 7), (5, 7), (5, 9), (5, 10), (5, 15), (5, 16), (5, 17), (5, 19), (23, 3), (23, 6), (23, 12)] [] [47] [25] t u) (fun (u : tSt) => (WX d) K ad u) A) [.ref (ad 5), .int x1, .int x2, .int x3].toArray s 0 0 A) (F0 m 46 ls [.int k46_1, .ref (ad 5)]) := by
    intro t1 k46_1 H locs ls hok hfr hk46_1 hf46_7 hf46_9 hP hD hS hl
    have h_3 : (0 : Int) ≤ (t1.1 2 4).toInt ∧ (t1.1 2 4).toInt ≤ 1281 := hok.1 2 4
    have h_4 : (0 : Int) ≤ (t1.1 2 7).toInt ∧ (t1.1 2 7).toInt ≤ 1280 := hok.1 2 7
    refine k_put (ws' := (WX d) K ad (uI t1 5 10 k46_1)) (v := .int k46_1) C hP hD hS 5 rfl rfl inlX0 tyX0_ok nmX0 10 (by decide) m_12_4 rfl rfl rfl rfl rfl dX0_open_46 (fun H locs hP hD hS => ?_)
    have hok : okX (uI t1 5 10 k46_1) := ⟨okI_I hok.1 5 10 k46_1 (show (-3999 : Int) ≤ (k46_1 : Int32).toInt ∧ (k46_1 : Int32).toInt ≤ 0 from ⟨by omega, by omega⟩), hok.2.1, trivial⟩
    have hfr : frA [(2, 4), (2, 5), (2, 6), (2, 7), (5, 7), (5, 9), (5, 10), (5, 15), (5, 16), (5, 17), (5, 19), (23, 3), (23, 6), (23, 12)] [] [47] [25] t (uI t1 5 10 k46_1) := frA_I hfr 5 10 _ rfl
    refine lv_aload_n C.1 C.2.1 dX0_open_49 rfl (lv_at hl 0 rfl) ?_
    refine lv_iconst (v := 0) C.1 C.2.1 dX0_open_50 (by decide) ?_
    refine k_put (ws' := (WX d) K ad (uI (uI t1 5 10 k46_1) 5 15 0)) (v := .int 0) C hP hD hS 5 rfl rfl inlX0 tyX0_ok nmX0 15 (by decide) m_12_5 rfl rfl rfl rfl rfl dX0_open_51 (fun H locs hP hD hS => ?_)
    have hok : okX (uI (uI t1 5 10 k46_1) 5 15 0) := ⟨okI_I hok.1 5 15 0 (show (-2147483648 : Int) ≤ (0 : Int32).toInt ∧ (0 : Int32).toInt ≤ 2147483647 from (i_rng _)), hok.2.1, trivial⟩
    have hfr : frA [(2, 4), (2, 5), (2, 6), (2, 7), (5, 7), (5, 9), (5, 10), (5, 15), (5, 16), (5, 17), (5, 19), (23, 3), (23, 6), (23, 12)] [] [47] [25] t (uI (uI t1 5 10 k46_1) 5 15 0) := frA_I hfr 5 15 _ rfl
    refine lv_aload_n C.1 C.2.1 dX0_open_54 rfl (lv_at hl 0 rfl) ?_
    refine lv_iconst (v := 0) C.1 C.2.1 dX0_open_55 (by decide) ?_
    refine k_put (ws' := (WX d) K ad (uI (uI (uI t1 5 10 k46_1) 5 15 0) 5 16 0)) (v := .int 0) C hP hD hS 5 rfl rfl inlX0 tyX0_ok nmX0 16 (by decide) m_12_6 rfl rfl rfl rfl rfl dX0_open_56 (fun H locs hP hD hS => ?_)
    have hok : okX (uI (uI (uI t1 5 10 k46_1) 5 15 0) 5 16 0) := ⟨okI_I hok.1 5 16 0 (show (-2147483648 : Int) ≤ (0 : Int32).toInt ∧ (0 : Int32).toInt ≤ 2147483647 from (i_rng _)), hok.2.1, trivial⟩
    have hfr : frA [(2, 4), (2, 5), (2, 6), (2, 7), (5, 7), (5, 9), (5, 10), (5, 15), (5, 16), (5, 17), (5, 19), (23, 3), (23, 6), (23, 12)] [] [47] [25] t (uI (uI (uI t1 5 10 k46_1) 5 15 0) 5 16 0) := frA_I hfr 5 16 _ rfl
    refine lv_aload_n C.1 C.2.1 dX0_open_59 rfl (lv_at hl 0 rfl) ?_
    refine lv_iconst (v := 0) C.1 C.2.1 dX0_open_60 (by decide) ?_
    refine k_put (ws' := (WX d) K ad (uI (uI (uI (uI t1 5 10 k46_1) 5 15 0) 5 16 0) 5 17 0)) (v := .int 0) C hP hD hS 5 rfl rfl inlX0 tyX0_ok nmX0 17 (by decide) m_12_7 rfl rfl rfl rfl rfl dX0_open_61 (fun H locs hP hD hS => ?_)
    have hok : okX (uI (uI (uI (uI t1 5 10 k46_1) 5 15 0) 5 16 0) 5 17 0) := ⟨okI_I hok.1 5 17 0 (show (-1073741824 : Int) ≤ (0 : Int32).toInt ∧ (0 : Int32).toInt ≤ 1073741823 from ⟨by decide, by decide⟩), hok.2.1, trivial⟩
    have hfr : frA [(2, 4), (2, 5), (2, 6), (2, 7), (5, 7), (5, 9), (5, 10), (5, 15), (5, 16), (5, 17), (5, 19), (23, 3), (23, 6), (23, 12)] [] [47] [25] t (uI (uI (uI (uI t1 5 10 k46_1) 5 15 0) 5 16 0) 5 17 0) := frA_I hfr 5 17 _ rfl
    refine lv_aload_n C.1 C.2.1 dX0_open_64 rfl (lv_at hl 0 rfl) ?_
    refine lv_iconst (v := 0) C.1 C.2.1 dX0_open_65 (by decide) ?_
    refine k_put (ws' := (WX d) K ad (uI (uI (uI (uI (uI t1 5 10 k46_1) 5 15 0) 5 16 0) 5 17 0) 5 19 0)) (v := .int 0) C hP hD hS 5 rfl rfl inlX0 tyX0_ok nmX0 19 (by decide) m_12_8 rfl (by decide) (by decide) rfl rfl dX0_open_66 (fun H locs hP hD hS => ?_)
    have hok : okX (uI (uI (uI (uI (uI t1 5 10 k46_1) 5 15 0) 5 16 0) 5 17 0) 5 19 0) := ⟨okI_I hok.1 5 19 0 (show (0 : Int) ≤ (0 : Int32).toInt ∧ (0 : Int32).toInt ≤ 1 from ⟨by decide, by decide⟩), hok.2.1, trivial⟩
    have hfr : frA [(2, 4), (2, 5), (2, 6), (2, 7), (5, 7), (5, 9), (5, 10), (5, 15), (5, 16), (5, 17), (5, 19), (23, 3), (23, 6), (23, 12)] [] [47] [25] t (uI (uI (uI (uI (uI t1 5 10 k46_1) 5 15 0) 5 16 0) 5 17 0) 5 19 0) := frA_I hfr 5 19 _ rfl
    exact g_vret C hr hlocks hP hD hS (uI (uI (uI (uI (uI t1 5 10 k46_1) 5 15 0) 5 16 0) 5 17 0) 5 19 0) rfl ⟨hok, hfr⟩ (Nat.le_of_ble_eq_true rfl) (Nat.le_of_ble_eq_true rfl) dX0_open_69
  refine lv_aload_n C.1 C.2.1 dX0_open_0 rfl (lv_at hl 0 rfl) ?_
  refine k_get (v := .ref (ad 2)) C hP 5 rfl rfl inlX0 0 (by decide) m_5_17 rfl dX0_open_1 ?_
  refine lv_iload_n C.1 C.2.1 dX0_open_4 rfl (lv_at hl 1 rfl) ?_
  refine lv_iload_n C.1 C.2.1 dX0_open_5 rfl (lv_at hl 2 rfl) ?_
  refine g_Vv (As := [.int x1, .int x2]) (rest := []) C hP hD hS hA (T_X9_open_1 l D K Z Y ad d t hok (x1) (show (0 : Int) ≤ (x1 : Int32).toInt ∧ (x1 : Int32).toInt ≤ 1281 from ⟨by omega, by omega⟩) (x2) (show (0 : Int) ≤ (x2 : Int32).toInt ∧ (x2 : Int32).toInt ≤ 1280 from ⟨by omega, by omega⟩)) hE hZ (uwV m_12_9 m_12_10 m_12_11 m_1_17 m_12_12) (hdV 2 (by decide +kernel) rfl) ⟨Nat.le_of_ble_eq_true rfl, Nat.le_of_ble_eq_true rfl⟩ rfl rfl (ci := 8) (q0 := 2) rfl rfl rfl hl.1 (Nat.le_of_ble_eq_true rfl) dX0_open_6 ⟨Nat.le_of_ble_eq_true rfl, Nat.le_of_ble_eq_true rfl⟩ (fun t_5 H locs hw hP hD hS => ?_)
  obtain ⟨hok, f_7, p_8, p_9⟩ := hw
  have hfr : frA [(2, 4), (2, 5), (2, 6), (2, 7), (5, 7), (5, 9), (5, 10), (5, 15), (5, 16), (5, 17), (5, 19), (23, 3), (23, 6), (23, 12)] [] [47] [25] t t_5 := frA_tr hfr f_7 rfl
  have h_10 : (0 : Int) ≤ (t_5.1 2 4).toInt ∧ (t_5.1 2 4).toInt ≤ 1281 := hok.1 2 4
  have h_11 : (0 : Int) ≤ (t_5.1 2 7).toInt ∧ (t_5.1 2 7).toInt ≤ 1280 := hok.1 2 7
  replace p_8 : (t_5.1 2 4).toInt = x1.toInt := p_8
  replace p_9 : (t_5.1 2 7).toInt = x2.toInt := p_9
  refine lv_aload_n C.1 C.2.1 dX0_open_9 rfl (lv_at hl 0 rfl) ?_
  refine k_get (v := .ref (ad 23)) C hP 5 rfl rfl inlX0 2 (by decide) m_5_19 rfl dX0_open_10 ?_
  refine g_Vv (As := []) (rest := []) C hP hD hS hA (T_X8_clear l D K Z Y ad d t_5 hok ) hE hZ (uwV m_13_4 m_13_5 m_13_6 m_2_5 m_13_7) (hdV 0 (by decide +kernel) rfl) ⟨Nat.le_of_ble_eq_true rfl, Nat.le_of_ble_eq_true rfl⟩ rfl rfl (ci := 7) (q0 := 23) rfl rfl rfl hl.1 (Nat.le_of_ble_eq_true rfl) dX0_open_13 ⟨Nat.le_of_ble_eq_true rfl, Nat.le_of_ble_eq_true rfl⟩ (fun t_12 H locs hw hP hD hS => ?_)
  obtain ⟨hok, f_14⟩ := hw
  have hfr : frA [(2, 4), (2, 5), (2, 6), (2, 7), (5, 7), (5, 9), (5, 10), (5, 15), (5, 16), (5, 17), (5, 19), (23, 3), (23, 6), (23, 12)] [] [47] [25] t t_12 := frA_tr hfr f_14 rfl
  have h_15 : (t_12.1 2 4).toInt = (t_5.1 2 4).toInt := ti_eq (f_14.1 2 4 rfl)
  have h_16 : (t_12.1 2 7).toInt = (t_5.1 2 7).toInt := ti_eq (f_14.1 2 7 rfl)
  have h_17 : (0 : Int) ≤ (t_12.1 2 4).toInt ∧ (t_12.1 2 4).toInt ≤ 1281 := hok.1 2 4
  have h_18 : (0 : Int) ≤ (t_12.1 2 7).toInt ∧ (t_12.1 2 7).toInt ≤ 1280 := hok.1 2 7
  refine lv_aload_n C.1 C.2.1 dX0_open_16 rfl (lv_at hl 0 rfl) ?_
  refine k_get (v := .ref (ad 25)) C hP 5 rfl rfl inlX0 4 (by decide) m_5_13 rfl dX0_open_17 ?_
  refine lv_lconst (v := 0) C.1 C.2.1 dX0_open_20 (by decide) ?_
  refine g_Sv (W' := fun (_ : Unit) => (WX d) K ad (fG t_12 25 0)) (As := [.ref (ad 25), .long 0]) (rest := []) C hP hD hS hA (TJ_fillL l D K Z Y ((WX d) K ad t_12) 25 (ad 25) 63 (by decide) _ 0 0 rfl rfl) hE hZ (uwS m_13_11 m_11_20 m_11_12 m_11_21) (hdS 2 (by decide +kernel) rfl) ⟨Nat.le_of_ble_eq_true rfl, Nat.le_of_ble_eq_true rfl⟩ rfl rfl rfl hl.1 (Nat.le_of_ble_eq_true rfl) dX0_open_21 ⟨Nat.le_of_ble_eq_true rfl, Nat.le_of_ble_eq_true rfl⟩ (fun u_ H locs hw hP hD hS => ?_)
  have hok : okX (fG t_12 25 0) := ⟨hok.1, hok.2.1, trivial⟩
  have hfr : frA [(2, 4), (2, 5), (2, 6), (2, 7), (5, 7), (5, 9), (5, 10), (5, 15), (5, 16), (5, 17), (5, 19), (23, 3), (23, 6), (23, 12)] [] [47] [25] t (fG t_12 25 0) := frA_fG hfr 25 _ rfl
  refine lv_aload_n C.1 C.2.1 dX0_open_24 rfl (lv_at hl 0 rfl) ?_
  refine lv_iconst (v := 0) C.1 C.2.1 dX0_open_25 (by decide) ?_
  refine k_put (ws' := (WX d) K ad (uI (fG t_12 25 0) 5 7 0)) (v := .int 0) C hP hD hS 5 rfl rfl inlX0 tyX0_ok nmX0 7 (by decide) m_12_2 rfl rfl rfl rfl rfl dX0_open_26 (fun H locs hP hD hS => ?_)
  have hok : okX (uI (fG t_12 25 0) 5 7 0) := ⟨okI_I hok.1 5 7 0 (show (0 : Int) ≤ (0 : Int32).toInt ∧ (0 : Int32).toInt ≤ 1024 from ⟨by decide, by decide⟩), hok.2.1, trivial⟩
  have hfr : frA [(2, 4), (2, 5), (2, 6), (2, 7), (5, 7), (5, 9), (5, 10), (5, 15), (5, 16), (5, 17), (5, 19), (23, 3), (23, 6), (23, 12)] [] [47] [25] t (uI (fG t_12 25 0) 5 7 0) := frA_I hfr 5 7 _ rfl
  refine lv_aload_n C.1 C.2.1 dX0_open_29 rfl (lv_at hl 0 rfl) ?_
  refine lv_iconst (v := 0) C.1 C.2.1 dX0_open_30 (by decide) ?_
  refine k_put (ws' := (WX d) K ad (uI (uI (fG t_12 25 0) 5 7 0) 5 9 0)) (v := .int 0) C hP hD hS 5 rfl rfl inlX0 tyX0_ok nmX0 9 (by decide) m_12_3 rfl rfl rfl rfl rfl dX0_open_31 (fun H locs hP hD hS => ?_)
  have hok : okX (uI (uI (fG t_12 25 0) 5 7 0) 5 9 0) := ⟨okI_I hok.1 5 9 0 (show (-1073741824 : Int) ≤ (0 : Int32).toInt ∧ (0 : Int32).toInt ≤ 1073741824 from ⟨by decide, by decide⟩), hok.2.1, trivial⟩
  have hfr : frA [(2, 4), (2, 5), (2, 6), (2, 7), (5, 7), (5, 9), (5, 10), (5, 15), (5, 16), (5, 17), (5, 19), (23, 3), (23, 6), (23, 12)] [] [47] [25] t (uI (uI (fG t_12 25 0) 5 7 0) 5 9 0) := frA_I hfr 5 9 _ rfl
  refine lv_aload_n C.1 C.2.1 dX0_open_34 rfl (lv_at hl 0 rfl) ?_
  refine lv_iload_n C.1 C.2.1 dX0_open_35 rfl (lv_at hl 3 rfl) ?_
  refine lv_if_eq (tgt := 43) C.1 C.2.1 dX0_open_36 (by decide) (fun c_19 => ?_) (fun c_19 => ?_)
  · replace c_19 : x3.toInt = 0 := i_eq c_19
    refine lv_sipush (v := (-3999)) C.1 C.2.1 dX0_open_43 (by decide) ?_
    exact L_46 (uI (uI (fG t_12 25 0) 5 7 0) 5 9 0) (-3999) _ _ _ hok hfr ⟨by decide, by decide⟩ (show (0 : Int) ≤ (0 : Int32).toInt ∧ (0 : Int32).toInt ≤ 0 from ⟨by decide, by decide⟩) (show (0 : Int) ≤ (0 : Int32).toInt ∧ (0 : Int32).toInt ≤ 0 from ⟨by decide, by decide⟩) hP hD hS (lv_sub hl [0, 1, 2, 3] rfl)
  · replace c_19 : ¬ x3.toInt = 0 := i_ne c_19
    refine lv_iconst (v := 0) C.1 C.2.1 dX0_open_39 (by decide) ?_
    refine lv_goto (tgt := 46) C.1 C.2.1 dX0_open_40 (by decide) ?_
    exact L_46 (uI (uI (fG t_12 25 0) 5 7 0) 5 9 0) 0 _ _ _ hok hfr ⟨by decide, by decide⟩ (show (0 : Int) ≤ (0 : Int32).toInt ∧ (0 : Int32).toInt ≤ 0 from ⟨by decide, by decide⟩) (show (0 : Int) ≤ (0 : Int32).toInt ∧ (0 : Int32).toInt ≤ 0 from ⟨by decide, by decide⟩) hP hD hS (lv_sub hl [0, 1, 2, 3] rfl)

theorem dX3_isJob_0 : decode cX3_isJob 0 = .ok (.aload_n 0, 1) := by decide +kernel
theorem dX3_isJob_1 : decode cX3_isJob 1 = .ok (.getfield 21, 3) := by decide +kernel
theorem dX3_isJob_10 : decode cX3_isJob 10 = .ok (.ifCond .ne 5, 3) := by decide +kernel
theorem dX3_isJob_102 : decode cX3_isJob 102 = .ok (.iload_n 2, 1) := by decide +kernel
theorem dX3_isJob_103 : decode cX3_isJob 103 = .ok (.iconst 1, 1) := by decide +kernel
theorem dX3_isJob_104 : decode cX3_isJob 104 = .ok (.isub, 1) := by decide +kernel
theorem dX3_isJob_105 : decode cX3_isJob 105 = .ok (.invokevirtual 94, 3) := by decide +kernel
theorem dX3_isJob_108 : decode cX3_isJob 108 = .ok (.ifCond .eq 18, 3) := by decide +kernel
theorem dX3_isJob_111 : decode cX3_isJob 111 = .ok (.iload_n 3, 1) := by decide +kernel
theorem dX3_isJob_112 : decode cX3_isJob 112 = .ok (.iconst 1, 1) := by decide +kernel
theorem dX3_isJob_113 : decode cX3_isJob 113 = .ok (.if_icmp .lt 13, 3) := by decide +kernel
theorem dX3_isJob_116 : decode cX3_isJob 116 = .ok (.iload_n 3, 1) := by decide +kernel
theorem dX3_isJob_117 : decode cX3_isJob 117 = .ok (.iconst 5, 1) := by decide +kernel
theorem dX3_isJob_118 : decode cX3_isJob 118 = .ok (.if_icmp .gt 8, 3) := by decide +kernel
theorem dX3_isJob_121 : decode cX3_isJob 121 = .ok (.iload 4, 2) := by decide +kernel
theorem dX3_isJob_123 : decode cX3_isJob 123 = .ok (.ifCond .ge 5, 3) := by decide +kernel
theorem dX3_isJob_126 : decode cX3_isJob 126 = .ok (.iconst 0, 1) := by decide +kernel
theorem dX3_isJob_127 : decode cX3_isJob 127 = .ok (.ireturn, 1) := by decide +kernel
theorem dX3_isJob_128 : decode cX3_isJob 128 = .ok (.iconst 0, 1) := by decide +kernel
theorem dX3_isJob_129 : decode cX3_isJob 129 = .ok (.istore 5, 2) := by decide +kernel
theorem dX3_isJob_13 : decode cX3_isJob 13 = .ok (.iconst 0, 1) := by decide +kernel
theorem dX3_isJob_131 : decode cX3_isJob 131 = .ok (.iload 5, 2) := by decide +kernel
theorem dX3_isJob_133 : decode cX3_isJob 133 = .ok (.bipush 10, 2) := by decide +kernel
theorem dX3_isJob_135 : decode cX3_isJob 135 = .ok (.if_icmp .ge 39, 3) := by decide +kernel
theorem dX3_isJob_138 : decode cX3_isJob 138 = .ok (.aload_n 0, 1) := by decide +kernel
theorem dX3_isJob_139 : decode cX3_isJob 139 = .ok (.getfield 11, 3) := by decide +kernel
theorem dX3_isJob_14 : decode cX3_isJob 14 = .ok (.ireturn, 1) := by decide +kernel
theorem dX3_isJob_142 : decode cX3_isJob 142 = .ok (.iload 5, 2) := by decide +kernel
theorem dX3_isJob_144 : decode cX3_isJob 144 = .ok (.iload 5, 2) := by decide +kernel
theorem dX3_isJob_146 : decode cX3_isJob 146 = .ok (.iload_n 1, 1) := by decide +kernel
theorem dX3_isJob_147 : decode cX3_isJob 147 = .ok (.if_icmp .ge 18, 3) := by decide +kernel
theorem dX3_isJob_15 : decode cX3_isJob 15 = .ok (.iconst 0, 1) := by decide +kernel
theorem dX3_isJob_150 : decode cX3_isJob 150 = .ok (.aload_n 0, 1) := by decide +kernel
theorem dX3_isJob_151 : decode cX3_isJob 151 = .ok (.getfield 21, 3) := by decide +kernel
theorem dX3_isJob_154 : decode cX3_isJob 154 = .ok (.getfield 100, 3) := by decide +kernel
theorem dX3_isJob_157 : decode cX3_isJob 157 = .ok (.iconst 5, 1) := by decide +kernel
theorem dX3_isJob_158 : decode cX3_isJob 158 = .ok (.iload 5, 2) := by decide +kernel
theorem dX3_isJob_16 : decode cX3_isJob 16 = .ok (.istore_n 1, 1) := by decide +kernel
theorem dX3_isJob_160 : decode cX3_isJob 160 = .ok (.iadd, 1) := by decide +kernel
theorem dX3_isJob_161 : decode cX3_isJob 161 = .ok (.baload, 1) := by decide +kernel
theorem dX3_isJob_162 : decode cX3_isJob 162 = .ok (.goto 5, 3) := by decide +kernel
theorem dX3_isJob_165 : decode cX3_isJob 165 = .ok (.bipush 32, 2) := by decide +kernel
theorem dX3_isJob_167 : decode cX3_isJob 167 = .ok (.bastore, 1) := by decide +kernel
theorem dX3_isJob_168 : decode cX3_isJob 168 = .ok (.iinc 5 1, 3) := by decide +kernel
theorem dX3_isJob_17 : decode cX3_isJob 17 = .ok (.iload_n 1, 1) := by decide +kernel
theorem dX3_isJob_171 : decode cX3_isJob 171 = .ok (.goto (-40), 3) := by decide +kernel
theorem dX3_isJob_174 : decode cX3_isJob 174 = .ok (.aload_n 0, 1) := by decide +kernel
theorem dX3_isJob_175 : decode cX3_isJob 175 = .ok (.aload_n 0, 1) := by decide +kernel
theorem dX3_isJob_176 : decode cX3_isJob 176 = .ok (.getfield 21, 3) := by decide +kernel
theorem dX3_isJob_179 : decode cX3_isJob 179 = .ok (.iload_n 2, 1) := by decide +kernel
theorem dX3_isJob_18 : decode cX3_isJob 18 = .ok (.bipush 11, 2) := by decide +kernel
theorem dX3_isJob_180 : decode cX3_isJob 180 = .ok (.iload_n 3, 1) := by decide +kernel
theorem dX3_isJob_181 : decode cX3_isJob 181 = .ok (.invokevirtual 115, 3) := by decide +kernel
theorem dX3_isJob_184 : decode cX3_isJob 184 = .ok (.l2i, 1) := by decide +kernel
theorem dX3_isJob_185 : decode cX3_isJob 185 = .ok (.putfield 119, 3) := by decide +kernel
theorem dX3_isJob_188 : decode cX3_isJob 188 = .ok (.aload_n 0, 1) := by decide +kernel
theorem dX3_isJob_189 : decode cX3_isJob 189 = .ok (.iload 4, 2) := by decide +kernel
theorem dX3_isJob_191 : decode cX3_isJob 191 = .ok (.putfield 33, 3) := by decide +kernel
theorem dX3_isJob_194 : decode cX3_isJob 194 = .ok (.iconst 1, 1) := by decide +kernel
theorem dX3_isJob_195 : decode cX3_isJob 195 = .ok (.ireturn, 1) := by decide +kernel
theorem dX3_isJob_20 : decode cX3_isJob 20 = .ok (.if_icmp .ge 26, 3) := by decide +kernel
theorem dX3_isJob_23 : decode cX3_isJob 23 = .ok (.aload_n 0, 1) := by decide +kernel
theorem dX3_isJob_24 : decode cX3_isJob 24 = .ok (.getfield 21, 3) := by decide +kernel
theorem dX3_isJob_27 : decode cX3_isJob 27 = .ok (.getfield 100, 3) := by decide +kernel
theorem dX3_isJob_30 : decode cX3_isJob 30 = .ok (.iconst 5, 1) := by decide +kernel
theorem dX3_isJob_31 : decode cX3_isJob 31 = .ok (.iload_n 1, 1) := by decide +kernel
theorem dX3_isJob_32 : decode cX3_isJob 32 = .ok (.iadd, 1) := by decide +kernel
theorem dX3_isJob_33 : decode cX3_isJob 33 = .ok (.baload, 1) := by decide +kernel
theorem dX3_isJob_34 : decode cX3_isJob 34 = .ok (.invokestatic 103, 3) := by decide +kernel
theorem dX3_isJob_37 : decode cX3_isJob 37 = .ok (.ifCond .le 9, 3) := by decide +kernel
theorem dX3_isJob_4 : decode cX3_isJob 4 = .ok (.iconst 0, 1) := by decide +kernel
theorem dX3_isJob_40 : decode cX3_isJob 40 = .ok (.iinc 1 1, 3) := by decide +kernel
theorem dX3_isJob_43 : decode cX3_isJob 43 = .ok (.goto (-26), 3) := by decide +kernel
theorem dX3_isJob_46 : decode cX3_isJob 46 = .ok (.bipush 6, 2) := by decide +kernel
theorem dX3_isJob_48 : decode cX3_isJob 48 = .ok (.iload_n 1, 1) := by decide +kernel
theorem dX3_isJob_49 : decode cX3_isJob 49 = .ok (.iadd, 1) := by decide +kernel
theorem dX3_isJob_5 : decode cX3_isJob 5 = .ok (.ldc 98, 2) := by decide +kernel
theorem dX3_isJob_50 : decode cX3_isJob 50 = .ok (.istore_n 2, 1) := by decide +kernel
theorem dX3_isJob_51 : decode cX3_isJob 51 = .ok (.iconst 0, 1) := by decide +kernel
theorem dX3_isJob_52 : decode cX3_isJob 52 = .ok (.istore_n 3, 1) := by decide +kernel
theorem dX3_isJob_53 : decode cX3_isJob 53 = .ok (.iload_n 3, 1) := by decide +kernel
theorem dX3_isJob_54 : decode cX3_isJob 54 = .ok (.bipush 6, 2) := by decide +kernel
theorem dX3_isJob_56 : decode cX3_isJob 56 = .ok (.if_icmp .ge 22, 3) := by decide +kernel
theorem dX3_isJob_59 : decode cX3_isJob 59 = .ok (.aload_n 0, 1) := by decide +kernel
theorem dX3_isJob_60 : decode cX3_isJob 60 = .ok (.getfield 21, 3) := by decide +kernel
theorem dX3_isJob_63 : decode cX3_isJob 63 = .ok (.iload_n 2, 1) := by decide +kernel
theorem dX3_isJob_64 : decode cX3_isJob 64 = .ok (.iload_n 3, 1) := by decide +kernel
theorem dX3_isJob_65 : decode cX3_isJob 65 = .ok (.iadd, 1) := by decide +kernel
theorem dX3_isJob_66 : decode cX3_isJob 66 = .ok (.invokevirtual 109, 3) := by decide +kernel
theorem dX3_isJob_69 : decode cX3_isJob 69 = .ok (.ifCond .eq 9, 3) := by decide +kernel
theorem dX3_isJob_7 : decode cX3_isJob 7 = .ok (.invokevirtual 85, 3) := by decide +kernel
theorem dX3_isJob_72 : decode cX3_isJob 72 = .ok (.iinc 3 1, 3) := by decide +kernel
theorem dX3_isJob_75 : decode cX3_isJob 75 = .ok (.goto (-22), 3) := by decide +kernel
theorem dX3_isJob_78 : decode cX3_isJob 78 = .ok (.aload_n 0, 1) := by decide +kernel
theorem dX3_isJob_79 : decode cX3_isJob 79 = .ok (.iload_n 2, 1) := by decide +kernel
theorem dX3_isJob_80 : decode cX3_isJob 80 = .ok (.iload_n 3, 1) := by decide +kernel
theorem dX3_isJob_81 : decode cX3_isJob 81 = .ok (.iadd, 1) := by decide +kernel
theorem dX3_isJob_82 : decode cX3_isJob 82 = .ok (.invokevirtual 112, 3) := by decide +kernel
theorem dX3_isJob_85 : decode cX3_isJob 85 = .ok (.istore 4, 2) := by decide +kernel
theorem dX3_isJob_87 : decode cX3_isJob 87 = .ok (.iload_n 1, 1) := by decide +kernel
theorem dX3_isJob_88 : decode cX3_isJob 88 = .ok (.iconst 1, 1) := by decide +kernel
theorem dX3_isJob_89 : decode cX3_isJob 89 = .ok (.if_icmp .lt 37, 3) := by decide +kernel
theorem dX3_isJob_92 : decode cX3_isJob 92 = .ok (.iload_n 1, 1) := by decide +kernel
theorem dX3_isJob_93 : decode cX3_isJob 93 = .ok (.bipush 10, 2) := by decide +kernel
theorem dX3_isJob_95 : decode cX3_isJob 95 = .ok (.if_icmp .gt 31, 3) := by decide +kernel
theorem dX3_isJob_98 : decode cX3_isJob 98 = .ok (.aload_n 0, 1) := by decide +kernel
theorem dX3_isJob_99 : decode cX3_isJob 99 = .ok (.getfield 21, 3) := by decide +kernel
set_option maxHeartbeats 4000000 in
set_option maxRecDepth 100000 in
theorem T_X3_isJob (l : Launch) (D : va_G) (K : Nat → ClassId) (Z Y : Nat → Nat) (ad : Nat → Nat) (d : dSt) (t : tSt) (hok : okX t)  : tMet l yX3_isJob cX3_isJob 6 (some .boolean) (rmD 6 0 0) D K Z Y [.ref (ad 7)] ((WX d) K ad t) (QI D K (fun (r : Int32) (u : tSt) => okX u ∧ frA [(7, 2), (7, 3)] [] [30] [] t u ∧ (0 : Int) ≤ r.toInt ∧ r.toInt ≤ 1) (fun (u : tSt) => (WX d) K ad u)) 0 0 := by
  refine t_met RX3 ⟨rfl, by decide +kernel⟩ (Nat.le_of_ble_eq_true rfl) ?_
  intro p e s m below meth c A ls C hE hZ hr hlocks hA hP hD hS hl
  have hl : lv_has ls 6 [(0, .ref (ad 7))] := hl
  have hokt := hok
  have hfr : frA [(7, 2), (7, 3)] [] [30] [] t t := frA_rf
  have L_131 : ∀ (fuel_131 : Nat) (t1 : tSt) (w131_1 : Int32) (w131_2 : Int32) (w131_3 : Int32) (w131_4 : Int32) (w131_5 : Int32) (H : Heap) (locs : List Loc) (ls : Array Slot), okX t1 → frA [(7, 2), (7, 3)] [] [30] [] t t1 → (1 : Int) ≤ w131_1.toInt ∧ w131_1.toInt ≤ 10 → (6 : Int) ≤ w131_2.toInt ∧ w131_2.toInt ≤ 21 → (1 : Int) ≤ w131_3.toInt ∧ w131_3.toInt ≤ 5 → (0 : Int) ≤ w131_4.toInt ∧ w131_4.toInt ≤ 2147483647 → (0 : Int) ≤ w131_5.toInt ∧ w131_5.toInt ≤ 10 → (10 : Int) - w131_5.toInt < (fuel_131 : Int) → va_P D vwCl ((WX d) K ad t1) H → va_D A ((WX d) K ad t1) → va_S A s.heap H locs → lv_has ls 6 [(0, .ref (ad 7)), (1, .int w131_1), (2, .int w131_2), (3, .int w131_3), (4, .int w131_4), (5, .int w131_5)] → W p l e (rmD 6 0 0) s m [.ref (ad 7)].toArray below meth c H locs 0 0 (MQ below (QI D K (fun (r : Int32) (u : tSt) => okX u ∧ frA [(7, 2), (7, 3)] [] [30] [] t u ∧ (0 : Int) ≤ r.toInt ∧ r.toInt ≤ 1) (fun (u : tSt) => (WX d) K ad u) A) [.ref (ad 7)].toArray s 0 0 A) (F0 m 131 ls []) := by
    intro fuel_131
    induction fuel_131 with
    | zero =>
      intro t1 w131_1 w131_2 w131_3 w131_4 w131_5 H locs ls hok hfr hw131_1 hw131_2 hw131_3 hw131_4 hw131_5 hm131_131 hP hD hS hl
      have e_1 : t1.2.2.1 51 = t.2.2.1 51 := hfr.2.2.1 51 rfl
      exact absurd hm131_131 (by omega)
    | succ fuel_131 ih_131 =>
      intro t1 w131_1 w131_2 w131_3 w131_4 w131_5 H locs ls hok hfr hw131_1 hw131_2 hw131_3 hw131_4 hw131_5 hm131_131 hP hD hS hl
      have hm131_131 : (10 : Int) - w131_5.toInt < (fuel_131 : Int) + 1 := by omega
      have e_2 : t1.2.2.1 51 = t.2.2.1 51 := hfr.2.2.1 51 rfl
      have L_167 : ∀ (t1 : tSt) (w167_1 : Int32) (w167_2 : Int32) (w167_3 : Int32) (w167_4 : Int32) (w167_5 : Int32) (k167_1 : Int32) (k167_2 : Int32) (H : Heap) (locs : List Loc) (ls : Array Slot), okX t1 → frA [(7, 2), (7, 3)] [] [30] [] t t1 → (1 : Int) ≤ w167_1.toInt ∧ w167_1.toInt ≤ 10 → (6 : Int) ≤ w167_2.toInt ∧ w167_2.toInt ≤ 21 → (1 : Int) ≤ w167_3.toInt ∧ w167_3.toInt ≤ 5 → (0 : Int) ≤ w167_4.toInt ∧ w167_4.toInt ≤ 2147483647 → (0 : Int) ≤ w167_5.toInt ∧ w167_5.toInt ≤ 9 → (0 : Int) ≤ k167_1.toInt ∧ k167_1.toInt ≤ 9 → (-128 : Int) ≤ k167_2.toInt ∧ k167_2.toInt ≤ 127 → (10 : Int) - w167_5.toInt < (fuel_131 : Int) + 1 → va_P D vwCl ((WX d) K ad t1) H → va_D A ((WX d) K ad t1) → va_S A s.heap H locs → lv_has ls 6 [(0, .ref (ad 7)), (1, .int w167_1), (2, .int w167_2), (3, .int w167_3), (4, .int w167_4), (5, .int w167_5)] → W p l e (rmD 6 0 0) s m [.ref (ad 7)].toArray below meth c H locs 0 0 (MQ below (QI D K (fun (r : Int32) (u : tSt) => okX u ∧ frA [(7, 2), (7, 3)] [] [30] [] t u ∧ (0 : Int) ≤ r.toInt ∧ r.toInt ≤ 1) (fun (u : tSt) => (WX d) K ad u) A) [.ref (ad 7)].toArray s 0 0 A) (F0 m 167 ls [.int k167_2, .int k167_1, .ref (ad 30)]) := by
        intro t1 w167_1 w167_2 w167_3 w167_4 w167_5 k167_1 k167_2 H locs ls hok hfr hw167_1 hw167_2 hw167_3 hw167_4 hw167_5 hk167_1 hk167_2 hm167_131 hP hD hS hl
        have e_3 : t1.2.2.1 51 = t.2.2.1 51 := hfr.2.2.1 51 rfl
        obtain ⟨v_4, e_5⟩ : ∃ z, z = vp_nar .byte k167_2 := ⟨_, rfl⟩
        have h_6 : (-128 : Int) ≤ v_4.toInt ∧ v_4.toInt ≤ 127 := by rw [e_5]; exact nar_byte _
        refine k_bst (ws' := (WX d) K ad (uB t1 30 (k167_1 : Int32).toNatClampNeg v_4)) (x' := v_4) C hP hD hS 30 rfl (vp_in_iff.mpr ⟨by omega, by omega⟩) rfl e_5.symm rfl dX3_isJob_167 (fun H locs hP hD hS => ?_)
        have hok : okX (uB t1 30 (k167_1 : Int32).toNatClampNeg v_4) := ⟨hok.1, okB_B hok.2.1 30 _ v_4 (show (-128 : Int) ≤ (v_4 : Int32).toInt ∧ (v_4 : Int32).toInt ≤ 127 from ⟨by omega, by omega⟩), trivial⟩
        have hfr : frA [(7, 2), (7, 3)] [] [30] [] t (uB t1 30 (k167_1 : Int32).toNatClampNeg v_4) := frA_B hfr 30 _ _ rfl
        obtain ⟨v_7, e_8⟩ : ∃ z, z = w167_5 + 1 := ⟨_, rfl⟩
        have h_9 : v_7.toInt = w167_5.toInt + 1 := by rw [e_8]; exact ti_iadd (by show (_ : Int) ≤ w167_5.toInt + 1; omega) (by show w167_5.toInt + 1 < (_ : Int); omega)
        refine lv_iinc (v := v_7) (lv' := [(5, .int v_7), (0, .ref (ad 7)), (1, .int w167_1), (2, .int w167_2), (3, .int w167_3), (4, .int w167_4)]) C.1 C.2.1 dX3_isJob_168 hl (k := 5) rfl e_8.symm (by decide) rfl (fun ls hl => ?_)
        have hl : lv_has ls 6 [(0, .ref (ad 7)), (1, .int w167_1), (2, .int w167_2), (3, .int w167_3), (4, .int w167_4), (5, .int v_7)] := lv_sub hl [1, 2, 3, 4, 5, 0] rfl
        refine lv_goto (tgt := 131) C.1 C.2.1 dX3_isJob_171 (by decide) ?_
        exact ih_131 (uB t1 30 (k167_1 : Int32).toNatClampNeg v_4) w167_1 w167_2 w167_3 w167_4 v_7 _ _ _ hok hfr ⟨by omega, by omega⟩ ⟨by omega, by omega⟩ ⟨by omega, by omega⟩ ⟨by omega, (i_rng _).2⟩ ⟨by omega, by omega⟩ (show (10 : Int) - v_7.toInt < (fuel_131 : Int) from by omega) hP hD hS (lv_sub hl [0, 1, 2, 3, 4, 5] rfl)
      refine lv_iload C.1 C.2.1 dX3_isJob_131 (lv_at hl 5 rfl) ?_
      refine lv_bipush (v := 10) C.1 C.2.1 dX3_isJob_133 (by decide) ?_
      refine lv_icmp_ge (tgt := 174) C.1 C.2.1 dX3_isJob_135 (by decide) (fun c_10 => ?_) (fun c_10 => ?_)
      · replace c_10 : 10 ≤ w131_5.toInt := i_le c_10
        refine lv_aload_n C.1 C.2.1 dX3_isJob_174 rfl (lv_at hl 0 rfl) ?_
        refine lv_aload_n C.1 C.2.1 dX3_isJob_175 rfl (lv_at hl 0 rfl) ?_
        refine k_get (v := .ref (ad 29)) C hP 7 rfl rfl inlX3 0 (by decide) m_6_23 rfl dX3_isJob_176 ?_
        refine lv_iload_n C.1 C.2.1 dX3_isJob_179 rfl (lv_at hl 2 rfl) ?_
        refine lv_iload_n C.1 C.2.1 dX3_isJob_180 rfl (lv_at hl 3 rfl) ?_
        refine g_Vl (As := [.int w131_2, .int w131_3]) (rest := [.ref (ad 7)]) C hP hD hS hA (T_X9_digits l D K Z Y ad d t1 hok (w131_2) (show (6 : Int) ≤ (w131_2 : Int32).toInt ∧ (w131_2 : Int32).toInt ≤ 21 from ⟨by omega, by omega⟩) (w131_3) (show (1 : Int) ≤ (w131_3 : Int32).toInt ∧ (w131_3 : Int32).toInt ≤ 5 from ⟨by omega, by omega⟩) (show 0 ≤ w131_3.toInt from by omega)) hE hZ (uwV m_73_3 m_73_4 m_73_5 m_1_17 m_73_6) (hdV 2 (by decide +kernel) rfl) ⟨Nat.le_of_ble_eq_true rfl, Nat.le_of_ble_eq_true rfl⟩ rfl rfl (ci := 8) (q0 := 29) rfl rfl rfl hl.1 (Nat.le_of_ble_eq_true rfl) dX3_isJob_181 ⟨Nat.le_of_ble_eq_true rfl, Nat.le_of_ble_eq_true rfl⟩ (fun r_12 t_11 H locs hw hP hD hS => ?_)
        have p_14 := hw
        replace p_14 : w131_3.toInt ≤ 4 → -1 ≤ r_12.toInt ∧ r_12.toInt ≤ 9999 := p_14
        obtain ⟨v_15, e_16⟩ : ∃ z, z = (r_12).toInt32 := ⟨_, rfl⟩
        refine lv_l2i (v := v_15) C.1 C.2.1 dX3_isJob_184 e_16.symm ?_
        refine k_put (ws' := (WX d) K ad (uI t1 7 2 v_15)) (v := .int v_15) C hP hD hS 7 rfl rfl inlX3 tyX3_ok nmX3 2 (by decide) m_72_0 rfl rfl rfl rfl rfl dX3_isJob_185 (fun H locs hP hD hS => ?_)
        have hok : okX (uI t1 7 2 v_15) := ⟨okI_I hok.1 7 2 v_15 (show (-2147483648 : Int) ≤ (v_15 : Int32).toInt ∧ (v_15 : Int32).toInt ≤ 2147483647 from (i_rng _)), hok.2.1, trivial⟩
        have hfr : frA [(7, 2), (7, 3)] [] [30] [] t (uI t1 7 2 v_15) := frA_I hfr 7 2 _ rfl
        refine lv_aload_n C.1 C.2.1 dX3_isJob_188 rfl (lv_at hl 0 rfl) ?_
        refine lv_iload C.1 C.2.1 dX3_isJob_189 (lv_at hl 4 rfl) ?_
        refine k_put (ws' := (WX d) K ad (uI (uI t1 7 2 v_15) 7 3 w131_4)) (v := .int w131_4) C hP hD hS 7 rfl rfl inlX3 tyX3_ok nmX3 3 (by decide) m_72_1 rfl rfl rfl rfl rfl dX3_isJob_191 (fun H locs hP hD hS => ?_)
        have hok : okX (uI (uI t1 7 2 v_15) 7 3 w131_4) := ⟨okI_I hok.1 7 3 w131_4 (show (0 : Int) ≤ (w131_4 : Int32).toInt ∧ (w131_4 : Int32).toInt ≤ 2147483647 from ⟨by omega, (i_rng _).2⟩), hok.2.1, trivial⟩
        have hfr : frA [(7, 2), (7, 3)] [] [30] [] t (uI (uI t1 7 2 v_15) 7 3 w131_4) := frA_I hfr 7 3 _ rfl
        refine lv_iconst (v := 1) C.1 C.2.1 dX3_isJob_194 (by decide) ?_
        exact g_iret C hr hlocks hP hD hS (by decide) (uI (uI t1 7 2 v_15) 7 3 w131_4) rfl ⟨hok, hfr, by decide, by decide⟩ (Nat.le_of_ble_eq_true rfl) (Nat.le_of_ble_eq_true rfl) dX3_isJob_195
      · replace c_10 : w131_5.toInt < 10 := i_nle c_10
        refine lv_aload_n C.1 C.2.1 dX3_isJob_138 rfl (lv_at hl 0 rfl) ?_
        refine k_get (v := .ref (ad 30)) C hP 7 rfl rfl inlX3 1 (by decide) m_6_21 rfl dX3_isJob_139 ?_
        refine lv_iload C.1 C.2.1 dX3_isJob_142 (lv_at hl 5 rfl) ?_
        refine lv_iload C.1 C.2.1 dX3_isJob_144 (lv_at hl 5 rfl) ?_
        refine lv_iload_n C.1 C.2.1 dX3_isJob_146 rfl (lv_at hl 1 rfl) ?_
        refine lv_icmp_ge (tgt := 165) C.1 C.2.1 dX3_isJob_147 (by decide) (fun c_17 => ?_) (fun c_17 => ?_)
        · replace c_17 : w131_1.toInt ≤ w131_5.toInt := i_le c_17
          refine lv_bipush (v := 32) C.1 C.2.1 dX3_isJob_165 (by decide) ?_
          exact L_167 t1 w131_1 w131_2 w131_3 w131_4 w131_5 w131_5 32 _ _ _ hok hfr ⟨by omega, by omega⟩ ⟨by omega, by omega⟩ ⟨by omega, by omega⟩ ⟨by omega, (i_rng _).2⟩ ⟨by omega, by omega⟩ ⟨by omega, by omega⟩ ⟨by decide, by decide⟩ (show (10 : Int) - w131_5.toInt < (fuel_131 : Int) + 1 from by omega) hP hD hS (lv_sub hl [0, 1, 2, 3, 4, 5] rfl)
        · replace c_17 : w131_5.toInt < w131_1.toInt := i_nle c_17
          refine lv_aload_n C.1 C.2.1 dX3_isJob_150 rfl (lv_at hl 0 rfl) ?_
          refine k_get (v := .ref (ad 29)) C hP 7 rfl rfl inlX3 0 (by decide) m_6_23 rfl dX3_isJob_151 ?_
          refine k_get (v := .ref (ad 51)) C hP 29 rfl rfl inlX9 1 (by decide) m_71_23 rfl dX3_isJob_154 ?_
          refine lv_iconst (v := 5) C.1 C.2.1 dX3_isJob_157 (by decide) ?_
          refine lv_iload C.1 C.2.1 dX3_isJob_158 (lv_at hl 5 rfl) ?_
          obtain ⟨v_18, e_19⟩ : ∃ z, z = (5 : Int32) + (w131_5 : Int32) := ⟨_, rfl⟩
          have h_20 : v_18.toInt = 5 + w131_5.toInt := by rw [e_19]; exact ti_iadd (by show (_ : Int) ≤ 5 + w131_5.toInt; omega) (by show 5 + w131_5.toInt < (_ : Int); omega)
          refine k_iadd (v := v_18) C e_19.symm dX3_isJob_160 ?_
          have h_21 : (-128 : Int) ≤ (t.2.2.1 51 (v_18 : Int32).toNatClampNeg).toInt ∧ (t.2.2.1 51 (v_18 : Int32).toNatClampNeg).toInt ≤ 127 := by rw [← e_2]; exact hok.2.1 51 _
          refine k_bld (v := (t.2.2.1 51 (v_18 : Int32).toNatClampNeg)) C hP 51 rfl (vp_in_iff.mpr ⟨by omega, by omega⟩) (congrFun e_2 _) dX3_isJob_161 ?_
          refine lv_goto (tgt := 167) C.1 C.2.1 dX3_isJob_162 (by decide) ?_
          exact L_167 t1 w131_1 w131_2 w131_3 w131_4 w131_5 w131_5 (t.2.2.1 51 (v_18 : Int32).toNatClampNeg) _ _ _ hok hfr ⟨by omega, by omega⟩ ⟨by omega, by omega⟩ ⟨by omega, by omega⟩ ⟨by omega, (i_rng _).2⟩ ⟨by omega, by omega⟩ ⟨by omega, by omega⟩ ⟨by omega, by omega⟩ (show (10 : Int) - w131_5.toInt < (fuel_131 : Int) + 1 from by omega) hP hD hS (lv_sub hl [0, 1, 2, 3, 4, 5] rfl)
  have L_78 : ∀ (t1 : tSt) (w78_1 : Int32) (w78_2 : Int32) (w78_3 : Int32) (H : Heap) (locs : List Loc) (ls : Array Slot), okX t1 → frA [(7, 2), (7, 3)] [] [30] [] t t1 → (0 : Int) ≤ w78_1.toInt ∧ w78_1.toInt ≤ 15 → (6 : Int) ≤ w78_2.toInt ∧ w78_2.toInt ≤ 21 → (0 : Int) ≤ w78_3.toInt ∧ w78_3.toInt ≤ 6 → va_P D vwCl ((WX d) K ad t1) H → va_D A ((WX d) K ad t1) → va_S A s.heap H locs → lv_has ls 6 [(0, .ref (ad 7)), (1, .int w78_1), (2, .int w78_2), (3, .int w78_3)] → W p l e (rmD 6 0 0) s m [.ref (ad 7)].toArray below meth c H locs 0 0 (MQ below (QI D K (fun (r : Int32) (u : tSt) => okX u ∧ frA [(7, 2), (7, 3)] [] [30] [] t u ∧ (0 : Int) ≤ r.toInt ∧ r.toInt ≤ 1) (fun (u : tSt) => (WX d) K ad u) A) [.ref (ad 7)].toArray s 0 0 A) (F0 m 78 ls []) := by
    intro t1 w78_1 w78_2 w78_3 H locs ls hok hfr hw78_1 hw78_2 hw78_3 hP hD hS hl
    have e_22 : t1.2.2.1 51 = t.2.2.1 51 := hfr.2.2.1 51 rfl
    refine lv_aload_n C.1 C.2.1 dX3_isJob_78 rfl (lv_at hl 0 rfl) ?_
    refine lv_iload_n C.1 C.2.1 dX3_isJob_79 rfl (lv_at hl 2 rfl) ?_
    refine lv_iload_n C.1 C.2.1 dX3_isJob_80 rfl (lv_at hl 3 rfl) ?_
    obtain ⟨v_23, e_24⟩ : ∃ z, z = (w78_2 : Int32) + (w78_3 : Int32) := ⟨_, rfl⟩
    have h_25 : v_23.toInt = w78_2.toInt + w78_3.toInt := by rw [e_24]; exact ti_iadd (by show (_ : Int) ≤ w78_2.toInt + w78_3.toInt; omega) (by show w78_2.toInt + w78_3.toInt < (_ : Int); omega)
    refine k_iadd (v := v_23) C e_24.symm dX3_isJob_81 ?_
    refine g_Vi (As := [.int v_23]) (rest := []) C hP hD hS hA (T_X3_optionsAt l D K Z Y ad d t1 hok (v_23) (show (6 : Int) ≤ (v_23 : Int32).toInt ∧ (v_23 : Int32).toInt ≤ 27 from ⟨by omega, by omega⟩)) hE hZ (uwV m_72_15 m_72_16 m_72_17 m_2_17 m_72_18) (hdV 1 (by decide +kernel) rfl) ⟨Nat.le_of_ble_eq_true rfl, Nat.le_of_ble_eq_true rfl⟩ rfl rfl (ci := 2) (q0 := 7) rfl rfl rfl hl.1 (Nat.le_of_ble_eq_true rfl) dX3_isJob_82 ⟨Nat.le_of_ble_eq_true rfl, Nat.le_of_ble_eq_true rfl⟩ (fun r_27 t_26 H locs hw hP hD hS => ?_)
    obtain ⟨h_29, h_30⟩ := hw
    refine lv_istore (lv' := [(4, .int r_27), (0, .ref (ad 7)), (1, .int w78_1), (2, .int w78_2), (3, .int w78_3)]) C.1 C.2.1 dX3_isJob_85 hl (by decide) rfl (fun ls hl => ?_)
    have hl : lv_has ls 6 [(0, .ref (ad 7)), (1, .int w78_1), (2, .int w78_2), (3, .int w78_3), (4, .int r_27)] := lv_sub hl [1, 2, 3, 4, 0] rfl
    refine lv_iload_n C.1 C.2.1 dX3_isJob_87 rfl (lv_at hl 1 rfl) ?_
    refine lv_iconst (v := 1) C.1 C.2.1 dX3_isJob_88 (by decide) ?_
    refine lv_icmp_lt (tgt := 126) C.1 C.2.1 dX3_isJob_89 (by decide) (fun c_31 => ?_) (fun c_31 => ?_)
    · replace c_31 : w78_1.toInt < 1 := i_lt c_31
      refine lv_iconst (v := 0) C.1 C.2.1 dX3_isJob_126 (by decide) ?_
      exact g_iret C hr hlocks hP hD hS (by decide) t1 rfl ⟨hok, hfr, by decide, by decide⟩ (Nat.le_of_ble_eq_true rfl) (Nat.le_of_ble_eq_true rfl) dX3_isJob_127
    · replace c_31 : 1 ≤ w78_1.toInt := i_nlt c_31
      refine lv_iload_n C.1 C.2.1 dX3_isJob_92 rfl (lv_at hl 1 rfl) ?_
      refine lv_bipush (v := 10) C.1 C.2.1 dX3_isJob_93 (by decide) ?_
      refine lv_icmp_gt (tgt := 126) C.1 C.2.1 dX3_isJob_95 (by decide) (fun c_32 => ?_) (fun c_32 => ?_)
      · replace c_32 : 10 < w78_1.toInt := i_lt c_32
        refine lv_iconst (v := 0) C.1 C.2.1 dX3_isJob_126 (by decide) ?_
        exact g_iret C hr hlocks hP hD hS (by decide) t1 rfl ⟨hok, hfr, by decide, by decide⟩ (Nat.le_of_ble_eq_true rfl) (Nat.le_of_ble_eq_true rfl) dX3_isJob_127
      · replace c_32 : w78_1.toInt ≤ 10 := i_nlt c_32
        refine lv_aload_n C.1 C.2.1 dX3_isJob_98 rfl (lv_at hl 0 rfl) ?_
        refine k_get (v := .ref (ad 29)) C hP 7 rfl rfl inlX3 0 (by decide) m_6_23 rfl dX3_isJob_99 ?_
        refine lv_iload_n C.1 C.2.1 dX3_isJob_102 rfl (lv_at hl 2 rfl) ?_
        refine lv_iconst (v := 1) C.1 C.2.1 dX3_isJob_103 (by decide) ?_
        obtain ⟨v_33, e_34⟩ : ∃ z, z = (w78_2 : Int32) - (1 : Int32) := ⟨_, rfl⟩
        have h_35 : v_33.toInt = w78_2.toInt - 1 := by rw [e_34]; exact ti_isub (by show (_ : Int) ≤ w78_2.toInt - 1; omega) (by show w78_2.toInt - 1 < (_ : Int); omega)
        refine k_isub (v := v_33) C e_34.symm dX3_isJob_104 ?_
        refine g_Vi (As := [.int v_33]) (rest := []) C hP hD hS hA (T_X9_isBlankAt l D K Z Y ad d t1 hok (v_33)) hE hZ (uwV m_72_22 m_72_23 m_73_0 m_1_17 m_73_1) (hdV 1 (by decide +kernel) rfl) ⟨Nat.le_of_ble_eq_true rfl, Nat.le_of_ble_eq_true rfl⟩ rfl rfl (ci := 8) (q0 := 29) rfl rfl rfl hl.1 (Nat.le_of_ble_eq_true rfl) dX3_isJob_105 ⟨Nat.le_of_ble_eq_true rfl, Nat.le_of_ble_eq_true rfl⟩ (fun r_37 t_36 H locs hw hP hD hS => ?_)
        obtain ⟨h_39, h_40⟩ := hw
        refine lv_if_eq (tgt := 126) C.1 C.2.1 dX3_isJob_108 (by decide) (fun c_41 => ?_) (fun c_41 => ?_)
        · replace c_41 : r_37.toInt = 0 := i_eq c_41
          refine lv_iconst (v := 0) C.1 C.2.1 dX3_isJob_126 (by decide) ?_
          exact g_iret C hr hlocks hP hD hS (by decide) t1 rfl ⟨hok, hfr, by decide, by decide⟩ (Nat.le_of_ble_eq_true rfl) (Nat.le_of_ble_eq_true rfl) dX3_isJob_127
        · replace c_41 : ¬ r_37.toInt = 0 := i_ne c_41
          refine lv_iload_n C.1 C.2.1 dX3_isJob_111 rfl (lv_at hl 3 rfl) ?_
          refine lv_iconst (v := 1) C.1 C.2.1 dX3_isJob_112 (by decide) ?_
          refine lv_icmp_lt (tgt := 126) C.1 C.2.1 dX3_isJob_113 (by decide) (fun c_42 => ?_) (fun c_42 => ?_)
          · replace c_42 : w78_3.toInt < 1 := i_lt c_42
            refine lv_iconst (v := 0) C.1 C.2.1 dX3_isJob_126 (by decide) ?_
            exact g_iret C hr hlocks hP hD hS (by decide) t1 rfl ⟨hok, hfr, by decide, by decide⟩ (Nat.le_of_ble_eq_true rfl) (Nat.le_of_ble_eq_true rfl) dX3_isJob_127
          · replace c_42 : 1 ≤ w78_3.toInt := i_nlt c_42
            refine lv_iload_n C.1 C.2.1 dX3_isJob_116 rfl (lv_at hl 3 rfl) ?_
            refine lv_iconst (v := 5) C.1 C.2.1 dX3_isJob_117 (by decide) ?_
            refine lv_icmp_gt (tgt := 126) C.1 C.2.1 dX3_isJob_118 (by decide) (fun c_43 => ?_) (fun c_43 => ?_)
            · replace c_43 : 5 < w78_3.toInt := i_lt c_43
              refine lv_iconst (v := 0) C.1 C.2.1 dX3_isJob_126 (by decide) ?_
              exact g_iret C hr hlocks hP hD hS (by decide) t1 rfl ⟨hok, hfr, by decide, by decide⟩ (Nat.le_of_ble_eq_true rfl) (Nat.le_of_ble_eq_true rfl) dX3_isJob_127
            · replace c_43 : w78_3.toInt ≤ 5 := i_nlt c_43
              refine lv_iload C.1 C.2.1 dX3_isJob_121 (lv_at hl 4 rfl) ?_
              refine lv_if_ge (tgt := 128) C.1 C.2.1 dX3_isJob_123 (by decide) (fun c_44 => ?_) (fun c_44 => ?_)
              · replace c_44 : 0 ≤ r_27.toInt := i_le c_44
                refine lv_iconst (v := 0) C.1 C.2.1 dX3_isJob_128 (by decide) ?_
                refine lv_istore (lv' := [(5, .int 0), (0, .ref (ad 7)), (1, .int w78_1), (2, .int w78_2), (3, .int w78_3), (4, .int r_27)]) C.1 C.2.1 dX3_isJob_129 hl (by decide) rfl (fun ls hl => ?_)
                have hl : lv_has ls 6 [(0, .ref (ad 7)), (1, .int w78_1), (2, .int w78_2), (3, .int w78_3), (4, .int r_27), (5, .int 0)] := lv_sub hl [1, 2, 3, 4, 5, 0] rfl
                exact L_131 11 t1 w78_1 w78_2 w78_3 r_27 0 _ _ _ hok hfr ⟨by omega, by omega⟩ ⟨by omega, by omega⟩ ⟨by omega, by omega⟩ ⟨by omega, (i_rng _).2⟩ ⟨by decide, by decide⟩ (show (10 : Int) - 0 < ((11 : Nat) : Int) from by omega) hP hD hS (lv_sub hl [0, 1, 2, 3, 4, 5] rfl)
              · replace c_44 : r_27.toInt < 0 := i_nle c_44
                refine lv_iconst (v := 0) C.1 C.2.1 dX3_isJob_126 (by decide) ?_
                exact g_iret C hr hlocks hP hD hS (by decide) t1 rfl ⟨hok, hfr, by decide, by decide⟩ (Nat.le_of_ble_eq_true rfl) (Nat.le_of_ble_eq_true rfl) dX3_isJob_127
  have L_53 : ∀ (fuel_53 : Nat) (t1 : tSt) (w53_1 : Int32) (w53_2 : Int32) (w53_3 : Int32) (H : Heap) (locs : List Loc) (ls : Array Slot), okX t1 → frA [(7, 2), (7, 3)] [] [30] [] t t1 → (0 : Int) ≤ w53_1.toInt ∧ w53_1.toInt ≤ 15 → (6 : Int) ≤ w53_2.toInt ∧ w53_2.toInt ≤ 21 → (0 : Int) ≤ w53_3.toInt ∧ w53_3.toInt ≤ 6 → (6 : Int) - w53_3.toInt < (fuel_53 : Int) → va_P D vwCl ((WX d) K ad t1) H → va_D A ((WX d) K ad t1) → va_S A s.heap H locs → lv_has ls 6 [(0, .ref (ad 7)), (1, .int w53_1), (2, .int w53_2), (3, .int w53_3)] → W p l e (rmD 6 0 0) s m [.ref (ad 7)].toArray below meth c H locs 0 0 (MQ below (QI D K (fun (r : Int32) (u : tSt) => okX u ∧ frA [(7, 2), (7, 3)] [] [30] [] t u ∧ (0 : Int) ≤ r.toInt ∧ r.toInt ≤ 1) (fun (u : tSt) => (WX d) K ad u) A) [.ref (ad 7)].toArray s 0 0 A) (F0 m 53 ls []) := by
    intro fuel_53
    induction fuel_53 with
    | zero =>
      intro t1 w53_1 w53_2 w53_3 H locs ls hok hfr hw53_1 hw53_2 hw53_3 hm53_53 hP hD hS hl
      have e_45 : t1.2.2.1 51 = t.2.2.1 51 := hfr.2.2.1 51 rfl
      exact absurd hm53_53 (by omega)
    | succ fuel_53 ih_53 =>
      intro t1 w53_1 w53_2 w53_3 H locs ls hok hfr hw53_1 hw53_2 hw53_3 hm53_53 hP hD hS hl
      have hm53_53 : (6 : Int) - w53_3.toInt < (fuel_53 : Int) + 1 := by omega
      have e_46 : t1.2.2.1 51 = t.2.2.1 51 := hfr.2.2.1 51 rfl
      refine lv_iload_n C.1 C.2.1 dX3_isJob_53 rfl (lv_at hl 3 rfl) ?_
      refine lv_bipush (v := 6) C.1 C.2.1 dX3_isJob_54 (by decide) ?_
      refine lv_icmp_ge (tgt := 78) C.1 C.2.1 dX3_isJob_56 (by decide) (fun c_47 => ?_) (fun c_47 => ?_)
      · replace c_47 : 6 ≤ w53_3.toInt := i_le c_47
        exact L_78 t1 w53_1 w53_2 w53_3 _ _ _ hok hfr ⟨by omega, by omega⟩ ⟨by omega, by omega⟩ ⟨by omega, by omega⟩ hP hD hS (lv_sub hl [0, 1, 2, 3] rfl)
      · replace c_47 : w53_3.toInt < 6 := i_nle c_47
        refine lv_aload_n C.1 C.2.1 dX3_isJob_59 rfl (lv_at hl 0 rfl) ?_
        refine k_get (v := .ref (ad 29)) C hP 7 rfl rfl inlX3 0 (by decide) m_6_23 rfl dX3_isJob_60 ?_
        refine lv_iload_n C.1 C.2.1 dX3_isJob_63 rfl (lv_at hl 2 rfl) ?_
        refine lv_iload_n C.1 C.2.1 dX3_isJob_64 rfl (lv_at hl 3 rfl) ?_
        obtain ⟨v_48, e_49⟩ : ∃ z, z = (w53_2 : Int32) + (w53_3 : Int32) := ⟨_, rfl⟩
        have h_50 : v_48.toInt = w53_2.toInt + w53_3.toInt := by rw [e_49]; exact ti_iadd (by show (_ : Int) ≤ w53_2.toInt + w53_3.toInt; omega) (by show w53_2.toInt + w53_3.toInt < (_ : Int); omega)
        refine k_iadd (v := v_48) C e_49.symm dX3_isJob_65 ?_
        refine g_Vi (As := [.int v_48]) (rest := []) C hP hD hS hA (T_X9_isDigitAt l D K Z Y ad d t1 hok (v_48) (show (6 : Int) ≤ (v_48 : Int32).toInt ∧ (v_48 : Int32).toInt ≤ 31 from ⟨by omega, by omega⟩)) hE hZ (uwV m_72_11 m_72_12 m_72_13 m_1_17 m_72_14) (hdV 1 (by decide +kernel) rfl) ⟨Nat.le_of_ble_eq_true rfl, Nat.le_of_ble_eq_true rfl⟩ rfl rfl (ci := 8) (q0 := 29) rfl rfl rfl hl.1 (Nat.le_of_ble_eq_true rfl) dX3_isJob_66 ⟨Nat.le_of_ble_eq_true rfl, Nat.le_of_ble_eq_true rfl⟩ (fun r_52 t_51 H locs hw hP hD hS => ?_)
        obtain ⟨h_54, h_55, p_56, p_57⟩ := hw
        replace p_56 : r_52.toInt = 1 → 0 ≤ v_48.toInt ∧ v_48.toInt < 80 := p_56
        replace p_57 : r_52.toInt = 1 → 48 ≤ (t1.2.2.1 51 (v_48 : Int32).toNatClampNeg).toInt ∧ (t1.2.2.1 51 (v_48 : Int32).toNatClampNeg).toInt ≤ 57 := p_57
        have h_58 : (t1.2.2.1 51 (v_48 : Int32).toNatClampNeg).toInt = (t.2.2.1 51 (v_48 : Int32).toNatClampNeg).toInt := tb_eq e_46 _
        refine lv_if_eq (tgt := 78) C.1 C.2.1 dX3_isJob_69 (by decide) (fun c_59 => ?_) (fun c_59 => ?_)
        · replace c_59 : r_52.toInt = 0 := i_eq c_59
          exact L_78 t1 w53_1 w53_2 w53_3 _ _ _ hok hfr ⟨by omega, by omega⟩ ⟨by omega, by omega⟩ ⟨by omega, by omega⟩ hP hD hS (lv_sub hl [0, 1, 2, 3] rfl)
        · replace c_59 : ¬ r_52.toInt = 0 := i_ne c_59
          obtain ⟨v_60, e_61⟩ : ∃ z, z = w53_3 + 1 := ⟨_, rfl⟩
          have h_62 : v_60.toInt = w53_3.toInt + 1 := by rw [e_61]; exact ti_iadd (by show (_ : Int) ≤ w53_3.toInt + 1; omega) (by show w53_3.toInt + 1 < (_ : Int); omega)
          refine lv_iinc (v := v_60) (lv' := [(3, .int v_60), (0, .ref (ad 7)), (1, .int w53_1), (2, .int w53_2)]) C.1 C.2.1 dX3_isJob_72 hl (k := 3) rfl e_61.symm (by decide) rfl (fun ls hl => ?_)
          have hl : lv_has ls 6 [(0, .ref (ad 7)), (1, .int w53_1), (2, .int w53_2), (3, .int v_60)] := lv_sub hl [1, 2, 3, 0] rfl
          refine lv_goto (tgt := 53) C.1 C.2.1 dX3_isJob_75 (by decide) ?_
          exact ih_53 t1 w53_1 w53_2 v_60 _ _ _ hok hfr ⟨by omega, by omega⟩ ⟨by omega, by omega⟩ ⟨by omega, by omega⟩ (show (6 : Int) - v_60.toInt < (fuel_53 : Int) from by omega) hP hD hS (lv_sub hl [0, 1, 2, 3] rfl)
  have L_46 : ∀ (t1 : tSt) (w46_1 : Int32) (H : Heap) (locs : List Loc) (ls : Array Slot), okX t1 → frA [(7, 2), (7, 3)] [] [30] [] t t1 → (0 : Int) ≤ w46_1.toInt ∧ w46_1.toInt ≤ 15 → va_P D vwCl ((WX d) K ad t1) H → va_D A ((WX d) K ad t1) → va_S A s.heap H locs → lv_has ls 6 [(0, .ref (ad 7)), (1, .int w46_1)] → W p l e (rmD 6 0 0) s m [.ref (ad 7)].toArray below meth c H locs 0 0 (MQ below (QI D K (fun (r : Int32) (u : tSt) => okX u ∧ frA [(7, 2), (7, 3)] [] [30] [] t u ∧ (0 : Int) ≤ r.toInt ∧ r.toInt ≤ 1) (fun (u : tSt) => (WX d) K ad u) A) [.ref (ad 7)].toArray s 0 0 A) (F0 m 46 ls []) := by
    intro t1 w46_1 H locs ls hok hfr hw46_1 hP hD hS hl
    have e_63 : t1.2.2.1 51 = t.2.2.1 51 := hfr.2.2.1 51 rfl
    refine lv_bipush (v := 6) C.1 C.2.1 dX3_isJob_46 (by decide) ?_
    refine lv_iload_n C.1 C.2.1 dX3_isJob_48 rfl (lv_at hl 1 rfl) ?_
    obtain ⟨v_64, e_65⟩ : ∃ z, z = (6 : Int32) + (w46_1 : Int32) := ⟨_, rfl⟩
    have h_66 : v_64.toInt = 6 + w46_1.toInt := by rw [e_65]; exact ti_iadd (by show (_ : Int) ≤ 6 + w46_1.toInt; omega) (by show 6 + w46_1.toInt < (_ : Int); omega)
    refine k_iadd (v := v_64) C e_65.symm dX3_isJob_49 ?_
    refine lv_istore_n (lv' := [(2, .int v_64), (0, .ref (ad 7)), (1, .int w46_1)]) C.1 C.2.1 dX3_isJob_50 rfl hl (by decide) rfl (fun ls hl => ?_)
    have hl : lv_has ls 6 [(0, .ref (ad 7)), (1, .int w46_1), (2, .int v_64)] := lv_sub hl [1, 2, 0] rfl
    refine lv_iconst (v := 0) C.1 C.2.1 dX3_isJob_51 (by decide) ?_
    refine lv_istore_n (lv' := [(3, .int 0), (0, .ref (ad 7)), (1, .int w46_1), (2, .int v_64)]) C.1 C.2.1 dX3_isJob_52 rfl hl (by decide) rfl (fun ls hl => ?_)
    have hl : lv_has ls 6 [(0, .ref (ad 7)), (1, .int w46_1), (2, .int v_64), (3, .int 0)] := lv_sub hl [1, 2, 3, 0] rfl
    exact L_53 7 t1 w46_1 v_64 0 _ _ _ hok hfr ⟨by omega, by omega⟩ ⟨by omega, by omega⟩ ⟨by decide, by decide⟩ (show (6 : Int) - 0 < ((7 : Nat) : Int) from by omega) hP hD hS (lv_sub hl [0, 1, 2, 3] rfl)
  have L_17 : ∀ (fuel_17 : Nat) (t1 : tSt) (w17_1 : Int32) (H : Heap) (locs : List Loc) (ls : Array Slot), okX t1 → frA [(7, 2), (7, 3)] [] [30] [] t t1 → (0 : Int) ≤ w17_1.toInt ∧ w17_1.toInt ≤ 15 → (15 : Int) - w17_1.toInt < (fuel_17 : Int) → va_P D vwCl ((WX d) K ad t1) H → va_D A ((WX d) K ad t1) → va_S A s.heap H locs → lv_has ls 6 [(0, .ref (ad 7)), (1, .int w17_1)] → W p l e (rmD 6 0 0) s m [.ref (ad 7)].toArray below meth c H locs 0 0 (MQ below (QI D K (fun (r : Int32) (u : tSt) => okX u ∧ frA [(7, 2), (7, 3)] [] [30] [] t u ∧ (0 : Int) ≤ r.toInt ∧ r.toInt ≤ 1) (fun (u : tSt) => (WX d) K ad u) A) [.ref (ad 7)].toArray s 0 0 A) (F0 m 17 ls []) := by
    intro fuel_17
    induction fuel_17 with
    | zero =>
      intro t1 w17_1 H locs ls hok hfr hw17_1 hm17_17 hP hD hS hl
      have e_67 : t1.2.2.1 51 = t.2.2.1 51 := hfr.2.2.1 51 rfl
      exact absurd hm17_17 (by omega)
    | succ fuel_17 ih_17 =>
      intro t1 w17_1 H locs ls hok hfr hw17_1 hm17_17 hP hD hS hl
      have hm17_17 : (15 : Int) - w17_1.toInt < (fuel_17 : Int) + 1 := by omega
      have e_68 : t1.2.2.1 51 = t.2.2.1 51 := hfr.2.2.1 51 rfl
      refine lv_iload_n C.1 C.2.1 dX3_isJob_17 rfl (lv_at hl 1 rfl) ?_
      refine lv_bipush (v := 11) C.1 C.2.1 dX3_isJob_18 (by decide) ?_
      refine lv_icmp_ge (tgt := 46) C.1 C.2.1 dX3_isJob_20 (by decide) (fun c_69 => ?_) (fun c_69 => ?_)
      · replace c_69 : 11 ≤ w17_1.toInt := i_le c_69
        exact L_46 t1 w17_1 _ _ _ hok hfr ⟨by omega, by omega⟩ hP hD hS (lv_sub hl [0, 1] rfl)
      · replace c_69 : w17_1.toInt < 11 := i_nle c_69
        refine lv_aload_n C.1 C.2.1 dX3_isJob_23 rfl (lv_at hl 0 rfl) ?_
        refine k_get (v := .ref (ad 29)) C hP 7 rfl rfl inlX3 0 (by decide) m_6_23 rfl dX3_isJob_24 ?_
        refine k_get (v := .ref (ad 51)) C hP 29 rfl rfl inlX9 1 (by decide) m_71_23 rfl dX3_isJob_27 ?_
        refine lv_iconst (v := 5) C.1 C.2.1 dX3_isJob_30 (by decide) ?_
        refine lv_iload_n C.1 C.2.1 dX3_isJob_31 rfl (lv_at hl 1 rfl) ?_
        obtain ⟨v_70, e_71⟩ : ∃ z, z = (5 : Int32) + (w17_1 : Int32) := ⟨_, rfl⟩
        have h_72 : v_70.toInt = 5 + w17_1.toInt := by rw [e_71]; exact ti_iadd (by show (_ : Int) ≤ 5 + w17_1.toInt; omega) (by show 5 + w17_1.toInt < (_ : Int); omega)
        refine k_iadd (v := v_70) C e_71.symm dX3_isJob_32 ?_
        have h_73 : (-128 : Int) ≤ (t.2.2.1 51 (v_70 : Int32).toNatClampNeg).toInt ∧ (t.2.2.1 51 (v_70 : Int32).toNatClampNeg).toInt ≤ 127 := by rw [← e_68]; exact hok.2.1 51 _
        refine k_bld (v := (t.2.2.1 51 (v_70 : Int32).toNatClampNeg)) C hP 51 rfl (vp_in_iff.mpr ⟨by omega, by omega⟩) (congrFun e_68 _) dX3_isJob_33 ?_
        refine g_Si (As := [.int (t.2.2.1 51 (v_70 : Int32).toNatClampNeg)]) (rest := []) C hP hD hS hA (T_X1_rank l D K Z Y ad d t1 hok ((t.2.2.1 51 (v_70 : Int32).toNatClampNeg)) (show (-128 : Int) ≤ ((t.2.2.1 51 (v_70 : Int32).toNatClampNeg) : Int32).toInt ∧ ((t.2.2.1 51 (v_70 : Int32).toNatClampNeg) : Int32).toInt ≤ 127 from ⟨by omega, by omega⟩)) hE hZ (uwS m_72_8 m_72_9 m_14_2 m_72_10) (hdS 1 (by decide +kernel) rfl) ⟨Nat.le_of_ble_eq_true rfl, Nat.le_of_ble_eq_true rfl⟩ rfl rfl rfl hl.1 (Nat.le_of_ble_eq_true rfl) dX3_isJob_34 ⟨Nat.le_of_ble_eq_true rfl, Nat.le_of_ble_eq_true rfl⟩ (fun r_75 t_74 H locs hw hP hD hS => ?_)
        obtain ⟨h_77, h_78⟩ := hw
        refine lv_if_le (tgt := 46) C.1 C.2.1 dX3_isJob_37 (by decide) (fun c_79 => ?_) (fun c_79 => ?_)
        · replace c_79 : r_75.toInt ≤ 0 := i_le c_79
          exact L_46 t1 w17_1 _ _ _ hok hfr ⟨by omega, by omega⟩ hP hD hS (lv_sub hl [0, 1] rfl)
        · replace c_79 : 0 < r_75.toInt := i_nle c_79
          obtain ⟨v_80, e_81⟩ : ∃ z, z = w17_1 + 1 := ⟨_, rfl⟩
          have h_82 : v_80.toInt = w17_1.toInt + 1 := by rw [e_81]; exact ti_iadd (by show (_ : Int) ≤ w17_1.toInt + 1; omega) (by show w17_1.toInt + 1 < (_ : Int); omega)
          refine lv_iinc (v := v_80) (lv' := [(1, .int v_80), (0, .ref (ad 7))]) C.1 C.2.1 dX3_isJob_40 hl (k := 1) rfl e_81.symm (by decide) rfl (fun ls hl => ?_)
          have hl : lv_has ls 6 [(0, .ref (ad 7)), (1, .int v_80)] := lv_sub hl [1, 0] rfl
          refine lv_goto (tgt := 17) C.1 C.2.1 dX3_isJob_43 (by decide) ?_
          exact ih_17 t1 v_80 _ _ _ hok hfr ⟨by omega, by omega⟩ (show (15 : Int) - v_80.toInt < (fuel_17 : Int) from by omega) hP hD hS (lv_sub hl [0, 1] rfl)
  refine lv_aload_n C.1 C.2.1 dX3_isJob_0 rfl (lv_at hl 0 rfl) ?_
  refine k_get (v := .ref (ad 29)) C hP 7 rfl rfl inlX3 0 (by decide) m_6_23 rfl dX3_isJob_1 ?_
  refine lv_iconst (v := 0) C.1 C.2.1 dX3_isJob_4 (by decide) ?_
  refine va_ldcS C.1 C.2.1 C.2.2.2.1 (hE.2 7 (by decide)) dX3_isJob_5 ?_
  refine g_Vi (As := [.int 0, .ref (Z 7)]) (rest := []) C hP hD hS hA (T_X9_isAt l D K Z Y ad d t hok 0 (show (0 : Int) ≤ (0 : Int32).toInt ∧ (0 : Int32).toInt ≤ 100 from ⟨by decide, by decide⟩) (7) (show sS 7 from ⟨by decide, by decide, by decide⟩)) hE hZ (uwV m_72_2 m_72_3 m_72_4 m_1_17 m_72_5) (hdV 2 (by decide +kernel) rfl) ⟨Nat.le_of_ble_eq_true rfl, Nat.le_of_ble_eq_true rfl⟩ rfl rfl (ci := 8) (q0 := 29) rfl rfl rfl hl.1 (Nat.le_of_ble_eq_true rfl) dX3_isJob_7 ⟨Nat.le_of_ble_eq_true rfl, Nat.le_of_ble_eq_true rfl⟩ (fun r_84 t_83 H locs hw hP hD hS => ?_)
  obtain ⟨h_86, h_87⟩ := hw
  refine lv_if_ne (tgt := 15) C.1 C.2.1 dX3_isJob_10 (by decide) (fun c_88 => ?_) (fun c_88 => ?_)
  · replace c_88 : ¬ r_84.toInt = 0 := i_ne c_88
    refine lv_iconst (v := 0) C.1 C.2.1 dX3_isJob_15 (by decide) ?_
    refine lv_istore_n (lv' := [(1, .int 0), (0, .ref (ad 7))]) C.1 C.2.1 dX3_isJob_16 rfl hl (by decide) rfl (fun ls hl => ?_)
    have hl : lv_has ls 6 [(0, .ref (ad 7)), (1, .int 0)] := lv_sub hl [1, 0] rfl
    exact L_17 16 t 0 _ _ _ hok hfr ⟨by decide, by decide⟩ (show (15 : Int) - 0 < ((16 : Nat) : Int) from by omega) hP hD hS (lv_sub hl [0, 1] rfl)
  · replace c_88 : r_84.toInt = 0 := i_eq c_88
    refine lv_iconst (v := 0) C.1 C.2.1 dX3_isJob_13 (by decide) ?_
    exact g_iret C hr hlocks hP hD hS (by decide) t rfl ⟨hok, hfr, by decide, by decide⟩ (Nat.le_of_ble_eq_true rfl) (Nat.le_of_ble_eq_true rfl) dX3_isJob_14

theorem dX0_findOp_0 : decode cX0_findOp 0 = .ok (.iconst 0, 1) := by decide +kernel
theorem dX0_findOp_1 : decode cX0_findOp 1 = .ok (.istore_n 1, 1) := by decide +kernel
theorem dX0_findOp_10 : decode cX0_findOp 10 = .ok (.istore_n 2, 1) := by decide +kernel
theorem dX0_findOp_11 : decode cX0_findOp 11 = .ok (.iload_n 2, 1) := by decide +kernel
theorem dX0_findOp_12 : decode cX0_findOp 12 = .ok (.iconst 4, 1) := by decide +kernel
theorem dX0_findOp_13 : decode cX0_findOp 13 = .ok (.if_icmp .ge 29, 3) := by decide +kernel
theorem dX0_findOp_16 : decode cX0_findOp 16 = .ok (.aload_n 0, 1) := by decide +kernel
theorem dX0_findOp_17 : decode cX0_findOp 17 = .ok (.getfield 25, 3) := by decide +kernel
theorem dX0_findOp_2 : decode cX0_findOp 2 = .ok (.iload_n 1, 1) := by decide +kernel
theorem dX0_findOp_20 : decode cX0_findOp 20 = .ok (.getfield 38, 3) := by decide +kernel
theorem dX0_findOp_23 : decode cX0_findOp 23 = .ok (.bipush 11, 2) := by decide +kernel
theorem dX0_findOp_25 : decode cX0_findOp 25 = .ok (.iload_n 2, 1) := by decide +kernel
theorem dX0_findOp_26 : decode cX0_findOp 26 = .ok (.iadd, 1) := by decide +kernel
theorem dX0_findOp_27 : decode cX0_findOp 27 = .ok (.baload, 1) := by decide +kernel
theorem dX0_findOp_28 : decode cX0_findOp 28 = .ok (.iload_n 1, 1) := by decide +kernel
theorem dX0_findOp_29 : decode cX0_findOp 29 = .ok (.iload_n 2, 1) := by decide +kernel
theorem dX0_findOp_3 : decode cX0_findOp 3 = .ok (.sipush 157, 3) := by decide +kernel
theorem dX0_findOp_30 : decode cX0_findOp 30 = .ok (.invokestatic 154, 3) := by decide +kernel
theorem dX0_findOp_33 : decode cX0_findOp 33 = .ok (.if_icmp .ne 9, 3) := by decide +kernel
theorem dX0_findOp_36 : decode cX0_findOp 36 = .ok (.iinc 2 1, 3) := by decide +kernel
theorem dX0_findOp_39 : decode cX0_findOp 39 = .ok (.goto (-28), 3) := by decide +kernel
theorem dX0_findOp_42 : decode cX0_findOp 42 = .ok (.iload_n 2, 1) := by decide +kernel
theorem dX0_findOp_43 : decode cX0_findOp 43 = .ok (.iconst 4, 1) := by decide +kernel
theorem dX0_findOp_44 : decode cX0_findOp 44 = .ok (.if_icmp .ne 5, 3) := by decide +kernel
theorem dX0_findOp_47 : decode cX0_findOp 47 = .ok (.iload_n 1, 1) := by decide +kernel
theorem dX0_findOp_48 : decode cX0_findOp 48 = .ok (.ireturn, 1) := by decide +kernel
theorem dX0_findOp_49 : decode cX0_findOp 49 = .ok (.iinc 1 1, 3) := by decide +kernel
theorem dX0_findOp_52 : decode cX0_findOp 52 = .ok (.goto (-50), 3) := by decide +kernel
theorem dX0_findOp_55 : decode cX0_findOp 55 = .ok (.iconst (-1), 1) := by decide +kernel
theorem dX0_findOp_56 : decode cX0_findOp 56 = .ok (.ireturn, 1) := by decide +kernel
theorem dX0_findOp_6 : decode cX0_findOp 6 = .ok (.if_icmp .ge 49, 3) := by decide +kernel
theorem dX0_findOp_9 : decode cX0_findOp 9 = .ok (.iconst 0, 1) := by decide +kernel
set_option maxHeartbeats 4000000 in
set_option maxRecDepth 100000 in
theorem T_X0_findOp (l : Launch) (D : va_G) (K : Nat → ClassId) (Z Y : Nat → Nat) (ad : Nat → Nat) (d : dSt) (t : tSt) (hok : okX t)  : tMet l yX0_findOp cX0_findOp 3 (some .int) (rmD 6 0 0) D K Z Y [.ref (ad 5)] ((WX d) K ad t) (QI D K (fun (r : Int32) (u : Unit) => (-1 : Int) ≤ r.toInt ∧ r.toInt ≤ 156) (fun (_ : Unit) => (WX d) K ad t)) 0 0 := by
  refine t_met RX0 ⟨rfl, by decide +kernel⟩ (Nat.le_of_ble_eq_true rfl) ?_
  intro p e s m below meth c A ls C hE hZ hr hlocks hA hP hD hS hl
  have hl : lv_has ls 3 [(0, .ref (ad 5))] := hl
  have L_2 : ∀ (fuel_2 : Nat) (w2_1 : Int32) (H : Heap) (locs : List Loc) (ls : Array Slot), (0 : Int) ≤ w2_1.toInt ∧ w2_1.toInt ≤ 256 → (256 : Int) - w2_1.toInt < (fuel_2 : Int) → va_P D vwCl ((WX d) K ad t) H → va_D A ((WX d) K ad t) → va_S A s.heap H locs → lv_has ls 3 [(0, .ref (ad 5)), (1, .int w2_1)] → W p l e (rmD 6 0 0) s m [.ref (ad 5)].toArray below meth c H locs 0 0 (MQ below (QI D K (fun (r : Int32) (u : Unit) => (-1 : Int) ≤ r.toInt ∧ r.toInt ≤ 156) (fun (_ : Unit) => (WX d) K ad t) A) [.ref (ad 5)].toArray s 0 0 A) (F0 m 2 ls []) := by
    intro fuel_2
    induction fuel_2 with
    | zero =>
      intro w2_1 H locs ls hw2_1 hm2_2 hP hD hS hl
      exact absurd hm2_2 (by omega)
    | succ fuel_2 ih_2 =>
      intro w2_1 H locs ls hw2_1 hm2_2 hP hD hS hl
      have hm2_2 : (256 : Int) - w2_1.toInt < (fuel_2 : Int) + 1 := by omega
      have L_42 : ∀ (w42_1 : Int32) (w42_2 : Int32) (H : Heap) (locs : List Loc) (ls : Array Slot), (0 : Int) ≤ w42_1.toInt ∧ w42_1.toInt ≤ 255 → (0 : Int) ≤ w42_2.toInt ∧ w42_2.toInt ≤ 4 → (w42_1.toInt ≤ 156) → (256 : Int) - w42_1.toInt < (fuel_2 : Int) + 1 → va_P D vwCl ((WX d) K ad t) H → va_D A ((WX d) K ad t) → va_S A s.heap H locs → lv_has ls 3 [(0, .ref (ad 5)), (1, .int w42_1), (2, .int w42_2)] → W p l e (rmD 6 0 0) s m [.ref (ad 5)].toArray below meth c H locs 0 0 (MQ below (QI D K (fun (r : Int32) (u : Unit) => (-1 : Int) ≤ r.toInt ∧ r.toInt ≤ 156) (fun (_ : Unit) => (WX d) K ad t) A) [.ref (ad 5)].toArray s 0 0 A) (F0 m 42 ls []) := by
        intro w42_1 w42_2 H locs ls hw42_1 hw42_2 hi42_0 hm42_2 hP hD hS hl
        refine lv_iload_n C.1 C.2.1 dX0_findOp_42 rfl (lv_at hl 2 rfl) ?_
        refine lv_iconst (v := 4) C.1 C.2.1 dX0_findOp_43 (by decide) ?_
        refine lv_icmp_ne (tgt := 49) C.1 C.2.1 dX0_findOp_44 (by decide) (fun c_1 => ?_) (fun c_1 => ?_)
        · replace c_1 : ¬ w42_2.toInt = 4 := i_ne c_1
          obtain ⟨v_2, e_3⟩ : ∃ z, z = w42_1 + 1 := ⟨_, rfl⟩
          have h_4 : v_2.toInt = w42_1.toInt + 1 := by rw [e_3]; exact ti_iadd (by show (_ : Int) ≤ w42_1.toInt + 1; omega) (by show w42_1.toInt + 1 < (_ : Int); omega)
          refine lv_iinc (v := v_2) (lv' := [(1, .int v_2), (0, .ref (ad 5)), (2, .int w42_2)]) C.1 C.2.1 dX0_findOp_49 hl (k := 1) rfl e_3.symm (by decide) rfl (fun ls hl => ?_)
          have hl : lv_has ls 3 [(0, .ref (ad 5)), (1, .int v_2), (2, .int w42_2)] := lv_sub hl [1, 0, 2] rfl
          refine lv_goto (tgt := 2) C.1 C.2.1 dX0_findOp_52 (by decide) ?_
          exact ih_2 v_2 _ _ _ ⟨by omega, by omega⟩ (show (256 : Int) - v_2.toInt < (fuel_2 : Int) from by omega) hP hD hS (lv_sub hl [0, 1] rfl)
        · replace c_1 : w42_2.toInt = 4 := i_eq c_1
          refine lv_iload_n C.1 C.2.1 dX0_findOp_47 rfl (lv_at hl 1 rfl) ?_
          exact g_iret C hr hlocks hP hD hS rfl () rfl ⟨by omega, by omega⟩ (Nat.le_of_ble_eq_true rfl) (Nat.le_of_ble_eq_true rfl) dX0_findOp_48
      have L_11 : ∀ (fuel_11 : Nat) (w11_1 : Int32) (w11_2 : Int32) (H : Heap) (locs : List Loc) (ls : Array Slot), (0 : Int) ≤ w11_1.toInt ∧ w11_1.toInt ≤ 255 → (0 : Int) ≤ w11_2.toInt ∧ w11_2.toInt ≤ 4 → (w11_1.toInt ≤ 156) → (256 : Int) - w11_1.toInt < (fuel_2 : Int) + 1 → (4 : Int) - w11_2.toInt < (fuel_11 : Int) → va_P D vwCl ((WX d) K ad t) H → va_D A ((WX d) K ad t) → va_S A s.heap H locs → lv_has ls 3 [(0, .ref (ad 5)), (1, .int w11_1), (2, .int w11_2)] → W p l e (rmD 6 0 0) s m [.ref (ad 5)].toArray below meth c H locs 0 0 (MQ below (QI D K (fun (r : Int32) (u : Unit) => (-1 : Int) ≤ r.toInt ∧ r.toInt ≤ 156) (fun (_ : Unit) => (WX d) K ad t) A) [.ref (ad 5)].toArray s 0 0 A) (F0 m 11 ls []) := by
        intro fuel_11
        induction fuel_11 with
        | zero =>
          intro w11_1 w11_2 H locs ls hw11_1 hw11_2 hi11_0 hm11_2 hm11_11 hP hD hS hl
          exact absurd hm11_11 (by omega)
        | succ fuel_11 ih_11 =>
          intro w11_1 w11_2 H locs ls hw11_1 hw11_2 hi11_0 hm11_2 hm11_11 hP hD hS hl
          have hm11_11 : (4 : Int) - w11_2.toInt < (fuel_11 : Int) + 1 := by omega
          refine lv_iload_n C.1 C.2.1 dX0_findOp_11 rfl (lv_at hl 2 rfl) ?_
          refine lv_iconst (v := 4) C.1 C.2.1 dX0_findOp_12 (by decide) ?_
          refine lv_icmp_ge (tgt := 42) C.1 C.2.1 dX0_findOp_13 (by decide) (fun c_5 => ?_) (fun c_5 => ?_)
          · replace c_5 : 4 ≤ w11_2.toInt := i_le c_5
            exact L_42 w11_1 w11_2 _ _ _ ⟨by omega, by omega⟩ ⟨by omega, by omega⟩ (show w11_1.toInt ≤ 156 from by omega) (show (256 : Int) - w11_1.toInt < (fuel_2 : Int) + 1 from by omega) hP hD hS (lv_sub hl [0, 1, 2] rfl)
          · replace c_5 : w11_2.toInt < 4 := i_nle c_5
            refine lv_aload_n C.1 C.2.1 dX0_findOp_16 rfl (lv_at hl 0 rfl) ?_
            refine k_get (v := .ref (ad 2)) C hP 5 rfl rfl inlX0 0 (by decide) m_5_17 rfl dX0_findOp_17 ?_
            refine k_get (v := .ref (ad 9)) C hP 2 rfl rfl inlX9 1 (by decide) m_5_23 rfl dX0_findOp_20 ?_
            refine lv_bipush (v := 11) C.1 C.2.1 dX0_findOp_23 (by decide) ?_
            refine lv_iload_n C.1 C.2.1 dX0_findOp_25 rfl (lv_at hl 2 rfl) ?_
            obtain ⟨v_6, e_7⟩ : ∃ z, z = (11 : Int32) + (w11_2 : Int32) := ⟨_, rfl⟩
            have h_8 : v_6.toInt = 11 + w11_2.toInt := by rw [e_7]; exact ti_iadd (by show (_ : Int) ≤ 11 + w11_2.toInt; omega) (by show 11 + w11_2.toInt < (_ : Int); omega)
            refine k_iadd (v := v_6) C e_7.symm dX0_findOp_26 ?_
            obtain ⟨v_9, e_10⟩ : ∃ z, z = (t.2.2.1 9 (v_6 : Int32).toNatClampNeg) := ⟨_, rfl⟩
            have h_11 : (-128 : Int) ≤ v_9.toInt ∧ v_9.toInt ≤ 127 := by rw [e_10]; exact hok.2.1 9 _
            refine k_bld (v := v_9) C hP 9 rfl (vp_in_iff.mpr ⟨by omega, by omega⟩) e_10.symm dX0_findOp_27 ?_
            refine lv_iload_n C.1 C.2.1 dX0_findOp_28 rfl (lv_at hl 1 rfl) ?_
            refine lv_iload_n C.1 C.2.1 dX0_findOp_29 rfl (lv_at hl 2 rfl) ?_
            refine g_Si (As := [.int w11_1, .int w11_2]) (rest := [.int v_9]) C hP hD hS hA (T_X1_opLetter l D K Z Y ad d t hok (w11_1) (show (0 : Int) ≤ (w11_1 : Int32).toInt ∧ (w11_1 : Int32).toInt ≤ 2147483647 from ⟨by omega, (i_rng _).2⟩) (w11_2) (show (0 : Int) ≤ (w11_2 : Int32).toInt ∧ (w11_2 : Int32).toInt ≤ 3 from ⟨by omega, by omega⟩)) hE hZ (uwS m_20_4 m_20_5 m_14_2 m_20_6) (hdS 2 (by decide +kernel) rfl) ⟨Nat.le_of_ble_eq_true rfl, Nat.le_of_ble_eq_true rfl⟩ rfl rfl rfl hl.1 (Nat.le_of_ble_eq_true rfl) dX0_findOp_30 ⟨Nat.le_of_ble_eq_true rfl, Nat.le_of_ble_eq_true rfl⟩ (fun r_13 t_12 H locs hw hP hD hS => ?_)
            obtain ⟨h_15, h_16⟩ := hw
            refine lv_icmp_ne (tgt := 42) C.1 C.2.1 dX0_findOp_33 (by decide) (fun c_17 => ?_) (fun c_17 => ?_)
            · replace c_17 : ¬ v_9.toInt = r_13.toInt := i_ne c_17
              exact L_42 w11_1 w11_2 _ _ _ ⟨by omega, by omega⟩ ⟨by omega, by omega⟩ (show w11_1.toInt ≤ 156 from by omega) (show (256 : Int) - w11_1.toInt < (fuel_2 : Int) + 1 from by omega) hP hD hS (lv_sub hl [0, 1, 2] rfl)
            · replace c_17 : v_9.toInt = r_13.toInt := i_eq c_17
              obtain ⟨v_18, e_19⟩ : ∃ z, z = w11_2 + 1 := ⟨_, rfl⟩
              have h_20 : v_18.toInt = w11_2.toInt + 1 := by rw [e_19]; exact ti_iadd (by show (_ : Int) ≤ w11_2.toInt + 1; omega) (by show w11_2.toInt + 1 < (_ : Int); omega)
              refine lv_iinc (v := v_18) (lv' := [(2, .int v_18), (0, .ref (ad 5)), (1, .int w11_1)]) C.1 C.2.1 dX0_findOp_36 hl (k := 2) rfl e_19.symm (by decide) rfl (fun ls hl => ?_)
              have hl : lv_has ls 3 [(0, .ref (ad 5)), (1, .int w11_1), (2, .int v_18)] := lv_sub hl [1, 2, 0] rfl
              refine lv_goto (tgt := 11) C.1 C.2.1 dX0_findOp_39 (by decide) ?_
              exact ih_11 w11_1 v_18 _ _ _ ⟨by omega, by omega⟩ ⟨by omega, by omega⟩ (show w11_1.toInt ≤ 156 from by omega) (show (256 : Int) - w11_1.toInt < (fuel_2 : Int) + 1 from by omega) (show (4 : Int) - v_18.toInt < (fuel_11 : Int) from by omega) hP hD hS (lv_sub hl [0, 1, 2] rfl)
      refine lv_iload_n C.1 C.2.1 dX0_findOp_2 rfl (lv_at hl 1 rfl) ?_
      refine lv_sipush (v := 157) C.1 C.2.1 dX0_findOp_3 (by decide) ?_
      refine lv_icmp_ge (tgt := 55) C.1 C.2.1 dX0_findOp_6 (by decide) (fun c_21 => ?_) (fun c_21 => ?_)
      · replace c_21 : 157 ≤ w2_1.toInt := i_le c_21
        refine lv_iconst (v := (-1)) C.1 C.2.1 dX0_findOp_55 (by decide) ?_
        exact g_iret C hr hlocks hP hD hS rfl () rfl ⟨by decide, by decide⟩ (Nat.le_of_ble_eq_true rfl) (Nat.le_of_ble_eq_true rfl) dX0_findOp_56
      · replace c_21 : w2_1.toInt < 157 := i_nle c_21
        refine lv_iconst (v := 0) C.1 C.2.1 dX0_findOp_9 (by decide) ?_
        refine lv_istore_n (lv' := [(2, .int 0), (0, .ref (ad 5)), (1, .int w2_1)]) C.1 C.2.1 dX0_findOp_10 rfl hl (by decide) rfl (fun ls hl => ?_)
        have hl : lv_has ls 3 [(0, .ref (ad 5)), (1, .int w2_1), (2, .int 0)] := lv_sub hl [1, 2, 0] rfl
        exact L_11 5 w2_1 0 _ _ _ ⟨by omega, by omega⟩ ⟨by decide, by decide⟩ (show w2_1.toInt ≤ 156 from by omega) (show (256 : Int) - w2_1.toInt < (fuel_2 : Int) + 1 from by omega) (show (4 : Int) - 0 < ((5 : Nat) : Int) from by omega) hP hD hS (lv_sub hl [0, 1, 2] rfl)
  refine lv_iconst (v := 0) C.1 C.2.1 dX0_findOp_0 (by decide) ?_
  refine lv_istore_n (lv' := [(1, .int 0), (0, .ref (ad 5))]) C.1 C.2.1 dX0_findOp_1 rfl hl (by decide) rfl (fun ls hl => ?_)
  have hl : lv_has ls 3 [(0, .ref (ad 5)), (1, .int 0)] := lv_sub hl [1, 0] rfl
  exact L_2 257 0 _ _ _ ⟨by decide, by decide⟩ (show (256 : Int) - 0 < ((257 : Nat) : Int) from by omega) hP hD hS (lv_sub hl [0, 1] rfl)

theorem dX10_settle_0 : decode cX10_settle 0 = .ok (.iconst 0, 1) := by decide +kernel
theorem dX10_settle_1 : decode cX10_settle 1 = .ok (.istore_n 3, 1) := by decide +kernel
theorem dX10_settle_101 : decode cX10_settle 101 = .ok (.iadd, 1) := by decide +kernel
theorem dX10_settle_102 : decode cX10_settle 102 = .ok (.aload_n 0, 1) := by decide +kernel
theorem dX10_settle_103 : decode cX10_settle 103 = .ok (.getfield 34, 3) := by decide +kernel
theorem dX10_settle_106 : decode cX10_settle 106 = .ok (.iload 4, 2) := by decide +kernel
theorem dX10_settle_108 : decode cX10_settle 108 = .ok (.bipush 100, 2) := by decide +kernel
theorem dX10_settle_110 : decode cX10_settle 110 = .ok (.imul, 1) := by decide +kernel
theorem dX10_settle_111 : decode cX10_settle 111 = .ok (.iload 6, 2) := by decide +kernel
theorem dX10_settle_113 : decode cX10_settle 113 = .ok (.iadd, 1) := by decide +kernel
theorem dX10_settle_114 : decode cX10_settle 114 = .ok (.iaload, 1) := by decide +kernel
theorem dX10_settle_115 : decode cX10_settle 115 = .ok (.iastore, 1) := by decide +kernel
theorem dX10_settle_116 : decode cX10_settle 116 = .ok (.iinc 6 1, 3) := by decide +kernel
theorem dX10_settle_119 : decode cX10_settle 119 = .ok (.goto (-57), 3) := by decide +kernel
theorem dX10_settle_12 : decode cX10_settle 12 = .ok (.ifCond .le 116, 3) := by decide +kernel
theorem dX10_settle_122 : decode cX10_settle 122 = .ok (.iinc 3 1, 3) := by decide +kernel
theorem dX10_settle_125 : decode cX10_settle 125 = .ok (.goto (-123), 3) := by decide +kernel
theorem dX10_settle_128 : decode cX10_settle 128 = .ok (.return_, 1) := by decide +kernel
theorem dX10_settle_15 : decode cX10_settle 15 = .ok (.aload_n 0, 1) := by decide +kernel
theorem dX10_settle_16 : decode cX10_settle 16 = .ok (.lload_n 1, 1) := by decide +kernel
theorem dX10_settle_17 : decode cX10_settle 17 = .ok (.invokevirtual 155, 3) := by decide +kernel
theorem dX10_settle_2 : decode cX10_settle 2 = .ok (.iload_n 3, 1) := by decide +kernel
theorem dX10_settle_20 : decode cX10_settle 20 = .ok (.istore 4, 2) := by decide +kernel
theorem dX10_settle_22 : decode cX10_settle 22 = .ok (.iload 4, 2) := by decide +kernel
theorem dX10_settle_24 : decode cX10_settle 24 = .ok (.ifCond .ge 4, 3) := by decide +kernel
theorem dX10_settle_27 : decode cX10_settle 27 = .ok (.return_, 1) := by decide +kernel
theorem dX10_settle_28 : decode cX10_settle 28 = .ok (.aload_n 0, 1) := by decide +kernel
theorem dX10_settle_29 : decode cX10_settle 29 = .ok (.getfield 27, 3) := by decide +kernel
theorem dX10_settle_3 : decode cX10_settle 3 = .ok (.bipush 16, 2) := by decide +kernel
theorem dX10_settle_32 : decode cX10_settle 32 = .ok (.iload 4, 2) := by decide +kernel
theorem dX10_settle_34 : decode cX10_settle 34 = .ok (.iconst 0, 1) := by decide +kernel
theorem dX10_settle_35 : decode cX10_settle 35 = .ok (.bastore, 1) := by decide +kernel
theorem dX10_settle_36 : decode cX10_settle 36 = .ok (.aload_n 0, 1) := by decide +kernel
theorem dX10_settle_37 : decode cX10_settle 37 = .ok (.dup, 1) := by decide +kernel
theorem dX10_settle_38 : decode cX10_settle 38 = .ok (.getfield 66, 3) := by decide +kernel
theorem dX10_settle_41 : decode cX10_settle 41 = .ok (.iconst 1, 1) := by decide +kernel
theorem dX10_settle_42 : decode cX10_settle 42 = .ok (.isub, 1) := by decide +kernel
theorem dX10_settle_43 : decode cX10_settle 43 = .ok (.putfield 66, 3) := by decide +kernel
theorem dX10_settle_46 : decode cX10_settle 46 = .ok (.aload_n 0, 1) := by decide +kernel
theorem dX10_settle_47 : decode cX10_settle 47 = .ok (.getfield 31, 3) := by decide +kernel
theorem dX10_settle_5 : decode cX10_settle 5 = .ok (.if_icmp .gt 123, 3) := by decide +kernel
theorem dX10_settle_50 : decode cX10_settle 50 = .ok (.iload 4, 2) := by decide +kernel
theorem dX10_settle_52 : decode cX10_settle 52 = .ok (.iaload, 1) := by decide +kernel
theorem dX10_settle_53 : decode cX10_settle 53 = .ok (.sipush 3999, 3) := by decide +kernel
theorem dX10_settle_56 : decode cX10_settle 56 = .ok (.iadd, 1) := by decide +kernel
theorem dX10_settle_57 : decode cX10_settle 57 = .ok (.istore 5, 2) := by decide +kernel
theorem dX10_settle_59 : decode cX10_settle 59 = .ok (.iconst 0, 1) := by decide +kernel
theorem dX10_settle_60 : decode cX10_settle 60 = .ok (.istore 6, 2) := by decide +kernel
theorem dX10_settle_62 : decode cX10_settle 62 = .ok (.iload 6, 2) := by decide +kernel
theorem dX10_settle_64 : decode cX10_settle 64 = .ok (.iload 4, 2) := by decide +kernel
theorem dX10_settle_66 : decode cX10_settle 66 = .ok (.invokestatic 106, 3) := by decide +kernel
theorem dX10_settle_69 : decode cX10_settle 69 = .ok (.if_icmp .ge 53, 3) := by decide +kernel
theorem dX10_settle_72 : decode cX10_settle 72 = .ok (.iload 5, 2) := by decide +kernel
theorem dX10_settle_74 : decode cX10_settle 74 = .ok (.iload 6, 2) := by decide +kernel
theorem dX10_settle_76 : decode cX10_settle 76 = .ok (.iadd, 1) := by decide +kernel
theorem dX10_settle_77 : decode cX10_settle 77 = .ok (.ifCond .lt 39, 3) := by decide +kernel
theorem dX10_settle_8 : decode cX10_settle 8 = .ok (.aload_n 0, 1) := by decide +kernel
theorem dX10_settle_80 : decode cX10_settle 80 = .ok (.iload 5, 2) := by decide +kernel
theorem dX10_settle_82 : decode cX10_settle 82 = .ok (.iload 6, 2) := by decide +kernel
theorem dX10_settle_84 : decode cX10_settle 84 = .ok (.iadd, 1) := by decide +kernel
theorem dX10_settle_85 : decode cX10_settle 85 = .ok (.aload_n 0, 1) := by decide +kernel
theorem dX10_settle_86 : decode cX10_settle 86 = .ok (.getfield 57, 3) := by decide +kernel
theorem dX10_settle_89 : decode cX10_settle 89 = .ok (.arraylength, 1) := by decide +kernel
theorem dX10_settle_9 : decode cX10_settle 9 = .ok (.getfield 66, 3) := by decide +kernel
theorem dX10_settle_90 : decode cX10_settle 90 = .ok (.if_icmp .ge 26, 3) := by decide +kernel
theorem dX10_settle_93 : decode cX10_settle 93 = .ok (.aload_n 0, 1) := by decide +kernel
theorem dX10_settle_94 : decode cX10_settle 94 = .ok (.getfield 57, 3) := by decide +kernel
theorem dX10_settle_97 : decode cX10_settle 97 = .ok (.iload 5, 2) := by decide +kernel
theorem dX10_settle_99 : decode cX10_settle 99 = .ok (.iload 6, 2) := by decide +kernel
set_option maxHeartbeats 4000000 in
set_option maxRecDepth 100000 in
theorem T_X10_settle (l : Launch) (D : va_G) (K : Nat → ClassId) (Z Y : Nat → Nat) (ad : Nat → Nat) (d : dSt) (t : tSt) (hok : okX t) (x1 : Int64) : tMet l yX10_settle cX10_settle 7 none (rmD 2 0 0) D K Z Y [.ref (ad 3), .long x1] ((WX d) K ad t) (QV D K (fun (u : tSt) => okX u ∧ frA [(3, 8)] [] [10, 15] [] t u) (fun (u : tSt) => (WX d) K ad u)) 0 0 := by
  refine t_met RX10 ⟨rfl, by decide +kernel⟩ (Nat.le_of_ble_eq_true rfl) ?_
  intro p e s m below meth c A ls C hE hZ hr hlocks hA hP hD hS hl
  have hl : lv_has ls 7 [(0, .ref (ad 3)), (1, .long x1)] := hl
  have hokt := hok
  have hfr : frA [(3, 8)] [] [10, 15] [] t t := frA_rf
  have L_2 : ∀ (fuel_2 : Nat) (t1 : tSt) (w2_3 : Int32) (H : Heap) (locs : List Loc) (ls : Array Slot), okX t1 → frA [(3, 8)] [] [10, 15] [] t t1 → (0 : Int) ≤ w2_3.toInt ∧ w2_3.toInt ≤ 17 → (17 : Int) - w2_3.toInt < (fuel_2 : Int) → va_P D vwCl ((WX d) K ad t1) H → va_D A ((WX d) K ad t1) → va_S A s.heap H locs → lv_has ls 7 [(0, .ref (ad 3)), (1, .long x1), (3, .int w2_3)] → W p l e (rmD 2 0 0) s m [.ref (ad 3), .long x1].toArray below meth c H locs 0 0 (MQ below (QV D K (fun (u : tSt) => okX u ∧ frA [(3, 8)] [] [10, 15] [] t u) (fun (u : tSt) => (WX d) K ad u) A) [.ref (ad 3), .long x1].toArray s 0 0 A) (F0 m 2 ls []) := by
    intro fuel_2
    induction fuel_2 with
    | zero =>
      intro t1 w2_3 H locs ls hok hfr hw2_3 hm2_2 hP hD hS hl
      exact absurd hm2_2 (by omega)
    | succ fuel_2 ih_2 =>
      intro t1 w2_3 H locs ls hok hfr hw2_3 hm2_2 hP hD hS hl
      have hm2_2 : (17 : Int) - w2_3.toInt < (fuel_2 : Int) + 1 := by omega
      have L_62 : ∀ (fuel_62 : Nat) (t1 : tSt) (w62_3 : Int32) (w62_4 : Int32) (w62_5 : Int32) (w62_6 : Int32) (H : Heap) (locs : List Loc) (ls : Array Slot), okX t1 → frA [(3, 8)] [] [10, 15] [] t t1 → (0 : Int) ≤ w62_3.toInt ∧ w62_3.toInt ≤ 16 → (0 : Int) ≤ w62_4.toInt ∧ w62_4.toInt ≤ 16 → (-2147479649 : Int) ≤ w62_5.toInt ∧ w62_5.toInt ≤ 1073749918 → (0 : Int) ≤ w62_6.toInt ∧ w62_6.toInt ≤ 100 → (0 : Int) ≤ (t1.1 3 8).toInt ∧ (t1.1 3 8).toInt ≤ 2147483646 → (17 : Int) - w62_3.toInt < (fuel_2 : Int) + 1 → (100 : Int) - w62_6.toInt < (fuel_62 : Int) → va_P D vwCl ((WX d) K ad t1) H → va_D A ((WX d) K ad t1) → va_S A s.heap H locs → lv_has ls 7 [(0, .ref (ad 3)), (1, .long x1), (3, .int w62_3), (4, .int w62_4), (5, .int w62_5), (6, .int w62_6)] → W p l e (rmD 2 0 0) s m [.ref (ad 3), .long x1].toArray below meth c H locs 0 0 (MQ below (QV D K (fun (u : tSt) => okX u ∧ frA [(3, 8)] [] [10, 15] [] t u) (fun (u : tSt) => (WX d) K ad u) A) [.ref (ad 3), .long x1].toArray s 0 0 A) (F0 m 62 ls []) := by
        intro fuel_62
        induction fuel_62 with
        | zero =>
          intro t1 w62_3 w62_4 w62_5 w62_6 H locs ls hok hfr hw62_3 hw62_4 hw62_5 hw62_6 hf62_8 hm62_2 hm62_62 hP hD hS hl
          exact absurd hm62_62 (by omega)
        | succ fuel_62 ih_62 =>
          intro t1 w62_3 w62_4 w62_5 w62_6 H locs ls hok hfr hw62_3 hw62_4 hw62_5 hw62_6 hf62_8 hm62_2 hm62_62 hP hD hS hl
          have hm62_62 : (100 : Int) - w62_6.toInt < (fuel_62 : Int) + 1 := by omega
          refine lv_iload C.1 C.2.1 dX10_settle_62 (lv_at hl 5 rfl) ?_
          refine lv_iload C.1 C.2.1 dX10_settle_64 (lv_at hl 3 rfl) ?_
          refine g_Si (As := [.int w62_4]) (rest := [.int w62_6]) C hP hD hS hA (T_X10_wordsOf l D K Z Y ad d t1 hok (w62_4) (show (0 : Int) ≤ (w62_4 : Int32).toInt ∧ (w62_4 : Int32).toInt ≤ 63 from ⟨by omega, by omega⟩)) hE hZ (uwS m_47_0 m_47_1 m_1_20 m_47_2) (hdS 1 (by decide +kernel) rfl) ⟨Nat.le_of_ble_eq_true rfl, Nat.le_of_ble_eq_true rfl⟩ rfl rfl rfl hl.1 (Nat.le_of_ble_eq_true rfl) dX10_settle_66 ⟨Nat.le_of_ble_eq_true rfl, Nat.le_of_ble_eq_true rfl⟩ (fun r_2 t_1 H locs hw hP hD hS => ?_)
          obtain ⟨h_4, h_5⟩ := hw
          refine lv_icmp_ge (tgt := 122) C.1 C.2.1 dX10_settle_69 (by decide) (fun c_6 => ?_) (fun c_6 => ?_)
          · replace c_6 : r_2.toInt ≤ w62_6.toInt := i_le c_6
            obtain ⟨v_7, e_8⟩ : ∃ z, z = w62_3 + 1 := ⟨_, rfl⟩
            have h_9 : v_7.toInt = w62_3.toInt + 1 := by rw [e_8]; exact ti_iadd (by show (_ : Int) ≤ w62_3.toInt + 1; omega) (by show w62_3.toInt + 1 < (_ : Int); omega)
            refine lv_iinc (v := v_7) (lv' := [(3, .int v_7), (0, .ref (ad 3)), (1, .long x1), (4, .int w62_4), (5, .int w62_5), (6, .int w62_6)]) C.1 C.2.1 dX10_settle_122 hl (k := 2) rfl e_8.symm (by decide) rfl (fun ls hl => ?_)
            have hl : lv_has ls 7 [(0, .ref (ad 3)), (1, .long x1), (3, .int v_7), (4, .int w62_4), (5, .int w62_5), (6, .int w62_6)] := lv_sub hl [1, 2, 0, 3, 4, 5] rfl
            refine lv_goto (tgt := 2) C.1 C.2.1 dX10_settle_125 (by decide) ?_
            exact ih_2 t1 v_7 _ _ _ hok hfr ⟨by omega, by omega⟩ (show (17 : Int) - v_7.toInt < (fuel_2 : Int) from by omega) hP hD hS (lv_sub hl [0, 1, 2] rfl)
          · replace c_6 : w62_6.toInt < r_2.toInt := i_nle c_6
            refine lv_iload C.1 C.2.1 dX10_settle_72 (lv_at hl 4 rfl) ?_
            refine lv_iload C.1 C.2.1 dX10_settle_74 (lv_at hl 5 rfl) ?_
            obtain ⟨v_10, e_11⟩ : ∃ z, z = (w62_5 : Int32) + (w62_6 : Int32) := ⟨_, rfl⟩
            have h_12 : v_10.toInt = w62_5.toInt + w62_6.toInt := by rw [e_11]; exact ti_iadd (by show (_ : Int) ≤ w62_5.toInt + w62_6.toInt; omega) (by show w62_5.toInt + w62_6.toInt < (_ : Int); omega)
            refine k_iadd (v := v_10) C e_11.symm dX10_settle_76 ?_
            refine lv_if_lt (tgt := 116) C.1 C.2.1 dX10_settle_77 (by decide) (fun c_13 => ?_) (fun c_13 => ?_)
            · replace c_13 : v_10.toInt < 0 := i_lt c_13
              obtain ⟨v_14, e_15⟩ : ∃ z, z = w62_6 + 1 := ⟨_, rfl⟩
              have h_16 : v_14.toInt = w62_6.toInt + 1 := by rw [e_15]; exact ti_iadd (by show (_ : Int) ≤ w62_6.toInt + 1; omega) (by show w62_6.toInt + 1 < (_ : Int); omega)
              refine lv_iinc (v := v_14) (lv' := [(6, .int v_14), (0, .ref (ad 3)), (1, .long x1), (3, .int w62_3), (4, .int w62_4), (5, .int w62_5)]) C.1 C.2.1 dX10_settle_116 hl (k := 5) rfl e_15.symm (by decide) rfl (fun ls hl => ?_)
              have hl : lv_has ls 7 [(0, .ref (ad 3)), (1, .long x1), (3, .int w62_3), (4, .int w62_4), (5, .int w62_5), (6, .int v_14)] := lv_sub hl [1, 2, 3, 4, 5, 0] rfl
              refine lv_goto (tgt := 62) C.1 C.2.1 dX10_settle_119 (by decide) ?_
              exact ih_62 t1 w62_3 w62_4 w62_5 v_14 _ _ _ hok hfr ⟨by omega, by omega⟩ ⟨by omega, by omega⟩ ⟨by omega, by omega⟩ ⟨by omega, by omega⟩ (show (0 : Int) ≤ ((t1.1 3 8) : Int32).toInt ∧ ((t1.1 3 8) : Int32).toInt ≤ 2147483646 from ⟨by omega, by omega⟩) (show (17 : Int) - w62_3.toInt < (fuel_2 : Int) + 1 from by omega) (show (100 : Int) - v_14.toInt < (fuel_62 : Int) from by omega) hP hD hS (lv_sub hl [0, 1, 2, 3, 4, 5] rfl)
            · replace c_13 : 0 ≤ v_10.toInt := i_nlt c_13
              refine lv_iload C.1 C.2.1 dX10_settle_80 (lv_at hl 4 rfl) ?_
              refine lv_iload C.1 C.2.1 dX10_settle_82 (lv_at hl 5 rfl) ?_
              obtain ⟨v_17, e_18⟩ : ∃ z, z = (w62_5 : Int32) + (w62_6 : Int32) := ⟨_, rfl⟩
              have h_19 : v_17.toInt = w62_5.toInt + w62_6.toInt := by rw [e_18]; exact ti_iadd (by show (_ : Int) ≤ w62_5.toInt + w62_6.toInt; omega) (by show w62_5.toInt + w62_6.toInt < (_ : Int); omega)
              refine k_iadd (v := v_17) C e_18.symm dX10_settle_84 ?_
              refine lv_aload_n C.1 C.2.1 dX10_settle_85 rfl (lv_at hl 0 rfl) ?_
              refine k_get (v := .ref (ad 10)) C hP 3 rfl rfl inlX10 0 (by decide) m_4_0 rfl dX10_settle_86 ?_
              refine k_len (v := 7999) C hP 10 0 rfl rfl rfl dX10_settle_89 ?_
              refine lv_icmp_ge (tgt := 116) C.1 C.2.1 dX10_settle_90 (by decide) (fun c_20 => ?_) (fun c_20 => ?_)
              · replace c_20 : 7999 ≤ v_17.toInt := i_le c_20
                obtain ⟨v_21, e_22⟩ : ∃ z, z = w62_6 + 1 := ⟨_, rfl⟩
                have h_23 : v_21.toInt = w62_6.toInt + 1 := by rw [e_22]; exact ti_iadd (by show (_ : Int) ≤ w62_6.toInt + 1; omega) (by show w62_6.toInt + 1 < (_ : Int); omega)
                refine lv_iinc (v := v_21) (lv' := [(6, .int v_21), (0, .ref (ad 3)), (1, .long x1), (3, .int w62_3), (4, .int w62_4), (5, .int w62_5)]) C.1 C.2.1 dX10_settle_116 hl (k := 5) rfl e_22.symm (by decide) rfl (fun ls hl => ?_)
                have hl : lv_has ls 7 [(0, .ref (ad 3)), (1, .long x1), (3, .int w62_3), (4, .int w62_4), (5, .int w62_5), (6, .int v_21)] := lv_sub hl [1, 2, 3, 4, 5, 0] rfl
                refine lv_goto (tgt := 62) C.1 C.2.1 dX10_settle_119 (by decide) ?_
                exact ih_62 t1 w62_3 w62_4 w62_5 v_21 _ _ _ hok hfr ⟨by omega, by omega⟩ ⟨by omega, by omega⟩ ⟨by omega, by omega⟩ ⟨by omega, by omega⟩ (show (0 : Int) ≤ ((t1.1 3 8) : Int32).toInt ∧ ((t1.1 3 8) : Int32).toInt ≤ 2147483646 from ⟨by omega, by omega⟩) (show (17 : Int) - w62_3.toInt < (fuel_2 : Int) + 1 from by omega) (show (100 : Int) - v_21.toInt < (fuel_62 : Int) from by omega) hP hD hS (lv_sub hl [0, 1, 2, 3, 4, 5] rfl)
              · replace c_20 : v_17.toInt < 7999 := i_nle c_20
                refine lv_aload_n C.1 C.2.1 dX10_settle_93 rfl (lv_at hl 0 rfl) ?_
                refine k_get (v := .ref (ad 10)) C hP 3 rfl rfl inlX10 0 (by decide) m_4_0 rfl dX10_settle_94 ?_
                refine lv_iload C.1 C.2.1 dX10_settle_97 (lv_at hl 4 rfl) ?_
                refine lv_iload C.1 C.2.1 dX10_settle_99 (lv_at hl 5 rfl) ?_
                obtain ⟨v_24, e_25⟩ : ∃ z, z = (w62_5 : Int32) + (w62_6 : Int32) := ⟨_, rfl⟩
                have h_26 : v_24.toInt = w62_5.toInt + w62_6.toInt := by rw [e_25]; exact ti_iadd (by show (_ : Int) ≤ w62_5.toInt + w62_6.toInt; omega) (by show w62_5.toInt + w62_6.toInt < (_ : Int); omega)
                refine k_iadd (v := v_24) C e_25.symm dX10_settle_101 ?_
                refine lv_aload_n C.1 C.2.1 dX10_settle_102 rfl (lv_at hl 0 rfl) ?_
                refine k_get (v := .ref (ad 17)) C hP 3 rfl rfl inlX10 7 (by decide) m_3_13 rfl dX10_settle_103 ?_
                refine lv_iload C.1 C.2.1 dX10_settle_106 (lv_at hl 3 rfl) ?_
                refine lv_bipush (v := 100) C.1 C.2.1 dX10_settle_108 (by decide) ?_
                obtain ⟨v_27, e_28⟩ : ∃ z, z = (w62_4 : Int32) * (100 : Int32) := ⟨_, rfl⟩
                have h_29 : v_27.toInt = w62_4.toInt * 100 := by rw [e_28]; exact ti_mulr (k := 100) (by decide) (by omega) (by omega)
                refine k_imul (v := v_27) C e_28.symm dX10_settle_110 ?_
                refine lv_iload C.1 C.2.1 dX10_settle_111 (lv_at hl 5 rfl) ?_
                obtain ⟨v_30, e_31⟩ : ∃ z, z = (v_27 : Int32) + (w62_6 : Int32) := ⟨_, rfl⟩
                have h_32 : v_30.toInt = v_27.toInt + w62_6.toInt := by rw [e_31]; exact ti_iadd (by show (_ : Int) ≤ v_27.toInt + w62_6.toInt; omega) (by show v_27.toInt + w62_6.toInt < (_ : Int); omega)
                refine k_iadd (v := v_30) C e_31.symm dX10_settle_113 ?_
                obtain ⟨v_33, e_34⟩ : ∃ z, z = (t1.2.2.1 17 (v_30 : Int32).toNatClampNeg) := ⟨_, rfl⟩
                refine k_ild (v := v_33) C hP 17 rfl (vp_in_iff.mpr ⟨by omega, by omega⟩) e_34.symm dX10_settle_114 ?_
                refine k_ist (ws' := (WX d) K ad (uB t1 10 (v_24 : Int32).toNatClampNeg v_33)) (x' := v_33) C hP hD hS 10 rfl (vp_in_iff.mpr ⟨by omega, by omega⟩) rfl rfl rfl dX10_settle_115 (fun H locs hP hD hS => ?_)
                have hok : okX (uB t1 10 (v_24 : Int32).toNatClampNeg v_33) := ⟨hok.1, okB_B hok.2.1 10 _ v_33 (show (-2147483648 : Int) ≤ (v_33 : Int32).toInt ∧ (v_33 : Int32).toInt ≤ 2147483647 from (i_rng _)), trivial⟩
                have hfr : frA [(3, 8)] [] [10, 15] [] t (uB t1 10 (v_24 : Int32).toNatClampNeg v_33) := frA_B hfr 10 _ _ rfl
                obtain ⟨v_35, e_36⟩ : ∃ z, z = w62_6 + 1 := ⟨_, rfl⟩
                have h_37 : v_35.toInt = w62_6.toInt + 1 := by rw [e_36]; exact ti_iadd (by show (_ : Int) ≤ w62_6.toInt + 1; omega) (by show w62_6.toInt + 1 < (_ : Int); omega)
                refine lv_iinc (v := v_35) (lv' := [(6, .int v_35), (0, .ref (ad 3)), (1, .long x1), (3, .int w62_3), (4, .int w62_4), (5, .int w62_5)]) C.1 C.2.1 dX10_settle_116 hl (k := 5) rfl e_36.symm (by decide) rfl (fun ls hl => ?_)
                have hl : lv_has ls 7 [(0, .ref (ad 3)), (1, .long x1), (3, .int w62_3), (4, .int w62_4), (5, .int w62_5), (6, .int v_35)] := lv_sub hl [1, 2, 3, 4, 5, 0] rfl
                refine lv_goto (tgt := 62) C.1 C.2.1 dX10_settle_119 (by decide) ?_
                exact ih_62 (uB t1 10 (v_24 : Int32).toNatClampNeg v_33) w62_3 w62_4 w62_5 v_35 _ _ _ hok hfr ⟨by omega, by omega⟩ ⟨by omega, by omega⟩ ⟨by omega, by omega⟩ ⟨by omega, by omega⟩ (show (0 : Int) ≤ ((t1.1 3 8) : Int32).toInt ∧ ((t1.1 3 8) : Int32).toInt ≤ 2147483646 from ⟨by omega, by omega⟩) (show (17 : Int) - w62_3.toInt < (fuel_2 : Int) + 1 from by omega) (show (100 : Int) - v_35.toInt < (fuel_62 : Int) from by omega) hP hD hS (lv_sub hl [0, 1, 2, 3, 4, 5] rfl)
      refine lv_iload_n C.1 C.2.1 dX10_settle_2 rfl (lv_at hl 2 rfl) ?_
      refine lv_bipush (v := 16) C.1 C.2.1 dX10_settle_3 (by decide) ?_
      refine lv_icmp_gt (tgt := 128) C.1 C.2.1 dX10_settle_5 (by decide) (fun c_38 => ?_) (fun c_38 => ?_)
      · replace c_38 : 16 < w2_3.toInt := i_lt c_38
        exact g_vret C hr hlocks hP hD hS t1 rfl ⟨hok, hfr⟩ (Nat.le_of_ble_eq_true rfl) (Nat.le_of_ble_eq_true rfl) dX10_settle_128
      · replace c_38 : w2_3.toInt ≤ 16 := i_nlt c_38
        refine lv_aload_n C.1 C.2.1 dX10_settle_8 rfl (lv_at hl 0 rfl) ?_
        refine k_get (v := .int (t1.1 3 8)) C hP 3 rfl rfl inlX10 8 (by decide) m_11_18 rfl dX10_settle_9 ?_
        refine lv_if_le (tgt := 128) C.1 C.2.1 dX10_settle_12 (by decide) (fun c_39 => ?_) (fun c_39 => ?_)
        · replace c_39 : (t1.1 3 8).toInt ≤ 0 := i_le c_39
          exact g_vret C hr hlocks hP hD hS t1 rfl ⟨hok, hfr⟩ (Nat.le_of_ble_eq_true rfl) (Nat.le_of_ble_eq_true rfl) dX10_settle_128
        · replace c_39 : 0 < (t1.1 3 8).toInt := i_nle c_39
          refine lv_aload_n C.1 C.2.1 dX10_settle_15 rfl (lv_at hl 0 rfl) ?_
          refine lv_lload_n C.1 C.2.1 dX10_settle_16 rfl (lv_at hl 1 rfl) ?_
          refine g_Vi (As := [.long x1]) (rest := []) C hP hD hS hA (T_X10_firstDone l D K Z Y ad d t1 hok (x1)) hE hZ (uwV m_46_16 m_46_17 m_46_18 m_1_20 m_46_19) (hdV 1 (by decide +kernel) rfl) ⟨Nat.le_of_ble_eq_true rfl, Nat.le_of_ble_eq_true rfl⟩ rfl rfl (ci := 9) (q0 := 3) rfl rfl rfl hl.1 (Nat.le_of_ble_eq_true rfl) dX10_settle_17 ⟨Nat.le_of_ble_eq_true rfl, Nat.le_of_ble_eq_true rfl⟩ (fun r_41 t_40 H locs hw hP hD hS => ?_)
          obtain ⟨h_43, h_44⟩ := hw
          refine lv_istore (lv' := [(4, .int r_41), (0, .ref (ad 3)), (1, .long x1), (3, .int w2_3)]) C.1 C.2.1 dX10_settle_20 hl (by decide) rfl (fun ls hl => ?_)
          have hl : lv_has ls 7 [(0, .ref (ad 3)), (1, .long x1), (3, .int w2_3), (4, .int r_41)] := lv_sub hl [1, 2, 3, 0] rfl
          refine lv_iload C.1 C.2.1 dX10_settle_22 (lv_at hl 3 rfl) ?_
          refine lv_if_ge (tgt := 28) C.1 C.2.1 dX10_settle_24 (by decide) (fun c_45 => ?_) (fun c_45 => ?_)
          · replace c_45 : 0 ≤ r_41.toInt := i_le c_45
            refine lv_aload_n C.1 C.2.1 dX10_settle_28 rfl (lv_at hl 0 rfl) ?_
            refine k_get (v := .ref (ad 15)) C hP 3 rfl rfl inlX10 5 (by decide) m_3_11 rfl dX10_settle_29 ?_
            refine lv_iload C.1 C.2.1 dX10_settle_32 (lv_at hl 3 rfl) ?_
            refine lv_iconst (v := 0) C.1 C.2.1 dX10_settle_34 (by decide) ?_
            obtain ⟨v_46, e_47⟩ : ∃ z, z = vp_nar .boolean 0 := ⟨_, rfl⟩
            have h_48 : (0 : Int) ≤ v_46.toInt ∧ v_46.toInt ≤ 1 := by rw [e_47]; exact nar_boolean _
            refine k_zst (ws' := (WX d) K ad (uB t1 15 (r_41 : Int32).toNatClampNeg v_46)) (x' := v_46) C hP hD hS 15 rfl (vp_in_iff.mpr ⟨by omega, by omega⟩) rfl e_47.symm rfl dX10_settle_35 (fun H locs hP hD hS => ?_)
            have hok : okX (uB t1 15 (r_41 : Int32).toNatClampNeg v_46) := ⟨hok.1, okB_B hok.2.1 15 _ v_46 (show (0 : Int) ≤ (v_46 : Int32).toInt ∧ (v_46 : Int32).toInt ≤ 1 from ⟨by omega, by omega⟩), trivial⟩
            have hfr : frA [(3, 8)] [] [10, 15] [] t (uB t1 15 (r_41 : Int32).toNatClampNeg v_46) := frA_B hfr 15 _ _ rfl
            refine lv_aload_n C.1 C.2.1 dX10_settle_36 rfl (lv_at hl 0 rfl) ?_
            refine lv_dup C.1 C.2.1 dX10_settle_37 rfl ?_
            refine k_get (v := .int (t1.1 3 8)) C hP 3 rfl rfl inlX10 8 (by decide) m_11_18 rfl dX10_settle_38 ?_
            refine lv_iconst (v := 1) C.1 C.2.1 dX10_settle_41 (by decide) ?_
            obtain ⟨v_49, e_50⟩ : ∃ z, z = ((t1.1 3 8) : Int32) - (1 : Int32) := ⟨_, rfl⟩
            have h_52 := i_rng (t1.1 3 8)
            have h_51 : v_49.toInt = (t1.1 3 8).toInt - 1 := by rw [e_50]; exact ti_isub (by show (_ : Int) ≤ (t1.1 3 8).toInt - 1; omega) (by show (t1.1 3 8).toInt - 1 < (_ : Int); omega)
            refine k_isub (v := v_49) C e_50.symm dX10_settle_42 ?_
            refine k_put (ws' := (WX d) K ad (uI (uB t1 15 (r_41 : Int32).toNatClampNeg v_46) 3 8 v_49)) (v := .int v_49) C hP hD hS 3 rfl rfl inlX10 tyX10_ok nmX10 8 (by decide) m_11_18 rfl rfl rfl rfl rfl dX10_settle_43 (fun H locs hP hD hS => ?_)
            have hok : okX (uI (uB t1 15 (r_41 : Int32).toNatClampNeg v_46) 3 8 v_49) := ⟨okI_I hok.1 3 8 v_49 (show (-2147483648 : Int) ≤ (v_49 : Int32).toInt ∧ (v_49 : Int32).toInt ≤ 2147483647 from (i_rng _)), hok.2.1, trivial⟩
            have hfr : frA [(3, 8)] [] [10, 15] [] t (uI (uB t1 15 (r_41 : Int32).toNatClampNeg v_46) 3 8 v_49) := frA_I hfr 3 8 _ rfl
            refine lv_aload_n C.1 C.2.1 dX10_settle_46 rfl (lv_at hl 0 rfl) ?_
            refine k_get (v := .ref (ad 16)) C hP 3 rfl rfl inlX10 6 (by decide) m_3_12 rfl dX10_settle_47 ?_
            refine lv_iload C.1 C.2.1 dX10_settle_50 (lv_at hl 3 rfl) ?_
            have e_53 : (uI (uB t1 15 (r_41 : Int32).toNatClampNeg v_46) 3 8 v_49).2.2.1 16 = t1.2.2.1 16 := (uB_ne rfl)
            obtain ⟨v_54, e_55⟩ : ∃ z, z = (t1.2.2.1 16 (r_41 : Int32).toNatClampNeg) := ⟨_, rfl⟩
            have h_56 : (-2147483648 : Int) ≤ v_54.toInt ∧ v_54.toInt ≤ 1073745919 := by rw [e_55, ← e_53]; exact hok.2.1 16 _
            refine k_ild (v := v_54) C hP 16 rfl (vp_in_iff.mpr ⟨by omega, by omega⟩) ((congrFun e_53 _).trans e_55.symm) dX10_settle_52 ?_
            refine lv_sipush (v := 3999) C.1 C.2.1 dX10_settle_53 (by decide) ?_
            obtain ⟨v_57, e_58⟩ : ∃ z, z = (v_54 : Int32) + (3999 : Int32) := ⟨_, rfl⟩
            have h_60 := i_rng v_54
            have h_59 : v_57.toInt = v_54.toInt + 3999 := by rw [e_58]; exact ti_iadd (by show (_ : Int) ≤ v_54.toInt + 3999; omega) (by show v_54.toInt + 3999 < (_ : Int); omega)
            refine k_iadd (v := v_57) C e_58.symm dX10_settle_56 ?_
            refine lv_istore (lv' := [(5, .int v_57), (0, .ref (ad 3)), (1, .long x1), (3, .int w2_3), (4, .int r_41)]) C.1 C.2.1 dX10_settle_57 hl (by decide) rfl (fun ls hl => ?_)
            have hl : lv_has ls 7 [(0, .ref (ad 3)), (1, .long x1), (3, .int w2_3), (4, .int r_41), (5, .int v_57)] := lv_sub hl [1, 2, 3, 4, 0] rfl
            refine lv_iconst (v := 0) C.1 C.2.1 dX10_settle_59 (by decide) ?_
            refine lv_istore (lv' := [(6, .int 0), (0, .ref (ad 3)), (1, .long x1), (3, .int w2_3), (4, .int r_41), (5, .int v_57)]) C.1 C.2.1 dX10_settle_60 hl (by decide) rfl (fun ls hl => ?_)
            have hl : lv_has ls 7 [(0, .ref (ad 3)), (1, .long x1), (3, .int w2_3), (4, .int r_41), (5, .int v_57), (6, .int 0)] := lv_sub hl [1, 2, 3, 4, 5, 0] rfl
            exact L_62 101 (uI (uB t1 15 (r_41 : Int32).toNatClampNeg v_46) 3 8 v_49) w2_3 r_41 v_57 0 _ _ _ hok hfr ⟨by omega, by omega⟩ ⟨by omega, by omega⟩ ⟨by omega, by omega⟩ ⟨by decide, by decide⟩ (show (0 : Int) ≤ (v_49 : Int32).toInt ∧ (v_49 : Int32).toInt ≤ 2147483646 from ⟨by omega, by omega⟩) (show (17 : Int) - w2_3.toInt < (fuel_2 : Int) + 1 from by omega) (show (100 : Int) - 0 < ((101 : Nat) : Int) from by omega) hP hD hS (lv_sub hl [0, 1, 2, 3, 4, 5] rfl)
          · replace c_45 : r_41.toInt < 0 := i_nle c_45
            exact g_vret C hr hlocks hP hD hS t1 rfl ⟨hok, hfr⟩ (Nat.le_of_ble_eq_true rfl) (Nat.le_of_ble_eq_true rfl) dX10_settle_27
  refine lv_iconst (v := 0) C.1 C.2.1 dX10_settle_0 (by decide) ?_
  refine lv_istore_n (lv' := [(3, .int 0), (0, .ref (ad 3)), (1, .long x1)]) C.1 C.2.1 dX10_settle_1 rfl hl (by decide) rfl (fun ls hl => ?_)
  have hl : lv_has ls 7 [(0, .ref (ad 3)), (1, .long x1), (3, .int 0)] := lv_sub hl [1, 2, 0] rfl
  exact L_2 18 t 0 _ _ _ hok hfr ⟨by decide, by decide⟩ (show (17 : Int) - 0 < ((18 : Nat) : Int) from by omega) hP hD hS (lv_sub hl [0, 1, 2] rfl)

theorem dX5_expression_0 : decode cX5_expression 0 = .ok (.aload_n 0, 1) := by decide +kernel
theorem dX5_expression_1 : decode cX5_expression 1 = .ok (.invokevirtual 70, 3) := by decide +kernel
theorem dX5_expression_10 : decode cX5_expression 10 = .ok (.goto 4, 3) := by decide +kernel
theorem dX5_expression_100 : decode cX5_expression 100 = .ok (.aload_n 0, 1) := by decide +kernel
theorem dX5_expression_101 : decode cX5_expression 101 = .ok (.dup, 1) := by decide +kernel
theorem dX5_expression_102 : decode cX5_expression 102 = .ok (.getfield 19, 3) := by decide +kernel
theorem dX5_expression_105 : decode cX5_expression 105 = .ok (.iload 4, 2) := by decide +kernel
theorem dX5_expression_107 : decode cX5_expression 107 = .ok (.iadd, 1) := by decide +kernel
theorem dX5_expression_108 : decode cX5_expression 108 = .ok (.putfield 19, 3) := by decide +kernel
theorem dX5_expression_111 : decode cX5_expression 111 = .ok (.aload_n 0, 1) := by decide +kernel
theorem dX5_expression_112 : decode cX5_expression 112 = .ok (.invokevirtual 103, 3) := by decide +kernel
theorem dX5_expression_115 : decode cX5_expression 115 = .ok (.istore 6, 2) := by decide +kernel
theorem dX5_expression_117 : decode cX5_expression 117 = .ok (.aload_n 0, 1) := by decide +kernel
theorem dX5_expression_118 : decode cX5_expression 118 = .ok (.getfield 26, 3) := by decide +kernel
theorem dX5_expression_121 : decode cX5_expression 121 = .ok (.ifCond .ne 21, 3) := by decide +kernel
theorem dX5_expression_124 : decode cX5_expression 124 = .ok (.aload_n 0, 1) := by decide +kernel
theorem dX5_expression_125 : decode cX5_expression 125 = .ok (.iload_n 2, 1) := by decide +kernel
theorem dX5_expression_126 : decode cX5_expression 126 = .ok (.invokestatic 109, 3) := by decide +kernel
theorem dX5_expression_129 : decode cX5_expression 129 = .ok (.i2l, 1) := by decide +kernel
theorem dX5_expression_13 : decode cX5_expression 13 = .ok (.iconst 0, 1) := by decide +kernel
theorem dX5_expression_130 : decode cX5_expression 130 = .ok (.iload 5, 2) := by decide +kernel
theorem dX5_expression_132 : decode cX5_expression 132 = .ok (.iload 6, 2) := by decide +kernel
theorem dX5_expression_134 : decode cX5_expression 134 = .ok (.invokestatic 109, 3) := by decide +kernel
theorem dX5_expression_137 : decode cX5_expression 137 = .ok (.i2l, 1) := by decide +kernel
theorem dX5_expression_138 : decode cX5_expression 138 = .ok (.invokevirtual 112, 3) := by decide +kernel
theorem dX5_expression_14 : decode cX5_expression 14 = .ok (.istore_n 1, 1) := by decide +kernel
theorem dX5_expression_141 : decode cX5_expression 141 = .ok (.istore_n 2, 1) := by decide +kernel
theorem dX5_expression_142 : decode cX5_expression 142 = .ok (.iinc 3 1, 3) := by decide +kernel
theorem dX5_expression_145 : decode cX5_expression 145 = .ok (.goto (-89), 3) := by decide +kernel
theorem dX5_expression_148 : decode cX5_expression 148 = .ok (.iload_n 2, 1) := by decide +kernel
theorem dX5_expression_149 : decode cX5_expression 149 = .ok (.ireturn, 1) := by decide +kernel
theorem dX5_expression_15 : decode cX5_expression 15 = .ok (.iload_n 1, 1) := by decide +kernel
theorem dX5_expression_16 : decode cX5_expression 16 = .ok (.ifCond .ne 12, 3) := by decide +kernel
theorem dX5_expression_19 : decode cX5_expression 19 = .ok (.aload_n 0, 1) := by decide +kernel
theorem dX5_expression_20 : decode cX5_expression 20 = .ok (.invokevirtual 70, 3) := by decide +kernel
theorem dX5_expression_23 : decode cX5_expression 23 = .ok (.bipush 43, 2) := by decide +kernel
theorem dX5_expression_25 : decode cX5_expression 25 = .ok (.if_icmp .ne 13, 3) := by decide +kernel
theorem dX5_expression_28 : decode cX5_expression 28 = .ok (.aload_n 0, 1) := by decide +kernel
theorem dX5_expression_29 : decode cX5_expression 29 = .ok (.dup, 1) := by decide +kernel
theorem dX5_expression_30 : decode cX5_expression 30 = .ok (.getfield 19, 3) := by decide +kernel
theorem dX5_expression_33 : decode cX5_expression 33 = .ok (.iconst 1, 1) := by decide +kernel
theorem dX5_expression_34 : decode cX5_expression 34 = .ok (.iadd, 1) := by decide +kernel
theorem dX5_expression_35 : decode cX5_expression 35 = .ok (.putfield 19, 3) := by decide +kernel
theorem dX5_expression_38 : decode cX5_expression 38 = .ok (.aload_n 0, 1) := by decide +kernel
theorem dX5_expression_39 : decode cX5_expression 39 = .ok (.invokevirtual 103, 3) := by decide +kernel
theorem dX5_expression_4 : decode cX5_expression 4 = .ok (.bipush 45, 2) := by decide +kernel
theorem dX5_expression_42 : decode cX5_expression 42 = .ok (.iload_n 1, 1) := by decide +kernel
theorem dX5_expression_43 : decode cX5_expression 43 = .ok (.ifCond .eq 8, 3) := by decide +kernel
theorem dX5_expression_46 : decode cX5_expression 46 = .ok (.ldc 106, 2) := by decide +kernel
theorem dX5_expression_48 : decode cX5_expression 48 = .ok (.goto 4, 3) := by decide +kernel
theorem dX5_expression_51 : decode cX5_expression 51 = .ok (.iconst 0, 1) := by decide +kernel
theorem dX5_expression_52 : decode cX5_expression 52 = .ok (.ixor, 1) := by decide +kernel
theorem dX5_expression_53 : decode cX5_expression 53 = .ok (.istore_n 2, 1) := by decide +kernel
theorem dX5_expression_54 : decode cX5_expression 54 = .ok (.iconst 0, 1) := by decide +kernel
theorem dX5_expression_55 : decode cX5_expression 55 = .ok (.istore_n 3, 1) := by decide +kernel
theorem dX5_expression_56 : decode cX5_expression 56 = .ok (.iload_n 3, 1) := by decide +kernel
theorem dX5_expression_57 : decode cX5_expression 57 = .ok (.bipush 80, 2) := by decide +kernel
theorem dX5_expression_59 : decode cX5_expression 59 = .ok (.if_icmp .ge 89, 3) := by decide +kernel
theorem dX5_expression_6 : decode cX5_expression 6 = .ok (.if_icmp .ne 7, 3) := by decide +kernel
theorem dX5_expression_62 : decode cX5_expression 62 = .ok (.aload_n 0, 1) := by decide +kernel
theorem dX5_expression_63 : decode cX5_expression 63 = .ok (.getfield 26, 3) := by decide +kernel
theorem dX5_expression_66 : decode cX5_expression 66 = .ok (.ifCond .ne 82, 3) := by decide +kernel
theorem dX5_expression_69 : decode cX5_expression 69 = .ok (.aload_n 0, 1) := by decide +kernel
theorem dX5_expression_70 : decode cX5_expression 70 = .ok (.invokevirtual 57, 3) := by decide +kernel
theorem dX5_expression_73 : decode cX5_expression 73 = .ok (.istore 4, 2) := by decide +kernel
theorem dX5_expression_75 : decode cX5_expression 75 = .ok (.iload 4, 2) := by decide +kernel
theorem dX5_expression_77 : decode cX5_expression 77 = .ok (.ifCond .ne 6, 3) := by decide +kernel
theorem dX5_expression_80 : decode cX5_expression 80 = .ok (.goto 68, 3) := by decide +kernel
theorem dX5_expression_83 : decode cX5_expression 83 = .ok (.iload 4, 2) := by decide +kernel
theorem dX5_expression_85 : decode cX5_expression 85 = .ok (.iconst 2, 1) := by decide +kernel
theorem dX5_expression_86 : decode cX5_expression 86 = .ok (.if_icmp .ne 8, 3) := by decide +kernel
theorem dX5_expression_89 : decode cX5_expression 89 = .ok (.bipush 50, 2) := by decide +kernel
theorem dX5_expression_9 : decode cX5_expression 9 = .ok (.iconst 1, 1) := by decide +kernel
theorem dX5_expression_91 : decode cX5_expression 91 = .ok (.goto 7, 3) := by decide +kernel
theorem dX5_expression_94 : decode cX5_expression 94 = .ok (.aload_n 0, 1) := by decide +kernel
theorem dX5_expression_95 : decode cX5_expression 95 = .ok (.invokevirtual 70, 3) := by decide +kernel
theorem dX5_expression_98 : decode cX5_expression 98 = .ok (.istore 5, 2) := by decide +kernel
set_option maxHeartbeats 4000000 in
set_option maxRecDepth 100000 in
theorem T_X5_expression (l : Launch) (D : va_G) (K : Nat → ClassId) (Z Y : Nat → Nat) (ad : Nat → Nat) (d : dSt) (t : tSt) (hok : okX t)  : tMet l yX5_expression cX5_expression 7 (some .int) (rmD 3 0 0) D K Z Y [.ref (ad 24)] ((WX d) K ad t) (QI D K (fun (r : Int32) (u : tSt) => okX u ∧ frA [(23, 6), (24, 2), (24, 4), (24, 8)] [(24, 7), (24, 9)] [44, 45] [] t u ∧ (-2147483648 : Int) ≤ r.toInt ∧ r.toInt ≤ 2147483647) (fun (u : tSt) => (WX d) K ad u)) 0 0 := by
  refine t_met RX5 ⟨rfl, by decide +kernel⟩ (Nat.le_of_ble_eq_true rfl) ?_
  intro p e s m below meth c A ls C hE hZ hr hlocks hA hP hD hS hl
  have hl : lv_has ls 7 [(0, .ref (ad 24))] := hl
  have hokt := hok
  have hfr : frA [(23, 6), (24, 2), (24, 4), (24, 8)] [(24, 7), (24, 9)] [44, 45] [] t t := frA_rf
  have h_1 : (0 : Int) ≤ (t.1 24 2).toInt ∧ (t.1 24 2).toInt ≤ 81 := hok.1 24 2
  have h_2 : (-1 : Int) ≤ (t.1 24 3).toInt ∧ (t.1 24 3).toInt ≤ 80 := hok.1 24 3
  have L_56 : ∀ (fuel_56 : Nat) (t1 : tSt) (w56_1 : Int32) (w56_2 : Int32) (w56_3 : Int32) (H : Heap) (locs : List Loc) (ls : Array Slot), okX t1 → frA [(23, 6), (24, 2), (24, 4), (24, 8)] [(24, 7), (24, 9)] [44, 45] [] t t1 → (0 : Int) ≤ w56_1.toInt ∧ w56_1.toInt ≤ 1 → (0 : Int) ≤ w56_3.toInt ∧ w56_3.toInt ≤ 80 → (80 : Int) - w56_3.toInt < (fuel_56 : Int) → va_P D vwCl ((WX d) K ad t1) H → va_D A ((WX d) K ad t1) → va_S A s.heap H locs → lv_has ls 7 [(0, .ref (ad 24)), (1, .int w56_1), (2, .int w56_2), (3, .int w56_3)] → W p l e (rmD 3 0 0) s m [.ref (ad 24)].toArray below meth c H locs 0 0 (MQ below (QI D K (fun (r : Int32) (u : tSt) => okX u ∧ frA [(23, 6), (24, 2), (24, 4), (24, 8)] [(24, 7), (24, 9)] [44, 45] [] t u ∧ (-2147483648 : Int) ≤ r.toInt ∧ r.toInt ≤ 2147483647) (fun (u : tSt) => (WX d) K ad u) A) [.ref (ad 24)].toArray s 0 0 A) (F0 m 56 ls []) := by
    intro fuel_56
    induction fuel_56 with
    | zero =>
      intro t1 w56_1 w56_2 w56_3 H locs ls hok hfr hw56_1 hw56_3 hm56_56 hP hD hS hl
      have h_3 : (t1.1 24 3).toInt = (t.1 24 3).toInt := ti_eq (hfr.1 24 3 rfl)
      have h_4 : (0 : Int) ≤ (t1.1 24 2).toInt ∧ (t1.1 24 2).toInt ≤ 81 := hok.1 24 2
      have h_5 : (-1 : Int) ≤ (t1.1 24 3).toInt ∧ (t1.1 24 3).toInt ≤ 80 := hok.1 24 3
      exact absurd hm56_56 (by omega)
    | succ fuel_56 ih_56 =>
      intro t1 w56_1 w56_2 w56_3 H locs ls hok hfr hw56_1 hw56_3 hm56_56 hP hD hS hl
      have hm56_56 : (80 : Int) - w56_3.toInt < (fuel_56 : Int) + 1 := by omega
      have h_6 : (t1.1 24 3).toInt = (t.1 24 3).toInt := ti_eq (hfr.1 24 3 rfl)
      have h_7 : (0 : Int) ≤ (t1.1 24 2).toInt ∧ (t1.1 24 2).toInt ≤ 81 := hok.1 24 2
      have h_8 : (-1 : Int) ≤ (t1.1 24 3).toInt ∧ (t1.1 24 3).toInt ≤ 80 := hok.1 24 3
      have L_142 : ∀ (t1 : tSt) (w142_1 : Int32) (w142_2 : Int32) (w142_3 : Int32) (w142_4 : Int32) (w142_5 : Int32) (w142_6 : Int32) (H : Heap) (locs : List Loc) (ls : Array Slot), okX t1 → frA [(23, 6), (24, 2), (24, 4), (24, 8)] [(24, 7), (24, 9)] [44, 45] [] t t1 → (0 : Int) ≤ w142_1.toInt ∧ w142_1.toInt ≤ 1 → (0 : Int) ≤ w142_3.toInt ∧ w142_3.toInt ≤ 79 → (1 : Int) ≤ w142_4.toInt ∧ w142_4.toInt ≤ 2 → (-128 : Int) ≤ w142_5.toInt ∧ w142_5.toInt ≤ 127 → (80 : Int) - w142_3.toInt < (fuel_56 : Int) + 1 → va_P D vwCl ((WX d) K ad t1) H → va_D A ((WX d) K ad t1) → va_S A s.heap H locs → lv_has ls 7 [(0, .ref (ad 24)), (1, .int w142_1), (2, .int w142_2), (3, .int w142_3), (4, .int w142_4), (5, .int w142_5), (6, .int w142_6)] → W p l e (rmD 3 0 0) s m [.ref (ad 24)].toArray below meth c H locs 0 0 (MQ below (QI D K (fun (r : Int32) (u : tSt) => okX u ∧ frA [(23, 6), (24, 2), (24, 4), (24, 8)] [(24, 7), (24, 9)] [44, 45] [] t u ∧ (-2147483648 : Int) ≤ r.toInt ∧ r.toInt ≤ 2147483647) (fun (u : tSt) => (WX d) K ad u) A) [.ref (ad 24)].toArray s 0 0 A) (F0 m 142 ls []) := by
        intro t1 w142_1 w142_2 w142_3 w142_4 w142_5 w142_6 H locs ls hok hfr hw142_1 hw142_3 hw142_4 hw142_5 hm142_56 hP hD hS hl
        have h_9 : (t1.1 24 3).toInt = (t.1 24 3).toInt := ti_eq (hfr.1 24 3 rfl)
        have h_10 : (0 : Int) ≤ (t1.1 24 2).toInt ∧ (t1.1 24 2).toInt ≤ 81 := hok.1 24 2
        have h_11 : (-1 : Int) ≤ (t1.1 24 3).toInt ∧ (t1.1 24 3).toInt ≤ 80 := hok.1 24 3
        obtain ⟨v_12, e_13⟩ : ∃ z, z = w142_3 + 1 := ⟨_, rfl⟩
        have h_14 : v_12.toInt = w142_3.toInt + 1 := by rw [e_13]; exact ti_iadd (by show (_ : Int) ≤ w142_3.toInt + 1; omega) (by show w142_3.toInt + 1 < (_ : Int); omega)
        refine lv_iinc (v := v_12) (lv' := [(3, .int v_12), (0, .ref (ad 24)), (1, .int w142_1), (2, .int w142_2), (4, .int w142_4), (5, .int w142_5), (6, .int w142_6)]) C.1 C.2.1 dX5_expression_142 hl (k := 3) rfl e_13.symm (by decide) rfl (fun ls hl => ?_)
        have hl : lv_has ls 7 [(0, .ref (ad 24)), (1, .int w142_1), (2, .int w142_2), (3, .int v_12), (4, .int w142_4), (5, .int w142_5), (6, .int w142_6)] := lv_sub hl [1, 2, 3, 0, 4, 5, 6] rfl
        refine lv_goto (tgt := 56) C.1 C.2.1 dX5_expression_145 (by decide) ?_
        exact ih_56 t1 w142_1 w142_2 v_12 _ _ _ hok hfr ⟨by omega, by omega⟩ ⟨by omega, by omega⟩ (show (80 : Int) - v_12.toInt < (fuel_56 : Int) from by omega) hP hD hS (lv_sub hl [0, 1, 2, 3] rfl)
      refine lv_iload_n C.1 C.2.1 dX5_expression_56 rfl (lv_at hl 3 rfl) ?_
      refine lv_bipush (v := 80) C.1 C.2.1 dX5_expression_57 (by decide) ?_
      refine lv_icmp_ge (tgt := 148) C.1 C.2.1 dX5_expression_59 (by decide) (fun c_15 => ?_) (fun c_15 => ?_)
      · replace c_15 : 80 ≤ w56_3.toInt := i_le c_15
        refine lv_iload_n C.1 C.2.1 dX5_expression_148 rfl (lv_at hl 2 rfl) ?_
        exact g_iret C hr hlocks hP hD hS rfl t1 rfl ⟨hok, hfr, (i_rng _).1, (i_rng _).2⟩ (Nat.le_of_ble_eq_true rfl) (Nat.le_of_ble_eq_true rfl) dX5_expression_149
      · replace c_15 : w56_3.toInt < 80 := i_nle c_15
        refine lv_aload_n C.1 C.2.1 dX5_expression_62 rfl (lv_at hl 0 rfl) ?_
        have h_16 : (0 : Int) ≤ (t1.1 24 4).toInt ∧ (t1.1 24 4).toInt ≤ 6 := hok.1 24 4
        refine k_get (v := .int (t1.1 24 4)) C hP 24 rfl rfl inlX5 4 (by decide) m_20_23 rfl dX5_expression_63 ?_
        refine lv_if_ne (tgt := 148) C.1 C.2.1 dX5_expression_66 (by decide) (fun c_17 => ?_) (fun c_17 => ?_)
        · replace c_17 : ¬ (t1.1 24 4).toInt = 0 := i_ne c_17
          refine lv_iload_n C.1 C.2.1 dX5_expression_148 rfl (lv_at hl 2 rfl) ?_
          exact g_iret C hr hlocks hP hD hS rfl t1 rfl ⟨hok, hfr, (i_rng _).1, (i_rng _).2⟩ (Nat.le_of_ble_eq_true rfl) (Nat.le_of_ble_eq_true rfl) dX5_expression_149
        · replace c_17 : (t1.1 24 4).toInt = 0 := i_eq c_17
          refine lv_aload_n C.1 C.2.1 dX5_expression_69 rfl (lv_at hl 0 rfl) ?_
          refine g_Vi (As := []) (rest := []) C hP hD hS hA (T_X5_operatorSize l D K Z Y ad d t1 hok ) hE hZ (uwV m_23_4 m_23_5 m_23_6 m_5_22 m_23_7) (hdV 0 (by decide +kernel) rfl) ⟨Nat.le_of_ble_eq_true rfl, Nat.le_of_ble_eq_true rfl⟩ rfl rfl (ci := 4) (q0 := 24) rfl rfl rfl hl.1 (Nat.le_of_ble_eq_true rfl) dX5_expression_70 ⟨Nat.le_of_ble_eq_true rfl, Nat.le_of_ble_eq_true rfl⟩ (fun r_19 t_18 H locs hw hP hD hS => ?_)
          obtain ⟨h_21, h_22, p_23⟩ := hw
          replace p_23 : ¬ r_19.toInt = 0 → (t1.1 24 2).toInt + r_19.toInt ≤ (t1.1 24 3).toInt := p_23
          refine lv_istore (lv' := [(4, .int r_19), (0, .ref (ad 24)), (1, .int w56_1), (2, .int w56_2), (3, .int w56_3)]) C.1 C.2.1 dX5_expression_73 hl (by decide) rfl (fun ls hl => ?_)
          have hl : lv_has ls 7 [(0, .ref (ad 24)), (1, .int w56_1), (2, .int w56_2), (3, .int w56_3), (4, .int r_19)] := lv_sub hl [1, 2, 3, 4, 0] rfl
          refine lv_iload C.1 C.2.1 dX5_expression_75 (lv_at hl 4 rfl) ?_
          refine lv_if_ne (tgt := 83) C.1 C.2.1 dX5_expression_77 (by decide) (fun c_24 => ?_) (fun c_24 => ?_)
          · replace c_24 : ¬ r_19.toInt = 0 := i_ne c_24
            refine lv_iload C.1 C.2.1 dX5_expression_83 (lv_at hl 4 rfl) ?_
            refine lv_iconst (v := 2) C.1 C.2.1 dX5_expression_85 (by decide) ?_
            refine lv_icmp_ne (tgt := 94) C.1 C.2.1 dX5_expression_86 (by decide) (fun c_25 => ?_) (fun c_25 => ?_)
            · replace c_25 : ¬ r_19.toInt = 2 := i_ne c_25
              refine lv_aload_n C.1 C.2.1 dX5_expression_94 rfl (lv_at hl 0 rfl) ?_
              refine g_Vi (As := []) (rest := []) C hP hD hS hA (T_X5_letterHere l D K Z Y ad d t1 hok ) hE hZ (uwV m_21_21 m_21_22 m_21_23 m_5_22 m_22_0) (hdV 0 (by decide +kernel) rfl) ⟨Nat.le_of_ble_eq_true rfl, Nat.le_of_ble_eq_true rfl⟩ rfl rfl (ci := 4) (q0 := 24) rfl rfl rfl hl.1 (Nat.le_of_ble_eq_true rfl) dX5_expression_95 ⟨Nat.le_of_ble_eq_true rfl, Nat.le_of_ble_eq_true rfl⟩ (fun r_27 t_26 H locs hw hP hD hS => ?_)
              obtain ⟨h_29, h_30, p_31⟩ := hw
              replace p_31 : ¬ r_27.toInt = 32 → (t1.1 24 2).toInt < (t1.1 24 3).toInt := p_31
              refine lv_istore (lv' := [(5, .int r_27), (0, .ref (ad 24)), (1, .int w56_1), (2, .int w56_2), (3, .int w56_3), (4, .int r_19)]) C.1 C.2.1 dX5_expression_98 hl (by decide) rfl (fun ls hl => ?_)
              have hl : lv_has ls 7 [(0, .ref (ad 24)), (1, .int w56_1), (2, .int w56_2), (3, .int w56_3), (4, .int r_19), (5, .int r_27)] := lv_sub hl [1, 2, 3, 4, 5, 0] rfl
              refine lv_aload_n C.1 C.2.1 dX5_expression_100 rfl (lv_at hl 0 rfl) ?_
              refine lv_dup C.1 C.2.1 dX5_expression_101 rfl ?_
              refine k_get (v := .int (t1.1 24 2)) C hP 24 rfl rfl inlX5 2 (by decide) m_19_9 rfl dX5_expression_102 ?_
              refine lv_iload C.1 C.2.1 dX5_expression_105 (lv_at hl 4 rfl) ?_
              obtain ⟨v_32, e_33⟩ : ∃ z, z = ((t1.1 24 2) : Int32) + (r_19 : Int32) := ⟨_, rfl⟩
              have h_34 : v_32.toInt = (t1.1 24 2).toInt + r_19.toInt := by rw [e_33]; exact ti_iadd (by show (_ : Int) ≤ (t1.1 24 2).toInt + r_19.toInt; omega) (by show (t1.1 24 2).toInt + r_19.toInt < (_ : Int); omega)
              refine k_iadd (v := v_32) C e_33.symm dX5_expression_107 ?_
              refine k_put (ws' := (WX d) K ad (uI t1 24 2 v_32)) (v := .int v_32) C hP hD hS 24 rfl rfl inlX5 tyX5_ok nmX5 2 (by decide) m_19_9 rfl rfl rfl rfl rfl dX5_expression_108 (fun H locs hP hD hS => ?_)
              have hok : okX (uI t1 24 2 v_32) := ⟨okI_I hok.1 24 2 v_32 (show (0 : Int) ≤ (v_32 : Int32).toInt ∧ (v_32 : Int32).toInt ≤ 81 from ⟨by omega, by omega⟩), hok.2.1, trivial⟩
              have hfr : frA [(23, 6), (24, 2), (24, 4), (24, 8)] [(24, 7), (24, 9)] [44, 45] [] t (uI t1 24 2 v_32) := frA_I hfr 24 2 _ rfl
              refine lv_aload_n C.1 C.2.1 dX5_expression_111 rfl (lv_at hl 0 rfl) ?_
              refine g_Vi (As := []) (rest := []) C hP hD hS hA (T_X5_atom l D K Z Y ad d (uI t1 24 2 v_32) hok ) hE hZ (uwV m_22_1 m_22_2 m_22_3 m_5_22 m_22_4) (hdV 0 (by decide +kernel) rfl) ⟨Nat.le_of_ble_eq_true rfl, Nat.le_of_ble_eq_true rfl⟩ rfl rfl (ci := 4) (q0 := 24) rfl rfl rfl hl.1 (Nat.le_of_ble_eq_true rfl) dX5_expression_112 ⟨Nat.le_of_ble_eq_true rfl, Nat.le_of_ble_eq_true rfl⟩ (fun r_36 t_35 H locs hw hP hD hS => ?_)
              obtain ⟨hok, f_37, h_38, h_39⟩ := hw
              have hfr : frA [(23, 6), (24, 2), (24, 4), (24, 8)] [(24, 7), (24, 9)] [44, 45] [] t t_35 := frA_tr hfr f_37 rfl
              have h_40 : (t_35.1 24 3).toInt = (t1.1 24 3).toInt := ti_eq (f_37.1 24 3 rfl)
              have h_41 : (0 : Int) ≤ (t_35.1 24 2).toInt ∧ (t_35.1 24 2).toInt ≤ 81 := hok.1 24 2
              have h_42 : (-1 : Int) ≤ (t_35.1 24 3).toInt ∧ (t_35.1 24 3).toInt ≤ 80 := hok.1 24 3
              refine lv_istore (lv' := [(6, .int r_36), (0, .ref (ad 24)), (1, .int w56_1), (2, .int w56_2), (3, .int w56_3), (4, .int r_19), (5, .int r_27)]) C.1 C.2.1 dX5_expression_115 hl (by decide) rfl (fun ls hl => ?_)
              have hl : lv_has ls 7 [(0, .ref (ad 24)), (1, .int w56_1), (2, .int w56_2), (3, .int w56_3), (4, .int r_19), (5, .int r_27), (6, .int r_36)] := lv_sub hl [1, 2, 3, 4, 5, 6, 0] rfl
              refine lv_aload_n C.1 C.2.1 dX5_expression_117 rfl (lv_at hl 0 rfl) ?_
              have h_43 : (0 : Int) ≤ (t_35.1 24 4).toInt ∧ (t_35.1 24 4).toInt ≤ 6 := hok.1 24 4
              refine k_get (v := .int (t_35.1 24 4)) C hP 24 rfl rfl inlX5 4 (by decide) m_20_23 rfl dX5_expression_118 ?_
              refine lv_if_ne (tgt := 142) C.1 C.2.1 dX5_expression_121 (by decide) (fun c_44 => ?_) (fun c_44 => ?_)
              · replace c_44 : ¬ (t_35.1 24 4).toInt = 0 := i_ne c_44
                exact L_142 t_35 w56_1 w56_2 w56_3 r_19 r_27 r_36 _ _ _ hok hfr ⟨by omega, by omega⟩ ⟨by omega, by omega⟩ ⟨by omega, by omega⟩ ⟨by omega, by omega⟩ (show (80 : Int) - w56_3.toInt < (fuel_56 : Int) + 1 from by omega) hP hD hS (lv_sub hl [0, 1, 2, 3, 4, 5, 6] rfl)
              · replace c_44 : (t_35.1 24 4).toInt = 0 := i_eq c_44
                refine lv_aload_n C.1 C.2.1 dX5_expression_124 rfl (lv_at hl 0 rfl) ?_
                refine lv_iload_n C.1 C.2.1 dX5_expression_125 rfl (lv_at hl 2 rfl) ?_
                refine g_Si (As := [.int w56_2]) (rest := [.ref (ad 24)]) C hP hD hS hA (T_X1_value l D K Z Y ad d t_35 hok (w56_2)) hE hZ (uwS m_23_8 m_23_9 m_14_2 m_23_10) (hdS 1 (by decide +kernel) rfl) ⟨Nat.le_of_ble_eq_true rfl, Nat.le_of_ble_eq_true rfl⟩ rfl rfl rfl hl.1 (Nat.le_of_ble_eq_true rfl) dX5_expression_126 ⟨Nat.le_of_ble_eq_true rfl, Nat.le_of_ble_eq_true rfl⟩ (fun r_46 t_45 H locs hw hP hD hS => ?_)
                obtain ⟨h_48, h_49⟩ := hw
                obtain ⟨v_50, e_51⟩ : ∃ z, z = (r_46 : Int32).toInt64 := ⟨_, rfl⟩
                have h_52 : v_50.toInt = r_46.toInt := by rw [e_51]; exact Jvm.Kit.i64_of_i32 _
                refine lv_i2l (v := v_50) C.1 C.2.1 dX5_expression_129 e_51.symm ?_
                refine lv_iload C.1 C.2.1 dX5_expression_130 (lv_at hl 5 rfl) ?_
                refine lv_iload C.1 C.2.1 dX5_expression_132 (lv_at hl 6 rfl) ?_
                refine g_Si (As := [.int r_36]) (rest := [.int r_27, .long v_50, .ref (ad 24)]) C hP hD hS hA (T_X1_value l D K Z Y ad d t_35 hok (r_36)) hE hZ (uwS m_23_8 m_23_9 m_14_2 m_23_10) (hdS 1 (by decide +kernel) rfl) ⟨Nat.le_of_ble_eq_true rfl, Nat.le_of_ble_eq_true rfl⟩ rfl rfl rfl hl.1 (Nat.le_of_ble_eq_true rfl) dX5_expression_134 ⟨Nat.le_of_ble_eq_true rfl, Nat.le_of_ble_eq_true rfl⟩ (fun r_54 t_53 H locs hw hP hD hS => ?_)
                obtain ⟨h_56, h_57⟩ := hw
                obtain ⟨v_58, e_59⟩ : ∃ z, z = (r_54 : Int32).toInt64 := ⟨_, rfl⟩
                have h_60 : v_58.toInt = r_54.toInt := by rw [e_59]; exact Jvm.Kit.i64_of_i32 _
                refine lv_i2l (v := v_58) C.1 C.2.1 dX5_expression_137 e_59.symm ?_
                refine g_Vi (As := [.long v_50, .int r_27, .long v_58]) (rest := []) C hP hD hS hA (T_X5_combine l D K Z Y ad d t_35 hok (v_50) (show (-1073741824 : Int) ≤ (v_50 : Int64).toInt ∧ (v_50 : Int64).toInt ≤ 1073741823 from ⟨by omega, by omega⟩) (r_27) (show (-128 : Int) ≤ (r_27 : Int32).toInt ∧ (r_27 : Int32).toInt ≤ 127 from ⟨by omega, by omega⟩) (v_58) (show (-1073741824 : Int) ≤ (v_58 : Int64).toInt ∧ (v_58 : Int64).toInt ≤ 1073741823 from ⟨by omega, by omega⟩)) hE hZ (uwV m_23_12 m_23_13 m_23_14 m_5_22 m_23_15) (hdV 3 (by decide +kernel) rfl) ⟨Nat.le_of_ble_eq_true rfl, Nat.le_of_ble_eq_true rfl⟩ rfl rfl (ci := 4) (q0 := 24) rfl rfl rfl hl.1 (Nat.le_of_ble_eq_true rfl) dX5_expression_138 ⟨Nat.le_of_ble_eq_true rfl, Nat.le_of_ble_eq_true rfl⟩ (fun r_62 t_61 H locs hw hP hD hS => ?_)
                obtain ⟨hok, f_63, h_64, h_65⟩ := hw
                have hfr : frA [(23, 6), (24, 2), (24, 4), (24, 8)] [(24, 7), (24, 9)] [44, 45] [] t t_61 := frA_tr hfr f_63 rfl
                have h_66 : (t_61.1 24 2).toInt = (t_35.1 24 2).toInt := ti_eq (f_63.1 24 2 rfl)
                have h_67 : (t_61.1 24 3).toInt = (t_35.1 24 3).toInt := ti_eq (f_63.1 24 3 rfl)
                have h_68 : (0 : Int) ≤ (t_61.1 24 2).toInt ∧ (t_61.1 24 2).toInt ≤ 81 := hok.1 24 2
                have h_69 : (-1 : Int) ≤ (t_61.1 24 3).toInt ∧ (t_61.1 24 3).toInt ≤ 80 := hok.1 24 3
                refine lv_istore_n (lv' := [(2, .int r_62), (0, .ref (ad 24)), (1, .int w56_1), (3, .int w56_3), (4, .int r_19), (5, .int r_27), (6, .int r_36)]) C.1 C.2.1 dX5_expression_141 rfl hl (by decide) rfl (fun ls hl => ?_)
                have hl : lv_has ls 7 [(0, .ref (ad 24)), (1, .int w56_1), (2, .int r_62), (3, .int w56_3), (4, .int r_19), (5, .int r_27), (6, .int r_36)] := lv_sub hl [1, 2, 0, 3, 4, 5, 6] rfl
                exact L_142 t_61 w56_1 r_62 w56_3 r_19 r_27 r_36 _ _ _ hok hfr ⟨by omega, by omega⟩ ⟨by omega, by omega⟩ ⟨by omega, by omega⟩ ⟨by omega, by omega⟩ (show (80 : Int) - w56_3.toInt < (fuel_56 : Int) + 1 from by omega) hP hD hS (lv_sub hl [0, 1, 2, 3, 4, 5, 6] rfl)
            · replace c_25 : r_19.toInt = 2 := i_eq c_25
              refine lv_bipush (v := 50) C.1 C.2.1 dX5_expression_89 (by decide) ?_
              refine lv_goto (tgt := 98) C.1 C.2.1 dX5_expression_91 (by decide) ?_
              refine lv_istore (lv' := [(5, .int 50), (0, .ref (ad 24)), (1, .int w56_1), (2, .int w56_2), (3, .int w56_3), (4, .int r_19)]) C.1 C.2.1 dX5_expression_98 hl (by decide) rfl (fun ls hl => ?_)
              have hl : lv_has ls 7 [(0, .ref (ad 24)), (1, .int w56_1), (2, .int w56_2), (3, .int w56_3), (4, .int r_19), (5, .int 50)] := lv_sub hl [1, 2, 3, 4, 5, 0] rfl
              refine lv_aload_n C.1 C.2.1 dX5_expression_100 rfl (lv_at hl 0 rfl) ?_
              refine lv_dup C.1 C.2.1 dX5_expression_101 rfl ?_
              refine k_get (v := .int (t1.1 24 2)) C hP 24 rfl rfl inlX5 2 (by decide) m_19_9 rfl dX5_expression_102 ?_
              refine lv_iload C.1 C.2.1 dX5_expression_105 (lv_at hl 4 rfl) ?_
              obtain ⟨v_70, e_71⟩ : ∃ z, z = ((t1.1 24 2) : Int32) + (r_19 : Int32) := ⟨_, rfl⟩
              have h_72 : v_70.toInt = (t1.1 24 2).toInt + r_19.toInt := by rw [e_71]; exact ti_iadd (by show (_ : Int) ≤ (t1.1 24 2).toInt + r_19.toInt; omega) (by show (t1.1 24 2).toInt + r_19.toInt < (_ : Int); omega)
              refine k_iadd (v := v_70) C e_71.symm dX5_expression_107 ?_
              refine k_put (ws' := (WX d) K ad (uI t1 24 2 v_70)) (v := .int v_70) C hP hD hS 24 rfl rfl inlX5 tyX5_ok nmX5 2 (by decide) m_19_9 rfl rfl rfl rfl rfl dX5_expression_108 (fun H locs hP hD hS => ?_)
              have hok : okX (uI t1 24 2 v_70) := ⟨okI_I hok.1 24 2 v_70 (show (0 : Int) ≤ (v_70 : Int32).toInt ∧ (v_70 : Int32).toInt ≤ 81 from ⟨by omega, by omega⟩), hok.2.1, trivial⟩
              have hfr : frA [(23, 6), (24, 2), (24, 4), (24, 8)] [(24, 7), (24, 9)] [44, 45] [] t (uI t1 24 2 v_70) := frA_I hfr 24 2 _ rfl
              refine lv_aload_n C.1 C.2.1 dX5_expression_111 rfl (lv_at hl 0 rfl) ?_
              refine g_Vi (As := []) (rest := []) C hP hD hS hA (T_X5_atom l D K Z Y ad d (uI t1 24 2 v_70) hok ) hE hZ (uwV m_22_1 m_22_2 m_22_3 m_5_22 m_22_4) (hdV 0 (by decide +kernel) rfl) ⟨Nat.le_of_ble_eq_true rfl, Nat.le_of_ble_eq_true rfl⟩ rfl rfl (ci := 4) (q0 := 24) rfl rfl rfl hl.1 (Nat.le_of_ble_eq_true rfl) dX5_expression_112 ⟨Nat.le_of_ble_eq_true rfl, Nat.le_of_ble_eq_true rfl⟩ (fun r_74 t_73 H locs hw hP hD hS => ?_)
              obtain ⟨hok, f_75, h_76, h_77⟩ := hw
              have hfr : frA [(23, 6), (24, 2), (24, 4), (24, 8)] [(24, 7), (24, 9)] [44, 45] [] t t_73 := frA_tr hfr f_75 rfl
              have h_78 : (t_73.1 24 3).toInt = (t1.1 24 3).toInt := ti_eq (f_75.1 24 3 rfl)
              have h_79 : (0 : Int) ≤ (t_73.1 24 2).toInt ∧ (t_73.1 24 2).toInt ≤ 81 := hok.1 24 2
              have h_80 : (-1 : Int) ≤ (t_73.1 24 3).toInt ∧ (t_73.1 24 3).toInt ≤ 80 := hok.1 24 3
              refine lv_istore (lv' := [(6, .int r_74), (0, .ref (ad 24)), (1, .int w56_1), (2, .int w56_2), (3, .int w56_3), (4, .int r_19), (5, .int 50)]) C.1 C.2.1 dX5_expression_115 hl (by decide) rfl (fun ls hl => ?_)
              have hl : lv_has ls 7 [(0, .ref (ad 24)), (1, .int w56_1), (2, .int w56_2), (3, .int w56_3), (4, .int r_19), (5, .int 50), (6, .int r_74)] := lv_sub hl [1, 2, 3, 4, 5, 6, 0] rfl
              refine lv_aload_n C.1 C.2.1 dX5_expression_117 rfl (lv_at hl 0 rfl) ?_
              have h_81 : (0 : Int) ≤ (t_73.1 24 4).toInt ∧ (t_73.1 24 4).toInt ≤ 6 := hok.1 24 4
              refine k_get (v := .int (t_73.1 24 4)) C hP 24 rfl rfl inlX5 4 (by decide) m_20_23 rfl dX5_expression_118 ?_
              refine lv_if_ne (tgt := 142) C.1 C.2.1 dX5_expression_121 (by decide) (fun c_82 => ?_) (fun c_82 => ?_)
              · replace c_82 : ¬ (t_73.1 24 4).toInt = 0 := i_ne c_82
                exact L_142 t_73 w56_1 w56_2 w56_3 r_19 50 r_74 _ _ _ hok hfr ⟨by omega, by omega⟩ ⟨by omega, by omega⟩ ⟨by omega, by omega⟩ ⟨by decide, by decide⟩ (show (80 : Int) - w56_3.toInt < (fuel_56 : Int) + 1 from by omega) hP hD hS (lv_sub hl [0, 1, 2, 3, 4, 5, 6] rfl)
              · replace c_82 : (t_73.1 24 4).toInt = 0 := i_eq c_82
                refine lv_aload_n C.1 C.2.1 dX5_expression_124 rfl (lv_at hl 0 rfl) ?_
                refine lv_iload_n C.1 C.2.1 dX5_expression_125 rfl (lv_at hl 2 rfl) ?_
                refine g_Si (As := [.int w56_2]) (rest := [.ref (ad 24)]) C hP hD hS hA (T_X1_value l D K Z Y ad d t_73 hok (w56_2)) hE hZ (uwS m_23_8 m_23_9 m_14_2 m_23_10) (hdS 1 (by decide +kernel) rfl) ⟨Nat.le_of_ble_eq_true rfl, Nat.le_of_ble_eq_true rfl⟩ rfl rfl rfl hl.1 (Nat.le_of_ble_eq_true rfl) dX5_expression_126 ⟨Nat.le_of_ble_eq_true rfl, Nat.le_of_ble_eq_true rfl⟩ (fun r_84 t_83 H locs hw hP hD hS => ?_)
                obtain ⟨h_86, h_87⟩ := hw
                obtain ⟨v_88, e_89⟩ : ∃ z, z = (r_84 : Int32).toInt64 := ⟨_, rfl⟩
                have h_90 : v_88.toInt = r_84.toInt := by rw [e_89]; exact Jvm.Kit.i64_of_i32 _
                refine lv_i2l (v := v_88) C.1 C.2.1 dX5_expression_129 e_89.symm ?_
                refine lv_iload C.1 C.2.1 dX5_expression_130 (lv_at hl 5 rfl) ?_
                refine lv_iload C.1 C.2.1 dX5_expression_132 (lv_at hl 6 rfl) ?_
                refine g_Si (As := [.int r_74]) (rest := [.int 50, .long v_88, .ref (ad 24)]) C hP hD hS hA (T_X1_value l D K Z Y ad d t_73 hok (r_74)) hE hZ (uwS m_23_8 m_23_9 m_14_2 m_23_10) (hdS 1 (by decide +kernel) rfl) ⟨Nat.le_of_ble_eq_true rfl, Nat.le_of_ble_eq_true rfl⟩ rfl rfl rfl hl.1 (Nat.le_of_ble_eq_true rfl) dX5_expression_134 ⟨Nat.le_of_ble_eq_true rfl, Nat.le_of_ble_eq_true rfl⟩ (fun r_92 t_91 H locs hw hP hD hS => ?_)
                obtain ⟨h_94, h_95⟩ := hw
                obtain ⟨v_96, e_97⟩ : ∃ z, z = (r_92 : Int32).toInt64 := ⟨_, rfl⟩
                have h_98 : v_96.toInt = r_92.toInt := by rw [e_97]; exact Jvm.Kit.i64_of_i32 _
                refine lv_i2l (v := v_96) C.1 C.2.1 dX5_expression_137 e_97.symm ?_
                refine g_Vi (As := [.long v_88, .int 50, .long v_96]) (rest := []) C hP hD hS hA (T_X5_combine l D K Z Y ad d t_73 hok (v_88) (show (-1073741824 : Int) ≤ (v_88 : Int64).toInt ∧ (v_88 : Int64).toInt ≤ 1073741823 from ⟨by omega, by omega⟩) 50 (show (-128 : Int) ≤ (50 : Int32).toInt ∧ (50 : Int32).toInt ≤ 127 from ⟨by decide, by decide⟩) (v_96) (show (-1073741824 : Int) ≤ (v_96 : Int64).toInt ∧ (v_96 : Int64).toInt ≤ 1073741823 from ⟨by omega, by omega⟩)) hE hZ (uwV m_23_12 m_23_13 m_23_14 m_5_22 m_23_15) (hdV 3 (by decide +kernel) rfl) ⟨Nat.le_of_ble_eq_true rfl, Nat.le_of_ble_eq_true rfl⟩ rfl rfl (ci := 4) (q0 := 24) rfl rfl rfl hl.1 (Nat.le_of_ble_eq_true rfl) dX5_expression_138 ⟨Nat.le_of_ble_eq_true rfl, Nat.le_of_ble_eq_true rfl⟩ (fun r_100 t_99 H locs hw hP hD hS => ?_)
                obtain ⟨hok, f_101, h_102, h_103⟩ := hw
                have hfr : frA [(23, 6), (24, 2), (24, 4), (24, 8)] [(24, 7), (24, 9)] [44, 45] [] t t_99 := frA_tr hfr f_101 rfl
                have h_104 : (t_99.1 24 2).toInt = (t_73.1 24 2).toInt := ti_eq (f_101.1 24 2 rfl)
                have h_105 : (t_99.1 24 3).toInt = (t_73.1 24 3).toInt := ti_eq (f_101.1 24 3 rfl)
                have h_106 : (0 : Int) ≤ (t_99.1 24 2).toInt ∧ (t_99.1 24 2).toInt ≤ 81 := hok.1 24 2
                have h_107 : (-1 : Int) ≤ (t_99.1 24 3).toInt ∧ (t_99.1 24 3).toInt ≤ 80 := hok.1 24 3
                refine lv_istore_n (lv' := [(2, .int r_100), (0, .ref (ad 24)), (1, .int w56_1), (3, .int w56_3), (4, .int r_19), (5, .int 50), (6, .int r_74)]) C.1 C.2.1 dX5_expression_141 rfl hl (by decide) rfl (fun ls hl => ?_)
                have hl : lv_has ls 7 [(0, .ref (ad 24)), (1, .int w56_1), (2, .int r_100), (3, .int w56_3), (4, .int r_19), (5, .int 50), (6, .int r_74)] := lv_sub hl [1, 2, 0, 3, 4, 5, 6] rfl
                exact L_142 t_99 w56_1 r_100 w56_3 r_19 50 r_74 _ _ _ hok hfr ⟨by omega, by omega⟩ ⟨by omega, by omega⟩ ⟨by omega, by omega⟩ ⟨by decide, by decide⟩ (show (80 : Int) - w56_3.toInt < (fuel_56 : Int) + 1 from by omega) hP hD hS (lv_sub hl [0, 1, 2, 3, 4, 5, 6] rfl)
          · replace c_24 : r_19.toInt = 0 := i_eq c_24
            refine lv_goto (tgt := 148) C.1 C.2.1 dX5_expression_80 (by decide) ?_
            refine lv_iload_n C.1 C.2.1 dX5_expression_148 rfl (lv_at hl 2 rfl) ?_
            exact g_iret C hr hlocks hP hD hS rfl t1 rfl ⟨hok, hfr, (i_rng _).1, (i_rng _).2⟩ (Nat.le_of_ble_eq_true rfl) (Nat.le_of_ble_eq_true rfl) dX5_expression_149
  have L_52 : ∀ (t1 : tSt) (w52_1 : Int32) (k52_0 : Int32) (k52_1 : Int32) (H : Heap) (locs : List Loc) (ls : Array Slot), okX t1 → frA [(23, 6), (24, 2), (24, 4), (24, 8)] [(24, 7), (24, 9)] [44, 45] [] t t1 → (0 : Int) ≤ w52_1.toInt ∧ w52_1.toInt ≤ 1 → (0 : Int) ≤ k52_1.toInt ∧ k52_1.toInt ≤ 1073741824 → va_P D vwCl ((WX d) K ad t1) H → va_D A ((WX d) K ad t1) → va_S A s.heap H locs → lv_has ls 7 [(0, .ref (ad 24)), (1, .int w52_1)] → W p l e (rmD 3 0 0) s m [.ref (ad 24)].toArray below meth c H locs 0 0 (MQ below (QI D K (fun (r : Int32) (u : tSt) => okX u ∧ frA [(23, 6), (24, 2), (24, 4), (24, 8)] [(24, 7), (24, 9)] [44, 45] [] t u ∧ (-2147483648 : Int) ≤ r.toInt ∧ r.toInt ≤ 2147483647) (fun (u : tSt) => (WX d) K ad u) A) [.ref (ad 24)].toArray s 0 0 A) (F0 m 52 ls [.int k52_1, .int k52_0]) := by
    intro t1 w52_1 k52_0 k52_1 H locs ls hok hfr hw52_1 hk52_1 hP hD hS hl
    have h_108 : (t1.1 24 3).toInt = (t.1 24 3).toInt := ti_eq (hfr.1 24 3 rfl)
    have h_109 : (0 : Int) ≤ (t1.1 24 2).toInt ∧ (t1.1 24 2).toInt ≤ 81 := hok.1 24 2
    have h_110 : (-1 : Int) ≤ (t1.1 24 3).toInt ∧ (t1.1 24 3).toInt ≤ 80 := hok.1 24 3
    obtain ⟨v_111, e_112⟩ : ∃ z, z = (k52_0 : Int32) ^^^ (k52_1 : Int32) := ⟨_, rfl⟩
    refine k_ixor (v := v_111) C e_112.symm dX5_expression_52 ?_
    refine lv_istore_n (lv' := [(2, .int v_111), (0, .ref (ad 24)), (1, .int w52_1)]) C.1 C.2.1 dX5_expression_53 rfl hl (by decide) rfl (fun ls hl => ?_)
    have hl : lv_has ls 7 [(0, .ref (ad 24)), (1, .int w52_1), (2, .int v_111)] := lv_sub hl [1, 2, 0] rfl
    refine lv_iconst (v := 0) C.1 C.2.1 dX5_expression_54 (by decide) ?_
    refine lv_istore_n (lv' := [(3, .int 0), (0, .ref (ad 24)), (1, .int w52_1), (2, .int v_111)]) C.1 C.2.1 dX5_expression_55 rfl hl (by decide) rfl (fun ls hl => ?_)
    have hl : lv_has ls 7 [(0, .ref (ad 24)), (1, .int w52_1), (2, .int v_111), (3, .int 0)] := lv_sub hl [1, 2, 3, 0] rfl
    exact L_56 81 t1 w52_1 v_111 0 _ _ _ hok hfr ⟨by omega, by omega⟩ ⟨by decide, by decide⟩ (show (80 : Int) - 0 < ((81 : Nat) : Int) from by omega) hP hD hS (lv_sub hl [0, 1, 2, 3] rfl)
  have L_38 : ∀ (t1 : tSt) (w38_1 : Int32) (H : Heap) (locs : List Loc) (ls : Array Slot), okX t1 → frA [(23, 6), (24, 2), (24, 4), (24, 8)] [(24, 7), (24, 9)] [44, 45] [] t t1 → (0 : Int) ≤ w38_1.toInt ∧ w38_1.toInt ≤ 1 → va_P D vwCl ((WX d) K ad t1) H → va_D A ((WX d) K ad t1) → va_S A s.heap H locs → lv_has ls 7 [(0, .ref (ad 24)), (1, .int w38_1)] → W p l e (rmD 3 0 0) s m [.ref (ad 24)].toArray below meth c H locs 0 0 (MQ below (QI D K (fun (r : Int32) (u : tSt) => okX u ∧ frA [(23, 6), (24, 2), (24, 4), (24, 8)] [(24, 7), (24, 9)] [44, 45] [] t u ∧ (-2147483648 : Int) ≤ r.toInt ∧ r.toInt ≤ 2147483647) (fun (u : tSt) => (WX d) K ad u) A) [.ref (ad 24)].toArray s 0 0 A) (F0 m 38 ls []) := by
    intro t1 w38_1 H locs ls hok hfr hw38_1 hP hD hS hl
    have h_114 : (t1.1 24 3).toInt = (t.1 24 3).toInt := ti_eq (hfr.1 24 3 rfl)
    have h_115 : (0 : Int) ≤ (t1.1 24 2).toInt ∧ (t1.1 24 2).toInt ≤ 81 := hok.1 24 2
    have h_116 : (-1 : Int) ≤ (t1.1 24 3).toInt ∧ (t1.1 24 3).toInt ≤ 80 := hok.1 24 3
    refine lv_aload_n C.1 C.2.1 dX5_expression_38 rfl (lv_at hl 0 rfl) ?_
    refine g_Vi (As := []) (rest := []) C hP hD hS hA (T_X5_atom l D K Z Y ad d t1 hok ) hE hZ (uwV m_22_1 m_22_2 m_22_3 m_5_22 m_22_4) (hdV 0 (by decide +kernel) rfl) ⟨Nat.le_of_ble_eq_true rfl, Nat.le_of_ble_eq_true rfl⟩ rfl rfl (ci := 4) (q0 := 24) rfl rfl rfl hl.1 (Nat.le_of_ble_eq_true rfl) dX5_expression_39 ⟨Nat.le_of_ble_eq_true rfl, Nat.le_of_ble_eq_true rfl⟩ (fun r_118 t_117 H locs hw hP hD hS => ?_)
    obtain ⟨hok, f_119, h_120, h_121⟩ := hw
    have hfr : frA [(23, 6), (24, 2), (24, 4), (24, 8)] [(24, 7), (24, 9)] [44, 45] [] t t_117 := frA_tr hfr f_119 rfl
    have h_122 : (t_117.1 24 3).toInt = (t1.1 24 3).toInt := ti_eq (f_119.1 24 3 rfl)
    have h_123 : (0 : Int) ≤ (t_117.1 24 2).toInt ∧ (t_117.1 24 2).toInt ≤ 81 := hok.1 24 2
    have h_124 : (-1 : Int) ≤ (t_117.1 24 3).toInt ∧ (t_117.1 24 3).toInt ≤ 80 := hok.1 24 3
    refine lv_iload_n C.1 C.2.1 dX5_expression_42 rfl (lv_at hl 1 rfl) ?_
    refine lv_if_eq (tgt := 51) C.1 C.2.1 dX5_expression_43 (by decide) (fun c_125 => ?_) (fun c_125 => ?_)
    · replace c_125 : w38_1.toInt = 0 := i_eq c_125
      refine lv_iconst (v := 0) C.1 C.2.1 dX5_expression_51 (by decide) ?_
      exact L_52 t_117 w38_1 r_118 0 _ _ _ hok hfr ⟨by omega, by omega⟩ ⟨by decide, by decide⟩ hP hD hS (lv_sub hl [0, 1] rfl)
    · replace c_125 : ¬ w38_1.toInt = 0 := i_ne c_125
      refine lv_ldc (v := 1073741824) C.1 C.2.1 C.2.2.2.1 (C.2.2.2.2.1 _ m_21_20) dX5_expression_46 ?_
      refine lv_goto (tgt := 52) C.1 C.2.1 dX5_expression_48 (by decide) ?_
      exact L_52 t_117 w38_1 r_118 1073741824 _ _ _ hok hfr ⟨by omega, by omega⟩ ⟨by decide, by decide⟩ hP hD hS (lv_sub hl [0, 1] rfl)
  refine lv_aload_n C.1 C.2.1 dX5_expression_0 rfl (lv_at hl 0 rfl) ?_
  refine g_Vi (As := []) (rest := []) C hP hD hS hA (T_X5_letterHere l D K Z Y ad d t hok ) hE hZ (uwV m_21_21 m_21_22 m_21_23 m_5_22 m_22_0) (hdV 0 (by decide +kernel) rfl) ⟨Nat.le_of_ble_eq_true rfl, Nat.le_of_ble_eq_true rfl⟩ rfl rfl (ci := 4) (q0 := 24) rfl rfl rfl hl.1 (Nat.le_of_ble_eq_true rfl) dX5_expression_1 ⟨Nat.le_of_ble_eq_true rfl, Nat.le_of_ble_eq_true rfl⟩ (fun r_127 t_126 H locs hw hP hD hS => ?_)
  obtain ⟨h_129, h_130, p_131⟩ := hw
  replace p_131 : ¬ r_127.toInt = 32 → (t.1 24 2).toInt < (t.1 24 3).toInt := p_131
  refine lv_bipush (v := 45) C.1 C.2.1 dX5_expression_4 (by decide) ?_
  refine lv_icmp_ne (tgt := 13) C.1 C.2.1 dX5_expression_6 (by decide) (fun c_132 => ?_) (fun c_132 => ?_)
  · replace c_132 : ¬ r_127.toInt = 45 := i_ne c_132
    refine lv_iconst (v := 0) C.1 C.2.1 dX5_expression_13 (by decide) ?_
    refine lv_istore_n (lv' := [(1, .int 0), (0, .ref (ad 24))]) C.1 C.2.1 dX5_expression_14 rfl hl (by decide) rfl (fun ls hl => ?_)
    have hl : lv_has ls 7 [(0, .ref (ad 24)), (1, .int 0)] := lv_sub hl [1, 0] rfl
    refine lv_iload_n C.1 C.2.1 dX5_expression_15 rfl (lv_at hl 1 rfl) ?_
    refine lv_if_ne (tgt := 28) C.1 C.2.1 dX5_expression_16 (by decide) (fun h => absurd h (by decide)) (fun _ => ?_)
    refine lv_aload_n C.1 C.2.1 dX5_expression_19 rfl (lv_at hl 0 rfl) ?_
    refine g_Vi (As := []) (rest := []) C hP hD hS hA (T_X5_letterHere l D K Z Y ad d t hok ) hE hZ (uwV m_21_21 m_21_22 m_21_23 m_5_22 m_22_0) (hdV 0 (by decide +kernel) rfl) ⟨Nat.le_of_ble_eq_true rfl, Nat.le_of_ble_eq_true rfl⟩ rfl rfl (ci := 4) (q0 := 24) rfl rfl rfl hl.1 (Nat.le_of_ble_eq_true rfl) dX5_expression_20 ⟨Nat.le_of_ble_eq_true rfl, Nat.le_of_ble_eq_true rfl⟩ (fun r_134 t_133 H locs hw hP hD hS => ?_)
    obtain ⟨h_136, h_137, p_138⟩ := hw
    replace p_138 : ¬ r_134.toInt = 32 → (t.1 24 2).toInt < (t.1 24 3).toInt := p_138
    refine lv_bipush (v := 43) C.1 C.2.1 dX5_expression_23 (by decide) ?_
    refine lv_icmp_ne (tgt := 38) C.1 C.2.1 dX5_expression_25 (by decide) (fun c_139 => ?_) (fun c_139 => ?_)
    · replace c_139 : ¬ r_134.toInt = 43 := i_ne c_139
      exact L_38 t 0 _ _ _ hok hfr ⟨by decide, by decide⟩ hP hD hS (lv_sub hl [0, 1] rfl)
    · replace c_139 : r_134.toInt = 43 := i_eq c_139
      refine lv_aload_n C.1 C.2.1 dX5_expression_28 rfl (lv_at hl 0 rfl) ?_
      refine lv_dup C.1 C.2.1 dX5_expression_29 rfl ?_
      refine k_get (v := .int (t.1 24 2)) C hP 24 rfl rfl inlX5 2 (by decide) m_19_9 rfl dX5_expression_30 ?_
      refine lv_iconst (v := 1) C.1 C.2.1 dX5_expression_33 (by decide) ?_
      obtain ⟨v_140, e_141⟩ : ∃ z, z = ((t.1 24 2) : Int32) + (1 : Int32) := ⟨_, rfl⟩
      have h_142 : v_140.toInt = (t.1 24 2).toInt + 1 := by rw [e_141]; exact ti_iadd (by show (_ : Int) ≤ (t.1 24 2).toInt + 1; omega) (by show (t.1 24 2).toInt + 1 < (_ : Int); omega)
      refine k_iadd (v := v_140) C e_141.symm dX5_expression_34 ?_
      refine k_put (ws' := (WX d) K ad (uI t 24 2 v_140)) (v := .int v_140) C hP hD hS 24 rfl rfl inlX5 tyX5_ok nmX5 2 (by decide) m_19_9 rfl rfl rfl rfl rfl dX5_expression_35 (fun H locs hP hD hS => ?_)
      have hok : okX (uI t 24 2 v_140) := ⟨okI_I hok.1 24 2 v_140 (show (0 : Int) ≤ (v_140 : Int32).toInt ∧ (v_140 : Int32).toInt ≤ 81 from ⟨by omega, by omega⟩), hok.2.1, trivial⟩
      have hfr : frA [(23, 6), (24, 2), (24, 4), (24, 8)] [(24, 7), (24, 9)] [44, 45] [] t (uI t 24 2 v_140) := frA_I hfr 24 2 _ rfl
      exact L_38 (uI t 24 2 v_140) 0 _ _ _ hok hfr ⟨by decide, by decide⟩ hP hD hS (lv_sub hl [0, 1] rfl)
  · replace c_132 : r_127.toInt = 45 := i_eq c_132
    refine lv_iconst (v := 1) C.1 C.2.1 dX5_expression_9 (by decide) ?_
    refine lv_goto (tgt := 14) C.1 C.2.1 dX5_expression_10 (by decide) ?_
    refine lv_istore_n (lv' := [(1, .int 1), (0, .ref (ad 24))]) C.1 C.2.1 dX5_expression_14 rfl hl (by decide) rfl (fun ls hl => ?_)
    have hl : lv_has ls 7 [(0, .ref (ad 24)), (1, .int 1)] := lv_sub hl [1, 0] rfl
    refine lv_iload_n C.1 C.2.1 dX5_expression_15 rfl (lv_at hl 1 rfl) ?_
    refine lv_if_ne (tgt := 28) C.1 C.2.1 dX5_expression_16 (by decide) (fun _ => ?_) (fun h => absurd h (by decide))
    refine lv_aload_n C.1 C.2.1 dX5_expression_28 rfl (lv_at hl 0 rfl) ?_
    refine lv_dup C.1 C.2.1 dX5_expression_29 rfl ?_
    refine k_get (v := .int (t.1 24 2)) C hP 24 rfl rfl inlX5 2 (by decide) m_19_9 rfl dX5_expression_30 ?_
    refine lv_iconst (v := 1) C.1 C.2.1 dX5_expression_33 (by decide) ?_
    obtain ⟨v_143, e_144⟩ : ∃ z, z = ((t.1 24 2) : Int32) + (1 : Int32) := ⟨_, rfl⟩
    have h_145 : v_143.toInt = (t.1 24 2).toInt + 1 := by rw [e_144]; exact ti_iadd (by show (_ : Int) ≤ (t.1 24 2).toInt + 1; omega) (by show (t.1 24 2).toInt + 1 < (_ : Int); omega)
    refine k_iadd (v := v_143) C e_144.symm dX5_expression_34 ?_
    refine k_put (ws' := (WX d) K ad (uI t 24 2 v_143)) (v := .int v_143) C hP hD hS 24 rfl rfl inlX5 tyX5_ok nmX5 2 (by decide) m_19_9 rfl rfl rfl rfl rfl dX5_expression_35 (fun H locs hP hD hS => ?_)
    have hok : okX (uI t 24 2 v_143) := ⟨okI_I hok.1 24 2 v_143 (show (0 : Int) ≤ (v_143 : Int32).toInt ∧ (v_143 : Int32).toInt ≤ 81 from ⟨by omega, by omega⟩), hok.2.1, trivial⟩
    have hfr : frA [(23, 6), (24, 2), (24, 4), (24, 8)] [(24, 7), (24, 9)] [44, 45] [] t (uI t 24 2 v_143) := frA_I hfr 24 2 _ rfl
    exact L_38 (uI t 24 2 v_143) 1 _ _ _ hok hfr ⟨by decide, by decide⟩ hP hD hS (lv_sub hl [0, 1] rfl)

theorem dX5_address_0 : decode cX5_address 0 = .ok (.aload_n 0, 1) := by decide +kernel
theorem dX5_address_1 : decode cX5_address 1 = .ok (.invokevirtual 126, 3) := by decide +kernel
theorem dX5_address_12 : decode cX5_address 12 = .ok (.if_icmp .le 8, 3) := by decide +kernel
theorem dX5_address_15 : decode cX5_address 15 = .ok (.aload_n 0, 1) := by decide +kernel
theorem dX5_address_16 : decode cX5_address 16 = .ok (.iconst 5, 1) := by decide +kernel
theorem dX5_address_17 : decode cX5_address 17 = .ok (.invokevirtual 99, 3) := by decide +kernel
theorem dX5_address_20 : decode cX5_address 20 = .ok (.iload_n 1, 1) := by decide +kernel
theorem dX5_address_21 : decode cX5_address 21 = .ok (.ireturn, 1) := by decide +kernel
theorem dX5_address_4 : decode cX5_address 4 = .ok (.istore_n 1, 1) := by decide +kernel
theorem dX5_address_5 : decode cX5_address 5 = .ok (.iload_n 1, 1) := by decide +kernel
theorem dX5_address_6 : decode cX5_address 6 = .ok (.ldc 139, 2) := by decide +kernel
theorem dX5_address_8 : decode cX5_address 8 = .ok (.iand, 1) := by decide +kernel
theorem dX5_address_9 : decode cX5_address 9 = .ok (.sipush 4095, 3) := by decide +kernel
set_option maxHeartbeats 4000000 in
set_option maxRecDepth 100000 in
theorem T_X5_address (l : Launch) (D : va_G) (K : Nat → ClassId) (Z Y : Nat → Nat) (ad : Nat → Nat) (d : dSt) (t : tSt) (hok : okX t)  : tMet l yX5_address cX5_address 2 (some .int) (rmD 4 0 0) D K Z Y [.ref (ad 24)] ((WX d) K ad t) (QI D K (fun (r : Int32) (u : tSt) => okX u ∧ frA [(23, 6), (24, 2), (24, 4), (24, 8)] [(24, 7), (24, 9)] [44, 45] [] t u ∧ (-2147483648 : Int) ≤ r.toInt ∧ r.toInt ≤ 2147483647) (fun (u : tSt) => (WX d) K ad u)) 0 0 := by
  refine t_met RX5 ⟨rfl, by decide +kernel⟩ (Nat.le_of_ble_eq_true rfl) ?_
  intro p e s m below meth c A ls C hE hZ hr hlocks hA hP hD hS hl
  have hl : lv_has ls 2 [(0, .ref (ad 24))] := hl
  have hokt := hok
  have hfr : frA [(23, 6), (24, 2), (24, 4), (24, 8)] [(24, 7), (24, 9)] [44, 45] [] t t := frA_rf
  refine lv_aload_n C.1 C.2.1 dX5_address_0 rfl (lv_at hl 0 rfl) ?_
  refine g_Vi (As := []) (rest := []) C hP hD hS hA (T_X5_expression l D K Z Y ad d t hok ) hE hZ (uwV m_21_16 m_21_17 m_21_18 m_5_22 m_21_19) (hdV 0 (by decide +kernel) rfl) ⟨Nat.le_of_ble_eq_true rfl, Nat.le_of_ble_eq_true rfl⟩ rfl rfl (ci := 4) (q0 := 24) rfl rfl rfl hl.1 (Nat.le_of_ble_eq_true rfl) dX5_address_1 ⟨Nat.le_of_ble_eq_true rfl, Nat.le_of_ble_eq_true rfl⟩ (fun r_2 t_1 H locs hw hP hD hS => ?_)
  obtain ⟨hok, f_3, h_4, h_5⟩ := hw
  have hfr : frA [(23, 6), (24, 2), (24, 4), (24, 8)] [(24, 7), (24, 9)] [44, 45] [] t t_1 := frA_tr hfr f_3 rfl
  refine lv_istore_n (lv' := [(1, .int r_2), (0, .ref (ad 24))]) C.1 C.2.1 dX5_address_4 rfl hl (by decide) rfl (fun ls hl => ?_)
  have hl : lv_has ls 2 [(0, .ref (ad 24)), (1, .int r_2)] := lv_sub hl [1, 0] rfl
  refine lv_iload_n C.1 C.2.1 dX5_address_5 rfl (lv_at hl 1 rfl) ?_
  refine lv_ldc (v := 1073741823) C.1 C.2.1 C.2.2.2.1 (C.2.2.2.2.1 _ m_24_19) dX5_address_6 ?_
  obtain ⟨v_6, e_7⟩ : ∃ z, z = (r_2 : Int32) &&& (1073741823 : Int32) := ⟨_, rfl⟩
  have h_8 : v_6.toInt = r_2.toInt % 2 ^ 30 := by rw [e_7]; exact Jvm.Kit.i32_mask _ _ (k := 30) (by decide) (by decide)
  refine k_iand (v := v_6) C e_7.symm dX5_address_8 ?_
  refine lv_sipush (v := 4095) C.1 C.2.1 dX5_address_9 (by decide) ?_
  refine lv_icmp_le (tgt := 20) C.1 C.2.1 dX5_address_12 (by decide) (fun c_9 => ?_) (fun c_9 => ?_)
  · replace c_9 : v_6.toInt ≤ 4095 := i_le c_9
    refine lv_iload_n C.1 C.2.1 dX5_address_20 rfl (lv_at hl 1 rfl) ?_
    exact g_iret C hr hlocks hP hD hS rfl t_1 rfl ⟨hok, hfr, (i_rng _).1, (i_rng _).2⟩ (Nat.le_of_ble_eq_true rfl) (Nat.le_of_ble_eq_true rfl) dX5_address_21
  · replace c_9 : 4095 < v_6.toInt := i_nle c_9
    refine lv_aload_n C.1 C.2.1 dX5_address_15 rfl (lv_at hl 0 rfl) ?_
    refine lv_iconst (v := 5) C.1 C.2.1 dX5_address_16 (by decide) ?_
    refine g_Vv (As := [.int 5]) (rest := []) C hP hD hS hA (T_X5_fail l D K Z Y ad d t_1 hok 5 (show (1 : Int) ≤ (5 : Int32).toInt ∧ (5 : Int32).toInt ≤ 6 from ⟨by decide, by decide⟩)) hE hZ (uwV m_23_0 m_23_1 m_23_2 m_5_22 m_23_3) (hdV 1 (by decide +kernel) rfl) ⟨Nat.le_of_ble_eq_true rfl, Nat.le_of_ble_eq_true rfl⟩ rfl rfl (ci := 4) (q0 := 24) rfl rfl rfl hl.1 (Nat.le_of_ble_eq_true rfl) dX5_address_17 ⟨Nat.le_of_ble_eq_true rfl, Nat.le_of_ble_eq_true rfl⟩ (fun t_10 H locs hw hP hD hS => ?_)
    obtain ⟨hok, f_12⟩ := hw
    have hfr : frA [(23, 6), (24, 2), (24, 4), (24, 8)] [(24, 7), (24, 9)] [44, 45] [] t t_10 := frA_tr hfr f_12 rfl
    refine lv_iload_n C.1 C.2.1 dX5_address_20 rfl (lv_at hl 1 rfl) ?_
    exact g_iret C hr hlocks hP hD hS rfl t_10 rfl ⟨hok, hfr, (i_rng _).1, (i_rng _).2⟩ (Nat.le_of_ble_eq_true rfl) (Nat.le_of_ble_eq_true rfl) dX5_address_21

theorem dX2_faultOfField_0 : decode cX2_faultOfField 0 = .ok (.aload_n 0, 1) := by decide +kernel
theorem dX2_faultOfField_1 : decode cX2_faultOfField 1 = .ok (.aload_n 0, 1) := by decide +kernel
theorem dX2_faultOfField_11 : decode cX2_faultOfField 11 = .ok (.iconst 2, 1) := by decide +kernel
theorem dX2_faultOfField_12 : decode cX2_faultOfField 12 = .ok (.ireturn, 1) := by decide +kernel
theorem dX2_faultOfField_13 : decode cX2_faultOfField 13 = .ok (.aload_n 0, 1) := by decide +kernel
theorem dX2_faultOfField_14 : decode cX2_faultOfField 14 = .ok (.getfield 87, 3) := by decide +kernel
theorem dX2_faultOfField_17 : decode cX2_faultOfField 17 = .ok (.invokestatic 167, 3) := by decide +kernel
theorem dX2_faultOfField_2 : decode cX2_faultOfField 2 = .ok (.getfield 142, 3) := by decide +kernel
theorem dX2_faultOfField_20 : decode cX2_faultOfField 20 = .ok (.ifCond .ne 5, 3) := by decide +kernel
theorem dX2_faultOfField_23 : decode cX2_faultOfField 23 = .ok (.iconst 3, 1) := by decide +kernel
theorem dX2_faultOfField_24 : decode cX2_faultOfField 24 = .ok (.ireturn, 1) := by decide +kernel
theorem dX2_faultOfField_25 : decode cX2_faultOfField 25 = .ok (.aload_n 0, 1) := by decide +kernel
theorem dX2_faultOfField_26 : decode cX2_faultOfField 26 = .ok (.getfield 84, 3) := by decide +kernel
theorem dX2_faultOfField_29 : decode cX2_faultOfField 29 = .ok (.bipush 8, 2) := by decide +kernel
theorem dX2_faultOfField_31 : decode cX2_faultOfField 31 = .ok (.if_icmp .lt 29, 3) := by decide +kernel
theorem dX2_faultOfField_34 : decode cX2_faultOfField 34 = .ok (.aload_n 0, 1) := by decide +kernel
theorem dX2_faultOfField_35 : decode cX2_faultOfField 35 = .ok (.getfield 84, 3) := by decide +kernel
theorem dX2_faultOfField_38 : decode cX2_faultOfField 38 = .ok (.bipush 23, 2) := by decide +kernel
theorem dX2_faultOfField_40 : decode cX2_faultOfField 40 = .ok (.if_icmp .gt 20, 3) := by decide +kernel
theorem dX2_faultOfField_43 : decode cX2_faultOfField 43 = .ok (.aload_n 0, 1) := by decide +kernel
theorem dX2_faultOfField_44 : decode cX2_faultOfField 44 = .ok (.getfield 84, 3) := by decide +kernel
theorem dX2_faultOfField_47 : decode cX2_faultOfField 47 = .ok (.bipush 7, 2) := by decide +kernel
theorem dX2_faultOfField_49 : decode cX2_faultOfField 49 = .ok (.iand, 1) := by decide +kernel
theorem dX2_faultOfField_5 : decode cX2_faultOfField 5 = .ok (.invokevirtual 62, 3) := by decide +kernel
theorem dX2_faultOfField_50 : decode cX2_faultOfField 50 = .ok (.invokestatic 152, 3) := by decide +kernel
theorem dX2_faultOfField_53 : decode cX2_faultOfField 53 = .ok (.ifCond .eq 7, 3) := by decide +kernel
theorem dX2_faultOfField_56 : decode cX2_faultOfField 56 = .ok (.iconst 1, 1) := by decide +kernel
theorem dX2_faultOfField_57 : decode cX2_faultOfField 57 = .ok (.goto 4, 3) := by decide +kernel
theorem dX2_faultOfField_60 : decode cX2_faultOfField 60 = .ok (.iconst 0, 1) := by decide +kernel
theorem dX2_faultOfField_61 : decode cX2_faultOfField 61 = .ok (.istore_n 1, 1) := by decide +kernel
theorem dX2_faultOfField_62 : decode cX2_faultOfField 62 = .ok (.iload_n 1, 1) := by decide +kernel
theorem dX2_faultOfField_63 : decode cX2_faultOfField 63 = .ok (.ifCond .eq 31, 3) := by decide +kernel
theorem dX2_faultOfField_66 : decode cX2_faultOfField 66 = .ok (.aload_n 0, 1) := by decide +kernel
theorem dX2_faultOfField_67 : decode cX2_faultOfField 67 = .ok (.aload_n 0, 1) := by decide +kernel
theorem dX2_faultOfField_68 : decode cX2_faultOfField 68 = .ok (.getfield 142, 3) := by decide +kernel
theorem dX2_faultOfField_71 : decode cX2_faultOfField 71 = .ok (.invokevirtual 73, 3) := by decide +kernel
theorem dX2_faultOfField_74 : decode cX2_faultOfField 74 = .ok (.aload_n 0, 1) := by decide +kernel
theorem dX2_faultOfField_75 : decode cX2_faultOfField 75 = .ok (.getfield 87, 3) := by decide +kernel
theorem dX2_faultOfField_78 : decode cX2_faultOfField 78 = .ok (.invokestatic 170, 3) := by decide +kernel
theorem dX2_faultOfField_8 : decode cX2_faultOfField 8 = .ok (.ifCond .ne 5, 3) := by decide +kernel
theorem dX2_faultOfField_81 : decode cX2_faultOfField 81 = .ok (.ldc 173, 2) := by decide +kernel
theorem dX2_faultOfField_83 : decode cX2_faultOfField 83 = .ok (.iand, 1) := by decide +kernel
theorem dX2_faultOfField_84 : decode cX2_faultOfField 84 = .ok (.sipush 4095, 3) := by decide +kernel
theorem dX2_faultOfField_87 : decode cX2_faultOfField 87 = .ok (.if_icmp .le 7, 3) := by decide +kernel
theorem dX2_faultOfField_90 : decode cX2_faultOfField 90 = .ok (.iconst 4, 1) := by decide +kernel
theorem dX2_faultOfField_91 : decode cX2_faultOfField 91 = .ok (.goto 4, 3) := by decide +kernel
theorem dX2_faultOfField_94 : decode cX2_faultOfField 94 = .ok (.iconst 0, 1) := by decide +kernel
theorem dX2_faultOfField_95 : decode cX2_faultOfField 95 = .ok (.ireturn, 1) := by decide +kernel
set_option maxHeartbeats 4000000 in
set_option maxRecDepth 100000 in
theorem T_X2_faultOfField (l : Launch) (D : va_G) (K : Nat → ClassId) (Z Y : Nat → Nat) (ad : Nat → Nat) (d : dSt) (t : tSt) (hok : okX t)  : tMet l yX2_faultOfField cX2_faultOfField 2 (some .int) (rmD 3 0 0) D K Z Y [.ref (ad 4)] ((WX d) K ad t) (QI D K (fun (r : Int32) (u : Unit) => (0 : Int) ≤ r.toInt ∧ r.toInt ≤ 4) (fun (_ : Unit) => (WX d) K ad t)) 0 0 := by
  refine t_met RX2 ⟨rfl, by decide +kernel⟩ (Nat.le_of_ble_eq_true rfl) ?_
  intro p e s m below meth c A ls C hE hZ hr hlocks hA hP hD hS hl
  have hl : lv_has ls 2 [(0, .ref (ad 4))] := hl
  have L_61 : ∀ (k61_0 : Int32) (H : Heap) (locs : List Loc) (ls : Array Slot), (0 : Int) ≤ k61_0.toInt ∧ k61_0.toInt ≤ 1 → va_P D vwCl ((WX d) K ad t) H → va_D A ((WX d) K ad t) → va_S A s.heap H locs → lv_has ls 2 [(0, .ref (ad 4))] → W p l e (rmD 3 0 0) s m [.ref (ad 4)].toArray below meth c H locs 0 0 (MQ below (QI D K (fun (r : Int32) (u : Unit) => (0 : Int) ≤ r.toInt ∧ r.toInt ≤ 4) (fun (_ : Unit) => (WX d) K ad t) A) [.ref (ad 4)].toArray s 0 0 A) (F0 m 61 ls [.int k61_0]) := by
    intro k61_0 H locs ls hk61_0 hP hD hS hl
    refine lv_istore_n (lv' := [(1, .int k61_0), (0, .ref (ad 4))]) C.1 C.2.1 dX2_faultOfField_61 rfl hl (by decide) rfl (fun ls hl => ?_)
    have hl : lv_has ls 2 [(0, .ref (ad 4)), (1, .int k61_0)] := lv_sub hl [1, 0] rfl
    refine lv_iload_n C.1 C.2.1 dX2_faultOfField_62 rfl (lv_at hl 1 rfl) ?_
    refine lv_if_eq (tgt := 94) C.1 C.2.1 dX2_faultOfField_63 (by decide) (fun c_1 => ?_) (fun c_1 => ?_)
    · replace c_1 : k61_0.toInt = 0 := i_eq c_1
      refine lv_iconst (v := 0) C.1 C.2.1 dX2_faultOfField_94 (by decide) ?_
      exact g_iret C hr hlocks hP hD hS rfl () rfl ⟨by decide, by decide⟩ (Nat.le_of_ble_eq_true rfl) (Nat.le_of_ble_eq_true rfl) dX2_faultOfField_95
    · replace c_1 : ¬ k61_0.toInt = 0 := i_ne c_1
      refine lv_aload_n C.1 C.2.1 dX2_faultOfField_66 rfl (lv_at hl 0 rfl) ?_
      refine lv_aload_n C.1 C.2.1 dX2_faultOfField_67 rfl (lv_at hl 0 rfl) ?_
      have h_2 : (-2147483648 : Int) ≤ (t.1 4 15).toInt ∧ (t.1 4 15).toInt ≤ 1073745919 := hok.1 4 15
      refine k_get (v := .int (t.1 4 15)) C hP 4 rfl rfl inlX2 15 (by decide) m_47_12 rfl dX2_faultOfField_68 ?_
      refine g_Vi (As := [.int (t.1 4 15)]) (rest := []) C hP hD hS hA (T_X2_load l D K Z Y ad d t hok ((t.1 4 15))) hE hZ (uwV m_47_3 m_47_4 m_47_5 m_1_23 m_47_6) (hdV 1 (by decide +kernel) rfl) ⟨Nat.le_of_ble_eq_true rfl, Nat.le_of_ble_eq_true rfl⟩ rfl rfl (ci := 1) (q0 := 4) rfl rfl rfl hl.1 (Nat.le_of_ble_eq_true rfl) dX2_faultOfField_71 ⟨Nat.le_of_ble_eq_true rfl, Nat.le_of_ble_eq_true rfl⟩ (fun r_4 t_3 H locs hw hP hD hS => ?_)
      obtain ⟨h_6, h_7⟩ := hw
      refine lv_aload_n C.1 C.2.1 dX2_faultOfField_74 rfl (lv_at hl 0 rfl) ?_
      have h_8 : (0 : Int) ≤ (t.1 4 14).toInt ∧ (t.1 4 14).toInt ≤ 63 := hok.1 4 14
      refine k_get (v := .int (t.1 4 14)) C hP 4 rfl rfl inlX2 14 (by decide) m_45_19 rfl dX2_faultOfField_75 ?_
      refine g_Si (As := [.int r_4, .int (t.1 4 14)]) (rest := []) C hP hD hS hA (T_X1_field l D K Z Y ad d t hok (r_4) ((t.1 4 14)) (show (0 : Int) ≤ ((t.1 4 14) : Int32).toInt ∧ ((t.1 4 14) : Int32).toInt ≤ 63 from ⟨by omega, by omega⟩)) hE hZ (uwS m_49_3 m_49_4 m_14_2 m_49_5) (hdS 2 (by decide +kernel) rfl) ⟨Nat.le_of_ble_eq_true rfl, Nat.le_of_ble_eq_true rfl⟩ rfl rfl rfl hl.1 (Nat.le_of_ble_eq_true rfl) dX2_faultOfField_78 ⟨Nat.le_of_ble_eq_true rfl, Nat.le_of_ble_eq_true rfl⟩ (fun r_10 t_9 H locs hw hP hD hS => ?_)
      obtain ⟨h_12, h_13⟩ := hw
      refine lv_ldc (v := 1073741823) C.1 C.2.1 C.2.2.2.1 (C.2.2.2.2.1 _ m_48_22) dX2_faultOfField_81 ?_
      obtain ⟨v_14, e_15⟩ : ∃ z, z = (r_10 : Int32) &&& (1073741823 : Int32) := ⟨_, rfl⟩
      have h_16 : v_14.toInt = r_10.toInt % 2 ^ 30 := by rw [e_15]; exact Jvm.Kit.i32_mask _ _ (k := 30) (by decide) (by decide)
      refine k_iand (v := v_14) C e_15.symm dX2_faultOfField_83 ?_
      refine lv_sipush (v := 4095) C.1 C.2.1 dX2_faultOfField_84 (by decide) ?_
      refine lv_icmp_le (tgt := 94) C.1 C.2.1 dX2_faultOfField_87 (by decide) (fun c_17 => ?_) (fun c_17 => ?_)
      · replace c_17 : v_14.toInt ≤ 4095 := i_le c_17
        refine lv_iconst (v := 0) C.1 C.2.1 dX2_faultOfField_94 (by decide) ?_
        exact g_iret C hr hlocks hP hD hS rfl () rfl ⟨by decide, by decide⟩ (Nat.le_of_ble_eq_true rfl) (Nat.le_of_ble_eq_true rfl) dX2_faultOfField_95
      · replace c_17 : 4095 < v_14.toInt := i_nle c_17
        refine lv_iconst (v := 4) C.1 C.2.1 dX2_faultOfField_90 (by decide) ?_
        refine lv_goto (tgt := 95) C.1 C.2.1 dX2_faultOfField_91 (by decide) ?_
        exact g_iret C hr hlocks hP hD hS rfl () rfl ⟨by decide, by decide⟩ (Nat.le_of_ble_eq_true rfl) (Nat.le_of_ble_eq_true rfl) dX2_faultOfField_95
  have L_60 : ∀  (H : Heap) (locs : List Loc) (ls : Array Slot), va_P D vwCl ((WX d) K ad t) H → va_D A ((WX d) K ad t) → va_S A s.heap H locs → lv_has ls 2 [(0, .ref (ad 4))] → W p l e (rmD 3 0 0) s m [.ref (ad 4)].toArray below meth c H locs 0 0 (MQ below (QI D K (fun (r : Int32) (u : Unit) => (0 : Int) ≤ r.toInt ∧ r.toInt ≤ 4) (fun (_ : Unit) => (WX d) K ad t) A) [.ref (ad 4)].toArray s 0 0 A) (F0 m 60 ls []) := by
    intro  H locs ls  hP hD hS hl
    refine lv_iconst (v := 0) C.1 C.2.1 dX2_faultOfField_60 (by decide) ?_
    exact L_61 0 _ _ _ ⟨by decide, by decide⟩ hP hD hS (lv_sub hl [0] rfl)
  refine lv_aload_n C.1 C.2.1 dX2_faultOfField_0 rfl (lv_at hl 0 rfl) ?_
  refine lv_aload_n C.1 C.2.1 dX2_faultOfField_1 rfl (lv_at hl 0 rfl) ?_
  have h_18 : (-2147483648 : Int) ≤ (t.1 4 15).toInt ∧ (t.1 4 15).toInt ≤ 1073745919 := hok.1 4 15
  refine k_get (v := .int (t.1 4 15)) C hP 4 rfl rfl inlX2 15 (by decide) m_47_12 rfl dX2_faultOfField_2 ?_
  refine g_Vi (As := [.int (t.1 4 15)]) (rest := []) C hP hD hS hA (T_X2_isAddress l D K Z Y ad d t hok ((t.1 4 15))) hE hZ (uwV m_45_20 m_45_21 m_45_22 m_1_23 m_45_23) (hdV 1 (by decide +kernel) rfl) ⟨Nat.le_of_ble_eq_true rfl, Nat.le_of_ble_eq_true rfl⟩ rfl rfl (ci := 1) (q0 := 4) rfl rfl rfl hl.1 (Nat.le_of_ble_eq_true rfl) dX2_faultOfField_5 ⟨Nat.le_of_ble_eq_true rfl, Nat.le_of_ble_eq_true rfl⟩ (fun r_20 t_19 H locs hw hP hD hS => ?_)
  obtain ⟨h_22, h_23⟩ := hw
  refine lv_if_ne (tgt := 13) C.1 C.2.1 dX2_faultOfField_8 (by decide) (fun c_24 => ?_) (fun c_24 => ?_)
  · replace c_24 : ¬ r_20.toInt = 0 := i_ne c_24
    refine lv_aload_n C.1 C.2.1 dX2_faultOfField_13 rfl (lv_at hl 0 rfl) ?_
    have h_25 : (0 : Int) ≤ (t.1 4 14).toInt ∧ (t.1 4 14).toInt ≤ 63 := hok.1 4 14
    refine k_get (v := .int (t.1 4 14)) C hP 4 rfl rfl inlX2 14 (by decide) m_45_19 rfl dX2_faultOfField_14 ?_
    refine g_Si (As := [.int (t.1 4 14)]) (rest := []) C hP hD hS hA (T_X1_isField l D K Z Y ad d t hok ((t.1 4 14)) (show (-1073741824 : Int) ≤ ((t.1 4 14) : Int32).toInt ∧ ((t.1 4 14) : Int32).toInt ≤ 1073741823 from ⟨by omega, by omega⟩)) hE hZ (uwS m_48_23 m_23_20 m_14_2 m_23_21) (hdS 1 (by decide +kernel) rfl) ⟨Nat.le_of_ble_eq_true rfl, Nat.le_of_ble_eq_true rfl⟩ rfl rfl rfl hl.1 (Nat.le_of_ble_eq_true rfl) dX2_faultOfField_17 ⟨Nat.le_of_ble_eq_true rfl, Nat.le_of_ble_eq_true rfl⟩ (fun r_27 t_26 H locs hw hP hD hS => ?_)
    obtain ⟨h_29, h_30⟩ := hw
    refine lv_if_ne (tgt := 25) C.1 C.2.1 dX2_faultOfField_20 (by decide) (fun c_31 => ?_) (fun c_31 => ?_)
    · replace c_31 : ¬ r_27.toInt = 0 := i_ne c_31
      refine lv_aload_n C.1 C.2.1 dX2_faultOfField_25 rfl (lv_at hl 0 rfl) ?_
      have h_32 : (0 : Int) ≤ (t.1 4 13).toInt ∧ (t.1 4 13).toInt ≤ 63 := hok.1 4 13
      refine k_get (v := .int (t.1 4 13)) C hP 4 rfl rfl inlX2 13 (by decide) m_45_18 rfl dX2_faultOfField_26 ?_
      refine lv_bipush (v := 8) C.1 C.2.1 dX2_faultOfField_29 (by decide) ?_
      refine lv_icmp_lt (tgt := 60) C.1 C.2.1 dX2_faultOfField_31 (by decide) (fun c_33 => ?_) (fun c_33 => ?_)
      · replace c_33 : (t.1 4 13).toInt < 8 := i_lt c_33
        exact L_60  _ _ _  hP hD hS (lv_sub hl [0] rfl)
      · replace c_33 : 8 ≤ (t.1 4 13).toInt := i_nlt c_33
        refine lv_aload_n C.1 C.2.1 dX2_faultOfField_34 rfl (lv_at hl 0 rfl) ?_
        refine k_get (v := .int (t.1 4 13)) C hP 4 rfl rfl inlX2 13 (by decide) m_45_18 rfl dX2_faultOfField_35 ?_
        refine lv_bipush (v := 23) C.1 C.2.1 dX2_faultOfField_38 (by decide) ?_
        refine lv_icmp_gt (tgt := 60) C.1 C.2.1 dX2_faultOfField_40 (by decide) (fun c_34 => ?_) (fun c_34 => ?_)
        · replace c_34 : 23 < (t.1 4 13).toInt := i_lt c_34
          exact L_60  _ _ _  hP hD hS (lv_sub hl [0] rfl)
        · replace c_34 : (t.1 4 13).toInt ≤ 23 := i_nlt c_34
          refine lv_aload_n C.1 C.2.1 dX2_faultOfField_43 rfl (lv_at hl 0 rfl) ?_
          refine k_get (v := .int (t.1 4 13)) C hP 4 rfl rfl inlX2 13 (by decide) m_45_18 rfl dX2_faultOfField_44 ?_
          refine lv_bipush (v := 7) C.1 C.2.1 dX2_faultOfField_47 (by decide) ?_
          obtain ⟨v_35, e_36⟩ : ∃ z, z = ((t.1 4 13) : Int32) &&& (7 : Int32) := ⟨_, rfl⟩
          have h_37 : v_35.toInt = (t.1 4 13).toInt % 2 ^ 3 := by rw [e_36]; exact Jvm.Kit.i32_mask _ _ (k := 3) (by decide) (by decide)
          refine k_iand (v := v_35) C e_36.symm dX2_faultOfField_49 ?_
          refine g_Si (As := [.int v_35]) (rest := []) C hP hD hS hA (T_X2_isIndex l D K Z Y ad d t hok (v_35) (show (0 : Int) ≤ (v_35 : Int32).toInt ∧ (v_35 : Int32).toInt ≤ 7 from ⟨by omega, by omega⟩)) hE hZ (uwS m_49_0 m_49_1 m_1_23 m_49_2) (hdS 1 (by decide +kernel) rfl) ⟨Nat.le_of_ble_eq_true rfl, Nat.le_of_ble_eq_true rfl⟩ rfl rfl rfl hl.1 (Nat.le_of_ble_eq_true rfl) dX2_faultOfField_50 ⟨Nat.le_of_ble_eq_true rfl, Nat.le_of_ble_eq_true rfl⟩ (fun r_39 t_38 H locs hw hP hD hS => ?_)
          obtain ⟨h_41, h_42⟩ := hw
          refine lv_if_eq (tgt := 60) C.1 C.2.1 dX2_faultOfField_53 (by decide) (fun c_43 => ?_) (fun c_43 => ?_)
          · replace c_43 : r_39.toInt = 0 := i_eq c_43
            exact L_60  _ _ _  hP hD hS (lv_sub hl [0] rfl)
          · replace c_43 : ¬ r_39.toInt = 0 := i_ne c_43
            refine lv_iconst (v := 1) C.1 C.2.1 dX2_faultOfField_56 (by decide) ?_
            refine lv_goto (tgt := 61) C.1 C.2.1 dX2_faultOfField_57 (by decide) ?_
            exact L_61 1 _ _ _ ⟨by decide, by decide⟩ hP hD hS (lv_sub hl [0] rfl)
    · replace c_31 : r_27.toInt = 0 := i_eq c_31
      refine lv_iconst (v := 3) C.1 C.2.1 dX2_faultOfField_23 (by decide) ?_
      exact g_iret C hr hlocks hP hD hS rfl () rfl ⟨by decide, by decide⟩ (Nat.le_of_ble_eq_true rfl) (Nat.le_of_ble_eq_true rfl) dX2_faultOfField_24
  · replace c_24 : r_20.toInt = 0 := i_eq c_24
    refine lv_iconst (v := 2) C.1 C.2.1 dX2_faultOfField_11 (by decide) ?_
    exact g_iret C hr hlocks hP hD hS rfl () rfl ⟨by decide, by decide⟩ (Nat.le_of_ble_eq_true rfl) (Nat.le_of_ble_eq_true rfl) dX2_faultOfField_12

theorem dX3_load_0 : decode cX3_load 0 = .ok (.aload_n 1, 1) := by decide +kernel
theorem dX3_load_1 : decode cX3_load 1 = .ok (.aload_n 0, 1) := by decide +kernel
theorem dX3_load_100 : decode cX3_load 100 = .ok (.iload 6, 2) := by decide +kernel
theorem dX3_load_102 : decode cX3_load 102 = .ok (.iload 4, 2) := by decide +kernel
theorem dX3_load_104 : decode cX3_load 104 = .ok (.if_icmp .ge 57, 3) := by decide +kernel
theorem dX3_load_107 : decode cX3_load 107 = .ok (.aload_n 1, 1) := by decide +kernel
theorem dX3_load_108 : decode cX3_load 108 = .ok (.bipush 10, 2) := by decide +kernel
theorem dX3_load_110 : decode cX3_load 110 = .ok (.bipush 10, 2) := by decide +kernel
theorem dX3_load_112 : decode cX3_load 112 = .ok (.iload 6, 2) := by decide +kernel
theorem dX3_load_114 : decode cX3_load 114 = .ok (.imul, 1) := by decide +kernel
theorem dX3_load_115 : decode cX3_load 115 = .ok (.iadd, 1) := by decide +kernel
theorem dX3_load_116 : decode cX3_load 116 = .ok (.invokestatic 152, 3) := by decide +kernel
theorem dX3_load_119 : decode cX3_load 119 = .ok (.istore 7, 2) := by decide +kernel
theorem dX3_load_12 : decode cX3_load 12 = .ok (.iconst 0, 1) := by decide +kernel
theorem dX3_load_121 : decode cX3_load 121 = .ok (.sipush 3999, 3) := by decide +kernel
theorem dX3_load_124 : decode cX3_load 124 = .ok (.iload 5, 2) := by decide +kernel
theorem dX3_load_126 : decode cX3_load 126 = .ok (.iadd, 1) := by decide +kernel
theorem dX3_load_127 : decode cX3_load 127 = .ok (.iload 6, 2) := by decide +kernel
theorem dX3_load_129 : decode cX3_load 129 = .ok (.iadd, 1) := by decide +kernel
theorem dX3_load_13 : decode cX3_load 13 = .ok (.istore_n 3, 1) := by decide +kernel
theorem dX3_load_130 : decode cX3_load 130 = .ok (.istore 8, 2) := by decide +kernel
theorem dX3_load_132 : decode cX3_load 132 = .ok (.iload 7, 2) := by decide +kernel
theorem dX3_load_134 : decode cX3_load 134 = .ok (.ifCond .lt 10, 3) := by decide +kernel
theorem dX3_load_137 : decode cX3_load 137 = .ok (.iload 8, 2) := by decide +kernel
theorem dX3_load_139 : decode cX3_load 139 = .ok (.aload_n 2, 1) := by decide +kernel
theorem dX3_load_14 : decode cX3_load 14 = .ok (.iload_n 3, 1) := by decide +kernel
theorem dX3_load_140 : decode cX3_load 140 = .ok (.arraylength, 1) := by decide +kernel
theorem dX3_load_141 : decode cX3_load 141 = .ok (.if_icmp .lt 8, 3) := by decide +kernel
theorem dX3_load_144 : decode cX3_load 144 = .ok (.aload_n 1, 1) := by decide +kernel
theorem dX3_load_145 : decode cX3_load 145 = .ok (.getfield 146, 3) := by decide +kernel
theorem dX3_load_148 : decode cX3_load 148 = .ok (.ireturn, 1) := by decide +kernel
theorem dX3_load_149 : decode cX3_load 149 = .ok (.aload_n 2, 1) := by decide +kernel
theorem dX3_load_15 : decode cX3_load 15 = .ok (.sipush 8192, 3) := by decide +kernel
theorem dX3_load_150 : decode cX3_load 150 = .ok (.iload 8, 2) := by decide +kernel
theorem dX3_load_152 : decode cX3_load 152 = .ok (.iload 7, 2) := by decide +kernel
theorem dX3_load_154 : decode cX3_load 154 = .ok (.iastore, 1) := by decide +kernel
theorem dX3_load_155 : decode cX3_load 155 = .ok (.iinc 6 1, 3) := by decide +kernel
theorem dX3_load_158 : decode cX3_load 158 = .ok (.goto (-58), 3) := by decide +kernel
theorem dX3_load_161 : decode cX3_load 161 = .ok (.iinc 3 1, 3) := by decide +kernel
theorem dX3_load_164 : decode cX3_load 164 = .ok (.goto (-150), 3) := by decide +kernel
theorem dX3_load_167 : decode cX3_load 167 = .ok (.aload_n 1, 1) := by decide +kernel
theorem dX3_load_168 : decode cX3_load 168 = .ok (.getfield 146, 3) := by decide +kernel
theorem dX3_load_171 : decode cX3_load 171 = .ok (.ireturn, 1) := by decide +kernel
theorem dX3_load_18 : decode cX3_load 18 = .ok (.if_icmp .gt 149, 3) := by decide +kernel
theorem dX3_load_2 : decode cX3_load 2 = .ok (.getfield 69, 3) := by decide +kernel
theorem dX3_load_21 : decode cX3_load 21 = .ok (.aload_n 1, 1) := by decide +kernel
theorem dX3_load_22 : decode cX3_load 22 = .ok (.invokevirtual 36, 3) := by decide +kernel
theorem dX3_load_25 : decode cX3_load 25 = .ok (.ifCond .eq 142, 3) := by decide +kernel
theorem dX3_load_28 : decode cX3_load 28 = .ok (.aload_n 1, 1) := by decide +kernel
theorem dX3_load_29 : decode cX3_load 29 = .ok (.iconst 5, 1) := by decide +kernel
theorem dX3_load_30 : decode cX3_load 30 = .ok (.iconst 1, 1) := by decide +kernel
theorem dX3_load_31 : decode cX3_load 31 = .ok (.invokevirtual 115, 3) := by decide +kernel
theorem dX3_load_34 : decode cX3_load 34 = .ok (.l2i, 1) := by decide +kernel
theorem dX3_load_35 : decode cX3_load 35 = .ok (.istore 4, 2) := by decide +kernel
theorem dX3_load_37 : decode cX3_load 37 = .ok (.aload_n 1, 1) := by decide +kernel
theorem dX3_load_38 : decode cX3_load 38 = .ok (.bipush 6, 2) := by decide +kernel
theorem dX3_load_40 : decode cX3_load 40 = .ok (.iconst 4, 1) := by decide +kernel
theorem dX3_load_41 : decode cX3_load 41 = .ok (.invokevirtual 115, 3) := by decide +kernel
theorem dX3_load_44 : decode cX3_load 44 = .ok (.l2i, 1) := by decide +kernel
theorem dX3_load_45 : decode cX3_load 45 = .ok (.istore 5, 2) := by decide +kernel
theorem dX3_load_47 : decode cX3_load 47 = .ok (.iload 4, 2) := by decide +kernel
theorem dX3_load_49 : decode cX3_load 49 = .ok (.ifCond .lt 30, 3) := by decide +kernel
theorem dX3_load_5 : decode cX3_load 5 = .ok (.aload_n 0, 1) := by decide +kernel
theorem dX3_load_52 : decode cX3_load 52 = .ok (.iload 4, 2) := by decide +kernel
theorem dX3_load_54 : decode cX3_load 54 = .ok (.bipush 7, 2) := by decide +kernel
theorem dX3_load_56 : decode cX3_load 56 = .ok (.if_icmp .gt 23, 3) := by decide +kernel
theorem dX3_load_59 : decode cX3_load 59 = .ok (.iload 5, 2) := by decide +kernel
theorem dX3_load_6 : decode cX3_load 6 = .ok (.getfield 79, 3) := by decide +kernel
theorem dX3_load_61 : decode cX3_load 61 = .ok (.ifCond .lt 18, 3) := by decide +kernel
theorem dX3_load_64 : decode cX3_load 64 = .ok (.iload 5, 2) := by decide +kernel
theorem dX3_load_66 : decode cX3_load 66 = .ok (.iload 4, 2) := by decide +kernel
theorem dX3_load_68 : decode cX3_load 68 = .ok (.iconst 1, 1) := by decide +kernel
theorem dX3_load_69 : decode cX3_load 69 = .ok (.invokestatic 140, 3) := by decide +kernel
theorem dX3_load_72 : decode cX3_load 72 = .ok (.iadd, 1) := by decide +kernel
theorem dX3_load_73 : decode cX3_load 73 = .ok (.sipush 4000, 3) := by decide +kernel
theorem dX3_load_76 : decode cX3_load 76 = .ok (.if_icmp .le 8, 3) := by decide +kernel
theorem dX3_load_79 : decode cX3_load 79 = .ok (.aload_n 1, 1) := by decide +kernel
theorem dX3_load_80 : decode cX3_load 80 = .ok (.getfield 146, 3) := by decide +kernel
theorem dX3_load_83 : decode cX3_load 83 = .ok (.ireturn, 1) := by decide +kernel
theorem dX3_load_84 : decode cX3_load 84 = .ok (.iload 4, 2) := by decide +kernel
theorem dX3_load_86 : decode cX3_load 86 = .ok (.ifCond .ne 11, 3) := by decide +kernel
theorem dX3_load_89 : decode cX3_load 89 = .ok (.aload_n 0, 1) := by decide +kernel
theorem dX3_load_9 : decode cX3_load 9 = .ok (.invokevirtual 136, 3) := by decide +kernel
theorem dX3_load_90 : decode cX3_load 90 = .ok (.iload 5, 2) := by decide +kernel
theorem dX3_load_92 : decode cX3_load 92 = .ok (.putfield 149, 3) := by decide +kernel
theorem dX3_load_95 : decode cX3_load 95 = .ok (.iconst 0, 1) := by decide +kernel
theorem dX3_load_96 : decode cX3_load 96 = .ok (.ireturn, 1) := by decide +kernel
theorem dX3_load_97 : decode cX3_load 97 = .ok (.iconst 0, 1) := by decide +kernel
theorem dX3_load_98 : decode cX3_load 98 = .ok (.istore 6, 2) := by decide +kernel
set_option maxHeartbeats 4000000 in
set_option maxRecDepth 100000 in
theorem T_X3_load (l : Launch) (D : va_G) (K : Nat → ClassId) (Z Y : Nat → Nat) (ad : Nat → Nat) (d : dSt) (t : tSt) (hok : okX t)  : tMet l yX3_load cX3_load 9 (some .int) (rmD 7 0 0) D K Z Y [.ref (ad 7), .ref (ad 2), .ref (ad 10)] ((WX d) K ad t) (QI D K (fun (r : Int32) (u : tSt) => okX u ∧ frA [(2, 2), (2, 3), (2, 4), (2, 5), (2, 6), (2, 7), (7, 9)] [] [9, 10] [] t u ∧ (-2147483648 : Int) ≤ r.toInt ∧ r.toInt ≤ 2147483647) (fun (u : tSt) => (WX d) K ad u)) 0 0 := by
  refine t_met RX3 ⟨rfl, by decide +kernel⟩ (Nat.le_of_ble_eq_true rfl) ?_
  intro p e s m below meth c A ls C hE hZ hr hlocks hA hP hD hS hl
  have hl : lv_has ls 9 [(0, .ref (ad 7)), (1, .ref (ad 2)), (2, .ref (ad 10))] := hl
  have hokt := hok
  have hfr : frA [(2, 2), (2, 3), (2, 4), (2, 5), (2, 6), (2, 7), (7, 9)] [] [9, 10] [] t t := frA_rf
  have h_1 : (0 : Int) ≤ (t.1 2 2).toInt ∧ (t.1 2 2).toInt ≤ 1280 := hok.1 2 2
  have h_2 : (0 : Int) ≤ (t.1 2 3).toInt ∧ (t.1 2 3).toInt ≤ 80 := hok.1 2 3
  have h_3 : (0 : Int) ≤ (t.1 2 4).toInt ∧ (t.1 2 4).toInt ≤ 1281 := hok.1 2 4
  have h_4 : (0 : Int) ≤ (t.1 2 7).toInt ∧ (t.1 2 7).toInt ≤ 1280 := hok.1 2 7
  have L_14 : ∀ (fuel_14 : Nat) (t1 : tSt) (w14_3 : Int32) (H : Heap) (locs : List Loc) (ls : Array Slot), okX t1 → frA [(2, 2), (2, 3), (2, 4), (2, 5), (2, 6), (2, 7), (7, 9)] [] [9, 10] [] t t1 → (0 : Int) ≤ w14_3.toInt ∧ w14_3.toInt ≤ 32399 → (32399 : Int) - w14_3.toInt < (fuel_14 : Int) → va_P D vwCl ((WX d) K ad t1) H → va_D A ((WX d) K ad t1) → va_S A s.heap H locs → lv_has ls 9 [(0, .ref (ad 7)), (1, .ref (ad 2)), (2, .ref (ad 10)), (3, .int w14_3)] → W p l e (rmD 7 0 0) s m [.ref (ad 7), .ref (ad 2), .ref (ad 10)].toArray below meth c H locs 0 0 (MQ below (QI D K (fun (r : Int32) (u : tSt) => okX u ∧ frA [(2, 2), (2, 3), (2, 4), (2, 5), (2, 6), (2, 7), (7, 9)] [] [9, 10] [] t u ∧ (-2147483648 : Int) ≤ r.toInt ∧ r.toInt ≤ 2147483647) (fun (u : tSt) => (WX d) K ad u) A) [.ref (ad 7), .ref (ad 2), .ref (ad 10)].toArray s 0 0 A) (F0 m 14 ls []) := by
    intro fuel_14
    induction fuel_14 with
    | zero =>
      intro t1 w14_3 H locs ls hok hfr hw14_3 hm14_14 hP hD hS hl
      have h_5 : (0 : Int) ≤ (t1.1 2 2).toInt ∧ (t1.1 2 2).toInt ≤ 1280 := hok.1 2 2
      have h_6 : (0 : Int) ≤ (t1.1 2 3).toInt ∧ (t1.1 2 3).toInt ≤ 80 := hok.1 2 3
      have h_7 : (0 : Int) ≤ (t1.1 2 4).toInt ∧ (t1.1 2 4).toInt ≤ 1281 := hok.1 2 4
      have h_8 : (0 : Int) ≤ (t1.1 2 7).toInt ∧ (t1.1 2 7).toInt ≤ 1280 := hok.1 2 7
      exact absurd hm14_14 (by omega)
    | succ fuel_14 ih_14 =>
      intro t1 w14_3 H locs ls hok hfr hw14_3 hm14_14 hP hD hS hl
      have hm14_14 : (32399 : Int) - w14_3.toInt < (fuel_14 : Int) + 1 := by omega
      have h_9 : (0 : Int) ≤ (t1.1 2 2).toInt ∧ (t1.1 2 2).toInt ≤ 1280 := hok.1 2 2
      have h_10 : (0 : Int) ≤ (t1.1 2 3).toInt ∧ (t1.1 2 3).toInt ≤ 80 := hok.1 2 3
      have h_11 : (0 : Int) ≤ (t1.1 2 4).toInt ∧ (t1.1 2 4).toInt ≤ 1281 := hok.1 2 4
      have h_12 : (0 : Int) ≤ (t1.1 2 7).toInt ∧ (t1.1 2 7).toInt ≤ 1280 := hok.1 2 7
      have L_100 : ∀ (fuel_100 : Nat) (t1 : tSt) (w100_3 : Int32) (w100_4 : Int32) (w100_5 : Int32) (w100_6 : Int32) (H : Heap) (locs : List Loc) (ls : Array Slot), okX t1 → frA [(2, 2), (2, 3), (2, 4), (2, 5), (2, 6), (2, 7), (7, 9)] [] [9, 10] [] t t1 → (0 : Int) ≤ w100_3.toInt ∧ w100_3.toInt ≤ 8192 → (1 : Int) ≤ w100_4.toInt ∧ w100_4.toInt ≤ 7 → (0 : Int) ≤ w100_5.toInt ∧ w100_5.toInt ≤ 2147483647 → (0 : Int) ≤ w100_6.toInt ∧ w100_6.toInt ≤ 7 → (0 ≤ w100_5.toInt) → (w100_5.toInt ≤ 3999) → (0 ≤ w100_6.toInt) → (w100_4.toInt ≤ 7) → (w100_6.toInt ≤ w100_4.toInt) → (32399 : Int) - w100_3.toInt < (fuel_14 : Int) + 1 → (7 : Int) - w100_6.toInt < (fuel_100 : Int) → va_P D vwCl ((WX d) K ad t1) H → va_D A ((WX d) K ad t1) → va_S A s.heap H locs → lv_has ls 9 [(0, .ref (ad 7)), (1, .ref (ad 2)), (2, .ref (ad 10)), (3, .int w100_3), (4, .int w100_4), (5, .int w100_5), (6, .int w100_6)] → W p l e (rmD 7 0 0) s m [.ref (ad 7), .ref (ad 2), .ref (ad 10)].toArray below meth c H locs 0 0 (MQ below (QI D K (fun (r : Int32) (u : tSt) => okX u ∧ frA [(2, 2), (2, 3), (2, 4), (2, 5), (2, 6), (2, 7), (7, 9)] [] [9, 10] [] t u ∧ (-2147483648 : Int) ≤ r.toInt ∧ r.toInt ≤ 2147483647) (fun (u : tSt) => (WX d) K ad u) A) [.ref (ad 7), .ref (ad 2), .ref (ad 10)].toArray s 0 0 A) (F0 m 100 ls []) := by
        intro fuel_100
        induction fuel_100 with
        | zero =>
          intro t1 w100_3 w100_4 w100_5 w100_6 H locs ls hok hfr hw100_3 hw100_4 hw100_5 hw100_6 hi100_0 hi100_1 hi100_2 hi100_3 hi100_4 hm100_14 hm100_100 hP hD hS hl
          have h_13 : (0 : Int) ≤ (t1.1 2 2).toInt ∧ (t1.1 2 2).toInt ≤ 1280 := hok.1 2 2
          have h_14 : (0 : Int) ≤ (t1.1 2 3).toInt ∧ (t1.1 2 3).toInt ≤ 80 := hok.1 2 3
          have h_15 : (0 : Int) ≤ (t1.1 2 4).toInt ∧ (t1.1 2 4).toInt ≤ 1281 := hok.1 2 4
          have h_16 : (0 : Int) ≤ (t1.1 2 7).toInt ∧ (t1.1 2 7).toInt ≤ 1280 := hok.1 2 7
          exact absurd hm100_100 (by omega)
        | succ fuel_100 ih_100 =>
          intro t1 w100_3 w100_4 w100_5 w100_6 H locs ls hok hfr hw100_3 hw100_4 hw100_5 hw100_6 hi100_0 hi100_1 hi100_2 hi100_3 hi100_4 hm100_14 hm100_100 hP hD hS hl
          have hm100_100 : (7 : Int) - w100_6.toInt < (fuel_100 : Int) + 1 := by omega
          have h_17 : (0 : Int) ≤ (t1.1 2 2).toInt ∧ (t1.1 2 2).toInt ≤ 1280 := hok.1 2 2
          have h_18 : (0 : Int) ≤ (t1.1 2 3).toInt ∧ (t1.1 2 3).toInt ≤ 80 := hok.1 2 3
          have h_19 : (0 : Int) ≤ (t1.1 2 4).toInt ∧ (t1.1 2 4).toInt ≤ 1281 := hok.1 2 4
          have h_20 : (0 : Int) ≤ (t1.1 2 7).toInt ∧ (t1.1 2 7).toInt ≤ 1280 := hok.1 2 7
          have L_149 : ∀ (t1 : tSt) (w149_3 : Int32) (w149_4 : Int32) (w149_5 : Int32) (w149_6 : Int32) (w149_7 : Int32) (w149_8 : Int32) (H : Heap) (locs : List Loc) (ls : Array Slot), okX t1 → frA [(2, 2), (2, 3), (2, 4), (2, 5), (2, 6), (2, 7), (7, 9)] [] [9, 10] [] t t1 → (0 : Int) ≤ w149_3.toInt ∧ w149_3.toInt ≤ 8192 → (1 : Int) ≤ w149_4.toInt ∧ w149_4.toInt ≤ 7 → (0 : Int) ≤ w149_5.toInt ∧ w149_5.toInt ≤ 2147483647 → (0 : Int) ≤ w149_6.toInt ∧ w149_6.toInt ≤ 6 → (0 : Int) ≤ w149_7.toInt ∧ w149_7.toInt ≤ 2147483647 → (-2147483648 : Int) ≤ w149_8.toInt ∧ w149_8.toInt ≤ 7998 → (0 ≤ w149_5.toInt) → (0 ≤ w149_6.toInt) → (w149_6.toInt < w149_4.toInt) → (w149_4.toInt ≤ 7) → (w149_5.toInt ≤ 3999) → (w149_8.toInt = 3999 + w149_5.toInt + w149_6.toInt) → (32399 : Int) - w149_3.toInt < (fuel_14 : Int) + 1 → (7 : Int) - w149_6.toInt < (fuel_100 : Int) + 1 → va_P D vwCl ((WX d) K ad t1) H → va_D A ((WX d) K ad t1) → va_S A s.heap H locs → lv_has ls 9 [(0, .ref (ad 7)), (1, .ref (ad 2)), (2, .ref (ad 10)), (3, .int w149_3), (4, .int w149_4), (5, .int w149_5), (6, .int w149_6), (7, .int w149_7), (8, .int w149_8)] → W p l e (rmD 7 0 0) s m [.ref (ad 7), .ref (ad 2), .ref (ad 10)].toArray below meth c H locs 0 0 (MQ below (QI D K (fun (r : Int32) (u : tSt) => okX u ∧ frA [(2, 2), (2, 3), (2, 4), (2, 5), (2, 6), (2, 7), (7, 9)] [] [9, 10] [] t u ∧ (-2147483648 : Int) ≤ r.toInt ∧ r.toInt ≤ 2147483647) (fun (u : tSt) => (WX d) K ad u) A) [.ref (ad 7), .ref (ad 2), .ref (ad 10)].toArray s 0 0 A) (F0 m 149 ls []) := by
            intro t1 w149_3 w149_4 w149_5 w149_6 w149_7 w149_8 H locs ls hok hfr hw149_3 hw149_4 hw149_5 hw149_6 hw149_7 hw149_8 hi149_0 hi149_1 hi149_2 hi149_3 hi149_4 hi149_5 hm149_14 hm149_100 hP hD hS hl
            have h_21 : (0 : Int) ≤ (t1.1 2 2).toInt ∧ (t1.1 2 2).toInt ≤ 1280 := hok.1 2 2
            have h_22 : (0 : Int) ≤ (t1.1 2 3).toInt ∧ (t1.1 2 3).toInt ≤ 80 := hok.1 2 3
            have h_23 : (0 : Int) ≤ (t1.1 2 4).toInt ∧ (t1.1 2 4).toInt ≤ 1281 := hok.1 2 4
            have h_24 : (0 : Int) ≤ (t1.1 2 7).toInt ∧ (t1.1 2 7).toInt ≤ 1280 := hok.1 2 7
            refine lv_aload_n C.1 C.2.1 dX3_load_149 rfl (lv_at hl 2 rfl) ?_
            refine lv_iload C.1 C.2.1 dX3_load_150 (lv_at hl 8 rfl) ?_
            refine lv_iload C.1 C.2.1 dX3_load_152 (lv_at hl 7 rfl) ?_
            refine k_ist (ws' := (WX d) K ad (uB t1 10 (w149_8 : Int32).toNatClampNeg w149_7)) (x' := w149_7) C hP hD hS 10 rfl (vp_in_iff.mpr ⟨by omega, by omega⟩) rfl rfl rfl dX3_load_154 (fun H locs hP hD hS => ?_)
            have hok : okX (uB t1 10 (w149_8 : Int32).toNatClampNeg w149_7) := ⟨hok.1, okB_B hok.2.1 10 _ w149_7 (show (-2147483648 : Int) ≤ (w149_7 : Int32).toInt ∧ (w149_7 : Int32).toInt ≤ 2147483647 from (i_rng _)), trivial⟩
            have hfr : frA [(2, 2), (2, 3), (2, 4), (2, 5), (2, 6), (2, 7), (7, 9)] [] [9, 10] [] t (uB t1 10 (w149_8 : Int32).toNatClampNeg w149_7) := frA_B hfr 10 _ _ rfl
            obtain ⟨v_25, e_26⟩ : ∃ z, z = w149_6 + 1 := ⟨_, rfl⟩
            have h_27 : v_25.toInt = w149_6.toInt + 1 := by rw [e_26]; exact ti_iadd (by show (_ : Int) ≤ w149_6.toInt + 1; omega) (by show w149_6.toInt + 1 < (_ : Int); omega)
            refine lv_iinc (v := v_25) (lv' := [(6, .int v_25), (0, .ref (ad 7)), (1, .ref (ad 2)), (2, .ref (ad 10)), (3, .int w149_3), (4, .int w149_4), (5, .int w149_5), (7, .int w149_7), (8, .int w149_8)]) C.1 C.2.1 dX3_load_155 hl (k := 6) rfl e_26.symm (by decide) rfl (fun ls hl => ?_)
            have hl : lv_has ls 9 [(0, .ref (ad 7)), (1, .ref (ad 2)), (2, .ref (ad 10)), (3, .int w149_3), (4, .int w149_4), (5, .int w149_5), (6, .int v_25), (7, .int w149_7), (8, .int w149_8)] := lv_sub hl [1, 2, 3, 4, 5, 6, 0, 7, 8] rfl
            refine lv_goto (tgt := 100) C.1 C.2.1 dX3_load_158 (by decide) ?_
            exact ih_100 (uB t1 10 (w149_8 : Int32).toNatClampNeg w149_7) w149_3 w149_4 w149_5 v_25 _ _ _ hok hfr ⟨by omega, by omega⟩ ⟨by omega, by omega⟩ ⟨by omega, (i_rng _).2⟩ ⟨by omega, by omega⟩ (show 0 ≤ w149_5.toInt from by omega) (show w149_5.toInt ≤ 3999 from by omega) (show 0 ≤ v_25.toInt from by omega) (show w149_4.toInt ≤ 7 from by omega) (show v_25.toInt ≤ w149_4.toInt from by omega) (show (32399 : Int) - w149_3.toInt < (fuel_14 : Int) + 1 from by omega) (show (7 : Int) - v_25.toInt < (fuel_100 : Int) from by omega) hP hD hS (lv_sub hl [0, 1, 2, 3, 4, 5, 6] rfl)
          refine lv_iload C.1 C.2.1 dX3_load_100 (lv_at hl 6 rfl) ?_
          refine lv_iload C.1 C.2.1 dX3_load_102 (lv_at hl 4 rfl) ?_
          refine lv_icmp_ge (tgt := 161) C.1 C.2.1 dX3_load_104 (by decide) (fun c_28 => ?_) (fun c_28 => ?_)
          · replace c_28 : w100_4.toInt ≤ w100_6.toInt := i_le c_28
            obtain ⟨v_29, e_30⟩ : ∃ z, z = w100_3 + 1 := ⟨_, rfl⟩
            have h_31 : v_29.toInt = w100_3.toInt + 1 := by rw [e_30]; exact ti_iadd (by show (_ : Int) ≤ w100_3.toInt + 1; omega) (by show w100_3.toInt + 1 < (_ : Int); omega)
            refine lv_iinc (v := v_29) (lv' := [(3, .int v_29), (0, .ref (ad 7)), (1, .ref (ad 2)), (2, .ref (ad 10)), (4, .int w100_4), (5, .int w100_5), (6, .int w100_6)]) C.1 C.2.1 dX3_load_161 hl (k := 3) rfl e_30.symm (by decide) rfl (fun ls hl => ?_)
            have hl : lv_has ls 9 [(0, .ref (ad 7)), (1, .ref (ad 2)), (2, .ref (ad 10)), (3, .int v_29), (4, .int w100_4), (5, .int w100_5), (6, .int w100_6)] := lv_sub hl [1, 2, 3, 0, 4, 5, 6] rfl
            refine lv_goto (tgt := 14) C.1 C.2.1 dX3_load_164 (by decide) ?_
            exact ih_14 t1 v_29 _ _ _ hok hfr ⟨by omega, by omega⟩ (show (32399 : Int) - v_29.toInt < (fuel_14 : Int) from by omega) hP hD hS (lv_sub hl [0, 1, 2, 3] rfl)
          · replace c_28 : w100_6.toInt < w100_4.toInt := i_nle c_28
            refine lv_aload_n C.1 C.2.1 dX3_load_107 rfl (lv_at hl 1 rfl) ?_
            refine lv_bipush (v := 10) C.1 C.2.1 dX3_load_108 (by decide) ?_
            refine lv_bipush (v := 10) C.1 C.2.1 dX3_load_110 (by decide) ?_
            refine lv_iload C.1 C.2.1 dX3_load_112 (lv_at hl 6 rfl) ?_
            obtain ⟨v_32, e_33⟩ : ∃ z, z = (10 : Int32) * (w100_6 : Int32) := ⟨_, rfl⟩
            have h_34 : v_32.toInt = 10 * w100_6.toInt := by rw [e_33]; exact ti_mull (k := 10) (by decide) (by omega) (by omega)
            refine k_imul (v := v_32) C e_33.symm dX3_load_114 ?_
            obtain ⟨v_35, e_36⟩ : ∃ z, z = (10 : Int32) + (v_32 : Int32) := ⟨_, rfl⟩
            have h_37 : v_35.toInt = 10 + v_32.toInt := by rw [e_36]; exact ti_iadd (by show (_ : Int) ≤ 10 + v_32.toInt; omega) (by show 10 + v_32.toInt < (_ : Int); omega)
            refine k_iadd (v := v_35) C e_36.symm dX3_load_115 ?_
            refine g_Si (As := [.ref (ad 2), .int v_35]) (rest := []) C hP hD hS hA (T_X3_wordOn l D K Z Y ad d t1 hok (v_35) (show (10 : Int) ≤ (v_35 : Int32).toInt ∧ (v_35 : Int32).toInt ≤ 72 from ⟨by omega, by omega⟩)) hE hZ (uwS m_75_17 m_75_18 m_2_17 m_75_19) (hdS 2 (by decide +kernel) rfl) ⟨Nat.le_of_ble_eq_true rfl, Nat.le_of_ble_eq_true rfl⟩ rfl rfl rfl hl.1 (Nat.le_of_ble_eq_true rfl) dX3_load_116 ⟨Nat.le_of_ble_eq_true rfl, Nat.le_of_ble_eq_true rfl⟩ (fun r_39 t_38 H locs hw hP hD hS => ?_)
            obtain ⟨h_41, h_42⟩ := hw
            refine lv_istore (lv' := [(7, .int r_39), (0, .ref (ad 7)), (1, .ref (ad 2)), (2, .ref (ad 10)), (3, .int w100_3), (4, .int w100_4), (5, .int w100_5), (6, .int w100_6)]) C.1 C.2.1 dX3_load_119 hl (by decide) rfl (fun ls hl => ?_)
            have hl : lv_has ls 9 [(0, .ref (ad 7)), (1, .ref (ad 2)), (2, .ref (ad 10)), (3, .int w100_3), (4, .int w100_4), (5, .int w100_5), (6, .int w100_6), (7, .int r_39)] := lv_sub hl [1, 2, 3, 4, 5, 6, 7, 0] rfl
            refine lv_sipush (v := 3999) C.1 C.2.1 dX3_load_121 (by decide) ?_
            refine lv_iload C.1 C.2.1 dX3_load_124 (lv_at hl 5 rfl) ?_
            obtain ⟨v_43, e_44⟩ : ∃ z, z = (3999 : Int32) + (w100_5 : Int32) := ⟨_, rfl⟩
            have h_46 := i_rng w100_5
            have h_45 : v_43.toInt = 3999 + w100_5.toInt := by rw [e_44]; exact ti_iadd (by show (_ : Int) ≤ 3999 + w100_5.toInt; omega) (by show 3999 + w100_5.toInt < (_ : Int); omega)
            refine k_iadd (v := v_43) C e_44.symm dX3_load_126 ?_
            refine lv_iload C.1 C.2.1 dX3_load_127 (lv_at hl 6 rfl) ?_
            obtain ⟨v_47, e_48⟩ : ∃ z, z = (v_43 : Int32) + (w100_6 : Int32) := ⟨_, rfl⟩
            have h_49 : v_47.toInt = v_43.toInt + w100_6.toInt := by rw [e_48]; exact ti_iadd (by show (_ : Int) ≤ v_43.toInt + w100_6.toInt; omega) (by show v_43.toInt + w100_6.toInt < (_ : Int); omega)
            refine k_iadd (v := v_47) C e_48.symm dX3_load_129 ?_
            refine lv_istore (lv' := [(8, .int v_47), (0, .ref (ad 7)), (1, .ref (ad 2)), (2, .ref (ad 10)), (3, .int w100_3), (4, .int w100_4), (5, .int w100_5), (6, .int w100_6), (7, .int r_39)]) C.1 C.2.1 dX3_load_130 hl (by decide) rfl (fun ls hl => ?_)
            have hl : lv_has ls 9 [(0, .ref (ad 7)), (1, .ref (ad 2)), (2, .ref (ad 10)), (3, .int w100_3), (4, .int w100_4), (5, .int w100_5), (6, .int w100_6), (7, .int r_39), (8, .int v_47)] := lv_sub hl [1, 2, 3, 4, 5, 6, 7, 8, 0] rfl
            refine lv_iload C.1 C.2.1 dX3_load_132 (lv_at hl 7 rfl) ?_
            refine lv_if_lt (tgt := 144) C.1 C.2.1 dX3_load_134 (by decide) (fun c_50 => ?_) (fun c_50 => ?_)
            · replace c_50 : r_39.toInt < 0 := i_lt c_50
              refine lv_aload_n C.1 C.2.1 dX3_load_144 rfl (lv_at hl 1 rfl) ?_
              refine k_get (v := .int (t1.1 2 5)) C hP 2 rfl rfl inlX9 5 (by decide) m_75_14 rfl dX3_load_145 ?_
              exact g_iret C hr hlocks hP hD hS rfl t1 rfl ⟨hok, hfr, (i_rng _).1, (i_rng _).2⟩ (Nat.le_of_ble_eq_true rfl) (Nat.le_of_ble_eq_true rfl) dX3_load_148
            · replace c_50 : 0 ≤ r_39.toInt := i_nlt c_50
              refine lv_iload C.1 C.2.1 dX3_load_137 (lv_at hl 8 rfl) ?_
              refine lv_aload_n C.1 C.2.1 dX3_load_139 rfl (lv_at hl 2 rfl) ?_
              refine k_len (v := 7999) C hP 10 0 rfl rfl rfl dX3_load_140 ?_
              refine lv_icmp_lt (tgt := 149) C.1 C.2.1 dX3_load_141 (by decide) (fun c_51 => ?_) (fun c_51 => ?_)
              · replace c_51 : v_47.toInt < 7999 := i_lt c_51
                exact L_149 t1 w100_3 w100_4 w100_5 w100_6 r_39 v_47 _ _ _ hok hfr ⟨by omega, by omega⟩ ⟨by omega, by omega⟩ ⟨by omega, (i_rng _).2⟩ ⟨by omega, by omega⟩ ⟨by omega, (i_rng _).2⟩ ⟨(i_rng _).1, by omega⟩ (show 0 ≤ w100_5.toInt from by omega) (show 0 ≤ w100_6.toInt from by omega) (show w100_6.toInt < w100_4.toInt from by omega) (show w100_4.toInt ≤ 7 from by omega) (show w100_5.toInt ≤ 3999 from by omega) (show v_47.toInt = 3999 + w100_5.toInt + w100_6.toInt from by omega) (show (32399 : Int) - w100_3.toInt < (fuel_14 : Int) + 1 from by omega) (show (7 : Int) - w100_6.toInt < (fuel_100 : Int) + 1 from by omega) hP hD hS (lv_sub hl [0, 1, 2, 3, 4, 5, 6, 7, 8] rfl)
              · replace c_51 : 7999 ≤ v_47.toInt := i_nlt c_51
                refine lv_aload_n C.1 C.2.1 dX3_load_144 rfl (lv_at hl 1 rfl) ?_
                refine k_get (v := .int (t1.1 2 5)) C hP 2 rfl rfl inlX9 5 (by decide) m_75_14 rfl dX3_load_145 ?_
                exact g_iret C hr hlocks hP hD hS rfl t1 rfl ⟨hok, hfr, (i_rng _).1, (i_rng _).2⟩ (Nat.le_of_ble_eq_true rfl) (Nat.le_of_ble_eq_true rfl) dX3_load_148
      refine lv_iload_n C.1 C.2.1 dX3_load_14 rfl (lv_at hl 3 rfl) ?_
      refine lv_sipush (v := 8192) C.1 C.2.1 dX3_load_15 (by decide) ?_
      refine lv_icmp_gt (tgt := 167) C.1 C.2.1 dX3_load_18 (by decide) (fun c_52 => ?_) (fun c_52 => ?_)
      · replace c_52 : 8192 < w14_3.toInt := i_lt c_52
        refine lv_aload_n C.1 C.2.1 dX3_load_167 rfl (lv_at hl 1 rfl) ?_
        refine k_get (v := .int (t1.1 2 5)) C hP 2 rfl rfl inlX9 5 (by decide) m_75_14 rfl dX3_load_168 ?_
        exact g_iret C hr hlocks hP hD hS rfl t1 rfl ⟨hok, hfr, (i_rng _).1, (i_rng _).2⟩ (Nat.le_of_ble_eq_true rfl) (Nat.le_of_ble_eq_true rfl) dX3_load_171
      · replace c_52 : w14_3.toInt ≤ 8192 := i_nlt c_52
        refine lv_aload_n C.1 C.2.1 dX3_load_21 rfl (lv_at hl 1 rfl) ?_
        refine g_Vi (As := []) (rest := []) C hP hD hS hA (T_X9_advance_1 l D K Z Y ad d t1 hok ) hE hZ (uwV m_71_18 m_13_19 m_13_20 m_1_17 m_13_21) (hdV 0 (by decide +kernel) rfl) ⟨Nat.le_of_ble_eq_true rfl, Nat.le_of_ble_eq_true rfl⟩ rfl rfl (ci := 8) (q0 := 2) rfl rfl rfl hl.1 (Nat.le_of_ble_eq_true rfl) dX3_load_22 ⟨Nat.le_of_ble_eq_true rfl, Nat.le_of_ble_eq_true rfl⟩ (fun r_54 t_53 H locs hw hP hD hS => ?_)
        obtain ⟨hok, f_55, h_56, h_57, p_58, p_59⟩ := hw
        have hfr : frA [(2, 2), (2, 3), (2, 4), (2, 5), (2, 6), (2, 7), (7, 9)] [] [9, 10] [] t t_53 := frA_tr hfr f_55 rfl
        have h_60 : (t_53.1 2 7).toInt = (t1.1 2 7).toInt := ti_eq (f_55.1 2 7 rfl)
        have h_61 : (0 : Int) ≤ (t_53.1 2 2).toInt ∧ (t_53.1 2 2).toInt ≤ 1280 := hok.1 2 2
        have h_62 : (0 : Int) ≤ (t_53.1 2 3).toInt ∧ (t_53.1 2 3).toInt ≤ 80 := hok.1 2 3
        have h_63 : (0 : Int) ≤ (t_53.1 2 4).toInt ∧ (t_53.1 2 4).toInt ≤ 1281 := hok.1 2 4
        have h_64 : (0 : Int) ≤ (t_53.1 2 7).toInt ∧ (t_53.1 2 7).toInt ≤ 1280 := hok.1 2 7
        replace p_58 : r_54.toInt = 1 → (t_53.1 2 2).toInt + (t_53.1 2 3).toInt ≤ 1280 := p_58
        replace p_59 : r_54.toInt = 1 → (t1.1 2 4).toInt + (t_53.1 2 3).toInt + 1 ≤ (t_53.1 2 4).toInt ∧ (t_53.1 2 4).toInt ≤ (t1.1 2 7).toInt + 1 := p_59
        refine lv_if_eq (tgt := 167) C.1 C.2.1 dX3_load_25 (by decide) (fun c_65 => ?_) (fun c_65 => ?_)
        · replace c_65 : r_54.toInt = 0 := i_eq c_65
          refine lv_aload_n C.1 C.2.1 dX3_load_167 rfl (lv_at hl 1 rfl) ?_
          refine k_get (v := .int (t_53.1 2 5)) C hP 2 rfl rfl inlX9 5 (by decide) m_75_14 rfl dX3_load_168 ?_
          exact g_iret C hr hlocks hP hD hS rfl t_53 rfl ⟨hok, hfr, (i_rng _).1, (i_rng _).2⟩ (Nat.le_of_ble_eq_true rfl) (Nat.le_of_ble_eq_true rfl) dX3_load_171
        · replace c_65 : ¬ r_54.toInt = 0 := i_ne c_65
          refine lv_aload_n C.1 C.2.1 dX3_load_28 rfl (lv_at hl 1 rfl) ?_
          refine lv_iconst (v := 5) C.1 C.2.1 dX3_load_29 (by decide) ?_
          refine lv_iconst (v := 1) C.1 C.2.1 dX3_load_30 (by decide) ?_
          have h_66 : (1 : Int32).toInt = 1 := rfl
          refine g_Vl (As := [.int 5, .int 1]) (rest := []) C hP hD hS hA (T_X9_digits_1 l D K Z Y ad d t_53 hok 5 (show (5 : Int) ≤ (5 : Int32).toInt ∧ (5 : Int32).toInt ≤ 72 from ⟨by decide, by decide⟩) 1 (show (1 : Int) ≤ (1 : Int32).toInt ∧ (1 : Int32).toInt ≤ 9 from ⟨by decide, by decide⟩) (show 0 ≤ (1 : Int32).toInt from by omega)) hE hZ (uwV m_73_3 m_73_4 m_73_5 m_1_17 m_73_6) (hdV 2 (by decide +kernel) rfl) ⟨Nat.le_of_ble_eq_true rfl, Nat.le_of_ble_eq_true rfl⟩ rfl rfl (ci := 8) (q0 := 2) rfl rfl rfl hl.1 (Nat.le_of_ble_eq_true rfl) dX3_load_31 ⟨Nat.le_of_ble_eq_true rfl, Nat.le_of_ble_eq_true rfl⟩ (fun r_68 t_67 H locs hw hP hD hS => ?_)
          have p_70 := hw
          replace p_70 : (1 : Int32).toInt ≤ 4 → -1 ≤ r_68.toInt ∧ r_68.toInt ≤ 9999 := p_70
          obtain ⟨v_71, e_72⟩ : ∃ z, z = (r_68).toInt32 := ⟨_, rfl⟩
          have h_73 : -2147483648 ≤ r_68.toInt → r_68.toInt < 2147483648 → v_71.toInt = r_68.toInt := by rw [e_72]; exact fun h1 h2 => Jvm.Kit.i32_of_i64 h1 h2
          refine lv_l2i (v := v_71) C.1 C.2.1 dX3_load_34 e_72.symm ?_
          refine lv_istore (lv' := [(4, .int v_71), (0, .ref (ad 7)), (1, .ref (ad 2)), (2, .ref (ad 10)), (3, .int w14_3)]) C.1 C.2.1 dX3_load_35 hl (by decide) rfl (fun ls hl => ?_)
          have hl : lv_has ls 9 [(0, .ref (ad 7)), (1, .ref (ad 2)), (2, .ref (ad 10)), (3, .int w14_3), (4, .int v_71)] := lv_sub hl [1, 2, 3, 4, 0] rfl
          refine lv_aload_n C.1 C.2.1 dX3_load_37 rfl (lv_at hl 1 rfl) ?_
          refine lv_bipush (v := 6) C.1 C.2.1 dX3_load_38 (by decide) ?_
          refine lv_iconst (v := 4) C.1 C.2.1 dX3_load_40 (by decide) ?_
          have h_74 : (4 : Int32).toInt = 4 := rfl
          refine g_Vl (As := [.int 6, .int 4]) (rest := []) C hP hD hS hA (T_X9_digits_1 l D K Z Y ad d t_53 hok 6 (show (5 : Int) ≤ (6 : Int32).toInt ∧ (6 : Int32).toInt ≤ 72 from ⟨by decide, by decide⟩) 4 (show (1 : Int) ≤ (4 : Int32).toInt ∧ (4 : Int32).toInt ≤ 9 from ⟨by decide, by decide⟩) (show 0 ≤ (4 : Int32).toInt from by omega)) hE hZ (uwV m_73_3 m_73_4 m_73_5 m_1_17 m_73_6) (hdV 2 (by decide +kernel) rfl) ⟨Nat.le_of_ble_eq_true rfl, Nat.le_of_ble_eq_true rfl⟩ rfl rfl (ci := 8) (q0 := 2) rfl rfl rfl hl.1 (Nat.le_of_ble_eq_true rfl) dX3_load_41 ⟨Nat.le_of_ble_eq_true rfl, Nat.le_of_ble_eq_true rfl⟩ (fun r_76 t_75 H locs hw hP hD hS => ?_)
          have p_78 := hw
          replace p_78 : (4 : Int32).toInt ≤ 4 → -1 ≤ r_76.toInt ∧ r_76.toInt ≤ 9999 := p_78
          obtain ⟨v_79, e_80⟩ : ∃ z, z = (r_76).toInt32 := ⟨_, rfl⟩
          have h_81 : -2147483648 ≤ r_76.toInt → r_76.toInt < 2147483648 → v_79.toInt = r_76.toInt := by rw [e_80]; exact fun h1 h2 => Jvm.Kit.i32_of_i64 h1 h2
          refine lv_l2i (v := v_79) C.1 C.2.1 dX3_load_44 e_80.symm ?_
          refine lv_istore (lv' := [(5, .int v_79), (0, .ref (ad 7)), (1, .ref (ad 2)), (2, .ref (ad 10)), (3, .int w14_3), (4, .int v_71)]) C.1 C.2.1 dX3_load_45 hl (by decide) rfl (fun ls hl => ?_)
          have hl : lv_has ls 9 [(0, .ref (ad 7)), (1, .ref (ad 2)), (2, .ref (ad 10)), (3, .int w14_3), (4, .int v_71), (5, .int v_79)] := lv_sub hl [1, 2, 3, 4, 5, 0] rfl
          refine lv_iload C.1 C.2.1 dX3_load_47 (lv_at hl 4 rfl) ?_
          refine lv_if_lt (tgt := 79) C.1 C.2.1 dX3_load_49 (by decide) (fun c_82 => ?_) (fun c_82 => ?_)
          · replace c_82 : v_71.toInt < 0 := i_lt c_82
            refine lv_aload_n C.1 C.2.1 dX3_load_79 rfl (lv_at hl 1 rfl) ?_
            refine k_get (v := .int (t_53.1 2 5)) C hP 2 rfl rfl inlX9 5 (by decide) m_75_14 rfl dX3_load_80 ?_
            exact g_iret C hr hlocks hP hD hS rfl t_53 rfl ⟨hok, hfr, (i_rng _).1, (i_rng _).2⟩ (Nat.le_of_ble_eq_true rfl) (Nat.le_of_ble_eq_true rfl) dX3_load_83
          · replace c_82 : 0 ≤ v_71.toInt := i_nlt c_82
            refine lv_iload C.1 C.2.1 dX3_load_52 (lv_at hl 4 rfl) ?_
            refine lv_bipush (v := 7) C.1 C.2.1 dX3_load_54 (by decide) ?_
            refine lv_icmp_gt (tgt := 79) C.1 C.2.1 dX3_load_56 (by decide) (fun c_83 => ?_) (fun c_83 => ?_)
            · replace c_83 : 7 < v_71.toInt := i_lt c_83
              refine lv_aload_n C.1 C.2.1 dX3_load_79 rfl (lv_at hl 1 rfl) ?_
              refine k_get (v := .int (t_53.1 2 5)) C hP 2 rfl rfl inlX9 5 (by decide) m_75_14 rfl dX3_load_80 ?_
              exact g_iret C hr hlocks hP hD hS rfl t_53 rfl ⟨hok, hfr, (i_rng _).1, (i_rng _).2⟩ (Nat.le_of_ble_eq_true rfl) (Nat.le_of_ble_eq_true rfl) dX3_load_83
            · replace c_83 : v_71.toInt ≤ 7 := i_nlt c_83
              refine lv_iload C.1 C.2.1 dX3_load_59 (lv_at hl 5 rfl) ?_
              refine lv_if_lt (tgt := 79) C.1 C.2.1 dX3_load_61 (by decide) (fun c_84 => ?_) (fun c_84 => ?_)
              · replace c_84 : v_79.toInt < 0 := i_lt c_84
                refine lv_aload_n C.1 C.2.1 dX3_load_79 rfl (lv_at hl 1 rfl) ?_
                refine k_get (v := .int (t_53.1 2 5)) C hP 2 rfl rfl inlX9 5 (by decide) m_75_14 rfl dX3_load_80 ?_
                exact g_iret C hr hlocks hP hD hS rfl t_53 rfl ⟨hok, hfr, (i_rng _).1, (i_rng _).2⟩ (Nat.le_of_ble_eq_true rfl) (Nat.le_of_ble_eq_true rfl) dX3_load_83
              · replace c_84 : 0 ≤ v_79.toInt := i_nlt c_84
                refine lv_iload C.1 C.2.1 dX3_load_64 (lv_at hl 5 rfl) ?_
                refine lv_iload C.1 C.2.1 dX3_load_66 (lv_at hl 4 rfl) ?_
                refine lv_iconst (v := 1) C.1 C.2.1 dX3_load_68 (by decide) ?_
                obtain ⟨v_86, e_85⟩ : ∃ z, z = if (v_71 : Int32) < (1 : Int32) then (1 : Int32) else (v_71 : Int32) := ⟨_, rfl⟩
                have h_87 := mx_r e_85
                refine k_mmax (v := v_86) C hl.1 m_75_13 m_12_14 m_12_15 m_12_16 (Nat.le_of_ble_eq_true rfl) (Nat.le_of_ble_eq_true rfl) (Nat.le_of_ble_eq_true rfl) (Nat.le_of_ble_eq_true rfl) e_85.symm dX3_load_69 ?_
                obtain ⟨v_88, e_89⟩ : ∃ z, z = (v_79 : Int32) + (v_86 : Int32) := ⟨_, rfl⟩
                have h_91 := i_rng v_79
                have h_90 : v_88.toInt = v_79.toInt + v_86.toInt := by rw [e_89]; exact ti_iadd (by show (_ : Int) ≤ v_79.toInt + v_86.toInt; omega) (by show v_79.toInt + v_86.toInt < (_ : Int); omega)
                refine k_iadd (v := v_88) C e_89.symm dX3_load_72 ?_
                refine lv_sipush (v := 4000) C.1 C.2.1 dX3_load_73 (by decide) ?_
                refine lv_icmp_le (tgt := 84) C.1 C.2.1 dX3_load_76 (by decide) (fun c_92 => ?_) (fun c_92 => ?_)
                · replace c_92 : v_88.toInt ≤ 4000 := i_le c_92
                  refine lv_iload C.1 C.2.1 dX3_load_84 (lv_at hl 4 rfl) ?_
                  refine lv_if_ne (tgt := 97) C.1 C.2.1 dX3_load_86 (by decide) (fun c_93 => ?_) (fun c_93 => ?_)
                  · replace c_93 : ¬ v_71.toInt = 0 := i_ne c_93
                    refine lv_iconst (v := 0) C.1 C.2.1 dX3_load_97 (by decide) ?_
                    refine lv_istore (lv' := [(6, .int 0), (0, .ref (ad 7)), (1, .ref (ad 2)), (2, .ref (ad 10)), (3, .int w14_3), (4, .int v_71), (5, .int v_79)]) C.1 C.2.1 dX3_load_98 hl (by decide) rfl (fun ls hl => ?_)
                    have hl : lv_has ls 9 [(0, .ref (ad 7)), (1, .ref (ad 2)), (2, .ref (ad 10)), (3, .int w14_3), (4, .int v_71), (5, .int v_79), (6, .int 0)] := lv_sub hl [1, 2, 3, 4, 5, 6, 0] rfl
                    exact L_100 8 t_53 w14_3 v_71 v_79 0 _ _ _ hok hfr ⟨by omega, by omega⟩ ⟨by omega, by omega⟩ ⟨by omega, (i_rng _).2⟩ ⟨by decide, by decide⟩ (show 0 ≤ v_79.toInt from by omega) (show v_79.toInt ≤ 3999 from by omega) (show 0 ≤ 0 from by omega) (show v_71.toInt ≤ 7 from by omega) (show 0 ≤ v_71.toInt from by omega) (show (32399 : Int) - w14_3.toInt < (fuel_14 : Int) + 1 from by omega) (show (7 : Int) - 0 < ((8 : Nat) : Int) from by omega) hP hD hS (lv_sub hl [0, 1, 2, 3, 4, 5, 6] rfl)
                  · replace c_93 : v_71.toInt = 0 := i_eq c_93
                    refine lv_aload_n C.1 C.2.1 dX3_load_89 rfl (lv_at hl 0 rfl) ?_
                    refine lv_iload C.1 C.2.1 dX3_load_90 (lv_at hl 5 rfl) ?_
                    refine k_put (ws' := (WX d) K ad (uI t_53 7 9 v_79)) (v := .int v_79) C hP hD hS 7 rfl rfl inlX3 tyX3_ok nmX3 9 (by decide) m_75_15 rfl rfl rfl rfl rfl dX3_load_92 (fun H locs hP hD hS => ?_)
                    have hok : okX (uI t_53 7 9 v_79) := ⟨okI_I hok.1 7 9 v_79 (show (-1073741824 : Int) ≤ (v_79 : Int32).toInt ∧ (v_79 : Int32).toInt ≤ 2147483647 from ⟨by omega, (i_rng _).2⟩), hok.2.1, trivial⟩
                    have hfr : frA [(2, 2), (2, 3), (2, 4), (2, 5), (2, 6), (2, 7), (7, 9)] [] [9, 10] [] t (uI t_53 7 9 v_79) := frA_I hfr 7 9 _ rfl
                    refine lv_iconst (v := 0) C.1 C.2.1 dX3_load_95 (by decide) ?_
                    exact g_iret C hr hlocks hP hD hS rfl (uI t_53 7 9 v_79) rfl ⟨hok, hfr, (i_rng _).1, (i_rng _).2⟩ (Nat.le_of_ble_eq_true rfl) (Nat.le_of_ble_eq_true rfl) dX3_load_96
                · replace c_92 : 4000 < v_88.toInt := i_nle c_92
                  refine lv_aload_n C.1 C.2.1 dX3_load_79 rfl (lv_at hl 1 rfl) ?_
                  refine k_get (v := .int (t_53.1 2 5)) C hP 2 rfl rfl inlX9 5 (by decide) m_75_14 rfl dX3_load_80 ?_
                  exact g_iret C hr hlocks hP hD hS rfl t_53 rfl ⟨hok, hfr, (i_rng _).1, (i_rng _).2⟩ (Nat.le_of_ble_eq_true rfl) (Nat.le_of_ble_eq_true rfl) dX3_load_83
  refine lv_aload_n C.1 C.2.1 dX3_load_0 rfl (lv_at hl 1 rfl) ?_
  refine lv_aload_n C.1 C.2.1 dX3_load_1 rfl (lv_at hl 0 rfl) ?_
  have h_94 : (0 : Int) ≤ (t.1 7 5).toInt ∧ (t.1 7 5).toInt ≤ 1281 := hok.1 7 5
  refine k_get (v := .int (t.1 7 5)) C hP 7 rfl rfl inlX3 5 (by decide) m_73_16 rfl dX3_load_2 ?_
  refine lv_aload_n C.1 C.2.1 dX3_load_5 rfl (lv_at hl 0 rfl) ?_
  have h_95 : (0 : Int) ≤ (t.1 7 6).toInt ∧ (t.1 7 6).toInt ≤ 1280 := hok.1 7 6
  refine k_get (v := .int (t.1 7 6)) C hP 7 rfl rfl inlX3 6 (by decide) m_74_2 rfl dX3_load_6 ?_
  refine g_Vv (As := [.int (t.1 7 5), .int (t.1 7 6)]) (rest := []) C hP hD hS hA (T_X9_open_1 l D K Z Y ad d t hok ((t.1 7 5)) (show (0 : Int) ≤ ((t.1 7 5) : Int32).toInt ∧ ((t.1 7 5) : Int32).toInt ≤ 1281 from ⟨by omega, by omega⟩) ((t.1 7 6)) (show (0 : Int) ≤ ((t.1 7 6) : Int32).toInt ∧ ((t.1 7 6) : Int32).toInt ≤ 1280 from ⟨by omega, by omega⟩)) hE hZ (uwV m_75_16 m_12_10 m_12_11 m_1_17 m_12_12) (hdV 2 (by decide +kernel) rfl) ⟨Nat.le_of_ble_eq_true rfl, Nat.le_of_ble_eq_true rfl⟩ rfl rfl (ci := 8) (q0 := 2) rfl rfl rfl hl.1 (Nat.le_of_ble_eq_true rfl) dX3_load_9 ⟨Nat.le_of_ble_eq_true rfl, Nat.le_of_ble_eq_true rfl⟩ (fun t_96 H locs hw hP hD hS => ?_)
  obtain ⟨hok, f_98, p_99, p_100⟩ := hw
  have hfr : frA [(2, 2), (2, 3), (2, 4), (2, 5), (2, 6), (2, 7), (7, 9)] [] [9, 10] [] t t_96 := frA_tr hfr f_98 rfl
  have h_101 : (t_96.1 7 5).toInt = (t.1 7 5).toInt := ti_eq (f_98.1 7 5 rfl)
  have h_102 : (t_96.1 7 6).toInt = (t.1 7 6).toInt := ti_eq (f_98.1 7 6 rfl)
  have h_103 : (t_96.1 2 2).toInt = (t.1 2 2).toInt := ti_eq (f_98.1 2 2 rfl)
  have h_104 : (t_96.1 2 3).toInt = (t.1 2 3).toInt := ti_eq (f_98.1 2 3 rfl)
  have h_105 : (0 : Int) ≤ (t_96.1 2 2).toInt ∧ (t_96.1 2 2).toInt ≤ 1280 := hok.1 2 2
  have h_106 : (0 : Int) ≤ (t_96.1 2 3).toInt ∧ (t_96.1 2 3).toInt ≤ 80 := hok.1 2 3
  have h_107 : (0 : Int) ≤ (t_96.1 2 4).toInt ∧ (t_96.1 2 4).toInt ≤ 1281 := hok.1 2 4
  have h_108 : (0 : Int) ≤ (t_96.1 2 7).toInt ∧ (t_96.1 2 7).toInt ≤ 1280 := hok.1 2 7
  replace p_99 : (t_96.1 2 4).toInt = (t.1 7 5).toInt := p_99
  replace p_100 : (t_96.1 2 7).toInt = (t.1 7 6).toInt := p_100
  refine lv_iconst (v := 0) C.1 C.2.1 dX3_load_12 (by decide) ?_
  refine lv_istore_n (lv' := [(3, .int 0), (0, .ref (ad 7)), (1, .ref (ad 2)), (2, .ref (ad 10))]) C.1 C.2.1 dX3_load_13 rfl hl (by decide) rfl (fun ls hl => ?_)
  have hl : lv_has ls 9 [(0, .ref (ad 7)), (1, .ref (ad 2)), (2, .ref (ad 10)), (3, .int 0)] := lv_sub hl [1, 2, 3, 0] rfl
  exact L_14 32400 t_96 0 _ _ _ hok hfr ⟨by decide, by decide⟩ (show (32399 : Int) - 0 < ((32400 : Nat) : Int) from by omega) hP hD hS (lv_sub hl [0, 1, 2, 3] rfl)

theorem dX3_seek_0 : decode cX3_seek 0 = .ok (.iconst 0, 1) := by decide +kernel
theorem dX3_seek_1 : decode cX3_seek 1 = .ok (.istore_n 1, 1) := by decide +kernel
theorem dX3_seek_101 : decode cX3_seek 101 = .ok (.iconst 0, 1) := by decide +kernel
theorem dX3_seek_102 : decode cX3_seek 102 = .ok (.ireturn, 1) := by decide +kernel
theorem dX3_seek_11 : decode cX3_seek 11 = .ok (.aload_n 0, 1) := by decide +kernel
theorem dX3_seek_12 : decode cX3_seek 12 = .ok (.getfield 21, 3) := by decide +kernel
theorem dX3_seek_15 : decode cX3_seek 15 = .ok (.invokevirtual 36, 3) := by decide +kernel
theorem dX3_seek_18 : decode cX3_seek 18 = .ok (.ifCond .eq 83, 3) := by decide +kernel
theorem dX3_seek_2 : decode cX3_seek 2 = .ok (.iconst 0, 1) := by decide +kernel
theorem dX3_seek_21 : decode cX3_seek 21 = .ok (.aload_n 0, 1) := by decide +kernel
theorem dX3_seek_22 : decode cX3_seek 22 = .ok (.invokevirtual 42, 3) := by decide +kernel
theorem dX3_seek_25 : decode cX3_seek 25 = .ok (.ifCond .eq 8, 3) := by decide +kernel
theorem dX3_seek_28 : decode cX3_seek 28 = .ok (.iconst 1, 1) := by decide +kernel
theorem dX3_seek_29 : decode cX3_seek 29 = .ok (.istore_n 1, 1) := by decide +kernel
theorem dX3_seek_3 : decode cX3_seek 3 = .ok (.istore_n 2, 1) := by decide +kernel
theorem dX3_seek_30 : decode cX3_seek 30 = .ok (.goto 65, 3) := by decide +kernel
theorem dX3_seek_33 : decode cX3_seek 33 = .ok (.iload_n 1, 1) := by decide +kernel
theorem dX3_seek_34 : decode cX3_seek 34 = .ok (.iconst 1, 1) := by decide +kernel
theorem dX3_seek_35 : decode cX3_seek 35 = .ok (.if_icmp .ne 11, 3) := by decide +kernel
theorem dX3_seek_38 : decode cX3_seek 38 = .ok (.aload_n 0, 1) := by decide +kernel
theorem dX3_seek_39 : decode cX3_seek 39 = .ok (.invokevirtual 45, 3) := by decide +kernel
theorem dX3_seek_4 : decode cX3_seek 4 = .ok (.iload_n 2, 1) := by decide +kernel
theorem dX3_seek_42 : decode cX3_seek 42 = .ok (.istore_n 1, 1) := by decide +kernel
theorem dX3_seek_43 : decode cX3_seek 43 = .ok (.goto 52, 3) := by decide +kernel
theorem dX3_seek_46 : decode cX3_seek 46 = .ok (.iload_n 1, 1) := by decide +kernel
theorem dX3_seek_47 : decode cX3_seek 47 = .ok (.iconst 2, 1) := by decide +kernel
theorem dX3_seek_48 : decode cX3_seek 48 = .ok (.if_icmp .ne 20, 3) := by decide +kernel
theorem dX3_seek_5 : decode cX3_seek 5 = .ok (.sipush 8192, 3) := by decide +kernel
theorem dX3_seek_51 : decode cX3_seek 51 = .ok (.aload_n 0, 1) := by decide +kernel
theorem dX3_seek_52 : decode cX3_seek 52 = .ok (.ldc 49, 2) := by decide +kernel
theorem dX3_seek_54 : decode cX3_seek 54 = .ok (.invokevirtual 51, 3) := by decide +kernel
theorem dX3_seek_57 : decode cX3_seek 57 = .ok (.ifCond .eq 11, 3) := by decide +kernel
theorem dX3_seek_60 : decode cX3_seek 60 = .ok (.aload_n 0, 1) := by decide +kernel
theorem dX3_seek_61 : decode cX3_seek 61 = .ok (.invokevirtual 55, 3) := by decide +kernel
theorem dX3_seek_64 : decode cX3_seek 64 = .ok (.istore_n 1, 1) := by decide +kernel
theorem dX3_seek_65 : decode cX3_seek 65 = .ok (.goto 30, 3) := by decide +kernel
theorem dX3_seek_68 : decode cX3_seek 68 = .ok (.iload_n 1, 1) := by decide +kernel
theorem dX3_seek_69 : decode cX3_seek 69 = .ok (.iconst 3, 1) := by decide +kernel
theorem dX3_seek_70 : decode cX3_seek 70 = .ok (.if_icmp .ne 25, 3) := by decide +kernel
theorem dX3_seek_73 : decode cX3_seek 73 = .ok (.aload_n 0, 1) := by decide +kernel
theorem dX3_seek_74 : decode cX3_seek 74 = .ok (.ldc 58, 2) := by decide +kernel
theorem dX3_seek_76 : decode cX3_seek 76 = .ok (.invokevirtual 51, 3) := by decide +kernel
theorem dX3_seek_79 : decode cX3_seek 79 = .ok (.ifCond .eq 16, 3) := by decide +kernel
theorem dX3_seek_8 : decode cX3_seek 8 = .ok (.if_icmp .gt 93, 3) := by decide +kernel
theorem dX3_seek_82 : decode cX3_seek 82 = .ok (.aload_n 0, 1) := by decide +kernel
theorem dX3_seek_83 : decode cX3_seek 83 = .ok (.aload_n 0, 1) := by decide +kernel
theorem dX3_seek_84 : decode cX3_seek 84 = .ok (.getfield 21, 3) := by decide +kernel
theorem dX3_seek_87 : decode cX3_seek 87 = .ok (.getfield 60, 3) := by decide +kernel
theorem dX3_seek_90 : decode cX3_seek 90 = .ok (.putfield 63, 3) := by decide +kernel
theorem dX3_seek_93 : decode cX3_seek 93 = .ok (.iconst 1, 1) := by decide +kernel
theorem dX3_seek_94 : decode cX3_seek 94 = .ok (.ireturn, 1) := by decide +kernel
theorem dX3_seek_95 : decode cX3_seek 95 = .ok (.iinc 2 1, 3) := by decide +kernel
theorem dX3_seek_98 : decode cX3_seek 98 = .ok (.goto (-94), 3) := by decide +kernel
set_option maxHeartbeats 4000000 in
set_option maxRecDepth 100000 in
theorem T_X3_seek (l : Launch) (D : va_G) (K : Nat → ClassId) (Z Y : Nat → Nat) (ad : Nat → Nat) (d : dSt) (t : tSt) (hok : okX t)  : tMet l yX3_seek cX3_seek 3 (some .boolean) (rmD 7 0 0) D K Z Y [.ref (ad 7)] ((WX d) K ad t) (QI D K (fun (r : Int32) (u : tSt) => okX u ∧ frA [(7, 2), (7, 3), (7, 4), (7, 5), (7, 6), (7, 7), (7, 8), (29, 2), (29, 3), (29, 4), (29, 5)] [] [30, 51] [] t u ∧ (0 : Int) ≤ r.toInt ∧ r.toInt ≤ 1) (fun (u : tSt) => (WX d) K ad u)) 0 0 := by
  refine t_met RX3 ⟨rfl, by decide +kernel⟩ (Nat.le_of_ble_eq_true rfl) ?_
  intro p e s m below meth c A ls C hE hZ hr hlocks hA hP hD hS hl
  have hl : lv_has ls 3 [(0, .ref (ad 7))] := hl
  have hokt := hok
  have hfr : frA [(7, 2), (7, 3), (7, 4), (7, 5), (7, 6), (7, 7), (7, 8), (29, 2), (29, 3), (29, 4), (29, 5)] [] [30, 51] [] t t := frA_rf
  have h_1 : (0 : Int) ≤ (t.1 29 2).toInt ∧ (t.1 29 2).toInt ≤ 1280 := hok.1 29 2
  have h_2 : (0 : Int) ≤ (t.1 29 3).toInt ∧ (t.1 29 3).toInt ≤ 80 := hok.1 29 3
  have h_3 : (0 : Int) ≤ (t.1 29 4).toInt ∧ (t.1 29 4).toInt ≤ 1281 := hok.1 29 4
  have h_4 : (0 : Int) ≤ (t.1 29 7).toInt ∧ (t.1 29 7).toInt ≤ 1280 := hok.1 29 7
  have L_4 : ∀ (fuel_4 : Nat) (t1 : tSt) (w4_1 : Int32) (w4_2 : Int32) (H : Heap) (locs : List Loc) (ls : Array Slot), okX t1 → frA [(7, 2), (7, 3), (7, 4), (7, 5), (7, 6), (7, 7), (7, 8), (29, 2), (29, 3), (29, 4), (29, 5)] [] [30, 51] [] t t1 → (0 : Int) ≤ w4_1.toInt ∧ w4_1.toInt ≤ 3 → (0 : Int) ≤ w4_2.toInt ∧ w4_2.toInt ≤ 32399 → (32399 : Int) - w4_2.toInt < (fuel_4 : Int) → va_P D vwCl ((WX d) K ad t1) H → va_D A ((WX d) K ad t1) → va_S A s.heap H locs → lv_has ls 3 [(0, .ref (ad 7)), (1, .int w4_1), (2, .int w4_2)] → W p l e (rmD 7 0 0) s m [.ref (ad 7)].toArray below meth c H locs 0 0 (MQ below (QI D K (fun (r : Int32) (u : tSt) => okX u ∧ frA [(7, 2), (7, 3), (7, 4), (7, 5), (7, 6), (7, 7), (7, 8), (29, 2), (29, 3), (29, 4), (29, 5)] [] [30, 51] [] t u ∧ (0 : Int) ≤ r.toInt ∧ r.toInt ≤ 1) (fun (u : tSt) => (WX d) K ad u) A) [.ref (ad 7)].toArray s 0 0 A) (F0 m 4 ls []) := by
    intro fuel_4
    induction fuel_4 with
    | zero =>
      intro t1 w4_1 w4_2 H locs ls hok hfr hw4_1 hw4_2 hm4_4 hP hD hS hl
      have h_5 : (t1.1 29 7).toInt = (t.1 29 7).toInt := ti_eq (hfr.1 29 7 rfl)
      have h_6 : (0 : Int) ≤ (t1.1 29 2).toInt ∧ (t1.1 29 2).toInt ≤ 1280 := hok.1 29 2
      have h_7 : (0 : Int) ≤ (t1.1 29 3).toInt ∧ (t1.1 29 3).toInt ≤ 80 := hok.1 29 3
      have h_8 : (0 : Int) ≤ (t1.1 29 4).toInt ∧ (t1.1 29 4).toInt ≤ 1281 := hok.1 29 4
      have h_9 : (0 : Int) ≤ (t1.1 29 7).toInt ∧ (t1.1 29 7).toInt ≤ 1280 := hok.1 29 7
      exact absurd hm4_4 (by omega)
    | succ fuel_4 ih_4 =>
      intro t1 w4_1 w4_2 H locs ls hok hfr hw4_1 hw4_2 hm4_4 hP hD hS hl
      have hm4_4 : (32399 : Int) - w4_2.toInt < (fuel_4 : Int) + 1 := by omega
      have h_10 : (t1.1 29 7).toInt = (t.1 29 7).toInt := ti_eq (hfr.1 29 7 rfl)
      have h_11 : (0 : Int) ≤ (t1.1 29 2).toInt ∧ (t1.1 29 2).toInt ≤ 1280 := hok.1 29 2
      have h_12 : (0 : Int) ≤ (t1.1 29 3).toInt ∧ (t1.1 29 3).toInt ≤ 80 := hok.1 29 3
      have h_13 : (0 : Int) ≤ (t1.1 29 4).toInt ∧ (t1.1 29 4).toInt ≤ 1281 := hok.1 29 4
      have h_14 : (0 : Int) ≤ (t1.1 29 7).toInt ∧ (t1.1 29 7).toInt ≤ 1280 := hok.1 29 7
      have L_95 : ∀ (t1 : tSt) (w95_1 : Int32) (w95_2 : Int32) (H : Heap) (locs : List Loc) (ls : Array Slot), okX t1 → frA [(7, 2), (7, 3), (7, 4), (7, 5), (7, 6), (7, 7), (7, 8), (29, 2), (29, 3), (29, 4), (29, 5)] [] [30, 51] [] t t1 → (0 : Int) ≤ w95_1.toInt ∧ w95_1.toInt ≤ 3 → (0 : Int) ≤ w95_2.toInt ∧ w95_2.toInt ≤ 8192 → (32399 : Int) - w95_2.toInt < (fuel_4 : Int) + 1 → va_P D vwCl ((WX d) K ad t1) H → va_D A ((WX d) K ad t1) → va_S A s.heap H locs → lv_has ls 3 [(0, .ref (ad 7)), (1, .int w95_1), (2, .int w95_2)] → W p l e (rmD 7 0 0) s m [.ref (ad 7)].toArray below meth c H locs 0 0 (MQ below (QI D K (fun (r : Int32) (u : tSt) => okX u ∧ frA [(7, 2), (7, 3), (7, 4), (7, 5), (7, 6), (7, 7), (7, 8), (29, 2), (29, 3), (29, 4), (29, 5)] [] [30, 51] [] t u ∧ (0 : Int) ≤ r.toInt ∧ r.toInt ≤ 1) (fun (u : tSt) => (WX d) K ad u) A) [.ref (ad 7)].toArray s 0 0 A) (F0 m 95 ls []) := by
        intro t1 w95_1 w95_2 H locs ls hok hfr hw95_1 hw95_2 hm95_4 hP hD hS hl
        have h_15 : (t1.1 29 7).toInt = (t.1 29 7).toInt := ti_eq (hfr.1 29 7 rfl)
        have h_16 : (0 : Int) ≤ (t1.1 29 2).toInt ∧ (t1.1 29 2).toInt ≤ 1280 := hok.1 29 2
        have h_17 : (0 : Int) ≤ (t1.1 29 3).toInt ∧ (t1.1 29 3).toInt ≤ 80 := hok.1 29 3
        have h_18 : (0 : Int) ≤ (t1.1 29 4).toInt ∧ (t1.1 29 4).toInt ≤ 1281 := hok.1 29 4
        have h_19 : (0 : Int) ≤ (t1.1 29 7).toInt ∧ (t1.1 29 7).toInt ≤ 1280 := hok.1 29 7
        obtain ⟨v_20, e_21⟩ : ∃ z, z = w95_2 + 1 := ⟨_, rfl⟩
        have h_22 : v_20.toInt = w95_2.toInt + 1 := by rw [e_21]; exact ti_iadd (by show (_ : Int) ≤ w95_2.toInt + 1; omega) (by show w95_2.toInt + 1 < (_ : Int); omega)
        refine lv_iinc (v := v_20) (lv' := [(2, .int v_20), (0, .ref (ad 7)), (1, .int w95_1)]) C.1 C.2.1 dX3_seek_95 hl (k := 2) rfl e_21.symm (by decide) rfl (fun ls hl => ?_)
        have hl : lv_has ls 3 [(0, .ref (ad 7)), (1, .int w95_1), (2, .int v_20)] := lv_sub hl [1, 2, 0] rfl
        refine lv_goto (tgt := 4) C.1 C.2.1 dX3_seek_98 (by decide) ?_
        exact ih_4 t1 w95_1 v_20 _ _ _ hok hfr ⟨by omega, by omega⟩ ⟨by omega, by omega⟩ (show (32399 : Int) - v_20.toInt < (fuel_4 : Int) from by omega) hP hD hS (lv_sub hl [0, 1, 2] rfl)
      have L_68 : ∀ (t1 : tSt) (w68_1 : Int32) (w68_2 : Int32) (H : Heap) (locs : List Loc) (ls : Array Slot), okX t1 → frA [(7, 2), (7, 3), (7, 4), (7, 5), (7, 6), (7, 7), (7, 8), (29, 2), (29, 3), (29, 4), (29, 5)] [] [30, 51] [] t t1 → (0 : Int) ≤ w68_1.toInt ∧ w68_1.toInt ≤ 3 → (0 : Int) ≤ w68_2.toInt ∧ w68_2.toInt ≤ 8192 → (32399 : Int) - w68_2.toInt < (fuel_4 : Int) + 1 → va_P D vwCl ((WX d) K ad t1) H → va_D A ((WX d) K ad t1) → va_S A s.heap H locs → lv_has ls 3 [(0, .ref (ad 7)), (1, .int w68_1), (2, .int w68_2)] → W p l e (rmD 7 0 0) s m [.ref (ad 7)].toArray below meth c H locs 0 0 (MQ below (QI D K (fun (r : Int32) (u : tSt) => okX u ∧ frA [(7, 2), (7, 3), (7, 4), (7, 5), (7, 6), (7, 7), (7, 8), (29, 2), (29, 3), (29, 4), (29, 5)] [] [30, 51] [] t u ∧ (0 : Int) ≤ r.toInt ∧ r.toInt ≤ 1) (fun (u : tSt) => (WX d) K ad u) A) [.ref (ad 7)].toArray s 0 0 A) (F0 m 68 ls []) := by
        intro t1 w68_1 w68_2 H locs ls hok hfr hw68_1 hw68_2 hm68_4 hP hD hS hl
        have h_23 : (t1.1 29 7).toInt = (t.1 29 7).toInt := ti_eq (hfr.1 29 7 rfl)
        have h_24 : (0 : Int) ≤ (t1.1 29 2).toInt ∧ (t1.1 29 2).toInt ≤ 1280 := hok.1 29 2
        have h_25 : (0 : Int) ≤ (t1.1 29 3).toInt ∧ (t1.1 29 3).toInt ≤ 80 := hok.1 29 3
        have h_26 : (0 : Int) ≤ (t1.1 29 4).toInt ∧ (t1.1 29 4).toInt ≤ 1281 := hok.1 29 4
        have h_27 : (0 : Int) ≤ (t1.1 29 7).toInt ∧ (t1.1 29 7).toInt ≤ 1280 := hok.1 29 7
        refine lv_iload_n C.1 C.2.1 dX3_seek_68 rfl (lv_at hl 1 rfl) ?_
        refine lv_iconst (v := 3) C.1 C.2.1 dX3_seek_69 (by decide) ?_
        refine lv_icmp_ne (tgt := 95) C.1 C.2.1 dX3_seek_70 (by decide) (fun c_28 => ?_) (fun c_28 => ?_)
        · replace c_28 : ¬ w68_1.toInt = 3 := i_ne c_28
          exact L_95 t1 w68_1 w68_2 _ _ _ hok hfr ⟨by omega, by omega⟩ ⟨by omega, by omega⟩ (show (32399 : Int) - w68_2.toInt < (fuel_4 : Int) + 1 from by omega) hP hD hS (lv_sub hl [0, 1, 2] rfl)
        · replace c_28 : w68_1.toInt = 3 := i_eq c_28
          refine lv_aload_n C.1 C.2.1 dX3_seek_73 rfl (lv_at hl 0 rfl) ?_
          refine va_ldcS C.1 C.2.1 C.2.2.2.1 (hE.2 16 (by decide)) dX3_seek_74 ?_
          refine g_Vi (As := [.ref (Z 16)]) (rest := []) C hP hD hS hA (T_X3_isCard l D K Z Y ad d t1 hok (16) (show sS 16 from ⟨by decide, by decide, by decide⟩)) hE hZ (uwV m_73_18 m_73_19 m_73_20 m_2_17 m_73_21) (hdV 1 (by decide +kernel) rfl) ⟨Nat.le_of_ble_eq_true rfl, Nat.le_of_ble_eq_true rfl⟩ rfl rfl (ci := 2) (q0 := 7) rfl rfl rfl hl.1 (Nat.le_of_ble_eq_true rfl) dX3_seek_76 ⟨Nat.le_of_ble_eq_true rfl, Nat.le_of_ble_eq_true rfl⟩ (fun r_30 t_29 H locs hw hP hD hS => ?_)
          obtain ⟨h_32, h_33⟩ := hw
          refine lv_if_eq (tgt := 95) C.1 C.2.1 dX3_seek_79 (by decide) (fun c_34 => ?_) (fun c_34 => ?_)
          · replace c_34 : r_30.toInt = 0 := i_eq c_34
            exact L_95 t1 w68_1 w68_2 _ _ _ hok hfr ⟨by omega, by omega⟩ ⟨by omega, by omega⟩ (show (32399 : Int) - w68_2.toInt < (fuel_4 : Int) + 1 from by omega) hP hD hS (lv_sub hl [0, 1, 2] rfl)
          · replace c_34 : ¬ r_30.toInt = 0 := i_ne c_34
            refine lv_aload_n C.1 C.2.1 dX3_seek_82 rfl (lv_at hl 0 rfl) ?_
            refine lv_aload_n C.1 C.2.1 dX3_seek_83 rfl (lv_at hl 0 rfl) ?_
            refine k_get (v := .ref (ad 29)) C hP 7 rfl rfl inlX3 0 (by decide) m_6_23 rfl dX3_seek_84 ?_
            refine k_get (v := .int (t1.1 29 2)) C hP 29 rfl rfl inlX9 2 (by decide) m_71_16 rfl dX3_seek_87 ?_
            refine k_put (ws' := (WX d) K ad (uI t1 7 8 (t1.1 29 2))) (v := .int (t1.1 29 2)) C hP hD hS 7 rfl rfl inlX3 tyX3_ok nmX3 8 (by decide) m_71_17 rfl rfl rfl rfl rfl dX3_seek_90 (fun H locs hP hD hS => ?_)
            have hok : okX (uI t1 7 8 (t1.1 29 2)) := ⟨okI_I hok.1 7 8 (t1.1 29 2) (show (0 : Int) ≤ ((t1.1 29 2) : Int32).toInt ∧ ((t1.1 29 2) : Int32).toInt ≤ 1280 from ⟨by omega, by omega⟩), hok.2.1, trivial⟩
            have hfr : frA [(7, 2), (7, 3), (7, 4), (7, 5), (7, 6), (7, 7), (7, 8), (29, 2), (29, 3), (29, 4), (29, 5)] [] [30, 51] [] t (uI t1 7 8 (t1.1 29 2)) := frA_I hfr 7 8 _ rfl
            refine lv_iconst (v := 1) C.1 C.2.1 dX3_seek_93 (by decide) ?_
            exact g_iret C hr hlocks hP hD hS (by decide) (uI t1 7 8 (t1.1 29 2)) rfl ⟨hok, hfr, by decide, by decide⟩ (Nat.le_of_ble_eq_true rfl) (Nat.le_of_ble_eq_true rfl) dX3_seek_94
      refine lv_iload_n C.1 C.2.1 dX3_seek_4 rfl (lv_at hl 2 rfl) ?_
      refine lv_sipush (v := 8192) C.1 C.2.1 dX3_seek_5 (by decide) ?_
      refine lv_icmp_gt (tgt := 101) C.1 C.2.1 dX3_seek_8 (by decide) (fun c_35 => ?_) (fun c_35 => ?_)
      · replace c_35 : 8192 < w4_2.toInt := i_lt c_35
        refine lv_iconst (v := 0) C.1 C.2.1 dX3_seek_101 (by decide) ?_
        exact g_iret C hr hlocks hP hD hS (by decide) t1 rfl ⟨hok, hfr, by decide, by decide⟩ (Nat.le_of_ble_eq_true rfl) (Nat.le_of_ble_eq_true rfl) dX3_seek_102
      · replace c_35 : w4_2.toInt ≤ 8192 := i_nlt c_35
        refine lv_aload_n C.1 C.2.1 dX3_seek_11 rfl (lv_at hl 0 rfl) ?_
        refine k_get (v := .ref (ad 29)) C hP 7 rfl rfl inlX3 0 (by decide) m_6_23 rfl dX3_seek_12 ?_
        refine g_Vi (As := []) (rest := []) C hP hD hS hA (T_X9_advance l D K Z Y ad d t1 hok ) hE hZ (uwV m_71_18 m_13_19 m_13_20 m_1_17 m_13_21) (hdV 0 (by decide +kernel) rfl) ⟨Nat.le_of_ble_eq_true rfl, Nat.le_of_ble_eq_true rfl⟩ rfl rfl (ci := 8) (q0 := 29) rfl rfl rfl hl.1 (Nat.le_of_ble_eq_true rfl) dX3_seek_15 ⟨Nat.le_of_ble_eq_true rfl, Nat.le_of_ble_eq_true rfl⟩ (fun r_37 t_36 H locs hw hP hD hS => ?_)
        obtain ⟨hok, f_38, h_39, h_40, p_41, p_42⟩ := hw
        have hfr : frA [(7, 2), (7, 3), (7, 4), (7, 5), (7, 6), (7, 7), (7, 8), (29, 2), (29, 3), (29, 4), (29, 5)] [] [30, 51] [] t t_36 := frA_tr hfr f_38 rfl
        have h_43 : (t_36.1 29 7).toInt = (t1.1 29 7).toInt := ti_eq (f_38.1 29 7 rfl)
        have h_44 : (0 : Int) ≤ (t_36.1 29 2).toInt ∧ (t_36.1 29 2).toInt ≤ 1280 := hok.1 29 2
        have h_45 : (0 : Int) ≤ (t_36.1 29 3).toInt ∧ (t_36.1 29 3).toInt ≤ 80 := hok.1 29 3
        have h_46 : (0 : Int) ≤ (t_36.1 29 4).toInt ∧ (t_36.1 29 4).toInt ≤ 1281 := hok.1 29 4
        have h_47 : (0 : Int) ≤ (t_36.1 29 7).toInt ∧ (t_36.1 29 7).toInt ≤ 1280 := hok.1 29 7
        replace p_41 : r_37.toInt = 1 → (t_36.1 29 2).toInt + (t_36.1 29 3).toInt ≤ 1280 := p_41
        replace p_42 : r_37.toInt = 1 → (t1.1 29 4).toInt + (t_36.1 29 3).toInt + 1 ≤ (t_36.1 29 4).toInt ∧ (t_36.1 29 4).toInt ≤ (t1.1 29 7).toInt + 1 := p_42
        refine lv_if_eq (tgt := 101) C.1 C.2.1 dX3_seek_18 (by decide) (fun c_48 => ?_) (fun c_48 => ?_)
        · replace c_48 : r_37.toInt = 0 := i_eq c_48
          refine lv_iconst (v := 0) C.1 C.2.1 dX3_seek_101 (by decide) ?_
          exact g_iret C hr hlocks hP hD hS (by decide) t_36 rfl ⟨hok, hfr, by decide, by decide⟩ (Nat.le_of_ble_eq_true rfl) (Nat.le_of_ble_eq_true rfl) dX3_seek_102
        · replace c_48 : ¬ r_37.toInt = 0 := i_ne c_48
          refine lv_aload_n C.1 C.2.1 dX3_seek_21 rfl (lv_at hl 0 rfl) ?_
          refine g_Vi (As := []) (rest := []) C hP hD hS hA (T_X3_isJob l D K Z Y ad d t_36 hok ) hE hZ (uwV m_71_19 m_71_20 m_71_21 m_2_17 m_71_22) (hdV 0 (by decide +kernel) rfl) ⟨Nat.le_of_ble_eq_true rfl, Nat.le_of_ble_eq_true rfl⟩ rfl rfl (ci := 2) (q0 := 7) rfl rfl rfl hl.1 (Nat.le_of_ble_eq_true rfl) dX3_seek_22 ⟨Nat.le_of_ble_eq_true rfl, Nat.le_of_ble_eq_true rfl⟩ (fun r_50 t_49 H locs hw hP hD hS => ?_)
          obtain ⟨hok, f_51, h_52, h_53⟩ := hw
          have hfr : frA [(7, 2), (7, 3), (7, 4), (7, 5), (7, 6), (7, 7), (7, 8), (29, 2), (29, 3), (29, 4), (29, 5)] [] [30, 51] [] t t_49 := frA_tr hfr f_51 rfl
          have h_54 : (t_49.1 29 2).toInt = (t_36.1 29 2).toInt := ti_eq (f_51.1 29 2 rfl)
          have h_55 : (t_49.1 29 3).toInt = (t_36.1 29 3).toInt := ti_eq (f_51.1 29 3 rfl)
          have h_56 : (t_49.1 29 4).toInt = (t_36.1 29 4).toInt := ti_eq (f_51.1 29 4 rfl)
          have h_57 : (t_49.1 29 7).toInt = (t_36.1 29 7).toInt := ti_eq (f_51.1 29 7 rfl)
          have h_58 : (0 : Int) ≤ (t_49.1 29 2).toInt ∧ (t_49.1 29 2).toInt ≤ 1280 := hok.1 29 2
          have h_59 : (0 : Int) ≤ (t_49.1 29 3).toInt ∧ (t_49.1 29 3).toInt ≤ 80 := hok.1 29 3
          have h_60 : (0 : Int) ≤ (t_49.1 29 4).toInt ∧ (t_49.1 29 4).toInt ≤ 1281 := hok.1 29 4
          have h_61 : (0 : Int) ≤ (t_49.1 29 7).toInt ∧ (t_49.1 29 7).toInt ≤ 1280 := hok.1 29 7
          refine lv_if_eq (tgt := 33) C.1 C.2.1 dX3_seek_25 (by decide) (fun c_62 => ?_) (fun c_62 => ?_)
          · replace c_62 : r_50.toInt = 0 := i_eq c_62
            refine lv_iload_n C.1 C.2.1 dX3_seek_33 rfl (lv_at hl 1 rfl) ?_
            refine lv_iconst (v := 1) C.1 C.2.1 dX3_seek_34 (by decide) ?_
            refine lv_icmp_ne (tgt := 46) C.1 C.2.1 dX3_seek_35 (by decide) (fun c_63 => ?_) (fun c_63 => ?_)
            · replace c_63 : ¬ w4_1.toInt = 1 := i_ne c_63
              refine lv_iload_n C.1 C.2.1 dX3_seek_46 rfl (lv_at hl 1 rfl) ?_
              refine lv_iconst (v := 2) C.1 C.2.1 dX3_seek_47 (by decide) ?_
              refine lv_icmp_ne (tgt := 68) C.1 C.2.1 dX3_seek_48 (by decide) (fun c_64 => ?_) (fun c_64 => ?_)
              · replace c_64 : ¬ w4_1.toInt = 2 := i_ne c_64
                exact L_68 t_49 w4_1 w4_2 _ _ _ hok hfr ⟨by omega, by omega⟩ ⟨by omega, by omega⟩ (show (32399 : Int) - w4_2.toInt < (fuel_4 : Int) + 1 from by omega) hP hD hS (lv_sub hl [0, 1, 2] rfl)
              · replace c_64 : w4_1.toInt = 2 := i_eq c_64
                refine lv_aload_n C.1 C.2.1 dX3_seek_51 rfl (lv_at hl 0 rfl) ?_
                refine va_ldcS C.1 C.2.1 C.2.2.2.1 (hE.2 13 (by decide)) dX3_seek_52 ?_
                refine g_Vi (As := [.ref (Z 13)]) (rest := []) C hP hD hS hA (T_X3_isCard l D K Z Y ad d t_49 hok (13) (show sS 13 from ⟨by decide, by decide, by decide⟩)) hE hZ (uwV m_73_18 m_73_19 m_73_20 m_2_17 m_73_21) (hdV 1 (by decide +kernel) rfl) ⟨Nat.le_of_ble_eq_true rfl, Nat.le_of_ble_eq_true rfl⟩ rfl rfl (ci := 2) (q0 := 7) rfl rfl rfl hl.1 (Nat.le_of_ble_eq_true rfl) dX3_seek_54 ⟨Nat.le_of_ble_eq_true rfl, Nat.le_of_ble_eq_true rfl⟩ (fun r_66 t_65 H locs hw hP hD hS => ?_)
                obtain ⟨h_68, h_69⟩ := hw
                refine lv_if_eq (tgt := 68) C.1 C.2.1 dX3_seek_57 (by decide) (fun c_70 => ?_) (fun c_70 => ?_)
                · replace c_70 : r_66.toInt = 0 := i_eq c_70
                  exact L_68 t_49 w4_1 w4_2 _ _ _ hok hfr ⟨by omega, by omega⟩ ⟨by omega, by omega⟩ (show (32399 : Int) - w4_2.toInt < (fuel_4 : Int) + 1 from by omega) hP hD hS (lv_sub hl [0, 1, 2] rfl)
                · replace c_70 : ¬ r_66.toInt = 0 := i_ne c_70
                  refine lv_aload_n C.1 C.2.1 dX3_seek_60 rfl (lv_at hl 0 rfl) ?_
                  refine g_Vi (As := []) (rest := []) C hP hD hS hA (T_X3_openData l D K Z Y ad d t_49 hok ) hE hZ (uwV m_73_22 m_73_23 m_74_0 m_2_17 m_74_1) (hdV 0 (by decide +kernel) rfl) ⟨Nat.le_of_ble_eq_true rfl, Nat.le_of_ble_eq_true rfl⟩ rfl rfl (ci := 2) (q0 := 7) rfl rfl rfl hl.1 (Nat.le_of_ble_eq_true rfl) dX3_seek_61 ⟨Nat.le_of_ble_eq_true rfl, Nat.le_of_ble_eq_true rfl⟩ (fun r_72 t_71 H locs hw hP hD hS => ?_)
                  obtain ⟨hok, f_73, h_74, h_75⟩ := hw
                  have hfr : frA [(7, 2), (7, 3), (7, 4), (7, 5), (7, 6), (7, 7), (7, 8), (29, 2), (29, 3), (29, 4), (29, 5)] [] [30, 51] [] t t_71 := frA_tr hfr f_73 rfl
                  have h_76 : (t_71.1 29 2).toInt = (t_49.1 29 2).toInt := ti_eq (f_73.1 29 2 rfl)
                  have h_77 : (t_71.1 29 3).toInt = (t_49.1 29 3).toInt := ti_eq (f_73.1 29 3 rfl)
                  have h_78 : (t_71.1 29 4).toInt = (t_49.1 29 4).toInt := ti_eq (f_73.1 29 4 rfl)
                  have h_79 : (t_71.1 29 7).toInt = (t_49.1 29 7).toInt := ti_eq (f_73.1 29 7 rfl)
                  have h_80 : (0 : Int) ≤ (t_71.1 29 2).toInt ∧ (t_71.1 29 2).toInt ≤ 1280 := hok.1 29 2
                  have h_81 : (0 : Int) ≤ (t_71.1 29 3).toInt ∧ (t_71.1 29 3).toInt ≤ 80 := hok.1 29 3
                  have h_82 : (0 : Int) ≤ (t_71.1 29 4).toInt ∧ (t_71.1 29 4).toInt ≤ 1281 := hok.1 29 4
                  have h_83 : (0 : Int) ≤ (t_71.1 29 7).toInt ∧ (t_71.1 29 7).toInt ≤ 1280 := hok.1 29 7
                  refine lv_istore_n (lv' := [(1, .int r_72), (0, .ref (ad 7)), (2, .int w4_2)]) C.1 C.2.1 dX3_seek_64 rfl hl (by decide) rfl (fun ls hl => ?_)
                  have hl : lv_has ls 3 [(0, .ref (ad 7)), (1, .int r_72), (2, .int w4_2)] := lv_sub hl [1, 0, 2] rfl
                  refine lv_goto (tgt := 95) C.1 C.2.1 dX3_seek_65 (by decide) ?_
                  exact L_95 t_71 r_72 w4_2 _ _ _ hok hfr ⟨by omega, by omega⟩ ⟨by omega, by omega⟩ (show (32399 : Int) - w4_2.toInt < (fuel_4 : Int) + 1 from by omega) hP hD hS (lv_sub hl [0, 1, 2] rfl)
            · replace c_63 : w4_1.toInt = 1 := i_eq c_63
              refine lv_aload_n C.1 C.2.1 dX3_seek_38 rfl (lv_at hl 0 rfl) ?_
              refine g_Vi (As := []) (rest := []) C hP hD hS hA (T_X3_openBody l D K Z Y ad d t_49 hok ) hE hZ (uwV m_73_11 m_73_12 m_73_13 m_2_17 m_73_14) (hdV 0 (by decide +kernel) rfl) ⟨Nat.le_of_ble_eq_true rfl, Nat.le_of_ble_eq_true rfl⟩ rfl rfl (ci := 2) (q0 := 7) rfl rfl rfl hl.1 (Nat.le_of_ble_eq_true rfl) dX3_seek_39 ⟨Nat.le_of_ble_eq_true rfl, Nat.le_of_ble_eq_true rfl⟩ (fun r_85 t_84 H locs hw hP hD hS => ?_)
              obtain ⟨hok, f_86, h_87, h_88⟩ := hw
              have hfr : frA [(7, 2), (7, 3), (7, 4), (7, 5), (7, 6), (7, 7), (7, 8), (29, 2), (29, 3), (29, 4), (29, 5)] [] [30, 51] [] t t_84 := frA_tr hfr f_86 rfl
              have h_89 : (t_84.1 29 2).toInt = (t_49.1 29 2).toInt := ti_eq (f_86.1 29 2 rfl)
              have h_90 : (t_84.1 29 3).toInt = (t_49.1 29 3).toInt := ti_eq (f_86.1 29 3 rfl)
              have h_91 : (t_84.1 29 4).toInt = (t_49.1 29 4).toInt := ti_eq (f_86.1 29 4 rfl)
              have h_92 : (t_84.1 29 7).toInt = (t_49.1 29 7).toInt := ti_eq (f_86.1 29 7 rfl)
              have h_93 : (0 : Int) ≤ (t_84.1 29 2).toInt ∧ (t_84.1 29 2).toInt ≤ 1280 := hok.1 29 2
              have h_94 : (0 : Int) ≤ (t_84.1 29 3).toInt ∧ (t_84.1 29 3).toInt ≤ 80 := hok.1 29 3
              have h_95 : (0 : Int) ≤ (t_84.1 29 4).toInt ∧ (t_84.1 29 4).toInt ≤ 1281 := hok.1 29 4
              have h_96 : (0 : Int) ≤ (t_84.1 29 7).toInt ∧ (t_84.1 29 7).toInt ≤ 1280 := hok.1 29 7
              refine lv_istore_n (lv' := [(1, .int r_85), (0, .ref (ad 7)), (2, .int w4_2)]) C.1 C.2.1 dX3_seek_42 rfl hl (by decide) rfl (fun ls hl => ?_)
              have hl : lv_has ls 3 [(0, .ref (ad 7)), (1, .int r_85), (2, .int w4_2)] := lv_sub hl [1, 0, 2] rfl
              refine lv_goto (tgt := 95) C.1 C.2.1 dX3_seek_43 (by decide) ?_
              exact L_95 t_84 r_85 w4_2 _ _ _ hok hfr ⟨by omega, by omega⟩ ⟨by omega, by omega⟩ (show (32399 : Int) - w4_2.toInt < (fuel_4 : Int) + 1 from by omega) hP hD hS (lv_sub hl [0, 1, 2] rfl)
          · replace c_62 : ¬ r_50.toInt = 0 := i_ne c_62
            refine lv_iconst (v := 1) C.1 C.2.1 dX3_seek_28 (by decide) ?_
            refine lv_istore_n (lv' := [(1, .int 1), (0, .ref (ad 7)), (2, .int w4_2)]) C.1 C.2.1 dX3_seek_29 rfl hl (by decide) rfl (fun ls hl => ?_)
            have hl : lv_has ls 3 [(0, .ref (ad 7)), (1, .int 1), (2, .int w4_2)] := lv_sub hl [1, 0, 2] rfl
            refine lv_goto (tgt := 95) C.1 C.2.1 dX3_seek_30 (by decide) ?_
            exact L_95 t_49 1 w4_2 _ _ _ hok hfr ⟨by decide, by decide⟩ ⟨by omega, by omega⟩ (show (32399 : Int) - w4_2.toInt < (fuel_4 : Int) + 1 from by omega) hP hD hS (lv_sub hl [0, 1, 2] rfl)
  refine lv_iconst (v := 0) C.1 C.2.1 dX3_seek_0 (by decide) ?_
  refine lv_istore_n (lv' := [(1, .int 0), (0, .ref (ad 7))]) C.1 C.2.1 dX3_seek_1 rfl hl (by decide) rfl (fun ls hl => ?_)
  have hl : lv_has ls 3 [(0, .ref (ad 7)), (1, .int 0)] := lv_sub hl [1, 0] rfl
  refine lv_iconst (v := 0) C.1 C.2.1 dX3_seek_2 (by decide) ?_
  refine lv_istore_n (lv' := [(2, .int 0), (0, .ref (ad 7)), (1, .int 0)]) C.1 C.2.1 dX3_seek_3 rfl hl (by decide) rfl (fun ls hl => ?_)
  have hl : lv_has ls 3 [(0, .ref (ad 7)), (1, .int 0), (2, .int 0)] := lv_sub hl [1, 2, 0] rfl
  exact L_4 32400 t 0 0 _ _ _ hok hfr ⟨by decide, by decide⟩ ⟨by decide, by decide⟩ (show (32399 : Int) - 0 < ((32400 : Nat) : Int) from by omega) hP hD hS (lv_sub hl [0, 1, 2] rfl)

theorem dX0_takeApart_0 : decode cX0_takeApart 0 = .ok (.aload_n 0, 1) := by decide +kernel
theorem dX0_takeApart_1 : decode cX0_takeApart 1 = .ok (.iconst (-1), 1) := by decide +kernel
theorem dX0_takeApart_10 : decode cX0_takeApart 10 = .ok (.aload_n 0, 1) := by decide +kernel
theorem dX0_takeApart_100 : decode cX0_takeApart 100 = .ok (.ifCond .eq 12, 3) := by decide +kernel
theorem dX0_takeApart_103 : decode cX0_takeApart 103 = .ok (.aload_n 0, 1) := by decide +kernel
theorem dX0_takeApart_104 : decode cX0_takeApart 104 = .ok (.getfield 119, 3) := by decide +kernel
theorem dX0_takeApart_107 : decode cX0_takeApart 107 = .ok (.ifCond .ne 5, 3) := by decide +kernel
theorem dX0_takeApart_11 : decode cX0_takeApart 11 = .ok (.getfield 47, 3) := by decide +kernel
theorem dX0_takeApart_110 : decode cX0_takeApart 110 = .ok (.iconst 1, 1) := by decide +kernel
theorem dX0_takeApart_111 : decode cX0_takeApart 111 = .ok (.ireturn, 1) := by decide +kernel
theorem dX0_takeApart_112 : decode cX0_takeApart 112 = .ok (.aload_n 0, 1) := by decide +kernel
theorem dX0_takeApart_113 : decode cX0_takeApart 113 = .ok (.aload_n 0, 1) := by decide +kernel
theorem dX0_takeApart_114 : decode cX0_takeApart 114 = .ok (.invokevirtual 143, 3) := by decide +kernel
theorem dX0_takeApart_117 : decode cX0_takeApart 117 = .ok (.putfield 105, 3) := by decide +kernel
theorem dX0_takeApart_120 : decode cX0_takeApart 120 = .ok (.aload_n 0, 1) := by decide +kernel
theorem dX0_takeApart_121 : decode cX0_takeApart 121 = .ok (.getfield 105, 3) := by decide +kernel
theorem dX0_takeApart_124 : decode cX0_takeApart 124 = .ok (.ifCond .ge 5, 3) := by decide +kernel
theorem dX0_takeApart_127 : decode cX0_takeApart 127 = .ok (.iconst 2, 1) := by decide +kernel
theorem dX0_takeApart_128 : decode cX0_takeApart 128 = .ok (.ireturn, 1) := by decide +kernel
theorem dX0_takeApart_129 : decode cX0_takeApart 129 = .ok (.aload_n 0, 1) := by decide +kernel
theorem dX0_takeApart_130 : decode cX0_takeApart 130 = .ok (.getfield 105, 3) := by decide +kernel
theorem dX0_takeApart_133 : decode cX0_takeApart 133 = .ok (.sipush 150, 3) := by decide +kernel
theorem dX0_takeApart_136 : decode cX0_takeApart 136 = .ok (.if_icmp .lt 6, 3) := by decide +kernel
theorem dX0_takeApart_139 : decode cX0_takeApart 139 = .ok (.bipush 8, 2) := by decide +kernel
theorem dX0_takeApart_14 : decode cX0_takeApart 14 = .ok (.iconst 0, 1) := by decide +kernel
theorem dX0_takeApart_141 : decode cX0_takeApart 141 = .ok (.ireturn, 1) := by decide +kernel
theorem dX0_takeApart_142 : decode cX0_takeApart 142 = .ok (.aload_n 0, 1) := by decide +kernel
theorem dX0_takeApart_143 : decode cX0_takeApart 143 = .ok (.getfield 119, 3) := by decide +kernel
theorem dX0_takeApart_146 : decode cX0_takeApart 146 = .ok (.iconst 2, 1) := by decide +kernel
theorem dX0_takeApart_147 : decode cX0_takeApart 147 = .ok (.if_icmp .ne 27, 3) := by decide +kernel
theorem dX0_takeApart_15 : decode cX0_takeApart 15 = .ok (.bipush 10, 2) := by decide +kernel
theorem dX0_takeApart_150 : decode cX0_takeApart 150 = .ok (.aload_n 0, 1) := by decide +kernel
theorem dX0_takeApart_151 : decode cX0_takeApart 151 = .ok (.getfield 32, 3) := by decide +kernel
theorem dX0_takeApart_154 : decode cX0_takeApart 154 = .ok (.aload_n 0, 1) := by decide +kernel
theorem dX0_takeApart_155 : decode cX0_takeApart 155 = .ok (.getfield 32, 3) := by decide +kernel
theorem dX0_takeApart_158 : decode cX0_takeApart 158 = .ok (.aload_n 0, 1) := by decide +kernel
theorem dX0_takeApart_159 : decode cX0_takeApart 159 = .ok (.getfield 134, 3) := by decide +kernel
theorem dX0_takeApart_162 : decode cX0_takeApart 162 = .ok (.invokevirtual 146, 3) := by decide +kernel
theorem dX0_takeApart_165 : decode cX0_takeApart 165 = .ok (.invokevirtual 150, 3) := by decide +kernel
theorem dX0_takeApart_168 : decode cX0_takeApart 168 = .ok (.iconst 2, 1) := by decide +kernel
theorem dX0_takeApart_169 : decode cX0_takeApart 169 = .ok (.if_icmp .ne 5, 3) := by decide +kernel
theorem dX0_takeApart_17 : decode cX0_takeApart 17 = .ok (.invokevirtual 122, 3) := by decide +kernel
theorem dX0_takeApart_172 : decode cX0_takeApart 172 = .ok (.iconst 3, 1) := by decide +kernel
theorem dX0_takeApart_173 : decode cX0_takeApart 173 = .ok (.ireturn, 1) := by decide +kernel
theorem dX0_takeApart_174 : decode cX0_takeApart 174 = .ok (.aload_n 0, 1) := by decide +kernel
theorem dX0_takeApart_175 : decode cX0_takeApart 175 = .ok (.getfield 47, 3) := by decide +kernel
theorem dX0_takeApart_178 : decode cX0_takeApart 178 = .ok (.aload_n 0, 1) := by decide +kernel
theorem dX0_takeApart_179 : decode cX0_takeApart 179 = .ok (.getfield 70, 3) := by decide +kernel
theorem dX0_takeApart_182 : decode cX0_takeApart 182 = .ok (.aload_n 0, 1) := by decide +kernel
theorem dX0_takeApart_183 : decode cX0_takeApart 183 = .ok (.getfield 25, 3) := by decide +kernel
theorem dX0_takeApart_186 : decode cX0_takeApart 186 = .ok (.getfield 98, 3) := by decide +kernel
theorem dX0_takeApart_189 : decode cX0_takeApart 189 = .ok (.invokevirtual 153, 3) := by decide +kernel
theorem dX0_takeApart_192 : decode cX0_takeApart 192 = .ok (.iconst 0, 1) := by decide +kernel
theorem dX0_takeApart_193 : decode cX0_takeApart 193 = .ok (.ireturn, 1) := by decide +kernel
theorem dX0_takeApart_2 : decode cX0_takeApart 2 = .ok (.putfield 105, 3) := by decide +kernel
theorem dX0_takeApart_20 : decode cX0_takeApart 20 = .ok (.istore_n 1, 1) := by decide +kernel
theorem dX0_takeApart_21 : decode cX0_takeApart 21 = .ok (.aload_n 0, 1) := by decide +kernel
theorem dX0_takeApart_22 : decode cX0_takeApart 22 = .ok (.getfield 47, 3) := by decide +kernel
theorem dX0_takeApart_25 : decode cX0_takeApart 25 = .ok (.bipush 11, 2) := by decide +kernel
theorem dX0_takeApart_27 : decode cX0_takeApart 27 = .ok (.bipush 15, 2) := by decide +kernel
theorem dX0_takeApart_29 : decode cX0_takeApart 29 = .ok (.invokevirtual 122, 3) := by decide +kernel
theorem dX0_takeApart_32 : decode cX0_takeApart 32 = .ok (.istore_n 2, 1) := by decide +kernel
theorem dX0_takeApart_33 : decode cX0_takeApart 33 = .ok (.aload_n 0, 1) := by decide +kernel
theorem dX0_takeApart_34 : decode cX0_takeApart 34 = .ok (.getfield 25, 3) := by decide +kernel
theorem dX0_takeApart_37 : decode cX0_takeApart 37 = .ok (.getfield 38, 3) := by decide +kernel
theorem dX0_takeApart_40 : decode cX0_takeApart 40 = .ok (.iconst 0, 1) := by decide +kernel
theorem dX0_takeApart_41 : decode cX0_takeApart 41 = .ok (.baload, 1) := by decide +kernel
theorem dX0_takeApart_42 : decode cX0_takeApart 42 = .ok (.bipush 42, 2) := by decide +kernel
theorem dX0_takeApart_44 : decode cX0_takeApart 44 = .ok (.if_icmp .eq 11, 3) := by decide +kernel
theorem dX0_takeApart_47 : decode cX0_takeApart 47 = .ok (.iload_n 1, 1) := by decide +kernel
theorem dX0_takeApart_48 : decode cX0_takeApart 48 = .ok (.ifCond .ne 9, 3) := by decide +kernel
theorem dX0_takeApart_5 : decode cX0_takeApart 5 = .ok (.aload_n 0, 1) := by decide +kernel
theorem dX0_takeApart_51 : decode cX0_takeApart 51 = .ok (.iload_n 2, 1) := by decide +kernel
theorem dX0_takeApart_52 : decode cX0_takeApart 52 = .ok (.ifCond .ne 5, 3) := by decide +kernel
theorem dX0_takeApart_55 : decode cX0_takeApart 55 = .ok (.iconst 0, 1) := by decide +kernel
theorem dX0_takeApart_56 : decode cX0_takeApart 56 = .ok (.ireturn, 1) := by decide +kernel
theorem dX0_takeApart_57 : decode cX0_takeApart 57 = .ok (.iload_n 1, 1) := by decide +kernel
theorem dX0_takeApart_58 : decode cX0_takeApart 58 = .ok (.ifCond .eq 37, 3) := by decide +kernel
theorem dX0_takeApart_6 : decode cX0_takeApart 6 = .ok (.iconst 0, 1) := by decide +kernel
theorem dX0_takeApart_61 : decode cX0_takeApart 61 = .ok (.aload_n 0, 1) := by decide +kernel
theorem dX0_takeApart_62 : decode cX0_takeApart 62 = .ok (.aload_n 0, 1) := by decide +kernel
theorem dX0_takeApart_63 : decode cX0_takeApart 63 = .ok (.getfield 47, 3) := by decide +kernel
theorem dX0_takeApart_66 : decode cX0_takeApart 66 = .ok (.iload_n 1, 1) := by decide +kernel
theorem dX0_takeApart_67 : decode cX0_takeApart 67 = .ok (.invokevirtual 126, 3) := by decide +kernel
theorem dX0_takeApart_7 : decode cX0_takeApart 7 = .ok (.putfield 119, 3) := by decide +kernel
theorem dX0_takeApart_70 : decode cX0_takeApart 70 = .ok (.putfield 119, 3) := by decide +kernel
theorem dX0_takeApart_73 : decode cX0_takeApart 73 = .ok (.aload_n 0, 1) := by decide +kernel
theorem dX0_takeApart_74 : decode cX0_takeApart 74 = .ok (.aload_n 0, 1) := by decide +kernel
theorem dX0_takeApart_75 : decode cX0_takeApart 75 = .ok (.getfield 47, 3) := by decide +kernel
theorem dX0_takeApart_78 : decode cX0_takeApart 78 = .ok (.getfield 130, 3) := by decide +kernel
theorem dX0_takeApart_81 : decode cX0_takeApart 81 = .ok (.putfield 134, 3) := by decide +kernel
theorem dX0_takeApart_84 : decode cX0_takeApart 84 = .ok (.aload_n 0, 1) := by decide +kernel
theorem dX0_takeApart_85 : decode cX0_takeApart 85 = .ok (.aload_n 0, 1) := by decide +kernel
theorem dX0_takeApart_86 : decode cX0_takeApart 86 = .ok (.getfield 47, 3) := by decide +kernel
theorem dX0_takeApart_89 : decode cX0_takeApart 89 = .ok (.getfield 137, 3) := by decide +kernel
theorem dX0_takeApart_92 : decode cX0_takeApart 92 = .ok (.putfield 140, 3) := by decide +kernel
theorem dX0_takeApart_95 : decode cX0_takeApart 95 = .ok (.iload_n 2, 1) := by decide +kernel
theorem dX0_takeApart_96 : decode cX0_takeApart 96 = .ok (.ifCond .lt 14, 3) := by decide +kernel
theorem dX0_takeApart_99 : decode cX0_takeApart 99 = .ok (.iload_n 1, 1) := by decide +kernel
set_option maxHeartbeats 4000000 in
set_option maxRecDepth 100000 in
theorem T_X0_takeApart (l : Launch) (D : va_G) (K : Nat → ClassId) (Z Y : Nat → Nat) (ad : Nat → Nat) (d : dSt) (t : tSt) (hok : okX t)  : tMet l yX0_takeApart cX0_takeApart 3 (some .int) (rmD 7 0 0) D K Z Y [.ref (ad 5)] ((WX d) K ad t) (QI D K (fun (r : Int32) (u : tSt) => okX u ∧ frA [(5, 11), (5, 12), (5, 14), (24, 2), (24, 3), (24, 4), (24, 5), (24, 6), (24, 8)] [(5, 13), (24, 7), (24, 9)] [] [] t u ∧ (0 : Int) ≤ r.toInt ∧ r.toInt ≤ 8) (fun (u : tSt) => (WX d) K ad u)) 0 0 := by
  refine t_met RX0 ⟨rfl, by decide +kernel⟩ (Nat.le_of_ble_eq_true rfl) ?_
  intro p e s m below meth c A ls C hE hZ hr hlocks hA hP hD hS hl
  have hl : lv_has ls 3 [(0, .ref (ad 5))] := hl
  have hokt := hok
  have hfr : frA [(5, 11), (5, 12), (5, 14), (24, 2), (24, 3), (24, 4), (24, 5), (24, 6), (24, 8)] [(5, 13), (24, 7), (24, 9)] [] [] t t := frA_rf
  have h_1 : (0 : Int) ≤ (t.1 23 3).toInt ∧ (t.1 23 3).toInt ≤ 1024 := hok.1 23 3
  have L_174 : ∀ (t1 : tSt) (w174_1 : Int32) (w174_2 : Int32) (H : Heap) (locs : List Loc) (ls : Array Slot), okX t1 → frA [(5, 11), (5, 12), (5, 14), (24, 2), (24, 3), (24, 4), (24, 5), (24, 6), (24, 8)] [(5, 13), (24, 7), (24, 9)] [] [] t t1 → (-1 : Int) ≤ w174_1.toInt ∧ w174_1.toInt ≤ 15 → (0 : Int) ≤ w174_2.toInt ∧ w174_2.toInt ≤ 15 → (0 : Int) ≤ (t1.1 5 11).toInt ∧ (t1.1 5 11).toInt ≤ 149 → va_P D vwCl ((WX d) K ad t1) H → va_D A ((WX d) K ad t1) → va_S A s.heap H locs → lv_has ls 3 [(0, .ref (ad 5)), (1, .int w174_1), (2, .int w174_2)] → W p l e (rmD 7 0 0) s m [.ref (ad 5)].toArray below meth c H locs 0 0 (MQ below (QI D K (fun (r : Int32) (u : tSt) => okX u ∧ frA [(5, 11), (5, 12), (5, 14), (24, 2), (24, 3), (24, 4), (24, 5), (24, 6), (24, 8)] [(5, 13), (24, 7), (24, 9)] [] [] t u ∧ (0 : Int) ≤ r.toInt ∧ r.toInt ≤ 8) (fun (u : tSt) => (WX d) K ad u) A) [.ref (ad 5)].toArray s 0 0 A) (F0 m 174 ls []) := by
    intro t1 w174_1 w174_2 H locs ls hok hfr hw174_1 hw174_2 hf174_11 hP hD hS hl
    have h_2 : (t1.1 23 3).toInt = (t.1 23 3).toInt := ti_eq (hfr.1 23 3 rfl)
    have h_3 : (0 : Int) ≤ (t1.1 23 3).toInt ∧ (t1.1 23 3).toInt ≤ 1024 := hok.1 23 3
    refine lv_aload_n C.1 C.2.1 dX0_takeApart_174 rfl (lv_at hl 0 rfl) ?_
    refine k_get (v := .ref (ad 24)) C hP 5 rfl rfl inlX0 3 (by decide) m_6_0 rfl dX0_takeApart_175 ?_
    refine lv_aload_n C.1 C.2.1 dX0_takeApart_178 rfl (lv_at hl 0 rfl) ?_
    have h_4 : (-1073741824 : Int) ≤ (t1.1 5 9).toInt ∧ (t1.1 5 9).toInt ≤ 1073741824 := hok.1 5 9
    refine k_get (v := .int (t1.1 5 9)) C hP 5 rfl rfl inlX0 9 (by decide) m_12_3 rfl dX0_takeApart_179 ?_
    refine lv_aload_n C.1 C.2.1 dX0_takeApart_182 rfl (lv_at hl 0 rfl) ?_
    refine k_get (v := .ref (ad 2)) C hP 5 rfl rfl inlX0 0 (by decide) m_5_17 rfl dX0_takeApart_183 ?_
    refine k_get (v := .int (t1.1 2 5)) C hP 2 rfl rfl inlX9 5 (by decide) m_13_16 rfl dX0_takeApart_186 ?_
    refine g_Vv (As := [.int (t1.1 5 9), .int (t1.1 2 5)]) (rest := []) C hP hD hS hA (T_X5_open l D K Z Y ad d t1 hok ((t1.1 5 9)) (show (-1073741824 : Int) ≤ ((t1.1 5 9) : Int32).toInt ∧ ((t1.1 5 9) : Int32).toInt ≤ 1073741824 from ⟨by omega, by omega⟩) ((t1.1 2 5))) hE hZ (uwV m_20_19 m_20_20 m_20_21 m_5_22 m_20_22) (hdV 2 (by decide +kernel) rfl) ⟨Nat.le_of_ble_eq_true rfl, Nat.le_of_ble_eq_true rfl⟩ rfl rfl (ci := 4) (q0 := 24) rfl rfl rfl hl.1 (Nat.le_of_ble_eq_true rfl) dX0_takeApart_189 ⟨Nat.le_of_ble_eq_true rfl, Nat.le_of_ble_eq_true rfl⟩ (fun t_5 H locs hw hP hD hS => ?_)
    obtain ⟨hok, f_7⟩ := hw
    have hfr : frA [(5, 11), (5, 12), (5, 14), (24, 2), (24, 3), (24, 4), (24, 5), (24, 6), (24, 8)] [(5, 13), (24, 7), (24, 9)] [] [] t t_5 := frA_tr hfr f_7 rfl
    have h_8 : (t_5.1 5 11).toInt = (t1.1 5 11).toInt := ti_eq (f_7.1 5 11 rfl)
    have h_9 : (t_5.1 5 9).toInt = (t1.1 5 9).toInt := ti_eq (f_7.1 5 9 rfl)
    have h_10 : (t_5.1 2 5).toInt = (t1.1 2 5).toInt := ti_eq (f_7.1 2 5 rfl)
    have h_11 : (t_5.1 23 3).toInt = (t1.1 23 3).toInt := ti_eq (f_7.1 23 3 rfl)
    have h_12 : (0 : Int) ≤ (t_5.1 23 3).toInt ∧ (t_5.1 23 3).toInt ≤ 1024 := hok.1 23 3
    refine lv_iconst (v := 0) C.1 C.2.1 dX0_takeApart_192 (by decide) ?_
    exact g_iret C hr hlocks hP hD hS rfl t_5 rfl ⟨hok, hfr, by decide, by decide⟩ (Nat.le_of_ble_eq_true rfl) (Nat.le_of_ble_eq_true rfl) dX0_takeApart_193
  have L_112 : ∀ (t1 : tSt) (w112_1 : Int32) (w112_2 : Int32) (H : Heap) (locs : List Loc) (ls : Array Slot), okX t1 → frA [(5, 11), (5, 12), (5, 14), (24, 2), (24, 3), (24, 4), (24, 5), (24, 6), (24, 8)] [(5, 13), (24, 7), (24, 9)] [] [] t t1 → (-1 : Int) ≤ w112_1.toInt ∧ w112_1.toInt ≤ 15 → (0 : Int) ≤ w112_2.toInt ∧ w112_2.toInt ≤ 15 → (-1 : Int) ≤ (t1.1 5 11).toInt ∧ (t1.1 5 11).toInt ≤ -1 → va_P D vwCl ((WX d) K ad t1) H → va_D A ((WX d) K ad t1) → va_S A s.heap H locs → lv_has ls 3 [(0, .ref (ad 5)), (1, .int w112_1), (2, .int w112_2)] → W p l e (rmD 7 0 0) s m [.ref (ad 5)].toArray below meth c H locs 0 0 (MQ below (QI D K (fun (r : Int32) (u : tSt) => okX u ∧ frA [(5, 11), (5, 12), (5, 14), (24, 2), (24, 3), (24, 4), (24, 5), (24, 6), (24, 8)] [(5, 13), (24, 7), (24, 9)] [] [] t u ∧ (0 : Int) ≤ r.toInt ∧ r.toInt ≤ 8) (fun (u : tSt) => (WX d) K ad u) A) [.ref (ad 5)].toArray s 0 0 A) (F0 m 112 ls []) := by
    intro t1 w112_1 w112_2 H locs ls hok hfr hw112_1 hw112_2 hf112_11 hP hD hS hl
    have h_13 : (t1.1 23 3).toInt = (t.1 23 3).toInt := ti_eq (hfr.1 23 3 rfl)
    have h_14 : (0 : Int) ≤ (t1.1 23 3).toInt ∧ (t1.1 23 3).toInt ≤ 1024 := hok.1 23 3
    refine lv_aload_n C.1 C.2.1 dX0_takeApart_112 rfl (lv_at hl 0 rfl) ?_
    refine lv_aload_n C.1 C.2.1 dX0_takeApart_113 rfl (lv_at hl 0 rfl) ?_
    refine g_Vi (As := []) (rest := [.ref (ad 5)]) C hP hD hS hA (T_X0_findOp l D K Z Y ad d t1 hok ) hE hZ (uwV m_20_0 m_20_1 m_20_2 m_2_2 m_20_3) (hdV 0 (by decide +kernel) rfl) ⟨Nat.le_of_ble_eq_true rfl, Nat.le_of_ble_eq_true rfl⟩ rfl rfl (ci := 0) (q0 := 5) rfl rfl rfl hl.1 (Nat.le_of_ble_eq_true rfl) dX0_takeApart_114 ⟨Nat.le_of_ble_eq_true rfl, Nat.le_of_ble_eq_true rfl⟩ (fun r_16 t_15 H locs hw hP hD hS => ?_)
    obtain ⟨h_18, h_19⟩ := hw
    refine k_put (ws' := (WX d) K ad (uI t1 5 11 r_16)) (v := .int r_16) C hP hD hS 5 rfl rfl inlX0 tyX0_ok nmX0 11 (by decide) m_13_17 rfl rfl rfl rfl rfl dX0_takeApart_117 (fun H locs hP hD hS => ?_)
    have hok : okX (uI t1 5 11 r_16) := ⟨okI_I hok.1 5 11 r_16 (show (-1 : Int) ≤ (r_16 : Int32).toInt ∧ (r_16 : Int32).toInt ≤ 156 from ⟨by omega, by omega⟩), hok.2.1, trivial⟩
    have hfr : frA [(5, 11), (5, 12), (5, 14), (24, 2), (24, 3), (24, 4), (24, 5), (24, 6), (24, 8)] [(5, 13), (24, 7), (24, 9)] [] [] t (uI t1 5 11 r_16) := frA_I hfr 5 11 _ rfl
    refine lv_aload_n C.1 C.2.1 dX0_takeApart_120 rfl (lv_at hl 0 rfl) ?_
    refine k_get (v := .int r_16) C hP 5 rfl rfl inlX0 11 (by decide) m_13_17 rfl dX0_takeApart_121 ?_
    refine lv_if_ge (tgt := 129) C.1 C.2.1 dX0_takeApart_124 (by decide) (fun c_20 => ?_) (fun c_20 => ?_)
    · replace c_20 : 0 ≤ r_16.toInt := i_le c_20
      refine lv_aload_n C.1 C.2.1 dX0_takeApart_129 rfl (lv_at hl 0 rfl) ?_
      refine k_get (v := .int r_16) C hP 5 rfl rfl inlX0 11 (by decide) m_13_17 rfl dX0_takeApart_130 ?_
      refine lv_sipush (v := 150) C.1 C.2.1 dX0_takeApart_133 (by decide) ?_
      refine lv_icmp_lt (tgt := 142) C.1 C.2.1 dX0_takeApart_136 (by decide) (fun c_21 => ?_) (fun c_21 => ?_)
      · replace c_21 : r_16.toInt < 150 := i_lt c_21
        refine lv_aload_n C.1 C.2.1 dX0_takeApart_142 rfl (lv_at hl 0 rfl) ?_
        have h_22 : (0 : Int) ≤ (t1.1 5 12).toInt ∧ (t1.1 5 12).toInt ≤ 3 := hok.1 5 12
        refine k_get (v := .int (t1.1 5 12)) C hP 5 rfl rfl inlX0 12 (by decide) m_18_20 rfl dX0_takeApart_143 ?_
        refine lv_iconst (v := 2) C.1 C.2.1 dX0_takeApart_146 (by decide) ?_
        refine lv_icmp_ne (tgt := 174) C.1 C.2.1 dX0_takeApart_147 (by decide) (fun c_23 => ?_) (fun c_23 => ?_)
        · replace c_23 : ¬ (t1.1 5 12).toInt = 2 := i_ne c_23
          exact L_174 (uI t1 5 11 r_16) w112_1 w112_2 _ _ _ hok hfr ⟨by omega, by omega⟩ ⟨by omega, by omega⟩ (show (0 : Int) ≤ (r_16 : Int32).toInt ∧ (r_16 : Int32).toInt ≤ 149 from ⟨by omega, by omega⟩) hP hD hS (lv_sub hl [0, 1, 2] rfl)
        · replace c_23 : (t1.1 5 12).toInt = 2 := i_eq c_23
          refine lv_aload_n C.1 C.2.1 dX0_takeApart_150 rfl (lv_at hl 0 rfl) ?_
          refine k_get (v := .ref (ad 23)) C hP 5 rfl rfl inlX0 2 (by decide) m_5_19 rfl dX0_takeApart_151 ?_
          refine lv_aload_n C.1 C.2.1 dX0_takeApart_154 rfl (lv_at hl 0 rfl) ?_
          refine k_get (v := .ref (ad 23)) C hP 5 rfl rfl inlX0 2 (by decide) m_5_19 rfl dX0_takeApart_155 ?_
          refine lv_aload_n C.1 C.2.1 dX0_takeApart_158 rfl (lv_at hl 0 rfl) ?_
          refine k_get (v := .long (t1.2.1 5 13)) C hP 5 rfl rfl inlX0 13 (by decide) m_18_22 rfl dX0_takeApart_159 ?_
          refine g_Vi (As := [.long (t1.2.1 5 13)]) (rest := [.ref (ad 23)]) C hP hD hS hA (T_X8_find l D K Z Y ad d (uI t1 5 11 r_16) hok ((t1.2.1 5 13))) hE hZ (uwV m_20_11 m_20_12 m_20_13 m_2_5 m_20_14) (hdV 1 (by decide +kernel) rfl) ⟨Nat.le_of_ble_eq_true rfl, Nat.le_of_ble_eq_true rfl⟩ rfl rfl (ci := 7) (q0 := 23) rfl rfl rfl hl.1 (Nat.le_of_ble_eq_true rfl) dX0_takeApart_162 ⟨Nat.le_of_ble_eq_true rfl, Nat.le_of_ble_eq_true rfl⟩ (fun r_25 t_24 H locs hw hP hD hS => ?_)
          obtain ⟨h_27, h_28⟩ := hw
          refine g_Vi (As := [.int r_25]) (rest := []) C hP hD hS hA (T_X8_standing l D K Z Y ad d (uI t1 5 11 r_16) hok (r_25) (show (-128 : Int) ≤ (r_25 : Int32).toInt ∧ (r_25 : Int32).toInt ≤ 2147483647 from ⟨by omega, (i_rng _).2⟩)) hE hZ (uwV m_20_15 m_20_16 m_20_17 m_2_5 m_20_18) (hdV 1 (by decide +kernel) rfl) ⟨Nat.le_of_ble_eq_true rfl, Nat.le_of_ble_eq_true rfl⟩ rfl rfl (ci := 7) (q0 := 23) rfl rfl rfl hl.1 (Nat.le_of_ble_eq_true rfl) dX0_takeApart_165 ⟨Nat.le_of_ble_eq_true rfl, Nat.le_of_ble_eq_true rfl⟩ (fun r_30 t_29 H locs hw hP hD hS => ?_)
          obtain ⟨h_32, h_33, p_34⟩ := hw
          replace p_34 : ¬ r_30.toInt = 0 → 0 ≤ r_25.toInt ∧ r_25.toInt < (t1.1 23 3).toInt := p_34
          refine lv_iconst (v := 2) C.1 C.2.1 dX0_takeApart_168 (by decide) ?_
          refine lv_icmp_ne (tgt := 174) C.1 C.2.1 dX0_takeApart_169 (by decide) (fun c_35 => ?_) (fun c_35 => ?_)
          · replace c_35 : ¬ r_30.toInt = 2 := i_ne c_35
            exact L_174 (uI t1 5 11 r_16) w112_1 w112_2 _ _ _ hok hfr ⟨by omega, by omega⟩ ⟨by omega, by omega⟩ (show (0 : Int) ≤ (r_16 : Int32).toInt ∧ (r_16 : Int32).toInt ≤ 149 from ⟨by omega, by omega⟩) hP hD hS (lv_sub hl [0, 1, 2] rfl)
          · replace c_35 : r_30.toInt = 2 := i_eq c_35
            refine lv_iconst (v := 3) C.1 C.2.1 dX0_takeApart_172 (by decide) ?_
            exact g_iret C hr hlocks hP hD hS rfl (uI t1 5 11 r_16) rfl ⟨hok, hfr, by decide, by decide⟩ (Nat.le_of_ble_eq_true rfl) (Nat.le_of_ble_eq_true rfl) dX0_takeApart_173
      · replace c_21 : 150 ≤ r_16.toInt := i_nlt c_21
        refine lv_bipush (v := 8) C.1 C.2.1 dX0_takeApart_139 (by decide) ?_
        exact g_iret C hr hlocks hP hD hS rfl (uI t1 5 11 r_16) rfl ⟨hok, hfr, by decide, by decide⟩ (Nat.le_of_ble_eq_true rfl) (Nat.le_of_ble_eq_true rfl) dX0_takeApart_141
    · replace c_20 : r_16.toInt < 0 := i_nle c_20
      refine lv_iconst (v := 2) C.1 C.2.1 dX0_takeApart_127 (by decide) ?_
      exact g_iret C hr hlocks hP hD hS rfl (uI t1 5 11 r_16) rfl ⟨hok, hfr, by decide, by decide⟩ (Nat.le_of_ble_eq_true rfl) (Nat.le_of_ble_eq_true rfl) dX0_takeApart_128
  have L_95 : ∀ (t1 : tSt) (w95_1 : Int32) (w95_2 : Int32) (H : Heap) (locs : List Loc) (ls : Array Slot), okX t1 → frA [(5, 11), (5, 12), (5, 14), (24, 2), (24, 3), (24, 4), (24, 5), (24, 6), (24, 8)] [(5, 13), (24, 7), (24, 9)] [] [] t t1 → (-1 : Int) ≤ w95_1.toInt ∧ w95_1.toInt ≤ 15 → (-1 : Int) ≤ w95_2.toInt ∧ w95_2.toInt ≤ 15 → (-1 : Int) ≤ (t1.1 5 11).toInt ∧ (t1.1 5 11).toInt ≤ -1 → va_P D vwCl ((WX d) K ad t1) H → va_D A ((WX d) K ad t1) → va_S A s.heap H locs → lv_has ls 3 [(0, .ref (ad 5)), (1, .int w95_1), (2, .int w95_2)] → W p l e (rmD 7 0 0) s m [.ref (ad 5)].toArray below meth c H locs 0 0 (MQ below (QI D K (fun (r : Int32) (u : tSt) => okX u ∧ frA [(5, 11), (5, 12), (5, 14), (24, 2), (24, 3), (24, 4), (24, 5), (24, 6), (24, 8)] [(5, 13), (24, 7), (24, 9)] [] [] t u ∧ (0 : Int) ≤ r.toInt ∧ r.toInt ≤ 8) (fun (u : tSt) => (WX d) K ad u) A) [.ref (ad 5)].toArray s 0 0 A) (F0 m 95 ls []) := by
    intro t1 w95_1 w95_2 H locs ls hok hfr hw95_1 hw95_2 hf95_11 hP hD hS hl
    have h_36 : (t1.1 23 3).toInt = (t.1 23 3).toInt := ti_eq (hfr.1 23 3 rfl)
    have h_37 : (0 : Int) ≤ (t1.1 23 3).toInt ∧ (t1.1 23 3).toInt ≤ 1024 := hok.1 23 3
    refine lv_iload_n C.1 C.2.1 dX0_takeApart_95 rfl (lv_at hl 2 rfl) ?_
    refine lv_if_lt (tgt := 110) C.1 C.2.1 dX0_takeApart_96 (by decide) (fun c_38 => ?_) (fun c_38 => ?_)
    · replace c_38 : w95_2.toInt < 0 := i_lt c_38
      refine lv_iconst (v := 1) C.1 C.2.1 dX0_takeApart_110 (by decide) ?_
      exact g_iret C hr hlocks hP hD hS rfl t1 rfl ⟨hok, hfr, by decide, by decide⟩ (Nat.le_of_ble_eq_true rfl) (Nat.le_of_ble_eq_true rfl) dX0_takeApart_111
    · replace c_38 : 0 ≤ w95_2.toInt := i_nlt c_38
      refine lv_iload_n C.1 C.2.1 dX0_takeApart_99 rfl (lv_at hl 1 rfl) ?_
      refine lv_if_eq (tgt := 112) C.1 C.2.1 dX0_takeApart_100 (by decide) (fun c_39 => ?_) (fun c_39 => ?_)
      · replace c_39 : w95_1.toInt = 0 := i_eq c_39
        exact L_112 t1 w95_1 w95_2 _ _ _ hok hfr ⟨by omega, by omega⟩ ⟨by omega, by omega⟩ (show (-1 : Int) ≤ ((t1.1 5 11) : Int32).toInt ∧ ((t1.1 5 11) : Int32).toInt ≤ -1 from ⟨by omega, by omega⟩) hP hD hS (lv_sub hl [0, 1, 2] rfl)
      · replace c_39 : ¬ w95_1.toInt = 0 := i_ne c_39
        refine lv_aload_n C.1 C.2.1 dX0_takeApart_103 rfl (lv_at hl 0 rfl) ?_
        have h_40 : (0 : Int) ≤ (t1.1 5 12).toInt ∧ (t1.1 5 12).toInt ≤ 3 := hok.1 5 12
        refine k_get (v := .int (t1.1 5 12)) C hP 5 rfl rfl inlX0 12 (by decide) m_18_20 rfl dX0_takeApart_104 ?_
        refine lv_if_ne (tgt := 112) C.1 C.2.1 dX0_takeApart_107 (by decide) (fun c_41 => ?_) (fun c_41 => ?_)
        · replace c_41 : ¬ (t1.1 5 12).toInt = 0 := i_ne c_41
          exact L_112 t1 w95_1 w95_2 _ _ _ hok hfr ⟨by omega, by omega⟩ ⟨by omega, by omega⟩ (show (-1 : Int) ≤ ((t1.1 5 11) : Int32).toInt ∧ ((t1.1 5 11) : Int32).toInt ≤ -1 from ⟨by omega, by omega⟩) hP hD hS (lv_sub hl [0, 1, 2] rfl)
        · replace c_41 : (t1.1 5 12).toInt = 0 := i_eq c_41
          refine lv_iconst (v := 1) C.1 C.2.1 dX0_takeApart_110 (by decide) ?_
          exact g_iret C hr hlocks hP hD hS rfl t1 rfl ⟨hok, hfr, by decide, by decide⟩ (Nat.le_of_ble_eq_true rfl) (Nat.le_of_ble_eq_true rfl) dX0_takeApart_111
  have L_57 : ∀ (t1 : tSt) (w57_1 : Int32) (w57_2 : Int32) (H : Heap) (locs : List Loc) (ls : Array Slot), okX t1 → frA [(5, 11), (5, 12), (5, 14), (24, 2), (24, 3), (24, 4), (24, 5), (24, 6), (24, 8)] [(5, 13), (24, 7), (24, 9)] [] [] t t1 → (-1 : Int) ≤ w57_1.toInt ∧ w57_1.toInt ≤ 15 → (-1 : Int) ≤ w57_2.toInt ∧ w57_2.toInt ≤ 15 → (-1 : Int) ≤ (t1.1 5 11).toInt ∧ (t1.1 5 11).toInt ≤ -1 → (0 : Int) ≤ (t1.1 5 12).toInt ∧ (t1.1 5 12).toInt ≤ 0 → va_P D vwCl ((WX d) K ad t1) H → va_D A ((WX d) K ad t1) → va_S A s.heap H locs → lv_has ls 3 [(0, .ref (ad 5)), (1, .int w57_1), (2, .int w57_2)] → W p l e (rmD 7 0 0) s m [.ref (ad 5)].toArray below meth c H locs 0 0 (MQ below (QI D K (fun (r : Int32) (u : tSt) => okX u ∧ frA [(5, 11), (5, 12), (5, 14), (24, 2), (24, 3), (24, 4), (24, 5), (24, 6), (24, 8)] [(5, 13), (24, 7), (24, 9)] [] [] t u ∧ (0 : Int) ≤ r.toInt ∧ r.toInt ≤ 8) (fun (u : tSt) => (WX d) K ad u) A) [.ref (ad 5)].toArray s 0 0 A) (F0 m 57 ls []) := by
    intro t1 w57_1 w57_2 H locs ls hok hfr hw57_1 hw57_2 hf57_11 hf57_12 hP hD hS hl
    have h_42 : (t1.1 23 3).toInt = (t.1 23 3).toInt := ti_eq (hfr.1 23 3 rfl)
    have h_43 : (0 : Int) ≤ (t1.1 23 3).toInt ∧ (t1.1 23 3).toInt ≤ 1024 := hok.1 23 3
    refine lv_iload_n C.1 C.2.1 dX0_takeApart_57 rfl (lv_at hl 1 rfl) ?_
    refine lv_if_eq (tgt := 95) C.1 C.2.1 dX0_takeApart_58 (by decide) (fun c_44 => ?_) (fun c_44 => ?_)
    · replace c_44 : w57_1.toInt = 0 := i_eq c_44
      exact L_95 t1 w57_1 w57_2 _ _ _ hok hfr ⟨by omega, by omega⟩ ⟨by omega, by omega⟩ (show (-1 : Int) ≤ ((t1.1 5 11) : Int32).toInt ∧ ((t1.1 5 11) : Int32).toInt ≤ -1 from ⟨by omega, by omega⟩) hP hD hS (lv_sub hl [0, 1, 2] rfl)
    · replace c_44 : ¬ w57_1.toInt = 0 := i_ne c_44
      refine lv_aload_n C.1 C.2.1 dX0_takeApart_61 rfl (lv_at hl 0 rfl) ?_
      refine lv_aload_n C.1 C.2.1 dX0_takeApart_62 rfl (lv_at hl 0 rfl) ?_
      refine k_get (v := .ref (ad 24)) C hP 5 rfl rfl inlX0 3 (by decide) m_6_0 rfl dX0_takeApart_63 ?_
      refine lv_iload_n C.1 C.2.1 dX0_takeApart_66 rfl (lv_at hl 1 rfl) ?_
      refine g_Vi (As := [.int w57_1]) (rest := [.ref (ad 5)]) C hP hD hS hA (T_X5_labelKind l D K Z Y ad d t1 hok (w57_1) (show (-1 : Int) ≤ (w57_1 : Int32).toInt ∧ (w57_1 : Int32).toInt ≤ 15 from ⟨by omega, by omega⟩)) hE hZ (uwV m_19_5 m_19_6 m_19_7 m_5_22 m_19_8) (hdV 1 (by decide +kernel) rfl) ⟨Nat.le_of_ble_eq_true rfl, Nat.le_of_ble_eq_true rfl⟩ rfl rfl (ci := 4) (q0 := 24) rfl rfl rfl hl.1 (Nat.le_of_ble_eq_true rfl) dX0_takeApart_67 ⟨Nat.le_of_ble_eq_true rfl, Nat.le_of_ble_eq_true rfl⟩ (fun r_46 t_45 H locs hw hP hD hS => ?_)
      obtain ⟨hok, f_47, h_48, h_49⟩ := hw
      have hfr : frA [(5, 11), (5, 12), (5, 14), (24, 2), (24, 3), (24, 4), (24, 5), (24, 6), (24, 8)] [(5, 13), (24, 7), (24, 9)] [] [] t t_45 := frA_tr hfr f_47 rfl
      have h_50 : (t_45.1 5 11).toInt = (t1.1 5 11).toInt := ti_eq (f_47.1 5 11 rfl)
      have h_51 : (t_45.1 5 12).toInt = (t1.1 5 12).toInt := ti_eq (f_47.1 5 12 rfl)
      have h_52 : (t_45.1 23 3).toInt = (t1.1 23 3).toInt := ti_eq (f_47.1 23 3 rfl)
      have h_53 : (0 : Int) ≤ (t_45.1 23 3).toInt ∧ (t_45.1 23 3).toInt ≤ 1024 := hok.1 23 3
      refine k_put (ws' := (WX d) K ad (uI t_45 5 12 r_46)) (v := .int r_46) C hP hD hS 5 rfl rfl inlX0 tyX0_ok nmX0 12 (by decide) m_18_20 rfl rfl rfl rfl rfl dX0_takeApart_70 (fun H locs hP hD hS => ?_)
      have hok : okX (uI t_45 5 12 r_46) := ⟨okI_I hok.1 5 12 r_46 (show (0 : Int) ≤ (r_46 : Int32).toInt ∧ (r_46 : Int32).toInt ≤ 3 from ⟨by omega, by omega⟩), hok.2.1, trivial⟩
      have hfr : frA [(5, 11), (5, 12), (5, 14), (24, 2), (24, 3), (24, 4), (24, 5), (24, 6), (24, 8)] [(5, 13), (24, 7), (24, 9)] [] [] t (uI t_45 5 12 r_46) := frA_I hfr 5 12 _ rfl
      refine lv_aload_n C.1 C.2.1 dX0_takeApart_73 rfl (lv_at hl 0 rfl) ?_
      refine lv_aload_n C.1 C.2.1 dX0_takeApart_74 rfl (lv_at hl 0 rfl) ?_
      refine k_get (v := .ref (ad 24)) C hP 5 rfl rfl inlX0 3 (by decide) m_6_0 rfl dX0_takeApart_75 ?_
      refine k_get (v := .long (t_45.2.1 24 7)) C hP 24 rfl rfl inlX5 7 (by decide) m_18_21 rfl dX0_takeApart_78 ?_
      refine k_put (ws' := (WX d) K ad (uJ (uI t_45 5 12 r_46) 5 13 (t_45.2.1 24 7))) (v := .long (t_45.2.1 24 7)) C hP hD hS 5 rfl rfl inlX0 tyX0_ok nmX0 13 (by decide) m_18_22 rfl rfl rfl rfl rfl dX0_takeApart_81 (fun H locs hP hD hS => ?_)
      have hok : okX (uJ (uI t_45 5 12 r_46) 5 13 (t_45.2.1 24 7)) := ⟨hok.1, hok.2.1, trivial⟩
      have hfr : frA [(5, 11), (5, 12), (5, 14), (24, 2), (24, 3), (24, 4), (24, 5), (24, 6), (24, 8)] [(5, 13), (24, 7), (24, 9)] [] [] t (uJ (uI t_45 5 12 r_46) 5 13 (t_45.2.1 24 7)) := frA_J hfr 5 13 _ rfl
      refine lv_aload_n C.1 C.2.1 dX0_takeApart_84 rfl (lv_at hl 0 rfl) ?_
      refine lv_aload_n C.1 C.2.1 dX0_takeApart_85 rfl (lv_at hl 0 rfl) ?_
      refine k_get (v := .ref (ad 24)) C hP 5 rfl rfl inlX0 3 (by decide) m_6_0 rfl dX0_takeApart_86 ?_
      have h_54 : (-3999 : Int) ≤ (t_45.1 24 8).toInt ∧ (t_45.1 24 8).toInt ≤ 79 := hok.1 24 8
      refine k_get (v := .int (t_45.1 24 8)) C hP 24 rfl rfl inlX5 8 (by decide) m_18_23 rfl dX0_takeApart_89 ?_
      refine k_put (ws' := (WX d) K ad (uI (uJ (uI t_45 5 12 r_46) 5 13 (t_45.2.1 24 7)) 5 14 (t_45.1 24 8))) (v := .int (t_45.1 24 8)) C hP hD hS 5 rfl rfl inlX0 tyX0_ok nmX0 14 (by decide) m_19_0 rfl rfl rfl rfl rfl dX0_takeApart_92 (fun H locs hP hD hS => ?_)
      have hok : okX (uI (uJ (uI t_45 5 12 r_46) 5 13 (t_45.2.1 24 7)) 5 14 (t_45.1 24 8)) := ⟨okI_I hok.1 5 14 (t_45.1 24 8) (show (-3999 : Int) ≤ ((t_45.1 24 8) : Int32).toInt ∧ ((t_45.1 24 8) : Int32).toInt ≤ 79 from ⟨by omega, by omega⟩), hok.2.1, trivial⟩
      have hfr : frA [(5, 11), (5, 12), (5, 14), (24, 2), (24, 3), (24, 4), (24, 5), (24, 6), (24, 8)] [(5, 13), (24, 7), (24, 9)] [] [] t (uI (uJ (uI t_45 5 12 r_46) 5 13 (t_45.2.1 24 7)) 5 14 (t_45.1 24 8)) := frA_I hfr 5 14 _ rfl
      exact L_95 (uI (uJ (uI t_45 5 12 r_46) 5 13 (t_45.2.1 24 7)) 5 14 (t_45.1 24 8)) w57_1 w57_2 _ _ _ hok hfr ⟨by omega, by omega⟩ ⟨by omega, by omega⟩ (show (-1 : Int) ≤ ((t_45.1 5 11) : Int32).toInt ∧ ((t_45.1 5 11) : Int32).toInt ≤ -1 from ⟨by omega, by omega⟩) hP hD hS (lv_sub hl [0, 1, 2] rfl)
  refine lv_aload_n C.1 C.2.1 dX0_takeApart_0 rfl (lv_at hl 0 rfl) ?_
  refine lv_iconst (v := (-1)) C.1 C.2.1 dX0_takeApart_1 (by decide) ?_
  refine k_put (ws' := (WX d) K ad (uI t 5 11 (-1))) (v := .int (-1)) C hP hD hS 5 rfl rfl inlX0 tyX0_ok nmX0 11 (by decide) m_13_17 rfl rfl rfl rfl rfl dX0_takeApart_2 (fun H locs hP hD hS => ?_)
  have hok : okX (uI t 5 11 (-1)) := ⟨okI_I hok.1 5 11 (-1) (show (-1 : Int) ≤ ((-1) : Int32).toInt ∧ ((-1) : Int32).toInt ≤ 156 from ⟨by decide, by decide⟩), hok.2.1, trivial⟩
  have hfr : frA [(5, 11), (5, 12), (5, 14), (24, 2), (24, 3), (24, 4), (24, 5), (24, 6), (24, 8)] [(5, 13), (24, 7), (24, 9)] [] [] t (uI t 5 11 (-1)) := frA_I hfr 5 11 _ rfl
  refine lv_aload_n C.1 C.2.1 dX0_takeApart_5 rfl (lv_at hl 0 rfl) ?_
  refine lv_iconst (v := 0) C.1 C.2.1 dX0_takeApart_6 (by decide) ?_
  refine k_put (ws' := (WX d) K ad (uI (uI t 5 11 (-1)) 5 12 0)) (v := .int 0) C hP hD hS 5 rfl rfl inlX0 tyX0_ok nmX0 12 (by decide) m_18_20 rfl rfl rfl rfl rfl dX0_takeApart_7 (fun H locs hP hD hS => ?_)
  have hok : okX (uI (uI t 5 11 (-1)) 5 12 0) := ⟨okI_I hok.1 5 12 0 (show (0 : Int) ≤ (0 : Int32).toInt ∧ (0 : Int32).toInt ≤ 3 from ⟨by decide, by decide⟩), hok.2.1, trivial⟩
  have hfr : frA [(5, 11), (5, 12), (5, 14), (24, 2), (24, 3), (24, 4), (24, 5), (24, 6), (24, 8)] [(5, 13), (24, 7), (24, 9)] [] [] t (uI (uI t 5 11 (-1)) 5 12 0) := frA_I hfr 5 12 _ rfl
  refine lv_aload_n C.1 C.2.1 dX0_takeApart_10 rfl (lv_at hl 0 rfl) ?_
  refine k_get (v := .ref (ad 24)) C hP 5 rfl rfl inlX0 3 (by decide) m_6_0 rfl dX0_takeApart_11 ?_
  refine lv_iconst (v := 0) C.1 C.2.1 dX0_takeApart_14 (by decide) ?_
  refine lv_bipush (v := 10) C.1 C.2.1 dX0_takeApart_15 (by decide) ?_
  refine g_Vi (As := [.int 0, .int 10]) (rest := []) C hP hD hS hA (T_X5_sizeOf l D K Z Y ad d (uI (uI t 5 11 (-1)) 5 12 0) hok 0 (show (0 : Int) ≤ (0 : Int32).toInt ∧ (0 : Int32).toInt ≤ 15 from ⟨by decide, by decide⟩) 10 (show (10 : Int) ≤ (10 : Int32).toInt ∧ (10 : Int32).toInt ≤ 15 from ⟨by decide, by decide⟩)) hE hZ (uwV m_19_1 m_19_2 m_19_3 m_5_22 m_19_4) (hdV 2 (by decide +kernel) rfl) ⟨Nat.le_of_ble_eq_true rfl, Nat.le_of_ble_eq_true rfl⟩ rfl rfl (ci := 4) (q0 := 24) rfl rfl rfl hl.1 (Nat.le_of_ble_eq_true rfl) dX0_takeApart_17 ⟨Nat.le_of_ble_eq_true rfl, Nat.le_of_ble_eq_true rfl⟩ (fun r_56 t_55 H locs hw hP hD hS => ?_)
  obtain ⟨h_58, h_59⟩ := hw
  refine lv_istore_n (lv' := [(1, .int r_56), (0, .ref (ad 5))]) C.1 C.2.1 dX0_takeApart_20 rfl hl (by decide) rfl (fun ls hl => ?_)
  have hl : lv_has ls 3 [(0, .ref (ad 5)), (1, .int r_56)] := lv_sub hl [1, 0] rfl
  refine lv_aload_n C.1 C.2.1 dX0_takeApart_21 rfl (lv_at hl 0 rfl) ?_
  refine k_get (v := .ref (ad 24)) C hP 5 rfl rfl inlX0 3 (by decide) m_6_0 rfl dX0_takeApart_22 ?_
  refine lv_bipush (v := 11) C.1 C.2.1 dX0_takeApart_25 (by decide) ?_
  refine lv_bipush (v := 15) C.1 C.2.1 dX0_takeApart_27 (by decide) ?_
  refine g_Vi (As := [.int 11, .int 15]) (rest := []) C hP hD hS hA (T_X5_sizeOf l D K Z Y ad d (uI (uI t 5 11 (-1)) 5 12 0) hok 11 (show (0 : Int) ≤ (11 : Int32).toInt ∧ (11 : Int32).toInt ≤ 15 from ⟨by decide, by decide⟩) 15 (show (10 : Int) ≤ (15 : Int32).toInt ∧ (15 : Int32).toInt ≤ 15 from ⟨by decide, by decide⟩)) hE hZ (uwV m_19_1 m_19_2 m_19_3 m_5_22 m_19_4) (hdV 2 (by decide +kernel) rfl) ⟨Nat.le_of_ble_eq_true rfl, Nat.le_of_ble_eq_true rfl⟩ rfl rfl (ci := 4) (q0 := 24) rfl rfl rfl hl.1 (Nat.le_of_ble_eq_true rfl) dX0_takeApart_29 ⟨Nat.le_of_ble_eq_true rfl, Nat.le_of_ble_eq_true rfl⟩ (fun r_61 t_60 H locs hw hP hD hS => ?_)
  obtain ⟨h_63, h_64⟩ := hw
  refine lv_istore_n (lv' := [(2, .int r_61), (0, .ref (ad 5)), (1, .int r_56)]) C.1 C.2.1 dX0_takeApart_32 rfl hl (by decide) rfl (fun ls hl => ?_)
  have hl : lv_has ls 3 [(0, .ref (ad 5)), (1, .int r_56), (2, .int r_61)] := lv_sub hl [1, 2, 0] rfl
  refine lv_aload_n C.1 C.2.1 dX0_takeApart_33 rfl (lv_at hl 0 rfl) ?_
  refine k_get (v := .ref (ad 2)) C hP 5 rfl rfl inlX0 0 (by decide) m_5_17 rfl dX0_takeApart_34 ?_
  refine k_get (v := .ref (ad 9)) C hP 2 rfl rfl inlX9 1 (by decide) m_5_23 rfl dX0_takeApart_37 ?_
  refine lv_iconst (v := 0) C.1 C.2.1 dX0_takeApart_40 (by decide) ?_
  obtain ⟨v_65, e_66⟩ : ∃ z, z = (t.2.2.1 9 (0 : Int32).toNatClampNeg) := ⟨_, rfl⟩
  have h_67 : (-128 : Int) ≤ v_65.toInt ∧ v_65.toInt ≤ 127 := by rw [e_66]; exact hok.2.1 9 _
  refine k_bld (v := v_65) C hP 9 rfl (vin (by decide)) e_66.symm dX0_takeApart_41 ?_
  refine lv_bipush (v := 42) C.1 C.2.1 dX0_takeApart_42 (by decide) ?_
  refine lv_icmp_eq (tgt := 55) C.1 C.2.1 dX0_takeApart_44 (by decide) (fun c_68 => ?_) (fun c_68 => ?_)
  · replace c_68 : v_65.toInt = 42 := i_eq c_68
    refine lv_iconst (v := 0) C.1 C.2.1 dX0_takeApart_55 (by decide) ?_
    exact g_iret C hr hlocks hP hD hS rfl (uI (uI t 5 11 (-1)) 5 12 0) rfl ⟨hok, hfr, by decide, by decide⟩ (Nat.le_of_ble_eq_true rfl) (Nat.le_of_ble_eq_true rfl) dX0_takeApart_56
  · replace c_68 : ¬ v_65.toInt = 42 := i_ne c_68
    refine lv_iload_n C.1 C.2.1 dX0_takeApart_47 rfl (lv_at hl 1 rfl) ?_
    refine lv_if_ne (tgt := 57) C.1 C.2.1 dX0_takeApart_48 (by decide) (fun c_69 => ?_) (fun c_69 => ?_)
    · replace c_69 : ¬ r_56.toInt = 0 := i_ne c_69
      exact L_57 (uI (uI t 5 11 (-1)) 5 12 0) r_56 r_61 _ _ _ hok hfr ⟨by omega, by omega⟩ ⟨by omega, by omega⟩ (show (-1 : Int) ≤ ((-1) : Int32).toInt ∧ ((-1) : Int32).toInt ≤ -1 from ⟨by decide, by decide⟩) (show (0 : Int) ≤ (0 : Int32).toInt ∧ (0 : Int32).toInt ≤ 0 from ⟨by decide, by decide⟩) hP hD hS (lv_sub hl [0, 1, 2] rfl)
    · replace c_69 : r_56.toInt = 0 := i_eq c_69
      refine lv_iload_n C.1 C.2.1 dX0_takeApart_51 rfl (lv_at hl 2 rfl) ?_
      refine lv_if_ne (tgt := 57) C.1 C.2.1 dX0_takeApart_52 (by decide) (fun c_70 => ?_) (fun c_70 => ?_)
      · replace c_70 : ¬ r_61.toInt = 0 := i_ne c_70
        exact L_57 (uI (uI t 5 11 (-1)) 5 12 0) r_56 r_61 _ _ _ hok hfr ⟨by omega, by omega⟩ ⟨by omega, by omega⟩ (show (-1 : Int) ≤ ((-1) : Int32).toInt ∧ ((-1) : Int32).toInt ≤ -1 from ⟨by decide, by decide⟩) (show (0 : Int) ≤ (0 : Int32).toInt ∧ (0 : Int32).toInt ≤ 0 from ⟨by decide, by decide⟩) hP hD hS (lv_sub hl [0, 1, 2] rfl)
      · replace c_70 : r_61.toInt = 0 := i_eq c_70
        refine lv_iconst (v := 0) C.1 C.2.1 dX0_takeApart_55 (by decide) ?_
        exact g_iret C hr hlocks hP hD hS rfl (uI (uI t 5 11 (-1)) 5 12 0) rfl ⟨hok, hfr, by decide, by decide⟩ (Nat.le_of_ble_eq_true rfl) (Nat.le_of_ble_eq_true rfl) dX0_takeApart_56

theorem dX2_stop_0 : decode cX2_stop 0 = .ok (.aload_n 0, 1) := by decide +kernel
theorem dX2_stop_1 : decode cX2_stop 1 = .ok (.getfield 51, 3) := by decide +kernel
theorem dX2_stop_11 : decode cX2_stop 11 = .ok (.ifCond .ne 9, 3) := by decide +kernel
theorem dX2_stop_14 : decode cX2_stop 14 = .ok (.aload_n 0, 1) := by decide +kernel
theorem dX2_stop_15 : decode cX2_stop 15 = .ok (.iload_n 1, 1) := by decide +kernel
theorem dX2_stop_16 : decode cX2_stop 16 = .ok (.invokevirtual 103, 3) := by decide +kernel
theorem dX2_stop_19 : decode cX2_stop 19 = .ok (.return_, 1) := by decide +kernel
theorem dX2_stop_20 : decode cX2_stop 20 = .ok (.aload_n 0, 1) := by decide +kernel
theorem dX2_stop_21 : decode cX2_stop 21 = .ok (.iload_n 1, 1) := by decide +kernel
theorem dX2_stop_22 : decode cX2_stop 22 = .ok (.iconst 1, 1) := by decide +kernel
theorem dX2_stop_23 : decode cX2_stop 23 = .ok (.iadd, 1) := by decide +kernel
theorem dX2_stop_24 : decode cX2_stop 24 = .ok (.putfield 15, 3) := by decide +kernel
theorem dX2_stop_27 : decode cX2_stop 27 = .ok (.aload_n 0, 1) := by decide +kernel
theorem dX2_stop_28 : decode cX2_stop 28 = .ok (.getfield 22, 3) := by decide +kernel
theorem dX2_stop_31 : decode cX2_stop 31 = .ok (.ldc2_w 57, 3) := by decide +kernel
theorem dX2_stop_34 : decode cX2_stop 34 = .ok (.invokevirtual 106, 3) := by decide +kernel
theorem dX2_stop_37 : decode cX2_stop 37 = .ok (.return_, 1) := by decide +kernel
theorem dX2_stop_4 : decode cX2_stop 4 = .ok (.ifCond .eq 16, 3) := by decide +kernel
theorem dX2_stop_7 : decode cX2_stop 7 = .ok (.aload_n 0, 1) := by decide +kernel
theorem dX2_stop_8 : decode cX2_stop 8 = .ok (.getfield 54, 3) := by decide +kernel
set_option maxHeartbeats 4000000 in
set_option maxRecDepth 100000 in
theorem T_X2_stop (l : Launch) (D : va_G) (K : Nat → ClassId) (Z Y : Nat → Nat) (ad : Nat → Nat) (d : dSt) (t : tSt) (hok : okX t) (x1 : Int32) (hx1 : (0 : Int) ≤ x1.toInt ∧ x1.toInt ≤ 7) : tMet l yX2_stop cX2_stop 2 none (rmD 3 0 0) D K Z Y [.ref (ad 4), .int x1] ((WX d) K ad t) (QV D K (fun (u : tSt) => okX u ∧ frA [(3, 8), (4, 5), (4, 8), (4, 10)] [] [10, 15] [] t u) (fun (u : tSt) => (WX d) K ad u)) 0 0 := by
  refine t_met RX2 ⟨rfl, by decide +kernel⟩ (Nat.le_of_ble_eq_true rfl) ?_
  intro p e s m below meth c A ls C hE hZ hr hlocks hA hP hD hS hl
  have hl : lv_has ls 2 [(0, .ref (ad 4)), (1, .int x1)] := hl
  have hokt := hok
  have hfr : frA [(3, 8), (4, 5), (4, 8), (4, 10)] [] [10, 15] [] t t := frA_rf
  have L_20 : ∀ (t1 : tSt) (H : Heap) (locs : List Loc) (ls : Array Slot), okX t1 → frA [(3, 8), (4, 5), (4, 8), (4, 10)] [] [10, 15] [] t t1 → va_P D vwCl ((WX d) K ad t1) H → va_D A ((WX d) K ad t1) → va_S A s.heap H locs → lv_has ls 2 [(0, .ref (ad 4)), (1, .int x1)] → W p l e (rmD 3 0 0) s m [.ref (ad 4), .int x1].toArray below meth c H locs 0 0 (MQ below (QV D K (fun (u : tSt) => okX u ∧ frA [(3, 8), (4, 5), (4, 8), (4, 10)] [] [10, 15] [] t u) (fun (u : tSt) => (WX d) K ad u) A) [.ref (ad 4), .int x1].toArray s 0 0 A) (F0 m 20 ls []) := by
    intro t1 H locs ls hok hfr hP hD hS hl
    refine lv_aload_n C.1 C.2.1 dX2_stop_20 rfl (lv_at hl 0 rfl) ?_
    refine lv_iload_n C.1 C.2.1 dX2_stop_21 rfl (lv_at hl 1 rfl) ?_
    refine lv_iconst (v := 1) C.1 C.2.1 dX2_stop_22 (by decide) ?_
    obtain ⟨v_1, e_2⟩ : ∃ z, z = (x1 : Int32) + (1 : Int32) := ⟨_, rfl⟩
    have h_3 : v_1.toInt = x1.toInt + 1 := by rw [e_2]; exact ti_iadd (by show (_ : Int) ≤ x1.toInt + 1; omega) (by show x1.toInt + 1 < (_ : Int); omega)
    refine k_iadd (v := v_1) C e_2.symm dX2_stop_23 ?_
    refine k_put (ws' := (WX d) K ad (uI t1 4 8 v_1)) (v := .int v_1) C hP hD hS 4 rfl rfl inlX2 tyX2_ok nmX2 8 (by decide) m_4_17 rfl rfl rfl rfl rfl dX2_stop_24 (fun H locs hP hD hS => ?_)
    have hok : okX (uI t1 4 8 v_1) := ⟨okI_I hok.1 4 8 v_1 (show (0 : Int) ≤ (v_1 : Int32).toInt ∧ (v_1 : Int32).toInt ≤ 9 from ⟨by omega, by omega⟩), hok.2.1, trivial⟩
    have hfr : frA [(3, 8), (4, 5), (4, 8), (4, 10)] [] [10, 15] [] t (uI t1 4 8 v_1) := frA_I hfr 4 8 _ rfl
    refine lv_aload_n C.1 C.2.1 dX2_stop_27 rfl (lv_at hl 0 rfl) ?_
    refine k_get (v := .ref (ad 3)) C hP 4 rfl rfl inlX2 2 (by decide) m_4_19 rfl dX2_stop_28 ?_
    refine lv_ldc2 (v := 1152921504606846976) C.1 C.2.1 C.2.2.2.1 (C.2.2.2.2.1 _ m_28_16) dX2_stop_31 ?_
    refine g_Vv (As := [.long 1152921504606846976]) (rest := []) C hP hD hS hA (T_X10_settle l D K Z Y ad d (uI t1 4 8 v_1) hok 1152921504606846976) hE hZ (uwV m_46_12 m_46_13 m_46_14 m_1_20 m_46_15) (hdV 1 (by decide +kernel) rfl) ⟨Nat.le_of_ble_eq_true rfl, Nat.le_of_ble_eq_true rfl⟩ rfl rfl (ci := 9) (q0 := 3) rfl rfl rfl hl.1 (Nat.le_of_ble_eq_true rfl) dX2_stop_34 ⟨Nat.le_of_ble_eq_true rfl, Nat.le_of_ble_eq_true rfl⟩ (fun t_4 H locs hw hP hD hS => ?_)
    obtain ⟨hok, f_6⟩ := hw
    have hfr : frA [(3, 8), (4, 5), (4, 8), (4, 10)] [] [10, 15] [] t t_4 := frA_tr hfr f_6 rfl
    have h_7 : (t_4.1 4 8).toInt = v_1.toInt := ti_eq (f_6.1 4 8 rfl)
    exact g_vret C hr hlocks hP hD hS t_4 rfl ⟨hok, hfr⟩ (Nat.le_of_ble_eq_true rfl) (Nat.le_of_ble_eq_true rfl) dX2_stop_37
  refine lv_aload_n C.1 C.2.1 dX2_stop_0 rfl (lv_at hl 0 rfl) ?_
  have h_8 : (0 : Int) ≤ (t.1 4 9).toInt ∧ (t.1 4 9).toInt ≤ 1 := hok.1 4 9
  refine k_get (v := .int (t.1 4 9)) C hP 4 rfl rfl inlX2 9 (by decide) m_11_8 rfl dX2_stop_1 ?_
  refine lv_if_eq (tgt := 20) C.1 C.2.1 dX2_stop_4 (by decide) (fun c_9 => ?_) (fun c_9 => ?_)
  · replace c_9 : (t.1 4 9).toInt = 0 := i_eq c_9
    exact L_20 t _ _ _ hok hfr hP hD hS (lv_sub hl [0, 1] rfl)
  · replace c_9 : ¬ (t.1 4 9).toInt = 0 := i_ne c_9
    refine lv_aload_n C.1 C.2.1 dX2_stop_7 rfl (lv_at hl 0 rfl) ?_
    have h_10 : (0 : Int) ≤ (t.1 4 10).toInt ∧ (t.1 4 10).toInt ≤ 1 := hok.1 4 10
    refine k_get (v := .int (t.1 4 10)) C hP 4 rfl rfl inlX2 10 (by decide) m_11_9 rfl dX2_stop_8 ?_
    refine lv_if_ne (tgt := 20) C.1 C.2.1 dX2_stop_11 (by decide) (fun c_11 => ?_) (fun c_11 => ?_)
    · replace c_11 : ¬ (t.1 4 10).toInt = 0 := i_ne c_11
      exact L_20 t _ _ _ hok hfr hP hD hS (lv_sub hl [0, 1] rfl)
    · replace c_11 : (t.1 4 10).toInt = 0 := i_eq c_11
      refine lv_aload_n C.1 C.2.1 dX2_stop_14 rfl (lv_at hl 0 rfl) ?_
      refine lv_iload_n C.1 C.2.1 dX2_stop_15 rfl (lv_at hl 1 rfl) ?_
      refine g_Vv (As := [.int x1]) (rest := []) C hP hD hS hA (T_X2_interrupt l D K Z Y ad d t hok (x1) (show (0 : Int) ≤ (x1 : Int32).toInt ∧ (x1 : Int32).toInt ≤ 9 from ⟨by omega, by omega⟩)) hE hZ (uwV m_46_4 m_46_5 m_46_6 m_1_23 m_46_7) (hdV 1 (by decide +kernel) rfl) ⟨Nat.le_of_ble_eq_true rfl, Nat.le_of_ble_eq_true rfl⟩ rfl rfl (ci := 1) (q0 := 4) rfl rfl rfl hl.1 (Nat.le_of_ble_eq_true rfl) dX2_stop_16 ⟨Nat.le_of_ble_eq_true rfl, Nat.le_of_ble_eq_true rfl⟩ (fun t_12 H locs hw hP hD hS => ?_)
      obtain ⟨hok, f_14⟩ := hw
      have hfr : frA [(3, 8), (4, 5), (4, 8), (4, 10)] [] [10, 15] [] t t_12 := frA_tr hfr f_14 rfl
      have h_15 : (t_12.1 4 9).toInt = (t.1 4 9).toInt := ti_eq (f_14.1 4 9 rfl)
      exact g_vret C hr hlocks hP hD hS t_12 rfl ⟨hok, hfr⟩ (Nat.le_of_ble_eq_true rfl) (Nat.le_of_ble_eq_true rfl) dX2_stop_19

theorem dX5_wValue_0 : decode cX5_wValue 0 = .ok (.iconst 0, 1) := by decide +kernel
theorem dX5_wValue_1 : decode cX5_wValue 1 = .ok (.istore_n 1, 1) := by decide +kernel
theorem dX5_wValue_10 : decode cX5_wValue 10 = .ok (.aload_n 0, 1) := by decide +kernel
theorem dX5_wValue_11 : decode cX5_wValue 11 = .ok (.invokevirtual 126, 3) := by decide +kernel
theorem dX5_wValue_14 : decode cX5_wValue 14 = .ok (.istore_n 3, 1) := by decide +kernel
theorem dX5_wValue_15 : decode cX5_wValue 15 = .ok (.iconst 5, 1) := by decide +kernel
theorem dX5_wValue_16 : decode cX5_wValue 16 = .ok (.istore 4, 2) := by decide +kernel
theorem dX5_wValue_18 : decode cX5_wValue 18 = .ok (.aload_n 0, 1) := by decide +kernel
theorem dX5_wValue_19 : decode cX5_wValue 19 = .ok (.getfield 26, 3) := by decide +kernel
theorem dX5_wValue_2 : decode cX5_wValue 2 = .ok (.iconst 0, 1) := by decide +kernel
theorem dX5_wValue_22 : decode cX5_wValue 22 = .ok (.ifCond .ne 40, 3) := by decide +kernel
theorem dX5_wValue_25 : decode cX5_wValue 25 = .ok (.aload_n 0, 1) := by decide +kernel
theorem dX5_wValue_26 : decode cX5_wValue 26 = .ok (.bipush 40, 2) := by decide +kernel
theorem dX5_wValue_28 : decode cX5_wValue 28 = .ok (.invokevirtual 73, 3) := by decide +kernel
theorem dX5_wValue_3 : decode cX5_wValue 3 = .ok (.istore_n 2, 1) := by decide +kernel
theorem dX5_wValue_31 : decode cX5_wValue 31 = .ok (.ifCond .eq 31, 3) := by decide +kernel
theorem dX5_wValue_34 : decode cX5_wValue 34 = .ok (.aload_n 0, 1) := by decide +kernel
theorem dX5_wValue_35 : decode cX5_wValue 35 = .ok (.invokevirtual 126, 3) := by decide +kernel
theorem dX5_wValue_38 : decode cX5_wValue 38 = .ok (.invokestatic 109, 3) := by decide +kernel
theorem dX5_wValue_4 : decode cX5_wValue 4 = .ok (.iload_n 2, 1) := by decide +kernel
theorem dX5_wValue_41 : decode cX5_wValue 41 = .ok (.istore 4, 2) := by decide +kernel
theorem dX5_wValue_43 : decode cX5_wValue 43 = .ok (.iload 4, 2) := by decide +kernel
theorem dX5_wValue_45 : decode cX5_wValue 45 = .ok (.invokestatic 129, 3) := by decide +kernel
theorem dX5_wValue_48 : decode cX5_wValue 48 = .ok (.ifCond .ne 8, 3) := by decide +kernel
theorem dX5_wValue_5 : decode cX5_wValue 5 = .ok (.bipush 80, 2) := by decide +kernel
theorem dX5_wValue_51 : decode cX5_wValue 51 = .ok (.aload_n 0, 1) := by decide +kernel
theorem dX5_wValue_52 : decode cX5_wValue 52 = .ok (.iconst 5, 1) := by decide +kernel
theorem dX5_wValue_53 : decode cX5_wValue 53 = .ok (.invokevirtual 99, 3) := by decide +kernel
theorem dX5_wValue_56 : decode cX5_wValue 56 = .ok (.aload_n 0, 1) := by decide +kernel
theorem dX5_wValue_57 : decode cX5_wValue 57 = .ok (.bipush 41, 2) := by decide +kernel
theorem dX5_wValue_59 : decode cX5_wValue 59 = .ok (.invokevirtual 132, 3) := by decide +kernel
theorem dX5_wValue_62 : decode cX5_wValue 62 = .ok (.aload_n 0, 1) := by decide +kernel
theorem dX5_wValue_63 : decode cX5_wValue 63 = .ok (.getfield 26, 3) := by decide +kernel
theorem dX5_wValue_66 : decode cX5_wValue 66 = .ok (.ifCond .eq 5, 3) := by decide +kernel
theorem dX5_wValue_69 : decode cX5_wValue 69 = .ok (.iconst 0, 1) := by decide +kernel
theorem dX5_wValue_7 : decode cX5_wValue 7 = .ok (.if_icmp .ge 90, 3) := by decide +kernel
theorem dX5_wValue_70 : decode cX5_wValue 70 = .ok (.ireturn, 1) := by decide +kernel
theorem dX5_wValue_71 : decode cX5_wValue 71 = .ok (.iload_n 1, 1) := by decide +kernel
theorem dX5_wValue_72 : decode cX5_wValue 72 = .ok (.iload 4, 2) := by decide +kernel
theorem dX5_wValue_74 : decode cX5_wValue 74 = .ok (.iload_n 3, 1) := by decide +kernel
theorem dX5_wValue_75 : decode cX5_wValue 75 = .ok (.invokestatic 135, 3) := by decide +kernel
theorem dX5_wValue_78 : decode cX5_wValue 78 = .ok (.istore_n 1, 1) := by decide +kernel
theorem dX5_wValue_79 : decode cX5_wValue 79 = .ok (.aload_n 0, 1) := by decide +kernel
theorem dX5_wValue_80 : decode cX5_wValue 80 = .ok (.bipush 44, 2) := by decide +kernel
theorem dX5_wValue_82 : decode cX5_wValue 82 = .ok (.invokevirtual 73, 3) := by decide +kernel
theorem dX5_wValue_85 : decode cX5_wValue 85 = .ok (.ifCond .ne 6, 3) := by decide +kernel
theorem dX5_wValue_88 : decode cX5_wValue 88 = .ok (.goto 9, 3) := by decide +kernel
theorem dX5_wValue_91 : decode cX5_wValue 91 = .ok (.iinc 2 1, 3) := by decide +kernel
theorem dX5_wValue_94 : decode cX5_wValue 94 = .ok (.goto (-90), 3) := by decide +kernel
theorem dX5_wValue_97 : decode cX5_wValue 97 = .ok (.iload_n 1, 1) := by decide +kernel
theorem dX5_wValue_98 : decode cX5_wValue 98 = .ok (.ireturn, 1) := by decide +kernel
set_option maxHeartbeats 4000000 in
set_option maxRecDepth 100000 in
theorem T_X5_wValue (l : Launch) (D : va_G) (K : Nat → ClassId) (Z Y : Nat → Nat) (ad : Nat → Nat) (d : dSt) (t : tSt) (hok : okX t)  : tMet l yX5_wValue cX5_wValue 5 (some .int) (rmD 4 0 0) D K Z Y [.ref (ad 24)] ((WX d) K ad t) (QI D K (fun (r : Int32) (u : tSt) => okX u ∧ frA [(23, 6), (24, 2), (24, 4), (24, 8)] [(24, 7), (24, 9)] [44, 45] [] t u ∧ (-2147483648 : Int) ≤ r.toInt ∧ r.toInt ≤ 2147483647) (fun (u : tSt) => (WX d) K ad u)) 0 0 := by
  refine t_met RX5 ⟨rfl, by decide +kernel⟩ (Nat.le_of_ble_eq_true rfl) ?_
  intro p e s m below meth c A ls C hE hZ hr hlocks hA hP hD hS hl
  have hl : lv_has ls 5 [(0, .ref (ad 24))] := hl
  have hokt := hok
  have hfr : frA [(23, 6), (24, 2), (24, 4), (24, 8)] [(24, 7), (24, 9)] [44, 45] [] t t := frA_rf
  have L_4 : ∀ (fuel_4 : Nat) (t1 : tSt) (w4_1 : Int32) (w4_2 : Int32) (H : Heap) (locs : List Loc) (ls : Array Slot), okX t1 → frA [(23, 6), (24, 2), (24, 4), (24, 8)] [(24, 7), (24, 9)] [44, 45] [] t t1 → (0 : Int) ≤ w4_2.toInt ∧ w4_2.toInt ≤ 80 → (80 : Int) - w4_2.toInt < (fuel_4 : Int) → va_P D vwCl ((WX d) K ad t1) H → va_D A ((WX d) K ad t1) → va_S A s.heap H locs → lv_has ls 5 [(0, .ref (ad 24)), (1, .int w4_1), (2, .int w4_2)] → W p l e (rmD 4 0 0) s m [.ref (ad 24)].toArray below meth c H locs 0 0 (MQ below (QI D K (fun (r : Int32) (u : tSt) => okX u ∧ frA [(23, 6), (24, 2), (24, 4), (24, 8)] [(24, 7), (24, 9)] [44, 45] [] t u ∧ (-2147483648 : Int) ≤ r.toInt ∧ r.toInt ≤ 2147483647) (fun (u : tSt) => (WX d) K ad u) A) [.ref (ad 24)].toArray s 0 0 A) (F0 m 4 ls []) := by
    intro fuel_4
    induction fuel_4 with
    | zero =>
      intro t1 w4_1 w4_2 H locs ls hok hfr hw4_2 hm4_4 hP hD hS hl
      exact absurd hm4_4 (by omega)
    | succ fuel_4 ih_4 =>
      intro t1 w4_1 w4_2 H locs ls hok hfr hw4_2 hm4_4 hP hD hS hl
      have hm4_4 : (80 : Int) - w4_2.toInt < (fuel_4 : Int) + 1 := by omega
      have L_62 : ∀ (t1 : tSt) (w62_1 : Int32) (w62_2 : Int32) (w62_3 : Int32) (w62_4 : Int32) (H : Heap) (locs : List Loc) (ls : Array Slot), okX t1 → frA [(23, 6), (24, 2), (24, 4), (24, 8)] [(24, 7), (24, 9)] [44, 45] [] t t1 → (0 : Int) ≤ w62_2.toInt ∧ w62_2.toInt ≤ 79 → (-1073741824 : Int) ≤ w62_4.toInt ∧ w62_4.toInt ≤ 1073741823 → (80 : Int) - w62_2.toInt < (fuel_4 : Int) + 1 → va_P D vwCl ((WX d) K ad t1) H → va_D A ((WX d) K ad t1) → va_S A s.heap H locs → lv_has ls 5 [(0, .ref (ad 24)), (1, .int w62_1), (2, .int w62_2), (3, .int w62_3), (4, .int w62_4)] → W p l e (rmD 4 0 0) s m [.ref (ad 24)].toArray below meth c H locs 0 0 (MQ below (QI D K (fun (r : Int32) (u : tSt) => okX u ∧ frA [(23, 6), (24, 2), (24, 4), (24, 8)] [(24, 7), (24, 9)] [44, 45] [] t u ∧ (-2147483648 : Int) ≤ r.toInt ∧ r.toInt ≤ 2147483647) (fun (u : tSt) => (WX d) K ad u) A) [.ref (ad 24)].toArray s 0 0 A) (F0 m 62 ls []) := by
        intro t1 w62_1 w62_2 w62_3 w62_4 H locs ls hok hfr hw62_2 hw62_4 hm62_4 hP hD hS hl
        refine lv_aload_n C.1 C.2.1 dX5_wValue_62 rfl (lv_at hl 0 rfl) ?_
        have h_1 : (0 : Int) ≤ (t1.1 24 4).toInt ∧ (t1.1 24 4).toInt ≤ 6 := hok.1 24 4
        refine k_get (v := .int (t1.1 24 4)) C hP 24 rfl rfl inlX5 4 (by decide) m_20_23 rfl dX5_wValue_63 ?_
        refine lv_if_eq (tgt := 71) C.1 C.2.1 dX5_wValue_66 (by decide) (fun c_2 => ?_) (fun c_2 => ?_)
        · replace c_2 : (t1.1 24 4).toInt = 0 := i_eq c_2
          refine lv_iload_n C.1 C.2.1 dX5_wValue_71 rfl (lv_at hl 1 rfl) ?_
          refine lv_iload C.1 C.2.1 dX5_wValue_72 (lv_at hl 4 rfl) ?_
          refine lv_iload_n C.1 C.2.1 dX5_wValue_74 rfl (lv_at hl 3 rfl) ?_
          refine g_Si (As := [.int w62_1, .int w62_4, .int w62_3]) (rest := []) C hP hD hS hA (T_X1_stored l D K Z Y ad d t1 hok (w62_1) (w62_4) (show (-1073741824 : Int) ≤ (w62_4 : Int32).toInt ∧ (w62_4 : Int32).toInt ≤ 1073741823 from ⟨by omega, by omega⟩) (w62_3)) hE hZ (uwS m_24_2 m_24_3 m_14_2 m_24_4) (hdS 3 (by decide +kernel) rfl) ⟨Nat.le_of_ble_eq_true rfl, Nat.le_of_ble_eq_true rfl⟩ rfl rfl rfl hl.1 (Nat.le_of_ble_eq_true rfl) dX5_wValue_75 ⟨Nat.le_of_ble_eq_true rfl, Nat.le_of_ble_eq_true rfl⟩ (fun r_4 t_3 H locs hw hP hD hS => ?_)
          obtain ⟨h_6, h_7⟩ := hw
          refine lv_istore_n (lv' := [(1, .int r_4), (0, .ref (ad 24)), (2, .int w62_2), (3, .int w62_3), (4, .int w62_4)]) C.1 C.2.1 dX5_wValue_78 rfl hl (by decide) rfl (fun ls hl => ?_)
          have hl : lv_has ls 5 [(0, .ref (ad 24)), (1, .int r_4), (2, .int w62_2), (3, .int w62_3), (4, .int w62_4)] := lv_sub hl [1, 0, 2, 3, 4] rfl
          refine lv_aload_n C.1 C.2.1 dX5_wValue_79 rfl (lv_at hl 0 rfl) ?_
          refine lv_bipush (v := 44) C.1 C.2.1 dX5_wValue_80 (by decide) ?_
          refine g_Vi (As := [.int 44]) (rest := []) C hP hD hS hA (T_X5_pass l D K Z Y ad d t1 hok 44 (show (32 : Int) ≤ (44 : Int32).toInt ∧ (44 : Int32).toInt ≤ 61 from ⟨by decide, by decide⟩)) hE hZ (uwV m_22_9 m_21_9 m_21_10 m_5_22 m_21_11) (hdV 1 (by decide +kernel) rfl) ⟨Nat.le_of_ble_eq_true rfl, Nat.le_of_ble_eq_true rfl⟩ rfl rfl (ci := 4) (q0 := 24) rfl rfl rfl hl.1 (Nat.le_of_ble_eq_true rfl) dX5_wValue_82 ⟨Nat.le_of_ble_eq_true rfl, Nat.le_of_ble_eq_true rfl⟩ (fun r_9 t_8 H locs hw hP hD hS => ?_)
          obtain ⟨hok, f_10, h_11, h_12⟩ := hw
          have hfr : frA [(23, 6), (24, 2), (24, 4), (24, 8)] [(24, 7), (24, 9)] [44, 45] [] t t_8 := frA_tr hfr f_10 rfl
          have h_13 : (t_8.1 24 4).toInt = (t1.1 24 4).toInt := ti_eq (f_10.1 24 4 rfl)
          refine lv_if_ne (tgt := 91) C.1 C.2.1 dX5_wValue_85 (by decide) (fun c_14 => ?_) (fun c_14 => ?_)
          · replace c_14 : ¬ r_9.toInt = 0 := i_ne c_14
            obtain ⟨v_15, e_16⟩ : ∃ z, z = w62_2 + 1 := ⟨_, rfl⟩
            have h_17 : v_15.toInt = w62_2.toInt + 1 := by rw [e_16]; exact ti_iadd (by show (_ : Int) ≤ w62_2.toInt + 1; omega) (by show w62_2.toInt + 1 < (_ : Int); omega)
            refine lv_iinc (v := v_15) (lv' := [(2, .int v_15), (0, .ref (ad 24)), (1, .int r_4), (3, .int w62_3), (4, .int w62_4)]) C.1 C.2.1 dX5_wValue_91 hl (k := 2) rfl e_16.symm (by decide) rfl (fun ls hl => ?_)
            have hl : lv_has ls 5 [(0, .ref (ad 24)), (1, .int r_4), (2, .int v_15), (3, .int w62_3), (4, .int w62_4)] := lv_sub hl [1, 2, 0, 3, 4] rfl
            refine lv_goto (tgt := 4) C.1 C.2.1 dX5_wValue_94 (by decide) ?_
            exact ih_4 t_8 r_4 v_15 _ _ _ hok hfr ⟨by omega, by omega⟩ (show (80 : Int) - v_15.toInt < (fuel_4 : Int) from by omega) hP hD hS (lv_sub hl [0, 1, 2] rfl)
          · replace c_14 : r_9.toInt = 0 := i_eq c_14
            refine lv_goto (tgt := 97) C.1 C.2.1 dX5_wValue_88 (by decide) ?_
            refine lv_iload_n C.1 C.2.1 dX5_wValue_97 rfl (lv_at hl 1 rfl) ?_
            exact g_iret C hr hlocks hP hD hS rfl t_8 rfl ⟨hok, hfr, (i_rng _).1, (i_rng _).2⟩ (Nat.le_of_ble_eq_true rfl) (Nat.le_of_ble_eq_true rfl) dX5_wValue_98
        · replace c_2 : ¬ (t1.1 24 4).toInt = 0 := i_ne c_2
          refine lv_iconst (v := 0) C.1 C.2.1 dX5_wValue_69 (by decide) ?_
          exact g_iret C hr hlocks hP hD hS rfl t1 rfl ⟨hok, hfr, (i_rng _).1, (i_rng _).2⟩ (Nat.le_of_ble_eq_true rfl) (Nat.le_of_ble_eq_true rfl) dX5_wValue_70
      have L_56 : ∀ (t1 : tSt) (w56_1 : Int32) (w56_2 : Int32) (w56_3 : Int32) (w56_4 : Int32) (H : Heap) (locs : List Loc) (ls : Array Slot), okX t1 → frA [(23, 6), (24, 2), (24, 4), (24, 8)] [(24, 7), (24, 9)] [44, 45] [] t t1 → (0 : Int) ≤ w56_2.toInt ∧ w56_2.toInt ≤ 79 → (-1073741824 : Int) ≤ w56_4.toInt ∧ w56_4.toInt ≤ 1073741823 → (80 : Int) - w56_2.toInt < (fuel_4 : Int) + 1 → va_P D vwCl ((WX d) K ad t1) H → va_D A ((WX d) K ad t1) → va_S A s.heap H locs → lv_has ls 5 [(0, .ref (ad 24)), (1, .int w56_1), (2, .int w56_2), (3, .int w56_3), (4, .int w56_4)] → W p l e (rmD 4 0 0) s m [.ref (ad 24)].toArray below meth c H locs 0 0 (MQ below (QI D K (fun (r : Int32) (u : tSt) => okX u ∧ frA [(23, 6), (24, 2), (24, 4), (24, 8)] [(24, 7), (24, 9)] [44, 45] [] t u ∧ (-2147483648 : Int) ≤ r.toInt ∧ r.toInt ≤ 2147483647) (fun (u : tSt) => (WX d) K ad u) A) [.ref (ad 24)].toArray s 0 0 A) (F0 m 56 ls []) := by
        intro t1 w56_1 w56_2 w56_3 w56_4 H locs ls hok hfr hw56_2 hw56_4 hm56_4 hP hD hS hl
        refine lv_aload_n C.1 C.2.1 dX5_wValue_56 rfl (lv_at hl 0 rfl) ?_
        refine lv_bipush (v := 41) C.1 C.2.1 dX5_wValue_57 (by decide) ?_
        refine g_Vv (As := [.int 41]) (rest := []) C hP hD hS hA (T_X5_need l D K Z Y ad d t1 hok 41 (show (32 : Int) ≤ (41 : Int32).toInt ∧ (41 : Int32).toInt ≤ 61 from ⟨by decide, by decide⟩)) hE hZ (uwV m_23_22 m_23_23 m_24_0 m_5_22 m_24_1) (hdV 1 (by decide +kernel) rfl) ⟨Nat.le_of_ble_eq_true rfl, Nat.le_of_ble_eq_true rfl⟩ rfl rfl (ci := 4) (q0 := 24) rfl rfl rfl hl.1 (Nat.le_of_ble_eq_true rfl) dX5_wValue_59 ⟨Nat.le_of_ble_eq_true rfl, Nat.le_of_ble_eq_true rfl⟩ (fun t_18 H locs hw hP hD hS => ?_)
        obtain ⟨hok, f_20⟩ := hw
        have hfr : frA [(23, 6), (24, 2), (24, 4), (24, 8)] [(24, 7), (24, 9)] [44, 45] [] t t_18 := frA_tr hfr f_20 rfl
        exact L_62 t_18 w56_1 w56_2 w56_3 w56_4 _ _ _ hok hfr ⟨by omega, by omega⟩ ⟨by omega, by omega⟩ (show (80 : Int) - w56_2.toInt < (fuel_4 : Int) + 1 from by omega) hP hD hS (lv_sub hl [0, 1, 2, 3, 4] rfl)
      refine lv_iload_n C.1 C.2.1 dX5_wValue_4 rfl (lv_at hl 2 rfl) ?_
      refine lv_bipush (v := 80) C.1 C.2.1 dX5_wValue_5 (by decide) ?_
      refine lv_icmp_ge (tgt := 97) C.1 C.2.1 dX5_wValue_7 (by decide) (fun c_21 => ?_) (fun c_21 => ?_)
      · replace c_21 : 80 ≤ w4_2.toInt := i_le c_21
        refine lv_iload_n C.1 C.2.1 dX5_wValue_97 rfl (lv_at hl 1 rfl) ?_
        exact g_iret C hr hlocks hP hD hS rfl t1 rfl ⟨hok, hfr, (i_rng _).1, (i_rng _).2⟩ (Nat.le_of_ble_eq_true rfl) (Nat.le_of_ble_eq_true rfl) dX5_wValue_98
      · replace c_21 : w4_2.toInt < 80 := i_nle c_21
        refine lv_aload_n C.1 C.2.1 dX5_wValue_10 rfl (lv_at hl 0 rfl) ?_
        refine g_Vi (As := []) (rest := []) C hP hD hS hA (T_X5_expression l D K Z Y ad d t1 hok ) hE hZ (uwV m_21_16 m_21_17 m_21_18 m_5_22 m_21_19) (hdV 0 (by decide +kernel) rfl) ⟨Nat.le_of_ble_eq_true rfl, Nat.le_of_ble_eq_true rfl⟩ rfl rfl (ci := 4) (q0 := 24) rfl rfl rfl hl.1 (Nat.le_of_ble_eq_true rfl) dX5_wValue_11 ⟨Nat.le_of_ble_eq_true rfl, Nat.le_of_ble_eq_true rfl⟩ (fun r_23 t_22 H locs hw hP hD hS => ?_)
        obtain ⟨hok, f_24, h_25, h_26⟩ := hw
        have hfr : frA [(23, 6), (24, 2), (24, 4), (24, 8)] [(24, 7), (24, 9)] [44, 45] [] t t_22 := frA_tr hfr f_24 rfl
        refine lv_istore_n (lv' := [(3, .int r_23), (0, .ref (ad 24)), (1, .int w4_1), (2, .int w4_2)]) C.1 C.2.1 dX5_wValue_14 rfl hl (by decide) rfl (fun ls hl => ?_)
        have hl : lv_has ls 5 [(0, .ref (ad 24)), (1, .int w4_1), (2, .int w4_2), (3, .int r_23)] := lv_sub hl [1, 2, 3, 0] rfl
        refine lv_iconst (v := 5) C.1 C.2.1 dX5_wValue_15 (by decide) ?_
        refine lv_istore (lv' := [(4, .int 5), (0, .ref (ad 24)), (1, .int w4_1), (2, .int w4_2), (3, .int r_23)]) C.1 C.2.1 dX5_wValue_16 hl (by decide) rfl (fun ls hl => ?_)
        have hl : lv_has ls 5 [(0, .ref (ad 24)), (1, .int w4_1), (2, .int w4_2), (3, .int r_23), (4, .int 5)] := lv_sub hl [1, 2, 3, 4, 0] rfl
        refine lv_aload_n C.1 C.2.1 dX5_wValue_18 rfl (lv_at hl 0 rfl) ?_
        have h_27 : (0 : Int) ≤ (t_22.1 24 4).toInt ∧ (t_22.1 24 4).toInt ≤ 6 := hok.1 24 4
        refine k_get (v := .int (t_22.1 24 4)) C hP 24 rfl rfl inlX5 4 (by decide) m_20_23 rfl dX5_wValue_19 ?_
        refine lv_if_ne (tgt := 62) C.1 C.2.1 dX5_wValue_22 (by decide) (fun c_28 => ?_) (fun c_28 => ?_)
        · replace c_28 : ¬ (t_22.1 24 4).toInt = 0 := i_ne c_28
          exact L_62 t_22 w4_1 w4_2 r_23 5 _ _ _ hok hfr ⟨by omega, by omega⟩ ⟨by decide, by decide⟩ (show (80 : Int) - w4_2.toInt < (fuel_4 : Int) + 1 from by omega) hP hD hS (lv_sub hl [0, 1, 2, 3, 4] rfl)
        · replace c_28 : (t_22.1 24 4).toInt = 0 := i_eq c_28
          refine lv_aload_n C.1 C.2.1 dX5_wValue_25 rfl (lv_at hl 0 rfl) ?_
          refine lv_bipush (v := 40) C.1 C.2.1 dX5_wValue_26 (by decide) ?_
          refine g_Vi (As := [.int 40]) (rest := []) C hP hD hS hA (T_X5_pass l D K Z Y ad d t_22 hok 40 (show (32 : Int) ≤ (40 : Int32).toInt ∧ (40 : Int32).toInt ≤ 61 from ⟨by decide, by decide⟩)) hE hZ (uwV m_22_9 m_21_9 m_21_10 m_5_22 m_21_11) (hdV 1 (by decide +kernel) rfl) ⟨Nat.le_of_ble_eq_true rfl, Nat.le_of_ble_eq_true rfl⟩ rfl rfl (ci := 4) (q0 := 24) rfl rfl rfl hl.1 (Nat.le_of_ble_eq_true rfl) dX5_wValue_28 ⟨Nat.le_of_ble_eq_true rfl, Nat.le_of_ble_eq_true rfl⟩ (fun r_30 t_29 H locs hw hP hD hS => ?_)
          obtain ⟨hok, f_31, h_32, h_33⟩ := hw
          have hfr : frA [(23, 6), (24, 2), (24, 4), (24, 8)] [(24, 7), (24, 9)] [44, 45] [] t t_29 := frA_tr hfr f_31 rfl
          have h_34 : (t_29.1 24 4).toInt = (t_22.1 24 4).toInt := ti_eq (f_31.1 24 4 rfl)
          refine lv_if_eq (tgt := 62) C.1 C.2.1 dX5_wValue_31 (by decide) (fun c_35 => ?_) (fun c_35 => ?_)
          · replace c_35 : r_30.toInt = 0 := i_eq c_35
            exact L_62 t_29 w4_1 w4_2 r_23 5 _ _ _ hok hfr ⟨by omega, by omega⟩ ⟨by decide, by decide⟩ (show (80 : Int) - w4_2.toInt < (fuel_4 : Int) + 1 from by omega) hP hD hS (lv_sub hl [0, 1, 2, 3, 4] rfl)
          · replace c_35 : ¬ r_30.toInt = 0 := i_ne c_35
            refine lv_aload_n C.1 C.2.1 dX5_wValue_34 rfl (lv_at hl 0 rfl) ?_
            refine g_Vi (As := []) (rest := []) C hP hD hS hA (T_X5_expression l D K Z Y ad d t_29 hok ) hE hZ (uwV m_21_16 m_21_17 m_21_18 m_5_22 m_21_19) (hdV 0 (by decide +kernel) rfl) ⟨Nat.le_of_ble_eq_true rfl, Nat.le_of_ble_eq_true rfl⟩ rfl rfl (ci := 4) (q0 := 24) rfl rfl rfl hl.1 (Nat.le_of_ble_eq_true rfl) dX5_wValue_35 ⟨Nat.le_of_ble_eq_true rfl, Nat.le_of_ble_eq_true rfl⟩ (fun r_37 t_36 H locs hw hP hD hS => ?_)
            obtain ⟨hok, f_38, h_39, h_40⟩ := hw
            have hfr : frA [(23, 6), (24, 2), (24, 4), (24, 8)] [(24, 7), (24, 9)] [44, 45] [] t t_36 := frA_tr hfr f_38 rfl
            refine g_Si (As := [.int r_37]) (rest := []) C hP hD hS hA (T_X1_value l D K Z Y ad d t_36 hok (r_37)) hE hZ (uwS m_23_8 m_23_9 m_14_2 m_23_10) (hdS 1 (by decide +kernel) rfl) ⟨Nat.le_of_ble_eq_true rfl, Nat.le_of_ble_eq_true rfl⟩ rfl rfl rfl hl.1 (Nat.le_of_ble_eq_true rfl) dX5_wValue_38 ⟨Nat.le_of_ble_eq_true rfl, Nat.le_of_ble_eq_true rfl⟩ (fun r_42 t_41 H locs hw hP hD hS => ?_)
            obtain ⟨h_44, h_45⟩ := hw
            refine lv_istore (lv' := [(4, .int r_42), (0, .ref (ad 24)), (1, .int w4_1), (2, .int w4_2), (3, .int r_23)]) C.1 C.2.1 dX5_wValue_41 hl (by decide) rfl (fun ls hl => ?_)
            have hl : lv_has ls 5 [(0, .ref (ad 24)), (1, .int w4_1), (2, .int w4_2), (3, .int r_23), (4, .int r_42)] := lv_sub hl [1, 2, 3, 4, 0] rfl
            refine lv_iload C.1 C.2.1 dX5_wValue_43 (lv_at hl 4 rfl) ?_
            refine g_Si (As := [.int r_42]) (rest := []) C hP hD hS hA (T_X1_isField l D K Z Y ad d t_36 hok (r_42) (show (-1073741824 : Int) ≤ (r_42 : Int32).toInt ∧ (r_42 : Int32).toInt ≤ 1073741823 from ⟨by omega, by omega⟩)) hE hZ (uwS m_23_19 m_23_20 m_14_2 m_23_21) (hdS 1 (by decide +kernel) rfl) ⟨Nat.le_of_ble_eq_true rfl, Nat.le_of_ble_eq_true rfl⟩ rfl rfl rfl hl.1 (Nat.le_of_ble_eq_true rfl) dX5_wValue_45 ⟨Nat.le_of_ble_eq_true rfl, Nat.le_of_ble_eq_true rfl⟩ (fun r_47 t_46 H locs hw hP hD hS => ?_)
            obtain ⟨h_49, h_50⟩ := hw
            refine lv_if_ne (tgt := 56) C.1 C.2.1 dX5_wValue_48 (by decide) (fun c_51 => ?_) (fun c_51 => ?_)
            · replace c_51 : ¬ r_47.toInt = 0 := i_ne c_51
              exact L_56 t_36 w4_1 w4_2 r_23 r_42 _ _ _ hok hfr ⟨by omega, by omega⟩ ⟨by omega, by omega⟩ (show (80 : Int) - w4_2.toInt < (fuel_4 : Int) + 1 from by omega) hP hD hS (lv_sub hl [0, 1, 2, 3, 4] rfl)
            · replace c_51 : r_47.toInt = 0 := i_eq c_51
              refine lv_aload_n C.1 C.2.1 dX5_wValue_51 rfl (lv_at hl 0 rfl) ?_
              refine lv_iconst (v := 5) C.1 C.2.1 dX5_wValue_52 (by decide) ?_
              refine g_Vv (As := [.int 5]) (rest := []) C hP hD hS hA (T_X5_fail l D K Z Y ad d t_36 hok 5 (show (1 : Int) ≤ (5 : Int32).toInt ∧ (5 : Int32).toInt ≤ 6 from ⟨by decide, by decide⟩)) hE hZ (uwV m_23_0 m_23_1 m_23_2 m_5_22 m_23_3) (hdV 1 (by decide +kernel) rfl) ⟨Nat.le_of_ble_eq_true rfl, Nat.le_of_ble_eq_true rfl⟩ rfl rfl (ci := 4) (q0 := 24) rfl rfl rfl hl.1 (Nat.le_of_ble_eq_true rfl) dX5_wValue_53 ⟨Nat.le_of_ble_eq_true rfl, Nat.le_of_ble_eq_true rfl⟩ (fun t_52 H locs hw hP hD hS => ?_)
              obtain ⟨hok, f_54⟩ := hw
              have hfr : frA [(23, 6), (24, 2), (24, 4), (24, 8)] [(24, 7), (24, 9)] [44, 45] [] t t_52 := frA_tr hfr f_54 rfl
              exact L_56 t_52 w4_1 w4_2 r_23 r_42 _ _ _ hok hfr ⟨by omega, by omega⟩ ⟨by omega, by omega⟩ (show (80 : Int) - w4_2.toInt < (fuel_4 : Int) + 1 from by omega) hP hD hS (lv_sub hl [0, 1, 2, 3, 4] rfl)
  refine lv_iconst (v := 0) C.1 C.2.1 dX5_wValue_0 (by decide) ?_
  refine lv_istore_n (lv' := [(1, .int 0), (0, .ref (ad 24))]) C.1 C.2.1 dX5_wValue_1 rfl hl (by decide) rfl (fun ls hl => ?_)
  have hl : lv_has ls 5 [(0, .ref (ad 24)), (1, .int 0)] := lv_sub hl [1, 0] rfl
  refine lv_iconst (v := 0) C.1 C.2.1 dX5_wValue_2 (by decide) ?_
  refine lv_istore_n (lv' := [(2, .int 0), (0, .ref (ad 24)), (1, .int 0)]) C.1 C.2.1 dX5_wValue_3 rfl hl (by decide) rfl (fun ls hl => ?_)
  have hl : lv_has ls 5 [(0, .ref (ad 24)), (1, .int 0), (2, .int 0)] := lv_sub hl [1, 2, 0] rfl
  exact L_4 81 t 0 0 _ _ _ hok hfr ⟨by decide, by decide⟩ (show (80 : Int) - 0 < ((81 : Nat) : Int) from by omega) hP hD hS (lv_sub hl [0, 1, 2] rfl)
