theorem dX12_convert_0 : decode cX12_convert 0 = .ok (.aload_n 0, 1) := by decide +kernel
theorem dX12_convert_1 : decode cX12_convert 1 = .ok (.getfield 289, 3) := by decide +kernel
theorem dX12_convert_10 : decode cX12_convert 10 = .ok (.istore_n 3, 1) := by decide +kernel
theorem dX12_convert_100 : decode cX12_convert 100 = .ok (.iload 4, 2) := by decide +kernel
theorem dX12_convert_102 : decode cX12_convert 102 = .ok (.iconst 5, 1) := by decide +kernel
theorem dX12_convert_103 : decode cX12_convert 103 = .ok (.if_icmp .ge 17, 3) := by decide +kernel
theorem dX12_convert_106 : decode cX12_convert 106 = .ok (.iload_n 3, 1) := by decide +kernel
theorem dX12_convert_107 : decode cX12_convert 107 = .ok (.iload 5, 2) := by decide +kernel
theorem dX12_convert_109 : decode cX12_convert 109 = .ok (.bipush 6, 2) := by decide +kernel
theorem dX12_convert_11 : decode cX12_convert 11 = .ok (.iload_n 3, 1) := by decide +kernel
theorem dX12_convert_111 : decode cX12_convert 111 = .ok (.iload 4, 2) := by decide +kernel
theorem dX12_convert_113 : decode cX12_convert 113 = .ok (.imul, 1) := by decide +kernel
theorem dX12_convert_114 : decode cX12_convert 114 = .ok (.ishl, 1) := by decide +kernel
theorem dX12_convert_115 : decode cX12_convert 115 = .ok (.ior, 1) := by decide +kernel
theorem dX12_convert_116 : decode cX12_convert 116 = .ok (.istore_n 3, 1) := by decide +kernel
theorem dX12_convert_117 : decode cX12_convert 117 = .ok (.goto 16, 3) := by decide +kernel
theorem dX12_convert_12 : decode cX12_convert 12 = .ok (.bipush 11, 2) := by decide +kernel
theorem dX12_convert_120 : decode cX12_convert 120 = .ok (.iload_n 2, 1) := by decide +kernel
theorem dX12_convert_121 : decode cX12_convert 121 = .ok (.iload 5, 2) := by decide +kernel
theorem dX12_convert_123 : decode cX12_convert 123 = .ok (.bipush 6, 2) := by decide +kernel
theorem dX12_convert_125 : decode cX12_convert 125 = .ok (.iload 4, 2) := by decide +kernel
theorem dX12_convert_127 : decode cX12_convert 127 = .ok (.iconst 5, 1) := by decide +kernel
theorem dX12_convert_128 : decode cX12_convert 128 = .ok (.isub, 1) := by decide +kernel
theorem dX12_convert_129 : decode cX12_convert 129 = .ok (.imul, 1) := by decide +kernel
theorem dX12_convert_130 : decode cX12_convert 130 = .ok (.ishl, 1) := by decide +kernel
theorem dX12_convert_131 : decode cX12_convert 131 = .ok (.ior, 1) := by decide +kernel
theorem dX12_convert_132 : decode cX12_convert 132 = .ok (.istore_n 2, 1) := by decide +kernel
theorem dX12_convert_133 : decode cX12_convert 133 = .ok (.iinc 4 1, 3) := by decide +kernel
theorem dX12_convert_136 : decode cX12_convert 136 = .ok (.goto (-57), 3) := by decide +kernel
theorem dX12_convert_139 : decode cX12_convert 139 = .ok (.aload_n 0, 1) := by decide +kernel
theorem dX12_convert_14 : decode cX12_convert 14 = .ok (.if_icmp .ge 25, 3) := by decide +kernel
theorem dX12_convert_140 : decode cX12_convert 140 = .ok (.getfield 17, 3) := by decide +kernel
theorem dX12_convert_143 : decode cX12_convert 143 = .ok (.iconst 0, 1) := by decide +kernel
theorem dX12_convert_144 : decode cX12_convert 144 = .ok (.aload_n 0, 1) := by decide +kernel
theorem dX12_convert_145 : decode cX12_convert 145 = .ok (.getfield 17, 3) := by decide +kernel
theorem dX12_convert_148 : decode cX12_convert 148 = .ok (.iconst 0, 1) := by decide +kernel
theorem dX12_convert_149 : decode cX12_convert 149 = .ok (.iaload, 1) := by decide +kernel
theorem dX12_convert_150 : decode cX12_convert 150 = .ok (.ldc 158, 2) := by decide +kernel
theorem dX12_convert_152 : decode cX12_convert 152 = .ok (.iand, 1) := by decide +kernel
theorem dX12_convert_153 : decode cX12_convert 153 = .ok (.iload_n 2, 1) := by decide +kernel
theorem dX12_convert_154 : decode cX12_convert 154 = .ok (.ior, 1) := by decide +kernel
theorem dX12_convert_155 : decode cX12_convert 155 = .ok (.iastore, 1) := by decide +kernel
theorem dX12_convert_156 : decode cX12_convert 156 = .ok (.aload_n 0, 1) := by decide +kernel
theorem dX12_convert_157 : decode cX12_convert 157 = .ok (.getfield 17, 3) := by decide +kernel
theorem dX12_convert_160 : decode cX12_convert 160 = .ok (.bipush 7, 2) := by decide +kernel
theorem dX12_convert_162 : decode cX12_convert 162 = .ok (.aload_n 0, 1) := by decide +kernel
theorem dX12_convert_163 : decode cX12_convert 163 = .ok (.getfield 17, 3) := by decide +kernel
theorem dX12_convert_166 : decode cX12_convert 166 = .ok (.bipush 7, 2) := by decide +kernel
theorem dX12_convert_168 : decode cX12_convert 168 = .ok (.iaload, 1) := by decide +kernel
theorem dX12_convert_169 : decode cX12_convert 169 = .ok (.ldc 158, 2) := by decide +kernel
theorem dX12_convert_17 : decode cX12_convert 17 = .ok (.ldc2_w 192, 3) := by decide +kernel
theorem dX12_convert_171 : decode cX12_convert 171 = .ok (.iand, 1) := by decide +kernel
theorem dX12_convert_172 : decode cX12_convert 172 = .ok (.iload_n 3, 1) := by decide +kernel
theorem dX12_convert_173 : decode cX12_convert 173 = .ok (.ior, 1) := by decide +kernel
theorem dX12_convert_174 : decode cX12_convert 174 = .ok (.iastore, 1) := by decide +kernel
theorem dX12_convert_175 : decode cX12_convert 175 = .ok (.return_, 1) := by decide +kernel
theorem dX12_convert_20 : decode cX12_convert 20 = .ok (.lload_n 1, 1) := by decide +kernel
theorem dX12_convert_21 : decode cX12_convert 21 = .ok (.lmul, 1) := by decide +kernel
theorem dX12_convert_22 : decode cX12_convert 22 = .ok (.aload_n 0, 1) := by decide +kernel
theorem dX12_convert_23 : decode cX12_convert 23 = .ok (.iload_n 3, 1) := by decide +kernel
theorem dX12_convert_24 : decode cX12_convert 24 = .ok (.invokevirtual 337, 3) := by decide +kernel
theorem dX12_convert_27 : decode cX12_convert 27 = .ok (.bipush 10, 2) := by decide +kernel
theorem dX12_convert_29 : decode cX12_convert 29 = .ok (.irem, 1) := by decide +kernel
theorem dX12_convert_30 : decode cX12_convert 30 = .ok (.i2l, 1) := by decide +kernel
theorem dX12_convert_31 : decode cX12_convert 31 = .ok (.ladd, 1) := by decide +kernel
theorem dX12_convert_32 : decode cX12_convert 32 = .ok (.lstore_n 1, 1) := by decide +kernel
theorem dX12_convert_33 : decode cX12_convert 33 = .ok (.iinc 3 1, 3) := by decide +kernel
theorem dX12_convert_36 : decode cX12_convert 36 = .ok (.goto (-25), 3) := by decide +kernel
theorem dX12_convert_39 : decode cX12_convert 39 = .ok (.aload_n 0, 1) := by decide +kernel
theorem dX12_convert_4 : decode cX12_convert 4 = .ok (.ifCond .ne 58, 3) := by decide +kernel
theorem dX12_convert_40 : decode cX12_convert 40 = .ok (.getfield 17, 3) := by decide +kernel
theorem dX12_convert_43 : decode cX12_convert 43 = .ok (.iconst 0, 1) := by decide +kernel
theorem dX12_convert_44 : decode cX12_convert 44 = .ok (.aload_n 0, 1) := by decide +kernel
theorem dX12_convert_45 : decode cX12_convert 45 = .ok (.getfield 17, 3) := by decide +kernel
theorem dX12_convert_48 : decode cX12_convert 48 = .ok (.iconst 0, 1) := by decide +kernel
theorem dX12_convert_49 : decode cX12_convert 49 = .ok (.iaload, 1) := by decide +kernel
theorem dX12_convert_50 : decode cX12_convert 50 = .ok (.ldc 158, 2) := by decide +kernel
theorem dX12_convert_52 : decode cX12_convert 52 = .ok (.iand, 1) := by decide +kernel
theorem dX12_convert_53 : decode cX12_convert 53 = .ok (.lload_n 1, 1) := by decide +kernel
theorem dX12_convert_54 : decode cX12_convert 54 = .ok (.ldc2_w 335, 3) := by decide +kernel
theorem dX12_convert_57 : decode cX12_convert 57 = .ok (.land, 1) := by decide +kernel
theorem dX12_convert_58 : decode cX12_convert 58 = .ok (.l2i, 1) := by decide +kernel
theorem dX12_convert_59 : decode cX12_convert 59 = .ok (.ior, 1) := by decide +kernel
theorem dX12_convert_60 : decode cX12_convert 60 = .ok (.iastore, 1) := by decide +kernel
theorem dX12_convert_61 : decode cX12_convert 61 = .ok (.return_, 1) := by decide +kernel
theorem dX12_convert_62 : decode cX12_convert 62 = .ok (.aload_n 0, 1) := by decide +kernel
theorem dX12_convert_63 : decode cX12_convert 63 = .ok (.getfield 17, 3) := by decide +kernel
theorem dX12_convert_66 : decode cX12_convert 66 = .ok (.iconst 0, 1) := by decide +kernel
theorem dX12_convert_67 : decode cX12_convert 67 = .ok (.iaload, 1) := by decide +kernel
theorem dX12_convert_68 : decode cX12_convert 68 = .ok (.ldc 159, 2) := by decide +kernel
theorem dX12_convert_7 : decode cX12_convert 7 = .ok (.lconst 0, 1) := by decide +kernel
theorem dX12_convert_70 : decode cX12_convert 70 = .ok (.iand, 1) := by decide +kernel
theorem dX12_convert_71 : decode cX12_convert 71 = .ok (.istore_n 1, 1) := by decide +kernel
theorem dX12_convert_72 : decode cX12_convert 72 = .ok (.iconst 0, 1) := by decide +kernel
theorem dX12_convert_73 : decode cX12_convert 73 = .ok (.istore_n 2, 1) := by decide +kernel
theorem dX12_convert_74 : decode cX12_convert 74 = .ok (.iconst 0, 1) := by decide +kernel
theorem dX12_convert_75 : decode cX12_convert 75 = .ok (.istore_n 3, 1) := by decide +kernel
theorem dX12_convert_76 : decode cX12_convert 76 = .ok (.iconst 0, 1) := by decide +kernel
theorem dX12_convert_77 : decode cX12_convert 77 = .ok (.istore 4, 2) := by decide +kernel
theorem dX12_convert_79 : decode cX12_convert 79 = .ok (.iload 4, 2) := by decide +kernel
theorem dX12_convert_8 : decode cX12_convert 8 = .ok (.lstore_n 1, 1) := by decide +kernel
theorem dX12_convert_81 : decode cX12_convert 81 = .ok (.bipush 10, 2) := by decide +kernel
theorem dX12_convert_83 : decode cX12_convert 83 = .ok (.if_icmp .ge 56, 3) := by decide +kernel
theorem dX12_convert_86 : decode cX12_convert 86 = .ok (.bipush 30, 2) := by decide +kernel
theorem dX12_convert_88 : decode cX12_convert 88 = .ok (.iload_n 1, 1) := by decide +kernel
theorem dX12_convert_89 : decode cX12_convert 89 = .ok (.bipush 10, 2) := by decide +kernel
theorem dX12_convert_9 : decode cX12_convert 9 = .ok (.iconst 1, 1) := by decide +kernel
theorem dX12_convert_91 : decode cX12_convert 91 = .ok (.irem, 1) := by decide +kernel
theorem dX12_convert_92 : decode cX12_convert 92 = .ok (.iadd, 1) := by decide +kernel
theorem dX12_convert_93 : decode cX12_convert 93 = .ok (.istore 5, 2) := by decide +kernel
theorem dX12_convert_95 : decode cX12_convert 95 = .ok (.iload_n 1, 1) := by decide +kernel
theorem dX12_convert_96 : decode cX12_convert 96 = .ok (.bipush 10, 2) := by decide +kernel
theorem dX12_convert_98 : decode cX12_convert 98 = .ok (.idiv, 1) := by decide +kernel
theorem dX12_convert_99 : decode cX12_convert 99 = .ok (.istore_n 1, 1) := by decide +kernel
set_option maxHeartbeats 4000000 in
set_option maxRecDepth 100000 in
theorem T_X12_convert (l : Launch) (D : va_G) (K : Nat → ClassId) (Z Y : Nat → Nat) (ad : Nat → Nat) (t : tSt) (hok : okM t)  : tMet l yX12_convert cX12_convert 6 none (rmD 1 0 0) D K Z Y [.ref (ad 0)] (WM K ad t) (QV D K (fun (u : tSt) => okM u ∧ frA [] [] [3] [] t u) (fun (u : tSt) => WM K ad u)) 0 0 := by
  refine t_met RX12 ⟨rfl, by decide +kernel⟩ (Nat.le_of_ble_eq_true rfl) ?_
  intro p e s m below meth c A ls C hE hZ hr hlocks hA hP hD hS hl
  have hl : lv_has ls 6 [(0, .ref (ad 0))] := hl
  have hokt := hok
  have hfr : frA [] [] [3] [] t t := frA_rf
  have L_79 : ∀ (fuel_79 : Nat) (t1 : tSt) (w79_1 : Int32) (w79_2 : Int32) (w79_3 : Int32) (w79_4 : Int32) (H : Heap) (locs : List Loc) (ls : Array Slot), okM t1 → frA [] [] [3] [] t t1 → (0 : Int) ≤ w79_1.toInt ∧ w79_1.toInt ≤ 1073741823 → (0 : Int) ≤ w79_4.toInt ∧ w79_4.toInt ≤ 10 → (1 : Int) ≤ (t1.1 0 17).toInt ∧ (t1.1 0 17).toInt ≤ 63 → (10 : Int) - w79_4.toInt < (fuel_79 : Int) → va_P D vwCl (WM K ad t1) H → va_D A (WM K ad t1) → va_S A s.heap H locs → lv_has ls 6 [(0, .ref (ad 0)), (1, .int w79_1), (2, .int w79_2), (3, .int w79_3), (4, .int w79_4)] → W p l e (rmD 1 0 0) s m [.ref (ad 0)].toArray below meth c H locs 0 0 (MQ below (QV D K (fun (u : tSt) => okM u ∧ frA [] [] [3] [] t u) (fun (u : tSt) => WM K ad u) A) [.ref (ad 0)].toArray s 0 0 A) (F0 m 79 ls []) := by
    intro fuel_79
    induction fuel_79 with
    | zero =>
      intro t1 w79_1 w79_2 w79_3 w79_4 H locs ls hok hfr hw79_1 hw79_4 hf79_17 hm79_79 hP hD hS hl
      exact absurd hm79_79 (by omega)
    | succ fuel_79 ih_79 =>
      intro t1 w79_1 w79_2 w79_3 w79_4 H locs ls hok hfr hw79_1 hw79_4 hf79_17 hm79_79 hP hD hS hl
      have hm79_79 : (10 : Int) - w79_4.toInt < (fuel_79 : Int) + 1 := by omega
      have L_133 : ∀ (t1 : tSt) (w133_1 : Int32) (w133_2 : Int32) (w133_3 : Int32) (w133_4 : Int32) (w133_5 : Int32) (H : Heap) (locs : List Loc) (ls : Array Slot), okM t1 → frA [] [] [3] [] t t1 → (0 : Int) ≤ w133_1.toInt ∧ w133_1.toInt ≤ 107374182 → (0 : Int) ≤ w133_4.toInt ∧ w133_4.toInt ≤ 9 → (30 : Int) ≤ w133_5.toInt ∧ w133_5.toInt ≤ 39 → (1 : Int) ≤ (t1.1 0 17).toInt ∧ (t1.1 0 17).toInt ≤ 63 → (10 : Int) - w133_4.toInt < (fuel_79 : Int) + 1 → va_P D vwCl (WM K ad t1) H → va_D A (WM K ad t1) → va_S A s.heap H locs → lv_has ls 6 [(0, .ref (ad 0)), (1, .int w133_1), (2, .int w133_2), (3, .int w133_3), (4, .int w133_4), (5, .int w133_5)] → W p l e (rmD 1 0 0) s m [.ref (ad 0)].toArray below meth c H locs 0 0 (MQ below (QV D K (fun (u : tSt) => okM u ∧ frA [] [] [3] [] t u) (fun (u : tSt) => WM K ad u) A) [.ref (ad 0)].toArray s 0 0 A) (F0 m 133 ls []) := by
        intro t1 w133_1 w133_2 w133_3 w133_4 w133_5 H locs ls hok hfr hw133_1 hw133_4 hw133_5 hf133_17 hm133_79 hP hD hS hl
        obtain ⟨v_1, e_2⟩ : ∃ z, z = w133_4 + 1 := ⟨_, rfl⟩
        have h_3 : v_1.toInt = w133_4.toInt + 1 := by rw [e_2]; exact ti_iadd (by show (_ : Int) ≤ w133_4.toInt + 1; omega) (by show w133_4.toInt + 1 < (_ : Int); omega)
        refine lv_iinc (v := v_1) (lv' := [(4, .int v_1), (0, .ref (ad 0)), (1, .int w133_1), (2, .int w133_2), (3, .int w133_3), (5, .int w133_5)]) C.1 C.2.1 dX12_convert_133 hl (k := 4) rfl e_2.symm (by decide) rfl (fun ls hl => ?_)
        have hl : lv_has ls 6 [(0, .ref (ad 0)), (1, .int w133_1), (2, .int w133_2), (3, .int w133_3), (4, .int v_1), (5, .int w133_5)] := lv_sub hl [1, 2, 3, 4, 0, 5] rfl
        refine lv_goto (tgt := 79) C.1 C.2.1 dX12_convert_136 (by decide) ?_
        exact ih_79 t1 w133_1 w133_2 w133_3 v_1 _ _ _ hok hfr ⟨by omega, by omega⟩ ⟨by omega, by omega⟩ (show (1 : Int) ≤ ((t1.1 0 17) : Int32).toInt ∧ ((t1.1 0 17) : Int32).toInt ≤ 63 from ⟨by omega, by omega⟩) (show (10 : Int) - v_1.toInt < (fuel_79 : Int) from by omega) hP hD hS (lv_sub hl [0, 1, 2, 3, 4] rfl)
      refine lv_iload C.1 C.2.1 dX12_convert_79 (lv_at hl 4 rfl) ?_
      refine lv_bipush (v := 10) C.1 C.2.1 dX12_convert_81 (by decide) ?_
      refine lv_icmp_ge (tgt := 139) C.1 C.2.1 dX12_convert_83 (by decide) (fun c_4 => ?_) (fun c_4 => ?_)
      · replace c_4 : 10 ≤ w79_4.toInt := i_le c_4
        refine lv_aload_n C.1 C.2.1 dX12_convert_139 rfl (lv_at hl 0 rfl) ?_
        refine k_get (v := .ref (ad 3)) C hP 0 rfl rfl inlX12 4 (by decide) m_7_6 rfl dX12_convert_140 ?_
        refine lv_iconst (v := 0) C.1 C.2.1 dX12_convert_143 (by decide) ?_
        refine lv_aload_n C.1 C.2.1 dX12_convert_144 rfl (lv_at hl 0 rfl) ?_
        refine k_get (v := .ref (ad 3)) C hP 0 rfl rfl inlX12 4 (by decide) m_7_6 rfl dX12_convert_145 ?_
        refine lv_iconst (v := 0) C.1 C.2.1 dX12_convert_148 (by decide) ?_
        obtain ⟨v_5, e_6⟩ : ∃ z, z = (t1.2.2.1 3 (0 : Int32).toNatClampNeg) := ⟨_, rfl⟩
        refine k_ild (v := v_5) C hP 3 rfl (vin (by decide)) e_6.symm dX12_convert_149 ?_
        refine lv_ldc (v := 1073741824) C.1 C.2.1 C.2.2.2.1 (C.2.2.2.2.1 _ m_34_19) dX12_convert_150 ?_
        obtain ⟨v_7, e_8⟩ : ∃ z, z = (v_5 : Int32) &&& (1073741824 : Int32) := ⟨_, rfl⟩
        have h_9 : (0 : Int) ≤ v_7.toInt ∧ v_7.toInt ≤ 1073741824 := by rw [e_8]; exact z_and _ (k := 1073741824) (by decide) (by decide)
        refine k_iand (v := v_7) C e_8.symm dX12_convert_152 ?_
        refine lv_iload_n C.1 C.2.1 dX12_convert_153 rfl (lv_at hl 2 rfl) ?_
        obtain ⟨v_10, e_11⟩ : ∃ z, z = (v_7 : Int32) ||| (w79_2 : Int32) := ⟨_, rfl⟩
        refine k_ior (v := v_10) C e_11.symm dX12_convert_154 ?_
        refine k_ist (ws' := WM K ad (uB t1 3 (0 : Int32).toNatClampNeg v_10)) (x' := v_10) C hP hD hS 3 rfl (vin (by decide)) rfl rfl rfl dX12_convert_155 (fun H locs hP hD hS => ?_)
        have hok : okM (uB t1 3 (0 : Int32).toNatClampNeg v_10) := ⟨hok.1, okB_B hok.2.1 3 _ v_10 (show (-2147483648 : Int) ≤ (v_10 : Int32).toInt ∧ (v_10 : Int32).toInt ≤ 2147483647 from (i_rng _)), hok.2.2.1, hok.2.2.2.1, hok.2.2.2.2.1, hok.2.2.2.2.2.1, hok.2.2.2.2.2.2.1, trivial⟩
        have hfr : frA [] [] [3] [] t (uB t1 3 (0 : Int32).toNatClampNeg v_10) := frA_B hfr 3 _ _ rfl
        refine lv_aload_n C.1 C.2.1 dX12_convert_156 rfl (lv_at hl 0 rfl) ?_
        refine k_get (v := .ref (ad 3)) C hP 0 rfl rfl inlX12 4 (by decide) m_7_6 rfl dX12_convert_157 ?_
        refine lv_bipush (v := 7) C.1 C.2.1 dX12_convert_160 (by decide) ?_
        refine lv_aload_n C.1 C.2.1 dX12_convert_162 rfl (lv_at hl 0 rfl) ?_
        refine k_get (v := .ref (ad 3)) C hP 0 rfl rfl inlX12 4 (by decide) m_7_6 rfl dX12_convert_163 ?_
        refine lv_bipush (v := 7) C.1 C.2.1 dX12_convert_166 (by decide) ?_
        obtain ⟨v_13, e_14⟩ : ∃ z, z = ((uB t1 3 (0 : Int32).toNatClampNeg v_10).2.2.1 3 (7 : Int32).toNatClampNeg) := ⟨_, rfl⟩
        refine k_ild (v := v_13) C hP 3 rfl (vin (by decide)) e_14.symm dX12_convert_168 ?_
        refine lv_ldc (v := 1073741824) C.1 C.2.1 C.2.2.2.1 (C.2.2.2.2.1 _ m_34_19) dX12_convert_169 ?_
        obtain ⟨v_15, e_16⟩ : ∃ z, z = (v_13 : Int32) &&& (1073741824 : Int32) := ⟨_, rfl⟩
        have h_17 : (0 : Int) ≤ v_15.toInt ∧ v_15.toInt ≤ 1073741824 := by rw [e_16]; exact z_and _ (k := 1073741824) (by decide) (by decide)
        refine k_iand (v := v_15) C e_16.symm dX12_convert_171 ?_
        refine lv_iload_n C.1 C.2.1 dX12_convert_172 rfl (lv_at hl 3 rfl) ?_
        obtain ⟨v_18, e_19⟩ : ∃ z, z = (v_15 : Int32) ||| (w79_3 : Int32) := ⟨_, rfl⟩
        refine k_ior (v := v_18) C e_19.symm dX12_convert_173 ?_
        refine k_ist (ws' := WM K ad (uB (uB t1 3 (0 : Int32).toNatClampNeg v_10) 3 (7 : Int32).toNatClampNeg v_18)) (x' := v_18) C hP hD hS 3 rfl (vin (by decide)) rfl rfl rfl dX12_convert_174 (fun H locs hP hD hS => ?_)
        have hok : okM (uB (uB t1 3 (0 : Int32).toNatClampNeg v_10) 3 (7 : Int32).toNatClampNeg v_18) := ⟨hok.1, okB_B hok.2.1 3 _ v_18 (show (-2147483648 : Int) ≤ (v_18 : Int32).toInt ∧ (v_18 : Int32).toInt ≤ 2147483647 from (i_rng _)), hok.2.2.1, hok.2.2.2.1, hok.2.2.2.2.1, hok.2.2.2.2.2.1, hok.2.2.2.2.2.2.1, trivial⟩
        have hfr : frA [] [] [3] [] t (uB (uB t1 3 (0 : Int32).toNatClampNeg v_10) 3 (7 : Int32).toNatClampNeg v_18) := frA_B hfr 3 _ _ rfl
        exact g_vret C hr hlocks hP hD hS (uB (uB t1 3 (0 : Int32).toNatClampNeg v_10) 3 (7 : Int32).toNatClampNeg v_18) rfl ⟨hok, hfr⟩ (Nat.le_of_ble_eq_true rfl) (Nat.le_of_ble_eq_true rfl) dX12_convert_175
      · replace c_4 : w79_4.toInt < 10 := i_nle c_4
        refine lv_bipush (v := 30) C.1 C.2.1 dX12_convert_86 (by decide) ?_
        refine lv_iload_n C.1 C.2.1 dX12_convert_88 rfl (lv_at hl 1 rfl) ?_
        refine lv_bipush (v := 10) C.1 C.2.1 dX12_convert_89 (by decide) ?_
        obtain ⟨v_21, e_22⟩ : ∃ z, z = (w79_1 : Int32) - (w79_1 : Int32) / (10 : Int32) * (10 : Int32) := ⟨_, rfl⟩
        have h_23 : v_21.toInt = w79_1.toInt % 10 := by rw [e_22]; exact z_remp (k := 10) (by decide) (by show (0 : Int) ≤ w79_1.toInt; omega)
        refine k_irem (v := v_21) C (by decide) e_22.symm dX12_convert_91 ?_
        obtain ⟨v_24, e_25⟩ : ∃ z, z = (30 : Int32) + (v_21 : Int32) := ⟨_, rfl⟩
        have h_26 : v_24.toInt = 30 + v_21.toInt := by rw [e_25]; exact ti_iadd (by show (_ : Int) ≤ 30 + v_21.toInt; omega) (by show 30 + v_21.toInt < (_ : Int); omega)
        refine k_iadd (v := v_24) C e_25.symm dX12_convert_92 ?_
        refine lv_istore (lv' := [(5, .int v_24), (0, .ref (ad 0)), (1, .int w79_1), (2, .int w79_2), (3, .int w79_3), (4, .int w79_4)]) C.1 C.2.1 dX12_convert_93 hl (by decide) rfl (fun ls hl => ?_)
        have hl : lv_has ls 6 [(0, .ref (ad 0)), (1, .int w79_1), (2, .int w79_2), (3, .int w79_3), (4, .int w79_4), (5, .int v_24)] := lv_sub hl [1, 2, 3, 4, 5, 0] rfl
        refine lv_iload_n C.1 C.2.1 dX12_convert_95 rfl (lv_at hl 1 rfl) ?_
        refine lv_bipush (v := 10) C.1 C.2.1 dX12_convert_96 (by decide) ?_
        obtain ⟨v_27, e_28⟩ : ∃ z, z = (w79_1 : Int32) / (10 : Int32) := ⟨_, rfl⟩
        have h_29 : v_27.toInt = w79_1.toInt / 10 := by rw [e_28]; exact z_divp (k := 10) (by decide) (by decide) (by show (0 : Int) ≤ w79_1.toInt; omega)
        refine k_idiv (v := v_27) C (by decide) e_28.symm dX12_convert_98 ?_
        refine lv_istore_n (lv' := [(1, .int v_27), (0, .ref (ad 0)), (2, .int w79_2), (3, .int w79_3), (4, .int w79_4), (5, .int v_24)]) C.1 C.2.1 dX12_convert_99 rfl hl (by decide) rfl (fun ls hl => ?_)
        have hl : lv_has ls 6 [(0, .ref (ad 0)), (1, .int v_27), (2, .int w79_2), (3, .int w79_3), (4, .int w79_4), (5, .int v_24)] := lv_sub hl [1, 0, 2, 3, 4, 5] rfl
        refine lv_iload C.1 C.2.1 dX12_convert_100 (lv_at hl 4 rfl) ?_
        refine lv_iconst (v := 5) C.1 C.2.1 dX12_convert_102 (by decide) ?_
        refine lv_icmp_ge (tgt := 120) C.1 C.2.1 dX12_convert_103 (by decide) (fun c_30 => ?_) (fun c_30 => ?_)
        · replace c_30 : 5 ≤ w79_4.toInt := i_le c_30
          refine lv_iload_n C.1 C.2.1 dX12_convert_120 rfl (lv_at hl 2 rfl) ?_
          refine lv_iload C.1 C.2.1 dX12_convert_121 (lv_at hl 5 rfl) ?_
          refine lv_bipush (v := 6) C.1 C.2.1 dX12_convert_123 (by decide) ?_
          refine lv_iload C.1 C.2.1 dX12_convert_125 (lv_at hl 4 rfl) ?_
          refine lv_iconst (v := 5) C.1 C.2.1 dX12_convert_127 (by decide) ?_
          obtain ⟨v_31, e_32⟩ : ∃ z, z = (w79_4 : Int32) - (5 : Int32) := ⟨_, rfl⟩
          have h_33 : v_31.toInt = w79_4.toInt - 5 := by rw [e_32]; exact ti_isub (by show (_ : Int) ≤ w79_4.toInt - 5; omega) (by show w79_4.toInt - 5 < (_ : Int); omega)
          refine k_isub (v := v_31) C e_32.symm dX12_convert_128 ?_
          obtain ⟨v_34, e_35⟩ : ∃ z, z = (6 : Int32) * (v_31 : Int32) := ⟨_, rfl⟩
          have h_36 : v_34.toInt = 6 * v_31.toInt := by rw [e_35]; exact ti_mull (k := 6) (by decide) (by omega) (by omega)
          refine k_imul (v := v_34) C e_35.symm dX12_convert_129 ?_
          obtain ⟨v_37, e_38⟩ : ∃ z, z = (v_24 : Int32) <<< ((v_34 : Int32) &&& 31) := ⟨_, rfl⟩
          refine k_ishl (v := v_37) C e_38.symm dX12_convert_130 ?_
          obtain ⟨v_40, e_41⟩ : ∃ z, z = (w79_2 : Int32) ||| (v_37 : Int32) := ⟨_, rfl⟩
          refine k_ior (v := v_40) C e_41.symm dX12_convert_131 ?_
          refine lv_istore_n (lv' := [(2, .int v_40), (0, .ref (ad 0)), (1, .int v_27), (3, .int w79_3), (4, .int w79_4), (5, .int v_24)]) C.1 C.2.1 dX12_convert_132 rfl hl (by decide) rfl (fun ls hl => ?_)
          have hl : lv_has ls 6 [(0, .ref (ad 0)), (1, .int v_27), (2, .int v_40), (3, .int w79_3), (4, .int w79_4), (5, .int v_24)] := lv_sub hl [1, 2, 0, 3, 4, 5] rfl
          exact L_133 t1 v_27 v_40 w79_3 w79_4 v_24 _ _ _ hok hfr ⟨by omega, by omega⟩ ⟨by omega, by omega⟩ ⟨by omega, by omega⟩ (show (1 : Int) ≤ ((t1.1 0 17) : Int32).toInt ∧ ((t1.1 0 17) : Int32).toInt ≤ 63 from ⟨by omega, by omega⟩) (show (10 : Int) - w79_4.toInt < (fuel_79 : Int) + 1 from by omega) hP hD hS (lv_sub hl [0, 1, 2, 3, 4, 5] rfl)
        · replace c_30 : w79_4.toInt < 5 := i_nle c_30
          refine lv_iload_n C.1 C.2.1 dX12_convert_106 rfl (lv_at hl 3 rfl) ?_
          refine lv_iload C.1 C.2.1 dX12_convert_107 (lv_at hl 5 rfl) ?_
          refine lv_bipush (v := 6) C.1 C.2.1 dX12_convert_109 (by decide) ?_
          refine lv_iload C.1 C.2.1 dX12_convert_111 (lv_at hl 4 rfl) ?_
          obtain ⟨v_43, e_44⟩ : ∃ z, z = (6 : Int32) * (w79_4 : Int32) := ⟨_, rfl⟩
          have h_45 : v_43.toInt = 6 * w79_4.toInt := by rw [e_44]; exact ti_mull (k := 6) (by decide) (by omega) (by omega)
          refine k_imul (v := v_43) C e_44.symm dX12_convert_113 ?_
          obtain ⟨v_46, e_47⟩ : ∃ z, z = (v_24 : Int32) <<< ((v_43 : Int32) &&& 31) := ⟨_, rfl⟩
          refine k_ishl (v := v_46) C e_47.symm dX12_convert_114 ?_
          obtain ⟨v_49, e_50⟩ : ∃ z, z = (w79_3 : Int32) ||| (v_46 : Int32) := ⟨_, rfl⟩
          refine k_ior (v := v_49) C e_50.symm dX12_convert_115 ?_
          refine lv_istore_n (lv' := [(3, .int v_49), (0, .ref (ad 0)), (1, .int v_27), (2, .int w79_2), (4, .int w79_4), (5, .int v_24)]) C.1 C.2.1 dX12_convert_116 rfl hl (by decide) rfl (fun ls hl => ?_)
          have hl : lv_has ls 6 [(0, .ref (ad 0)), (1, .int v_27), (2, .int w79_2), (3, .int v_49), (4, .int w79_4), (5, .int v_24)] := lv_sub hl [1, 2, 3, 0, 4, 5] rfl
          refine lv_goto (tgt := 133) C.1 C.2.1 dX12_convert_117 (by decide) ?_
          exact L_133 t1 v_27 w79_2 v_49 w79_4 v_24 _ _ _ hok hfr ⟨by omega, by omega⟩ ⟨by omega, by omega⟩ ⟨by omega, by omega⟩ (show (1 : Int) ≤ ((t1.1 0 17) : Int32).toInt ∧ ((t1.1 0 17) : Int32).toInt ≤ 63 from ⟨by omega, by omega⟩) (show (10 : Int) - w79_4.toInt < (fuel_79 : Int) + 1 from by omega) hP hD hS (lv_sub hl [0, 1, 2, 3, 4, 5] rfl)
  have L_11 : ∀ (fuel_11 : Nat) (t1 : tSt) (w11_1 : Int64) (w11_3 : Int32) (H : Heap) (locs : List Loc) (ls : Array Slot), okM t1 → frA [] [] [3] [] t t1 → (1 : Int) ≤ w11_3.toInt ∧ w11_3.toInt ≤ 15 → (0 : Int) ≤ (t1.1 0 17).toInt ∧ (t1.1 0 17).toInt ≤ 0 → (15 : Int) - w11_3.toInt < (fuel_11 : Int) → va_P D vwCl (WM K ad t1) H → va_D A (WM K ad t1) → va_S A s.heap H locs → lv_has ls 6 [(0, .ref (ad 0)), (1, .long w11_1), (3, .int w11_3)] → W p l e (rmD 1 0 0) s m [.ref (ad 0)].toArray below meth c H locs 0 0 (MQ below (QV D K (fun (u : tSt) => okM u ∧ frA [] [] [3] [] t u) (fun (u : tSt) => WM K ad u) A) [.ref (ad 0)].toArray s 0 0 A) (F0 m 11 ls []) := by
    intro fuel_11
    induction fuel_11 with
    | zero =>
      intro t1 w11_1 w11_3 H locs ls hok hfr hw11_3 hf11_17 hm11_11 hP hD hS hl
      exact absurd hm11_11 (by omega)
    | succ fuel_11 ih_11 =>
      intro t1 w11_1 w11_3 H locs ls hok hfr hw11_3 hf11_17 hm11_11 hP hD hS hl
      have hm11_11 : (15 : Int) - w11_3.toInt < (fuel_11 : Int) + 1 := by omega
      refine lv_iload_n C.1 C.2.1 dX12_convert_11 rfl (lv_at hl 2 rfl) ?_
      refine lv_bipush (v := 11) C.1 C.2.1 dX12_convert_12 (by decide) ?_
      refine lv_icmp_ge (tgt := 39) C.1 C.2.1 dX12_convert_14 (by decide) (fun c_52 => ?_) (fun c_52 => ?_)
      · replace c_52 : 11 ≤ w11_3.toInt := i_le c_52
        refine lv_aload_n C.1 C.2.1 dX12_convert_39 rfl (lv_at hl 0 rfl) ?_
        refine k_get (v := .ref (ad 3)) C hP 0 rfl rfl inlX12 4 (by decide) m_7_6 rfl dX12_convert_40 ?_
        refine lv_iconst (v := 0) C.1 C.2.1 dX12_convert_43 (by decide) ?_
        refine lv_aload_n C.1 C.2.1 dX12_convert_44 rfl (lv_at hl 0 rfl) ?_
        refine k_get (v := .ref (ad 3)) C hP 0 rfl rfl inlX12 4 (by decide) m_7_6 rfl dX12_convert_45 ?_
        refine lv_iconst (v := 0) C.1 C.2.1 dX12_convert_48 (by decide) ?_
        obtain ⟨v_53, e_54⟩ : ∃ z, z = (t1.2.2.1 3 (0 : Int32).toNatClampNeg) := ⟨_, rfl⟩
        refine k_ild (v := v_53) C hP 3 rfl (vin (by decide)) e_54.symm dX12_convert_49 ?_
        refine lv_ldc (v := 1073741824) C.1 C.2.1 C.2.2.2.1 (C.2.2.2.2.1 _ m_34_19) dX12_convert_50 ?_
        obtain ⟨v_55, e_56⟩ : ∃ z, z = (v_53 : Int32) &&& (1073741824 : Int32) := ⟨_, rfl⟩
        have h_57 : (0 : Int) ≤ v_55.toInt ∧ v_55.toInt ≤ 1073741824 := by rw [e_56]; exact z_and _ (k := 1073741824) (by decide) (by decide)
        refine k_iand (v := v_55) C e_56.symm dX12_convert_52 ?_
        refine lv_lload_n C.1 C.2.1 dX12_convert_53 rfl (lv_at hl 1 rfl) ?_
        refine lv_ldc2 (v := 1073741823) C.1 C.2.1 C.2.2.2.1 (C.2.2.2.2.1 _ m_36_3) dX12_convert_54 ?_
        obtain ⟨v_58, e_59⟩ : ∃ z, z = (w11_1 : Int64) &&& 1073741823 := ⟨_, rfl⟩
        have h_60 : v_58.toInt = w11_1.toInt % 2 ^ 30 := by rw [e_59]; exact Jvm.Kit.i64_mask _ _ (k := 30) (by decide) (by decide)
        refine lw_land (v := v_58) C.1 C.2.1 dX12_convert_57 e_59.symm ?_
        obtain ⟨v_61, e_62⟩ : ∃ z, z = (v_58).toInt32 := ⟨_, rfl⟩
        have h_63 : v_61.toInt = v_58.toInt := by rw [e_62]; exact Jvm.Kit.i32_of_i64 (by show (_ : Int) ≤ v_58.toInt; omega) (by show v_58.toInt < (_ : Int); omega)
        refine lv_l2i (v := v_61) C.1 C.2.1 dX12_convert_58 e_62.symm ?_
        obtain ⟨v_64, e_65⟩ : ∃ z, z = (v_55 : Int32) ||| (v_61 : Int32) := ⟨_, rfl⟩
        have h_66 : (0 : Int) ≤ v_64.toInt ∧ v_64.toInt ≤ 2147483647 := by rw [e_65]; exact z_or (k := 31) (by decide) (by show (0 : Int) ≤ v_55.toInt; omega) (by show v_55.toInt < (_ : Int); omega) (by show (0 : Int) ≤ v_61.toInt; omega) (by show v_61.toInt < (_ : Int); omega)
        refine k_ior (v := v_64) C e_65.symm dX12_convert_59 ?_
        refine k_ist (ws' := WM K ad (uB t1 3 (0 : Int32).toNatClampNeg v_64)) (x' := v_64) C hP hD hS 3 rfl (vin (by decide)) rfl rfl rfl dX12_convert_60 (fun H locs hP hD hS => ?_)
        have hok : okM (uB t1 3 (0 : Int32).toNatClampNeg v_64) := ⟨hok.1, okB_B hok.2.1 3 _ v_64 (show (-2147483648 : Int) ≤ (v_64 : Int32).toInt ∧ (v_64 : Int32).toInt ≤ 2147483647 from (i_rng _)), hok.2.2.1, hok.2.2.2.1, hok.2.2.2.2.1, hok.2.2.2.2.2.1, hok.2.2.2.2.2.2.1, trivial⟩
        have hfr : frA [] [] [3] [] t (uB t1 3 (0 : Int32).toNatClampNeg v_64) := frA_B hfr 3 _ _ rfl
        exact g_vret C hr hlocks hP hD hS (uB t1 3 (0 : Int32).toNatClampNeg v_64) rfl ⟨hok, hfr⟩ (Nat.le_of_ble_eq_true rfl) (Nat.le_of_ble_eq_true rfl) dX12_convert_61
      · replace c_52 : w11_3.toInt < 11 := i_nle c_52
        refine lv_ldc2 (v := 10) C.1 C.2.1 C.2.2.2.1 (C.2.2.2.2.1 _ m_36_4) dX12_convert_17 ?_
        refine lv_lload_n C.1 C.2.1 dX12_convert_20 rfl (lv_at hl 1 rfl) ?_
        obtain ⟨v_67, e_68⟩ : ∃ z, z = (10 : Int64) * (w11_1 : Int64) := ⟨_, rfl⟩
        refine k_lmul (v := v_67) C e_68.symm dX12_convert_21 ?_
        refine lv_aload_n C.1 C.2.1 dX12_convert_22 rfl (lv_at hl 0 rfl) ?_
        refine lv_iload_n C.1 C.2.1 dX12_convert_23 rfl (lv_at hl 2 rfl) ?_
        refine g_Vi (As := [.int w11_3]) (rest := [.long v_67]) C hP hD hS hA (T_X12_byteAt l D K Z Y ad t1 hok (w11_3) (show (1 : Int) ≤ (w11_3 : Int32).toInt ∧ (w11_3 : Int32).toInt ≤ 2147483647 from ⟨by omega, (i_rng _).2⟩)) hE hZ (uwV m_62_6 m_62_7 m_62_8 m_1_5 m_62_9) (hdV 1 (by decide +kernel) rfl) ⟨Nat.le_of_ble_eq_true rfl, Nat.le_of_ble_eq_true rfl⟩ rfl rfl (ci := 11) (q0 := 0) rfl rfl rfl hl.1 (Nat.le_of_ble_eq_true rfl) dX12_convert_24 ⟨Nat.le_of_ble_eq_true rfl, Nat.le_of_ble_eq_true rfl⟩ (fun r_70 t_69 H locs hw hP hD hS => ?_)
        obtain ⟨h_72, h_73⟩ := hw
        refine lv_bipush (v := 10) C.1 C.2.1 dX12_convert_27 (by decide) ?_
        obtain ⟨v_74, e_75⟩ : ∃ z, z = (r_70 : Int32) - (r_70 : Int32) / (10 : Int32) * (10 : Int32) := ⟨_, rfl⟩
        have h_76 : v_74.toInt = r_70.toInt % 10 := by rw [e_75]; exact z_remp (k := 10) (by decide) (by show (0 : Int) ≤ r_70.toInt; omega)
        refine k_irem (v := v_74) C (by decide) e_75.symm dX12_convert_29 ?_
        obtain ⟨v_77, e_78⟩ : ∃ z, z = (v_74 : Int32).toInt64 := ⟨_, rfl⟩
        have h_79 : v_77.toInt = v_74.toInt := by rw [e_78]; exact Jvm.Kit.i64_of_i32 _
        refine lv_i2l (v := v_77) C.1 C.2.1 dX12_convert_30 e_78.symm ?_
        obtain ⟨v_80, e_81⟩ : ∃ z, z = (v_67 : Int64) + (v_77 : Int64) := ⟨_, rfl⟩
        refine k_ladd (v := v_80) C e_81.symm dX12_convert_31 ?_
        refine lv_lstore_n (lv' := [(1, .long v_80), (0, .ref (ad 0)), (3, .int w11_3)]) C.1 C.2.1 dX12_convert_32 rfl hl (by decide) rfl (fun ls hl => ?_)
        have hl : lv_has ls 6 [(0, .ref (ad 0)), (1, .long v_80), (3, .int w11_3)] := lv_sub hl [1, 0, 2] rfl
        obtain ⟨v_82, e_83⟩ : ∃ z, z = w11_3 + 1 := ⟨_, rfl⟩
        have h_84 : v_82.toInt = w11_3.toInt + 1 := by rw [e_83]; exact ti_iadd (by show (_ : Int) ≤ w11_3.toInt + 1; omega) (by show w11_3.toInt + 1 < (_ : Int); omega)
        refine lv_iinc (v := v_82) (lv' := [(3, .int v_82), (0, .ref (ad 0)), (1, .long v_80)]) C.1 C.2.1 dX12_convert_33 hl (k := 2) rfl e_83.symm (by decide) rfl (fun ls hl => ?_)
        have hl : lv_has ls 6 [(0, .ref (ad 0)), (1, .long v_80), (3, .int v_82)] := lv_sub hl [1, 2, 0] rfl
        refine lv_goto (tgt := 11) C.1 C.2.1 dX12_convert_36 (by decide) ?_
        exact ih_11 t1 v_80 v_82 _ _ _ hok hfr ⟨by omega, by omega⟩ (show (0 : Int) ≤ ((t1.1 0 17) : Int32).toInt ∧ ((t1.1 0 17) : Int32).toInt ≤ 0 from ⟨by omega, by omega⟩) (show (15 : Int) - v_82.toInt < (fuel_11 : Int) from by omega) hP hD hS (lv_sub hl [0, 1, 2] rfl)
  refine lv_aload_n C.1 C.2.1 dX12_convert_0 rfl (lv_at hl 0 rfl) ?_
  have h_85 : (0 : Int) ≤ (t.1 0 17).toInt ∧ (t.1 0 17).toInt ≤ 63 := hok.1 0 17
  refine k_get (v := .int (t.1 0 17)) C hP 0 rfl rfl inlX12 17 (by decide) m_57_4 rfl dX12_convert_1 ?_
  refine lv_if_ne (tgt := 62) C.1 C.2.1 dX12_convert_4 (by decide) (fun c_86 => ?_) (fun c_86 => ?_)
  · replace c_86 : ¬ (t.1 0 17).toInt = 0 := i_ne c_86
    refine lv_aload_n C.1 C.2.1 dX12_convert_62 rfl (lv_at hl 0 rfl) ?_
    refine k_get (v := .ref (ad 3)) C hP 0 rfl rfl inlX12 4 (by decide) m_7_6 rfl dX12_convert_63 ?_
    refine lv_iconst (v := 0) C.1 C.2.1 dX12_convert_66 (by decide) ?_
    obtain ⟨v_87, e_88⟩ : ∃ z, z = (t.2.2.1 3 (0 : Int32).toNatClampNeg) := ⟨_, rfl⟩
    refine k_ild (v := v_87) C hP 3 rfl (vin (by decide)) e_88.symm dX12_convert_67 ?_
    refine lv_ldc (v := 1073741823) C.1 C.2.1 C.2.2.2.1 (C.2.2.2.2.1 _ m_36_12) dX12_convert_68 ?_
    obtain ⟨v_89, e_90⟩ : ∃ z, z = (v_87 : Int32) &&& (1073741823 : Int32) := ⟨_, rfl⟩
    have h_91 : v_89.toInt = v_87.toInt % 2 ^ 30 := by rw [e_90]; exact Jvm.Kit.i32_mask _ _ (k := 30) (by decide) (by decide)
    refine k_iand (v := v_89) C e_90.symm dX12_convert_70 ?_
    refine lv_istore_n (lv' := [(1, .int v_89), (0, .ref (ad 0))]) C.1 C.2.1 dX12_convert_71 rfl hl (by decide) rfl (fun ls hl => ?_)
    have hl : lv_has ls 6 [(0, .ref (ad 0)), (1, .int v_89)] := lv_sub hl [1, 0] rfl
    refine lv_iconst (v := 0) C.1 C.2.1 dX12_convert_72 (by decide) ?_
    refine lv_istore_n (lv' := [(2, .int 0), (0, .ref (ad 0)), (1, .int v_89)]) C.1 C.2.1 dX12_convert_73 rfl hl (by decide) rfl (fun ls hl => ?_)
    have hl : lv_has ls 6 [(0, .ref (ad 0)), (1, .int v_89), (2, .int 0)] := lv_sub hl [1, 2, 0] rfl
    refine lv_iconst (v := 0) C.1 C.2.1 dX12_convert_74 (by decide) ?_
    refine lv_istore_n (lv' := [(3, .int 0), (0, .ref (ad 0)), (1, .int v_89), (2, .int 0)]) C.1 C.2.1 dX12_convert_75 rfl hl (by decide) rfl (fun ls hl => ?_)
    have hl : lv_has ls 6 [(0, .ref (ad 0)), (1, .int v_89), (2, .int 0), (3, .int 0)] := lv_sub hl [1, 2, 3, 0] rfl
    refine lv_iconst (v := 0) C.1 C.2.1 dX12_convert_76 (by decide) ?_
    refine lv_istore (lv' := [(4, .int 0), (0, .ref (ad 0)), (1, .int v_89), (2, .int 0), (3, .int 0)]) C.1 C.2.1 dX12_convert_77 hl (by decide) rfl (fun ls hl => ?_)
    have hl : lv_has ls 6 [(0, .ref (ad 0)), (1, .int v_89), (2, .int 0), (3, .int 0), (4, .int 0)] := lv_sub hl [1, 2, 3, 4, 0] rfl
    exact L_79 11 t v_89 0 0 0 _ _ _ hok hfr ⟨by omega, by omega⟩ ⟨by decide, by decide⟩ (show (1 : Int) ≤ ((t.1 0 17) : Int32).toInt ∧ ((t.1 0 17) : Int32).toInt ≤ 63 from ⟨by omega, by omega⟩) (show (10 : Int) - 0 < ((11 : Nat) : Int) from by omega) hP hD hS (lv_sub hl [0, 1, 2, 3, 4] rfl)
  · replace c_86 : (t.1 0 17).toInt = 0 := i_eq c_86
    refine lv_lconst (v := 0) C.1 C.2.1 dX12_convert_7 (by decide) ?_
    refine lv_lstore_n (lv' := [(1, .long 0), (0, .ref (ad 0))]) C.1 C.2.1 dX12_convert_8 rfl hl (by decide) rfl (fun ls hl => ?_)
    have hl : lv_has ls 6 [(0, .ref (ad 0)), (1, .long 0)] := lv_sub hl [1, 0] rfl
    refine lv_iconst (v := 1) C.1 C.2.1 dX12_convert_9 (by decide) ?_
    refine lv_istore_n (lv' := [(3, .int 1), (0, .ref (ad 0)), (1, .long 0)]) C.1 C.2.1 dX12_convert_10 rfl hl (by decide) rfl (fun ls hl => ?_)
    have hl : lv_has ls 6 [(0, .ref (ad 0)), (1, .long 0), (3, .int 1)] := lv_sub hl [1, 2, 0] rfl
    exact L_11 15 t 0 1 _ _ _ hok hfr ⟨by decide, by decide⟩ (show (0 : Int) ≤ ((t.1 0 17) : Int32).toInt ∧ ((t.1 0 17) : Int32).toInt ≤ 0 from ⟨by omega, by omega⟩) (show (15 : Int) - 1 < ((15 : Nat) : Int) from by omega) hP hD hS (lv_sub hl [0, 1, 2] rfl)

theorem dX12_sayTrace_0 : decode cX12_sayTrace 0 = .ok (.aload_n 0, 1) := by decide +kernel
theorem dX12_sayTrace_1 : decode cX12_sayTrace 1 = .ok (.dup, 1) := by decide +kernel
theorem dX12_sayTrace_10 : decode cX12_sayTrace 10 = .ok (.aload_n 0, 1) := by decide +kernel
theorem dX12_sayTrace_101 : decode cX12_sayTrace 101 = .ok (.aload_n 0, 1) := by decide +kernel
theorem dX12_sayTrace_102 : decode cX12_sayTrace 102 = .ok (.bipush 32, 2) := by decide +kernel
theorem dX12_sayTrace_104 : decode cX12_sayTrace 104 = .ok (.invokevirtual 189, 3) := by decide +kernel
theorem dX12_sayTrace_107 : decode cX12_sayTrace 107 = .ok (.aload_n 0, 1) := by decide +kernel
theorem dX12_sayTrace_108 : decode cX12_sayTrace 108 = .ok (.aload_n 0, 1) := by decide +kernel
theorem dX12_sayTrace_109 : decode cX12_sayTrace 109 = .ok (.getfield 314, 3) := by decide +kernel
theorem dX12_sayTrace_11 : decode cX12_sayTrace 11 = .ok (.invokevirtual 263, 3) := by decide +kernel
theorem dX12_sayTrace_112 : decode cX12_sayTrace 112 = .ok (.ifCond .eq 8, 3) := by decide +kernel
theorem dX12_sayTrace_115 : decode cX12_sayTrace 115 = .ok (.bipush 49, 2) := by decide +kernel
theorem dX12_sayTrace_117 : decode cX12_sayTrace 117 = .ok (.goto 5, 3) := by decide +kernel
theorem dX12_sayTrace_120 : decode cX12_sayTrace 120 = .ok (.bipush 48, 2) := by decide +kernel
theorem dX12_sayTrace_122 : decode cX12_sayTrace 122 = .ok (.invokevirtual 189, 3) := by decide +kernel
theorem dX12_sayTrace_125 : decode cX12_sayTrace 125 = .ok (.aload_n 0, 1) := by decide +kernel
theorem dX12_sayTrace_126 : decode cX12_sayTrace 126 = .ok (.bipush 32, 2) := by decide +kernel
theorem dX12_sayTrace_128 : decode cX12_sayTrace 128 = .ok (.invokevirtual 189, 3) := by decide +kernel
theorem dX12_sayTrace_131 : decode cX12_sayTrace 131 = .ok (.aload_n 0, 1) := by decide +kernel
theorem dX12_sayTrace_132 : decode cX12_sayTrace 132 = .ok (.aload_n 0, 1) := by decide +kernel
theorem dX12_sayTrace_133 : decode cX12_sayTrace 133 = .ok (.getfield 20, 3) := by decide +kernel
theorem dX12_sayTrace_136 : decode cX12_sayTrace 136 = .ok (.ifCond .ne 8, 3) := by decide +kernel
theorem dX12_sayTrace_139 : decode cX12_sayTrace 139 = .ok (.bipush 76, 2) := by decide +kernel
theorem dX12_sayTrace_14 : decode cX12_sayTrace 14 = .ok (.aload_n 0, 1) := by decide +kernel
theorem dX12_sayTrace_141 : decode cX12_sayTrace 141 = .ok (.goto 18, 3) := by decide +kernel
theorem dX12_sayTrace_144 : decode cX12_sayTrace 144 = .ok (.aload_n 0, 1) := by decide +kernel
theorem dX12_sayTrace_145 : decode cX12_sayTrace 145 = .ok (.getfield 20, 3) := by decide +kernel
theorem dX12_sayTrace_148 : decode cX12_sayTrace 148 = .ok (.iconst 1, 1) := by decide +kernel
theorem dX12_sayTrace_149 : decode cX12_sayTrace 149 = .ok (.if_icmp .ne 8, 3) := by decide +kernel
theorem dX12_sayTrace_15 : decode cX12_sayTrace 15 = .ok (.iload_n 1, 1) := by decide +kernel
theorem dX12_sayTrace_152 : decode cX12_sayTrace 152 = .ok (.bipush 69, 2) := by decide +kernel
theorem dX12_sayTrace_154 : decode cX12_sayTrace 154 = .ok (.goto 5, 3) := by decide +kernel
theorem dX12_sayTrace_157 : decode cX12_sayTrace 157 = .ok (.bipush 71, 2) := by decide +kernel
theorem dX12_sayTrace_159 : decode cX12_sayTrace 159 = .ok (.invokevirtual 189, 3) := by decide +kernel
theorem dX12_sayTrace_16 : decode cX12_sayTrace 16 = .ok (.ifCond .ge 8, 3) := by decide +kernel
theorem dX12_sayTrace_162 : decode cX12_sayTrace 162 = .ok (.aload_n 0, 1) := by decide +kernel
theorem dX12_sayTrace_163 : decode cX12_sayTrace 163 = .ok (.bipush 32, 2) := by decide +kernel
theorem dX12_sayTrace_165 : decode cX12_sayTrace 165 = .ok (.invokevirtual 189, 3) := by decide +kernel
theorem dX12_sayTrace_168 : decode cX12_sayTrace 168 = .ok (.aload_n 0, 1) := by decide +kernel
theorem dX12_sayTrace_169 : decode cX12_sayTrace 169 = .ok (.aload_n 0, 1) := by decide +kernel
theorem dX12_sayTrace_170 : decode cX12_sayTrace 170 = .ok (.getfield 272, 3) := by decide +kernel
theorem dX12_sayTrace_173 : decode cX12_sayTrace 173 = .ok (.ldc2_w 709, 3) := by decide +kernel
theorem dX12_sayTrace_176 : decode cX12_sayTrace 176 = .ok (.lrem, 1) := by decide +kernel
theorem dX12_sayTrace_177 : decode cX12_sayTrace 177 = .ok (.bipush 9, 2) := by decide +kernel
theorem dX12_sayTrace_179 : decode cX12_sayTrace 179 = .ok (.invokevirtual 199, 3) := by decide +kernel
theorem dX12_sayTrace_182 : decode cX12_sayTrace 182 = .ok (.aload_n 0, 1) := by decide +kernel
theorem dX12_sayTrace_183 : decode cX12_sayTrace 183 = .ok (.bipush 18, 2) := by decide +kernel
theorem dX12_sayTrace_185 : decode cX12_sayTrace 185 = .ok (.invokevirtual 269, 3) := by decide +kernel
theorem dX12_sayTrace_188 : decode cX12_sayTrace 188 = .ok (.return_, 1) := by decide +kernel
theorem dX12_sayTrace_19 : decode cX12_sayTrace 19 = .ok (.bipush 45, 2) := by decide +kernel
theorem dX12_sayTrace_2 : decode cX12_sayTrace 2 = .ok (.getfield 415, 3) := by decide +kernel
theorem dX12_sayTrace_21 : decode cX12_sayTrace 21 = .ok (.goto 5, 3) := by decide +kernel
theorem dX12_sayTrace_24 : decode cX12_sayTrace 24 = .ok (.bipush 43, 2) := by decide +kernel
theorem dX12_sayTrace_26 : decode cX12_sayTrace 26 = .ok (.invokevirtual 189, 3) := by decide +kernel
theorem dX12_sayTrace_29 : decode cX12_sayTrace 29 = .ok (.aload_n 0, 1) := by decide +kernel
theorem dX12_sayTrace_30 : decode cX12_sayTrace 30 = .ok (.iload_n 1, 1) := by decide +kernel
theorem dX12_sayTrace_31 : decode cX12_sayTrace 31 = .ok (.ifCond .ge 9, 3) := by decide +kernel
theorem dX12_sayTrace_34 : decode cX12_sayTrace 34 = .ok (.iload_n 1, 1) := by decide +kernel
theorem dX12_sayTrace_35 : decode cX12_sayTrace 35 = .ok (.ineg, 1) := by decide +kernel
theorem dX12_sayTrace_36 : decode cX12_sayTrace 36 = .ok (.i2l, 1) := by decide +kernel
theorem dX12_sayTrace_37 : decode cX12_sayTrace 37 = .ok (.goto 5, 3) := by decide +kernel
theorem dX12_sayTrace_40 : decode cX12_sayTrace 40 = .ok (.iload_n 1, 1) := by decide +kernel
theorem dX12_sayTrace_41 : decode cX12_sayTrace 41 = .ok (.i2l, 1) := by decide +kernel
theorem dX12_sayTrace_42 : decode cX12_sayTrace 42 = .ok (.iconst 4, 1) := by decide +kernel
theorem dX12_sayTrace_43 : decode cX12_sayTrace 43 = .ok (.invokevirtual 199, 3) := by decide +kernel
theorem dX12_sayTrace_46 : decode cX12_sayTrace 46 = .ok (.aload_n 0, 1) := by decide +kernel
theorem dX12_sayTrace_47 : decode cX12_sayTrace 47 = .ok (.bipush 32, 2) := by decide +kernel
theorem dX12_sayTrace_49 : decode cX12_sayTrace 49 = .ok (.invokevirtual 189, 3) := by decide +kernel
theorem dX12_sayTrace_5 : decode cX12_sayTrace 5 = .ok (.iconst 1, 1) := by decide +kernel
theorem dX12_sayTrace_52 : decode cX12_sayTrace 52 = .ok (.aload_n 0, 1) := by decide +kernel
theorem dX12_sayTrace_53 : decode cX12_sayTrace 53 = .ok (.iload_n 2, 1) := by decide +kernel
theorem dX12_sayTrace_54 : decode cX12_sayTrace 54 = .ok (.invokevirtual 688, 3) := by decide +kernel
theorem dX12_sayTrace_57 : decode cX12_sayTrace 57 = .ok (.aload_n 0, 1) := by decide +kernel
theorem dX12_sayTrace_58 : decode cX12_sayTrace 58 = .ok (.bipush 22, 2) := by decide +kernel
theorem dX12_sayTrace_6 : decode cX12_sayTrace 6 = .ok (.isub, 1) := by decide +kernel
theorem dX12_sayTrace_60 : decode cX12_sayTrace 60 = .ok (.invokevirtual 667, 3) := by decide +kernel
theorem dX12_sayTrace_63 : decode cX12_sayTrace 63 = .ok (.aload_n 0, 1) := by decide +kernel
theorem dX12_sayTrace_64 : decode cX12_sayTrace 64 = .ok (.iload_n 2, 1) := by decide +kernel
theorem dX12_sayTrace_65 : decode cX12_sayTrace 65 = .ok (.invokevirtual 691, 3) := by decide +kernel
theorem dX12_sayTrace_68 : decode cX12_sayTrace 68 = .ok (.aload_n 0, 1) := by decide +kernel
theorem dX12_sayTrace_69 : decode cX12_sayTrace 69 = .ok (.bipush 27, 2) := by decide +kernel
theorem dX12_sayTrace_7 : decode cX12_sayTrace 7 = .ok (.putfield 415, 3) := by decide +kernel
theorem dX12_sayTrace_71 : decode cX12_sayTrace 71 = .ok (.invokevirtual 667, 3) := by decide +kernel
theorem dX12_sayTrace_74 : decode cX12_sayTrace 74 = .ok (.aload_n 0, 1) := by decide +kernel
theorem dX12_sayTrace_75 : decode cX12_sayTrace 75 = .ok (.aload_n 0, 1) := by decide +kernel
theorem dX12_sayTrace_76 : decode cX12_sayTrace 76 = .ok (.getfield 17, 3) := by decide +kernel
theorem dX12_sayTrace_79 : decode cX12_sayTrace 79 = .ok (.iconst 0, 1) := by decide +kernel
theorem dX12_sayTrace_80 : decode cX12_sayTrace 80 = .ok (.iaload, 1) := by decide +kernel
theorem dX12_sayTrace_81 : decode cX12_sayTrace 81 = .ok (.invokevirtual 697, 3) := by decide +kernel
theorem dX12_sayTrace_84 : decode cX12_sayTrace 84 = .ok (.aload_n 0, 1) := by decide +kernel
theorem dX12_sayTrace_85 : decode cX12_sayTrace 85 = .ok (.bipush 32, 2) := by decide +kernel
theorem dX12_sayTrace_87 : decode cX12_sayTrace 87 = .ok (.invokevirtual 189, 3) := by decide +kernel
theorem dX12_sayTrace_90 : decode cX12_sayTrace 90 = .ok (.aload_n 0, 1) := by decide +kernel
theorem dX12_sayTrace_91 : decode cX12_sayTrace 91 = .ok (.aload_n 0, 1) := by decide +kernel
theorem dX12_sayTrace_92 : decode cX12_sayTrace 92 = .ok (.getfield 17, 3) := by decide +kernel
theorem dX12_sayTrace_95 : decode cX12_sayTrace 95 = .ok (.bipush 7, 2) := by decide +kernel
theorem dX12_sayTrace_97 : decode cX12_sayTrace 97 = .ok (.iaload, 1) := by decide +kernel
theorem dX12_sayTrace_98 : decode cX12_sayTrace 98 = .ok (.invokevirtual 697, 3) := by decide +kernel
set_option maxHeartbeats 4000000 in
set_option maxRecDepth 100000 in
theorem T_X12_sayTrace (l : Launch) (D : va_G) (K : Nat → ClassId) (Z Y : Nat → Nat) (ad : Nat → Nat) (t : tSt) (hok : okM t) (x1 : Int32) (x2 : Int32) : tMet l yX12_sayTrace cX12_sayTrace 3 none (rmD 6 0 0) D K Z Y [.ref (ad 0), .int x1, .int x2] (WM K ad t) (QV D K (fun (u : tSt) => okM u ∧ frA [(0, 30), (0, 91)] [] [11, 12, 13, 14] [] t u) (fun (u : tSt) => WM K ad u)) 0 0 := by
  refine t_met RX12 ⟨rfl, by decide +kernel⟩ (Nat.le_of_ble_eq_true rfl) ?_
  intro p e s m below meth c A ls C hE hZ hr hlocks hA hP hD hS hl
  have hl : lv_has ls 3 [(0, .ref (ad 0)), (1, .int x1), (2, .int x2)] := hl
  have hokt := hok
  have hfr : frA [(0, 30), (0, 91)] [] [11, 12, 13, 14] [] t t := frA_rf
  have h_1 : (0 : Int) ≤ (t.1 0 30).toInt ∧ (t.1 0 30).toInt ≤ 120 := hok.1 0 30
  refine lv_aload_n C.1 C.2.1 dX12_sayTrace_0 rfl (lv_at hl 0 rfl) ?_
  refine lv_dup C.1 C.2.1 dX12_sayTrace_1 rfl ?_
  refine k_get (v := .int (t.1 0 91)) C hP 0 rfl rfl inlX12 91 (by decide) m_30_3 rfl dX12_sayTrace_2 ?_
  refine lv_iconst (v := 1) C.1 C.2.1 dX12_sayTrace_5 (by decide) ?_
  obtain ⟨v_2, e_3⟩ : ∃ z, z = ((t.1 0 91) : Int32) - (1 : Int32) := ⟨_, rfl⟩
  refine k_isub (v := v_2) C e_3.symm dX12_sayTrace_6 ?_
  refine k_put (ws' := WM K ad (uI t 0 91 v_2)) (v := .int v_2) C hP hD hS 0 rfl rfl inlX12 tyX12_ok nmX12 91 (by decide) m_30_3 rfl rfl rfl rfl rfl dX12_sayTrace_7 (fun H locs hP hD hS => ?_)
  have hok : okM (uI t 0 91 v_2) := ⟨okI_I hok.1 0 91 v_2 (show (-2147483648 : Int) ≤ (v_2 : Int32).toInt ∧ (v_2 : Int32).toInt ≤ 2147483647 from (i_rng _)), hok.2.1, hok.2.2.1, hok.2.2.2.1, hok.2.2.2.2.1, hok.2.2.2.2.2.1, hok.2.2.2.2.2.2.1, trivial⟩
  have hfr : frA [(0, 30), (0, 91)] [] [11, 12, 13, 14] [] t (uI t 0 91 v_2) := frA_I hfr 0 91 _ rfl
  refine lv_aload_n C.1 C.2.1 dX12_sayTrace_10 rfl (lv_at hl 0 rfl) ?_
  refine g_Vv (As := []) (rest := []) C hP hD hS hA (T_X12_begin l D K Z Y ad (uI t 0 91 v_2) hok ) hE hZ (uwV m_42_4 m_42_5 m_42_6 m_1_5 m_42_7) (hdV 0 (by decide +kernel) rfl) ⟨Nat.le_of_ble_eq_true rfl, Nat.le_of_ble_eq_true rfl⟩ rfl rfl (ci := 11) (q0 := 0) rfl rfl rfl hl.1 (Nat.le_of_ble_eq_true rfl) dX12_sayTrace_11 ⟨Nat.le_of_ble_eq_true rfl, Nat.le_of_ble_eq_true rfl⟩ (fun t_5 H locs hw hP hD hS => ?_)
  obtain ⟨hok, f_7, p_8⟩ := hw
  have hfr : frA [(0, 30), (0, 91)] [] [11, 12, 13, 14] [] t t_5 := frA_tr hfr f_7 rfl
  have h_9 : (t_5.1 0 91).toInt = v_2.toInt := ti_eq (f_7.1 0 91 rfl)
  have h_10 : (0 : Int) ≤ (t_5.1 0 30).toInt ∧ (t_5.1 0 30).toInt ≤ 120 := hok.1 0 30
  replace p_8 : (t_5.1 0 30).toInt = 0 := p_8
  refine lv_aload_n C.1 C.2.1 dX12_sayTrace_14 rfl (lv_at hl 0 rfl) ?_
  refine lv_iload_n C.1 C.2.1 dX12_sayTrace_15 rfl (lv_at hl 1 rfl) ?_
  refine lv_if_ge (tgt := 24) C.1 C.2.1 dX12_sayTrace_16 (by decide) (fun c_11 => ?_) (fun c_11 => ?_)
  · replace c_11 : 0 ≤ x1.toInt := i_le c_11
    refine lv_bipush (v := 43) C.1 C.2.1 dX12_sayTrace_24 (by decide) ?_
    refine g_Vv (As := [.int 43]) (rest := []) C hP hD hS hA (T_X12_say l D K Z Y ad t_5 hok 43 (show (t_5.1 0 30).toInt ≤ 119 from by omega)) hE hZ (uwV m_42_13 m_42_14 m_42_15 m_1_5 m_42_16) (hdV 1 (by decide +kernel) rfl) ⟨Nat.le_of_ble_eq_true rfl, Nat.le_of_ble_eq_true rfl⟩ rfl rfl (ci := 11) (q0 := 0) rfl rfl rfl hl.1 (Nat.le_of_ble_eq_true rfl) dX12_sayTrace_26 ⟨Nat.le_of_ble_eq_true rfl, Nat.le_of_ble_eq_true rfl⟩ (fun t_12 H locs hw hP hD hS => ?_)
    obtain ⟨hok, f_14, p_15⟩ := hw
    have hfr : frA [(0, 30), (0, 91)] [] [11, 12, 13, 14] [] t t_12 := frA_tr hfr f_14 rfl
    have h_16 : (t_12.1 0 91).toInt = (t_5.1 0 91).toInt := ti_eq (f_14.1 0 91 rfl)
    have h_17 : (0 : Int) ≤ (t_12.1 0 30).toInt ∧ (t_12.1 0 30).toInt ≤ 120 := hok.1 0 30
    replace p_15 : (t_12.1 0 30).toInt = (t_5.1 0 30).toInt + 1 := p_15
    refine lv_aload_n C.1 C.2.1 dX12_sayTrace_29 rfl (lv_at hl 0 rfl) ?_
    refine lv_iload_n C.1 C.2.1 dX12_sayTrace_30 rfl (lv_at hl 1 rfl) ?_
    refine lv_if_ge (tgt := 40) C.1 C.2.1 dX12_sayTrace_31 (by decide) (fun c_18 => ?_) (fun c_18 => False.elim (by have c_18 : x1.toInt < 0 := i_nle c_18; omega))
    replace c_18 : 0 ≤ x1.toInt := i_le c_18
    refine lv_iload_n C.1 C.2.1 dX12_sayTrace_40 rfl (lv_at hl 1 rfl) ?_
    obtain ⟨v_19, e_20⟩ : ∃ z, z = (x1 : Int32).toInt64 := ⟨_, rfl⟩
    have h_21 : v_19.toInt = x1.toInt := by rw [e_20]; exact Jvm.Kit.i64_of_i32 _
    have h_22 := i_rng x1
    refine lv_i2l (v := v_19) C.1 C.2.1 dX12_sayTrace_41 e_20.symm ?_
    refine lv_iconst (v := 4) C.1 C.2.1 dX12_sayTrace_42 (by decide) ?_
    have h_23 : (4 : Int32).toInt = 4 := rfl
    refine g_Vv (As := [.long v_19, .int 4]) (rest := []) C hP hD hS hA (T_X12_sayDigits l D K Z Y ad t_12 hok (v_19) 4 (show (1 : Int) ≤ (4 : Int32).toInt ∧ (4 : Int32).toInt ≤ 10 from ⟨by decide, by decide⟩) (show (t_12.1 0 30).toInt + (4 : Int32).toInt ≤ 120 from by omega) (show 1 ≤ (4 : Int32).toInt from by omega) (show (4 : Int32).toInt ≤ 10 from by omega)) hE hZ (uwV m_42_9 m_42_10 m_42_11 m_1_5 m_42_12) (hdV 2 (by decide +kernel) rfl) ⟨Nat.le_of_ble_eq_true rfl, Nat.le_of_ble_eq_true rfl⟩ rfl rfl (ci := 11) (q0 := 0) rfl rfl rfl hl.1 (Nat.le_of_ble_eq_true rfl) dX12_sayTrace_43 ⟨Nat.le_of_ble_eq_true rfl, Nat.le_of_ble_eq_true rfl⟩ (fun t_24 H locs hw hP hD hS => ?_)
    obtain ⟨hok, f_26, p_27⟩ := hw
    have hfr : frA [(0, 30), (0, 91)] [] [11, 12, 13, 14] [] t t_24 := frA_tr hfr f_26 rfl
    have h_28 : (t_24.1 0 91).toInt = (t_12.1 0 91).toInt := ti_eq (f_26.1 0 91 rfl)
    have h_29 : (0 : Int) ≤ (t_24.1 0 30).toInt ∧ (t_24.1 0 30).toInt ≤ 120 := hok.1 0 30
    replace p_27 : (t_24.1 0 30).toInt = (t_12.1 0 30).toInt + (4 : Int32).toInt := p_27
    refine lv_aload_n C.1 C.2.1 dX12_sayTrace_46 rfl (lv_at hl 0 rfl) ?_
    refine lv_bipush (v := 32) C.1 C.2.1 dX12_sayTrace_47 (by decide) ?_
    refine g_Vv (As := [.int 32]) (rest := []) C hP hD hS hA (T_X12_say l D K Z Y ad t_24 hok 32 (show (t_24.1 0 30).toInt ≤ 119 from by omega)) hE hZ (uwV m_42_13 m_42_14 m_42_15 m_1_5 m_42_16) (hdV 1 (by decide +kernel) rfl) ⟨Nat.le_of_ble_eq_true rfl, Nat.le_of_ble_eq_true rfl⟩ rfl rfl (ci := 11) (q0 := 0) rfl rfl rfl hl.1 (Nat.le_of_ble_eq_true rfl) dX12_sayTrace_49 ⟨Nat.le_of_ble_eq_true rfl, Nat.le_of_ble_eq_true rfl⟩ (fun t_30 H locs hw hP hD hS => ?_)
    obtain ⟨hok, f_32, p_33⟩ := hw
    have hfr : frA [(0, 30), (0, 91)] [] [11, 12, 13, 14] [] t t_30 := frA_tr hfr f_32 rfl
    have h_34 : (t_30.1 0 91).toInt = (t_24.1 0 91).toInt := ti_eq (f_32.1 0 91 rfl)
    have h_35 : (0 : Int) ≤ (t_30.1 0 30).toInt ∧ (t_30.1 0 30).toInt ≤ 120 := hok.1 0 30
    replace p_33 : (t_30.1 0 30).toInt = (t_24.1 0 30).toInt + 1 := p_33
    refine lv_aload_n C.1 C.2.1 dX12_sayTrace_52 rfl (lv_at hl 0 rfl) ?_
    refine lv_iload_n C.1 C.2.1 dX12_sayTrace_53 rfl (lv_at hl 2 rfl) ?_
    refine g_Vv (As := [.int x2]) (rest := []) C hP hD hS hA (T_X12_sayParts l D K Z Y ad t_30 hok (x2) (show (t_30.1 0 30).toInt ≤ 105 from by omega)) hE hZ (uwV m_63_20 m_63_21 m_63_22 m_1_5 m_63_23) (hdV 1 (by decide +kernel) rfl) ⟨Nat.le_of_ble_eq_true rfl, Nat.le_of_ble_eq_true rfl⟩ rfl rfl (ci := 11) (q0 := 0) rfl rfl rfl hl.1 (Nat.le_of_ble_eq_true rfl) dX12_sayTrace_54 ⟨Nat.le_of_ble_eq_true rfl, Nat.le_of_ble_eq_true rfl⟩ (fun t_36 H locs hw hP hD hS => ?_)
    obtain ⟨hok, f_38, p_39⟩ := hw
    have hfr : frA [(0, 30), (0, 91)] [] [11, 12, 13, 14] [] t t_36 := frA_tr hfr f_38 rfl
    have h_40 : (t_36.1 0 91).toInt = (t_30.1 0 91).toInt := ti_eq (f_38.1 0 91 rfl)
    have h_41 : (0 : Int) ≤ (t_36.1 0 30).toInt ∧ (t_36.1 0 30).toInt ≤ 120 := hok.1 0 30
    replace p_39 : (t_36.1 0 30).toInt = (t_30.1 0 30).toInt + 15 := p_39
    refine lv_aload_n C.1 C.2.1 dX12_sayTrace_57 rfl (lv_at hl 0 rfl) ?_
    refine lv_bipush (v := 22) C.1 C.2.1 dX12_sayTrace_58 (by decide) ?_
    have h_42 : (22 : Int32).toInt = 22 := rfl
    refine g_Vv (As := [.int 22]) (rest := []) C hP hD hS hA (T_X12_toColumn l D K Z Y ad t_36 hok 22 (show (2 : Int) ≤ (22 : Int32).toInt ∧ (22 : Int32).toInt ≤ 63 from ⟨by decide, by decide⟩) (show (22 : Int32).toInt ≤ 121 from by omega)) hE hZ (uwV m_42_17 m_42_18 m_42_19 m_1_5 m_42_20) (hdV 1 (by decide +kernel) rfl) ⟨Nat.le_of_ble_eq_true rfl, Nat.le_of_ble_eq_true rfl⟩ rfl rfl (ci := 11) (q0 := 0) rfl rfl rfl hl.1 (Nat.le_of_ble_eq_true rfl) dX12_sayTrace_60 ⟨Nat.le_of_ble_eq_true rfl, Nat.le_of_ble_eq_true rfl⟩ (fun t_43 H locs hw hP hD hS => ?_)
    obtain ⟨hok, f_45, p_46, p_47⟩ := hw
    have hfr : frA [(0, 30), (0, 91)] [] [11, 12, 13, 14] [] t t_43 := frA_tr hfr f_45 rfl
    have h_48 : (t_43.1 0 91).toInt = (t_36.1 0 91).toInt := ti_eq (f_45.1 0 91 rfl)
    have h_49 : (0 : Int) ≤ (t_43.1 0 30).toInt ∧ (t_43.1 0 30).toInt ≤ 120 := hok.1 0 30
    replace p_46 : (t_36.1 0 30).toInt ≤ (t_43.1 0 30).toInt := p_46
    replace p_47 : (t_43.1 0 30).toInt ≤ (t_36.1 0 30).toInt ∨ (t_43.1 0 30).toInt ≤ (22 : Int32).toInt - 1 := p_47
    refine lv_aload_n C.1 C.2.1 dX12_sayTrace_63 rfl (lv_at hl 0 rfl) ?_
    refine lv_iload_n C.1 C.2.1 dX12_sayTrace_64 rfl (lv_at hl 2 rfl) ?_
    refine g_Vv (As := [.int x2]) (rest := []) C hP hD hS hA (T_X12_sayName l D K Z Y ad t_43 hok (x2) (show (t_43.1 0 30).toInt ≤ 110 from by omega)) hE hZ (uwV m_64_4 m_64_5 m_64_6 m_1_5 m_64_7) (hdV 1 (by decide +kernel) rfl) ⟨Nat.le_of_ble_eq_true rfl, Nat.le_of_ble_eq_true rfl⟩ rfl rfl (ci := 11) (q0 := 0) rfl rfl rfl hl.1 (Nat.le_of_ble_eq_true rfl) dX12_sayTrace_65 ⟨Nat.le_of_ble_eq_true rfl, Nat.le_of_ble_eq_true rfl⟩ (fun t_50 H locs hw hP hD hS => ?_)
    obtain ⟨hok, f_52, p_53, p_54⟩ := hw
    have hfr : frA [(0, 30), (0, 91)] [] [11, 12, 13, 14] [] t t_50 := frA_tr hfr f_52 rfl
    have h_55 : (t_50.1 0 91).toInt = (t_43.1 0 91).toInt := ti_eq (f_52.1 0 91 rfl)
    have h_56 : (0 : Int) ≤ (t_50.1 0 30).toInt ∧ (t_50.1 0 30).toInt ≤ 120 := hok.1 0 30
    replace p_53 : (t_43.1 0 30).toInt ≤ (t_50.1 0 30).toInt := p_53
    replace p_54 : (t_50.1 0 30).toInt ≤ (t_43.1 0 30).toInt + 4 := p_54
    refine lv_aload_n C.1 C.2.1 dX12_sayTrace_68 rfl (lv_at hl 0 rfl) ?_
    refine lv_bipush (v := 27) C.1 C.2.1 dX12_sayTrace_69 (by decide) ?_
    have h_57 : (27 : Int32).toInt = 27 := rfl
    refine g_Vv (As := [.int 27]) (rest := []) C hP hD hS hA (T_X12_toColumn l D K Z Y ad t_50 hok 27 (show (2 : Int) ≤ (27 : Int32).toInt ∧ (27 : Int32).toInt ≤ 63 from ⟨by decide, by decide⟩) (show (27 : Int32).toInt ≤ 121 from by omega)) hE hZ (uwV m_42_17 m_42_18 m_42_19 m_1_5 m_42_20) (hdV 1 (by decide +kernel) rfl) ⟨Nat.le_of_ble_eq_true rfl, Nat.le_of_ble_eq_true rfl⟩ rfl rfl (ci := 11) (q0 := 0) rfl rfl rfl hl.1 (Nat.le_of_ble_eq_true rfl) dX12_sayTrace_71 ⟨Nat.le_of_ble_eq_true rfl, Nat.le_of_ble_eq_true rfl⟩ (fun t_58 H locs hw hP hD hS => ?_)
    obtain ⟨hok, f_60, p_61, p_62⟩ := hw
    have hfr : frA [(0, 30), (0, 91)] [] [11, 12, 13, 14] [] t t_58 := frA_tr hfr f_60 rfl
    have h_63 : (t_58.1 0 91).toInt = (t_50.1 0 91).toInt := ti_eq (f_60.1 0 91 rfl)
    have h_64 : (0 : Int) ≤ (t_58.1 0 30).toInt ∧ (t_58.1 0 30).toInt ≤ 120 := hok.1 0 30
    replace p_61 : (t_50.1 0 30).toInt ≤ (t_58.1 0 30).toInt := p_61
    replace p_62 : (t_58.1 0 30).toInt ≤ (t_50.1 0 30).toInt ∨ (t_58.1 0 30).toInt ≤ (27 : Int32).toInt - 1 := p_62
    refine lv_aload_n C.1 C.2.1 dX12_sayTrace_74 rfl (lv_at hl 0 rfl) ?_
    refine lv_aload_n C.1 C.2.1 dX12_sayTrace_75 rfl (lv_at hl 0 rfl) ?_
    refine k_get (v := .ref (ad 3)) C hP 0 rfl rfl inlX12 4 (by decide) m_7_6 rfl dX12_sayTrace_76 ?_
    refine lv_iconst (v := 0) C.1 C.2.1 dX12_sayTrace_79 (by decide) ?_
    obtain ⟨v_65, e_66⟩ : ∃ z, z = (t_58.2.2.1 3 (0 : Int32).toNatClampNeg) := ⟨_, rfl⟩
    refine k_ild (v := v_65) C hP 3 rfl (vin (by decide)) e_66.symm dX12_sayTrace_80 ?_
    refine g_Vv (As := [.int v_65]) (rest := []) C hP hD hS hA (T_X12_sayWord l D K Z Y ad t_58 hok (v_65) (show (t_58.1 0 30).toInt ≤ 109 from by omega)) hE hZ (uwV m_64_8 m_64_9 m_64_10 m_1_5 m_64_11) (hdV 1 (by decide +kernel) rfl) ⟨Nat.le_of_ble_eq_true rfl, Nat.le_of_ble_eq_true rfl⟩ rfl rfl (ci := 11) (q0 := 0) rfl rfl rfl hl.1 (Nat.le_of_ble_eq_true rfl) dX12_sayTrace_81 ⟨Nat.le_of_ble_eq_true rfl, Nat.le_of_ble_eq_true rfl⟩ (fun t_67 H locs hw hP hD hS => ?_)
    obtain ⟨hok, f_69, p_70⟩ := hw
    have hfr : frA [(0, 30), (0, 91)] [] [11, 12, 13, 14] [] t t_67 := frA_tr hfr f_69 rfl
    have h_71 : (t_67.1 0 91).toInt = (t_58.1 0 91).toInt := ti_eq (f_69.1 0 91 rfl)
    have h_72 : (0 : Int) ≤ (t_67.1 0 30).toInt ∧ (t_67.1 0 30).toInt ≤ 120 := hok.1 0 30
    replace p_70 : (t_67.1 0 30).toInt = (t_58.1 0 30).toInt + 11 := p_70
    refine lv_aload_n C.1 C.2.1 dX12_sayTrace_84 rfl (lv_at hl 0 rfl) ?_
    refine lv_bipush (v := 32) C.1 C.2.1 dX12_sayTrace_85 (by decide) ?_
    refine g_Vv (As := [.int 32]) (rest := []) C hP hD hS hA (T_X12_say l D K Z Y ad t_67 hok 32 (show (t_67.1 0 30).toInt ≤ 119 from by omega)) hE hZ (uwV m_42_13 m_42_14 m_42_15 m_1_5 m_42_16) (hdV 1 (by decide +kernel) rfl) ⟨Nat.le_of_ble_eq_true rfl, Nat.le_of_ble_eq_true rfl⟩ rfl rfl (ci := 11) (q0 := 0) rfl rfl rfl hl.1 (Nat.le_of_ble_eq_true rfl) dX12_sayTrace_87 ⟨Nat.le_of_ble_eq_true rfl, Nat.le_of_ble_eq_true rfl⟩ (fun t_73 H locs hw hP hD hS => ?_)
    obtain ⟨hok, f_75, p_76⟩ := hw
    have hfr : frA [(0, 30), (0, 91)] [] [11, 12, 13, 14] [] t t_73 := frA_tr hfr f_75 rfl
    have h_77 : (t_73.1 0 91).toInt = (t_67.1 0 91).toInt := ti_eq (f_75.1 0 91 rfl)
    have h_78 : (0 : Int) ≤ (t_73.1 0 30).toInt ∧ (t_73.1 0 30).toInt ≤ 120 := hok.1 0 30
    replace p_76 : (t_73.1 0 30).toInt = (t_67.1 0 30).toInt + 1 := p_76
    refine lv_aload_n C.1 C.2.1 dX12_sayTrace_90 rfl (lv_at hl 0 rfl) ?_
    refine lv_aload_n C.1 C.2.1 dX12_sayTrace_91 rfl (lv_at hl 0 rfl) ?_
    refine k_get (v := .ref (ad 3)) C hP 0 rfl rfl inlX12 4 (by decide) m_7_6 rfl dX12_sayTrace_92 ?_
    refine lv_bipush (v := 7) C.1 C.2.1 dX12_sayTrace_95 (by decide) ?_
    obtain ⟨v_79, e_80⟩ : ∃ z, z = (t_73.2.2.1 3 (7 : Int32).toNatClampNeg) := ⟨_, rfl⟩
    refine k_ild (v := v_79) C hP 3 rfl (vin (by decide)) e_80.symm dX12_sayTrace_97 ?_
    refine g_Vv (As := [.int v_79]) (rest := []) C hP hD hS hA (T_X12_sayWord l D K Z Y ad t_73 hok (v_79) (show (t_73.1 0 30).toInt ≤ 109 from by omega)) hE hZ (uwV m_64_8 m_64_9 m_64_10 m_1_5 m_64_11) (hdV 1 (by decide +kernel) rfl) ⟨Nat.le_of_ble_eq_true rfl, Nat.le_of_ble_eq_true rfl⟩ rfl rfl (ci := 11) (q0 := 0) rfl rfl rfl hl.1 (Nat.le_of_ble_eq_true rfl) dX12_sayTrace_98 ⟨Nat.le_of_ble_eq_true rfl, Nat.le_of_ble_eq_true rfl⟩ (fun t_81 H locs hw hP hD hS => ?_)
    obtain ⟨hok, f_83, p_84⟩ := hw
    have hfr : frA [(0, 30), (0, 91)] [] [11, 12, 13, 14] [] t t_81 := frA_tr hfr f_83 rfl
    have h_85 : (t_81.1 0 91).toInt = (t_73.1 0 91).toInt := ti_eq (f_83.1 0 91 rfl)
    have h_86 : (0 : Int) ≤ (t_81.1 0 30).toInt ∧ (t_81.1 0 30).toInt ≤ 120 := hok.1 0 30
    replace p_84 : (t_81.1 0 30).toInt = (t_73.1 0 30).toInt + 11 := p_84
    refine lv_aload_n C.1 C.2.1 dX12_sayTrace_101 rfl (lv_at hl 0 rfl) ?_
    refine lv_bipush (v := 32) C.1 C.2.1 dX12_sayTrace_102 (by decide) ?_
    refine g_Vv (As := [.int 32]) (rest := []) C hP hD hS hA (T_X12_say l D K Z Y ad t_81 hok 32 (show (t_81.1 0 30).toInt ≤ 119 from by omega)) hE hZ (uwV m_42_13 m_42_14 m_42_15 m_1_5 m_42_16) (hdV 1 (by decide +kernel) rfl) ⟨Nat.le_of_ble_eq_true rfl, Nat.le_of_ble_eq_true rfl⟩ rfl rfl (ci := 11) (q0 := 0) rfl rfl rfl hl.1 (Nat.le_of_ble_eq_true rfl) dX12_sayTrace_104 ⟨Nat.le_of_ble_eq_true rfl, Nat.le_of_ble_eq_true rfl⟩ (fun t_87 H locs hw hP hD hS => ?_)
    obtain ⟨hok, f_89, p_90⟩ := hw
    have hfr : frA [(0, 30), (0, 91)] [] [11, 12, 13, 14] [] t t_87 := frA_tr hfr f_89 rfl
    have h_91 : (t_87.1 0 91).toInt = (t_81.1 0 91).toInt := ti_eq (f_89.1 0 91 rfl)
    have h_92 : (0 : Int) ≤ (t_87.1 0 30).toInt ∧ (t_87.1 0 30).toInt ≤ 120 := hok.1 0 30
    replace p_90 : (t_87.1 0 30).toInt = (t_81.1 0 30).toInt + 1 := p_90
    refine lv_aload_n C.1 C.2.1 dX12_sayTrace_107 rfl (lv_at hl 0 rfl) ?_
    refine lv_aload_n C.1 C.2.1 dX12_sayTrace_108 rfl (lv_at hl 0 rfl) ?_
    have h_93 : (0 : Int) ≤ (t_87.1 0 5).toInt ∧ (t_87.1 0 5).toInt ≤ 1 := hok.1 0 5
    refine k_get (v := .int (t_87.1 0 5)) C hP 0 rfl rfl inlX12 5 (by decide) m_29_21 rfl dX12_sayTrace_109 ?_
    refine lv_if_eq (tgt := 120) C.1 C.2.1 dX12_sayTrace_112 (by decide) (fun c_94 => ?_) (fun c_94 => ?_)
    · replace c_94 : (t_87.1 0 5).toInt = 0 := i_eq c_94
      refine lv_bipush (v := 48) C.1 C.2.1 dX12_sayTrace_120 (by decide) ?_
      refine g_Vv (As := [.int 48]) (rest := []) C hP hD hS hA (T_X12_say l D K Z Y ad t_87 hok 48 (show (t_87.1 0 30).toInt ≤ 119 from by omega)) hE hZ (uwV m_42_13 m_42_14 m_42_15 m_1_5 m_42_16) (hdV 1 (by decide +kernel) rfl) ⟨Nat.le_of_ble_eq_true rfl, Nat.le_of_ble_eq_true rfl⟩ rfl rfl (ci := 11) (q0 := 0) rfl rfl rfl hl.1 (Nat.le_of_ble_eq_true rfl) dX12_sayTrace_122 ⟨Nat.le_of_ble_eq_true rfl, Nat.le_of_ble_eq_true rfl⟩ (fun t_95 H locs hw hP hD hS => ?_)
      obtain ⟨hok, f_97, p_98⟩ := hw
      have hfr : frA [(0, 30), (0, 91)] [] [11, 12, 13, 14] [] t t_95 := frA_tr hfr f_97 rfl
      have h_99 : (t_95.1 0 91).toInt = (t_87.1 0 91).toInt := ti_eq (f_97.1 0 91 rfl)
      have h_100 : (t_95.1 0 5).toInt = (t_87.1 0 5).toInt := ti_eq (f_97.1 0 5 rfl)
      have h_101 : (0 : Int) ≤ (t_95.1 0 30).toInt ∧ (t_95.1 0 30).toInt ≤ 120 := hok.1 0 30
      replace p_98 : (t_95.1 0 30).toInt = (t_87.1 0 30).toInt + 1 := p_98
      refine lv_aload_n C.1 C.2.1 dX12_sayTrace_125 rfl (lv_at hl 0 rfl) ?_
      refine lv_bipush (v := 32) C.1 C.2.1 dX12_sayTrace_126 (by decide) ?_
      refine g_Vv (As := [.int 32]) (rest := []) C hP hD hS hA (T_X12_say l D K Z Y ad t_95 hok 32 (show (t_95.1 0 30).toInt ≤ 119 from by omega)) hE hZ (uwV m_42_13 m_42_14 m_42_15 m_1_5 m_42_16) (hdV 1 (by decide +kernel) rfl) ⟨Nat.le_of_ble_eq_true rfl, Nat.le_of_ble_eq_true rfl⟩ rfl rfl (ci := 11) (q0 := 0) rfl rfl rfl hl.1 (Nat.le_of_ble_eq_true rfl) dX12_sayTrace_128 ⟨Nat.le_of_ble_eq_true rfl, Nat.le_of_ble_eq_true rfl⟩ (fun t_102 H locs hw hP hD hS => ?_)
      obtain ⟨hok, f_104, p_105⟩ := hw
      have hfr : frA [(0, 30), (0, 91)] [] [11, 12, 13, 14] [] t t_102 := frA_tr hfr f_104 rfl
      have h_106 : (t_102.1 0 91).toInt = (t_95.1 0 91).toInt := ti_eq (f_104.1 0 91 rfl)
      have h_107 : (t_102.1 0 5).toInt = (t_95.1 0 5).toInt := ti_eq (f_104.1 0 5 rfl)
      have h_108 : (0 : Int) ≤ (t_102.1 0 30).toInt ∧ (t_102.1 0 30).toInt ≤ 120 := hok.1 0 30
      replace p_105 : (t_102.1 0 30).toInt = (t_95.1 0 30).toInt + 1 := p_105
      refine lv_aload_n C.1 C.2.1 dX12_sayTrace_131 rfl (lv_at hl 0 rfl) ?_
      refine lv_aload_n C.1 C.2.1 dX12_sayTrace_132 rfl (lv_at hl 0 rfl) ?_
      have h_109 : (0 : Int) ≤ (t_102.1 0 6).toInt ∧ (t_102.1 0 6).toInt ≤ 7 := hok.1 0 6
      refine k_get (v := .int (t_102.1 0 6)) C hP 0 rfl rfl inlX12 6 (by decide) m_7_7 rfl dX12_sayTrace_133 ?_
      refine lv_if_ne (tgt := 144) C.1 C.2.1 dX12_sayTrace_136 (by decide) (fun c_110 => ?_) (fun c_110 => ?_)
      · replace c_110 : ¬ (t_102.1 0 6).toInt = 0 := i_ne c_110
        refine lv_aload_n C.1 C.2.1 dX12_sayTrace_144 rfl (lv_at hl 0 rfl) ?_
        refine k_get (v := .int (t_102.1 0 6)) C hP 0 rfl rfl inlX12 6 (by decide) m_7_7 rfl dX12_sayTrace_145 ?_
        refine lv_iconst (v := 1) C.1 C.2.1 dX12_sayTrace_148 (by decide) ?_
        refine lv_icmp_ne (tgt := 157) C.1 C.2.1 dX12_sayTrace_149 (by decide) (fun c_111 => ?_) (fun c_111 => ?_)
        · replace c_111 : ¬ (t_102.1 0 6).toInt = 1 := i_ne c_111
          refine lv_bipush (v := 71) C.1 C.2.1 dX12_sayTrace_157 (by decide) ?_
          refine g_Vv (As := [.int 71]) (rest := []) C hP hD hS hA (T_X12_say l D K Z Y ad t_102 hok 71 (show (t_102.1 0 30).toInt ≤ 119 from by omega)) hE hZ (uwV m_42_13 m_42_14 m_42_15 m_1_5 m_42_16) (hdV 1 (by decide +kernel) rfl) ⟨Nat.le_of_ble_eq_true rfl, Nat.le_of_ble_eq_true rfl⟩ rfl rfl (ci := 11) (q0 := 0) rfl rfl rfl hl.1 (Nat.le_of_ble_eq_true rfl) dX12_sayTrace_159 ⟨Nat.le_of_ble_eq_true rfl, Nat.le_of_ble_eq_true rfl⟩ (fun t_112 H locs hw hP hD hS => ?_)
          obtain ⟨hok, f_114, p_115⟩ := hw
          have hfr : frA [(0, 30), (0, 91)] [] [11, 12, 13, 14] [] t t_112 := frA_tr hfr f_114 rfl
          have h_116 : (t_112.1 0 91).toInt = (t_102.1 0 91).toInt := ti_eq (f_114.1 0 91 rfl)
          have h_117 : (t_112.1 0 5).toInt = (t_102.1 0 5).toInt := ti_eq (f_114.1 0 5 rfl)
          have h_118 : (t_112.1 0 6).toInt = (t_102.1 0 6).toInt := ti_eq (f_114.1 0 6 rfl)
          have h_119 : (0 : Int) ≤ (t_112.1 0 30).toInt ∧ (t_112.1 0 30).toInt ≤ 120 := hok.1 0 30
          replace p_115 : (t_112.1 0 30).toInt = (t_102.1 0 30).toInt + 1 := p_115
          refine lv_aload_n C.1 C.2.1 dX12_sayTrace_162 rfl (lv_at hl 0 rfl) ?_
          refine lv_bipush (v := 32) C.1 C.2.1 dX12_sayTrace_163 (by decide) ?_
          refine g_Vv (As := [.int 32]) (rest := []) C hP hD hS hA (T_X12_say l D K Z Y ad t_112 hok 32 (show (t_112.1 0 30).toInt ≤ 119 from by omega)) hE hZ (uwV m_42_13 m_42_14 m_42_15 m_1_5 m_42_16) (hdV 1 (by decide +kernel) rfl) ⟨Nat.le_of_ble_eq_true rfl, Nat.le_of_ble_eq_true rfl⟩ rfl rfl (ci := 11) (q0 := 0) rfl rfl rfl hl.1 (Nat.le_of_ble_eq_true rfl) dX12_sayTrace_165 ⟨Nat.le_of_ble_eq_true rfl, Nat.le_of_ble_eq_true rfl⟩ (fun t_120 H locs hw hP hD hS => ?_)
          obtain ⟨hok, f_122, p_123⟩ := hw
          have hfr : frA [(0, 30), (0, 91)] [] [11, 12, 13, 14] [] t t_120 := frA_tr hfr f_122 rfl
          have h_124 : (t_120.1 0 91).toInt = (t_112.1 0 91).toInt := ti_eq (f_122.1 0 91 rfl)
          have h_125 : (t_120.1 0 5).toInt = (t_112.1 0 5).toInt := ti_eq (f_122.1 0 5 rfl)
          have h_126 : (t_120.1 0 6).toInt = (t_112.1 0 6).toInt := ti_eq (f_122.1 0 6 rfl)
          have h_127 : (0 : Int) ≤ (t_120.1 0 30).toInt ∧ (t_120.1 0 30).toInt ≤ 120 := hok.1 0 30
          replace p_123 : (t_120.1 0 30).toInt = (t_112.1 0 30).toInt + 1 := p_123
          refine lv_aload_n C.1 C.2.1 dX12_sayTrace_168 rfl (lv_at hl 0 rfl) ?_
          refine lv_aload_n C.1 C.2.1 dX12_sayTrace_169 rfl (lv_at hl 0 rfl) ?_
          refine k_get (v := .long (t_120.2.1 0 8)) C hP 0 rfl rfl inlX12 8 (by decide) m_29_23 rfl dX12_sayTrace_170 ?_
          refine lv_ldc2 (v := 1000000000) C.1 C.2.1 C.2.2.2.1 (C.2.2.2.2.1 _ m_63_19) dX12_sayTrace_173 ?_
          obtain ⟨v_128, e_129⟩ : ∃ z, z = ((t_120.2.1 0 8) : Int64) - ((t_120.2.1 0 8) : Int64) / (1000000000 : Int64) * (1000000000 : Int64) := ⟨_, rfl⟩
          have h_130 : -1000000000 < v_128.toInt ∧ v_128.toInt < 1000000000 := by rw [e_129]; exact tl_remb (k := 1000000000) (by decide) (by decide)
          refine k_lrem (v := v_128) C (by decide) e_129.symm dX12_sayTrace_176 ?_
          refine lv_bipush (v := 9) C.1 C.2.1 dX12_sayTrace_177 (by decide) ?_
          have h_131 : (9 : Int32).toInt = 9 := rfl
          refine g_Vv (As := [.long v_128, .int 9]) (rest := []) C hP hD hS hA (T_X12_sayDigits l D K Z Y ad t_120 hok (v_128) 9 (show (1 : Int) ≤ (9 : Int32).toInt ∧ (9 : Int32).toInt ≤ 10 from ⟨by decide, by decide⟩) (show (t_120.1 0 30).toInt + (9 : Int32).toInt ≤ 120 from by omega) (show 1 ≤ (9 : Int32).toInt from by omega) (show (9 : Int32).toInt ≤ 10 from by omega)) hE hZ (uwV m_42_9 m_42_10 m_42_11 m_1_5 m_42_12) (hdV 2 (by decide +kernel) rfl) ⟨Nat.le_of_ble_eq_true rfl, Nat.le_of_ble_eq_true rfl⟩ rfl rfl (ci := 11) (q0 := 0) rfl rfl rfl hl.1 (Nat.le_of_ble_eq_true rfl) dX12_sayTrace_179 ⟨Nat.le_of_ble_eq_true rfl, Nat.le_of_ble_eq_true rfl⟩ (fun t_132 H locs hw hP hD hS => ?_)
          obtain ⟨hok, f_134, p_135⟩ := hw
          have hfr : frA [(0, 30), (0, 91)] [] [11, 12, 13, 14] [] t t_132 := frA_tr hfr f_134 rfl
          have h_136 : (t_132.1 0 91).toInt = (t_120.1 0 91).toInt := ti_eq (f_134.1 0 91 rfl)
          have h_137 : (t_132.1 0 5).toInt = (t_120.1 0 5).toInt := ti_eq (f_134.1 0 5 rfl)
          have h_138 : (t_132.1 0 6).toInt = (t_120.1 0 6).toInt := ti_eq (f_134.1 0 6 rfl)
          have h_139 : (0 : Int) ≤ (t_132.1 0 30).toInt ∧ (t_132.1 0 30).toInt ≤ 120 := hok.1 0 30
          replace p_135 : (t_132.1 0 30).toInt = (t_120.1 0 30).toInt + (9 : Int32).toInt := p_135
          refine lv_aload_n C.1 C.2.1 dX12_sayTrace_182 rfl (lv_at hl 0 rfl) ?_
          refine lv_bipush (v := 18) C.1 C.2.1 dX12_sayTrace_183 (by decide) ?_
          refine g_Vv (As := [.int 18]) (rest := []) C hP hD hS hA (T_X12_print l D K Z Y ad t_132 hok 18 (show (17 : Int) ≤ (18 : Int32).toInt ∧ (18 : Int32).toInt ≤ 19 from ⟨by decide, by decide⟩)) hE hZ (uwV m_42_21 m_42_22 m_42_23 m_1_5 m_43_0) (hdV 1 (by decide +kernel) rfl) ⟨Nat.le_of_ble_eq_true rfl, Nat.le_of_ble_eq_true rfl⟩ rfl rfl (ci := 11) (q0 := 0) rfl rfl rfl hl.1 (Nat.le_of_ble_eq_true rfl) dX12_sayTrace_185 ⟨Nat.le_of_ble_eq_true rfl, Nat.le_of_ble_eq_true rfl⟩ (fun t_140 H locs hw hP hD hS => ?_)
          obtain ⟨hok, f_142⟩ := hw
          have hfr : frA [(0, 30), (0, 91)] [] [11, 12, 13, 14] [] t t_140 := frA_tr hfr f_142 rfl
          have h_143 : (t_140.1 0 91).toInt = (t_132.1 0 91).toInt := ti_eq (f_142.1 0 91 rfl)
          have h_144 : (t_140.1 0 5).toInt = (t_132.1 0 5).toInt := ti_eq (f_142.1 0 5 rfl)
          have h_145 : (t_140.1 0 6).toInt = (t_132.1 0 6).toInt := ti_eq (f_142.1 0 6 rfl)
          have h_146 : (0 : Int) ≤ (t_140.1 0 30).toInt ∧ (t_140.1 0 30).toInt ≤ 120 := hok.1 0 30
          exact g_vret C hr hlocks hP hD hS t_140 rfl ⟨hok, hfr⟩ (Nat.le_of_ble_eq_true rfl) (Nat.le_of_ble_eq_true rfl) dX12_sayTrace_188
        · replace c_111 : (t_102.1 0 6).toInt = 1 := i_eq c_111
          refine lv_bipush (v := 69) C.1 C.2.1 dX12_sayTrace_152 (by decide) ?_
          refine lv_goto (tgt := 159) C.1 C.2.1 dX12_sayTrace_154 (by decide) ?_
          refine g_Vv (As := [.int 69]) (rest := []) C hP hD hS hA (T_X12_say l D K Z Y ad t_102 hok 69 (show (t_102.1 0 30).toInt ≤ 119 from by omega)) hE hZ (uwV m_42_13 m_42_14 m_42_15 m_1_5 m_42_16) (hdV 1 (by decide +kernel) rfl) ⟨Nat.le_of_ble_eq_true rfl, Nat.le_of_ble_eq_true rfl⟩ rfl rfl (ci := 11) (q0 := 0) rfl rfl rfl hl.1 (Nat.le_of_ble_eq_true rfl) dX12_sayTrace_159 ⟨Nat.le_of_ble_eq_true rfl, Nat.le_of_ble_eq_true rfl⟩ (fun t_147 H locs hw hP hD hS => ?_)
          obtain ⟨hok, f_149, p_150⟩ := hw
          have hfr : frA [(0, 30), (0, 91)] [] [11, 12, 13, 14] [] t t_147 := frA_tr hfr f_149 rfl
          have h_151 : (t_147.1 0 91).toInt = (t_102.1 0 91).toInt := ti_eq (f_149.1 0 91 rfl)
          have h_152 : (t_147.1 0 5).toInt = (t_102.1 0 5).toInt := ti_eq (f_149.1 0 5 rfl)
          have h_153 : (t_147.1 0 6).toInt = (t_102.1 0 6).toInt := ti_eq (f_149.1 0 6 rfl)
          have h_154 : (0 : Int) ≤ (t_147.1 0 30).toInt ∧ (t_147.1 0 30).toInt ≤ 120 := hok.1 0 30
          replace p_150 : (t_147.1 0 30).toInt = (t_102.1 0 30).toInt + 1 := p_150
          refine lv_aload_n C.1 C.2.1 dX12_sayTrace_162 rfl (lv_at hl 0 rfl) ?_
          refine lv_bipush (v := 32) C.1 C.2.1 dX12_sayTrace_163 (by decide) ?_
          refine g_Vv (As := [.int 32]) (rest := []) C hP hD hS hA (T_X12_say l D K Z Y ad t_147 hok 32 (show (t_147.1 0 30).toInt ≤ 119 from by omega)) hE hZ (uwV m_42_13 m_42_14 m_42_15 m_1_5 m_42_16) (hdV 1 (by decide +kernel) rfl) ⟨Nat.le_of_ble_eq_true rfl, Nat.le_of_ble_eq_true rfl⟩ rfl rfl (ci := 11) (q0 := 0) rfl rfl rfl hl.1 (Nat.le_of_ble_eq_true rfl) dX12_sayTrace_165 ⟨Nat.le_of_ble_eq_true rfl, Nat.le_of_ble_eq_true rfl⟩ (fun t_155 H locs hw hP hD hS => ?_)
          obtain ⟨hok, f_157, p_158⟩ := hw
          have hfr : frA [(0, 30), (0, 91)] [] [11, 12, 13, 14] [] t t_155 := frA_tr hfr f_157 rfl
          have h_159 : (t_155.1 0 91).toInt = (t_147.1 0 91).toInt := ti_eq (f_157.1 0 91 rfl)
          have h_160 : (t_155.1 0 5).toInt = (t_147.1 0 5).toInt := ti_eq (f_157.1 0 5 rfl)
          have h_161 : (t_155.1 0 6).toInt = (t_147.1 0 6).toInt := ti_eq (f_157.1 0 6 rfl)
          have h_162 : (0 : Int) ≤ (t_155.1 0 30).toInt ∧ (t_155.1 0 30).toInt ≤ 120 := hok.1 0 30
          replace p_158 : (t_155.1 0 30).toInt = (t_147.1 0 30).toInt + 1 := p_158
          refine lv_aload_n C.1 C.2.1 dX12_sayTrace_168 rfl (lv_at hl 0 rfl) ?_
          refine lv_aload_n C.1 C.2.1 dX12_sayTrace_169 rfl (lv_at hl 0 rfl) ?_
          refine k_get (v := .long (t_155.2.1 0 8)) C hP 0 rfl rfl inlX12 8 (by decide) m_29_23 rfl dX12_sayTrace_170 ?_
          refine lv_ldc2 (v := 1000000000) C.1 C.2.1 C.2.2.2.1 (C.2.2.2.2.1 _ m_63_19) dX12_sayTrace_173 ?_
          obtain ⟨v_163, e_164⟩ : ∃ z, z = ((t_155.2.1 0 8) : Int64) - ((t_155.2.1 0 8) : Int64) / (1000000000 : Int64) * (1000000000 : Int64) := ⟨_, rfl⟩
          have h_165 : -1000000000 < v_163.toInt ∧ v_163.toInt < 1000000000 := by rw [e_164]; exact tl_remb (k := 1000000000) (by decide) (by decide)
          refine k_lrem (v := v_163) C (by decide) e_164.symm dX12_sayTrace_176 ?_
          refine lv_bipush (v := 9) C.1 C.2.1 dX12_sayTrace_177 (by decide) ?_
          have h_166 : (9 : Int32).toInt = 9 := rfl
          refine g_Vv (As := [.long v_163, .int 9]) (rest := []) C hP hD hS hA (T_X12_sayDigits l D K Z Y ad t_155 hok (v_163) 9 (show (1 : Int) ≤ (9 : Int32).toInt ∧ (9 : Int32).toInt ≤ 10 from ⟨by decide, by decide⟩) (show (t_155.1 0 30).toInt + (9 : Int32).toInt ≤ 120 from by omega) (show 1 ≤ (9 : Int32).toInt from by omega) (show (9 : Int32).toInt ≤ 10 from by omega)) hE hZ (uwV m_42_9 m_42_10 m_42_11 m_1_5 m_42_12) (hdV 2 (by decide +kernel) rfl) ⟨Nat.le_of_ble_eq_true rfl, Nat.le_of_ble_eq_true rfl⟩ rfl rfl (ci := 11) (q0 := 0) rfl rfl rfl hl.1 (Nat.le_of_ble_eq_true rfl) dX12_sayTrace_179 ⟨Nat.le_of_ble_eq_true rfl, Nat.le_of_ble_eq_true rfl⟩ (fun t_167 H locs hw hP hD hS => ?_)
          obtain ⟨hok, f_169, p_170⟩ := hw
          have hfr : frA [(0, 30), (0, 91)] [] [11, 12, 13, 14] [] t t_167 := frA_tr hfr f_169 rfl
          have h_171 : (t_167.1 0 91).toInt = (t_155.1 0 91).toInt := ti_eq (f_169.1 0 91 rfl)
          have h_172 : (t_167.1 0 5).toInt = (t_155.1 0 5).toInt := ti_eq (f_169.1 0 5 rfl)
          have h_173 : (t_167.1 0 6).toInt = (t_155.1 0 6).toInt := ti_eq (f_169.1 0 6 rfl)
          have h_174 : (0 : Int) ≤ (t_167.1 0 30).toInt ∧ (t_167.1 0 30).toInt ≤ 120 := hok.1 0 30
          replace p_170 : (t_167.1 0 30).toInt = (t_155.1 0 30).toInt + (9 : Int32).toInt := p_170
          refine lv_aload_n C.1 C.2.1 dX12_sayTrace_182 rfl (lv_at hl 0 rfl) ?_
          refine lv_bipush (v := 18) C.1 C.2.1 dX12_sayTrace_183 (by decide) ?_
          refine g_Vv (As := [.int 18]) (rest := []) C hP hD hS hA (T_X12_print l D K Z Y ad t_167 hok 18 (show (17 : Int) ≤ (18 : Int32).toInt ∧ (18 : Int32).toInt ≤ 19 from ⟨by decide, by decide⟩)) hE hZ (uwV m_42_21 m_42_22 m_42_23 m_1_5 m_43_0) (hdV 1 (by decide +kernel) rfl) ⟨Nat.le_of_ble_eq_true rfl, Nat.le_of_ble_eq_true rfl⟩ rfl rfl (ci := 11) (q0 := 0) rfl rfl rfl hl.1 (Nat.le_of_ble_eq_true rfl) dX12_sayTrace_185 ⟨Nat.le_of_ble_eq_true rfl, Nat.le_of_ble_eq_true rfl⟩ (fun t_175 H locs hw hP hD hS => ?_)
          obtain ⟨hok, f_177⟩ := hw
          have hfr : frA [(0, 30), (0, 91)] [] [11, 12, 13, 14] [] t t_175 := frA_tr hfr f_177 rfl
          have h_178 : (t_175.1 0 91).toInt = (t_167.1 0 91).toInt := ti_eq (f_177.1 0 91 rfl)
          have h_179 : (t_175.1 0 5).toInt = (t_167.1 0 5).toInt := ti_eq (f_177.1 0 5 rfl)
          have h_180 : (t_175.1 0 6).toInt = (t_167.1 0 6).toInt := ti_eq (f_177.1 0 6 rfl)
          have h_181 : (0 : Int) ≤ (t_175.1 0 30).toInt ∧ (t_175.1 0 30).toInt ≤ 120 := hok.1 0 30
          exact g_vret C hr hlocks hP hD hS t_175 rfl ⟨hok, hfr⟩ (Nat.le_of_ble_eq_true rfl) (Nat.le_of_ble_eq_true rfl) dX12_sayTrace_188
      · replace c_110 : (t_102.1 0 6).toInt = 0 := i_eq c_110
        refine lv_bipush (v := 76) C.1 C.2.1 dX12_sayTrace_139 (by decide) ?_
        refine lv_goto (tgt := 159) C.1 C.2.1 dX12_sayTrace_141 (by decide) ?_
        refine g_Vv (As := [.int 76]) (rest := []) C hP hD hS hA (T_X12_say l D K Z Y ad t_102 hok 76 (show (t_102.1 0 30).toInt ≤ 119 from by omega)) hE hZ (uwV m_42_13 m_42_14 m_42_15 m_1_5 m_42_16) (hdV 1 (by decide +kernel) rfl) ⟨Nat.le_of_ble_eq_true rfl, Nat.le_of_ble_eq_true rfl⟩ rfl rfl (ci := 11) (q0 := 0) rfl rfl rfl hl.1 (Nat.le_of_ble_eq_true rfl) dX12_sayTrace_159 ⟨Nat.le_of_ble_eq_true rfl, Nat.le_of_ble_eq_true rfl⟩ (fun t_182 H locs hw hP hD hS => ?_)
        obtain ⟨hok, f_184, p_185⟩ := hw
        have hfr : frA [(0, 30), (0, 91)] [] [11, 12, 13, 14] [] t t_182 := frA_tr hfr f_184 rfl
        have h_186 : (t_182.1 0 91).toInt = (t_102.1 0 91).toInt := ti_eq (f_184.1 0 91 rfl)
        have h_187 : (t_182.1 0 5).toInt = (t_102.1 0 5).toInt := ti_eq (f_184.1 0 5 rfl)
        have h_188 : (t_182.1 0 6).toInt = (t_102.1 0 6).toInt := ti_eq (f_184.1 0 6 rfl)
        have h_189 : (0 : Int) ≤ (t_182.1 0 30).toInt ∧ (t_182.1 0 30).toInt ≤ 120 := hok.1 0 30
        replace p_185 : (t_182.1 0 30).toInt = (t_102.1 0 30).toInt + 1 := p_185
        refine lv_aload_n C.1 C.2.1 dX12_sayTrace_162 rfl (lv_at hl 0 rfl) ?_
        refine lv_bipush (v := 32) C.1 C.2.1 dX12_sayTrace_163 (by decide) ?_
        refine g_Vv (As := [.int 32]) (rest := []) C hP hD hS hA (T_X12_say l D K Z Y ad t_182 hok 32 (show (t_182.1 0 30).toInt ≤ 119 from by omega)) hE hZ (uwV m_42_13 m_42_14 m_42_15 m_1_5 m_42_16) (hdV 1 (by decide +kernel) rfl) ⟨Nat.le_of_ble_eq_true rfl, Nat.le_of_ble_eq_true rfl⟩ rfl rfl (ci := 11) (q0 := 0) rfl rfl rfl hl.1 (Nat.le_of_ble_eq_true rfl) dX12_sayTrace_165 ⟨Nat.le_of_ble_eq_true rfl, Nat.le_of_ble_eq_true rfl⟩ (fun t_190 H locs hw hP hD hS => ?_)
        obtain ⟨hok, f_192, p_193⟩ := hw
        have hfr : frA [(0, 30), (0, 91)] [] [11, 12, 13, 14] [] t t_190 := frA_tr hfr f_192 rfl
        have h_194 : (t_190.1 0 91).toInt = (t_182.1 0 91).toInt := ti_eq (f_192.1 0 91 rfl)
        have h_195 : (t_190.1 0 5).toInt = (t_182.1 0 5).toInt := ti_eq (f_192.1 0 5 rfl)
        have h_196 : (t_190.1 0 6).toInt = (t_182.1 0 6).toInt := ti_eq (f_192.1 0 6 rfl)
        have h_197 : (0 : Int) ≤ (t_190.1 0 30).toInt ∧ (t_190.1 0 30).toInt ≤ 120 := hok.1 0 30
        replace p_193 : (t_190.1 0 30).toInt = (t_182.1 0 30).toInt + 1 := p_193
        refine lv_aload_n C.1 C.2.1 dX12_sayTrace_168 rfl (lv_at hl 0 rfl) ?_
        refine lv_aload_n C.1 C.2.1 dX12_sayTrace_169 rfl (lv_at hl 0 rfl) ?_
        refine k_get (v := .long (t_190.2.1 0 8)) C hP 0 rfl rfl inlX12 8 (by decide) m_29_23 rfl dX12_sayTrace_170 ?_
        refine lv_ldc2 (v := 1000000000) C.1 C.2.1 C.2.2.2.1 (C.2.2.2.2.1 _ m_63_19) dX12_sayTrace_173 ?_
        obtain ⟨v_198, e_199⟩ : ∃ z, z = ((t_190.2.1 0 8) : Int64) - ((t_190.2.1 0 8) : Int64) / (1000000000 : Int64) * (1000000000 : Int64) := ⟨_, rfl⟩
        have h_200 : -1000000000 < v_198.toInt ∧ v_198.toInt < 1000000000 := by rw [e_199]; exact tl_remb (k := 1000000000) (by decide) (by decide)
        refine k_lrem (v := v_198) C (by decide) e_199.symm dX12_sayTrace_176 ?_
        refine lv_bipush (v := 9) C.1 C.2.1 dX12_sayTrace_177 (by decide) ?_
        have h_201 : (9 : Int32).toInt = 9 := rfl
        refine g_Vv (As := [.long v_198, .int 9]) (rest := []) C hP hD hS hA (T_X12_sayDigits l D K Z Y ad t_190 hok (v_198) 9 (show (1 : Int) ≤ (9 : Int32).toInt ∧ (9 : Int32).toInt ≤ 10 from ⟨by decide, by decide⟩) (show (t_190.1 0 30).toInt + (9 : Int32).toInt ≤ 120 from by omega) (show 1 ≤ (9 : Int32).toInt from by omega) (show (9 : Int32).toInt ≤ 10 from by omega)) hE hZ (uwV m_42_9 m_42_10 m_42_11 m_1_5 m_42_12) (hdV 2 (by decide +kernel) rfl) ⟨Nat.le_of_ble_eq_true rfl, Nat.le_of_ble_eq_true rfl⟩ rfl rfl (ci := 11) (q0 := 0) rfl rfl rfl hl.1 (Nat.le_of_ble_eq_true rfl) dX12_sayTrace_179 ⟨Nat.le_of_ble_eq_true rfl, Nat.le_of_ble_eq_true rfl⟩ (fun t_202 H locs hw hP hD hS => ?_)
        obtain ⟨hok, f_204, p_205⟩ := hw
        have hfr : frA [(0, 30), (0, 91)] [] [11, 12, 13, 14] [] t t_202 := frA_tr hfr f_204 rfl
        have h_206 : (t_202.1 0 91).toInt = (t_190.1 0 91).toInt := ti_eq (f_204.1 0 91 rfl)
        have h_207 : (t_202.1 0 5).toInt = (t_190.1 0 5).toInt := ti_eq (f_204.1 0 5 rfl)
        have h_208 : (t_202.1 0 6).toInt = (t_190.1 0 6).toInt := ti_eq (f_204.1 0 6 rfl)
        have h_209 : (0 : Int) ≤ (t_202.1 0 30).toInt ∧ (t_202.1 0 30).toInt ≤ 120 := hok.1 0 30
        replace p_205 : (t_202.1 0 30).toInt = (t_190.1 0 30).toInt + (9 : Int32).toInt := p_205
        refine lv_aload_n C.1 C.2.1 dX12_sayTrace_182 rfl (lv_at hl 0 rfl) ?_
        refine lv_bipush (v := 18) C.1 C.2.1 dX12_sayTrace_183 (by decide) ?_
        refine g_Vv (As := [.int 18]) (rest := []) C hP hD hS hA (T_X12_print l D K Z Y ad t_202 hok 18 (show (17 : Int) ≤ (18 : Int32).toInt ∧ (18 : Int32).toInt ≤ 19 from ⟨by decide, by decide⟩)) hE hZ (uwV m_42_21 m_42_22 m_42_23 m_1_5 m_43_0) (hdV 1 (by decide +kernel) rfl) ⟨Nat.le_of_ble_eq_true rfl, Nat.le_of_ble_eq_true rfl⟩ rfl rfl (ci := 11) (q0 := 0) rfl rfl rfl hl.1 (Nat.le_of_ble_eq_true rfl) dX12_sayTrace_185 ⟨Nat.le_of_ble_eq_true rfl, Nat.le_of_ble_eq_true rfl⟩ (fun t_210 H locs hw hP hD hS => ?_)
        obtain ⟨hok, f_212⟩ := hw
        have hfr : frA [(0, 30), (0, 91)] [] [11, 12, 13, 14] [] t t_210 := frA_tr hfr f_212 rfl
        have h_213 : (t_210.1 0 91).toInt = (t_202.1 0 91).toInt := ti_eq (f_212.1 0 91 rfl)
        have h_214 : (t_210.1 0 5).toInt = (t_202.1 0 5).toInt := ti_eq (f_212.1 0 5 rfl)
        have h_215 : (t_210.1 0 6).toInt = (t_202.1 0 6).toInt := ti_eq (f_212.1 0 6 rfl)
        have h_216 : (0 : Int) ≤ (t_210.1 0 30).toInt ∧ (t_210.1 0 30).toInt ≤ 120 := hok.1 0 30
        exact g_vret C hr hlocks hP hD hS t_210 rfl ⟨hok, hfr⟩ (Nat.le_of_ble_eq_true rfl) (Nat.le_of_ble_eq_true rfl) dX12_sayTrace_188
    · replace c_94 : ¬ (t_87.1 0 5).toInt = 0 := i_ne c_94
      refine lv_bipush (v := 49) C.1 C.2.1 dX12_sayTrace_115 (by decide) ?_
      refine lv_goto (tgt := 122) C.1 C.2.1 dX12_sayTrace_117 (by decide) ?_
      refine g_Vv (As := [.int 49]) (rest := []) C hP hD hS hA (T_X12_say l D K Z Y ad t_87 hok 49 (show (t_87.1 0 30).toInt ≤ 119 from by omega)) hE hZ (uwV m_42_13 m_42_14 m_42_15 m_1_5 m_42_16) (hdV 1 (by decide +kernel) rfl) ⟨Nat.le_of_ble_eq_true rfl, Nat.le_of_ble_eq_true rfl⟩ rfl rfl (ci := 11) (q0 := 0) rfl rfl rfl hl.1 (Nat.le_of_ble_eq_true rfl) dX12_sayTrace_122 ⟨Nat.le_of_ble_eq_true rfl, Nat.le_of_ble_eq_true rfl⟩ (fun t_217 H locs hw hP hD hS => ?_)
      obtain ⟨hok, f_219, p_220⟩ := hw
      have hfr : frA [(0, 30), (0, 91)] [] [11, 12, 13, 14] [] t t_217 := frA_tr hfr f_219 rfl
      have h_221 : (t_217.1 0 91).toInt = (t_87.1 0 91).toInt := ti_eq (f_219.1 0 91 rfl)
      have h_222 : (t_217.1 0 5).toInt = (t_87.1 0 5).toInt := ti_eq (f_219.1 0 5 rfl)
      have h_223 : (0 : Int) ≤ (t_217.1 0 30).toInt ∧ (t_217.1 0 30).toInt ≤ 120 := hok.1 0 30
      replace p_220 : (t_217.1 0 30).toInt = (t_87.1 0 30).toInt + 1 := p_220
      refine lv_aload_n C.1 C.2.1 dX12_sayTrace_125 rfl (lv_at hl 0 rfl) ?_
      refine lv_bipush (v := 32) C.1 C.2.1 dX12_sayTrace_126 (by decide) ?_
      refine g_Vv (As := [.int 32]) (rest := []) C hP hD hS hA (T_X12_say l D K Z Y ad t_217 hok 32 (show (t_217.1 0 30).toInt ≤ 119 from by omega)) hE hZ (uwV m_42_13 m_42_14 m_42_15 m_1_5 m_42_16) (hdV 1 (by decide +kernel) rfl) ⟨Nat.le_of_ble_eq_true rfl, Nat.le_of_ble_eq_true rfl⟩ rfl rfl (ci := 11) (q0 := 0) rfl rfl rfl hl.1 (Nat.le_of_ble_eq_true rfl) dX12_sayTrace_128 ⟨Nat.le_of_ble_eq_true rfl, Nat.le_of_ble_eq_true rfl⟩ (fun t_224 H locs hw hP hD hS => ?_)
      obtain ⟨hok, f_226, p_227⟩ := hw
      have hfr : frA [(0, 30), (0, 91)] [] [11, 12, 13, 14] [] t t_224 := frA_tr hfr f_226 rfl
      have h_228 : (t_224.1 0 91).toInt = (t_217.1 0 91).toInt := ti_eq (f_226.1 0 91 rfl)
      have h_229 : (t_224.1 0 5).toInt = (t_217.1 0 5).toInt := ti_eq (f_226.1 0 5 rfl)
      have h_230 : (0 : Int) ≤ (t_224.1 0 30).toInt ∧ (t_224.1 0 30).toInt ≤ 120 := hok.1 0 30
      replace p_227 : (t_224.1 0 30).toInt = (t_217.1 0 30).toInt + 1 := p_227
      refine lv_aload_n C.1 C.2.1 dX12_sayTrace_131 rfl (lv_at hl 0 rfl) ?_
      refine lv_aload_n C.1 C.2.1 dX12_sayTrace_132 rfl (lv_at hl 0 rfl) ?_
      have h_231 : (0 : Int) ≤ (t_224.1 0 6).toInt ∧ (t_224.1 0 6).toInt ≤ 7 := hok.1 0 6
      refine k_get (v := .int (t_224.1 0 6)) C hP 0 rfl rfl inlX12 6 (by decide) m_7_7 rfl dX12_sayTrace_133 ?_
      refine lv_if_ne (tgt := 144) C.1 C.2.1 dX12_sayTrace_136 (by decide) (fun c_232 => ?_) (fun c_232 => ?_)
      · replace c_232 : ¬ (t_224.1 0 6).toInt = 0 := i_ne c_232
        refine lv_aload_n C.1 C.2.1 dX12_sayTrace_144 rfl (lv_at hl 0 rfl) ?_
        refine k_get (v := .int (t_224.1 0 6)) C hP 0 rfl rfl inlX12 6 (by decide) m_7_7 rfl dX12_sayTrace_145 ?_
        refine lv_iconst (v := 1) C.1 C.2.1 dX12_sayTrace_148 (by decide) ?_
        refine lv_icmp_ne (tgt := 157) C.1 C.2.1 dX12_sayTrace_149 (by decide) (fun c_233 => ?_) (fun c_233 => ?_)
        · replace c_233 : ¬ (t_224.1 0 6).toInt = 1 := i_ne c_233
          refine lv_bipush (v := 71) C.1 C.2.1 dX12_sayTrace_157 (by decide) ?_
          refine g_Vv (As := [.int 71]) (rest := []) C hP hD hS hA (T_X12_say l D K Z Y ad t_224 hok 71 (show (t_224.1 0 30).toInt ≤ 119 from by omega)) hE hZ (uwV m_42_13 m_42_14 m_42_15 m_1_5 m_42_16) (hdV 1 (by decide +kernel) rfl) ⟨Nat.le_of_ble_eq_true rfl, Nat.le_of_ble_eq_true rfl⟩ rfl rfl (ci := 11) (q0 := 0) rfl rfl rfl hl.1 (Nat.le_of_ble_eq_true rfl) dX12_sayTrace_159 ⟨Nat.le_of_ble_eq_true rfl, Nat.le_of_ble_eq_true rfl⟩ (fun t_234 H locs hw hP hD hS => ?_)
          obtain ⟨hok, f_236, p_237⟩ := hw
          have hfr : frA [(0, 30), (0, 91)] [] [11, 12, 13, 14] [] t t_234 := frA_tr hfr f_236 rfl
          have h_238 : (t_234.1 0 91).toInt = (t_224.1 0 91).toInt := ti_eq (f_236.1 0 91 rfl)
          have h_239 : (t_234.1 0 5).toInt = (t_224.1 0 5).toInt := ti_eq (f_236.1 0 5 rfl)
          have h_240 : (t_234.1 0 6).toInt = (t_224.1 0 6).toInt := ti_eq (f_236.1 0 6 rfl)
          have h_241 : (0 : Int) ≤ (t_234.1 0 30).toInt ∧ (t_234.1 0 30).toInt ≤ 120 := hok.1 0 30
          replace p_237 : (t_234.1 0 30).toInt = (t_224.1 0 30).toInt + 1 := p_237
          refine lv_aload_n C.1 C.2.1 dX12_sayTrace_162 rfl (lv_at hl 0 rfl) ?_
          refine lv_bipush (v := 32) C.1 C.2.1 dX12_sayTrace_163 (by decide) ?_
          refine g_Vv (As := [.int 32]) (rest := []) C hP hD hS hA (T_X12_say l D K Z Y ad t_234 hok 32 (show (t_234.1 0 30).toInt ≤ 119 from by omega)) hE hZ (uwV m_42_13 m_42_14 m_42_15 m_1_5 m_42_16) (hdV 1 (by decide +kernel) rfl) ⟨Nat.le_of_ble_eq_true rfl, Nat.le_of_ble_eq_true rfl⟩ rfl rfl (ci := 11) (q0 := 0) rfl rfl rfl hl.1 (Nat.le_of_ble_eq_true rfl) dX12_sayTrace_165 ⟨Nat.le_of_ble_eq_true rfl, Nat.le_of_ble_eq_true rfl⟩ (fun t_242 H locs hw hP hD hS => ?_)
          obtain ⟨hok, f_244, p_245⟩ := hw
          have hfr : frA [(0, 30), (0, 91)] [] [11, 12, 13, 14] [] t t_242 := frA_tr hfr f_244 rfl
          have h_246 : (t_242.1 0 91).toInt = (t_234.1 0 91).toInt := ti_eq (f_244.1 0 91 rfl)
          have h_247 : (t_242.1 0 5).toInt = (t_234.1 0 5).toInt := ti_eq (f_244.1 0 5 rfl)
          have h_248 : (t_242.1 0 6).toInt = (t_234.1 0 6).toInt := ti_eq (f_244.1 0 6 rfl)
          have h_249 : (0 : Int) ≤ (t_242.1 0 30).toInt ∧ (t_242.1 0 30).toInt ≤ 120 := hok.1 0 30
          replace p_245 : (t_242.1 0 30).toInt = (t_234.1 0 30).toInt + 1 := p_245
          refine lv_aload_n C.1 C.2.1 dX12_sayTrace_168 rfl (lv_at hl 0 rfl) ?_
          refine lv_aload_n C.1 C.2.1 dX12_sayTrace_169 rfl (lv_at hl 0 rfl) ?_
          refine k_get (v := .long (t_242.2.1 0 8)) C hP 0 rfl rfl inlX12 8 (by decide) m_29_23 rfl dX12_sayTrace_170 ?_
          refine lv_ldc2 (v := 1000000000) C.1 C.2.1 C.2.2.2.1 (C.2.2.2.2.1 _ m_63_19) dX12_sayTrace_173 ?_
          obtain ⟨v_250, e_251⟩ : ∃ z, z = ((t_242.2.1 0 8) : Int64) - ((t_242.2.1 0 8) : Int64) / (1000000000 : Int64) * (1000000000 : Int64) := ⟨_, rfl⟩
          have h_252 : -1000000000 < v_250.toInt ∧ v_250.toInt < 1000000000 := by rw [e_251]; exact tl_remb (k := 1000000000) (by decide) (by decide)
          refine k_lrem (v := v_250) C (by decide) e_251.symm dX12_sayTrace_176 ?_
          refine lv_bipush (v := 9) C.1 C.2.1 dX12_sayTrace_177 (by decide) ?_
          have h_253 : (9 : Int32).toInt = 9 := rfl
          refine g_Vv (As := [.long v_250, .int 9]) (rest := []) C hP hD hS hA (T_X12_sayDigits l D K Z Y ad t_242 hok (v_250) 9 (show (1 : Int) ≤ (9 : Int32).toInt ∧ (9 : Int32).toInt ≤ 10 from ⟨by decide, by decide⟩) (show (t_242.1 0 30).toInt + (9 : Int32).toInt ≤ 120 from by omega) (show 1 ≤ (9 : Int32).toInt from by omega) (show (9 : Int32).toInt ≤ 10 from by omega)) hE hZ (uwV m_42_9 m_42_10 m_42_11 m_1_5 m_42_12) (hdV 2 (by decide +kernel) rfl) ⟨Nat.le_of_ble_eq_true rfl, Nat.le_of_ble_eq_true rfl⟩ rfl rfl (ci := 11) (q0 := 0) rfl rfl rfl hl.1 (Nat.le_of_ble_eq_true rfl) dX12_sayTrace_179 ⟨Nat.le_of_ble_eq_true rfl, Nat.le_of_ble_eq_true rfl⟩ (fun t_254 H locs hw hP hD hS => ?_)
          obtain ⟨hok, f_256, p_257⟩ := hw
          have hfr : frA [(0, 30), (0, 91)] [] [11, 12, 13, 14] [] t t_254 := frA_tr hfr f_256 rfl
          have h_258 : (t_254.1 0 91).toInt = (t_242.1 0 91).toInt := ti_eq (f_256.1 0 91 rfl)
          have h_259 : (t_254.1 0 5).toInt = (t_242.1 0 5).toInt := ti_eq (f_256.1 0 5 rfl)
          have h_260 : (t_254.1 0 6).toInt = (t_242.1 0 6).toInt := ti_eq (f_256.1 0 6 rfl)
          have h_261 : (0 : Int) ≤ (t_254.1 0 30).toInt ∧ (t_254.1 0 30).toInt ≤ 120 := hok.1 0 30
          replace p_257 : (t_254.1 0 30).toInt = (t_242.1 0 30).toInt + (9 : Int32).toInt := p_257
          refine lv_aload_n C.1 C.2.1 dX12_sayTrace_182 rfl (lv_at hl 0 rfl) ?_
          refine lv_bipush (v := 18) C.1 C.2.1 dX12_sayTrace_183 (by decide) ?_
          refine g_Vv (As := [.int 18]) (rest := []) C hP hD hS hA (T_X12_print l D K Z Y ad t_254 hok 18 (show (17 : Int) ≤ (18 : Int32).toInt ∧ (18 : Int32).toInt ≤ 19 from ⟨by decide, by decide⟩)) hE hZ (uwV m_42_21 m_42_22 m_42_23 m_1_5 m_43_0) (hdV 1 (by decide +kernel) rfl) ⟨Nat.le_of_ble_eq_true rfl, Nat.le_of_ble_eq_true rfl⟩ rfl rfl (ci := 11) (q0 := 0) rfl rfl rfl hl.1 (Nat.le_of_ble_eq_true rfl) dX12_sayTrace_185 ⟨Nat.le_of_ble_eq_true rfl, Nat.le_of_ble_eq_true rfl⟩ (fun t_262 H locs hw hP hD hS => ?_)
          obtain ⟨hok, f_264⟩ := hw
          have hfr : frA [(0, 30), (0, 91)] [] [11, 12, 13, 14] [] t t_262 := frA_tr hfr f_264 rfl
          have h_265 : (t_262.1 0 91).toInt = (t_254.1 0 91).toInt := ti_eq (f_264.1 0 91 rfl)
          have h_266 : (t_262.1 0 5).toInt = (t_254.1 0 5).toInt := ti_eq (f_264.1 0 5 rfl)
          have h_267 : (t_262.1 0 6).toInt = (t_254.1 0 6).toInt := ti_eq (f_264.1 0 6 rfl)
          have h_268 : (0 : Int) ≤ (t_262.1 0 30).toInt ∧ (t_262.1 0 30).toInt ≤ 120 := hok.1 0 30
          exact g_vret C hr hlocks hP hD hS t_262 rfl ⟨hok, hfr⟩ (Nat.le_of_ble_eq_true rfl) (Nat.le_of_ble_eq_true rfl) dX12_sayTrace_188
        · replace c_233 : (t_224.1 0 6).toInt = 1 := i_eq c_233
          refine lv_bipush (v := 69) C.1 C.2.1 dX12_sayTrace_152 (by decide) ?_
          refine lv_goto (tgt := 159) C.1 C.2.1 dX12_sayTrace_154 (by decide) ?_
          refine g_Vv (As := [.int 69]) (rest := []) C hP hD hS hA (T_X12_say l D K Z Y ad t_224 hok 69 (show (t_224.1 0 30).toInt ≤ 119 from by omega)) hE hZ (uwV m_42_13 m_42_14 m_42_15 m_1_5 m_42_16) (hdV 1 (by decide +kernel) rfl) ⟨Nat.le_of_ble_eq_true rfl, Nat.le_of_ble_eq_true rfl⟩ rfl rfl (ci := 11) (q0 := 0) rfl rfl rfl hl.1 (Nat.le_of_ble_eq_true rfl) dX12_sayTrace_159 ⟨Nat.le_of_ble_eq_true rfl, Nat.le_of_ble_eq_true rfl⟩ (fun t_269 H locs hw hP hD hS => ?_)
          obtain ⟨hok, f_271, p_272⟩ := hw
          have hfr : frA [(0, 30), (0, 91)] [] [11, 12, 13, 14] [] t t_269 := frA_tr hfr f_271 rfl
          have h_273 : (t_269.1 0 91).toInt = (t_224.1 0 91).toInt := ti_eq (f_271.1 0 91 rfl)
          have h_274 : (t_269.1 0 5).toInt = (t_224.1 0 5).toInt := ti_eq (f_271.1 0 5 rfl)
          have h_275 : (t_269.1 0 6).toInt = (t_224.1 0 6).toInt := ti_eq (f_271.1 0 6 rfl)
          have h_276 : (0 : Int) ≤ (t_269.1 0 30).toInt ∧ (t_269.1 0 30).toInt ≤ 120 := hok.1 0 30
          replace p_272 : (t_269.1 0 30).toInt = (t_224.1 0 30).toInt + 1 := p_272
          refine lv_aload_n C.1 C.2.1 dX12_sayTrace_162 rfl (lv_at hl 0 rfl) ?_
          refine lv_bipush (v := 32) C.1 C.2.1 dX12_sayTrace_163 (by decide) ?_
          refine g_Vv (As := [.int 32]) (rest := []) C hP hD hS hA (T_X12_say l D K Z Y ad t_269 hok 32 (show (t_269.1 0 30).toInt ≤ 119 from by omega)) hE hZ (uwV m_42_13 m_42_14 m_42_15 m_1_5 m_42_16) (hdV 1 (by decide +kernel) rfl) ⟨Nat.le_of_ble_eq_true rfl, Nat.le_of_ble_eq_true rfl⟩ rfl rfl (ci := 11) (q0 := 0) rfl rfl rfl hl.1 (Nat.le_of_ble_eq_true rfl) dX12_sayTrace_165 ⟨Nat.le_of_ble_eq_true rfl, Nat.le_of_ble_eq_true rfl⟩ (fun t_277 H locs hw hP hD hS => ?_)
          obtain ⟨hok, f_279, p_280⟩ := hw
          have hfr : frA [(0, 30), (0, 91)] [] [11, 12, 13, 14] [] t t_277 := frA_tr hfr f_279 rfl
          have h_281 : (t_277.1 0 91).toInt = (t_269.1 0 91).toInt := ti_eq (f_279.1 0 91 rfl)
          have h_282 : (t_277.1 0 5).toInt = (t_269.1 0 5).toInt := ti_eq (f_279.1 0 5 rfl)
          have h_283 : (t_277.1 0 6).toInt = (t_269.1 0 6).toInt := ti_eq (f_279.1 0 6 rfl)
          have h_284 : (0 : Int) ≤ (t_277.1 0 30).toInt ∧ (t_277.1 0 30).toInt ≤ 120 := hok.1 0 30
          replace p_280 : (t_277.1 0 30).toInt = (t_269.1 0 30).toInt + 1 := p_280
          refine lv_aload_n C.1 C.2.1 dX12_sayTrace_168 rfl (lv_at hl 0 rfl) ?_
          refine lv_aload_n C.1 C.2.1 dX12_sayTrace_169 rfl (lv_at hl 0 rfl) ?_
          refine k_get (v := .long (t_277.2.1 0 8)) C hP 0 rfl rfl inlX12 8 (by decide) m_29_23 rfl dX12_sayTrace_170 ?_
          refine lv_ldc2 (v := 1000000000) C.1 C.2.1 C.2.2.2.1 (C.2.2.2.2.1 _ m_63_19) dX12_sayTrace_173 ?_
          obtain ⟨v_285, e_286⟩ : ∃ z, z = ((t_277.2.1 0 8) : Int64) - ((t_277.2.1 0 8) : Int64) / (1000000000 : Int64) * (1000000000 : Int64) := ⟨_, rfl⟩
          have h_287 : -1000000000 < v_285.toInt ∧ v_285.toInt < 1000000000 := by rw [e_286]; exact tl_remb (k := 1000000000) (by decide) (by decide)
          refine k_lrem (v := v_285) C (by decide) e_286.symm dX12_sayTrace_176 ?_
          refine lv_bipush (v := 9) C.1 C.2.1 dX12_sayTrace_177 (by decide) ?_
          have h_288 : (9 : Int32).toInt = 9 := rfl
          refine g_Vv (As := [.long v_285, .int 9]) (rest := []) C hP hD hS hA (T_X12_sayDigits l D K Z Y ad t_277 hok (v_285) 9 (show (1 : Int) ≤ (9 : Int32).toInt ∧ (9 : Int32).toInt ≤ 10 from ⟨by decide, by decide⟩) (show (t_277.1 0 30).toInt + (9 : Int32).toInt ≤ 120 from by omega) (show 1 ≤ (9 : Int32).toInt from by omega) (show (9 : Int32).toInt ≤ 10 from by omega)) hE hZ (uwV m_42_9 m_42_10 m_42_11 m_1_5 m_42_12) (hdV 2 (by decide +kernel) rfl) ⟨Nat.le_of_ble_eq_true rfl, Nat.le_of_ble_eq_true rfl⟩ rfl rfl (ci := 11) (q0 := 0) rfl rfl rfl hl.1 (Nat.le_of_ble_eq_true rfl) dX12_sayTrace_179 ⟨Nat.le_of_ble_eq_true rfl, Nat.le_of_ble_eq_true rfl⟩ (fun t_289 H locs hw hP hD hS => ?_)
          obtain ⟨hok, f_291, p_292⟩ := hw
          have hfr : frA [(0, 30), (0, 91)] [] [11, 12, 13, 14] [] t t_289 := frA_tr hfr f_291 rfl
          have h_293 : (t_289.1 0 91).toInt = (t_277.1 0 91).toInt := ti_eq (f_291.1 0 91 rfl)
          have h_294 : (t_289.1 0 5).toInt = (t_277.1 0 5).toInt := ti_eq (f_291.1 0 5 rfl)
          have h_295 : (t_289.1 0 6).toInt = (t_277.1 0 6).toInt := ti_eq (f_291.1 0 6 rfl)
          have h_296 : (0 : Int) ≤ (t_289.1 0 30).toInt ∧ (t_289.1 0 30).toInt ≤ 120 := hok.1 0 30
          replace p_292 : (t_289.1 0 30).toInt = (t_277.1 0 30).toInt + (9 : Int32).toInt := p_292
          refine lv_aload_n C.1 C.2.1 dX12_sayTrace_182 rfl (lv_at hl 0 rfl) ?_
          refine lv_bipush (v := 18) C.1 C.2.1 dX12_sayTrace_183 (by decide) ?_
          refine g_Vv (As := [.int 18]) (rest := []) C hP hD hS hA (T_X12_print l D K Z Y ad t_289 hok 18 (show (17 : Int) ≤ (18 : Int32).toInt ∧ (18 : Int32).toInt ≤ 19 from ⟨by decide, by decide⟩)) hE hZ (uwV m_42_21 m_42_22 m_42_23 m_1_5 m_43_0) (hdV 1 (by decide +kernel) rfl) ⟨Nat.le_of_ble_eq_true rfl, Nat.le_of_ble_eq_true rfl⟩ rfl rfl (ci := 11) (q0 := 0) rfl rfl rfl hl.1 (Nat.le_of_ble_eq_true rfl) dX12_sayTrace_185 ⟨Nat.le_of_ble_eq_true rfl, Nat.le_of_ble_eq_true rfl⟩ (fun t_297 H locs hw hP hD hS => ?_)
          obtain ⟨hok, f_299⟩ := hw
          have hfr : frA [(0, 30), (0, 91)] [] [11, 12, 13, 14] [] t t_297 := frA_tr hfr f_299 rfl
          have h_300 : (t_297.1 0 91).toInt = (t_289.1 0 91).toInt := ti_eq (f_299.1 0 91 rfl)
          have h_301 : (t_297.1 0 5).toInt = (t_289.1 0 5).toInt := ti_eq (f_299.1 0 5 rfl)
          have h_302 : (t_297.1 0 6).toInt = (t_289.1 0 6).toInt := ti_eq (f_299.1 0 6 rfl)
          have h_303 : (0 : Int) ≤ (t_297.1 0 30).toInt ∧ (t_297.1 0 30).toInt ≤ 120 := hok.1 0 30
          exact g_vret C hr hlocks hP hD hS t_297 rfl ⟨hok, hfr⟩ (Nat.le_of_ble_eq_true rfl) (Nat.le_of_ble_eq_true rfl) dX12_sayTrace_188
      · replace c_232 : (t_224.1 0 6).toInt = 0 := i_eq c_232
        refine lv_bipush (v := 76) C.1 C.2.1 dX12_sayTrace_139 (by decide) ?_
        refine lv_goto (tgt := 159) C.1 C.2.1 dX12_sayTrace_141 (by decide) ?_
        refine g_Vv (As := [.int 76]) (rest := []) C hP hD hS hA (T_X12_say l D K Z Y ad t_224 hok 76 (show (t_224.1 0 30).toInt ≤ 119 from by omega)) hE hZ (uwV m_42_13 m_42_14 m_42_15 m_1_5 m_42_16) (hdV 1 (by decide +kernel) rfl) ⟨Nat.le_of_ble_eq_true rfl, Nat.le_of_ble_eq_true rfl⟩ rfl rfl (ci := 11) (q0 := 0) rfl rfl rfl hl.1 (Nat.le_of_ble_eq_true rfl) dX12_sayTrace_159 ⟨Nat.le_of_ble_eq_true rfl, Nat.le_of_ble_eq_true rfl⟩ (fun t_304 H locs hw hP hD hS => ?_)
        obtain ⟨hok, f_306, p_307⟩ := hw
        have hfr : frA [(0, 30), (0, 91)] [] [11, 12, 13, 14] [] t t_304 := frA_tr hfr f_306 rfl
        have h_308 : (t_304.1 0 91).toInt = (t_224.1 0 91).toInt := ti_eq (f_306.1 0 91 rfl)
        have h_309 : (t_304.1 0 5).toInt = (t_224.1 0 5).toInt := ti_eq (f_306.1 0 5 rfl)
        have h_310 : (t_304.1 0 6).toInt = (t_224.1 0 6).toInt := ti_eq (f_306.1 0 6 rfl)
        have h_311 : (0 : Int) ≤ (t_304.1 0 30).toInt ∧ (t_304.1 0 30).toInt ≤ 120 := hok.1 0 30
        replace p_307 : (t_304.1 0 30).toInt = (t_224.1 0 30).toInt + 1 := p_307
        refine lv_aload_n C.1 C.2.1 dX12_sayTrace_162 rfl (lv_at hl 0 rfl) ?_
        refine lv_bipush (v := 32) C.1 C.2.1 dX12_sayTrace_163 (by decide) ?_
        refine g_Vv (As := [.int 32]) (rest := []) C hP hD hS hA (T_X12_say l D K Z Y ad t_304 hok 32 (show (t_304.1 0 30).toInt ≤ 119 from by omega)) hE hZ (uwV m_42_13 m_42_14 m_42_15 m_1_5 m_42_16) (hdV 1 (by decide +kernel) rfl) ⟨Nat.le_of_ble_eq_true rfl, Nat.le_of_ble_eq_true rfl⟩ rfl rfl (ci := 11) (q0 := 0) rfl rfl rfl hl.1 (Nat.le_of_ble_eq_true rfl) dX12_sayTrace_165 ⟨Nat.le_of_ble_eq_true rfl, Nat.le_of_ble_eq_true rfl⟩ (fun t_312 H locs hw hP hD hS => ?_)
        obtain ⟨hok, f_314, p_315⟩ := hw
        have hfr : frA [(0, 30), (0, 91)] [] [11, 12, 13, 14] [] t t_312 := frA_tr hfr f_314 rfl
        have h_316 : (t_312.1 0 91).toInt = (t_304.1 0 91).toInt := ti_eq (f_314.1 0 91 rfl)
        have h_317 : (t_312.1 0 5).toInt = (t_304.1 0 5).toInt := ti_eq (f_314.1 0 5 rfl)
        have h_318 : (t_312.1 0 6).toInt = (t_304.1 0 6).toInt := ti_eq (f_314.1 0 6 rfl)
        have h_319 : (0 : Int) ≤ (t_312.1 0 30).toInt ∧ (t_312.1 0 30).toInt ≤ 120 := hok.1 0 30
        replace p_315 : (t_312.1 0 30).toInt = (t_304.1 0 30).toInt + 1 := p_315
        refine lv_aload_n C.1 C.2.1 dX12_sayTrace_168 rfl (lv_at hl 0 rfl) ?_
        refine lv_aload_n C.1 C.2.1 dX12_sayTrace_169 rfl (lv_at hl 0 rfl) ?_
        refine k_get (v := .long (t_312.2.1 0 8)) C hP 0 rfl rfl inlX12 8 (by decide) m_29_23 rfl dX12_sayTrace_170 ?_
        refine lv_ldc2 (v := 1000000000) C.1 C.2.1 C.2.2.2.1 (C.2.2.2.2.1 _ m_63_19) dX12_sayTrace_173 ?_
        obtain ⟨v_320, e_321⟩ : ∃ z, z = ((t_312.2.1 0 8) : Int64) - ((t_312.2.1 0 8) : Int64) / (1000000000 : Int64) * (1000000000 : Int64) := ⟨_, rfl⟩
        have h_322 : -1000000000 < v_320.toInt ∧ v_320.toInt < 1000000000 := by rw [e_321]; exact tl_remb (k := 1000000000) (by decide) (by decide)
        refine k_lrem (v := v_320) C (by decide) e_321.symm dX12_sayTrace_176 ?_
        refine lv_bipush (v := 9) C.1 C.2.1 dX12_sayTrace_177 (by decide) ?_
        have h_323 : (9 : Int32).toInt = 9 := rfl
        refine g_Vv (As := [.long v_320, .int 9]) (rest := []) C hP hD hS hA (T_X12_sayDigits l D K Z Y ad t_312 hok (v_320) 9 (show (1 : Int) ≤ (9 : Int32).toInt ∧ (9 : Int32).toInt ≤ 10 from ⟨by decide, by decide⟩) (show (t_312.1 0 30).toInt + (9 : Int32).toInt ≤ 120 from by omega) (show 1 ≤ (9 : Int32).toInt from by omega) (show (9 : Int32).toInt ≤ 10 from by omega)) hE hZ (uwV m_42_9 m_42_10 m_42_11 m_1_5 m_42_12) (hdV 2 (by decide +kernel) rfl) ⟨Nat.le_of_ble_eq_true rfl, Nat.le_of_ble_eq_true rfl⟩ rfl rfl (ci := 11) (q0 := 0) rfl rfl rfl hl.1 (Nat.le_of_ble_eq_true rfl) dX12_sayTrace_179 ⟨Nat.le_of_ble_eq_true rfl, Nat.le_of_ble_eq_true rfl⟩ (fun t_324 H locs hw hP hD hS => ?_)
        obtain ⟨hok, f_326, p_327⟩ := hw
        have hfr : frA [(0, 30), (0, 91)] [] [11, 12, 13, 14] [] t t_324 := frA_tr hfr f_326 rfl
        have h_328 : (t_324.1 0 91).toInt = (t_312.1 0 91).toInt := ti_eq (f_326.1 0 91 rfl)
        have h_329 : (t_324.1 0 5).toInt = (t_312.1 0 5).toInt := ti_eq (f_326.1 0 5 rfl)
        have h_330 : (t_324.1 0 6).toInt = (t_312.1 0 6).toInt := ti_eq (f_326.1 0 6 rfl)
        have h_331 : (0 : Int) ≤ (t_324.1 0 30).toInt ∧ (t_324.1 0 30).toInt ≤ 120 := hok.1 0 30
        replace p_327 : (t_324.1 0 30).toInt = (t_312.1 0 30).toInt + (9 : Int32).toInt := p_327
        refine lv_aload_n C.1 C.2.1 dX12_sayTrace_182 rfl (lv_at hl 0 rfl) ?_
        refine lv_bipush (v := 18) C.1 C.2.1 dX12_sayTrace_183 (by decide) ?_
        refine g_Vv (As := [.int 18]) (rest := []) C hP hD hS hA (T_X12_print l D K Z Y ad t_324 hok 18 (show (17 : Int) ≤ (18 : Int32).toInt ∧ (18 : Int32).toInt ≤ 19 from ⟨by decide, by decide⟩)) hE hZ (uwV m_42_21 m_42_22 m_42_23 m_1_5 m_43_0) (hdV 1 (by decide +kernel) rfl) ⟨Nat.le_of_ble_eq_true rfl, Nat.le_of_ble_eq_true rfl⟩ rfl rfl (ci := 11) (q0 := 0) rfl rfl rfl hl.1 (Nat.le_of_ble_eq_true rfl) dX12_sayTrace_185 ⟨Nat.le_of_ble_eq_true rfl, Nat.le_of_ble_eq_true rfl⟩ (fun t_332 H locs hw hP hD hS => ?_)
        obtain ⟨hok, f_334⟩ := hw
        have hfr : frA [(0, 30), (0, 91)] [] [11, 12, 13, 14] [] t t_332 := frA_tr hfr f_334 rfl
        have h_335 : (t_332.1 0 91).toInt = (t_324.1 0 91).toInt := ti_eq (f_334.1 0 91 rfl)
        have h_336 : (t_332.1 0 5).toInt = (t_324.1 0 5).toInt := ti_eq (f_334.1 0 5 rfl)
        have h_337 : (t_332.1 0 6).toInt = (t_324.1 0 6).toInt := ti_eq (f_334.1 0 6 rfl)
        have h_338 : (0 : Int) ≤ (t_332.1 0 30).toInt ∧ (t_332.1 0 30).toInt ≤ 120 := hok.1 0 30
        exact g_vret C hr hlocks hP hD hS t_332 rfl ⟨hok, hfr⟩ (Nat.le_of_ble_eq_true rfl) (Nat.le_of_ble_eq_true rfl) dX12_sayTrace_188
  · replace c_11 : x1.toInt < 0 := i_nle c_11
    refine lv_bipush (v := 45) C.1 C.2.1 dX12_sayTrace_19 (by decide) ?_
    refine lv_goto (tgt := 26) C.1 C.2.1 dX12_sayTrace_21 (by decide) ?_
    refine g_Vv (As := [.int 45]) (rest := []) C hP hD hS hA (T_X12_say l D K Z Y ad t_5 hok 45 (show (t_5.1 0 30).toInt ≤ 119 from by omega)) hE hZ (uwV m_42_13 m_42_14 m_42_15 m_1_5 m_42_16) (hdV 1 (by decide +kernel) rfl) ⟨Nat.le_of_ble_eq_true rfl, Nat.le_of_ble_eq_true rfl⟩ rfl rfl (ci := 11) (q0 := 0) rfl rfl rfl hl.1 (Nat.le_of_ble_eq_true rfl) dX12_sayTrace_26 ⟨Nat.le_of_ble_eq_true rfl, Nat.le_of_ble_eq_true rfl⟩ (fun t_339 H locs hw hP hD hS => ?_)
    obtain ⟨hok, f_341, p_342⟩ := hw
    have hfr : frA [(0, 30), (0, 91)] [] [11, 12, 13, 14] [] t t_339 := frA_tr hfr f_341 rfl
    have h_343 : (t_339.1 0 91).toInt = (t_5.1 0 91).toInt := ti_eq (f_341.1 0 91 rfl)
    have h_344 : (0 : Int) ≤ (t_339.1 0 30).toInt ∧ (t_339.1 0 30).toInt ≤ 120 := hok.1 0 30
    replace p_342 : (t_339.1 0 30).toInt = (t_5.1 0 30).toInt + 1 := p_342
    refine lv_aload_n C.1 C.2.1 dX12_sayTrace_29 rfl (lv_at hl 0 rfl) ?_
    refine lv_iload_n C.1 C.2.1 dX12_sayTrace_30 rfl (lv_at hl 1 rfl) ?_
    refine lv_if_ge (tgt := 40) C.1 C.2.1 dX12_sayTrace_31 (by decide) (fun c_345 => False.elim (by have c_345 : 0 ≤ x1.toInt := i_le c_345; omega)) (fun c_345 => ?_)
    replace c_345 : x1.toInt < 0 := i_nle c_345
    refine lv_iload_n C.1 C.2.1 dX12_sayTrace_34 rfl (lv_at hl 1 rfl) ?_
    obtain ⟨v_346, e_347⟩ : ∃ z, z = -(x1 : Int32) := ⟨_, rfl⟩
    refine k_ineg (v := v_346) C e_347.symm dX12_sayTrace_35 ?_
    obtain ⟨v_348, e_349⟩ : ∃ z, z = (v_346 : Int32).toInt64 := ⟨_, rfl⟩
    have h_350 : v_348.toInt = v_346.toInt := by rw [e_349]; exact Jvm.Kit.i64_of_i32 _
    have h_351 := i_rng v_346
    refine lv_i2l (v := v_348) C.1 C.2.1 dX12_sayTrace_36 e_349.symm ?_
    refine lv_goto (tgt := 42) C.1 C.2.1 dX12_sayTrace_37 (by decide) ?_
    refine lv_iconst (v := 4) C.1 C.2.1 dX12_sayTrace_42 (by decide) ?_
    have h_352 : (4 : Int32).toInt = 4 := rfl
    refine g_Vv (As := [.long v_348, .int 4]) (rest := []) C hP hD hS hA (T_X12_sayDigits l D K Z Y ad t_339 hok (v_348) 4 (show (1 : Int) ≤ (4 : Int32).toInt ∧ (4 : Int32).toInt ≤ 10 from ⟨by decide, by decide⟩) (show (t_339.1 0 30).toInt + (4 : Int32).toInt ≤ 120 from by omega) (show 1 ≤ (4 : Int32).toInt from by omega) (show (4 : Int32).toInt ≤ 10 from by omega)) hE hZ (uwV m_42_9 m_42_10 m_42_11 m_1_5 m_42_12) (hdV 2 (by decide +kernel) rfl) ⟨Nat.le_of_ble_eq_true rfl, Nat.le_of_ble_eq_true rfl⟩ rfl rfl (ci := 11) (q0 := 0) rfl rfl rfl hl.1 (Nat.le_of_ble_eq_true rfl) dX12_sayTrace_43 ⟨Nat.le_of_ble_eq_true rfl, Nat.le_of_ble_eq_true rfl⟩ (fun t_353 H locs hw hP hD hS => ?_)
    obtain ⟨hok, f_355, p_356⟩ := hw
    have hfr : frA [(0, 30), (0, 91)] [] [11, 12, 13, 14] [] t t_353 := frA_tr hfr f_355 rfl
    have h_357 : (t_353.1 0 91).toInt = (t_339.1 0 91).toInt := ti_eq (f_355.1 0 91 rfl)
    have h_358 : (0 : Int) ≤ (t_353.1 0 30).toInt ∧ (t_353.1 0 30).toInt ≤ 120 := hok.1 0 30
    replace p_356 : (t_353.1 0 30).toInt = (t_339.1 0 30).toInt + (4 : Int32).toInt := p_356
    refine lv_aload_n C.1 C.2.1 dX12_sayTrace_46 rfl (lv_at hl 0 rfl) ?_
    refine lv_bipush (v := 32) C.1 C.2.1 dX12_sayTrace_47 (by decide) ?_
    refine g_Vv (As := [.int 32]) (rest := []) C hP hD hS hA (T_X12_say l D K Z Y ad t_353 hok 32 (show (t_353.1 0 30).toInt ≤ 119 from by omega)) hE hZ (uwV m_42_13 m_42_14 m_42_15 m_1_5 m_42_16) (hdV 1 (by decide +kernel) rfl) ⟨Nat.le_of_ble_eq_true rfl, Nat.le_of_ble_eq_true rfl⟩ rfl rfl (ci := 11) (q0 := 0) rfl rfl rfl hl.1 (Nat.le_of_ble_eq_true rfl) dX12_sayTrace_49 ⟨Nat.le_of_ble_eq_true rfl, Nat.le_of_ble_eq_true rfl⟩ (fun t_359 H locs hw hP hD hS => ?_)
    obtain ⟨hok, f_361, p_362⟩ := hw
    have hfr : frA [(0, 30), (0, 91)] [] [11, 12, 13, 14] [] t t_359 := frA_tr hfr f_361 rfl
    have h_363 : (t_359.1 0 91).toInt = (t_353.1 0 91).toInt := ti_eq (f_361.1 0 91 rfl)
    have h_364 : (0 : Int) ≤ (t_359.1 0 30).toInt ∧ (t_359.1 0 30).toInt ≤ 120 := hok.1 0 30
    replace p_362 : (t_359.1 0 30).toInt = (t_353.1 0 30).toInt + 1 := p_362
    refine lv_aload_n C.1 C.2.1 dX12_sayTrace_52 rfl (lv_at hl 0 rfl) ?_
    refine lv_iload_n C.1 C.2.1 dX12_sayTrace_53 rfl (lv_at hl 2 rfl) ?_
    refine g_Vv (As := [.int x2]) (rest := []) C hP hD hS hA (T_X12_sayParts l D K Z Y ad t_359 hok (x2) (show (t_359.1 0 30).toInt ≤ 105 from by omega)) hE hZ (uwV m_63_20 m_63_21 m_63_22 m_1_5 m_63_23) (hdV 1 (by decide +kernel) rfl) ⟨Nat.le_of_ble_eq_true rfl, Nat.le_of_ble_eq_true rfl⟩ rfl rfl (ci := 11) (q0 := 0) rfl rfl rfl hl.1 (Nat.le_of_ble_eq_true rfl) dX12_sayTrace_54 ⟨Nat.le_of_ble_eq_true rfl, Nat.le_of_ble_eq_true rfl⟩ (fun t_365 H locs hw hP hD hS => ?_)
    obtain ⟨hok, f_367, p_368⟩ := hw
    have hfr : frA [(0, 30), (0, 91)] [] [11, 12, 13, 14] [] t t_365 := frA_tr hfr f_367 rfl
    have h_369 : (t_365.1 0 91).toInt = (t_359.1 0 91).toInt := ti_eq (f_367.1 0 91 rfl)
    have h_370 : (0 : Int) ≤ (t_365.1 0 30).toInt ∧ (t_365.1 0 30).toInt ≤ 120 := hok.1 0 30
    replace p_368 : (t_365.1 0 30).toInt = (t_359.1 0 30).toInt + 15 := p_368
    refine lv_aload_n C.1 C.2.1 dX12_sayTrace_57 rfl (lv_at hl 0 rfl) ?_
    refine lv_bipush (v := 22) C.1 C.2.1 dX12_sayTrace_58 (by decide) ?_
    have h_371 : (22 : Int32).toInt = 22 := rfl
    refine g_Vv (As := [.int 22]) (rest := []) C hP hD hS hA (T_X12_toColumn l D K Z Y ad t_365 hok 22 (show (2 : Int) ≤ (22 : Int32).toInt ∧ (22 : Int32).toInt ≤ 63 from ⟨by decide, by decide⟩) (show (22 : Int32).toInt ≤ 121 from by omega)) hE hZ (uwV m_42_17 m_42_18 m_42_19 m_1_5 m_42_20) (hdV 1 (by decide +kernel) rfl) ⟨Nat.le_of_ble_eq_true rfl, Nat.le_of_ble_eq_true rfl⟩ rfl rfl (ci := 11) (q0 := 0) rfl rfl rfl hl.1 (Nat.le_of_ble_eq_true rfl) dX12_sayTrace_60 ⟨Nat.le_of_ble_eq_true rfl, Nat.le_of_ble_eq_true rfl⟩ (fun t_372 H locs hw hP hD hS => ?_)
    obtain ⟨hok, f_374, p_375, p_376⟩ := hw
    have hfr : frA [(0, 30), (0, 91)] [] [11, 12, 13, 14] [] t t_372 := frA_tr hfr f_374 rfl
    have h_377 : (t_372.1 0 91).toInt = (t_365.1 0 91).toInt := ti_eq (f_374.1 0 91 rfl)
    have h_378 : (0 : Int) ≤ (t_372.1 0 30).toInt ∧ (t_372.1 0 30).toInt ≤ 120 := hok.1 0 30
    replace p_375 : (t_365.1 0 30).toInt ≤ (t_372.1 0 30).toInt := p_375
    replace p_376 : (t_372.1 0 30).toInt ≤ (t_365.1 0 30).toInt ∨ (t_372.1 0 30).toInt ≤ (22 : Int32).toInt - 1 := p_376
    refine lv_aload_n C.1 C.2.1 dX12_sayTrace_63 rfl (lv_at hl 0 rfl) ?_
    refine lv_iload_n C.1 C.2.1 dX12_sayTrace_64 rfl (lv_at hl 2 rfl) ?_
    refine g_Vv (As := [.int x2]) (rest := []) C hP hD hS hA (T_X12_sayName l D K Z Y ad t_372 hok (x2) (show (t_372.1 0 30).toInt ≤ 110 from by omega)) hE hZ (uwV m_64_4 m_64_5 m_64_6 m_1_5 m_64_7) (hdV 1 (by decide +kernel) rfl) ⟨Nat.le_of_ble_eq_true rfl, Nat.le_of_ble_eq_true rfl⟩ rfl rfl (ci := 11) (q0 := 0) rfl rfl rfl hl.1 (Nat.le_of_ble_eq_true rfl) dX12_sayTrace_65 ⟨Nat.le_of_ble_eq_true rfl, Nat.le_of_ble_eq_true rfl⟩ (fun t_379 H locs hw hP hD hS => ?_)
    obtain ⟨hok, f_381, p_382, p_383⟩ := hw
    have hfr : frA [(0, 30), (0, 91)] [] [11, 12, 13, 14] [] t t_379 := frA_tr hfr f_381 rfl
    have h_384 : (t_379.1 0 91).toInt = (t_372.1 0 91).toInt := ti_eq (f_381.1 0 91 rfl)
    have h_385 : (0 : Int) ≤ (t_379.1 0 30).toInt ∧ (t_379.1 0 30).toInt ≤ 120 := hok.1 0 30
    replace p_382 : (t_372.1 0 30).toInt ≤ (t_379.1 0 30).toInt := p_382
    replace p_383 : (t_379.1 0 30).toInt ≤ (t_372.1 0 30).toInt + 4 := p_383
    refine lv_aload_n C.1 C.2.1 dX12_sayTrace_68 rfl (lv_at hl 0 rfl) ?_
    refine lv_bipush (v := 27) C.1 C.2.1 dX12_sayTrace_69 (by decide) ?_
    have h_386 : (27 : Int32).toInt = 27 := rfl
    refine g_Vv (As := [.int 27]) (rest := []) C hP hD hS hA (T_X12_toColumn l D K Z Y ad t_379 hok 27 (show (2 : Int) ≤ (27 : Int32).toInt ∧ (27 : Int32).toInt ≤ 63 from ⟨by decide, by decide⟩) (show (27 : Int32).toInt ≤ 121 from by omega)) hE hZ (uwV m_42_17 m_42_18 m_42_19 m_1_5 m_42_20) (hdV 1 (by decide +kernel) rfl) ⟨Nat.le_of_ble_eq_true rfl, Nat.le_of_ble_eq_true rfl⟩ rfl rfl (ci := 11) (q0 := 0) rfl rfl rfl hl.1 (Nat.le_of_ble_eq_true rfl) dX12_sayTrace_71 ⟨Nat.le_of_ble_eq_true rfl, Nat.le_of_ble_eq_true rfl⟩ (fun t_387 H locs hw hP hD hS => ?_)
    obtain ⟨hok, f_389, p_390, p_391⟩ := hw
    have hfr : frA [(0, 30), (0, 91)] [] [11, 12, 13, 14] [] t t_387 := frA_tr hfr f_389 rfl
    have h_392 : (t_387.1 0 91).toInt = (t_379.1 0 91).toInt := ti_eq (f_389.1 0 91 rfl)
    have h_393 : (0 : Int) ≤ (t_387.1 0 30).toInt ∧ (t_387.1 0 30).toInt ≤ 120 := hok.1 0 30
    replace p_390 : (t_379.1 0 30).toInt ≤ (t_387.1 0 30).toInt := p_390
    replace p_391 : (t_387.1 0 30).toInt ≤ (t_379.1 0 30).toInt ∨ (t_387.1 0 30).toInt ≤ (27 : Int32).toInt - 1 := p_391
    refine lv_aload_n C.1 C.2.1 dX12_sayTrace_74 rfl (lv_at hl 0 rfl) ?_
    refine lv_aload_n C.1 C.2.1 dX12_sayTrace_75 rfl (lv_at hl 0 rfl) ?_
    refine k_get (v := .ref (ad 3)) C hP 0 rfl rfl inlX12 4 (by decide) m_7_6 rfl dX12_sayTrace_76 ?_
    refine lv_iconst (v := 0) C.1 C.2.1 dX12_sayTrace_79 (by decide) ?_
    obtain ⟨v_394, e_395⟩ : ∃ z, z = (t_387.2.2.1 3 (0 : Int32).toNatClampNeg) := ⟨_, rfl⟩
    refine k_ild (v := v_394) C hP 3 rfl (vin (by decide)) e_395.symm dX12_sayTrace_80 ?_
    refine g_Vv (As := [.int v_394]) (rest := []) C hP hD hS hA (T_X12_sayWord l D K Z Y ad t_387 hok (v_394) (show (t_387.1 0 30).toInt ≤ 109 from by omega)) hE hZ (uwV m_64_8 m_64_9 m_64_10 m_1_5 m_64_11) (hdV 1 (by decide +kernel) rfl) ⟨Nat.le_of_ble_eq_true rfl, Nat.le_of_ble_eq_true rfl⟩ rfl rfl (ci := 11) (q0 := 0) rfl rfl rfl hl.1 (Nat.le_of_ble_eq_true rfl) dX12_sayTrace_81 ⟨Nat.le_of_ble_eq_true rfl, Nat.le_of_ble_eq_true rfl⟩ (fun t_396 H locs hw hP hD hS => ?_)
    obtain ⟨hok, f_398, p_399⟩ := hw
    have hfr : frA [(0, 30), (0, 91)] [] [11, 12, 13, 14] [] t t_396 := frA_tr hfr f_398 rfl
    have h_400 : (t_396.1 0 91).toInt = (t_387.1 0 91).toInt := ti_eq (f_398.1 0 91 rfl)
    have h_401 : (0 : Int) ≤ (t_396.1 0 30).toInt ∧ (t_396.1 0 30).toInt ≤ 120 := hok.1 0 30
    replace p_399 : (t_396.1 0 30).toInt = (t_387.1 0 30).toInt + 11 := p_399
    refine lv_aload_n C.1 C.2.1 dX12_sayTrace_84 rfl (lv_at hl 0 rfl) ?_
    refine lv_bipush (v := 32) C.1 C.2.1 dX12_sayTrace_85 (by decide) ?_
    refine g_Vv (As := [.int 32]) (rest := []) C hP hD hS hA (T_X12_say l D K Z Y ad t_396 hok 32 (show (t_396.1 0 30).toInt ≤ 119 from by omega)) hE hZ (uwV m_42_13 m_42_14 m_42_15 m_1_5 m_42_16) (hdV 1 (by decide +kernel) rfl) ⟨Nat.le_of_ble_eq_true rfl, Nat.le_of_ble_eq_true rfl⟩ rfl rfl (ci := 11) (q0 := 0) rfl rfl rfl hl.1 (Nat.le_of_ble_eq_true rfl) dX12_sayTrace_87 ⟨Nat.le_of_ble_eq_true rfl, Nat.le_of_ble_eq_true rfl⟩ (fun t_402 H locs hw hP hD hS => ?_)
    obtain ⟨hok, f_404, p_405⟩ := hw
    have hfr : frA [(0, 30), (0, 91)] [] [11, 12, 13, 14] [] t t_402 := frA_tr hfr f_404 rfl
    have h_406 : (t_402.1 0 91).toInt = (t_396.1 0 91).toInt := ti_eq (f_404.1 0 91 rfl)
    have h_407 : (0 : Int) ≤ (t_402.1 0 30).toInt ∧ (t_402.1 0 30).toInt ≤ 120 := hok.1 0 30
    replace p_405 : (t_402.1 0 30).toInt = (t_396.1 0 30).toInt + 1 := p_405
    refine lv_aload_n C.1 C.2.1 dX12_sayTrace_90 rfl (lv_at hl 0 rfl) ?_
    refine lv_aload_n C.1 C.2.1 dX12_sayTrace_91 rfl (lv_at hl 0 rfl) ?_
    refine k_get (v := .ref (ad 3)) C hP 0 rfl rfl inlX12 4 (by decide) m_7_6 rfl dX12_sayTrace_92 ?_
    refine lv_bipush (v := 7) C.1 C.2.1 dX12_sayTrace_95 (by decide) ?_
    obtain ⟨v_408, e_409⟩ : ∃ z, z = (t_402.2.2.1 3 (7 : Int32).toNatClampNeg) := ⟨_, rfl⟩
    refine k_ild (v := v_408) C hP 3 rfl (vin (by decide)) e_409.symm dX12_sayTrace_97 ?_
    refine g_Vv (As := [.int v_408]) (rest := []) C hP hD hS hA (T_X12_sayWord l D K Z Y ad t_402 hok (v_408) (show (t_402.1 0 30).toInt ≤ 109 from by omega)) hE hZ (uwV m_64_8 m_64_9 m_64_10 m_1_5 m_64_11) (hdV 1 (by decide +kernel) rfl) ⟨Nat.le_of_ble_eq_true rfl, Nat.le_of_ble_eq_true rfl⟩ rfl rfl (ci := 11) (q0 := 0) rfl rfl rfl hl.1 (Nat.le_of_ble_eq_true rfl) dX12_sayTrace_98 ⟨Nat.le_of_ble_eq_true rfl, Nat.le_of_ble_eq_true rfl⟩ (fun t_410 H locs hw hP hD hS => ?_)
    obtain ⟨hok, f_412, p_413⟩ := hw
    have hfr : frA [(0, 30), (0, 91)] [] [11, 12, 13, 14] [] t t_410 := frA_tr hfr f_412 rfl
    have h_414 : (t_410.1 0 91).toInt = (t_402.1 0 91).toInt := ti_eq (f_412.1 0 91 rfl)
    have h_415 : (0 : Int) ≤ (t_410.1 0 30).toInt ∧ (t_410.1 0 30).toInt ≤ 120 := hok.1 0 30
    replace p_413 : (t_410.1 0 30).toInt = (t_402.1 0 30).toInt + 11 := p_413
    refine lv_aload_n C.1 C.2.1 dX12_sayTrace_101 rfl (lv_at hl 0 rfl) ?_
    refine lv_bipush (v := 32) C.1 C.2.1 dX12_sayTrace_102 (by decide) ?_
    refine g_Vv (As := [.int 32]) (rest := []) C hP hD hS hA (T_X12_say l D K Z Y ad t_410 hok 32 (show (t_410.1 0 30).toInt ≤ 119 from by omega)) hE hZ (uwV m_42_13 m_42_14 m_42_15 m_1_5 m_42_16) (hdV 1 (by decide +kernel) rfl) ⟨Nat.le_of_ble_eq_true rfl, Nat.le_of_ble_eq_true rfl⟩ rfl rfl (ci := 11) (q0 := 0) rfl rfl rfl hl.1 (Nat.le_of_ble_eq_true rfl) dX12_sayTrace_104 ⟨Nat.le_of_ble_eq_true rfl, Nat.le_of_ble_eq_true rfl⟩ (fun t_416 H locs hw hP hD hS => ?_)
    obtain ⟨hok, f_418, p_419⟩ := hw
    have hfr : frA [(0, 30), (0, 91)] [] [11, 12, 13, 14] [] t t_416 := frA_tr hfr f_418 rfl
    have h_420 : (t_416.1 0 91).toInt = (t_410.1 0 91).toInt := ti_eq (f_418.1 0 91 rfl)
    have h_421 : (0 : Int) ≤ (t_416.1 0 30).toInt ∧ (t_416.1 0 30).toInt ≤ 120 := hok.1 0 30
    replace p_419 : (t_416.1 0 30).toInt = (t_410.1 0 30).toInt + 1 := p_419
    refine lv_aload_n C.1 C.2.1 dX12_sayTrace_107 rfl (lv_at hl 0 rfl) ?_
    refine lv_aload_n C.1 C.2.1 dX12_sayTrace_108 rfl (lv_at hl 0 rfl) ?_
    have h_422 : (0 : Int) ≤ (t_416.1 0 5).toInt ∧ (t_416.1 0 5).toInt ≤ 1 := hok.1 0 5
    refine k_get (v := .int (t_416.1 0 5)) C hP 0 rfl rfl inlX12 5 (by decide) m_29_21 rfl dX12_sayTrace_109 ?_
    refine lv_if_eq (tgt := 120) C.1 C.2.1 dX12_sayTrace_112 (by decide) (fun c_423 => ?_) (fun c_423 => ?_)
    · replace c_423 : (t_416.1 0 5).toInt = 0 := i_eq c_423
      refine lv_bipush (v := 48) C.1 C.2.1 dX12_sayTrace_120 (by decide) ?_
      refine g_Vv (As := [.int 48]) (rest := []) C hP hD hS hA (T_X12_say l D K Z Y ad t_416 hok 48 (show (t_416.1 0 30).toInt ≤ 119 from by omega)) hE hZ (uwV m_42_13 m_42_14 m_42_15 m_1_5 m_42_16) (hdV 1 (by decide +kernel) rfl) ⟨Nat.le_of_ble_eq_true rfl, Nat.le_of_ble_eq_true rfl⟩ rfl rfl (ci := 11) (q0 := 0) rfl rfl rfl hl.1 (Nat.le_of_ble_eq_true rfl) dX12_sayTrace_122 ⟨Nat.le_of_ble_eq_true rfl, Nat.le_of_ble_eq_true rfl⟩ (fun t_424 H locs hw hP hD hS => ?_)
      obtain ⟨hok, f_426, p_427⟩ := hw
      have hfr : frA [(0, 30), (0, 91)] [] [11, 12, 13, 14] [] t t_424 := frA_tr hfr f_426 rfl
      have h_428 : (t_424.1 0 91).toInt = (t_416.1 0 91).toInt := ti_eq (f_426.1 0 91 rfl)
      have h_429 : (t_424.1 0 5).toInt = (t_416.1 0 5).toInt := ti_eq (f_426.1 0 5 rfl)
      have h_430 : (0 : Int) ≤ (t_424.1 0 30).toInt ∧ (t_424.1 0 30).toInt ≤ 120 := hok.1 0 30
      replace p_427 : (t_424.1 0 30).toInt = (t_416.1 0 30).toInt + 1 := p_427
      refine lv_aload_n C.1 C.2.1 dX12_sayTrace_125 rfl (lv_at hl 0 rfl) ?_
      refine lv_bipush (v := 32) C.1 C.2.1 dX12_sayTrace_126 (by decide) ?_
      refine g_Vv (As := [.int 32]) (rest := []) C hP hD hS hA (T_X12_say l D K Z Y ad t_424 hok 32 (show (t_424.1 0 30).toInt ≤ 119 from by omega)) hE hZ (uwV m_42_13 m_42_14 m_42_15 m_1_5 m_42_16) (hdV 1 (by decide +kernel) rfl) ⟨Nat.le_of_ble_eq_true rfl, Nat.le_of_ble_eq_true rfl⟩ rfl rfl (ci := 11) (q0 := 0) rfl rfl rfl hl.1 (Nat.le_of_ble_eq_true rfl) dX12_sayTrace_128 ⟨Nat.le_of_ble_eq_true rfl, Nat.le_of_ble_eq_true rfl⟩ (fun t_431 H locs hw hP hD hS => ?_)
      obtain ⟨hok, f_433, p_434⟩ := hw
      have hfr : frA [(0, 30), (0, 91)] [] [11, 12, 13, 14] [] t t_431 := frA_tr hfr f_433 rfl
      have h_435 : (t_431.1 0 91).toInt = (t_424.1 0 91).toInt := ti_eq (f_433.1 0 91 rfl)
      have h_436 : (t_431.1 0 5).toInt = (t_424.1 0 5).toInt := ti_eq (f_433.1 0 5 rfl)
      have h_437 : (0 : Int) ≤ (t_431.1 0 30).toInt ∧ (t_431.1 0 30).toInt ≤ 120 := hok.1 0 30
      replace p_434 : (t_431.1 0 30).toInt = (t_424.1 0 30).toInt + 1 := p_434
      refine lv_aload_n C.1 C.2.1 dX12_sayTrace_131 rfl (lv_at hl 0 rfl) ?_
      refine lv_aload_n C.1 C.2.1 dX12_sayTrace_132 rfl (lv_at hl 0 rfl) ?_
      have h_438 : (0 : Int) ≤ (t_431.1 0 6).toInt ∧ (t_431.1 0 6).toInt ≤ 7 := hok.1 0 6
      refine k_get (v := .int (t_431.1 0 6)) C hP 0 rfl rfl inlX12 6 (by decide) m_7_7 rfl dX12_sayTrace_133 ?_
      refine lv_if_ne (tgt := 144) C.1 C.2.1 dX12_sayTrace_136 (by decide) (fun c_439 => ?_) (fun c_439 => ?_)
      · replace c_439 : ¬ (t_431.1 0 6).toInt = 0 := i_ne c_439
        refine lv_aload_n C.1 C.2.1 dX12_sayTrace_144 rfl (lv_at hl 0 rfl) ?_
        refine k_get (v := .int (t_431.1 0 6)) C hP 0 rfl rfl inlX12 6 (by decide) m_7_7 rfl dX12_sayTrace_145 ?_
        refine lv_iconst (v := 1) C.1 C.2.1 dX12_sayTrace_148 (by decide) ?_
        refine lv_icmp_ne (tgt := 157) C.1 C.2.1 dX12_sayTrace_149 (by decide) (fun c_440 => ?_) (fun c_440 => ?_)
        · replace c_440 : ¬ (t_431.1 0 6).toInt = 1 := i_ne c_440
          refine lv_bipush (v := 71) C.1 C.2.1 dX12_sayTrace_157 (by decide) ?_
          refine g_Vv (As := [.int 71]) (rest := []) C hP hD hS hA (T_X12_say l D K Z Y ad t_431 hok 71 (show (t_431.1 0 30).toInt ≤ 119 from by omega)) hE hZ (uwV m_42_13 m_42_14 m_42_15 m_1_5 m_42_16) (hdV 1 (by decide +kernel) rfl) ⟨Nat.le_of_ble_eq_true rfl, Nat.le_of_ble_eq_true rfl⟩ rfl rfl (ci := 11) (q0 := 0) rfl rfl rfl hl.1 (Nat.le_of_ble_eq_true rfl) dX12_sayTrace_159 ⟨Nat.le_of_ble_eq_true rfl, Nat.le_of_ble_eq_true rfl⟩ (fun t_441 H locs hw hP hD hS => ?_)
          obtain ⟨hok, f_443, p_444⟩ := hw
          have hfr : frA [(0, 30), (0, 91)] [] [11, 12, 13, 14] [] t t_441 := frA_tr hfr f_443 rfl
          have h_445 : (t_441.1 0 91).toInt = (t_431.1 0 91).toInt := ti_eq (f_443.1 0 91 rfl)
          have h_446 : (t_441.1 0 5).toInt = (t_431.1 0 5).toInt := ti_eq (f_443.1 0 5 rfl)
          have h_447 : (t_441.1 0 6).toInt = (t_431.1 0 6).toInt := ti_eq (f_443.1 0 6 rfl)
          have h_448 : (0 : Int) ≤ (t_441.1 0 30).toInt ∧ (t_441.1 0 30).toInt ≤ 120 := hok.1 0 30
          replace p_444 : (t_441.1 0 30).toInt = (t_431.1 0 30).toInt + 1 := p_444
          refine lv_aload_n C.1 C.2.1 dX12_sayTrace_162 rfl (lv_at hl 0 rfl) ?_
          refine lv_bipush (v := 32) C.1 C.2.1 dX12_sayTrace_163 (by decide) ?_
          refine g_Vv (As := [.int 32]) (rest := []) C hP hD hS hA (T_X12_say l D K Z Y ad t_441 hok 32 (show (t_441.1 0 30).toInt ≤ 119 from by omega)) hE hZ (uwV m_42_13 m_42_14 m_42_15 m_1_5 m_42_16) (hdV 1 (by decide +kernel) rfl) ⟨Nat.le_of_ble_eq_true rfl, Nat.le_of_ble_eq_true rfl⟩ rfl rfl (ci := 11) (q0 := 0) rfl rfl rfl hl.1 (Nat.le_of_ble_eq_true rfl) dX12_sayTrace_165 ⟨Nat.le_of_ble_eq_true rfl, Nat.le_of_ble_eq_true rfl⟩ (fun t_449 H locs hw hP hD hS => ?_)
          obtain ⟨hok, f_451, p_452⟩ := hw
          have hfr : frA [(0, 30), (0, 91)] [] [11, 12, 13, 14] [] t t_449 := frA_tr hfr f_451 rfl
          have h_453 : (t_449.1 0 91).toInt = (t_441.1 0 91).toInt := ti_eq (f_451.1 0 91 rfl)
          have h_454 : (t_449.1 0 5).toInt = (t_441.1 0 5).toInt := ti_eq (f_451.1 0 5 rfl)
          have h_455 : (t_449.1 0 6).toInt = (t_441.1 0 6).toInt := ti_eq (f_451.1 0 6 rfl)
          have h_456 : (0 : Int) ≤ (t_449.1 0 30).toInt ∧ (t_449.1 0 30).toInt ≤ 120 := hok.1 0 30
          replace p_452 : (t_449.1 0 30).toInt = (t_441.1 0 30).toInt + 1 := p_452
          refine lv_aload_n C.1 C.2.1 dX12_sayTrace_168 rfl (lv_at hl 0 rfl) ?_
          refine lv_aload_n C.1 C.2.1 dX12_sayTrace_169 rfl (lv_at hl 0 rfl) ?_
          refine k_get (v := .long (t_449.2.1 0 8)) C hP 0 rfl rfl inlX12 8 (by decide) m_29_23 rfl dX12_sayTrace_170 ?_
          refine lv_ldc2 (v := 1000000000) C.1 C.2.1 C.2.2.2.1 (C.2.2.2.2.1 _ m_63_19) dX12_sayTrace_173 ?_
          obtain ⟨v_457, e_458⟩ : ∃ z, z = ((t_449.2.1 0 8) : Int64) - ((t_449.2.1 0 8) : Int64) / (1000000000 : Int64) * (1000000000 : Int64) := ⟨_, rfl⟩
          have h_459 : -1000000000 < v_457.toInt ∧ v_457.toInt < 1000000000 := by rw [e_458]; exact tl_remb (k := 1000000000) (by decide) (by decide)
          refine k_lrem (v := v_457) C (by decide) e_458.symm dX12_sayTrace_176 ?_
          refine lv_bipush (v := 9) C.1 C.2.1 dX12_sayTrace_177 (by decide) ?_
          have h_460 : (9 : Int32).toInt = 9 := rfl
          refine g_Vv (As := [.long v_457, .int 9]) (rest := []) C hP hD hS hA (T_X12_sayDigits l D K Z Y ad t_449 hok (v_457) 9 (show (1 : Int) ≤ (9 : Int32).toInt ∧ (9 : Int32).toInt ≤ 10 from ⟨by decide, by decide⟩) (show (t_449.1 0 30).toInt + (9 : Int32).toInt ≤ 120 from by omega) (show 1 ≤ (9 : Int32).toInt from by omega) (show (9 : Int32).toInt ≤ 10 from by omega)) hE hZ (uwV m_42_9 m_42_10 m_42_11 m_1_5 m_42_12) (hdV 2 (by decide +kernel) rfl) ⟨Nat.le_of_ble_eq_true rfl, Nat.le_of_ble_eq_true rfl⟩ rfl rfl (ci := 11) (q0 := 0) rfl rfl rfl hl.1 (Nat.le_of_ble_eq_true rfl) dX12_sayTrace_179 ⟨Nat.le_of_ble_eq_true rfl, Nat.le_of_ble_eq_true rfl⟩ (fun t_461 H locs hw hP hD hS => ?_)
          obtain ⟨hok, f_463, p_464⟩ := hw
          have hfr : frA [(0, 30), (0, 91)] [] [11, 12, 13, 14] [] t t_461 := frA_tr hfr f_463 rfl
          have h_465 : (t_461.1 0 91).toInt = (t_449.1 0 91).toInt := ti_eq (f_463.1 0 91 rfl)
          have h_466 : (t_461.1 0 5).toInt = (t_449.1 0 5).toInt := ti_eq (f_463.1 0 5 rfl)
          have h_467 : (t_461.1 0 6).toInt = (t_449.1 0 6).toInt := ti_eq (f_463.1 0 6 rfl)
          have h_468 : (0 : Int) ≤ (t_461.1 0 30).toInt ∧ (t_461.1 0 30).toInt ≤ 120 := hok.1 0 30
          replace p_464 : (t_461.1 0 30).toInt = (t_449.1 0 30).toInt + (9 : Int32).toInt := p_464
          refine lv_aload_n C.1 C.2.1 dX12_sayTrace_182 rfl (lv_at hl 0 rfl) ?_
          refine lv_bipush (v := 18) C.1 C.2.1 dX12_sayTrace_183 (by decide) ?_
          refine g_Vv (As := [.int 18]) (rest := []) C hP hD hS hA (T_X12_print l D K Z Y ad t_461 hok 18 (show (17 : Int) ≤ (18 : Int32).toInt ∧ (18 : Int32).toInt ≤ 19 from ⟨by decide, by decide⟩)) hE hZ (uwV m_42_21 m_42_22 m_42_23 m_1_5 m_43_0) (hdV 1 (by decide +kernel) rfl) ⟨Nat.le_of_ble_eq_true rfl, Nat.le_of_ble_eq_true rfl⟩ rfl rfl (ci := 11) (q0 := 0) rfl rfl rfl hl.1 (Nat.le_of_ble_eq_true rfl) dX12_sayTrace_185 ⟨Nat.le_of_ble_eq_true rfl, Nat.le_of_ble_eq_true rfl⟩ (fun t_469 H locs hw hP hD hS => ?_)
          obtain ⟨hok, f_471⟩ := hw
          have hfr : frA [(0, 30), (0, 91)] [] [11, 12, 13, 14] [] t t_469 := frA_tr hfr f_471 rfl
          have h_472 : (t_469.1 0 91).toInt = (t_461.1 0 91).toInt := ti_eq (f_471.1 0 91 rfl)
          have h_473 : (t_469.1 0 5).toInt = (t_461.1 0 5).toInt := ti_eq (f_471.1 0 5 rfl)
          have h_474 : (t_469.1 0 6).toInt = (t_461.1 0 6).toInt := ti_eq (f_471.1 0 6 rfl)
          have h_475 : (0 : Int) ≤ (t_469.1 0 30).toInt ∧ (t_469.1 0 30).toInt ≤ 120 := hok.1 0 30
          exact g_vret C hr hlocks hP hD hS t_469 rfl ⟨hok, hfr⟩ (Nat.le_of_ble_eq_true rfl) (Nat.le_of_ble_eq_true rfl) dX12_sayTrace_188
        · replace c_440 : (t_431.1 0 6).toInt = 1 := i_eq c_440
          refine lv_bipush (v := 69) C.1 C.2.1 dX12_sayTrace_152 (by decide) ?_
          refine lv_goto (tgt := 159) C.1 C.2.1 dX12_sayTrace_154 (by decide) ?_
          refine g_Vv (As := [.int 69]) (rest := []) C hP hD hS hA (T_X12_say l D K Z Y ad t_431 hok 69 (show (t_431.1 0 30).toInt ≤ 119 from by omega)) hE hZ (uwV m_42_13 m_42_14 m_42_15 m_1_5 m_42_16) (hdV 1 (by decide +kernel) rfl) ⟨Nat.le_of_ble_eq_true rfl, Nat.le_of_ble_eq_true rfl⟩ rfl rfl (ci := 11) (q0 := 0) rfl rfl rfl hl.1 (Nat.le_of_ble_eq_true rfl) dX12_sayTrace_159 ⟨Nat.le_of_ble_eq_true rfl, Nat.le_of_ble_eq_true rfl⟩ (fun t_476 H locs hw hP hD hS => ?_)
          obtain ⟨hok, f_478, p_479⟩ := hw
          have hfr : frA [(0, 30), (0, 91)] [] [11, 12, 13, 14] [] t t_476 := frA_tr hfr f_478 rfl
          have h_480 : (t_476.1 0 91).toInt = (t_431.1 0 91).toInt := ti_eq (f_478.1 0 91 rfl)
          have h_481 : (t_476.1 0 5).toInt = (t_431.1 0 5).toInt := ti_eq (f_478.1 0 5 rfl)
          have h_482 : (t_476.1 0 6).toInt = (t_431.1 0 6).toInt := ti_eq (f_478.1 0 6 rfl)
          have h_483 : (0 : Int) ≤ (t_476.1 0 30).toInt ∧ (t_476.1 0 30).toInt ≤ 120 := hok.1 0 30
          replace p_479 : (t_476.1 0 30).toInt = (t_431.1 0 30).toInt + 1 := p_479
          refine lv_aload_n C.1 C.2.1 dX12_sayTrace_162 rfl (lv_at hl 0 rfl) ?_
          refine lv_bipush (v := 32) C.1 C.2.1 dX12_sayTrace_163 (by decide) ?_
          refine g_Vv (As := [.int 32]) (rest := []) C hP hD hS hA (T_X12_say l D K Z Y ad t_476 hok 32 (show (t_476.1 0 30).toInt ≤ 119 from by omega)) hE hZ (uwV m_42_13 m_42_14 m_42_15 m_1_5 m_42_16) (hdV 1 (by decide +kernel) rfl) ⟨Nat.le_of_ble_eq_true rfl, Nat.le_of_ble_eq_true rfl⟩ rfl rfl (ci := 11) (q0 := 0) rfl rfl rfl hl.1 (Nat.le_of_ble_eq_true rfl) dX12_sayTrace_165 ⟨Nat.le_of_ble_eq_true rfl, Nat.le_of_ble_eq_true rfl⟩ (fun t_484 H locs hw hP hD hS => ?_)
          obtain ⟨hok, f_486, p_487⟩ := hw
          have hfr : frA [(0, 30), (0, 91)] [] [11, 12, 13, 14] [] t t_484 := frA_tr hfr f_486 rfl
          have h_488 : (t_484.1 0 91).toInt = (t_476.1 0 91).toInt := ti_eq (f_486.1 0 91 rfl)
          have h_489 : (t_484.1 0 5).toInt = (t_476.1 0 5).toInt := ti_eq (f_486.1 0 5 rfl)
          have h_490 : (t_484.1 0 6).toInt = (t_476.1 0 6).toInt := ti_eq (f_486.1 0 6 rfl)
          have h_491 : (0 : Int) ≤ (t_484.1 0 30).toInt ∧ (t_484.1 0 30).toInt ≤ 120 := hok.1 0 30
          replace p_487 : (t_484.1 0 30).toInt = (t_476.1 0 30).toInt + 1 := p_487
          refine lv_aload_n C.1 C.2.1 dX12_sayTrace_168 rfl (lv_at hl 0 rfl) ?_
          refine lv_aload_n C.1 C.2.1 dX12_sayTrace_169 rfl (lv_at hl 0 rfl) ?_
          refine k_get (v := .long (t_484.2.1 0 8)) C hP 0 rfl rfl inlX12 8 (by decide) m_29_23 rfl dX12_sayTrace_170 ?_
          refine lv_ldc2 (v := 1000000000) C.1 C.2.1 C.2.2.2.1 (C.2.2.2.2.1 _ m_63_19) dX12_sayTrace_173 ?_
          obtain ⟨v_492, e_493⟩ : ∃ z, z = ((t_484.2.1 0 8) : Int64) - ((t_484.2.1 0 8) : Int64) / (1000000000 : Int64) * (1000000000 : Int64) := ⟨_, rfl⟩
          have h_494 : -1000000000 < v_492.toInt ∧ v_492.toInt < 1000000000 := by rw [e_493]; exact tl_remb (k := 1000000000) (by decide) (by decide)
          refine k_lrem (v := v_492) C (by decide) e_493.symm dX12_sayTrace_176 ?_
          refine lv_bipush (v := 9) C.1 C.2.1 dX12_sayTrace_177 (by decide) ?_
          have h_495 : (9 : Int32).toInt = 9 := rfl
          refine g_Vv (As := [.long v_492, .int 9]) (rest := []) C hP hD hS hA (T_X12_sayDigits l D K Z Y ad t_484 hok (v_492) 9 (show (1 : Int) ≤ (9 : Int32).toInt ∧ (9 : Int32).toInt ≤ 10 from ⟨by decide, by decide⟩) (show (t_484.1 0 30).toInt + (9 : Int32).toInt ≤ 120 from by omega) (show 1 ≤ (9 : Int32).toInt from by omega) (show (9 : Int32).toInt ≤ 10 from by omega)) hE hZ (uwV m_42_9 m_42_10 m_42_11 m_1_5 m_42_12) (hdV 2 (by decide +kernel) rfl) ⟨Nat.le_of_ble_eq_true rfl, Nat.le_of_ble_eq_true rfl⟩ rfl rfl (ci := 11) (q0 := 0) rfl rfl rfl hl.1 (Nat.le_of_ble_eq_true rfl) dX12_sayTrace_179 ⟨Nat.le_of_ble_eq_true rfl, Nat.le_of_ble_eq_true rfl⟩ (fun t_496 H locs hw hP hD hS => ?_)
          obtain ⟨hok, f_498, p_499⟩ := hw
          have hfr : frA [(0, 30), (0, 91)] [] [11, 12, 13, 14] [] t t_496 := frA_tr hfr f_498 rfl
          have h_500 : (t_496.1 0 91).toInt = (t_484.1 0 91).toInt := ti_eq (f_498.1 0 91 rfl)
          have h_501 : (t_496.1 0 5).toInt = (t_484.1 0 5).toInt := ti_eq (f_498.1 0 5 rfl)
          have h_502 : (t_496.1 0 6).toInt = (t_484.1 0 6).toInt := ti_eq (f_498.1 0 6 rfl)
          have h_503 : (0 : Int) ≤ (t_496.1 0 30).toInt ∧ (t_496.1 0 30).toInt ≤ 120 := hok.1 0 30
          replace p_499 : (t_496.1 0 30).toInt = (t_484.1 0 30).toInt + (9 : Int32).toInt := p_499
          refine lv_aload_n C.1 C.2.1 dX12_sayTrace_182 rfl (lv_at hl 0 rfl) ?_
          refine lv_bipush (v := 18) C.1 C.2.1 dX12_sayTrace_183 (by decide) ?_
          refine g_Vv (As := [.int 18]) (rest := []) C hP hD hS hA (T_X12_print l D K Z Y ad t_496 hok 18 (show (17 : Int) ≤ (18 : Int32).toInt ∧ (18 : Int32).toInt ≤ 19 from ⟨by decide, by decide⟩)) hE hZ (uwV m_42_21 m_42_22 m_42_23 m_1_5 m_43_0) (hdV 1 (by decide +kernel) rfl) ⟨Nat.le_of_ble_eq_true rfl, Nat.le_of_ble_eq_true rfl⟩ rfl rfl (ci := 11) (q0 := 0) rfl rfl rfl hl.1 (Nat.le_of_ble_eq_true rfl) dX12_sayTrace_185 ⟨Nat.le_of_ble_eq_true rfl, Nat.le_of_ble_eq_true rfl⟩ (fun t_504 H locs hw hP hD hS => ?_)
          obtain ⟨hok, f_506⟩ := hw
          have hfr : frA [(0, 30), (0, 91)] [] [11, 12, 13, 14] [] t t_504 := frA_tr hfr f_506 rfl
          have h_507 : (t_504.1 0 91).toInt = (t_496.1 0 91).toInt := ti_eq (f_506.1 0 91 rfl)
          have h_508 : (t_504.1 0 5).toInt = (t_496.1 0 5).toInt := ti_eq (f_506.1 0 5 rfl)
          have h_509 : (t_504.1 0 6).toInt = (t_496.1 0 6).toInt := ti_eq (f_506.1 0 6 rfl)
          have h_510 : (0 : Int) ≤ (t_504.1 0 30).toInt ∧ (t_504.1 0 30).toInt ≤ 120 := hok.1 0 30
          exact g_vret C hr hlocks hP hD hS t_504 rfl ⟨hok, hfr⟩ (Nat.le_of_ble_eq_true rfl) (Nat.le_of_ble_eq_true rfl) dX12_sayTrace_188
      · replace c_439 : (t_431.1 0 6).toInt = 0 := i_eq c_439
        refine lv_bipush (v := 76) C.1 C.2.1 dX12_sayTrace_139 (by decide) ?_
        refine lv_goto (tgt := 159) C.1 C.2.1 dX12_sayTrace_141 (by decide) ?_
        refine g_Vv (As := [.int 76]) (rest := []) C hP hD hS hA (T_X12_say l D K Z Y ad t_431 hok 76 (show (t_431.1 0 30).toInt ≤ 119 from by omega)) hE hZ (uwV m_42_13 m_42_14 m_42_15 m_1_5 m_42_16) (hdV 1 (by decide +kernel) rfl) ⟨Nat.le_of_ble_eq_true rfl, Nat.le_of_ble_eq_true rfl⟩ rfl rfl (ci := 11) (q0 := 0) rfl rfl rfl hl.1 (Nat.le_of_ble_eq_true rfl) dX12_sayTrace_159 ⟨Nat.le_of_ble_eq_true rfl, Nat.le_of_ble_eq_true rfl⟩ (fun t_511 H locs hw hP hD hS => ?_)
        obtain ⟨hok, f_513, p_514⟩ := hw
        have hfr : frA [(0, 30), (0, 91)] [] [11, 12, 13, 14] [] t t_511 := frA_tr hfr f_513 rfl
        have h_515 : (t_511.1 0 91).toInt = (t_431.1 0 91).toInt := ti_eq (f_513.1 0 91 rfl)
        have h_516 : (t_511.1 0 5).toInt = (t_431.1 0 5).toInt := ti_eq (f_513.1 0 5 rfl)
        have h_517 : (t_511.1 0 6).toInt = (t_431.1 0 6).toInt := ti_eq (f_513.1 0 6 rfl)
        have h_518 : (0 : Int) ≤ (t_511.1 0 30).toInt ∧ (t_511.1 0 30).toInt ≤ 120 := hok.1 0 30
        replace p_514 : (t_511.1 0 30).toInt = (t_431.1 0 30).toInt + 1 := p_514
        refine lv_aload_n C.1 C.2.1 dX12_sayTrace_162 rfl (lv_at hl 0 rfl) ?_
        refine lv_bipush (v := 32) C.1 C.2.1 dX12_sayTrace_163 (by decide) ?_
        refine g_Vv (As := [.int 32]) (rest := []) C hP hD hS hA (T_X12_say l D K Z Y ad t_511 hok 32 (show (t_511.1 0 30).toInt ≤ 119 from by omega)) hE hZ (uwV m_42_13 m_42_14 m_42_15 m_1_5 m_42_16) (hdV 1 (by decide +kernel) rfl) ⟨Nat.le_of_ble_eq_true rfl, Nat.le_of_ble_eq_true rfl⟩ rfl rfl (ci := 11) (q0 := 0) rfl rfl rfl hl.1 (Nat.le_of_ble_eq_true rfl) dX12_sayTrace_165 ⟨Nat.le_of_ble_eq_true rfl, Nat.le_of_ble_eq_true rfl⟩ (fun t_519 H locs hw hP hD hS => ?_)
        obtain ⟨hok, f_521, p_522⟩ := hw
        have hfr : frA [(0, 30), (0, 91)] [] [11, 12, 13, 14] [] t t_519 := frA_tr hfr f_521 rfl
        have h_523 : (t_519.1 0 91).toInt = (t_511.1 0 91).toInt := ti_eq (f_521.1 0 91 rfl)
        have h_524 : (t_519.1 0 5).toInt = (t_511.1 0 5).toInt := ti_eq (f_521.1 0 5 rfl)
        have h_525 : (t_519.1 0 6).toInt = (t_511.1 0 6).toInt := ti_eq (f_521.1 0 6 rfl)
        have h_526 : (0 : Int) ≤ (t_519.1 0 30).toInt ∧ (t_519.1 0 30).toInt ≤ 120 := hok.1 0 30
        replace p_522 : (t_519.1 0 30).toInt = (t_511.1 0 30).toInt + 1 := p_522
        refine lv_aload_n C.1 C.2.1 dX12_sayTrace_168 rfl (lv_at hl 0 rfl) ?_
        refine lv_aload_n C.1 C.2.1 dX12_sayTrace_169 rfl (lv_at hl 0 rfl) ?_
        refine k_get (v := .long (t_519.2.1 0 8)) C hP 0 rfl rfl inlX12 8 (by decide) m_29_23 rfl dX12_sayTrace_170 ?_
        refine lv_ldc2 (v := 1000000000) C.1 C.2.1 C.2.2.2.1 (C.2.2.2.2.1 _ m_63_19) dX12_sayTrace_173 ?_
        obtain ⟨v_527, e_528⟩ : ∃ z, z = ((t_519.2.1 0 8) : Int64) - ((t_519.2.1 0 8) : Int64) / (1000000000 : Int64) * (1000000000 : Int64) := ⟨_, rfl⟩
        have h_529 : -1000000000 < v_527.toInt ∧ v_527.toInt < 1000000000 := by rw [e_528]; exact tl_remb (k := 1000000000) (by decide) (by decide)
        refine k_lrem (v := v_527) C (by decide) e_528.symm dX12_sayTrace_176 ?_
        refine lv_bipush (v := 9) C.1 C.2.1 dX12_sayTrace_177 (by decide) ?_
        have h_530 : (9 : Int32).toInt = 9 := rfl
        refine g_Vv (As := [.long v_527, .int 9]) (rest := []) C hP hD hS hA (T_X12_sayDigits l D K Z Y ad t_519 hok (v_527) 9 (show (1 : Int) ≤ (9 : Int32).toInt ∧ (9 : Int32).toInt ≤ 10 from ⟨by decide, by decide⟩) (show (t_519.1 0 30).toInt + (9 : Int32).toInt ≤ 120 from by omega) (show 1 ≤ (9 : Int32).toInt from by omega) (show (9 : Int32).toInt ≤ 10 from by omega)) hE hZ (uwV m_42_9 m_42_10 m_42_11 m_1_5 m_42_12) (hdV 2 (by decide +kernel) rfl) ⟨Nat.le_of_ble_eq_true rfl, Nat.le_of_ble_eq_true rfl⟩ rfl rfl (ci := 11) (q0 := 0) rfl rfl rfl hl.1 (Nat.le_of_ble_eq_true rfl) dX12_sayTrace_179 ⟨Nat.le_of_ble_eq_true rfl, Nat.le_of_ble_eq_true rfl⟩ (fun t_531 H locs hw hP hD hS => ?_)
        obtain ⟨hok, f_533, p_534⟩ := hw
        have hfr : frA [(0, 30), (0, 91)] [] [11, 12, 13, 14] [] t t_531 := frA_tr hfr f_533 rfl
        have h_535 : (t_531.1 0 91).toInt = (t_519.1 0 91).toInt := ti_eq (f_533.1 0 91 rfl)
        have h_536 : (t_531.1 0 5).toInt = (t_519.1 0 5).toInt := ti_eq (f_533.1 0 5 rfl)
        have h_537 : (t_531.1 0 6).toInt = (t_519.1 0 6).toInt := ti_eq (f_533.1 0 6 rfl)
        have h_538 : (0 : Int) ≤ (t_531.1 0 30).toInt ∧ (t_531.1 0 30).toInt ≤ 120 := hok.1 0 30
        replace p_534 : (t_531.1 0 30).toInt = (t_519.1 0 30).toInt + (9 : Int32).toInt := p_534
        refine lv_aload_n C.1 C.2.1 dX12_sayTrace_182 rfl (lv_at hl 0 rfl) ?_
        refine lv_bipush (v := 18) C.1 C.2.1 dX12_sayTrace_183 (by decide) ?_
        refine g_Vv (As := [.int 18]) (rest := []) C hP hD hS hA (T_X12_print l D K Z Y ad t_531 hok 18 (show (17 : Int) ≤ (18 : Int32).toInt ∧ (18 : Int32).toInt ≤ 19 from ⟨by decide, by decide⟩)) hE hZ (uwV m_42_21 m_42_22 m_42_23 m_1_5 m_43_0) (hdV 1 (by decide +kernel) rfl) ⟨Nat.le_of_ble_eq_true rfl, Nat.le_of_ble_eq_true rfl⟩ rfl rfl (ci := 11) (q0 := 0) rfl rfl rfl hl.1 (Nat.le_of_ble_eq_true rfl) dX12_sayTrace_185 ⟨Nat.le_of_ble_eq_true rfl, Nat.le_of_ble_eq_true rfl⟩ (fun t_539 H locs hw hP hD hS => ?_)
        obtain ⟨hok, f_541⟩ := hw
        have hfr : frA [(0, 30), (0, 91)] [] [11, 12, 13, 14] [] t t_539 := frA_tr hfr f_541 rfl
        have h_542 : (t_539.1 0 91).toInt = (t_531.1 0 91).toInt := ti_eq (f_541.1 0 91 rfl)
        have h_543 : (t_539.1 0 5).toInt = (t_531.1 0 5).toInt := ti_eq (f_541.1 0 5 rfl)
        have h_544 : (t_539.1 0 6).toInt = (t_531.1 0 6).toInt := ti_eq (f_541.1 0 6 rfl)
        have h_545 : (0 : Int) ≤ (t_539.1 0 30).toInt ∧ (t_539.1 0 30).toInt ≤ 120 := hok.1 0 30
        exact g_vret C hr hlocks hP hD hS t_539 rfl ⟨hok, hfr⟩ (Nat.le_of_ble_eq_true rfl) (Nat.le_of_ble_eq_true rfl) dX12_sayTrace_188
    · replace c_423 : ¬ (t_416.1 0 5).toInt = 0 := i_ne c_423
      refine lv_bipush (v := 49) C.1 C.2.1 dX12_sayTrace_115 (by decide) ?_
      refine lv_goto (tgt := 122) C.1 C.2.1 dX12_sayTrace_117 (by decide) ?_
      refine g_Vv (As := [.int 49]) (rest := []) C hP hD hS hA (T_X12_say l D K Z Y ad t_416 hok 49 (show (t_416.1 0 30).toInt ≤ 119 from by omega)) hE hZ (uwV m_42_13 m_42_14 m_42_15 m_1_5 m_42_16) (hdV 1 (by decide +kernel) rfl) ⟨Nat.le_of_ble_eq_true rfl, Nat.le_of_ble_eq_true rfl⟩ rfl rfl (ci := 11) (q0 := 0) rfl rfl rfl hl.1 (Nat.le_of_ble_eq_true rfl) dX12_sayTrace_122 ⟨Nat.le_of_ble_eq_true rfl, Nat.le_of_ble_eq_true rfl⟩ (fun t_546 H locs hw hP hD hS => ?_)
      obtain ⟨hok, f_548, p_549⟩ := hw
      have hfr : frA [(0, 30), (0, 91)] [] [11, 12, 13, 14] [] t t_546 := frA_tr hfr f_548 rfl
      have h_550 : (t_546.1 0 91).toInt = (t_416.1 0 91).toInt := ti_eq (f_548.1 0 91 rfl)
      have h_551 : (t_546.1 0 5).toInt = (t_416.1 0 5).toInt := ti_eq (f_548.1 0 5 rfl)
      have h_552 : (0 : Int) ≤ (t_546.1 0 30).toInt ∧ (t_546.1 0 30).toInt ≤ 120 := hok.1 0 30
      replace p_549 : (t_546.1 0 30).toInt = (t_416.1 0 30).toInt + 1 := p_549
      refine lv_aload_n C.1 C.2.1 dX12_sayTrace_125 rfl (lv_at hl 0 rfl) ?_
      refine lv_bipush (v := 32) C.1 C.2.1 dX12_sayTrace_126 (by decide) ?_
      refine g_Vv (As := [.int 32]) (rest := []) C hP hD hS hA (T_X12_say l D K Z Y ad t_546 hok 32 (show (t_546.1 0 30).toInt ≤ 119 from by omega)) hE hZ (uwV m_42_13 m_42_14 m_42_15 m_1_5 m_42_16) (hdV 1 (by decide +kernel) rfl) ⟨Nat.le_of_ble_eq_true rfl, Nat.le_of_ble_eq_true rfl⟩ rfl rfl (ci := 11) (q0 := 0) rfl rfl rfl hl.1 (Nat.le_of_ble_eq_true rfl) dX12_sayTrace_128 ⟨Nat.le_of_ble_eq_true rfl, Nat.le_of_ble_eq_true rfl⟩ (fun t_553 H locs hw hP hD hS => ?_)
      obtain ⟨hok, f_555, p_556⟩ := hw
      have hfr : frA [(0, 30), (0, 91)] [] [11, 12, 13, 14] [] t t_553 := frA_tr hfr f_555 rfl
      have h_557 : (t_553.1 0 91).toInt = (t_546.1 0 91).toInt := ti_eq (f_555.1 0 91 rfl)
      have h_558 : (t_553.1 0 5).toInt = (t_546.1 0 5).toInt := ti_eq (f_555.1 0 5 rfl)
      have h_559 : (0 : Int) ≤ (t_553.1 0 30).toInt ∧ (t_553.1 0 30).toInt ≤ 120 := hok.1 0 30
      replace p_556 : (t_553.1 0 30).toInt = (t_546.1 0 30).toInt + 1 := p_556
      refine lv_aload_n C.1 C.2.1 dX12_sayTrace_131 rfl (lv_at hl 0 rfl) ?_
      refine lv_aload_n C.1 C.2.1 dX12_sayTrace_132 rfl (lv_at hl 0 rfl) ?_
      have h_560 : (0 : Int) ≤ (t_553.1 0 6).toInt ∧ (t_553.1 0 6).toInt ≤ 7 := hok.1 0 6
      refine k_get (v := .int (t_553.1 0 6)) C hP 0 rfl rfl inlX12 6 (by decide) m_7_7 rfl dX12_sayTrace_133 ?_
      refine lv_if_ne (tgt := 144) C.1 C.2.1 dX12_sayTrace_136 (by decide) (fun c_561 => ?_) (fun c_561 => ?_)
      · replace c_561 : ¬ (t_553.1 0 6).toInt = 0 := i_ne c_561
        refine lv_aload_n C.1 C.2.1 dX12_sayTrace_144 rfl (lv_at hl 0 rfl) ?_
        refine k_get (v := .int (t_553.1 0 6)) C hP 0 rfl rfl inlX12 6 (by decide) m_7_7 rfl dX12_sayTrace_145 ?_
        refine lv_iconst (v := 1) C.1 C.2.1 dX12_sayTrace_148 (by decide) ?_
        refine lv_icmp_ne (tgt := 157) C.1 C.2.1 dX12_sayTrace_149 (by decide) (fun c_562 => ?_) (fun c_562 => ?_)
        · replace c_562 : ¬ (t_553.1 0 6).toInt = 1 := i_ne c_562
          refine lv_bipush (v := 71) C.1 C.2.1 dX12_sayTrace_157 (by decide) ?_
          refine g_Vv (As := [.int 71]) (rest := []) C hP hD hS hA (T_X12_say l D K Z Y ad t_553 hok 71 (show (t_553.1 0 30).toInt ≤ 119 from by omega)) hE hZ (uwV m_42_13 m_42_14 m_42_15 m_1_5 m_42_16) (hdV 1 (by decide +kernel) rfl) ⟨Nat.le_of_ble_eq_true rfl, Nat.le_of_ble_eq_true rfl⟩ rfl rfl (ci := 11) (q0 := 0) rfl rfl rfl hl.1 (Nat.le_of_ble_eq_true rfl) dX12_sayTrace_159 ⟨Nat.le_of_ble_eq_true rfl, Nat.le_of_ble_eq_true rfl⟩ (fun t_563 H locs hw hP hD hS => ?_)
          obtain ⟨hok, f_565, p_566⟩ := hw
          have hfr : frA [(0, 30), (0, 91)] [] [11, 12, 13, 14] [] t t_563 := frA_tr hfr f_565 rfl
          have h_567 : (t_563.1 0 91).toInt = (t_553.1 0 91).toInt := ti_eq (f_565.1 0 91 rfl)
          have h_568 : (t_563.1 0 5).toInt = (t_553.1 0 5).toInt := ti_eq (f_565.1 0 5 rfl)
          have h_569 : (t_563.1 0 6).toInt = (t_553.1 0 6).toInt := ti_eq (f_565.1 0 6 rfl)
          have h_570 : (0 : Int) ≤ (t_563.1 0 30).toInt ∧ (t_563.1 0 30).toInt ≤ 120 := hok.1 0 30
          replace p_566 : (t_563.1 0 30).toInt = (t_553.1 0 30).toInt + 1 := p_566
          refine lv_aload_n C.1 C.2.1 dX12_sayTrace_162 rfl (lv_at hl 0 rfl) ?_
          refine lv_bipush (v := 32) C.1 C.2.1 dX12_sayTrace_163 (by decide) ?_
          refine g_Vv (As := [.int 32]) (rest := []) C hP hD hS hA (T_X12_say l D K Z Y ad t_563 hok 32 (show (t_563.1 0 30).toInt ≤ 119 from by omega)) hE hZ (uwV m_42_13 m_42_14 m_42_15 m_1_5 m_42_16) (hdV 1 (by decide +kernel) rfl) ⟨Nat.le_of_ble_eq_true rfl, Nat.le_of_ble_eq_true rfl⟩ rfl rfl (ci := 11) (q0 := 0) rfl rfl rfl hl.1 (Nat.le_of_ble_eq_true rfl) dX12_sayTrace_165 ⟨Nat.le_of_ble_eq_true rfl, Nat.le_of_ble_eq_true rfl⟩ (fun t_571 H locs hw hP hD hS => ?_)
          obtain ⟨hok, f_573, p_574⟩ := hw
          have hfr : frA [(0, 30), (0, 91)] [] [11, 12, 13, 14] [] t t_571 := frA_tr hfr f_573 rfl
          have h_575 : (t_571.1 0 91).toInt = (t_563.1 0 91).toInt := ti_eq (f_573.1 0 91 rfl)
          have h_576 : (t_571.1 0 5).toInt = (t_563.1 0 5).toInt := ti_eq (f_573.1 0 5 rfl)
          have h_577 : (t_571.1 0 6).toInt = (t_563.1 0 6).toInt := ti_eq (f_573.1 0 6 rfl)
          have h_578 : (0 : Int) ≤ (t_571.1 0 30).toInt ∧ (t_571.1 0 30).toInt ≤ 120 := hok.1 0 30
          replace p_574 : (t_571.1 0 30).toInt = (t_563.1 0 30).toInt + 1 := p_574
          refine lv_aload_n C.1 C.2.1 dX12_sayTrace_168 rfl (lv_at hl 0 rfl) ?_
          refine lv_aload_n C.1 C.2.1 dX12_sayTrace_169 rfl (lv_at hl 0 rfl) ?_
          refine k_get (v := .long (t_571.2.1 0 8)) C hP 0 rfl rfl inlX12 8 (by decide) m_29_23 rfl dX12_sayTrace_170 ?_
          refine lv_ldc2 (v := 1000000000) C.1 C.2.1 C.2.2.2.1 (C.2.2.2.2.1 _ m_63_19) dX12_sayTrace_173 ?_
          obtain ⟨v_579, e_580⟩ : ∃ z, z = ((t_571.2.1 0 8) : Int64) - ((t_571.2.1 0 8) : Int64) / (1000000000 : Int64) * (1000000000 : Int64) := ⟨_, rfl⟩
          have h_581 : -1000000000 < v_579.toInt ∧ v_579.toInt < 1000000000 := by rw [e_580]; exact tl_remb (k := 1000000000) (by decide) (by decide)
          refine k_lrem (v := v_579) C (by decide) e_580.symm dX12_sayTrace_176 ?_
          refine lv_bipush (v := 9) C.1 C.2.1 dX12_sayTrace_177 (by decide) ?_
          have h_582 : (9 : Int32).toInt = 9 := rfl
          refine g_Vv (As := [.long v_579, .int 9]) (rest := []) C hP hD hS hA (T_X12_sayDigits l D K Z Y ad t_571 hok (v_579) 9 (show (1 : Int) ≤ (9 : Int32).toInt ∧ (9 : Int32).toInt ≤ 10 from ⟨by decide, by decide⟩) (show (t_571.1 0 30).toInt + (9 : Int32).toInt ≤ 120 from by omega) (show 1 ≤ (9 : Int32).toInt from by omega) (show (9 : Int32).toInt ≤ 10 from by omega)) hE hZ (uwV m_42_9 m_42_10 m_42_11 m_1_5 m_42_12) (hdV 2 (by decide +kernel) rfl) ⟨Nat.le_of_ble_eq_true rfl, Nat.le_of_ble_eq_true rfl⟩ rfl rfl (ci := 11) (q0 := 0) rfl rfl rfl hl.1 (Nat.le_of_ble_eq_true rfl) dX12_sayTrace_179 ⟨Nat.le_of_ble_eq_true rfl, Nat.le_of_ble_eq_true rfl⟩ (fun t_583 H locs hw hP hD hS => ?_)
          obtain ⟨hok, f_585, p_586⟩ := hw
          have hfr : frA [(0, 30), (0, 91)] [] [11, 12, 13, 14] [] t t_583 := frA_tr hfr f_585 rfl
          have h_587 : (t_583.1 0 91).toInt = (t_571.1 0 91).toInt := ti_eq (f_585.1 0 91 rfl)
          have h_588 : (t_583.1 0 5).toInt = (t_571.1 0 5).toInt := ti_eq (f_585.1 0 5 rfl)
          have h_589 : (t_583.1 0 6).toInt = (t_571.1 0 6).toInt := ti_eq (f_585.1 0 6 rfl)
          have h_590 : (0 : Int) ≤ (t_583.1 0 30).toInt ∧ (t_583.1 0 30).toInt ≤ 120 := hok.1 0 30
          replace p_586 : (t_583.1 0 30).toInt = (t_571.1 0 30).toInt + (9 : Int32).toInt := p_586
          refine lv_aload_n C.1 C.2.1 dX12_sayTrace_182 rfl (lv_at hl 0 rfl) ?_
          refine lv_bipush (v := 18) C.1 C.2.1 dX12_sayTrace_183 (by decide) ?_
          refine g_Vv (As := [.int 18]) (rest := []) C hP hD hS hA (T_X12_print l D K Z Y ad t_583 hok 18 (show (17 : Int) ≤ (18 : Int32).toInt ∧ (18 : Int32).toInt ≤ 19 from ⟨by decide, by decide⟩)) hE hZ (uwV m_42_21 m_42_22 m_42_23 m_1_5 m_43_0) (hdV 1 (by decide +kernel) rfl) ⟨Nat.le_of_ble_eq_true rfl, Nat.le_of_ble_eq_true rfl⟩ rfl rfl (ci := 11) (q0 := 0) rfl rfl rfl hl.1 (Nat.le_of_ble_eq_true rfl) dX12_sayTrace_185 ⟨Nat.le_of_ble_eq_true rfl, Nat.le_of_ble_eq_true rfl⟩ (fun t_591 H locs hw hP hD hS => ?_)
          obtain ⟨hok, f_593⟩ := hw
          have hfr : frA [(0, 30), (0, 91)] [] [11, 12, 13, 14] [] t t_591 := frA_tr hfr f_593 rfl
          have h_594 : (t_591.1 0 91).toInt = (t_583.1 0 91).toInt := ti_eq (f_593.1 0 91 rfl)
          have h_595 : (t_591.1 0 5).toInt = (t_583.1 0 5).toInt := ti_eq (f_593.1 0 5 rfl)
          have h_596 : (t_591.1 0 6).toInt = (t_583.1 0 6).toInt := ti_eq (f_593.1 0 6 rfl)
          have h_597 : (0 : Int) ≤ (t_591.1 0 30).toInt ∧ (t_591.1 0 30).toInt ≤ 120 := hok.1 0 30
          exact g_vret C hr hlocks hP hD hS t_591 rfl ⟨hok, hfr⟩ (Nat.le_of_ble_eq_true rfl) (Nat.le_of_ble_eq_true rfl) dX12_sayTrace_188
        · replace c_562 : (t_553.1 0 6).toInt = 1 := i_eq c_562
          refine lv_bipush (v := 69) C.1 C.2.1 dX12_sayTrace_152 (by decide) ?_
          refine lv_goto (tgt := 159) C.1 C.2.1 dX12_sayTrace_154 (by decide) ?_
          refine g_Vv (As := [.int 69]) (rest := []) C hP hD hS hA (T_X12_say l D K Z Y ad t_553 hok 69 (show (t_553.1 0 30).toInt ≤ 119 from by omega)) hE hZ (uwV m_42_13 m_42_14 m_42_15 m_1_5 m_42_16) (hdV 1 (by decide +kernel) rfl) ⟨Nat.le_of_ble_eq_true rfl, Nat.le_of_ble_eq_true rfl⟩ rfl rfl (ci := 11) (q0 := 0) rfl rfl rfl hl.1 (Nat.le_of_ble_eq_true rfl) dX12_sayTrace_159 ⟨Nat.le_of_ble_eq_true rfl, Nat.le_of_ble_eq_true rfl⟩ (fun t_598 H locs hw hP hD hS => ?_)
          obtain ⟨hok, f_600, p_601⟩ := hw
          have hfr : frA [(0, 30), (0, 91)] [] [11, 12, 13, 14] [] t t_598 := frA_tr hfr f_600 rfl
          have h_602 : (t_598.1 0 91).toInt = (t_553.1 0 91).toInt := ti_eq (f_600.1 0 91 rfl)
          have h_603 : (t_598.1 0 5).toInt = (t_553.1 0 5).toInt := ti_eq (f_600.1 0 5 rfl)
          have h_604 : (t_598.1 0 6).toInt = (t_553.1 0 6).toInt := ti_eq (f_600.1 0 6 rfl)
          have h_605 : (0 : Int) ≤ (t_598.1 0 30).toInt ∧ (t_598.1 0 30).toInt ≤ 120 := hok.1 0 30
          replace p_601 : (t_598.1 0 30).toInt = (t_553.1 0 30).toInt + 1 := p_601
          refine lv_aload_n C.1 C.2.1 dX12_sayTrace_162 rfl (lv_at hl 0 rfl) ?_
          refine lv_bipush (v := 32) C.1 C.2.1 dX12_sayTrace_163 (by decide) ?_
          refine g_Vv (As := [.int 32]) (rest := []) C hP hD hS hA (T_X12_say l D K Z Y ad t_598 hok 32 (show (t_598.1 0 30).toInt ≤ 119 from by omega)) hE hZ (uwV m_42_13 m_42_14 m_42_15 m_1_5 m_42_16) (hdV 1 (by decide +kernel) rfl) ⟨Nat.le_of_ble_eq_true rfl, Nat.le_of_ble_eq_true rfl⟩ rfl rfl (ci := 11) (q0 := 0) rfl rfl rfl hl.1 (Nat.le_of_ble_eq_true rfl) dX12_sayTrace_165 ⟨Nat.le_of_ble_eq_true rfl, Nat.le_of_ble_eq_true rfl⟩ (fun t_606 H locs hw hP hD hS => ?_)
          obtain ⟨hok, f_608, p_609⟩ := hw
          have hfr : frA [(0, 30), (0, 91)] [] [11, 12, 13, 14] [] t t_606 := frA_tr hfr f_608 rfl
          have h_610 : (t_606.1 0 91).toInt = (t_598.1 0 91).toInt := ti_eq (f_608.1 0 91 rfl)
          have h_611 : (t_606.1 0 5).toInt = (t_598.1 0 5).toInt := ti_eq (f_608.1 0 5 rfl)
          have h_612 : (t_606.1 0 6).toInt = (t_598.1 0 6).toInt := ti_eq (f_608.1 0 6 rfl)
          have h_613 : (0 : Int) ≤ (t_606.1 0 30).toInt ∧ (t_606.1 0 30).toInt ≤ 120 := hok.1 0 30
          replace p_609 : (t_606.1 0 30).toInt = (t_598.1 0 30).toInt + 1 := p_609
          refine lv_aload_n C.1 C.2.1 dX12_sayTrace_168 rfl (lv_at hl 0 rfl) ?_
          refine lv_aload_n C.1 C.2.1 dX12_sayTrace_169 rfl (lv_at hl 0 rfl) ?_
          refine k_get (v := .long (t_606.2.1 0 8)) C hP 0 rfl rfl inlX12 8 (by decide) m_29_23 rfl dX12_sayTrace_170 ?_
          refine lv_ldc2 (v := 1000000000) C.1 C.2.1 C.2.2.2.1 (C.2.2.2.2.1 _ m_63_19) dX12_sayTrace_173 ?_
          obtain ⟨v_614, e_615⟩ : ∃ z, z = ((t_606.2.1 0 8) : Int64) - ((t_606.2.1 0 8) : Int64) / (1000000000 : Int64) * (1000000000 : Int64) := ⟨_, rfl⟩
          have h_616 : -1000000000 < v_614.toInt ∧ v_614.toInt < 1000000000 := by rw [e_615]; exact tl_remb (k := 1000000000) (by decide) (by decide)
          refine k_lrem (v := v_614) C (by decide) e_615.symm dX12_sayTrace_176 ?_
          refine lv_bipush (v := 9) C.1 C.2.1 dX12_sayTrace_177 (by decide) ?_
          have h_617 : (9 : Int32).toInt = 9 := rfl
          refine g_Vv (As := [.long v_614, .int 9]) (rest := []) C hP hD hS hA (T_X12_sayDigits l D K Z Y ad t_606 hok (v_614) 9 (show (1 : Int) ≤ (9 : Int32).toInt ∧ (9 : Int32).toInt ≤ 10 from ⟨by decide, by decide⟩) (show (t_606.1 0 30).toInt + (9 : Int32).toInt ≤ 120 from by omega) (show 1 ≤ (9 : Int32).toInt from by omega) (show (9 : Int32).toInt ≤ 10 from by omega)) hE hZ (uwV m_42_9 m_42_10 m_42_11 m_1_5 m_42_12) (hdV 2 (by decide +kernel) rfl) ⟨Nat.le_of_ble_eq_true rfl, Nat.le_of_ble_eq_true rfl⟩ rfl rfl (ci := 11) (q0 := 0) rfl rfl rfl hl.1 (Nat.le_of_ble_eq_true rfl) dX12_sayTrace_179 ⟨Nat.le_of_ble_eq_true rfl, Nat.le_of_ble_eq_true rfl⟩ (fun t_618 H locs hw hP hD hS => ?_)
          obtain ⟨hok, f_620, p_621⟩ := hw
          have hfr : frA [(0, 30), (0, 91)] [] [11, 12, 13, 14] [] t t_618 := frA_tr hfr f_620 rfl
          have h_622 : (t_618.1 0 91).toInt = (t_606.1 0 91).toInt := ti_eq (f_620.1 0 91 rfl)
          have h_623 : (t_618.1 0 5).toInt = (t_606.1 0 5).toInt := ti_eq (f_620.1 0 5 rfl)
          have h_624 : (t_618.1 0 6).toInt = (t_606.1 0 6).toInt := ti_eq (f_620.1 0 6 rfl)
          have h_625 : (0 : Int) ≤ (t_618.1 0 30).toInt ∧ (t_618.1 0 30).toInt ≤ 120 := hok.1 0 30
          replace p_621 : (t_618.1 0 30).toInt = (t_606.1 0 30).toInt + (9 : Int32).toInt := p_621
          refine lv_aload_n C.1 C.2.1 dX12_sayTrace_182 rfl (lv_at hl 0 rfl) ?_
          refine lv_bipush (v := 18) C.1 C.2.1 dX12_sayTrace_183 (by decide) ?_
          refine g_Vv (As := [.int 18]) (rest := []) C hP hD hS hA (T_X12_print l D K Z Y ad t_618 hok 18 (show (17 : Int) ≤ (18 : Int32).toInt ∧ (18 : Int32).toInt ≤ 19 from ⟨by decide, by decide⟩)) hE hZ (uwV m_42_21 m_42_22 m_42_23 m_1_5 m_43_0) (hdV 1 (by decide +kernel) rfl) ⟨Nat.le_of_ble_eq_true rfl, Nat.le_of_ble_eq_true rfl⟩ rfl rfl (ci := 11) (q0 := 0) rfl rfl rfl hl.1 (Nat.le_of_ble_eq_true rfl) dX12_sayTrace_185 ⟨Nat.le_of_ble_eq_true rfl, Nat.le_of_ble_eq_true rfl⟩ (fun t_626 H locs hw hP hD hS => ?_)
          obtain ⟨hok, f_628⟩ := hw
          have hfr : frA [(0, 30), (0, 91)] [] [11, 12, 13, 14] [] t t_626 := frA_tr hfr f_628 rfl
          have h_629 : (t_626.1 0 91).toInt = (t_618.1 0 91).toInt := ti_eq (f_628.1 0 91 rfl)
          have h_630 : (t_626.1 0 5).toInt = (t_618.1 0 5).toInt := ti_eq (f_628.1 0 5 rfl)
          have h_631 : (t_626.1 0 6).toInt = (t_618.1 0 6).toInt := ti_eq (f_628.1 0 6 rfl)
          have h_632 : (0 : Int) ≤ (t_626.1 0 30).toInt ∧ (t_626.1 0 30).toInt ≤ 120 := hok.1 0 30
          exact g_vret C hr hlocks hP hD hS t_626 rfl ⟨hok, hfr⟩ (Nat.le_of_ble_eq_true rfl) (Nat.le_of_ble_eq_true rfl) dX12_sayTrace_188
      · replace c_561 : (t_553.1 0 6).toInt = 0 := i_eq c_561
        refine lv_bipush (v := 76) C.1 C.2.1 dX12_sayTrace_139 (by decide) ?_
        refine lv_goto (tgt := 159) C.1 C.2.1 dX12_sayTrace_141 (by decide) ?_
        refine g_Vv (As := [.int 76]) (rest := []) C hP hD hS hA (T_X12_say l D K Z Y ad t_553 hok 76 (show (t_553.1 0 30).toInt ≤ 119 from by omega)) hE hZ (uwV m_42_13 m_42_14 m_42_15 m_1_5 m_42_16) (hdV 1 (by decide +kernel) rfl) ⟨Nat.le_of_ble_eq_true rfl, Nat.le_of_ble_eq_true rfl⟩ rfl rfl (ci := 11) (q0 := 0) rfl rfl rfl hl.1 (Nat.le_of_ble_eq_true rfl) dX12_sayTrace_159 ⟨Nat.le_of_ble_eq_true rfl, Nat.le_of_ble_eq_true rfl⟩ (fun t_633 H locs hw hP hD hS => ?_)
        obtain ⟨hok, f_635, p_636⟩ := hw
        have hfr : frA [(0, 30), (0, 91)] [] [11, 12, 13, 14] [] t t_633 := frA_tr hfr f_635 rfl
        have h_637 : (t_633.1 0 91).toInt = (t_553.1 0 91).toInt := ti_eq (f_635.1 0 91 rfl)
        have h_638 : (t_633.1 0 5).toInt = (t_553.1 0 5).toInt := ti_eq (f_635.1 0 5 rfl)
        have h_639 : (t_633.1 0 6).toInt = (t_553.1 0 6).toInt := ti_eq (f_635.1 0 6 rfl)
        have h_640 : (0 : Int) ≤ (t_633.1 0 30).toInt ∧ (t_633.1 0 30).toInt ≤ 120 := hok.1 0 30
        replace p_636 : (t_633.1 0 30).toInt = (t_553.1 0 30).toInt + 1 := p_636
        refine lv_aload_n C.1 C.2.1 dX12_sayTrace_162 rfl (lv_at hl 0 rfl) ?_
        refine lv_bipush (v := 32) C.1 C.2.1 dX12_sayTrace_163 (by decide) ?_
        refine g_Vv (As := [.int 32]) (rest := []) C hP hD hS hA (T_X12_say l D K Z Y ad t_633 hok 32 (show (t_633.1 0 30).toInt ≤ 119 from by omega)) hE hZ (uwV m_42_13 m_42_14 m_42_15 m_1_5 m_42_16) (hdV 1 (by decide +kernel) rfl) ⟨Nat.le_of_ble_eq_true rfl, Nat.le_of_ble_eq_true rfl⟩ rfl rfl (ci := 11) (q0 := 0) rfl rfl rfl hl.1 (Nat.le_of_ble_eq_true rfl) dX12_sayTrace_165 ⟨Nat.le_of_ble_eq_true rfl, Nat.le_of_ble_eq_true rfl⟩ (fun t_641 H locs hw hP hD hS => ?_)
        obtain ⟨hok, f_643, p_644⟩ := hw
        have hfr : frA [(0, 30), (0, 91)] [] [11, 12, 13, 14] [] t t_641 := frA_tr hfr f_643 rfl
        have h_645 : (t_641.1 0 91).toInt = (t_633.1 0 91).toInt := ti_eq (f_643.1 0 91 rfl)
        have h_646 : (t_641.1 0 5).toInt = (t_633.1 0 5).toInt := ti_eq (f_643.1 0 5 rfl)
        have h_647 : (t_641.1 0 6).toInt = (t_633.1 0 6).toInt := ti_eq (f_643.1 0 6 rfl)
        have h_648 : (0 : Int) ≤ (t_641.1 0 30).toInt ∧ (t_641.1 0 30).toInt ≤ 120 := hok.1 0 30
        replace p_644 : (t_641.1 0 30).toInt = (t_633.1 0 30).toInt + 1 := p_644
        refine lv_aload_n C.1 C.2.1 dX12_sayTrace_168 rfl (lv_at hl 0 rfl) ?_
        refine lv_aload_n C.1 C.2.1 dX12_sayTrace_169 rfl (lv_at hl 0 rfl) ?_
        refine k_get (v := .long (t_641.2.1 0 8)) C hP 0 rfl rfl inlX12 8 (by decide) m_29_23 rfl dX12_sayTrace_170 ?_
        refine lv_ldc2 (v := 1000000000) C.1 C.2.1 C.2.2.2.1 (C.2.2.2.2.1 _ m_63_19) dX12_sayTrace_173 ?_
        obtain ⟨v_649, e_650⟩ : ∃ z, z = ((t_641.2.1 0 8) : Int64) - ((t_641.2.1 0 8) : Int64) / (1000000000 : Int64) * (1000000000 : Int64) := ⟨_, rfl⟩
        have h_651 : -1000000000 < v_649.toInt ∧ v_649.toInt < 1000000000 := by rw [e_650]; exact tl_remb (k := 1000000000) (by decide) (by decide)
        refine k_lrem (v := v_649) C (by decide) e_650.symm dX12_sayTrace_176 ?_
        refine lv_bipush (v := 9) C.1 C.2.1 dX12_sayTrace_177 (by decide) ?_
        have h_652 : (9 : Int32).toInt = 9 := rfl
        refine g_Vv (As := [.long v_649, .int 9]) (rest := []) C hP hD hS hA (T_X12_sayDigits l D K Z Y ad t_641 hok (v_649) 9 (show (1 : Int) ≤ (9 : Int32).toInt ∧ (9 : Int32).toInt ≤ 10 from ⟨by decide, by decide⟩) (show (t_641.1 0 30).toInt + (9 : Int32).toInt ≤ 120 from by omega) (show 1 ≤ (9 : Int32).toInt from by omega) (show (9 : Int32).toInt ≤ 10 from by omega)) hE hZ (uwV m_42_9 m_42_10 m_42_11 m_1_5 m_42_12) (hdV 2 (by decide +kernel) rfl) ⟨Nat.le_of_ble_eq_true rfl, Nat.le_of_ble_eq_true rfl⟩ rfl rfl (ci := 11) (q0 := 0) rfl rfl rfl hl.1 (Nat.le_of_ble_eq_true rfl) dX12_sayTrace_179 ⟨Nat.le_of_ble_eq_true rfl, Nat.le_of_ble_eq_true rfl⟩ (fun t_653 H locs hw hP hD hS => ?_)
        obtain ⟨hok, f_655, p_656⟩ := hw
        have hfr : frA [(0, 30), (0, 91)] [] [11, 12, 13, 14] [] t t_653 := frA_tr hfr f_655 rfl
        have h_657 : (t_653.1 0 91).toInt = (t_641.1 0 91).toInt := ti_eq (f_655.1 0 91 rfl)
        have h_658 : (t_653.1 0 5).toInt = (t_641.1 0 5).toInt := ti_eq (f_655.1 0 5 rfl)
        have h_659 : (t_653.1 0 6).toInt = (t_641.1 0 6).toInt := ti_eq (f_655.1 0 6 rfl)
        have h_660 : (0 : Int) ≤ (t_653.1 0 30).toInt ∧ (t_653.1 0 30).toInt ≤ 120 := hok.1 0 30
        replace p_656 : (t_653.1 0 30).toInt = (t_641.1 0 30).toInt + (9 : Int32).toInt := p_656
        refine lv_aload_n C.1 C.2.1 dX12_sayTrace_182 rfl (lv_at hl 0 rfl) ?_
        refine lv_bipush (v := 18) C.1 C.2.1 dX12_sayTrace_183 (by decide) ?_
        refine g_Vv (As := [.int 18]) (rest := []) C hP hD hS hA (T_X12_print l D K Z Y ad t_653 hok 18 (show (17 : Int) ≤ (18 : Int32).toInt ∧ (18 : Int32).toInt ≤ 19 from ⟨by decide, by decide⟩)) hE hZ (uwV m_42_21 m_42_22 m_42_23 m_1_5 m_43_0) (hdV 1 (by decide +kernel) rfl) ⟨Nat.le_of_ble_eq_true rfl, Nat.le_of_ble_eq_true rfl⟩ rfl rfl (ci := 11) (q0 := 0) rfl rfl rfl hl.1 (Nat.le_of_ble_eq_true rfl) dX12_sayTrace_185 ⟨Nat.le_of_ble_eq_true rfl, Nat.le_of_ble_eq_true rfl⟩ (fun t_661 H locs hw hP hD hS => ?_)
        obtain ⟨hok, f_663⟩ := hw
        have hfr : frA [(0, 30), (0, 91)] [] [11, 12, 13, 14] [] t t_661 := frA_tr hfr f_663 rfl
        have h_664 : (t_661.1 0 91).toInt = (t_653.1 0 91).toInt := ti_eq (f_663.1 0 91 rfl)
        have h_665 : (t_661.1 0 5).toInt = (t_653.1 0 5).toInt := ti_eq (f_663.1 0 5 rfl)
        have h_666 : (t_661.1 0 6).toInt = (t_653.1 0 6).toInt := ti_eq (f_663.1 0 6 rfl)
        have h_667 : (0 : Int) ≤ (t_661.1 0 30).toInt ∧ (t_661.1 0 30).toInt ≤ 120 := hok.1 0 30
        exact g_vret C hr hlocks hP hD hS t_661 rfl ⟨hok, hfr⟩ (Nat.le_of_ble_eq_true rfl) (Nat.le_of_ble_eq_true rfl) dX12_sayTrace_188

theorem dX12_go_0 : decode cX12_go 0 = .ok (.aload_n 0, 1) := by decide +kernel
theorem dX12_go_1 : decode cX12_go 1 = .ok (.iconst 0, 1) := by decide +kernel
theorem dX12_go_12 : decode cX12_go 12 = .ok (.iconst 0, 1) := by decide +kernel
theorem dX12_go_13 : decode cX12_go 13 = .ok (.ireturn, 1) := by decide +kernel
theorem dX12_go_14 : decode cX12_go 14 = .ok (.aload_n 0, 1) := by decide +kernel
theorem dX12_go_15 : decode cX12_go 15 = .ok (.invokevirtual 639, 3) := by decide +kernel
theorem dX12_go_18 : decode cX12_go 18 = .ok (.aload_n 0, 1) := by decide +kernel
theorem dX12_go_19 : decode cX12_go 19 = .ok (.iconst 0, 1) := by decide +kernel
theorem dX12_go_2 : decode cX12_go 2 = .ok (.putfield 155, 3) := by decide +kernel
theorem dX12_go_20 : decode cX12_go 20 = .ok (.putfield 633, 3) := by decide +kernel
theorem dX12_go_23 : decode cX12_go 23 = .ok (.iconst 0, 1) := by decide +kernel
theorem dX12_go_24 : decode cX12_go 24 = .ok (.istore_n 1, 1) := by decide +kernel
theorem dX12_go_25 : decode cX12_go 25 = .ok (.iload_n 1, 1) := by decide +kernel
theorem dX12_go_26 : decode cX12_go 26 = .ok (.bipush 16, 2) := by decide +kernel
theorem dX12_go_28 : decode cX12_go 28 = .ok (.if_icmp .ge 19, 3) := by decide +kernel
theorem dX12_go_31 : decode cX12_go 31 = .ok (.aload_n 0, 1) := by decide +kernel
theorem dX12_go_32 : decode cX12_go 32 = .ok (.iload_n 1, 1) := by decide +kernel
theorem dX12_go_33 : decode cX12_go 33 = .ok (.aload_n 0, 1) := by decide +kernel
theorem dX12_go_34 : decode cX12_go 34 = .ok (.iload_n 1, 1) := by decide +kernel
theorem dX12_go_35 : decode cX12_go 35 = .ok (.invokevirtual 254, 3) := by decide +kernel
theorem dX12_go_38 : decode cX12_go 38 = .ok (.invokevirtual 214, 3) := by decide +kernel
theorem dX12_go_41 : decode cX12_go 41 = .ok (.iinc 1 1, 3) := by decide +kernel
theorem dX12_go_44 : decode cX12_go 44 = .ok (.goto (-19), 3) := by decide +kernel
theorem dX12_go_47 : decode cX12_go 47 = .ok (.aload_n 0, 1) := by decide +kernel
theorem dX12_go_48 : decode cX12_go 48 = .ok (.dup, 1) := by decide +kernel
theorem dX12_go_49 : decode cX12_go 49 = .ok (.getfield 229, 3) := by decide +kernel
theorem dX12_go_5 : decode cX12_go 5 = .ok (.aload_n 0, 1) := by decide +kernel
theorem dX12_go_52 : decode cX12_go 52 = .ok (.iconst 1, 1) := by decide +kernel
theorem dX12_go_53 : decode cX12_go 53 = .ok (.iadd, 1) := by decide +kernel
theorem dX12_go_54 : decode cX12_go 54 = .ok (.putfield 229, 3) := by decide +kernel
theorem dX12_go_57 : decode cX12_go 57 = .ok (.aload_n 0, 1) := by decide +kernel
theorem dX12_go_58 : decode cX12_go 58 = .ok (.iconst 0, 1) := by decide +kernel
theorem dX12_go_59 : decode cX12_go 59 = .ok (.invokevirtual 664, 3) := by decide +kernel
theorem dX12_go_6 : decode cX12_go 6 = .ok (.invokevirtual 232, 3) := by decide +kernel
theorem dX12_go_62 : decode cX12_go 62 = .ok (.iconst 1, 1) := by decide +kernel
theorem dX12_go_63 : decode cX12_go 63 = .ok (.ireturn, 1) := by decide +kernel
theorem dX12_go_9 : decode cX12_go 9 = .ok (.ifCond .ne 5, 3) := by decide +kernel
set_option maxHeartbeats 4000000 in
set_option maxRecDepth 100000 in
theorem T_X12_go (l : Launch) (D : va_G) (K : Nat → ClassId) (Z Y : Nat → Nat) (ad : Nat → Nat) (t : tSt) (hok : okM t)  : tMet l yX12_go cX12_go 2 (some .boolean) (rmD 8 0 0) D K Z Y [.ref (ad 0)] (WM K ad t) (QI D K (fun (r : Int32) (u : tSt) => okM u ∧ frA [(0, 0), (0, 5), (0, 6), (0, 7), (0, 9), (0, 10), (0, 11), (0, 12), (0, 35), (0, 42), (0, 91)] [(0, 8)] [2, 3, 5] [4] t u ∧ (0 : Int) ≤ r.toInt ∧ r.toInt ≤ 1) (fun (u : tSt) => WM K ad u)) 0 0 := by
  refine t_met RX12 ⟨rfl, by decide +kernel⟩ (Nat.le_of_ble_eq_true rfl) ?_
  intro p e s m below meth c A ls C hE hZ hr hlocks hA hP hD hS hl
  have hl : lv_has ls 2 [(0, .ref (ad 0))] := hl
  have hokt := hok
  have hfr : frA [(0, 0), (0, 5), (0, 6), (0, 7), (0, 9), (0, 10), (0, 11), (0, 12), (0, 35), (0, 42), (0, 91)] [(0, 8)] [2, 3, 5] [4] t t := frA_rf
  have h_1 : (0 : Int) ≤ (t.1 0 12).toInt ∧ (t.1 0 12).toInt ≤ 1 := hok.1 0 12
  have h_2 : (0 : Int) ≤ (t.1 0 35).toInt ∧ (t.1 0 35).toInt ≤ 1700 := hok.1 0 35
  have h_3 : (0 : Int) ≤ (t.1 0 36).toInt ∧ (t.1 0 36).toInt ≤ 1700 := hok.1 0 36
  have L_25 : ∀ (fuel_25 : Nat) (t1 : tSt) (w25_1 : Int32) (H : Heap) (locs : List Loc) (ls : Array Slot), okM t1 → frA [(0, 0), (0, 5), (0, 6), (0, 7), (0, 9), (0, 10), (0, 11), (0, 12), (0, 35), (0, 42), (0, 91)] [(0, 8)] [2, 3, 5] [4] t t1 → (0 : Int) ≤ w25_1.toInt ∧ w25_1.toInt ≤ 16 → (0 : Int) ≤ (t1.1 0 0).toInt ∧ (t1.1 0 0).toInt ≤ 0 → (0 : Int) ≤ (t1.1 0 42).toInt ∧ (t1.1 0 42).toInt ≤ 0 → ((t1.1 0 35).toInt < (t1.1 0 36).toInt) → (16 : Int) - w25_1.toInt < (fuel_25 : Int) → va_P D vwCl (WM K ad t1) H → va_D A (WM K ad t1) → va_S A s.heap H locs → lv_has ls 2 [(0, .ref (ad 0)), (1, .int w25_1)] → W p l e (rmD 8 0 0) s m [.ref (ad 0)].toArray below meth c H locs 0 0 (MQ below (QI D K (fun (r : Int32) (u : tSt) => okM u ∧ frA [(0, 0), (0, 5), (0, 6), (0, 7), (0, 9), (0, 10), (0, 11), (0, 12), (0, 35), (0, 42), (0, 91)] [(0, 8)] [2, 3, 5] [4] t u ∧ (0 : Int) ≤ r.toInt ∧ r.toInt ≤ 1) (fun (u : tSt) => WM K ad u) A) [.ref (ad 0)].toArray s 0 0 A) (F0 m 25 ls []) := by
    intro fuel_25
    induction fuel_25 with
    | zero =>
      intro t1 w25_1 H locs ls hok hfr hw25_1 hf25_0 hf25_42 hi25_0 hm25_25 hP hD hS hl
      have h_4 : (t1.1 0 36).toInt = (t.1 0 36).toInt := ti_eq (hfr.1 0 36 rfl)
      have h_5 : (0 : Int) ≤ (t1.1 0 12).toInt ∧ (t1.1 0 12).toInt ≤ 1 := hok.1 0 12
      have h_6 : (0 : Int) ≤ (t1.1 0 35).toInt ∧ (t1.1 0 35).toInt ≤ 1700 := hok.1 0 35
      have h_7 : (0 : Int) ≤ (t1.1 0 36).toInt ∧ (t1.1 0 36).toInt ≤ 1700 := hok.1 0 36
      exact absurd hm25_25 (by omega)
    | succ fuel_25 ih_25 =>
      intro t1 w25_1 H locs ls hok hfr hw25_1 hf25_0 hf25_42 hi25_0 hm25_25 hP hD hS hl
      have hm25_25 : (16 : Int) - w25_1.toInt < (fuel_25 : Int) + 1 := by omega
      have h_8 : (t1.1 0 36).toInt = (t.1 0 36).toInt := ti_eq (hfr.1 0 36 rfl)
      have h_9 : (0 : Int) ≤ (t1.1 0 12).toInt ∧ (t1.1 0 12).toInt ≤ 1 := hok.1 0 12
      have h_10 : (0 : Int) ≤ (t1.1 0 35).toInt ∧ (t1.1 0 35).toInt ≤ 1700 := hok.1 0 35
      have h_11 : (0 : Int) ≤ (t1.1 0 36).toInt ∧ (t1.1 0 36).toInt ≤ 1700 := hok.1 0 36
      refine lv_iload_n C.1 C.2.1 dX12_go_25 rfl (lv_at hl 1 rfl) ?_
      refine lv_bipush (v := 16) C.1 C.2.1 dX12_go_26 (by decide) ?_
      refine lv_icmp_ge (tgt := 47) C.1 C.2.1 dX12_go_28 (by decide) (fun c_12 => ?_) (fun c_12 => ?_)
      · replace c_12 : 16 ≤ w25_1.toInt := i_le c_12
        refine lv_aload_n C.1 C.2.1 dX12_go_47 rfl (lv_at hl 0 rfl) ?_
        refine lv_dup C.1 C.2.1 dX12_go_48 rfl ?_
        refine k_get (v := .int (t1.1 0 35)) C hP 0 rfl rfl inlX12 35 (by decide) m_44_17 rfl dX12_go_49 ?_
        refine lv_iconst (v := 1) C.1 C.2.1 dX12_go_52 (by decide) ?_
        obtain ⟨v_13, e_14⟩ : ∃ z, z = ((t1.1 0 35) : Int32) + (1 : Int32) := ⟨_, rfl⟩
        have h_15 : v_13.toInt = (t1.1 0 35).toInt + 1 := by rw [e_14]; exact ti_iadd (by show (_ : Int) ≤ (t1.1 0 35).toInt + 1; omega) (by show (t1.1 0 35).toInt + 1 < (_ : Int); omega)
        refine k_iadd (v := v_13) C e_14.symm dX12_go_53 ?_
        refine k_put (ws' := WM K ad (uI t1 0 35 v_13)) (v := .int v_13) C hP hD hS 0 rfl rfl inlX12 tyX12_ok nmX12 35 (by decide) m_44_17 rfl rfl rfl rfl rfl dX12_go_54 (fun H locs hP hD hS => ?_)
        have hok : okM (uI t1 0 35 v_13) := ⟨okI_I hok.1 0 35 v_13 (show (0 : Int) ≤ (v_13 : Int32).toInt ∧ (v_13 : Int32).toInt ≤ 1700 from ⟨by omega, by omega⟩), hok.2.1, hok.2.2.1, hok.2.2.2.1, hok.2.2.2.2.1, ((show (v_13 : Int32).toInt ≤ (t1.1 0 36).toInt from by omega)), hok.2.2.2.2.2.2.1, trivial⟩
        have hfr : frA [(0, 0), (0, 5), (0, 6), (0, 7), (0, 9), (0, 10), (0, 11), (0, 12), (0, 35), (0, 42), (0, 91)] [(0, 8)] [2, 3, 5] [4] t (uI t1 0 35 v_13) := frA_I hfr 0 35 _ rfl
        refine lv_aload_n C.1 C.2.1 dX12_go_57 rfl (lv_at hl 0 rfl) ?_
        refine lv_iconst (v := 0) C.1 C.2.1 dX12_go_58 (by decide) ?_
        refine g_Vv (As := [.int 0]) (rest := []) C hP hD hS hA (T_X12_startAt l D K Z Y ad (uI t1 0 35 v_13) hok 0 (show (-3999 : Int) ≤ (0 : Int32).toInt ∧ (0 : Int32).toInt ≤ 3999 from ⟨by decide, by decide⟩)) hE hZ (uwV m_40_1 m_40_2 m_40_3 m_1_5 m_40_4) (hdV 1 (by decide +kernel) rfl) ⟨Nat.le_of_ble_eq_true rfl, Nat.le_of_ble_eq_true rfl⟩ rfl rfl (ci := 11) (q0 := 0) rfl rfl rfl hl.1 (Nat.le_of_ble_eq_true rfl) dX12_go_59 ⟨Nat.le_of_ble_eq_true rfl, Nat.le_of_ble_eq_true rfl⟩ (fun t_16 H locs hw hP hD hS => ?_)
        obtain ⟨hok, f_18⟩ := hw
        have hfr : frA [(0, 0), (0, 5), (0, 6), (0, 7), (0, 9), (0, 10), (0, 11), (0, 12), (0, 35), (0, 42), (0, 91)] [(0, 8)] [2, 3, 5] [4] t t_16 := frA_tr hfr f_18 rfl
        have h_19 : (t_16.1 0 0).toInt = (t1.1 0 0).toInt := ti_eq (f_18.1 0 0 rfl)
        have h_20 : (t_16.1 0 42).toInt = (t1.1 0 42).toInt := ti_eq (f_18.1 0 42 rfl)
        have h_21 : (t_16.1 0 35).toInt = v_13.toInt := ti_eq (f_18.1 0 35 rfl)
        have h_22 : (t_16.2.1 0 8).toInt = (t1.2.1 0 8).toInt := tl_eq (f_18.2.1 0 8 rfl)
        have h_23 : (t_16.1 0 12).toInt = (t1.1 0 12).toInt := ti_eq (f_18.1 0 12 rfl)
        have h_24 : (t_16.1 0 36).toInt = (t1.1 0 36).toInt := ti_eq (f_18.1 0 36 rfl)
        have h_25 : (0 : Int) ≤ (t_16.1 0 12).toInt ∧ (t_16.1 0 12).toInt ≤ 1 := hok.1 0 12
        have h_26 : (0 : Int) ≤ (t_16.1 0 36).toInt ∧ (t_16.1 0 36).toInt ≤ 1700 := hok.1 0 36
        refine lv_iconst (v := 1) C.1 C.2.1 dX12_go_62 (by decide) ?_
        exact g_iret C hr hlocks hP hD hS (by decide) t_16 rfl ⟨hok, hfr, by decide, by decide⟩ (Nat.le_of_ble_eq_true rfl) (Nat.le_of_ble_eq_true rfl) dX12_go_63
      · replace c_12 : w25_1.toInt < 16 := i_nle c_12
        refine lv_aload_n C.1 C.2.1 dX12_go_31 rfl (lv_at hl 0 rfl) ?_
        refine lv_iload_n C.1 C.2.1 dX12_go_32 rfl (lv_at hl 1 rfl) ?_
        refine lv_aload_n C.1 C.2.1 dX12_go_33 rfl (lv_at hl 0 rfl) ?_
        refine lv_iload_n C.1 C.2.1 dX12_go_34 rfl (lv_at hl 1 rfl) ?_
        refine g_Vi (As := [.int w25_1]) (rest := [.int w25_1, .ref (ad 0)]) C hP hD hS hA (T_X12_cardWord l D K Z Y ad t1 hok (w25_1) (show (0 : Int) ≤ (w25_1 : Int32).toInt ∧ (w25_1 : Int32).toInt ≤ 15 from ⟨by omega, by omega⟩)) hE hZ (uwV m_60_20 m_60_21 m_60_22 m_1_5 m_60_23) (hdV 1 (by decide +kernel) rfl) ⟨Nat.le_of_ble_eq_true rfl, Nat.le_of_ble_eq_true rfl⟩ rfl rfl (ci := 11) (q0 := 0) rfl rfl rfl hl.1 (Nat.le_of_ble_eq_true rfl) dX12_go_35 ⟨Nat.le_of_ble_eq_true rfl, Nat.le_of_ble_eq_true rfl⟩ (fun r_28 t_27 H locs hw hP hD hS => ?_)
        obtain ⟨h_30, h_31⟩ := hw
        refine g_Vv (As := [.int w25_1, .int r_28]) (rest := []) C hP hD hS hA (T_X12_setMemory l D K Z Y ad t1 hok (w25_1) (show (-3999 : Int) ≤ (w25_1 : Int32).toInt ∧ (w25_1 : Int32).toInt ≤ 3999 from ⟨by omega, by omega⟩) (r_28)) hE hZ (uwV m_38_15 m_38_16 m_38_17 m_1_5 m_38_18) (hdV 2 (by decide +kernel) rfl) ⟨Nat.le_of_ble_eq_true rfl, Nat.le_of_ble_eq_true rfl⟩ rfl rfl (ci := 11) (q0 := 0) rfl rfl rfl hl.1 (Nat.le_of_ble_eq_true rfl) dX12_go_38 ⟨Nat.le_of_ble_eq_true rfl, Nat.le_of_ble_eq_true rfl⟩ (fun t_32 H locs hw hP hD hS => ?_)
        obtain ⟨hok, f_34⟩ := hw
        have hfr : frA [(0, 0), (0, 5), (0, 6), (0, 7), (0, 9), (0, 10), (0, 11), (0, 12), (0, 35), (0, 42), (0, 91)] [(0, 8)] [2, 3, 5] [4] t t_32 := frA_tr hfr f_34 rfl
        have h_35 : (t_32.1 0 0).toInt = (t1.1 0 0).toInt := ti_eq (f_34.1 0 0 rfl)
        have h_36 : (t_32.1 0 42).toInt = (t1.1 0 42).toInt := ti_eq (f_34.1 0 42 rfl)
        have h_37 : (t_32.2.1 0 8).toInt = (t1.2.1 0 8).toInt := tl_eq (f_34.2.1 0 8 rfl)
        have h_38 : (t_32.1 0 12).toInt = (t1.1 0 12).toInt := ti_eq (f_34.1 0 12 rfl)
        have h_39 : (t_32.1 0 35).toInt = (t1.1 0 35).toInt := ti_eq (f_34.1 0 35 rfl)
        have h_40 : (t_32.1 0 36).toInt = (t1.1 0 36).toInt := ti_eq (f_34.1 0 36 rfl)
        have h_41 : (0 : Int) ≤ (t_32.1 0 12).toInt ∧ (t_32.1 0 12).toInt ≤ 1 := hok.1 0 12
        have h_42 : (0 : Int) ≤ (t_32.1 0 35).toInt ∧ (t_32.1 0 35).toInt ≤ 1700 := hok.1 0 35
        have h_43 : (0 : Int) ≤ (t_32.1 0 36).toInt ∧ (t_32.1 0 36).toInt ≤ 1700 := hok.1 0 36
        obtain ⟨v_44, e_45⟩ : ∃ z, z = w25_1 + 1 := ⟨_, rfl⟩
        have h_46 : v_44.toInt = w25_1.toInt + 1 := by rw [e_45]; exact ti_iadd (by show (_ : Int) ≤ w25_1.toInt + 1; omega) (by show w25_1.toInt + 1 < (_ : Int); omega)
        refine lv_iinc (v := v_44) (lv' := [(1, .int v_44), (0, .ref (ad 0))]) C.1 C.2.1 dX12_go_41 hl (k := 1) rfl e_45.symm (by decide) rfl (fun ls hl => ?_)
        have hl : lv_has ls 2 [(0, .ref (ad 0)), (1, .int v_44)] := lv_sub hl [1, 0] rfl
        refine lv_goto (tgt := 25) C.1 C.2.1 dX12_go_44 (by decide) ?_
        exact ih_25 t_32 v_44 _ _ _ hok hfr ⟨by omega, by omega⟩ (show (0 : Int) ≤ ((t_32.1 0 0) : Int32).toInt ∧ ((t_32.1 0 0) : Int32).toInt ≤ 0 from ⟨by omega, by omega⟩) (show (0 : Int) ≤ ((t_32.1 0 42) : Int32).toInt ∧ ((t_32.1 0 42) : Int32).toInt ≤ 0 from ⟨by omega, by omega⟩) (show (t_32.1 0 35).toInt < (t_32.1 0 36).toInt from by omega) (show (16 : Int) - v_44.toInt < (fuel_25 : Int) from by omega) hP hD hS (lv_sub hl [0, 1] rfl)
  refine lv_aload_n C.1 C.2.1 dX12_go_0 rfl (lv_at hl 0 rfl) ?_
  refine lv_iconst (v := 0) C.1 C.2.1 dX12_go_1 (by decide) ?_
  refine k_put (ws' := WM K ad (uI t 0 0 0)) (v := .int 0) C hP hD hS 0 rfl rfl inlX12 tyX12_ok nmX12 0 (by decide) m_9_18 rfl rfl rfl rfl rfl dX12_go_2 (fun H locs hP hD hS => ?_)
  have hok : okM (uI t 0 0 0) := ⟨okI_I hok.1 0 0 0 (show (0 : Int) ≤ (0 : Int32).toInt ∧ (0 : Int32).toInt ≤ 1 from ⟨by decide, by decide⟩), hok.2.1, hok.2.2.1, hok.2.2.2.1, hok.2.2.2.2.1, hok.2.2.2.2.2.1, hok.2.2.2.2.2.2.1, trivial⟩
  have hfr : frA [(0, 0), (0, 5), (0, 6), (0, 7), (0, 9), (0, 10), (0, 11), (0, 12), (0, 35), (0, 42), (0, 91)] [(0, 8)] [2, 3, 5] [4] t (uI t 0 0 0) := frA_I hfr 0 0 _ rfl
  have hcc : (t.1 0 35).toInt ≤ (t.1 0 36).toInt := hok.2.2.2.2.2.1
  refine lv_aload_n C.1 C.2.1 dX12_go_5 rfl (lv_at hl 0 rfl) ?_
  refine g_Vi (As := []) (rest := []) C hP hD hS hA (T_X12_cardsLeft l D K Z Y ad (uI t 0 0 0) hok ) hE hZ (uwV m_44_12 m_44_13 m_44_14 m_1_5 m_44_15) (hdV 0 (by decide +kernel) rfl) ⟨Nat.le_of_ble_eq_true rfl, Nat.le_of_ble_eq_true rfl⟩ rfl rfl (ci := 11) (q0 := 0) rfl rfl rfl hl.1 (Nat.le_of_ble_eq_true rfl) dX12_go_6 ⟨Nat.le_of_ble_eq_true rfl, Nat.le_of_ble_eq_true rfl⟩ (fun r_48 t_47 H locs hw hP hD hS => ?_)
  obtain ⟨h_50, h_51, p_52⟩ := hw
  replace p_52 : r_48.toInt = (t.1 0 36).toInt - (t.1 0 35).toInt := p_52
  refine lv_if_ne (tgt := 14) C.1 C.2.1 dX12_go_9 (by decide) (fun c_53 => ?_) (fun c_53 => ?_)
  · replace c_53 : ¬ r_48.toInt = 0 := i_ne c_53
    refine lv_aload_n C.1 C.2.1 dX12_go_14 rfl (lv_at hl 0 rfl) ?_
    refine g_Vv (As := []) (rest := []) C hP hD hS hA (T_X12_clearMachine l D K Z Y ad (uI t 0 0 0) hok ) hE hZ (uwV m_29_17 m_29_18 m_29_19 m_1_5 m_29_20) (hdV 0 (by decide +kernel) rfl) ⟨Nat.le_of_ble_eq_true rfl, Nat.le_of_ble_eq_true rfl⟩ rfl rfl (ci := 11) (q0 := 0) rfl rfl rfl hl.1 (Nat.le_of_ble_eq_true rfl) dX12_go_15 ⟨Nat.le_of_ble_eq_true rfl, Nat.le_of_ble_eq_true rfl⟩ (fun t_54 H locs hw hP hD hS => ?_)
    obtain ⟨hok, f_56, p_57, p_58, p_59⟩ := hw
    have hfr : frA [(0, 0), (0, 5), (0, 6), (0, 7), (0, 9), (0, 10), (0, 11), (0, 12), (0, 35), (0, 42), (0, 91)] [(0, 8)] [2, 3, 5] [4] t t_54 := frA_tr hfr f_56 rfl
    have h_60 : (t_54.1 0 0).toInt = 0 := by rw [show (t_54.1 0 0) = (0 : Int32) from f_56.1 0 0 rfl]; rfl
    have h_61 : (t_54.1 0 35).toInt = (t.1 0 35).toInt := ti_eq (f_56.1 0 35 rfl)
    have h_62 : (t_54.1 0 36).toInt = (t.1 0 36).toInt := ti_eq (f_56.1 0 36 rfl)
    have h_63 : (0 : Int) ≤ (t_54.1 0 12).toInt ∧ (t_54.1 0 12).toInt ≤ 1 := hok.1 0 12
    have h_64 : (0 : Int) ≤ (t_54.1 0 35).toInt ∧ (t_54.1 0 35).toInt ≤ 1700 := hok.1 0 35
    have h_65 : (0 : Int) ≤ (t_54.1 0 36).toInt ∧ (t_54.1 0 36).toInt ≤ 1700 := hok.1 0 36
    replace p_57 : (t_54.2.1 0 8).toInt = 0 := p_57
    replace p_58 : (t_54.1 0 12).toInt = 0 := p_58
    replace p_59 : bz (t_54.2.2.2 4) 20 := p_59
    refine lv_aload_n C.1 C.2.1 dX12_go_18 rfl (lv_at hl 0 rfl) ?_
    refine lv_iconst (v := 0) C.1 C.2.1 dX12_go_19 (by decide) ?_
    refine k_put (ws' := WM K ad (uI t_54 0 42 0)) (v := .int 0) C hP hD hS 0 rfl rfl inlX12 tyX12_ok nmX12 42 (by decide) m_29_16 rfl (by decide) (by decide) rfl rfl dX12_go_20 (fun H locs hP hD hS => ?_)
    have hok : okM (uI t_54 0 42 0) := ⟨okI_I hok.1 0 42 0 (show (0 : Int) ≤ (0 : Int32).toInt ∧ (0 : Int32).toInt ≤ 1 from ⟨by decide, by decide⟩), hok.2.1, hok.2.2.1, hok.2.2.2.1, hok.2.2.2.2.1, hok.2.2.2.2.2.1, hok.2.2.2.2.2.2.1, trivial⟩
    have hfr : frA [(0, 0), (0, 5), (0, 6), (0, 7), (0, 9), (0, 10), (0, 11), (0, 12), (0, 35), (0, 42), (0, 91)] [(0, 8)] [2, 3, 5] [4] t (uI t_54 0 42 0) := frA_I hfr 0 42 _ rfl
    refine lv_iconst (v := 0) C.1 C.2.1 dX12_go_23 (by decide) ?_
    refine lv_istore_n (lv' := [(1, .int 0), (0, .ref (ad 0))]) C.1 C.2.1 dX12_go_24 rfl hl (by decide) rfl (fun ls hl => ?_)
    have hl : lv_has ls 2 [(0, .ref (ad 0)), (1, .int 0)] := lv_sub hl [1, 0] rfl
    exact L_25 17 (uI t_54 0 42 0) 0 _ _ _ hok hfr ⟨by decide, by decide⟩ (show (0 : Int) ≤ ((t_54.1 0 0) : Int32).toInt ∧ ((t_54.1 0 0) : Int32).toInt ≤ 0 from ⟨by omega, by omega⟩) (show (0 : Int) ≤ (0 : Int32).toInt ∧ (0 : Int32).toInt ≤ 0 from ⟨by decide, by decide⟩) (show (t_54.1 0 35).toInt < (t_54.1 0 36).toInt from by omega) (show (16 : Int) - 0 < ((17 : Nat) : Int) from by omega) hP hD hS (lv_sub hl [0, 1] rfl)
  · replace c_53 : r_48.toInt = 0 := i_eq c_53
    refine lv_iconst (v := 0) C.1 C.2.1 dX12_go_12 (by decide) ?_
    exact g_iret C hr hlocks hP hD hS (by decide) (uI t 0 0 0) rfl ⟨hok, hfr, by decide, by decide⟩ (Nat.le_of_ble_eq_true rfl) (Nat.le_of_ble_eq_true rfl) dX12_go_13

theorem dX12_listing_0 : decode cX12_listing 0 = .ok (.aload_n 0, 1) := by decide +kernel
theorem dX12_listing_1 : decode cX12_listing 1 = .ok (.iconst 0, 1) := by decide +kernel
theorem dX12_listing_100 : decode cX12_listing 100 = .ok (.goto 5, 3) := by decide +kernel
theorem dX12_listing_103 : decode cX12_listing 103 = .ok (.iload_n 1, 1) := by decide +kernel
theorem dX12_listing_104 : decode cX12_listing 104 = .ok (.i2l, 1) := by decide +kernel
theorem dX12_listing_105 : decode cX12_listing 105 = .ok (.iconst 4, 1) := by decide +kernel
theorem dX12_listing_106 : decode cX12_listing 106 = .ok (.invokevirtual 199, 3) := by decide +kernel
theorem dX12_listing_109 : decode cX12_listing 109 = .ok (.aload_n 0, 1) := by decide +kernel
theorem dX12_listing_110 : decode cX12_listing 110 = .ok (.bipush 32, 2) := by decide +kernel
theorem dX12_listing_112 : decode cX12_listing 112 = .ok (.invokevirtual 189, 3) := by decide +kernel
theorem dX12_listing_115 : decode cX12_listing 115 = .ok (.aload_n 0, 1) := by decide +kernel
theorem dX12_listing_116 : decode cX12_listing 116 = .ok (.aload_n 0, 1) := by decide +kernel
theorem dX12_listing_117 : decode cX12_listing 117 = .ok (.iload_n 1, 1) := by decide +kernel
theorem dX12_listing_118 : decode cX12_listing 118 = .ok (.invokevirtual 260, 3) := by decide +kernel
theorem dX12_listing_12 : decode cX12_listing 12 = .ok (.iconst (-1), 1) := by decide +kernel
theorem dX12_listing_121 : decode cX12_listing 121 = .ok (.invokevirtual 697, 3) := by decide +kernel
theorem dX12_listing_124 : decode cX12_listing 124 = .ok (.aload_n 0, 1) := by decide +kernel
theorem dX12_listing_125 : decode cX12_listing 125 = .ok (.bipush 24, 2) := by decide +kernel
theorem dX12_listing_127 : decode cX12_listing 127 = .ok (.invokevirtual 667, 3) := by decide +kernel
theorem dX12_listing_13 : decode cX12_listing 13 = .ok (.ireturn, 1) := by decide +kernel
theorem dX12_listing_130 : decode cX12_listing 130 = .ok (.iconst 1, 1) := by decide +kernel
theorem dX12_listing_131 : decode cX12_listing 131 = .ok (.istore_n 1, 1) := by decide +kernel
theorem dX12_listing_132 : decode cX12_listing 132 = .ok (.iload_n 1, 1) := by decide +kernel
theorem dX12_listing_133 : decode cX12_listing 133 = .ok (.bipush 81, 2) := by decide +kernel
theorem dX12_listing_135 : decode cX12_listing 135 = .ok (.if_icmp .ge 18, 3) := by decide +kernel
theorem dX12_listing_138 : decode cX12_listing 138 = .ok (.aload_n 0, 1) := by decide +kernel
theorem dX12_listing_139 : decode cX12_listing 139 = .ok (.aload_n 0, 1) := by decide +kernel
theorem dX12_listing_14 : decode cX12_listing 14 = .ok (.aload_n 0, 1) := by decide +kernel
theorem dX12_listing_140 : decode cX12_listing 140 = .ok (.iload_n 1, 1) := by decide +kernel
theorem dX12_listing_141 : decode cX12_listing 141 = .ok (.invokevirtual 446, 3) := by decide +kernel
theorem dX12_listing_144 : decode cX12_listing 144 = .ok (.invokevirtual 189, 3) := by decide +kernel
theorem dX12_listing_147 : decode cX12_listing 147 = .ok (.iinc 1 1, 3) := by decide +kernel
theorem dX12_listing_15 : decode cX12_listing 15 = .ok (.iconst 0, 1) := by decide +kernel
theorem dX12_listing_150 : decode cX12_listing 150 = .ok (.goto (-18), 3) := by decide +kernel
theorem dX12_listing_153 : decode cX12_listing 153 = .ok (.aload_n 0, 1) := by decide +kernel
theorem dX12_listing_154 : decode cX12_listing 154 = .ok (.bipush 18, 2) := by decide +kernel
theorem dX12_listing_156 : decode cX12_listing 156 = .ok (.invokevirtual 269, 3) := by decide +kernel
theorem dX12_listing_159 : decode cX12_listing 159 = .ok (.aload_n 0, 1) := by decide +kernel
theorem dX12_listing_16 : decode cX12_listing 16 = .ok (.putfield 443, 3) := by decide +kernel
theorem dX12_listing_160 : decode cX12_listing 160 = .ok (.dup, 1) := by decide +kernel
theorem dX12_listing_161 : decode cX12_listing 161 = .ok (.getfield 443, 3) := by decide +kernel
theorem dX12_listing_164 : decode cX12_listing 164 = .ok (.iconst 1, 1) := by decide +kernel
theorem dX12_listing_165 : decode cX12_listing 165 = .ok (.iadd, 1) := by decide +kernel
theorem dX12_listing_166 : decode cX12_listing 166 = .ok (.putfield 443, 3) := by decide +kernel
theorem dX12_listing_169 : decode cX12_listing 169 = .ok (.goto (-150), 3) := by decide +kernel
theorem dX12_listing_172 : decode cX12_listing 172 = .ok (.aload_n 0, 1) := by decide +kernel
theorem dX12_listing_173 : decode cX12_listing 173 = .ok (.getfield 654, 3) := by decide +kernel
theorem dX12_listing_176 : decode cX12_listing 176 = .ok (.iconst 1, 1) := by decide +kernel
theorem dX12_listing_177 : decode cX12_listing 177 = .ok (.iadd, 1) := by decide +kernel
theorem dX12_listing_178 : decode cX12_listing 178 = .ok (.ireturn, 1) := by decide +kernel
theorem dX12_listing_19 : decode cX12_listing 19 = .ok (.aload_n 0, 1) := by decide +kernel
theorem dX12_listing_2 : decode cX12_listing 2 = .ok (.putfield 155, 3) := by decide +kernel
theorem dX12_listing_20 : decode cX12_listing 20 = .ok (.getfield 443, 3) := by decide +kernel
theorem dX12_listing_23 : decode cX12_listing 23 = .ok (.aload_n 0, 1) := by decide +kernel
theorem dX12_listing_24 : decode cX12_listing 24 = .ok (.getfield 654, 3) := by decide +kernel
theorem dX12_listing_27 : decode cX12_listing 27 = .ok (.if_icmp .gt 145, 3) := by decide +kernel
theorem dX12_listing_30 : decode cX12_listing 30 = .ok (.aload_n 0, 1) := by decide +kernel
theorem dX12_listing_31 : decode cX12_listing 31 = .ok (.invokevirtual 263, 3) := by decide +kernel
theorem dX12_listing_34 : decode cX12_listing 34 = .ok (.aload_n 0, 1) := by decide +kernel
theorem dX12_listing_35 : decode cX12_listing 35 = .ok (.aload_n 0, 1) := by decide +kernel
theorem dX12_listing_36 : decode cX12_listing 36 = .ok (.getfield 443, 3) := by decide +kernel
theorem dX12_listing_39 : decode cX12_listing 39 = .ok (.iconst 1, 1) := by decide +kernel
theorem dX12_listing_40 : decode cX12_listing 40 = .ok (.iadd, 1) := by decide +kernel
theorem dX12_listing_41 : decode cX12_listing 41 = .ok (.i2l, 1) := by decide +kernel
theorem dX12_listing_42 : decode cX12_listing 42 = .ok (.iconst 4, 1) := by decide +kernel
theorem dX12_listing_43 : decode cX12_listing 43 = .ok (.invokevirtual 199, 3) := by decide +kernel
theorem dX12_listing_46 : decode cX12_listing 46 = .ok (.aload_n 0, 1) := by decide +kernel
theorem dX12_listing_47 : decode cX12_listing 47 = .ok (.getfield 86, 3) := by decide +kernel
theorem dX12_listing_5 : decode cX12_listing 5 = .ok (.aload_n 0, 1) := by decide +kernel
theorem dX12_listing_50 : decode cX12_listing 50 = .ok (.aload_n 0, 1) := by decide +kernel
theorem dX12_listing_51 : decode cX12_listing 51 = .ok (.getfield 443, 3) := by decide +kernel
theorem dX12_listing_54 : decode cX12_listing 54 = .ok (.iaload, 1) := by decide +kernel
theorem dX12_listing_55 : decode cX12_listing 55 = .ok (.sipush 10000, 3) := by decide +kernel
theorem dX12_listing_58 : decode cX12_listing 58 = .ok (.if_icmp .eq 66, 3) := by decide +kernel
theorem dX12_listing_6 : decode cX12_listing 6 = .ok (.getfield 633, 3) := by decide +kernel
theorem dX12_listing_61 : decode cX12_listing 61 = .ok (.aload_n 0, 1) := by decide +kernel
theorem dX12_listing_62 : decode cX12_listing 62 = .ok (.getfield 86, 3) := by decide +kernel
theorem dX12_listing_65 : decode cX12_listing 65 = .ok (.aload_n 0, 1) := by decide +kernel
theorem dX12_listing_66 : decode cX12_listing 66 = .ok (.getfield 443, 3) := by decide +kernel
theorem dX12_listing_69 : decode cX12_listing 69 = .ok (.iaload, 1) := by decide +kernel
theorem dX12_listing_70 : decode cX12_listing 70 = .ok (.istore_n 1, 1) := by decide +kernel
theorem dX12_listing_71 : decode cX12_listing 71 = .ok (.aload_n 0, 1) := by decide +kernel
theorem dX12_listing_72 : decode cX12_listing 72 = .ok (.bipush 32, 2) := by decide +kernel
theorem dX12_listing_74 : decode cX12_listing 74 = .ok (.invokevirtual 189, 3) := by decide +kernel
theorem dX12_listing_77 : decode cX12_listing 77 = .ok (.aload_n 0, 1) := by decide +kernel
theorem dX12_listing_78 : decode cX12_listing 78 = .ok (.iload_n 1, 1) := by decide +kernel
theorem dX12_listing_79 : decode cX12_listing 79 = .ok (.ifCond .ge 8, 3) := by decide +kernel
theorem dX12_listing_82 : decode cX12_listing 82 = .ok (.bipush 45, 2) := by decide +kernel
theorem dX12_listing_84 : decode cX12_listing 84 = .ok (.goto 5, 3) := by decide +kernel
theorem dX12_listing_87 : decode cX12_listing 87 = .ok (.bipush 43, 2) := by decide +kernel
theorem dX12_listing_89 : decode cX12_listing 89 = .ok (.invokevirtual 189, 3) := by decide +kernel
theorem dX12_listing_9 : decode cX12_listing 9 = .ok (.ifCond .ne 5, 3) := by decide +kernel
theorem dX12_listing_92 : decode cX12_listing 92 = .ok (.aload_n 0, 1) := by decide +kernel
theorem dX12_listing_93 : decode cX12_listing 93 = .ok (.iload_n 1, 1) := by decide +kernel
theorem dX12_listing_94 : decode cX12_listing 94 = .ok (.ifCond .ge 9, 3) := by decide +kernel
theorem dX12_listing_97 : decode cX12_listing 97 = .ok (.iload_n 1, 1) := by decide +kernel
theorem dX12_listing_98 : decode cX12_listing 98 = .ok (.ineg, 1) := by decide +kernel
theorem dX12_listing_99 : decode cX12_listing 99 = .ok (.i2l, 1) := by decide +kernel
set_option maxHeartbeats 4000000 in
set_option maxRecDepth 100000 in
theorem T_X12_listing (l : Launch) (D : va_G) (K : Nat → ClassId) (Z Y : Nat → Nat) (ad : Nat → Nat) (t : tSt) (hok : okM t)  : tMet l yX12_listing cX12_listing 2 (some .int) (rmD 8 0 0) D K Z Y [.ref (ad 0)] (WM K ad t) (QI D K (fun (r : Int32) (u : tSt) => okM u ∧ frA [(0, 0), (0, 30), (0, 67)] [] [11, 12, 13, 14] [] t u ∧ (-1 : Int) ≤ r.toInt ∧ r.toInt ≤ 3999) (fun (u : tSt) => WM K ad u)) 0 0 := by
  refine t_met RX12 ⟨rfl, by decide +kernel⟩ (Nat.le_of_ble_eq_true rfl) ?_
  intro p e s m below meth c A ls C hE hZ hr hlocks hA hP hD hS hl
  have hl : lv_has ls 2 [(0, .ref (ad 0))] := hl
  have hokt := hok
  have hfr : frA [(0, 0), (0, 30), (0, 67)] [] [11, 12, 13, 14] [] t t := frA_rf
  have h_1 : (0 : Int) ≤ (t.1 0 30).toInt ∧ (t.1 0 30).toInt ≤ 120 := hok.1 0 30
  have h_2 : (0 : Int) ≤ (t.1 0 51).toInt ∧ (t.1 0 51).toInt ≤ 1280 := hok.1 0 51
  have h_3 : (0 : Int) ≤ (t.1 0 67).toInt ∧ (t.1 0 67).toInt ≤ 1281 := hok.1 0 67
  have L_19 : ∀ (fuel_19 : Nat) (t1 : tSt) (H : Heap) (locs : List Loc) (ls : Array Slot), okM t1 → frA [(0, 0), (0, 30), (0, 67)] [] [11, 12, 13, 14] [] t t1 → (0 : Int) ≤ (t1.1 0 0).toInt ∧ (t1.1 0 0).toInt ≤ 0 → (1 : Int) ≤ (t1.1 0 42).toInt ∧ (t1.1 0 42).toInt ≤ 1 → ((t1.1 0 67).toInt ≤ (t1.1 0 51).toInt + 1) → ((t1.1 0 51).toInt + 1 - (t1.1 0 67).toInt) < (fuel_19 : Int) → va_P D vwCl (WM K ad t1) H → va_D A (WM K ad t1) → va_S A s.heap H locs → lv_has ls 2 [(0, .ref (ad 0))] → W p l e (rmD 8 0 0) s m [.ref (ad 0)].toArray below meth c H locs 0 0 (MQ below (QI D K (fun (r : Int32) (u : tSt) => okM u ∧ frA [(0, 0), (0, 30), (0, 67)] [] [11, 12, 13, 14] [] t u ∧ (-1 : Int) ≤ r.toInt ∧ r.toInt ≤ 3999) (fun (u : tSt) => WM K ad u) A) [.ref (ad 0)].toArray s 0 0 A) (F0 m 19 ls []) := by
    intro fuel_19
    induction fuel_19 with
    | zero =>
      intro t1 H locs ls hok hfr hf19_0 hf19_42 hi19_0 hm19_19 hP hD hS hl
      have h_4 : (t1.1 0 51).toInt = (t.1 0 51).toInt := ti_eq (hfr.1 0 51 rfl)
      have e_5 : t1.2.2.1 19 = t.2.2.1 19 := hfr.2.2.1 19 rfl
      have e_6 : t1.2.2.1 20 = t.2.2.1 20 := hfr.2.2.1 20 rfl
      have e_7 : t1.2.2.1 22 = t.2.2.1 22 := hfr.2.2.1 22 rfl
      have h_8 : (0 : Int) ≤ (t1.1 0 30).toInt ∧ (t1.1 0 30).toInt ≤ 120 := hok.1 0 30
      have h_9 : (0 : Int) ≤ (t1.1 0 51).toInt ∧ (t1.1 0 51).toInt ≤ 1280 := hok.1 0 51
      have h_10 : (0 : Int) ≤ (t1.1 0 67).toInt ∧ (t1.1 0 67).toInt ≤ 1281 := hok.1 0 67
      exact absurd hm19_19 (by omega)
    | succ fuel_19 ih_19 =>
      intro t1 H locs ls hok hfr hf19_0 hf19_42 hi19_0 hm19_19 hP hD hS hl
      have hm19_19 : ((t1.1 0 51).toInt + 1 - (t1.1 0 67).toInt) < (fuel_19 : Int) + 1 := by omega
      have h_11 : (t1.1 0 51).toInt = (t.1 0 51).toInt := ti_eq (hfr.1 0 51 rfl)
      have e_12 : t1.2.2.1 19 = t.2.2.1 19 := hfr.2.2.1 19 rfl
      have e_13 : t1.2.2.1 20 = t.2.2.1 20 := hfr.2.2.1 20 rfl
      have e_14 : t1.2.2.1 22 = t.2.2.1 22 := hfr.2.2.1 22 rfl
      have h_15 : (0 : Int) ≤ (t1.1 0 30).toInt ∧ (t1.1 0 30).toInt ≤ 120 := hok.1 0 30
      have h_16 : (0 : Int) ≤ (t1.1 0 51).toInt ∧ (t1.1 0 51).toInt ≤ 1280 := hok.1 0 51
      have h_17 : (0 : Int) ≤ (t1.1 0 67).toInt ∧ (t1.1 0 67).toInt ≤ 1281 := hok.1 0 67
      have L_132 : ∀ (fuel_132 : Nat) (t1 : tSt) (w132_1 : Int32) (H : Heap) (locs : List Loc) (ls : Array Slot), okM t1 → frA [(0, 0), (0, 30), (0, 67)] [] [11, 12, 13, 14] [] t t1 → (1 : Int) ≤ w132_1.toInt ∧ w132_1.toInt ≤ 81 → (0 : Int) ≤ (t1.1 0 0).toInt ∧ (t1.1 0 0).toInt ≤ 0 → (1 : Int) ≤ (t1.1 0 42).toInt ∧ (t1.1 0 42).toInt ≤ 1 → ((t1.1 0 67).toInt ≤ (t1.1 0 51).toInt) → ((t1.1 0 30).toInt ≤ 22 + w132_1.toInt) → ((t1.1 0 51).toInt + 1 - (t1.1 0 67).toInt) < (fuel_19 : Int) + 1 → (81 : Int) - w132_1.toInt < (fuel_132 : Int) → va_P D vwCl (WM K ad t1) H → va_D A (WM K ad t1) → va_S A s.heap H locs → lv_has ls 2 [(0, .ref (ad 0)), (1, .int w132_1)] → W p l e (rmD 8 0 0) s m [.ref (ad 0)].toArray below meth c H locs 0 0 (MQ below (QI D K (fun (r : Int32) (u : tSt) => okM u ∧ frA [(0, 0), (0, 30), (0, 67)] [] [11, 12, 13, 14] [] t u ∧ (-1 : Int) ≤ r.toInt ∧ r.toInt ≤ 3999) (fun (u : tSt) => WM K ad u) A) [.ref (ad 0)].toArray s 0 0 A) (F0 m 132 ls []) := by
        intro fuel_132
        induction fuel_132 with
        | zero =>
          intro t1 w132_1 H locs ls hok hfr hw132_1 hf132_0 hf132_42 hi132_0 hi132_1 hm132_19 hm132_132 hP hD hS hl
          have h_18 : (t1.1 0 51).toInt = (t.1 0 51).toInt := ti_eq (hfr.1 0 51 rfl)
          have e_19 : t1.2.2.1 19 = t.2.2.1 19 := hfr.2.2.1 19 rfl
          have e_20 : t1.2.2.1 20 = t.2.2.1 20 := hfr.2.2.1 20 rfl
          have e_21 : t1.2.2.1 22 = t.2.2.1 22 := hfr.2.2.1 22 rfl
          have h_22 : (0 : Int) ≤ (t1.1 0 30).toInt ∧ (t1.1 0 30).toInt ≤ 120 := hok.1 0 30
          have h_23 : (0 : Int) ≤ (t1.1 0 51).toInt ∧ (t1.1 0 51).toInt ≤ 1280 := hok.1 0 51
          have h_24 : (0 : Int) ≤ (t1.1 0 67).toInt ∧ (t1.1 0 67).toInt ≤ 1281 := hok.1 0 67
          exact absurd hm132_132 (by omega)
        | succ fuel_132 ih_132 =>
          intro t1 w132_1 H locs ls hok hfr hw132_1 hf132_0 hf132_42 hi132_0 hi132_1 hm132_19 hm132_132 hP hD hS hl
          have hm132_132 : (81 : Int) - w132_1.toInt < (fuel_132 : Int) + 1 := by omega
          have h_25 : (t1.1 0 51).toInt = (t.1 0 51).toInt := ti_eq (hfr.1 0 51 rfl)
          have e_26 : t1.2.2.1 19 = t.2.2.1 19 := hfr.2.2.1 19 rfl
          have e_27 : t1.2.2.1 20 = t.2.2.1 20 := hfr.2.2.1 20 rfl
          have e_28 : t1.2.2.1 22 = t.2.2.1 22 := hfr.2.2.1 22 rfl
          have h_29 : (0 : Int) ≤ (t1.1 0 30).toInt ∧ (t1.1 0 30).toInt ≤ 120 := hok.1 0 30
          have h_30 : (0 : Int) ≤ (t1.1 0 51).toInt ∧ (t1.1 0 51).toInt ≤ 1280 := hok.1 0 51
          have h_31 : (0 : Int) ≤ (t1.1 0 67).toInt ∧ (t1.1 0 67).toInt ≤ 1281 := hok.1 0 67
          refine lv_iload_n C.1 C.2.1 dX12_listing_132 rfl (lv_at hl 1 rfl) ?_
          refine lv_bipush (v := 81) C.1 C.2.1 dX12_listing_133 (by decide) ?_
          refine lv_icmp_ge (tgt := 153) C.1 C.2.1 dX12_listing_135 (by decide) (fun c_32 => ?_) (fun c_32 => ?_)
          · replace c_32 : 81 ≤ w132_1.toInt := i_le c_32
            refine lv_aload_n C.1 C.2.1 dX12_listing_153 rfl (lv_at hl 0 rfl) ?_
            refine lv_bipush (v := 18) C.1 C.2.1 dX12_listing_154 (by decide) ?_
            refine g_Vv (As := [.int 18]) (rest := []) C hP hD hS hA (T_X12_print l D K Z Y ad t1 hok 18 (show (17 : Int) ≤ (18 : Int32).toInt ∧ (18 : Int32).toInt ≤ 19 from ⟨by decide, by decide⟩)) hE hZ (uwV m_42_21 m_42_22 m_42_23 m_1_5 m_43_0) (hdV 1 (by decide +kernel) rfl) ⟨Nat.le_of_ble_eq_true rfl, Nat.le_of_ble_eq_true rfl⟩ rfl rfl (ci := 11) (q0 := 0) rfl rfl rfl hl.1 (Nat.le_of_ble_eq_true rfl) dX12_listing_156 ⟨Nat.le_of_ble_eq_true rfl, Nat.le_of_ble_eq_true rfl⟩ (fun t_33 H locs hw hP hD hS => ?_)
            obtain ⟨hok, f_35⟩ := hw
            have hfr : frA [(0, 0), (0, 30), (0, 67)] [] [11, 12, 13, 14] [] t t_33 := frA_tr hfr f_35 rfl
            have h_36 : (t_33.1 0 0).toInt = (t1.1 0 0).toInt := ti_eq (f_35.1 0 0 rfl)
            have h_37 : (t_33.1 0 42).toInt = (t1.1 0 42).toInt := ti_eq (f_35.1 0 42 rfl)
            have h_38 : (t_33.1 0 51).toInt = (t1.1 0 51).toInt := ti_eq (f_35.1 0 51 rfl)
            have h_39 : (t_33.1 0 67).toInt = (t1.1 0 67).toInt := ti_eq (f_35.1 0 67 rfl)
            have e_40 : t_33.2.2.1 19 = t.2.2.1 19 := (f_35.2.2.1 19 rfl).trans (e_26)
            have e_41 : t_33.2.2.1 20 = t.2.2.1 20 := (f_35.2.2.1 20 rfl).trans (e_27)
            have e_42 : t_33.2.2.1 22 = t.2.2.1 22 := (f_35.2.2.1 22 rfl).trans (e_28)
            have h_43 : (0 : Int) ≤ (t_33.1 0 30).toInt ∧ (t_33.1 0 30).toInt ≤ 120 := hok.1 0 30
            have h_44 : (0 : Int) ≤ (t_33.1 0 51).toInt ∧ (t_33.1 0 51).toInt ≤ 1280 := hok.1 0 51
            have h_45 : (0 : Int) ≤ (t_33.1 0 67).toInt ∧ (t_33.1 0 67).toInt ≤ 1281 := hok.1 0 67
            refine lv_aload_n C.1 C.2.1 dX12_listing_159 rfl (lv_at hl 0 rfl) ?_
            refine lv_dup C.1 C.2.1 dX12_listing_160 rfl ?_
            refine k_get (v := .int (t_33.1 0 67)) C hP 0 rfl rfl inlX12 67 (by decide) m_29_11 rfl dX12_listing_161 ?_
            refine lv_iconst (v := 1) C.1 C.2.1 dX12_listing_164 (by decide) ?_
            obtain ⟨v_46, e_47⟩ : ∃ z, z = ((t_33.1 0 67) : Int32) + (1 : Int32) := ⟨_, rfl⟩
            have h_48 : v_46.toInt = (t_33.1 0 67).toInt + 1 := by rw [e_47]; exact ti_iadd (by show (_ : Int) ≤ (t_33.1 0 67).toInt + 1; omega) (by show (t_33.1 0 67).toInt + 1 < (_ : Int); omega)
            refine k_iadd (v := v_46) C e_47.symm dX12_listing_165 ?_
            refine k_put (ws' := WM K ad (uI t_33 0 67 v_46)) (v := .int v_46) C hP hD hS 0 rfl rfl inlX12 tyX12_ok nmX12 67 (by decide) m_29_11 rfl rfl rfl rfl rfl dX12_listing_166 (fun H locs hP hD hS => ?_)
            have hok : okM (uI t_33 0 67 v_46) := ⟨okI_I hok.1 0 67 v_46 (show (0 : Int) ≤ (v_46 : Int32).toInt ∧ (v_46 : Int32).toInt ≤ 1281 from ⟨by omega, by omega⟩), hok.2.1, hok.2.2.1, hok.2.2.2.1, hok.2.2.2.2.1, hok.2.2.2.2.2.1, hok.2.2.2.2.2.2.1, trivial⟩
            have hfr : frA [(0, 0), (0, 30), (0, 67)] [] [11, 12, 13, 14] [] t (uI t_33 0 67 v_46) := frA_I hfr 0 67 _ rfl
            refine lv_goto (tgt := 19) C.1 C.2.1 dX12_listing_169 (by decide) ?_
            exact ih_19 (uI t_33 0 67 v_46) _ _ _ hok hfr (show (0 : Int) ≤ ((t_33.1 0 0) : Int32).toInt ∧ ((t_33.1 0 0) : Int32).toInt ≤ 0 from ⟨by omega, by omega⟩) (show (1 : Int) ≤ ((t_33.1 0 42) : Int32).toInt ∧ ((t_33.1 0 42) : Int32).toInt ≤ 1 from ⟨by omega, by omega⟩) (show v_46.toInt ≤ (t_33.1 0 51).toInt + 1 from by omega) (show ((t_33.1 0 51).toInt + 1 - v_46.toInt) < (fuel_19 : Int) from by omega) hP hD hS (lv_sub hl [0] rfl)
          · replace c_32 : w132_1.toInt < 81 := i_nle c_32
            refine lv_aload_n C.1 C.2.1 dX12_listing_138 rfl (lv_at hl 0 rfl) ?_
            refine lv_aload_n C.1 C.2.1 dX12_listing_139 rfl (lv_at hl 0 rfl) ?_
            refine lv_iload_n C.1 C.2.1 dX12_listing_140 rfl (lv_at hl 1 rfl) ?_
            refine g_Vi (As := [.int w132_1]) (rest := [.ref (ad 0)]) C hP hD hS hA (T_X12_letterAt l D K Z Y ad t1 hok (w132_1) (show (1 : Int) ≤ (w132_1 : Int32).toInt ∧ (w132_1 : Int32).toInt ≤ 100 from ⟨by omega, by omega⟩)) hE hZ (uwV m_31_8 m_31_9 m_31_10 m_1_5 m_31_11) (hdV 1 (by decide +kernel) rfl) ⟨Nat.le_of_ble_eq_true rfl, Nat.le_of_ble_eq_true rfl⟩ rfl rfl (ci := 11) (q0 := 0) rfl rfl rfl hl.1 (Nat.le_of_ble_eq_true rfl) dX12_listing_141 ⟨Nat.le_of_ble_eq_true rfl, Nat.le_of_ble_eq_true rfl⟩ (fun r_50 t_49 H locs hw hP hD hS => ?_)
            obtain ⟨h_52, h_53, p_54, p_55, p_56, p_57⟩ := hw
            replace p_54 : r_50 = fLet t1 w132_1 := p_54
            replace p_55 : r_50.toInt = (fLet t1 w132_1).toInt := p_55
            replace p_56 : ¬ r_50.toInt = 32 → (t1.2.2.1 19 ((t1.1 0 67) : Int32).toNatClampNeg).toInt + w132_1.toInt ≤ (t1.2.2.1 20 ((t1.1 0 67) : Int32).toNatClampNeg).toInt := p_56
            have h_58 : (t1.2.2.1 19 ((t1.1 0 67) : Int32).toNatClampNeg).toInt = (t.2.2.1 19 ((t1.1 0 67) : Int32).toNatClampNeg).toInt := tb_eq e_26 _
            have h_59 : (t1.2.2.1 20 ((t1.1 0 67) : Int32).toNatClampNeg).toInt = (t.2.2.1 20 ((t1.1 0 67) : Int32).toNatClampNeg).toInt := tb_eq e_27 _
            replace p_57 : 81 ≤ w132_1.toInt → r_50.toInt = 32 := p_57
            refine g_Vv (As := [.int r_50]) (rest := []) C hP hD hS hA (T_X12_say l D K Z Y ad t1 hok (r_50) (show (t1.1 0 30).toInt ≤ 119 from by omega)) hE hZ (uwV m_42_13 m_42_14 m_42_15 m_1_5 m_42_16) (hdV 1 (by decide +kernel) rfl) ⟨Nat.le_of_ble_eq_true rfl, Nat.le_of_ble_eq_true rfl⟩ rfl rfl (ci := 11) (q0 := 0) rfl rfl rfl hl.1 (Nat.le_of_ble_eq_true rfl) dX12_listing_144 ⟨Nat.le_of_ble_eq_true rfl, Nat.le_of_ble_eq_true rfl⟩ (fun t_60 H locs hw hP hD hS => ?_)
            obtain ⟨hok, f_62, p_63⟩ := hw
            have hfr : frA [(0, 0), (0, 30), (0, 67)] [] [11, 12, 13, 14] [] t t_60 := frA_tr hfr f_62 rfl
            have h_64 : (t_60.1 0 0).toInt = (t1.1 0 0).toInt := ti_eq (f_62.1 0 0 rfl)
            have h_65 : (t_60.1 0 42).toInt = (t1.1 0 42).toInt := ti_eq (f_62.1 0 42 rfl)
            have h_66 : (t_60.1 0 51).toInt = (t1.1 0 51).toInt := ti_eq (f_62.1 0 51 rfl)
            have h_67 : (t_60.1 0 67).toInt = (t1.1 0 67).toInt := ti_eq (f_62.1 0 67 rfl)
            have e_68 : t_60.2.2.1 19 = t.2.2.1 19 := (f_62.2.2.1 19 rfl).trans (e_26)
            have e_69 : t_60.2.2.1 20 = t.2.2.1 20 := (f_62.2.2.1 20 rfl).trans (e_27)
            have e_70 : t_60.2.2.1 22 = t.2.2.1 22 := (f_62.2.2.1 22 rfl).trans (e_28)
            have h_71 : (0 : Int) ≤ (t_60.1 0 30).toInt ∧ (t_60.1 0 30).toInt ≤ 120 := hok.1 0 30
            have h_72 : (0 : Int) ≤ (t_60.1 0 51).toInt ∧ (t_60.1 0 51).toInt ≤ 1280 := hok.1 0 51
            have h_73 : (0 : Int) ≤ (t_60.1 0 67).toInt ∧ (t_60.1 0 67).toInt ≤ 1281 := hok.1 0 67
            replace p_63 : (t_60.1 0 30).toInt = (t1.1 0 30).toInt + 1 := p_63
            obtain ⟨v_74, e_75⟩ : ∃ z, z = w132_1 + 1 := ⟨_, rfl⟩
            have h_76 : v_74.toInt = w132_1.toInt + 1 := by rw [e_75]; exact ti_iadd (by show (_ : Int) ≤ w132_1.toInt + 1; omega) (by show w132_1.toInt + 1 < (_ : Int); omega)
            refine lv_iinc (v := v_74) (lv' := [(1, .int v_74), (0, .ref (ad 0))]) C.1 C.2.1 dX12_listing_147 hl (k := 1) rfl e_75.symm (by decide) rfl (fun ls hl => ?_)
            have hl : lv_has ls 2 [(0, .ref (ad 0)), (1, .int v_74)] := lv_sub hl [1, 0] rfl
            refine lv_goto (tgt := 132) C.1 C.2.1 dX12_listing_150 (by decide) ?_
            exact ih_132 t_60 v_74 _ _ _ hok hfr ⟨by omega, by omega⟩ (show (0 : Int) ≤ ((t_60.1 0 0) : Int32).toInt ∧ ((t_60.1 0 0) : Int32).toInt ≤ 0 from ⟨by omega, by omega⟩) (show (1 : Int) ≤ ((t_60.1 0 42) : Int32).toInt ∧ ((t_60.1 0 42) : Int32).toInt ≤ 1 from ⟨by omega, by omega⟩) (show (t_60.1 0 67).toInt ≤ (t_60.1 0 51).toInt from by omega) (show (t_60.1 0 30).toInt ≤ 22 + v_74.toInt from by omega) (show ((t_60.1 0 51).toInt + 1 - (t_60.1 0 67).toInt) < (fuel_19 : Int) + 1 from by omega) (show (81 : Int) - v_74.toInt < (fuel_132 : Int) from by omega) hP hD hS (lv_sub hl [0, 1] rfl)
      have L_124 : ∀ (t1 : tSt) (H : Heap) (locs : List Loc) (ls : Array Slot), okM t1 → frA [(0, 0), (0, 30), (0, 67)] [] [11, 12, 13, 14] [] t t1 → (0 : Int) ≤ (t1.1 0 0).toInt ∧ (t1.1 0 0).toInt ≤ 0 → (1 : Int) ≤ (t1.1 0 42).toInt ∧ (t1.1 0 42).toInt ≤ 1 → (0 : Int) ≤ (t1.1 0 67).toInt ∧ (t1.1 0 67).toInt ≤ 1280 → ((t1.1 0 67).toInt ≤ (t1.1 0 51).toInt) → ((t1.1 0 30).toInt ≤ 22) → ((t1.1 0 51).toInt + 1 - (t1.1 0 67).toInt) < (fuel_19 : Int) + 1 → va_P D vwCl (WM K ad t1) H → va_D A (WM K ad t1) → va_S A s.heap H locs → lv_has ls 2 [(0, .ref (ad 0))] → W p l e (rmD 8 0 0) s m [.ref (ad 0)].toArray below meth c H locs 0 0 (MQ below (QI D K (fun (r : Int32) (u : tSt) => okM u ∧ frA [(0, 0), (0, 30), (0, 67)] [] [11, 12, 13, 14] [] t u ∧ (-1 : Int) ≤ r.toInt ∧ r.toInt ≤ 3999) (fun (u : tSt) => WM K ad u) A) [.ref (ad 0)].toArray s 0 0 A) (F0 m 124 ls []) := by
        intro t1 H locs ls hok hfr hf124_0 hf124_42 hf124_67 hi124_0 hi124_1 hm124_19 hP hD hS hl
        have h_77 : (t1.1 0 51).toInt = (t.1 0 51).toInt := ti_eq (hfr.1 0 51 rfl)
        have e_78 : t1.2.2.1 19 = t.2.2.1 19 := hfr.2.2.1 19 rfl
        have e_79 : t1.2.2.1 20 = t.2.2.1 20 := hfr.2.2.1 20 rfl
        have e_80 : t1.2.2.1 22 = t.2.2.1 22 := hfr.2.2.1 22 rfl
        have h_81 : (0 : Int) ≤ (t1.1 0 30).toInt ∧ (t1.1 0 30).toInt ≤ 120 := hok.1 0 30
        have h_82 : (0 : Int) ≤ (t1.1 0 51).toInt ∧ (t1.1 0 51).toInt ≤ 1280 := hok.1 0 51
        refine lv_aload_n C.1 C.2.1 dX12_listing_124 rfl (lv_at hl 0 rfl) ?_
        refine lv_bipush (v := 24) C.1 C.2.1 dX12_listing_125 (by decide) ?_
        have h_83 : (24 : Int32).toInt = 24 := rfl
        refine g_Vv (As := [.int 24]) (rest := []) C hP hD hS hA (T_X12_toColumn l D K Z Y ad t1 hok 24 (show (2 : Int) ≤ (24 : Int32).toInt ∧ (24 : Int32).toInt ≤ 63 from ⟨by decide, by decide⟩) (show (24 : Int32).toInt ≤ 121 from by omega)) hE hZ (uwV m_42_17 m_42_18 m_42_19 m_1_5 m_42_20) (hdV 1 (by decide +kernel) rfl) ⟨Nat.le_of_ble_eq_true rfl, Nat.le_of_ble_eq_true rfl⟩ rfl rfl (ci := 11) (q0 := 0) rfl rfl rfl hl.1 (Nat.le_of_ble_eq_true rfl) dX12_listing_127 ⟨Nat.le_of_ble_eq_true rfl, Nat.le_of_ble_eq_true rfl⟩ (fun t_84 H locs hw hP hD hS => ?_)
        obtain ⟨hok, f_86, p_87, p_88⟩ := hw
        have hfr : frA [(0, 0), (0, 30), (0, 67)] [] [11, 12, 13, 14] [] t t_84 := frA_tr hfr f_86 rfl
        have h_89 : (t_84.1 0 0).toInt = (t1.1 0 0).toInt := ti_eq (f_86.1 0 0 rfl)
        have h_90 : (t_84.1 0 42).toInt = (t1.1 0 42).toInt := ti_eq (f_86.1 0 42 rfl)
        have h_91 : (t_84.1 0 67).toInt = (t1.1 0 67).toInt := ti_eq (f_86.1 0 67 rfl)
        have h_92 : (t_84.1 0 51).toInt = (t1.1 0 51).toInt := ti_eq (f_86.1 0 51 rfl)
        have e_93 : t_84.2.2.1 19 = t.2.2.1 19 := (f_86.2.2.1 19 rfl).trans (e_78)
        have e_94 : t_84.2.2.1 20 = t.2.2.1 20 := (f_86.2.2.1 20 rfl).trans (e_79)
        have e_95 : t_84.2.2.1 22 = t.2.2.1 22 := (f_86.2.2.1 22 rfl).trans (e_80)
        have h_96 : (0 : Int) ≤ (t_84.1 0 30).toInt ∧ (t_84.1 0 30).toInt ≤ 120 := hok.1 0 30
        have h_97 : (0 : Int) ≤ (t_84.1 0 51).toInt ∧ (t_84.1 0 51).toInt ≤ 1280 := hok.1 0 51
        replace p_87 : (t1.1 0 30).toInt ≤ (t_84.1 0 30).toInt := p_87
        replace p_88 : (t_84.1 0 30).toInt ≤ (t1.1 0 30).toInt ∨ (t_84.1 0 30).toInt ≤ (24 : Int32).toInt - 1 := p_88
        refine lv_iconst (v := 1) C.1 C.2.1 dX12_listing_130 (by decide) ?_
        refine lv_istore_n (lv' := [(1, .int 1), (0, .ref (ad 0))]) C.1 C.2.1 dX12_listing_131 rfl hl (by decide) rfl (fun ls hl => ?_)
        have hl : lv_has ls 2 [(0, .ref (ad 0)), (1, .int 1)] := lv_sub hl [1, 0] rfl
        exact L_132 81 t_84 1 _ _ _ hok hfr ⟨by decide, by decide⟩ (show (0 : Int) ≤ ((t_84.1 0 0) : Int32).toInt ∧ ((t_84.1 0 0) : Int32).toInt ≤ 0 from ⟨by omega, by omega⟩) (show (1 : Int) ≤ ((t_84.1 0 42) : Int32).toInt ∧ ((t_84.1 0 42) : Int32).toInt ≤ 1 from ⟨by omega, by omega⟩) (show (t_84.1 0 67).toInt ≤ (t_84.1 0 51).toInt from by omega) (show (t_84.1 0 30).toInt ≤ 22 + 1 from by omega) (show ((t_84.1 0 51).toInt + 1 - (t_84.1 0 67).toInt) < (fuel_19 : Int) + 1 from by omega) (show (81 : Int) - 1 < ((81 : Nat) : Int) from by omega) hP hD hS (lv_sub hl [0, 1] rfl)
      refine lv_aload_n C.1 C.2.1 dX12_listing_19 rfl (lv_at hl 0 rfl) ?_
      refine k_get (v := .int (t1.1 0 67)) C hP 0 rfl rfl inlX12 67 (by decide) m_29_11 rfl dX12_listing_20 ?_
      refine lv_aload_n C.1 C.2.1 dX12_listing_23 rfl (lv_at hl 0 rfl) ?_
      refine k_get (v := .int (t1.1 0 51)) C hP 0 rfl rfl inlX12 51 (by decide) m_29_15 rfl dX12_listing_24 ?_
      refine lv_icmp_gt (tgt := 172) C.1 C.2.1 dX12_listing_27 (by decide) (fun c_98 => ?_) (fun c_98 => ?_)
      · replace c_98 : (t1.1 0 51).toInt < (t1.1 0 67).toInt := i_lt c_98
        refine lv_aload_n C.1 C.2.1 dX12_listing_172 rfl (lv_at hl 0 rfl) ?_
        refine k_get (v := .int (t1.1 0 51)) C hP 0 rfl rfl inlX12 51 (by decide) m_29_15 rfl dX12_listing_173 ?_
        refine lv_iconst (v := 1) C.1 C.2.1 dX12_listing_176 (by decide) ?_
        obtain ⟨v_99, e_100⟩ : ∃ z, z = ((t1.1 0 51) : Int32) + (1 : Int32) := ⟨_, rfl⟩
        have h_101 : v_99.toInt = (t1.1 0 51).toInt + 1 := by rw [e_100]; exact ti_iadd (by show (_ : Int) ≤ (t1.1 0 51).toInt + 1; omega) (by show (t1.1 0 51).toInt + 1 < (_ : Int); omega)
        refine k_iadd (v := v_99) C e_100.symm dX12_listing_177 ?_
        exact g_iret C hr hlocks hP hD hS rfl t1 rfl ⟨hok, hfr, by omega, by omega⟩ (Nat.le_of_ble_eq_true rfl) (Nat.le_of_ble_eq_true rfl) dX12_listing_178
      · replace c_98 : (t1.1 0 67).toInt ≤ (t1.1 0 51).toInt := i_nlt c_98
        refine lv_aload_n C.1 C.2.1 dX12_listing_30 rfl (lv_at hl 0 rfl) ?_
        refine g_Vv (As := []) (rest := []) C hP hD hS hA (T_X12_begin l D K Z Y ad t1 hok ) hE hZ (uwV m_42_4 m_42_5 m_42_6 m_1_5 m_42_7) (hdV 0 (by decide +kernel) rfl) ⟨Nat.le_of_ble_eq_true rfl, Nat.le_of_ble_eq_true rfl⟩ rfl rfl (ci := 11) (q0 := 0) rfl rfl rfl hl.1 (Nat.le_of_ble_eq_true rfl) dX12_listing_31 ⟨Nat.le_of_ble_eq_true rfl, Nat.le_of_ble_eq_true rfl⟩ (fun t_102 H locs hw hP hD hS => ?_)
        obtain ⟨hok, f_104, p_105⟩ := hw
        have hfr : frA [(0, 0), (0, 30), (0, 67)] [] [11, 12, 13, 14] [] t t_102 := frA_tr hfr f_104 rfl
        have h_106 : (t_102.1 0 0).toInt = (t1.1 0 0).toInt := ti_eq (f_104.1 0 0 rfl)
        have h_107 : (t_102.1 0 42).toInt = (t1.1 0 42).toInt := ti_eq (f_104.1 0 42 rfl)
        have h_108 : (t_102.1 0 67).toInt = (t1.1 0 67).toInt := ti_eq (f_104.1 0 67 rfl)
        have h_109 : (t_102.1 0 51).toInt = (t1.1 0 51).toInt := ti_eq (f_104.1 0 51 rfl)
        have e_110 : t_102.2.2.1 19 = t.2.2.1 19 := (f_104.2.2.1 19 rfl).trans (e_12)
        have e_111 : t_102.2.2.1 20 = t.2.2.1 20 := (f_104.2.2.1 20 rfl).trans (e_13)
        have e_112 : t_102.2.2.1 22 = t.2.2.1 22 := (f_104.2.2.1 22 rfl).trans (e_14)
        have h_113 : (0 : Int) ≤ (t_102.1 0 30).toInt ∧ (t_102.1 0 30).toInt ≤ 120 := hok.1 0 30
        replace p_105 : (t_102.1 0 30).toInt = 0 := p_105
        refine lv_aload_n C.1 C.2.1 dX12_listing_34 rfl (lv_at hl 0 rfl) ?_
        refine lv_aload_n C.1 C.2.1 dX12_listing_35 rfl (lv_at hl 0 rfl) ?_
        refine k_get (v := .int (t_102.1 0 67)) C hP 0 rfl rfl inlX12 67 (by decide) m_29_11 rfl dX12_listing_36 ?_
        refine lv_iconst (v := 1) C.1 C.2.1 dX12_listing_39 (by decide) ?_
        obtain ⟨v_114, e_115⟩ : ∃ z, z = ((t_102.1 0 67) : Int32) + (1 : Int32) := ⟨_, rfl⟩
        have h_116 : v_114.toInt = (t_102.1 0 67).toInt + 1 := by rw [e_115]; exact ti_iadd (by show (_ : Int) ≤ (t_102.1 0 67).toInt + 1; omega) (by show (t_102.1 0 67).toInt + 1 < (_ : Int); omega)
        refine k_iadd (v := v_114) C e_115.symm dX12_listing_40 ?_
        obtain ⟨v_117, e_118⟩ : ∃ z, z = (v_114 : Int32).toInt64 := ⟨_, rfl⟩
        have h_119 : v_117.toInt = v_114.toInt := by rw [e_118]; exact Jvm.Kit.i64_of_i32 _
        refine lv_i2l (v := v_117) C.1 C.2.1 dX12_listing_41 e_118.symm ?_
        refine lv_iconst (v := 4) C.1 C.2.1 dX12_listing_42 (by decide) ?_
        have h_120 : (4 : Int32).toInt = 4 := rfl
        refine g_Vv (As := [.long v_117, .int 4]) (rest := []) C hP hD hS hA (T_X12_sayDigits l D K Z Y ad t_102 hok (v_117) 4 (show (1 : Int) ≤ (4 : Int32).toInt ∧ (4 : Int32).toInt ≤ 10 from ⟨by decide, by decide⟩) (show (t_102.1 0 30).toInt + (4 : Int32).toInt ≤ 120 from by omega) (show 1 ≤ (4 : Int32).toInt from by omega) (show (4 : Int32).toInt ≤ 10 from by omega)) hE hZ (uwV m_42_9 m_42_10 m_42_11 m_1_5 m_42_12) (hdV 2 (by decide +kernel) rfl) ⟨Nat.le_of_ble_eq_true rfl, Nat.le_of_ble_eq_true rfl⟩ rfl rfl (ci := 11) (q0 := 0) rfl rfl rfl hl.1 (Nat.le_of_ble_eq_true rfl) dX12_listing_43 ⟨Nat.le_of_ble_eq_true rfl, Nat.le_of_ble_eq_true rfl⟩ (fun t_121 H locs hw hP hD hS => ?_)
        obtain ⟨hok, f_123, p_124⟩ := hw
        have hfr : frA [(0, 0), (0, 30), (0, 67)] [] [11, 12, 13, 14] [] t t_121 := frA_tr hfr f_123 rfl
        have h_125 : (t_121.1 0 0).toInt = (t_102.1 0 0).toInt := ti_eq (f_123.1 0 0 rfl)
        have h_126 : (t_121.1 0 42).toInt = (t_102.1 0 42).toInt := ti_eq (f_123.1 0 42 rfl)
        have h_127 : (t_121.1 0 67).toInt = (t_102.1 0 67).toInt := ti_eq (f_123.1 0 67 rfl)
        have h_128 : (t_121.1 0 51).toInt = (t_102.1 0 51).toInt := ti_eq (f_123.1 0 51 rfl)
        have e_129 : t_121.2.2.1 19 = t.2.2.1 19 := (f_123.2.2.1 19 rfl).trans (e_110)
        have e_130 : t_121.2.2.1 20 = t.2.2.1 20 := (f_123.2.2.1 20 rfl).trans (e_111)
        have e_131 : t_121.2.2.1 22 = t.2.2.1 22 := (f_123.2.2.1 22 rfl).trans (e_112)
        have h_132 : (0 : Int) ≤ (t_121.1 0 30).toInt ∧ (t_121.1 0 30).toInt ≤ 120 := hok.1 0 30
        replace p_124 : (t_121.1 0 30).toInt = (t_102.1 0 30).toInt + (4 : Int32).toInt := p_124
        refine lv_aload_n C.1 C.2.1 dX12_listing_46 rfl (lv_at hl 0 rfl) ?_
        refine k_get (v := .ref (ad 22)) C hP 0 rfl rfl inlX12 50 (by decide) m_8_6 rfl dX12_listing_47 ?_
        refine lv_aload_n C.1 C.2.1 dX12_listing_50 rfl (lv_at hl 0 rfl) ?_
        refine k_get (v := .int (t_121.1 0 67)) C hP 0 rfl rfl inlX12 67 (by decide) m_29_11 rfl dX12_listing_51 ?_
        have h_133 : (-3999 : Int) ≤ (t.2.2.1 22 ((t_121.1 0 67) : Int32).toNatClampNeg).toInt ∧ (t.2.2.1 22 ((t_121.1 0 67) : Int32).toNatClampNeg).toInt ≤ 10000 := by rw [← e_131]; exact hok.2.1 22 _
        refine k_ild (v := (t.2.2.1 22 ((t_121.1 0 67) : Int32).toNatClampNeg)) C hP 22 rfl (vp_in_iff.mpr ⟨by omega, by omega⟩) (congrFun e_131 _) dX12_listing_54 ?_
        refine lv_sipush (v := 10000) C.1 C.2.1 dX12_listing_55 (by decide) ?_
        refine lv_icmp_eq (tgt := 124) C.1 C.2.1 dX12_listing_58 (by decide) (fun c_134 => ?_) (fun c_134 => ?_)
        · replace c_134 : (t.2.2.1 22 ((t_121.1 0 67) : Int32).toNatClampNeg).toInt = 10000 := i_eq c_134
          exact L_124 t_121 _ _ _ hok hfr (show (0 : Int) ≤ ((t_121.1 0 0) : Int32).toInt ∧ ((t_121.1 0 0) : Int32).toInt ≤ 0 from ⟨by omega, by omega⟩) (show (1 : Int) ≤ ((t_121.1 0 42) : Int32).toInt ∧ ((t_121.1 0 42) : Int32).toInt ≤ 1 from ⟨by omega, by omega⟩) (show (0 : Int) ≤ ((t_121.1 0 67) : Int32).toInt ∧ ((t_121.1 0 67) : Int32).toInt ≤ 1280 from ⟨by omega, by omega⟩) (show (t_121.1 0 67).toInt ≤ (t_121.1 0 51).toInt from by omega) (show (t_121.1 0 30).toInt ≤ 22 from by omega) (show ((t_121.1 0 51).toInt + 1 - (t_121.1 0 67).toInt) < (fuel_19 : Int) + 1 from by omega) hP hD hS (lv_sub hl [0] rfl)
        · replace c_134 : ¬ (t.2.2.1 22 ((t_121.1 0 67) : Int32).toNatClampNeg).toInt = 10000 := i_ne c_134
          refine lv_aload_n C.1 C.2.1 dX12_listing_61 rfl (lv_at hl 0 rfl) ?_
          refine k_get (v := .ref (ad 22)) C hP 0 rfl rfl inlX12 50 (by decide) m_8_6 rfl dX12_listing_62 ?_
          refine lv_aload_n C.1 C.2.1 dX12_listing_65 rfl (lv_at hl 0 rfl) ?_
          refine k_get (v := .int (t_121.1 0 67)) C hP 0 rfl rfl inlX12 67 (by decide) m_29_11 rfl dX12_listing_66 ?_
          have h_135 : (-3999 : Int) ≤ (t.2.2.1 22 ((t_121.1 0 67) : Int32).toNatClampNeg).toInt ∧ (t.2.2.1 22 ((t_121.1 0 67) : Int32).toNatClampNeg).toInt ≤ 10000 := by rw [← e_131]; exact hok.2.1 22 _
          refine k_ild (v := (t.2.2.1 22 ((t_121.1 0 67) : Int32).toNatClampNeg)) C hP 22 rfl (vp_in_iff.mpr ⟨by omega, by omega⟩) (congrFun e_131 _) dX12_listing_69 ?_
          have hq3 : (t.2.2.1 22 ((t_121.1 0 67) : Int32).toNatClampNeg).toInt = 10000 ∨ (-3999 ≤ (t.2.2.1 22 ((t_121.1 0 67) : Int32).toNatClampNeg).toInt ∧ (t.2.2.1 22 ((t_121.1 0 67) : Int32).toNatClampNeg).toInt ≤ 3999) := by have q := hok.2.2.2.2.1 ((t_121.1 0 67) : Int32).toNatClampNeg; rw [e_131] at q; exact q
          refine lv_istore_n (lv' := [(1, .int (t.2.2.1 22 ((t_121.1 0 67) : Int32).toNatClampNeg)), (0, .ref (ad 0))]) C.1 C.2.1 dX12_listing_70 rfl hl (by decide) rfl (fun ls hl => ?_)
          have hl : lv_has ls 2 [(0, .ref (ad 0)), (1, .int (t.2.2.1 22 ((t_121.1 0 67) : Int32).toNatClampNeg))] := lv_sub hl [1, 0] rfl
          refine lv_aload_n C.1 C.2.1 dX12_listing_71 rfl (lv_at hl 0 rfl) ?_
          refine lv_bipush (v := 32) C.1 C.2.1 dX12_listing_72 (by decide) ?_
          refine g_Vv (As := [.int 32]) (rest := []) C hP hD hS hA (T_X12_say l D K Z Y ad t_121 hok 32 (show (t_121.1 0 30).toInt ≤ 119 from by omega)) hE hZ (uwV m_42_13 m_42_14 m_42_15 m_1_5 m_42_16) (hdV 1 (by decide +kernel) rfl) ⟨Nat.le_of_ble_eq_true rfl, Nat.le_of_ble_eq_true rfl⟩ rfl rfl (ci := 11) (q0 := 0) rfl rfl rfl hl.1 (Nat.le_of_ble_eq_true rfl) dX12_listing_74 ⟨Nat.le_of_ble_eq_true rfl, Nat.le_of_ble_eq_true rfl⟩ (fun t_136 H locs hw hP hD hS => ?_)
          obtain ⟨hok, f_138, p_139⟩ := hw
          have hfr : frA [(0, 0), (0, 30), (0, 67)] [] [11, 12, 13, 14] [] t t_136 := frA_tr hfr f_138 rfl
          have h_140 : (t_136.1 0 0).toInt = (t_121.1 0 0).toInt := ti_eq (f_138.1 0 0 rfl)
          have h_141 : (t_136.1 0 42).toInt = (t_121.1 0 42).toInt := ti_eq (f_138.1 0 42 rfl)
          have h_142 : (t_136.1 0 67).toInt = (t_121.1 0 67).toInt := ti_eq (f_138.1 0 67 rfl)
          have h_143 : (t_136.1 0 51).toInt = (t_121.1 0 51).toInt := ti_eq (f_138.1 0 51 rfl)
          have e_144 : t_136.2.2.1 19 = t.2.2.1 19 := (f_138.2.2.1 19 rfl).trans (e_129)
          have e_145 : t_136.2.2.1 20 = t.2.2.1 20 := (f_138.2.2.1 20 rfl).trans (e_130)
          have e_146 : t_136.2.2.1 22 = t.2.2.1 22 := (f_138.2.2.1 22 rfl).trans (e_131)
          have h_147 : (0 : Int) ≤ (t_136.1 0 30).toInt ∧ (t_136.1 0 30).toInt ≤ 120 := hok.1 0 30
          replace p_139 : (t_136.1 0 30).toInt = (t_121.1 0 30).toInt + 1 := p_139
          refine lv_aload_n C.1 C.2.1 dX12_listing_77 rfl (lv_at hl 0 rfl) ?_
          refine lv_iload_n C.1 C.2.1 dX12_listing_78 rfl (lv_at hl 1 rfl) ?_
          refine lv_if_ge (tgt := 87) C.1 C.2.1 dX12_listing_79 (by decide) (fun c_148 => ?_) (fun c_148 => ?_)
          · replace c_148 : 0 ≤ (t.2.2.1 22 ((t_121.1 0 67) : Int32).toNatClampNeg).toInt := i_le c_148
            refine lv_bipush (v := 43) C.1 C.2.1 dX12_listing_87 (by decide) ?_
            refine g_Vv (As := [.int 43]) (rest := []) C hP hD hS hA (T_X12_say l D K Z Y ad t_136 hok 43 (show (t_136.1 0 30).toInt ≤ 119 from by omega)) hE hZ (uwV m_42_13 m_42_14 m_42_15 m_1_5 m_42_16) (hdV 1 (by decide +kernel) rfl) ⟨Nat.le_of_ble_eq_true rfl, Nat.le_of_ble_eq_true rfl⟩ rfl rfl (ci := 11) (q0 := 0) rfl rfl rfl hl.1 (Nat.le_of_ble_eq_true rfl) dX12_listing_89 ⟨Nat.le_of_ble_eq_true rfl, Nat.le_of_ble_eq_true rfl⟩ (fun t_149 H locs hw hP hD hS => ?_)
            obtain ⟨hok, f_151, p_152⟩ := hw
            have hfr : frA [(0, 0), (0, 30), (0, 67)] [] [11, 12, 13, 14] [] t t_149 := frA_tr hfr f_151 rfl
            have h_153 : (t_149.1 0 0).toInt = (t_136.1 0 0).toInt := ti_eq (f_151.1 0 0 rfl)
            have h_154 : (t_149.1 0 42).toInt = (t_136.1 0 42).toInt := ti_eq (f_151.1 0 42 rfl)
            have h_155 : (t_149.1 0 67).toInt = (t_136.1 0 67).toInt := ti_eq (f_151.1 0 67 rfl)
            have h_156 : (t_149.1 0 51).toInt = (t_136.1 0 51).toInt := ti_eq (f_151.1 0 51 rfl)
            have e_157 : t_149.2.2.1 19 = t.2.2.1 19 := (f_151.2.2.1 19 rfl).trans (e_144)
            have e_158 : t_149.2.2.1 20 = t.2.2.1 20 := (f_151.2.2.1 20 rfl).trans (e_145)
            have e_159 : t_149.2.2.1 22 = t.2.2.1 22 := (f_151.2.2.1 22 rfl).trans (e_146)
            have h_160 : (0 : Int) ≤ (t_149.1 0 30).toInt ∧ (t_149.1 0 30).toInt ≤ 120 := hok.1 0 30
            replace p_152 : (t_149.1 0 30).toInt = (t_136.1 0 30).toInt + 1 := p_152
            refine lv_aload_n C.1 C.2.1 dX12_listing_92 rfl (lv_at hl 0 rfl) ?_
            refine lv_iload_n C.1 C.2.1 dX12_listing_93 rfl (lv_at hl 1 rfl) ?_
            refine lv_if_ge (tgt := 103) C.1 C.2.1 dX12_listing_94 (by decide) (fun c_161 => ?_) (fun c_161 => False.elim (by have c_161 : (t.2.2.1 22 ((t_121.1 0 67) : Int32).toNatClampNeg).toInt < 0 := i_nle c_161; omega))
            replace c_161 : 0 ≤ (t.2.2.1 22 ((t_121.1 0 67) : Int32).toNatClampNeg).toInt := i_le c_161
            refine lv_iload_n C.1 C.2.1 dX12_listing_103 rfl (lv_at hl 1 rfl) ?_
            obtain ⟨v_162, e_163⟩ : ∃ z, z = ((t.2.2.1 22 ((t_121.1 0 67) : Int32).toNatClampNeg) : Int32).toInt64 := ⟨_, rfl⟩
            have h_164 : v_162.toInt = (t.2.2.1 22 ((t_121.1 0 67) : Int32).toNatClampNeg).toInt := by rw [e_163]; exact Jvm.Kit.i64_of_i32 _
            refine lv_i2l (v := v_162) C.1 C.2.1 dX12_listing_104 e_163.symm ?_
            refine lv_iconst (v := 4) C.1 C.2.1 dX12_listing_105 (by decide) ?_
            refine g_Vv (As := [.long v_162, .int 4]) (rest := []) C hP hD hS hA (T_X12_sayDigits l D K Z Y ad t_149 hok (v_162) 4 (show (1 : Int) ≤ (4 : Int32).toInt ∧ (4 : Int32).toInt ≤ 10 from ⟨by decide, by decide⟩) (show (t_149.1 0 30).toInt + (4 : Int32).toInt ≤ 120 from by omega) (show 1 ≤ (4 : Int32).toInt from by omega) (show (4 : Int32).toInt ≤ 10 from by omega)) hE hZ (uwV m_42_9 m_42_10 m_42_11 m_1_5 m_42_12) (hdV 2 (by decide +kernel) rfl) ⟨Nat.le_of_ble_eq_true rfl, Nat.le_of_ble_eq_true rfl⟩ rfl rfl (ci := 11) (q0 := 0) rfl rfl rfl hl.1 (Nat.le_of_ble_eq_true rfl) dX12_listing_106 ⟨Nat.le_of_ble_eq_true rfl, Nat.le_of_ble_eq_true rfl⟩ (fun t_165 H locs hw hP hD hS => ?_)
            obtain ⟨hok, f_167, p_168⟩ := hw
            have hfr : frA [(0, 0), (0, 30), (0, 67)] [] [11, 12, 13, 14] [] t t_165 := frA_tr hfr f_167 rfl
            have h_169 : (t_165.1 0 0).toInt = (t_149.1 0 0).toInt := ti_eq (f_167.1 0 0 rfl)
            have h_170 : (t_165.1 0 42).toInt = (t_149.1 0 42).toInt := ti_eq (f_167.1 0 42 rfl)
            have h_171 : (t_165.1 0 67).toInt = (t_149.1 0 67).toInt := ti_eq (f_167.1 0 67 rfl)
            have h_172 : (t_165.1 0 51).toInt = (t_149.1 0 51).toInt := ti_eq (f_167.1 0 51 rfl)
            have e_173 : t_165.2.2.1 19 = t.2.2.1 19 := (f_167.2.2.1 19 rfl).trans (e_157)
            have e_174 : t_165.2.2.1 20 = t.2.2.1 20 := (f_167.2.2.1 20 rfl).trans (e_158)
            have e_175 : t_165.2.2.1 22 = t.2.2.1 22 := (f_167.2.2.1 22 rfl).trans (e_159)
            have h_176 : (0 : Int) ≤ (t_165.1 0 30).toInt ∧ (t_165.1 0 30).toInt ≤ 120 := hok.1 0 30
            replace p_168 : (t_165.1 0 30).toInt = (t_149.1 0 30).toInt + (4 : Int32).toInt := p_168
            refine lv_aload_n C.1 C.2.1 dX12_listing_109 rfl (lv_at hl 0 rfl) ?_
            refine lv_bipush (v := 32) C.1 C.2.1 dX12_listing_110 (by decide) ?_
            refine g_Vv (As := [.int 32]) (rest := []) C hP hD hS hA (T_X12_say l D K Z Y ad t_165 hok 32 (show (t_165.1 0 30).toInt ≤ 119 from by omega)) hE hZ (uwV m_42_13 m_42_14 m_42_15 m_1_5 m_42_16) (hdV 1 (by decide +kernel) rfl) ⟨Nat.le_of_ble_eq_true rfl, Nat.le_of_ble_eq_true rfl⟩ rfl rfl (ci := 11) (q0 := 0) rfl rfl rfl hl.1 (Nat.le_of_ble_eq_true rfl) dX12_listing_112 ⟨Nat.le_of_ble_eq_true rfl, Nat.le_of_ble_eq_true rfl⟩ (fun t_177 H locs hw hP hD hS => ?_)
            obtain ⟨hok, f_179, p_180⟩ := hw
            have hfr : frA [(0, 0), (0, 30), (0, 67)] [] [11, 12, 13, 14] [] t t_177 := frA_tr hfr f_179 rfl
            have h_181 : (t_177.1 0 0).toInt = (t_165.1 0 0).toInt := ti_eq (f_179.1 0 0 rfl)
            have h_182 : (t_177.1 0 42).toInt = (t_165.1 0 42).toInt := ti_eq (f_179.1 0 42 rfl)
            have h_183 : (t_177.1 0 67).toInt = (t_165.1 0 67).toInt := ti_eq (f_179.1 0 67 rfl)
            have h_184 : (t_177.1 0 51).toInt = (t_165.1 0 51).toInt := ti_eq (f_179.1 0 51 rfl)
            have e_185 : t_177.2.2.1 19 = t.2.2.1 19 := (f_179.2.2.1 19 rfl).trans (e_173)
            have e_186 : t_177.2.2.1 20 = t.2.2.1 20 := (f_179.2.2.1 20 rfl).trans (e_174)
            have e_187 : t_177.2.2.1 22 = t.2.2.1 22 := (f_179.2.2.1 22 rfl).trans (e_175)
            have h_188 : (0 : Int) ≤ (t_177.1 0 30).toInt ∧ (t_177.1 0 30).toInt ≤ 120 := hok.1 0 30
            replace p_180 : (t_177.1 0 30).toInt = (t_165.1 0 30).toInt + 1 := p_180
            refine lv_aload_n C.1 C.2.1 dX12_listing_115 rfl (lv_at hl 0 rfl) ?_
            refine lv_aload_n C.1 C.2.1 dX12_listing_116 rfl (lv_at hl 0 rfl) ?_
            refine lv_iload_n C.1 C.2.1 dX12_listing_117 rfl (lv_at hl 1 rfl) ?_
            refine g_Vi (As := [.int (t.2.2.1 22 ((t_121.1 0 67) : Int32).toNatClampNeg)]) (rest := [.ref (ad 0)]) C hP hD hS hA (T_X12_memoryAt l D K Z Y ad t_177 hok ((t.2.2.1 22 ((t_121.1 0 67) : Int32).toNatClampNeg)) (show (-3999 : Int) ≤ ((t.2.2.1 22 ((t_121.1 0 67) : Int32).toNatClampNeg) : Int32).toInt ∧ ((t.2.2.1 22 ((t_121.1 0 67) : Int32).toNatClampNeg) : Int32).toInt ≤ 3999 from ⟨by omega, by omega⟩)) hE hZ (uwV m_38_19 m_38_20 m_38_21 m_1_5 m_38_22) (hdV 1 (by decide +kernel) rfl) ⟨Nat.le_of_ble_eq_true rfl, Nat.le_of_ble_eq_true rfl⟩ rfl rfl (ci := 11) (q0 := 0) rfl rfl rfl hl.1 (Nat.le_of_ble_eq_true rfl) dX12_listing_118 ⟨Nat.le_of_ble_eq_true rfl, Nat.le_of_ble_eq_true rfl⟩ (fun r_190 t_189 H locs hw hP hD hS => ?_)
            obtain ⟨h_192, h_193⟩ := hw
            refine g_Vv (As := [.int r_190]) (rest := []) C hP hD hS hA (T_X12_sayWord l D K Z Y ad t_177 hok (r_190) (show (t_177.1 0 30).toInt ≤ 109 from by omega)) hE hZ (uwV m_64_8 m_64_9 m_64_10 m_1_5 m_64_11) (hdV 1 (by decide +kernel) rfl) ⟨Nat.le_of_ble_eq_true rfl, Nat.le_of_ble_eq_true rfl⟩ rfl rfl (ci := 11) (q0 := 0) rfl rfl rfl hl.1 (Nat.le_of_ble_eq_true rfl) dX12_listing_121 ⟨Nat.le_of_ble_eq_true rfl, Nat.le_of_ble_eq_true rfl⟩ (fun t_194 H locs hw hP hD hS => ?_)
            obtain ⟨hok, f_196, p_197⟩ := hw
            have hfr : frA [(0, 0), (0, 30), (0, 67)] [] [11, 12, 13, 14] [] t t_194 := frA_tr hfr f_196 rfl
            have h_198 : (t_194.1 0 0).toInt = (t_177.1 0 0).toInt := ti_eq (f_196.1 0 0 rfl)
            have h_199 : (t_194.1 0 42).toInt = (t_177.1 0 42).toInt := ti_eq (f_196.1 0 42 rfl)
            have h_200 : (t_194.1 0 67).toInt = (t_177.1 0 67).toInt := ti_eq (f_196.1 0 67 rfl)
            have h_201 : (t_194.1 0 51).toInt = (t_177.1 0 51).toInt := ti_eq (f_196.1 0 51 rfl)
            have e_202 : t_194.2.2.1 19 = t.2.2.1 19 := (f_196.2.2.1 19 rfl).trans (e_185)
            have e_203 : t_194.2.2.1 20 = t.2.2.1 20 := (f_196.2.2.1 20 rfl).trans (e_186)
            have e_204 : t_194.2.2.1 22 = t.2.2.1 22 := (f_196.2.2.1 22 rfl).trans (e_187)
            have h_205 : (0 : Int) ≤ (t_194.1 0 30).toInt ∧ (t_194.1 0 30).toInt ≤ 120 := hok.1 0 30
            replace p_197 : (t_194.1 0 30).toInt = (t_177.1 0 30).toInt + 11 := p_197
            exact L_124 t_194 _ _ _ hok hfr (show (0 : Int) ≤ ((t_194.1 0 0) : Int32).toInt ∧ ((t_194.1 0 0) : Int32).toInt ≤ 0 from ⟨by omega, by omega⟩) (show (1 : Int) ≤ ((t_194.1 0 42) : Int32).toInt ∧ ((t_194.1 0 42) : Int32).toInt ≤ 1 from ⟨by omega, by omega⟩) (show (0 : Int) ≤ ((t_194.1 0 67) : Int32).toInt ∧ ((t_194.1 0 67) : Int32).toInt ≤ 1280 from ⟨by omega, by omega⟩) (show (t_194.1 0 67).toInt ≤ (t_194.1 0 51).toInt from by omega) (show (t_194.1 0 30).toInt ≤ 22 from by omega) (show ((t_194.1 0 51).toInt + 1 - (t_194.1 0 67).toInt) < (fuel_19 : Int) + 1 from by omega) hP hD hS (lv_sub hl [0] rfl)
          · replace c_148 : (t.2.2.1 22 ((t_121.1 0 67) : Int32).toNatClampNeg).toInt < 0 := i_nle c_148
            refine lv_bipush (v := 45) C.1 C.2.1 dX12_listing_82 (by decide) ?_
            refine lv_goto (tgt := 89) C.1 C.2.1 dX12_listing_84 (by decide) ?_
            refine g_Vv (As := [.int 45]) (rest := []) C hP hD hS hA (T_X12_say l D K Z Y ad t_136 hok 45 (show (t_136.1 0 30).toInt ≤ 119 from by omega)) hE hZ (uwV m_42_13 m_42_14 m_42_15 m_1_5 m_42_16) (hdV 1 (by decide +kernel) rfl) ⟨Nat.le_of_ble_eq_true rfl, Nat.le_of_ble_eq_true rfl⟩ rfl rfl (ci := 11) (q0 := 0) rfl rfl rfl hl.1 (Nat.le_of_ble_eq_true rfl) dX12_listing_89 ⟨Nat.le_of_ble_eq_true rfl, Nat.le_of_ble_eq_true rfl⟩ (fun t_206 H locs hw hP hD hS => ?_)
            obtain ⟨hok, f_208, p_209⟩ := hw
            have hfr : frA [(0, 0), (0, 30), (0, 67)] [] [11, 12, 13, 14] [] t t_206 := frA_tr hfr f_208 rfl
            have h_210 : (t_206.1 0 0).toInt = (t_136.1 0 0).toInt := ti_eq (f_208.1 0 0 rfl)
            have h_211 : (t_206.1 0 42).toInt = (t_136.1 0 42).toInt := ti_eq (f_208.1 0 42 rfl)
            have h_212 : (t_206.1 0 67).toInt = (t_136.1 0 67).toInt := ti_eq (f_208.1 0 67 rfl)
            have h_213 : (t_206.1 0 51).toInt = (t_136.1 0 51).toInt := ti_eq (f_208.1 0 51 rfl)
            have e_214 : t_206.2.2.1 19 = t.2.2.1 19 := (f_208.2.2.1 19 rfl).trans (e_144)
            have e_215 : t_206.2.2.1 20 = t.2.2.1 20 := (f_208.2.2.1 20 rfl).trans (e_145)
            have e_216 : t_206.2.2.1 22 = t.2.2.1 22 := (f_208.2.2.1 22 rfl).trans (e_146)
            have h_217 : (0 : Int) ≤ (t_206.1 0 30).toInt ∧ (t_206.1 0 30).toInt ≤ 120 := hok.1 0 30
            replace p_209 : (t_206.1 0 30).toInt = (t_136.1 0 30).toInt + 1 := p_209
            refine lv_aload_n C.1 C.2.1 dX12_listing_92 rfl (lv_at hl 0 rfl) ?_
            refine lv_iload_n C.1 C.2.1 dX12_listing_93 rfl (lv_at hl 1 rfl) ?_
            refine lv_if_ge (tgt := 103) C.1 C.2.1 dX12_listing_94 (by decide) (fun c_218 => False.elim (by have c_218 : 0 ≤ (t.2.2.1 22 ((t_121.1 0 67) : Int32).toNatClampNeg).toInt := i_le c_218; omega)) (fun c_218 => ?_)
            replace c_218 : (t.2.2.1 22 ((t_121.1 0 67) : Int32).toNatClampNeg).toInt < 0 := i_nle c_218
            refine lv_iload_n C.1 C.2.1 dX12_listing_97 rfl (lv_at hl 1 rfl) ?_
            obtain ⟨v_219, e_220⟩ : ∃ z, z = -((t.2.2.1 22 ((t_121.1 0 67) : Int32).toNatClampNeg) : Int32) := ⟨_, rfl⟩
            have h_221 : v_219.toInt = -(t.2.2.1 22 ((t_121.1 0 67) : Int32).toNatClampNeg).toInt := by rw [e_220]; exact Jvm.Kit.i32_neg (by show ¬ (t.2.2.1 22 ((t_121.1 0 67) : Int32).toNatClampNeg).toInt = (_ : Int); omega)
            refine k_ineg (v := v_219) C e_220.symm dX12_listing_98 ?_
            obtain ⟨v_222, e_223⟩ : ∃ z, z = (v_219 : Int32).toInt64 := ⟨_, rfl⟩
            have h_224 : v_222.toInt = v_219.toInt := by rw [e_223]; exact Jvm.Kit.i64_of_i32 _
            refine lv_i2l (v := v_222) C.1 C.2.1 dX12_listing_99 e_223.symm ?_
            refine lv_goto (tgt := 105) C.1 C.2.1 dX12_listing_100 (by decide) ?_
            refine lv_iconst (v := 4) C.1 C.2.1 dX12_listing_105 (by decide) ?_
            refine g_Vv (As := [.long v_222, .int 4]) (rest := []) C hP hD hS hA (T_X12_sayDigits l D K Z Y ad t_206 hok (v_222) 4 (show (1 : Int) ≤ (4 : Int32).toInt ∧ (4 : Int32).toInt ≤ 10 from ⟨by decide, by decide⟩) (show (t_206.1 0 30).toInt + (4 : Int32).toInt ≤ 120 from by omega) (show 1 ≤ (4 : Int32).toInt from by omega) (show (4 : Int32).toInt ≤ 10 from by omega)) hE hZ (uwV m_42_9 m_42_10 m_42_11 m_1_5 m_42_12) (hdV 2 (by decide +kernel) rfl) ⟨Nat.le_of_ble_eq_true rfl, Nat.le_of_ble_eq_true rfl⟩ rfl rfl (ci := 11) (q0 := 0) rfl rfl rfl hl.1 (Nat.le_of_ble_eq_true rfl) dX12_listing_106 ⟨Nat.le_of_ble_eq_true rfl, Nat.le_of_ble_eq_true rfl⟩ (fun t_225 H locs hw hP hD hS => ?_)
            obtain ⟨hok, f_227, p_228⟩ := hw
            have hfr : frA [(0, 0), (0, 30), (0, 67)] [] [11, 12, 13, 14] [] t t_225 := frA_tr hfr f_227 rfl
            have h_229 : (t_225.1 0 0).toInt = (t_206.1 0 0).toInt := ti_eq (f_227.1 0 0 rfl)
            have h_230 : (t_225.1 0 42).toInt = (t_206.1 0 42).toInt := ti_eq (f_227.1 0 42 rfl)
            have h_231 : (t_225.1 0 67).toInt = (t_206.1 0 67).toInt := ti_eq (f_227.1 0 67 rfl)
            have h_232 : (t_225.1 0 51).toInt = (t_206.1 0 51).toInt := ti_eq (f_227.1 0 51 rfl)
            have e_233 : t_225.2.2.1 19 = t.2.2.1 19 := (f_227.2.2.1 19 rfl).trans (e_214)
            have e_234 : t_225.2.2.1 20 = t.2.2.1 20 := (f_227.2.2.1 20 rfl).trans (e_215)
            have e_235 : t_225.2.2.1 22 = t.2.2.1 22 := (f_227.2.2.1 22 rfl).trans (e_216)
            have h_236 : (0 : Int) ≤ (t_225.1 0 30).toInt ∧ (t_225.1 0 30).toInt ≤ 120 := hok.1 0 30
            replace p_228 : (t_225.1 0 30).toInt = (t_206.1 0 30).toInt + (4 : Int32).toInt := p_228
            refine lv_aload_n C.1 C.2.1 dX12_listing_109 rfl (lv_at hl 0 rfl) ?_
            refine lv_bipush (v := 32) C.1 C.2.1 dX12_listing_110 (by decide) ?_
            refine g_Vv (As := [.int 32]) (rest := []) C hP hD hS hA (T_X12_say l D K Z Y ad t_225 hok 32 (show (t_225.1 0 30).toInt ≤ 119 from by omega)) hE hZ (uwV m_42_13 m_42_14 m_42_15 m_1_5 m_42_16) (hdV 1 (by decide +kernel) rfl) ⟨Nat.le_of_ble_eq_true rfl, Nat.le_of_ble_eq_true rfl⟩ rfl rfl (ci := 11) (q0 := 0) rfl rfl rfl hl.1 (Nat.le_of_ble_eq_true rfl) dX12_listing_112 ⟨Nat.le_of_ble_eq_true rfl, Nat.le_of_ble_eq_true rfl⟩ (fun t_237 H locs hw hP hD hS => ?_)
            obtain ⟨hok, f_239, p_240⟩ := hw
            have hfr : frA [(0, 0), (0, 30), (0, 67)] [] [11, 12, 13, 14] [] t t_237 := frA_tr hfr f_239 rfl
            have h_241 : (t_237.1 0 0).toInt = (t_225.1 0 0).toInt := ti_eq (f_239.1 0 0 rfl)
            have h_242 : (t_237.1 0 42).toInt = (t_225.1 0 42).toInt := ti_eq (f_239.1 0 42 rfl)
            have h_243 : (t_237.1 0 67).toInt = (t_225.1 0 67).toInt := ti_eq (f_239.1 0 67 rfl)
            have h_244 : (t_237.1 0 51).toInt = (t_225.1 0 51).toInt := ti_eq (f_239.1 0 51 rfl)
            have e_245 : t_237.2.2.1 19 = t.2.2.1 19 := (f_239.2.2.1 19 rfl).trans (e_233)
            have e_246 : t_237.2.2.1 20 = t.2.2.1 20 := (f_239.2.2.1 20 rfl).trans (e_234)
            have e_247 : t_237.2.2.1 22 = t.2.2.1 22 := (f_239.2.2.1 22 rfl).trans (e_235)
            have h_248 : (0 : Int) ≤ (t_237.1 0 30).toInt ∧ (t_237.1 0 30).toInt ≤ 120 := hok.1 0 30
            replace p_240 : (t_237.1 0 30).toInt = (t_225.1 0 30).toInt + 1 := p_240
            refine lv_aload_n C.1 C.2.1 dX12_listing_115 rfl (lv_at hl 0 rfl) ?_
            refine lv_aload_n C.1 C.2.1 dX12_listing_116 rfl (lv_at hl 0 rfl) ?_
            refine lv_iload_n C.1 C.2.1 dX12_listing_117 rfl (lv_at hl 1 rfl) ?_
            refine g_Vi (As := [.int (t.2.2.1 22 ((t_121.1 0 67) : Int32).toNatClampNeg)]) (rest := [.ref (ad 0)]) C hP hD hS hA (T_X12_memoryAt l D K Z Y ad t_237 hok ((t.2.2.1 22 ((t_121.1 0 67) : Int32).toNatClampNeg)) (show (-3999 : Int) ≤ ((t.2.2.1 22 ((t_121.1 0 67) : Int32).toNatClampNeg) : Int32).toInt ∧ ((t.2.2.1 22 ((t_121.1 0 67) : Int32).toNatClampNeg) : Int32).toInt ≤ 3999 from ⟨by omega, by omega⟩)) hE hZ (uwV m_38_19 m_38_20 m_38_21 m_1_5 m_38_22) (hdV 1 (by decide +kernel) rfl) ⟨Nat.le_of_ble_eq_true rfl, Nat.le_of_ble_eq_true rfl⟩ rfl rfl (ci := 11) (q0 := 0) rfl rfl rfl hl.1 (Nat.le_of_ble_eq_true rfl) dX12_listing_118 ⟨Nat.le_of_ble_eq_true rfl, Nat.le_of_ble_eq_true rfl⟩ (fun r_250 t_249 H locs hw hP hD hS => ?_)
            obtain ⟨h_252, h_253⟩ := hw
            refine g_Vv (As := [.int r_250]) (rest := []) C hP hD hS hA (T_X12_sayWord l D K Z Y ad t_237 hok (r_250) (show (t_237.1 0 30).toInt ≤ 109 from by omega)) hE hZ (uwV m_64_8 m_64_9 m_64_10 m_1_5 m_64_11) (hdV 1 (by decide +kernel) rfl) ⟨Nat.le_of_ble_eq_true rfl, Nat.le_of_ble_eq_true rfl⟩ rfl rfl (ci := 11) (q0 := 0) rfl rfl rfl hl.1 (Nat.le_of_ble_eq_true rfl) dX12_listing_121 ⟨Nat.le_of_ble_eq_true rfl, Nat.le_of_ble_eq_true rfl⟩ (fun t_254 H locs hw hP hD hS => ?_)
            obtain ⟨hok, f_256, p_257⟩ := hw
            have hfr : frA [(0, 0), (0, 30), (0, 67)] [] [11, 12, 13, 14] [] t t_254 := frA_tr hfr f_256 rfl
            have h_258 : (t_254.1 0 0).toInt = (t_237.1 0 0).toInt := ti_eq (f_256.1 0 0 rfl)
            have h_259 : (t_254.1 0 42).toInt = (t_237.1 0 42).toInt := ti_eq (f_256.1 0 42 rfl)
            have h_260 : (t_254.1 0 67).toInt = (t_237.1 0 67).toInt := ti_eq (f_256.1 0 67 rfl)
            have h_261 : (t_254.1 0 51).toInt = (t_237.1 0 51).toInt := ti_eq (f_256.1 0 51 rfl)
            have e_262 : t_254.2.2.1 19 = t.2.2.1 19 := (f_256.2.2.1 19 rfl).trans (e_245)
            have e_263 : t_254.2.2.1 20 = t.2.2.1 20 := (f_256.2.2.1 20 rfl).trans (e_246)
            have e_264 : t_254.2.2.1 22 = t.2.2.1 22 := (f_256.2.2.1 22 rfl).trans (e_247)
            have h_265 : (0 : Int) ≤ (t_254.1 0 30).toInt ∧ (t_254.1 0 30).toInt ≤ 120 := hok.1 0 30
            replace p_257 : (t_254.1 0 30).toInt = (t_237.1 0 30).toInt + 11 := p_257
            exact L_124 t_254 _ _ _ hok hfr (show (0 : Int) ≤ ((t_254.1 0 0) : Int32).toInt ∧ ((t_254.1 0 0) : Int32).toInt ≤ 0 from ⟨by omega, by omega⟩) (show (1 : Int) ≤ ((t_254.1 0 42) : Int32).toInt ∧ ((t_254.1 0 42) : Int32).toInt ≤ 1 from ⟨by omega, by omega⟩) (show (0 : Int) ≤ ((t_254.1 0 67) : Int32).toInt ∧ ((t_254.1 0 67) : Int32).toInt ≤ 1280 from ⟨by omega, by omega⟩) (show (t_254.1 0 67).toInt ≤ (t_254.1 0 51).toInt from by omega) (show (t_254.1 0 30).toInt ≤ 22 from by omega) (show ((t_254.1 0 51).toInt + 1 - (t_254.1 0 67).toInt) < (fuel_19 : Int) + 1 from by omega) hP hD hS (lv_sub hl [0] rfl)
  refine lv_aload_n C.1 C.2.1 dX12_listing_0 rfl (lv_at hl 0 rfl) ?_
  refine lv_iconst (v := 0) C.1 C.2.1 dX12_listing_1 (by decide) ?_
  refine k_put (ws' := WM K ad (uI t 0 0 0)) (v := .int 0) C hP hD hS 0 rfl rfl inlX12 tyX12_ok nmX12 0 (by decide) m_9_18 rfl rfl rfl rfl rfl dX12_listing_2 (fun H locs hP hD hS => ?_)
  have hok : okM (uI t 0 0 0) := ⟨okI_I hok.1 0 0 0 (show (0 : Int) ≤ (0 : Int32).toInt ∧ (0 : Int32).toInt ≤ 1 from ⟨by decide, by decide⟩), hok.2.1, hok.2.2.1, hok.2.2.2.1, hok.2.2.2.2.1, hok.2.2.2.2.2.1, hok.2.2.2.2.2.2.1, trivial⟩
  have hfr : frA [(0, 0), (0, 30), (0, 67)] [] [11, 12, 13, 14] [] t (uI t 0 0 0) := frA_I hfr 0 0 _ rfl
  refine lv_aload_n C.1 C.2.1 dX12_listing_5 rfl (lv_at hl 0 rfl) ?_
  have h_266 : (0 : Int) ≤ (t.1 0 42).toInt ∧ (t.1 0 42).toInt ≤ 1 := hok.1 0 42
  refine k_get (v := .int (t.1 0 42)) C hP 0 rfl rfl inlX12 42 (by decide) m_29_16 rfl dX12_listing_6 ?_
  refine lv_if_ne (tgt := 14) C.1 C.2.1 dX12_listing_9 (by decide) (fun c_267 => ?_) (fun c_267 => ?_)
  · replace c_267 : ¬ (t.1 0 42).toInt = 0 := i_ne c_267
    refine lv_aload_n C.1 C.2.1 dX12_listing_14 rfl (lv_at hl 0 rfl) ?_
    refine lv_iconst (v := 0) C.1 C.2.1 dX12_listing_15 (by decide) ?_
    refine k_put (ws' := WM K ad (uI (uI t 0 0 0) 0 67 0)) (v := .int 0) C hP hD hS 0 rfl rfl inlX12 tyX12_ok nmX12 67 (by decide) m_29_11 rfl rfl rfl rfl rfl dX12_listing_16 (fun H locs hP hD hS => ?_)
    have hok : okM (uI (uI t 0 0 0) 0 67 0) := ⟨okI_I hok.1 0 67 0 (show (0 : Int) ≤ (0 : Int32).toInt ∧ (0 : Int32).toInt ≤ 1281 from ⟨by decide, by decide⟩), hok.2.1, hok.2.2.1, hok.2.2.2.1, hok.2.2.2.2.1, hok.2.2.2.2.2.1, hok.2.2.2.2.2.2.1, trivial⟩
    have hfr : frA [(0, 0), (0, 30), (0, 67)] [] [11, 12, 13, 14] [] t (uI (uI t 0 0 0) 0 67 0) := frA_I hfr 0 67 _ rfl
    exact L_19 2000 (uI (uI t 0 0 0) 0 67 0) _ _ _ hok hfr (show (0 : Int) ≤ (0 : Int32).toInt ∧ (0 : Int32).toInt ≤ 0 from ⟨by decide, by decide⟩) (show (1 : Int) ≤ ((t.1 0 42) : Int32).toInt ∧ ((t.1 0 42) : Int32).toInt ≤ 1 from ⟨by omega, by omega⟩) (show 0 ≤ (t.1 0 51).toInt + 1 from by omega) (show ((t.1 0 51).toInt + 1 - 0) < ((2000 : Nat) : Int) from by omega) hP hD hS (lv_sub hl [0] rfl)
  · replace c_267 : (t.1 0 42).toInt = 0 := i_eq c_267
    refine lv_iconst (v := (-1)) C.1 C.2.1 dX12_listing_12 (by decide) ?_
    exact g_iret C hr hlocks hP hD hS rfl (uI t 0 0 0) rfl ⟨hok, hfr, by decide, by decide⟩ (Nat.le_of_ble_eq_true rfl) (Nat.le_of_ble_eq_true rfl) dX12_listing_13
