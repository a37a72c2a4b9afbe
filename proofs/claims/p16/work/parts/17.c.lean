theorem dX7_printSymbols_0 : decode cX7_printSymbols 0 = .ok (.aload_n 0, 1) := by decide +kernel
theorem dX7_printSymbols_1 : decode cX7_printSymbols 1 = .ok (.getfield 15, 3) := by decide +kernel
theorem dX7_printSymbols_100 : decode cX7_printSymbols 100 = .ok (.aload_n 3, 1) := by decide +kernel
theorem dX7_printSymbols_101 : decode cX7_printSymbols 101 = .ok (.iload 6, 2) := by decide +kernel
theorem dX7_printSymbols_103 : decode cX7_printSymbols 103 = .ok (.invokevirtual 150, 3) := by decide +kernel
theorem dX7_printSymbols_106 : decode cX7_printSymbols 106 = .ok (.i2l, 1) := by decide +kernel
theorem dX7_printSymbols_107 : decode cX7_printSymbols 107 = .ok (.invokevirtual 42, 3) := by decide +kernel
theorem dX7_printSymbols_11 : decode cX7_printSymbols 11 = .ok (.aload_n 3, 1) := by decide +kernel
theorem dX7_printSymbols_110 : decode cX7_printSymbols 110 = .ok (.aload_n 3, 1) := by decide +kernel
theorem dX7_printSymbols_111 : decode cX7_printSymbols 111 = .ok (.iload 5, 2) := by decide +kernel
theorem dX7_printSymbols_113 : decode cX7_printSymbols 113 = .ok (.iload 6, 2) := by decide +kernel
theorem dX7_printSymbols_115 : decode cX7_printSymbols 115 = .ok (.iconst 1, 1) := by decide +kernel
theorem dX7_printSymbols_116 : decode cX7_printSymbols 116 = .ok (.iadd, 1) := by decide +kernel
theorem dX7_printSymbols_117 : decode cX7_printSymbols 117 = .ok (.invokevirtual 147, 3) := by decide +kernel
theorem dX7_printSymbols_12 : decode cX7_printSymbols 12 = .ok (.lconst 0, 1) := by decide +kernel
theorem dX7_printSymbols_120 : decode cX7_printSymbols 120 = .ok (.istore 6, 2) := by decide +kernel
theorem dX7_printSymbols_122 : decode cX7_printSymbols 122 = .ok (.iinc 7 1, 3) := by decide +kernel
theorem dX7_printSymbols_125 : decode cX7_printSymbols 125 = .ok (.goto (-48), 3) := by decide +kernel
theorem dX7_printSymbols_128 : decode cX7_printSymbols 128 = .ok (.aload_n 0, 1) := by decide +kernel
theorem dX7_printSymbols_129 : decode cX7_printSymbols 129 = .ok (.getfield 25, 3) := by decide +kernel
theorem dX7_printSymbols_13 : decode cX7_printSymbols 13 = .ok (.invokevirtual 128, 3) := by decide +kernel
theorem dX7_printSymbols_132 : decode cX7_printSymbols 132 = .ok (.iload_n 2, 1) := by decide +kernel
theorem dX7_printSymbols_133 : decode cX7_printSymbols 133 = .ok (.iconst 0, 1) := by decide +kernel
theorem dX7_printSymbols_134 : decode cX7_printSymbols 134 = .ok (.invokevirtual 56, 3) := by decide +kernel
theorem dX7_printSymbols_137 : decode cX7_printSymbols 137 = .ok (.iinc 4 1, 3) := by decide +kernel
theorem dX7_printSymbols_140 : decode cX7_printSymbols 140 = .ok (.aload_n 3, 1) := by decide +kernel
theorem dX7_printSymbols_141 : decode cX7_printSymbols 141 = .ok (.aload_n 3, 1) := by decide +kernel
theorem dX7_printSymbols_142 : decode cX7_printSymbols 142 = .ok (.getfield 136, 3) := by decide +kernel
theorem dX7_printSymbols_145 : decode cX7_printSymbols 145 = .ok (.iload 5, 2) := by decide +kernel
theorem dX7_printSymbols_147 : decode cX7_printSymbols 147 = .ok (.laload, 1) := by decide +kernel
theorem dX7_printSymbols_148 : decode cX7_printSymbols 148 = .ok (.invokevirtual 128, 3) := by decide +kernel
theorem dX7_printSymbols_151 : decode cX7_printSymbols 151 = .ok (.istore 5, 2) := by decide +kernel
theorem dX7_printSymbols_153 : decode cX7_printSymbols 153 = .ok (.goto (-135), 3) := by decide +kernel
theorem dX7_printSymbols_156 : decode cX7_printSymbols 156 = .ok (.iload 4, 2) := by decide +kernel
theorem dX7_printSymbols_158 : decode cX7_printSymbols 158 = .ok (.ireturn, 1) := by decide +kernel
theorem dX7_printSymbols_16 : decode cX7_printSymbols 16 = .ok (.istore 5, 2) := by decide +kernel
theorem dX7_printSymbols_18 : decode cX7_printSymbols 18 = .ok (.iload 5, 2) := by decide +kernel
theorem dX7_printSymbols_20 : decode cX7_printSymbols 20 = .ok (.ifCond .lt 136, 3) := by decide +kernel
theorem dX7_printSymbols_23 : decode cX7_printSymbols 23 = .ok (.iload 4, 2) := by decide +kernel
theorem dX7_printSymbols_25 : decode cX7_printSymbols 25 = .ok (.aload_n 3, 1) := by decide +kernel
theorem dX7_printSymbols_26 : decode cX7_printSymbols 26 = .ok (.getfield 133, 3) := by decide +kernel
theorem dX7_printSymbols_29 : decode cX7_printSymbols 29 = .ok (.if_icmp .ge 127, 3) := by decide +kernel
theorem dX7_printSymbols_32 : decode cX7_printSymbols 32 = .ok (.aload_n 0, 1) := by decide +kernel
theorem dX7_printSymbols_33 : decode cX7_printSymbols 33 = .ok (.getfield 25, 3) := by decide +kernel
theorem dX7_printSymbols_36 : decode cX7_printSymbols 36 = .ok (.iconst 1, 1) := by decide +kernel
theorem dX7_printSymbols_37 : decode cX7_printSymbols 37 = .ok (.aload_n 3, 1) := by decide +kernel
theorem dX7_printSymbols_38 : decode cX7_printSymbols 38 = .ok (.getfield 136, 3) := by decide +kernel
theorem dX7_printSymbols_4 : decode cX7_printSymbols 4 = .ok (.getfield 124, 3) := by decide +kernel
theorem dX7_printSymbols_41 : decode cX7_printSymbols 41 = .ok (.iload 5, 2) := by decide +kernel
theorem dX7_printSymbols_43 : decode cX7_printSymbols 43 = .ok (.laload, 1) := by decide +kernel
theorem dX7_printSymbols_44 : decode cX7_printSymbols 44 = .ok (.invokevirtual 140, 3) := by decide +kernel
theorem dX7_printSymbols_47 : decode cX7_printSymbols 47 = .ok (.aload_n 0, 1) := by decide +kernel
theorem dX7_printSymbols_48 : decode cX7_printSymbols 48 = .ok (.getfield 25, 3) := by decide +kernel
theorem dX7_printSymbols_51 : decode cX7_printSymbols 51 = .ok (.bipush 12, 2) := by decide +kernel
theorem dX7_printSymbols_53 : decode cX7_printSymbols 53 = .ok (.bipush 10, 2) := by decide +kernel
theorem dX7_printSymbols_55 : decode cX7_printSymbols 55 = .ok (.aload_n 3, 1) := by decide +kernel
theorem dX7_printSymbols_56 : decode cX7_printSymbols 56 = .ok (.getfield 144, 3) := by decide +kernel
theorem dX7_printSymbols_59 : decode cX7_printSymbols 59 = .ok (.iload 5, 2) := by decide +kernel
theorem dX7_printSymbols_61 : decode cX7_printSymbols 61 = .ok (.iaload, 1) := by decide +kernel
theorem dX7_printSymbols_62 : decode cX7_printSymbols 62 = .ok (.invokevirtual 83, 3) := by decide +kernel
theorem dX7_printSymbols_65 : decode cX7_printSymbols 65 = .ok (.aload_n 3, 1) := by decide +kernel
theorem dX7_printSymbols_66 : decode cX7_printSymbols 66 = .ok (.iload 5, 2) := by decide +kernel
theorem dX7_printSymbols_68 : decode cX7_printSymbols 68 = .ok (.iconst 0, 1) := by decide +kernel
theorem dX7_printSymbols_69 : decode cX7_printSymbols 69 = .ok (.invokevirtual 147, 3) := by decide +kernel
theorem dX7_printSymbols_7 : decode cX7_printSymbols 7 = .ok (.astore_n 3, 1) := by decide +kernel
theorem dX7_printSymbols_72 : decode cX7_printSymbols 72 = .ok (.istore 6, 2) := by decide +kernel
theorem dX7_printSymbols_74 : decode cX7_printSymbols 74 = .ok (.iconst 0, 1) := by decide +kernel
theorem dX7_printSymbols_75 : decode cX7_printSymbols 75 = .ok (.istore 7, 2) := by decide +kernel
theorem dX7_printSymbols_77 : decode cX7_printSymbols 77 = .ok (.iload 7, 2) := by decide +kernel
theorem dX7_printSymbols_79 : decode cX7_printSymbols 79 = .ok (.iload_n 1, 1) := by decide +kernel
theorem dX7_printSymbols_8 : decode cX7_printSymbols 8 = .ok (.iconst 0, 1) := by decide +kernel
theorem dX7_printSymbols_80 : decode cX7_printSymbols 80 = .ok (.if_icmp .ge 48, 3) := by decide +kernel
theorem dX7_printSymbols_83 : decode cX7_printSymbols 83 = .ok (.iload 6, 2) := by decide +kernel
theorem dX7_printSymbols_85 : decode cX7_printSymbols 85 = .ok (.ifCond .lt 43, 3) := by decide +kernel
theorem dX7_printSymbols_88 : decode cX7_printSymbols 88 = .ok (.aload_n 0, 1) := by decide +kernel
theorem dX7_printSymbols_89 : decode cX7_printSymbols 89 = .ok (.getfield 25, 3) := by decide +kernel
theorem dX7_printSymbols_9 : decode cX7_printSymbols 9 = .ok (.istore 4, 2) := by decide +kernel
theorem dX7_printSymbols_92 : decode cX7_printSymbols 92 = .ok (.bipush 24, 2) := by decide +kernel
theorem dX7_printSymbols_94 : decode cX7_printSymbols 94 = .ok (.iconst 5, 1) := by decide +kernel
theorem dX7_printSymbols_95 : decode cX7_printSymbols 95 = .ok (.iload 7, 2) := by decide +kernel
theorem dX7_printSymbols_97 : decode cX7_printSymbols 97 = .ok (.imul, 1) := by decide +kernel
theorem dX7_printSymbols_98 : decode cX7_printSymbols 98 = .ok (.iadd, 1) := by decide +kernel
theorem dX7_printSymbols_99 : decode cX7_printSymbols 99 = .ok (.iconst 4, 1) := by decide +kernel
set_option maxHeartbeats 4000000 in
set_option maxRecDepth 100000 in
theorem T_X7_printSymbols (l : Launch) (D : va_G) (K : Nat → ClassId) (Z Y : Nat → Nat) (ad : Nat → Nat) (d : dSt) (t : tSt) (hok : okX t) (hod : okD d) (x1 : Int32) (hx1 : (10 : Int) ≤ x1.toInt ∧ x1.toInt ≤ 16) (x2 : Int32) (hx2 : (72 : Int) ≤ x2.toInt ∧ x2.toInt ≤ 120) : dMet l yX7_printSymbols cX7_printSymbols 8 (some .int) (rmD 3 4000 1120000) D K Z Y [.ref (ad 6), .int x1, .int x2] ((WX d) K ad t) (QDI D K ad d (fun (r : Int32) (u : tSt) (dd : dSt) => okX u ∧ frA [(20, 3)] [] [35, 36, 37] [] t u ∧ okD dd ∧ (0 : Int) ≤ r.toInt ∧ r.toInt ≤ 1024)) 4000 1120000 := by
  refine d_met d RX7 ⟨rfl, by decide +kernel⟩ (Nat.le_of_ble_eq_true rfl) ?_
  intro p e s m below meth c A ls C hE hZ hX hr hlocks hA hP hD hS hl
  have hl : lv_has ls 8 [(0, .ref (ad 6)), (1, .int x1), (2, .int x2)] := hl
  have hle : dLe d d := dLe_rf
  have hdf : dFr s.heap.size d d := dFr_rf
  have hokt := hok
  have hfr : frA [(20, 3)] [] [35, 36, 37] [] t t := frA_rf
  have h_1 : (0 : Int) ≤ (t.1 23 6).toInt ∧ (t.1 23 6).toInt ≤ 4096 := hok.1 23 6
  have L_18 : ∀ (fuel_18 : Nat) (t1 : tSt) (d1 : dSt) (w18_4 : Int32) (w18_5 : Int32) (H : Heap) (locs : List Loc) (ls : Array Slot), okX t1 → frA [(20, 3)] [] [35, 36, 37] [] t t1 → okD d1 → dLe d d1 → dFr s.heap.size d d1 → (0 : Int) ≤ w18_4.toInt ∧ w18_4.toInt ≤ 1024 → (-1 : Int) ≤ w18_5.toInt ∧ w18_5.toInt ≤ 1023 → (1024 : Int) - w18_4.toInt < (fuel_18 : Int) → va_P D vwCl ((WX d1) K ad t1) H → va_D A ((WX d1) K ad t1) → va_S A s.heap H locs → lv_has ls 8 [(0, .ref (ad 6)), (1, .int x1), (2, .int x2), (3, .ref (ad 23)), (4, .int w18_4), (5, .int w18_5)] → W p l e (rmD 3 4000 1120000) s m [.ref (ad 6), .int x1, .int x2].toArray below meth c H locs (newC d d1) 246800 (MQ below (QDI D K ad d (fun (r : Int32) (u : tSt) (dd : dSt) => okX u ∧ frA [(20, 3)] [] [35, 36, 37] [] t u ∧ okD dd ∧ (0 : Int) ≤ r.toInt ∧ r.toInt ≤ 1024) s.heap.size A) [.ref (ad 6), .int x1, .int x2].toArray s 4000 1120000 A) (F0 m 18 ls []) := by
    intro fuel_18
    induction fuel_18 with
    | zero =>
      intro t1 d1 w18_4 w18_5 H locs ls hok hfr hod hle hdf hw18_4 hw18_5 hm18_18 hP hD hS hl
      have h_2 : (t1.1 23 6).toInt = (t.1 23 6).toInt := ti_eq (hfr.1 23 6 rfl)
      have h_3 : (0 : Int) ≤ (t1.1 23 6).toInt ∧ (t1.1 23 6).toInt ≤ 4096 := hok.1 23 6
      exact absurd hm18_18 (by omega)
    | succ fuel_18 ih_18 =>
      intro t1 d1 w18_4 w18_5 H locs ls hok hfr hod hle hdf hw18_4 hw18_5 hm18_18 hP hD hS hl
      have hm18_18 : (1024 : Int) - w18_4.toInt < (fuel_18 : Int) + 1 := by omega
      have h_4 : (t1.1 23 6).toInt = (t.1 23 6).toInt := ti_eq (hfr.1 23 6 rfl)
      have h_5 : (0 : Int) ≤ (t1.1 23 6).toInt ∧ (t1.1 23 6).toInt ≤ 4096 := hok.1 23 6
      have L_128 : ∀ (t1 : tSt) (d1 : dSt) (w128_4 : Int32) (w128_5 : Int32) (w128_6 : Int32) (w128_7 : Int32) (H : Heap) (locs : List Loc) (ls : Array Slot), okX t1 → frA [(20, 3)] [] [35, 36, 37] [] t t1 → okD d1 → dLe d d1 → dFr s.heap.size d d1 → (0 : Int) ≤ w128_4.toInt ∧ w128_4.toInt ≤ 1023 → (0 : Int) ≤ w128_5.toInt ∧ w128_5.toInt ≤ 1023 → (-1 : Int) ≤ w128_6.toInt ∧ w128_6.toInt ≤ 2147483647 → (0 : Int) ≤ w128_7.toInt ∧ w128_7.toInt ≤ 16 → (1 : Int) ≤ (t1.1 23 3).toInt ∧ (t1.1 23 3).toInt ≤ 1024 → (1024 : Int) - w128_4.toInt < (fuel_18 : Int) + 1 → va_P D vwCl ((WX d1) K ad t1) H → va_D A ((WX d1) K ad t1) → va_S A s.heap H locs → lv_has ls 8 [(0, .ref (ad 6)), (1, .int x1), (2, .int x2), (3, .ref (ad 23)), (4, .int w128_4), (5, .int w128_5), (6, .int w128_6), (7, .int w128_7)] → W p l e (rmD 3 4000 1120000) s m [.ref (ad 6), .int x1, .int x2].toArray below meth c H locs (newC d d1) 246800 (MQ below (QDI D K ad d (fun (r : Int32) (u : tSt) (dd : dSt) => okX u ∧ frA [(20, 3)] [] [35, 36, 37] [] t u ∧ okD dd ∧ (0 : Int) ≤ r.toInt ∧ r.toInt ≤ 1024) s.heap.size A) [.ref (ad 6), .int x1, .int x2].toArray s 4000 1120000 A) (F0 m 128 ls []) := by
        intro t1 d1 w128_4 w128_5 w128_6 w128_7 H locs ls hok hfr hod hle hdf hw128_4 hw128_5 hw128_6 hw128_7 hf128_3 hm128_18 hP hD hS hl
        have h_6 : (t1.1 23 6).toInt = (t.1 23 6).toInt := ti_eq (hfr.1 23 6 rfl)
        have h_7 : (0 : Int) ≤ (t1.1 23 6).toInt ∧ (t1.1 23 6).toInt ≤ 4096 := hok.1 23 6
        refine lv_aload_n C.1 C.2.1 dX7_printSymbols_128 rfl (lv_at hl 0 rfl) ?_
        refine k_get (v := .ref (ad 20)) C hP 6 rfl rfl inlX7 2 (by decide) m_6_14 rfl dX7_printSymbols_129 ?_
        refine lv_iload_n C.1 C.2.1 dX7_printSymbols_132 rfl (lv_at hl 2 rfl) ?_
        refine lv_iconst (v := 0) C.1 C.2.1 dX7_printSymbols_133 (by decide) ?_
        refine g_DVv (As := [.int x2, .int 0]) (rest := []) C hP hD hS hA (T_X4_finish l D K Z Y ad d1 t1 hok hod (x2) (show (72 : Int) ≤ (x2 : Int32).toInt ∧ (x2 : Int32).toInt ≤ 120 from ⟨by omega, by omega⟩) 0 (show (0 : Int) ≤ (0 : Int32).toInt ∧ (0 : Int32).toInt ≤ 1 from ⟨by decide, by decide⟩)) hE hZ hX hle hdf (uwV m_41_7 m_41_8 m_41_9 m_3_20 m_41_10) (hdV 2 (by decide +kernel) rfl) ⟨Nat.le_of_ble_eq_true rfl, Nat.le_of_ble_eq_true rfl⟩ rfl rfl (ci := 3) (q0 := 20) rfl rfl rfl hl.1 (Nat.le_of_ble_eq_true rfl) dX7_printSymbols_134 ⟨Nat.le_of_ble_eq_true rfl, Nat.le_of_ble_eq_true rfl⟩ (fun t_8 d_10 H locs hw hP hD hS hln hle hdf => ?_)
        obtain ⟨hok, f_11, hod⟩ := hw
        have hfr : frA [(20, 3)] [] [35, 36, 37] [] t t_8 := frA_tr hfr f_11 rfl
        have h_12 : (t_8.1 23 3).toInt = (t1.1 23 3).toInt := ti_eq (f_11.1 23 3 rfl)
        have h_13 : (t_8.1 23 6).toInt = (t1.1 23 6).toInt := ti_eq (f_11.1 23 6 rfl)
        have h_14 : (0 : Int) ≤ (t_8.1 23 6).toInt ∧ (t_8.1 23 6).toInt ≤ 4096 := hok.1 23 6
        obtain ⟨v_15, e_16⟩ : ∃ z, z = w128_4 + 1 := ⟨_, rfl⟩
        have h_17 : v_15.toInt = w128_4.toInt + 1 := by rw [e_16]; exact ti_iadd (by show (_ : Int) ≤ w128_4.toInt + 1; omega) (by show w128_4.toInt + 1 < (_ : Int); omega)
        refine lv_iinc (v := v_15) (lv' := [(4, .int v_15), (0, .ref (ad 6)), (1, .int x1), (2, .int x2), (3, .ref (ad 23)), (5, .int w128_5), (6, .int w128_6), (7, .int w128_7)]) C.1 C.2.1 dX7_printSymbols_137 hl (k := 4) rfl e_16.symm (by decide) rfl (fun ls hl => ?_)
        have hl : lv_has ls 8 [(0, .ref (ad 6)), (1, .int x1), (2, .int x2), (3, .ref (ad 23)), (4, .int v_15), (5, .int w128_5), (6, .int w128_6), (7, .int w128_7)] := lv_sub hl [1, 2, 3, 4, 0, 5, 6, 7] rfl
        refine lv_aload_n C.1 C.2.1 dX7_printSymbols_140 rfl (lv_at hl 3 rfl) ?_
        refine lv_aload_n C.1 C.2.1 dX7_printSymbols_141 rfl (lv_at hl 3 rfl) ?_
        refine k_get (v := .ref (ad 41)) C hP 23 rfl rfl inlX8 0 (by decide) m_68_17 rfl dX7_printSymbols_142 ?_
        refine lv_iload C.1 C.2.1 dX7_printSymbols_145 (lv_at hl 5 rfl) ?_
        refine k_lld (v := (t_8.2.2.2 41 (w128_5 : Int32).toNatClampNeg)) C hP 41 rfl (vp_in_iff.mpr ⟨by omega, by omega⟩) rfl dX7_printSymbols_147 ?_
        refine hz_Vi (As := [.long (t_8.2.2.2 41 (w128_5 : Int32).toNatClampNeg)]) (rest := []) C hP hD hS hA (T_X8_nextInOrder l D K Z Y ad d_10 t_8 hok ((t_8.2.2.2 41 (w128_5 : Int32).toNatClampNeg))) hE hZ (uwV m_68_19 m_68_20 m_68_21 m_2_5 m_68_22) (hdV 1 (by decide +kernel) rfl) ⟨Nat.le_of_ble_eq_true rfl, Nat.le_of_ble_eq_true rfl⟩ rfl rfl (ci := 7) (q0 := 23) rfl rfl rfl hl.1 (Nat.le_of_ble_eq_true rfl) dX7_printSymbols_148 ⟨Nat.le_trans (newC_le _ _) (Nat.le_of_ble_eq_true rfl), (Nat.le_of_ble_eq_true rfl)⟩ (fun r_19 t_18 H locs hw hP hD hS => ?_)
        obtain ⟨h_21, h_22⟩ := hw
        refine lv_istore (lv' := [(5, .int r_19), (0, .ref (ad 6)), (1, .int x1), (2, .int x2), (3, .ref (ad 23)), (4, .int v_15), (6, .int w128_6), (7, .int w128_7)]) C.1 C.2.1 dX7_printSymbols_151 hl (by decide) rfl (fun ls hl => ?_)
        have hl : lv_has ls 8 [(0, .ref (ad 6)), (1, .int x1), (2, .int x2), (3, .ref (ad 23)), (4, .int v_15), (5, .int r_19), (6, .int w128_6), (7, .int w128_7)] := lv_sub hl [1, 2, 3, 4, 5, 0, 6, 7] rfl
        refine lv_goto (tgt := 18) C.1 C.2.1 dX7_printSymbols_153 (by decide) ?_
        exact ih_18 t_8 d_10 v_15 r_19 _ _ _ hok hfr hod hle hdf ⟨by omega, by omega⟩ ⟨by omega, by omega⟩ (show (1024 : Int) - v_15.toInt < (fuel_18 : Int) from by omega) hP hD hS (lv_sub hl [0, 1, 2, 3, 4, 5] rfl)
      have L_77 : ∀ (fuel_77 : Nat) (t1 : tSt) (d1 : dSt) (w77_4 : Int32) (w77_5 : Int32) (w77_6 : Int32) (w77_7 : Int32) (H : Heap) (locs : List Loc) (ls : Array Slot), okX t1 → frA [(20, 3)] [] [35, 36, 37] [] t t1 → okD d1 → dLe d d1 → dFr s.heap.size d d1 → (0 : Int) ≤ w77_4.toInt ∧ w77_4.toInt ≤ 1023 → (0 : Int) ≤ w77_5.toInt ∧ w77_5.toInt ≤ 1023 → (-1 : Int) ≤ w77_6.toInt ∧ w77_6.toInt ≤ 2147483647 → (0 : Int) ≤ w77_7.toInt ∧ w77_7.toInt ≤ 16 → (1 : Int) ≤ (t1.1 23 3).toInt ∧ (t1.1 23 3).toInt ≤ 1024 → (w77_6.toInt < (t1.1 23 6).toInt ∨ w77_6.toInt = -1) → (1024 : Int) - w77_4.toInt < (fuel_18 : Int) + 1 → (16 : Int) - w77_7.toInt < (fuel_77 : Int) → va_P D vwCl ((WX d1) K ad t1) H → va_D A ((WX d1) K ad t1) → va_S A s.heap H locs → lv_has ls 8 [(0, .ref (ad 6)), (1, .int x1), (2, .int x2), (3, .ref (ad 23)), (4, .int w77_4), (5, .int w77_5), (6, .int w77_6), (7, .int w77_7)] → W p l e (rmD 3 4000 1120000) s m [.ref (ad 6), .int x1, .int x2].toArray below meth c H locs (newC d d1) 246800 (MQ below (QDI D K ad d (fun (r : Int32) (u : tSt) (dd : dSt) => okX u ∧ frA [(20, 3)] [] [35, 36, 37] [] t u ∧ okD dd ∧ (0 : Int) ≤ r.toInt ∧ r.toInt ≤ 1024) s.heap.size A) [.ref (ad 6), .int x1, .int x2].toArray s 4000 1120000 A) (F0 m 77 ls []) := by
        intro fuel_77
        induction fuel_77 with
        | zero =>
          intro t1 d1 w77_4 w77_5 w77_6 w77_7 H locs ls hok hfr hod hle hdf hw77_4 hw77_5 hw77_6 hw77_7 hf77_3 hi77_0 hm77_18 hm77_77 hP hD hS hl
          have h_23 : (t1.1 23 6).toInt = (t.1 23 6).toInt := ti_eq (hfr.1 23 6 rfl)
          have h_24 : (0 : Int) ≤ (t1.1 23 6).toInt ∧ (t1.1 23 6).toInt ≤ 4096 := hok.1 23 6
          exact absurd hm77_77 (by omega)
        | succ fuel_77 ih_77 =>
          intro t1 d1 w77_4 w77_5 w77_6 w77_7 H locs ls hok hfr hod hle hdf hw77_4 hw77_5 hw77_6 hw77_7 hf77_3 hi77_0 hm77_18 hm77_77 hP hD hS hl
          have hm77_77 : (16 : Int) - w77_7.toInt < (fuel_77 : Int) + 1 := by omega
          have h_25 : (t1.1 23 6).toInt = (t.1 23 6).toInt := ti_eq (hfr.1 23 6 rfl)
          have h_26 : (0 : Int) ≤ (t1.1 23 6).toInt ∧ (t1.1 23 6).toInt ≤ 4096 := hok.1 23 6
          refine lv_iload C.1 C.2.1 dX7_printSymbols_77 (lv_at hl 7 rfl) ?_
          refine lv_iload_n C.1 C.2.1 dX7_printSymbols_79 rfl (lv_at hl 1 rfl) ?_
          refine lv_icmp_ge (tgt := 128) C.1 C.2.1 dX7_printSymbols_80 (by decide) (fun c_27 => ?_) (fun c_27 => ?_)
          · replace c_27 : x1.toInt ≤ w77_7.toInt := i_le c_27
            exact L_128 t1 d1 w77_4 w77_5 w77_6 w77_7 _ _ _ hok hfr hod hle hdf ⟨by omega, by omega⟩ ⟨by omega, by omega⟩ ⟨by omega, (i_rng _).2⟩ ⟨by omega, by omega⟩ (show (1 : Int) ≤ ((t1.1 23 3) : Int32).toInt ∧ ((t1.1 23 3) : Int32).toInt ≤ 1024 from ⟨by omega, by omega⟩) (show (1024 : Int) - w77_4.toInt < (fuel_18 : Int) + 1 from by omega) hP hD hS (lv_sub hl [0, 1, 2, 3, 4, 5, 6, 7] rfl)
          · replace c_27 : w77_7.toInt < x1.toInt := i_nle c_27
            refine lv_iload C.1 C.2.1 dX7_printSymbols_83 (lv_at hl 6 rfl) ?_
            refine lv_if_lt (tgt := 128) C.1 C.2.1 dX7_printSymbols_85 (by decide) (fun c_28 => ?_) (fun c_28 => ?_)
            · replace c_28 : w77_6.toInt < 0 := i_lt c_28
              exact L_128 t1 d1 w77_4 w77_5 w77_6 w77_7 _ _ _ hok hfr hod hle hdf ⟨by omega, by omega⟩ ⟨by omega, by omega⟩ ⟨by omega, (i_rng _).2⟩ ⟨by omega, by omega⟩ (show (1 : Int) ≤ ((t1.1 23 3) : Int32).toInt ∧ ((t1.1 23 3) : Int32).toInt ≤ 1024 from ⟨by omega, by omega⟩) (show (1024 : Int) - w77_4.toInt < (fuel_18 : Int) + 1 from by omega) hP hD hS (lv_sub hl [0, 1, 2, 3, 4, 5, 6, 7] rfl)
            · replace c_28 : 0 ≤ w77_6.toInt := i_nlt c_28
              refine lv_aload_n C.1 C.2.1 dX7_printSymbols_88 rfl (lv_at hl 0 rfl) ?_
              refine k_get (v := .ref (ad 20)) C hP 6 rfl rfl inlX7 2 (by decide) m_6_14 rfl dX7_printSymbols_89 ?_
              refine lv_bipush (v := 24) C.1 C.2.1 dX7_printSymbols_92 (by decide) ?_
              refine lv_iconst (v := 5) C.1 C.2.1 dX7_printSymbols_94 (by decide) ?_
              refine lv_iload C.1 C.2.1 dX7_printSymbols_95 (lv_at hl 7 rfl) ?_
              obtain ⟨v_29, e_30⟩ : ∃ z, z = (5 : Int32) * (w77_7 : Int32) := ⟨_, rfl⟩
              have h_31 : v_29.toInt = 5 * w77_7.toInt := by rw [e_30]; exact ti_mull (k := 5) (by decide) (by omega) (by omega)
              refine k_imul (v := v_29) C e_30.symm dX7_printSymbols_97 ?_
              obtain ⟨v_32, e_33⟩ : ∃ z, z = (24 : Int32) + (v_29 : Int32) := ⟨_, rfl⟩
              have h_34 : v_32.toInt = 24 + v_29.toInt := by rw [e_33]; exact ti_iadd (by show (_ : Int) ≤ 24 + v_29.toInt; omega) (by show 24 + v_29.toInt < (_ : Int); omega)
              refine k_iadd (v := v_32) C e_33.symm dX7_printSymbols_98 ?_
              refine lv_iconst (v := 4) C.1 C.2.1 dX7_printSymbols_99 (by decide) ?_
              refine lv_aload_n C.1 C.2.1 dX7_printSymbols_100 rfl (lv_at hl 3 rfl) ?_
              refine lv_iload C.1 C.2.1 dX7_printSymbols_101 (lv_at hl 6 rfl) ?_
              refine hz_Vi (As := [.int w77_6]) (rest := [.int 4, .int v_32, .ref (ad 20)]) C hP hD hS hA (T_X8_lineOfRead l D K Z Y ad d1 t1 hok (w77_6) (show (0 : Int) ≤ (w77_6 : Int32).toInt ∧ (w77_6 : Int32).toInt ≤ 2147483647 from ⟨by omega, (i_rng _).2⟩)) hE hZ (uwV m_69_12 m_69_13 m_69_14 m_2_5 m_69_15) (hdV 1 (by decide +kernel) rfl) ⟨Nat.le_of_ble_eq_true rfl, Nat.le_of_ble_eq_true rfl⟩ rfl rfl (ci := 7) (q0 := 23) rfl rfl rfl hl.1 (Nat.le_of_ble_eq_true rfl) dX7_printSymbols_103 ⟨Nat.le_trans (newC_le _ _) (Nat.le_of_ble_eq_true rfl), (Nat.le_of_ble_eq_true rfl)⟩ (fun r_36 t_35 H locs hw hP hD hS => ?_)
              obtain ⟨h_38, h_39⟩ := hw
              obtain ⟨v_40, e_41⟩ : ∃ z, z = (r_36 : Int32).toInt64 := ⟨_, rfl⟩
              have h_42 : v_40.toInt = r_36.toInt := by rw [e_41]; exact Jvm.Kit.i64_of_i32 _
              have h_43 := i_rng r_36
              refine lv_i2l (v := v_40) C.1 C.2.1 dX7_printSymbols_106 e_41.symm ?_
              have h_44 : (4 : Int32).toInt = 4 := rfl
              refine hz_Vv (As := [.int v_32, .int 4, .long v_40]) (rest := []) C hP hD hS hA (T_X4_digits l D K Z Y ad d1 t1 hok (v_32) (show (0 : Int) ≤ (v_32 : Int32).toInt ∧ (v_32 : Int32).toInt ≤ 200 from ⟨by omega, by omega⟩) 4 (show (1 : Int) ≤ (4 : Int32).toInt ∧ (4 : Int32).toInt ≤ 10 from ⟨by decide, by decide⟩) (v_40) (show 0 ≤ (4 : Int32).toInt from by omega)) hE hZ (uwV m_40_18 m_40_19 m_40_20 m_3_20 m_40_21) (hdV 3 (by decide +kernel) rfl) ⟨Nat.le_of_ble_eq_true rfl, Nat.le_of_ble_eq_true rfl⟩ rfl rfl (ci := 3) (q0 := 20) rfl rfl rfl hl.1 (Nat.le_of_ble_eq_true rfl) dX7_printSymbols_107 ⟨Nat.le_trans (newC_le _ _) (Nat.le_of_ble_eq_true rfl), (Nat.le_of_ble_eq_true rfl)⟩ (fun t_45 H locs hw hP hD hS => ?_)
              obtain ⟨hok, f_47⟩ := hw
              have hfr : frA [(20, 3)] [] [35, 36, 37] [] t t_45 := frA_tr hfr f_47 rfl
              have h_48 : (t_45.1 23 3).toInt = (t1.1 23 3).toInt := ti_eq (f_47.1 23 3 rfl)
              have h_49 : (t_45.1 23 6).toInt = (t1.1 23 6).toInt := ti_eq (f_47.1 23 6 rfl)
              have h_50 : (0 : Int) ≤ (t_45.1 23 6).toInt ∧ (t_45.1 23 6).toInt ≤ 4096 := hok.1 23 6
              refine lv_aload_n C.1 C.2.1 dX7_printSymbols_110 rfl (lv_at hl 3 rfl) ?_
              refine lv_iload C.1 C.2.1 dX7_printSymbols_111 (lv_at hl 5 rfl) ?_
              refine lv_iload C.1 C.2.1 dX7_printSymbols_113 (lv_at hl 6 rfl) ?_
              refine lv_iconst (v := 1) C.1 C.2.1 dX7_printSymbols_115 (by decide) ?_
              obtain ⟨v_51, e_52⟩ : ∃ z, z = (w77_6 : Int32) + (1 : Int32) := ⟨_, rfl⟩
              have h_54 := i_rng w77_6
              have h_53 : v_51.toInt = w77_6.toInt + 1 := by rw [e_52]; exact ti_iadd (by show (_ : Int) ≤ w77_6.toInt + 1; omega) (by show w77_6.toInt + 1 < (_ : Int); omega)
              refine k_iadd (v := v_51) C e_52.symm dX7_printSymbols_116 ?_
              refine hz_Vi (As := [.int w77_5, .int v_51]) (rest := []) C hP hD hS hA (T_X8_nextRead l D K Z Y ad d1 t_45 hok (w77_5) (show (0 : Int) ≤ (w77_5 : Int32).toInt ∧ (w77_5 : Int32).toInt ≤ 1023 from ⟨by omega, by omega⟩) (v_51) (show (0 : Int) ≤ (v_51 : Int32).toInt ∧ (v_51 : Int32).toInt ≤ 4096 from ⟨by omega, by omega⟩)) hE hZ (uwV m_69_7 m_69_8 m_69_9 m_2_5 m_69_10) (hdV 2 (by decide +kernel) rfl) ⟨Nat.le_of_ble_eq_true rfl, Nat.le_of_ble_eq_true rfl⟩ rfl rfl (ci := 7) (q0 := 23) rfl rfl rfl hl.1 (Nat.le_of_ble_eq_true rfl) dX7_printSymbols_117 ⟨Nat.le_trans (newC_le _ _) (Nat.le_of_ble_eq_true rfl), (Nat.le_of_ble_eq_true rfl)⟩ (fun r_56 t_55 H locs hw hP hD hS => ?_)
              obtain ⟨h_58, h_59, p_60⟩ := hw
              replace p_60 : r_56.toInt < (t_45.1 23 6).toInt ∨ r_56.toInt = -1 := p_60
              refine lv_istore (lv' := [(6, .int r_56), (0, .ref (ad 6)), (1, .int x1), (2, .int x2), (3, .ref (ad 23)), (4, .int w77_4), (5, .int w77_5), (7, .int w77_7)]) C.1 C.2.1 dX7_printSymbols_120 hl (by decide) rfl (fun ls hl => ?_)
              have hl : lv_has ls 8 [(0, .ref (ad 6)), (1, .int x1), (2, .int x2), (3, .ref (ad 23)), (4, .int w77_4), (5, .int w77_5), (6, .int r_56), (7, .int w77_7)] := lv_sub hl [1, 2, 3, 4, 5, 6, 0, 7] rfl
              obtain ⟨v_61, e_62⟩ : ∃ z, z = w77_7 + 1 := ⟨_, rfl⟩
              have h_63 : v_61.toInt = w77_7.toInt + 1 := by rw [e_62]; exact ti_iadd (by show (_ : Int) ≤ w77_7.toInt + 1; omega) (by show w77_7.toInt + 1 < (_ : Int); omega)
              refine lv_iinc (v := v_61) (lv' := [(7, .int v_61), (0, .ref (ad 6)), (1, .int x1), (2, .int x2), (3, .ref (ad 23)), (4, .int w77_4), (5, .int w77_5), (6, .int r_56)]) C.1 C.2.1 dX7_printSymbols_122 hl (k := 7) rfl e_62.symm (by decide) rfl (fun ls hl => ?_)
              have hl : lv_has ls 8 [(0, .ref (ad 6)), (1, .int x1), (2, .int x2), (3, .ref (ad 23)), (4, .int w77_4), (5, .int w77_5), (6, .int r_56), (7, .int v_61)] := lv_sub hl [1, 2, 3, 4, 5, 6, 7, 0] rfl
              refine lv_goto (tgt := 77) C.1 C.2.1 dX7_printSymbols_125 (by decide) ?_
              exact ih_77 t_45 d1 w77_4 w77_5 r_56 v_61 _ _ _ hok hfr hod hle hdf ⟨by omega, by omega⟩ ⟨by omega, by omega⟩ ⟨by omega, (i_rng _).2⟩ ⟨by omega, by omega⟩ (show (1 : Int) ≤ ((t_45.1 23 3) : Int32).toInt ∧ ((t_45.1 23 3) : Int32).toInt ≤ 1024 from ⟨by omega, by omega⟩) (show r_56.toInt < (t_45.1 23 6).toInt ∨ r_56.toInt = -1 from by omega) (show (1024 : Int) - w77_4.toInt < (fuel_18 : Int) + 1 from by omega) (show (16 : Int) - v_61.toInt < (fuel_77 : Int) from by omega) hP hD hS (lv_sub hl [0, 1, 2, 3, 4, 5, 6, 7] rfl)
      refine lv_iload C.1 C.2.1 dX7_printSymbols_18 (lv_at hl 5 rfl) ?_
      refine lv_if_lt (tgt := 156) C.1 C.2.1 dX7_printSymbols_20 (by decide) (fun c_64 => ?_) (fun c_64 => ?_)
      · replace c_64 : w18_5.toInt < 0 := i_lt c_64
        refine lv_iload C.1 C.2.1 dX7_printSymbols_156 (lv_at hl 4 rfl) ?_
        exact g_Diret C hr hlocks hP hD hS rfl ⟨hok, hfr, hod, by omega, by omega⟩ hle hdf (Nat.le_of_ble_eq_true rfl) (Nat.le_of_ble_eq_true rfl) dX7_printSymbols_158
      · replace c_64 : 0 ≤ w18_5.toInt := i_nlt c_64
        refine lv_iload C.1 C.2.1 dX7_printSymbols_23 (lv_at hl 4 rfl) ?_
        refine lv_aload_n C.1 C.2.1 dX7_printSymbols_25 rfl (lv_at hl 3 rfl) ?_
        have h_65 : (0 : Int) ≤ (t1.1 23 3).toInt ∧ (t1.1 23 3).toInt ≤ 1024 := hok.1 23 3
        refine k_get (v := .int (t1.1 23 3)) C hP 23 rfl rfl inlX8 3 (by decide) m_68_16 rfl dX7_printSymbols_26 ?_
        refine lv_icmp_ge (tgt := 156) C.1 C.2.1 dX7_printSymbols_29 (by decide) (fun c_66 => ?_) (fun c_66 => ?_)
        · replace c_66 : (t1.1 23 3).toInt ≤ w18_4.toInt := i_le c_66
          refine lv_iload C.1 C.2.1 dX7_printSymbols_156 (lv_at hl 4 rfl) ?_
          exact g_Diret C hr hlocks hP hD hS rfl ⟨hok, hfr, hod, by omega, by omega⟩ hle hdf (Nat.le_of_ble_eq_true rfl) (Nat.le_of_ble_eq_true rfl) dX7_printSymbols_158
        · replace c_66 : w18_4.toInt < (t1.1 23 3).toInt := i_nle c_66
          refine lv_aload_n C.1 C.2.1 dX7_printSymbols_32 rfl (lv_at hl 0 rfl) ?_
          refine k_get (v := .ref (ad 20)) C hP 6 rfl rfl inlX7 2 (by decide) m_6_14 rfl dX7_printSymbols_33 ?_
          refine lv_iconst (v := 1) C.1 C.2.1 dX7_printSymbols_36 (by decide) ?_
          refine lv_aload_n C.1 C.2.1 dX7_printSymbols_37 rfl (lv_at hl 3 rfl) ?_
          refine k_get (v := .ref (ad 41)) C hP 23 rfl rfl inlX8 0 (by decide) m_68_17 rfl dX7_printSymbols_38 ?_
          refine lv_iload C.1 C.2.1 dX7_printSymbols_41 (lv_at hl 5 rfl) ?_
          refine k_lld (v := (t1.2.2.2 41 (w18_5 : Int32).toNatClampNeg)) C hP 41 rfl (vp_in_iff.mpr ⟨by omega, by omega⟩) rfl dX7_printSymbols_43 ?_
          refine hz_Vv (As := [.int 1, .long (t1.2.2.2 41 (w18_5 : Int32).toNatClampNeg)]) (rest := []) C hP hD hS hA (T_X4_name l D K Z Y ad d1 t1 hok 1 (show (1 : Int) ≤ (1 : Int32).toInt ∧ (1 : Int32).toInt ≤ 1 from ⟨by decide, by decide⟩) ((t1.2.2.2 41 (w18_5 : Int32).toNatClampNeg))) hE hZ (uwV m_68_23 m_69_0 m_69_1 m_3_20 m_69_2) (hdV 2 (by decide +kernel) rfl) ⟨Nat.le_of_ble_eq_true rfl, Nat.le_of_ble_eq_true rfl⟩ rfl rfl (ci := 3) (q0 := 20) rfl rfl rfl hl.1 (Nat.le_of_ble_eq_true rfl) dX7_printSymbols_44 ⟨Nat.le_trans (newC_le _ _) (Nat.le_of_ble_eq_true rfl), (Nat.le_of_ble_eq_true rfl)⟩ (fun t_67 H locs hw hP hD hS => ?_)
          obtain ⟨hok, f_69⟩ := hw
          have hfr : frA [(20, 3)] [] [35, 36, 37] [] t t_67 := frA_tr hfr f_69 rfl
          have h_70 : (t_67.1 23 3).toInt = (t1.1 23 3).toInt := ti_eq (f_69.1 23 3 rfl)
          have h_71 : (t_67.1 23 6).toInt = (t1.1 23 6).toInt := ti_eq (f_69.1 23 6 rfl)
          have h_72 : (0 : Int) ≤ (t_67.1 23 6).toInt ∧ (t_67.1 23 6).toInt ≤ 4096 := hok.1 23 6
          refine lv_aload_n C.1 C.2.1 dX7_printSymbols_47 rfl (lv_at hl 0 rfl) ?_
          refine k_get (v := .ref (ad 20)) C hP 6 rfl rfl inlX7 2 (by decide) m_6_14 rfl dX7_printSymbols_48 ?_
          refine lv_bipush (v := 12) C.1 C.2.1 dX7_printSymbols_51 (by decide) ?_
          refine lv_bipush (v := 10) C.1 C.2.1 dX7_printSymbols_53 (by decide) ?_
          refine lv_aload_n C.1 C.2.1 dX7_printSymbols_55 rfl (lv_at hl 3 rfl) ?_
          refine k_get (v := .ref (ad 42)) C hP 23 rfl rfl inlX8 1 (by decide) m_68_18 rfl dX7_printSymbols_56 ?_
          refine lv_iload C.1 C.2.1 dX7_printSymbols_59 (lv_at hl 5 rfl) ?_
          obtain ⟨v_73, e_74⟩ : ∃ z, z = (t_67.2.2.1 42 (w18_5 : Int32).toNatClampNeg) := ⟨_, rfl⟩
          refine k_ild (v := v_73) C hP 42 rfl (vp_in_iff.mpr ⟨by omega, by omega⟩) e_74.symm dX7_printSymbols_61 ?_
          refine hz_Vv (As := [.int 12, .int 10, .int v_73]) (rest := []) C hP hD hS hA (T_X4_signed l D K Z Y ad d1 t_67 hok 12 (show (1 : Int) ≤ (12 : Int32).toInt ∧ (12 : Int32).toInt ≤ 63 from ⟨by decide, by decide⟩) 10 (show (4 : Int) ≤ (10 : Int32).toInt ∧ (10 : Int32).toInt ≤ 10 from ⟨by decide, by decide⟩) (v_73)) hE hZ (uwV m_55_8 m_55_9 m_55_10 m_3_20 m_55_11) (hdV 3 (by decide +kernel) rfl) ⟨Nat.le_of_ble_eq_true rfl, Nat.le_of_ble_eq_true rfl⟩ rfl rfl (ci := 3) (q0 := 20) rfl rfl rfl hl.1 (Nat.le_of_ble_eq_true rfl) dX7_printSymbols_62 ⟨Nat.le_trans (newC_le _ _) (Nat.le_of_ble_eq_true rfl), (Nat.le_of_ble_eq_true rfl)⟩ (fun t_75 H locs hw hP hD hS => ?_)
          obtain ⟨hok, f_77⟩ := hw
          have hfr : frA [(20, 3)] [] [35, 36, 37] [] t t_75 := frA_tr hfr f_77 rfl
          have h_78 : (t_75.1 23 3).toInt = (t_67.1 23 3).toInt := ti_eq (f_77.1 23 3 rfl)
          have h_79 : (t_75.1 23 6).toInt = (t_67.1 23 6).toInt := ti_eq (f_77.1 23 6 rfl)
          have h_80 : (0 : Int) ≤ (t_75.1 23 6).toInt ∧ (t_75.1 23 6).toInt ≤ 4096 := hok.1 23 6
          refine lv_aload_n C.1 C.2.1 dX7_printSymbols_65 rfl (lv_at hl 3 rfl) ?_
          refine lv_iload C.1 C.2.1 dX7_printSymbols_66 (lv_at hl 5 rfl) ?_
          refine lv_iconst (v := 0) C.1 C.2.1 dX7_printSymbols_68 (by decide) ?_
          refine hz_Vi (As := [.int w18_5, .int 0]) (rest := []) C hP hD hS hA (T_X8_nextRead l D K Z Y ad d1 t_75 hok (w18_5) (show (0 : Int) ≤ (w18_5 : Int32).toInt ∧ (w18_5 : Int32).toInt ≤ 1023 from ⟨by omega, by omega⟩) 0 (show (0 : Int) ≤ (0 : Int32).toInt ∧ (0 : Int32).toInt ≤ 4096 from ⟨by decide, by decide⟩)) hE hZ (uwV m_69_7 m_69_8 m_69_9 m_2_5 m_69_10) (hdV 2 (by decide +kernel) rfl) ⟨Nat.le_of_ble_eq_true rfl, Nat.le_of_ble_eq_true rfl⟩ rfl rfl (ci := 7) (q0 := 23) rfl rfl rfl hl.1 (Nat.le_of_ble_eq_true rfl) dX7_printSymbols_69 ⟨Nat.le_trans (newC_le _ _) (Nat.le_of_ble_eq_true rfl), (Nat.le_of_ble_eq_true rfl)⟩ (fun r_82 t_81 H locs hw hP hD hS => ?_)
          obtain ⟨h_84, h_85, p_86⟩ := hw
          replace p_86 : r_82.toInt < (t_75.1 23 6).toInt ∨ r_82.toInt = -1 := p_86
          refine lv_istore (lv' := [(6, .int r_82), (0, .ref (ad 6)), (1, .int x1), (2, .int x2), (3, .ref (ad 23)), (4, .int w18_4), (5, .int w18_5)]) C.1 C.2.1 dX7_printSymbols_72 hl (by decide) rfl (fun ls hl => ?_)
          have hl : lv_has ls 8 [(0, .ref (ad 6)), (1, .int x1), (2, .int x2), (3, .ref (ad 23)), (4, .int w18_4), (5, .int w18_5), (6, .int r_82)] := lv_sub hl [1, 2, 3, 4, 5, 6, 0] rfl
          refine lv_iconst (v := 0) C.1 C.2.1 dX7_printSymbols_74 (by decide) ?_
          refine lv_istore (lv' := [(7, .int 0), (0, .ref (ad 6)), (1, .int x1), (2, .int x2), (3, .ref (ad 23)), (4, .int w18_4), (5, .int w18_5), (6, .int r_82)]) C.1 C.2.1 dX7_printSymbols_75 hl (by decide) rfl (fun ls hl => ?_)
          have hl : lv_has ls 8 [(0, .ref (ad 6)), (1, .int x1), (2, .int x2), (3, .ref (ad 23)), (4, .int w18_4), (5, .int w18_5), (6, .int r_82), (7, .int 0)] := lv_sub hl [1, 2, 3, 4, 5, 6, 7, 0] rfl
          exact L_77 17 t_75 d1 w18_4 w18_5 r_82 0 _ _ _ hok hfr hod hle hdf ⟨by omega, by omega⟩ ⟨by omega, by omega⟩ ⟨by omega, (i_rng _).2⟩ ⟨by decide, by decide⟩ (show (1 : Int) ≤ ((t_75.1 23 3) : Int32).toInt ∧ ((t_75.1 23 3) : Int32).toInt ≤ 1024 from ⟨by omega, by omega⟩) (show r_82.toInt < (t_75.1 23 6).toInt ∨ r_82.toInt = -1 from by omega) (show (1024 : Int) - w18_4.toInt < (fuel_18 : Int) + 1 from by omega) (show (16 : Int) - 0 < ((17 : Nat) : Int) from by omega) hP hD hS (lv_sub hl [0, 1, 2, 3, 4, 5, 6, 7] rfl)
  refine lv_aload_n C.1 C.2.1 dX7_printSymbols_0 rfl (lv_at hl 0 rfl) ?_
  refine k_get (v := .ref (ad 5)) C hP 6 rfl rfl inlX7 1 (by decide) m_6_12 rfl dX7_printSymbols_1 ?_
  refine k_get (v := .ref (ad 23)) C hP 5 rfl rfl inlX0 2 (by decide) m_68_15 rfl dX7_printSymbols_4 ?_
  refine lv_astore_n (lv' := [(3, .ref (ad 23)), (0, .ref (ad 6)), (1, .int x1), (2, .int x2)]) C.1 C.2.1 dX7_printSymbols_7 rfl hl (by decide) rfl (fun ls hl => ?_)
  have hl : lv_has ls 8 [(0, .ref (ad 6)), (1, .int x1), (2, .int x2), (3, .ref (ad 23))] := lv_sub hl [1, 2, 3, 0] rfl
  refine lv_iconst (v := 0) C.1 C.2.1 dX7_printSymbols_8 (by decide) ?_
  refine lv_istore (lv' := [(4, .int 0), (0, .ref (ad 6)), (1, .int x1), (2, .int x2), (3, .ref (ad 23))]) C.1 C.2.1 dX7_printSymbols_9 hl (by decide) rfl (fun ls hl => ?_)
  have hl : lv_has ls 8 [(0, .ref (ad 6)), (1, .int x1), (2, .int x2), (3, .ref (ad 23)), (4, .int 0)] := lv_sub hl [1, 2, 3, 4, 0] rfl
  refine lv_aload_n C.1 C.2.1 dX7_printSymbols_11 rfl (lv_at hl 3 rfl) ?_
  refine lv_lconst (v := 0) C.1 C.2.1 dX7_printSymbols_12 (by decide) ?_
  refine hz_Vi (As := [.long 0]) (rest := []) C hP hD hS hA (T_X8_nextInOrder l D K Z Y ad d t hok 0) hE hZ (uwV m_68_19 m_68_20 m_68_21 m_2_5 m_68_22) (hdV 1 (by decide +kernel) rfl) ⟨Nat.le_of_ble_eq_true rfl, Nat.le_of_ble_eq_true rfl⟩ rfl rfl (ci := 7) (q0 := 23) rfl rfl rfl hl.1 (Nat.le_of_ble_eq_true rfl) dX7_printSymbols_13 ⟨Nat.le_trans (newC_le _ _) (Nat.le_of_ble_eq_true rfl), (Nat.le_of_ble_eq_true rfl)⟩ (fun r_88 t_87 H locs hw hP hD hS => ?_)
  obtain ⟨h_90, h_91⟩ := hw
  refine lv_istore (lv' := [(5, .int r_88), (0, .ref (ad 6)), (1, .int x1), (2, .int x2), (3, .ref (ad 23)), (4, .int 0)]) C.1 C.2.1 dX7_printSymbols_16 hl (by decide) rfl (fun ls hl => ?_)
  have hl : lv_has ls 8 [(0, .ref (ad 6)), (1, .int x1), (2, .int x2), (3, .ref (ad 23)), (4, .int 0), (5, .int r_88)] := lv_sub hl [1, 2, 3, 4, 5, 0] rfl
  exact L_18 1025 t d 0 r_88 _ _ _ hok hfr hod hle hdf ⟨by decide, by decide⟩ ⟨by omega, by omega⟩ (show (1024 : Int) - 0 < ((1025 : Nat) : Int) from by omega) hP hD hS (lv_sub hl [0, 1, 2, 3, 4, 5] rfl)

theorem dX2_faultOfUnit_0 : decode cX2_faultOfUnit 0 = .ok (.aload_n 0, 1) := by decide +kernel
theorem dX2_faultOfUnit_1 : decode cX2_faultOfUnit 1 = .ok (.getfield 84, 3) := by decide +kernel
theorem dX2_faultOfUnit_10 : decode cX2_faultOfUnit 10 = .ok (.aload_n 0, 1) := by decide +kernel
theorem dX2_faultOfUnit_11 : decode cX2_faultOfUnit 11 = .ok (.getfield 142, 3) := by decide +kernel
theorem dX2_faultOfUnit_14 : decode cX2_faultOfUnit 14 = .ok (.aload_n 0, 1) := by decide +kernel
theorem dX2_faultOfUnit_15 : decode cX2_faultOfUnit 15 = .ok (.getfield 87, 3) := by decide +kernel
theorem dX2_faultOfUnit_18 : decode cX2_faultOfUnit 18 = .ok (.invokestatic 174, 3) := by decide +kernel
theorem dX2_faultOfUnit_21 : decode cX2_faultOfUnit 21 = .ok (.invokevirtual 145, 3) := by decide +kernel
theorem dX2_faultOfUnit_24 : decode cX2_faultOfUnit 24 = .ok (.ifCond .ne 5, 3) := by decide +kernel
theorem dX2_faultOfUnit_27 : decode cX2_faultOfUnit 27 = .ok (.iconst 2, 1) := by decide +kernel
theorem dX2_faultOfUnit_28 : decode cX2_faultOfUnit 28 = .ok (.ireturn, 1) := by decide +kernel
theorem dX2_faultOfUnit_29 : decode cX2_faultOfUnit 29 = .ok (.aload_n 0, 1) := by decide +kernel
theorem dX2_faultOfUnit_30 : decode cX2_faultOfUnit 30 = .ok (.getfield 22, 3) := by decide +kernel
theorem dX2_faultOfUnit_33 : decode cX2_faultOfUnit 33 = .ok (.aload_n 0, 1) := by decide +kernel
theorem dX2_faultOfUnit_34 : decode cX2_faultOfUnit 34 = .ok (.getfield 84, 3) := by decide +kernel
theorem dX2_faultOfUnit_37 : decode cX2_faultOfUnit 37 = .ok (.aload_n 0, 1) := by decide +kernel
theorem dX2_faultOfUnit_38 : decode cX2_faultOfUnit 38 = .ok (.getfield 87, 3) := by decide +kernel
theorem dX2_faultOfUnit_4 : decode cX2_faultOfUnit 4 = .ok (.bipush 35, 2) := by decide +kernel
theorem dX2_faultOfUnit_41 : decode cX2_faultOfUnit 41 = .ok (.aload_n 0, 1) := by decide +kernel
theorem dX2_faultOfUnit_42 : decode cX2_faultOfUnit 42 = .ok (.getfield 142, 3) := by decide +kernel
theorem dX2_faultOfUnit_45 : decode cX2_faultOfUnit 45 = .ok (.aload_n 0, 1) := by decide +kernel
theorem dX2_faultOfUnit_46 : decode cX2_faultOfUnit 46 = .ok (.getfield 11, 3) := by decide +kernel
theorem dX2_faultOfUnit_49 : decode cX2_faultOfUnit 49 = .ok (.bipush 7, 2) := by decide +kernel
theorem dX2_faultOfUnit_51 : decode cX2_faultOfUnit 51 = .ok (.iaload, 1) := by decide +kernel
theorem dX2_faultOfUnit_52 : decode cX2_faultOfUnit 52 = .ok (.invokestatic 98, 3) := by decide +kernel
theorem dX2_faultOfUnit_55 : decode cX2_faultOfUnit 55 = .ok (.aload_n 0, 1) := by decide +kernel
theorem dX2_faultOfUnit_56 : decode cX2_faultOfUnit 56 = .ok (.getfield 51, 3) := by decide +kernel
theorem dX2_faultOfUnit_59 : decode cX2_faultOfUnit 59 = .ok (.ifCond .eq 14, 3) := by decide +kernel
theorem dX2_faultOfUnit_6 : decode cX2_faultOfUnit 6 = .ok (.if_icmp .eq 23, 3) := by decide +kernel
theorem dX2_faultOfUnit_62 : decode cX2_faultOfUnit 62 = .ok (.aload_n 0, 1) := by decide +kernel
theorem dX2_faultOfUnit_63 : decode cX2_faultOfUnit 63 = .ok (.getfield 54, 3) := by decide +kernel
theorem dX2_faultOfUnit_66 : decode cX2_faultOfUnit 66 = .ok (.ifCond .ne 7, 3) := by decide +kernel
theorem dX2_faultOfUnit_69 : decode cX2_faultOfUnit 69 = .ok (.iconst 1, 1) := by decide +kernel
theorem dX2_faultOfUnit_70 : decode cX2_faultOfUnit 70 = .ok (.goto 4, 3) := by decide +kernel
theorem dX2_faultOfUnit_73 : decode cX2_faultOfUnit 73 = .ok (.iconst 0, 1) := by decide +kernel
theorem dX2_faultOfUnit_74 : decode cX2_faultOfUnit 74 = .ok (.invokevirtual 177, 3) := by decide +kernel
theorem dX2_faultOfUnit_77 : decode cX2_faultOfUnit 77 = .ok (.ireturn, 1) := by decide +kernel
theorem dX2_faultOfUnit_9 : decode cX2_faultOfUnit 9 = .ok (.aload_n 0, 1) := by decide +kernel
set_option maxHeartbeats 4000000 in
set_option maxRecDepth 100000 in
theorem T_X2_faultOfUnit (l : Launch) (D : va_G) (K : Nat → ClassId) (Z Y : Nat → Nat) (ad : Nat → Nat) (d : dSt) (t : tSt) (hok : okX t) (hod : okD d)  : tMet l yX2_faultOfUnit cX2_faultOfUnit 1 (some .int) (rmD 2 0 0) D K Z Y [.ref (ad 4)] ((WX d) K ad t) (QI D K (fun (r : Int32) (u : Unit) => (0 : Int) ≤ r.toInt ∧ r.toInt ≤ 6) (fun (_ : Unit) => (WX d) K ad t)) 0 0 := by
  refine t_met RX2 ⟨rfl, by decide +kernel⟩ (Nat.le_of_ble_eq_true rfl) ?_
  intro p e s m below meth c A ls C hE hZ hr hlocks hA hP hD hS hl
  have hl : lv_has ls 1 [(0, .ref (ad 4))] := hl
  have L_29 : ∀  (H : Heap) (locs : List Loc) (ls : Array Slot), va_P D vwCl ((WX d) K ad t) H → va_D A ((WX d) K ad t) → va_S A s.heap H locs → lv_has ls 1 [(0, .ref (ad 4))] → W p l e (rmD 2 0 0) s m [.ref (ad 4)].toArray below meth c H locs 0 0 (MQ below (QI D K (fun (r : Int32) (u : Unit) => (0 : Int) ≤ r.toInt ∧ r.toInt ≤ 6) (fun (_ : Unit) => (WX d) K ad t) A) [.ref (ad 4)].toArray s 0 0 A) (F0 m 29 ls []) := by
    intro  H locs ls  hP hD hS hl
    refine lv_aload_n C.1 C.2.1 dX2_faultOfUnit_29 rfl (lv_at hl 0 rfl) ?_
    refine k_get (v := .ref (ad 3)) C hP 4 rfl rfl inlX2 2 (by decide) m_4_19 rfl dX2_faultOfUnit_30 ?_
    refine lv_aload_n C.1 C.2.1 dX2_faultOfUnit_33 rfl (lv_at hl 0 rfl) ?_
    have h_1 : (0 : Int) ≤ (t.1 4 13).toInt ∧ (t.1 4 13).toInt ≤ 63 := hok.1 4 13
    refine k_get (v := .int (t.1 4 13)) C hP 4 rfl rfl inlX2 13 (by decide) m_45_18 rfl dX2_faultOfUnit_34 ?_
    refine lv_aload_n C.1 C.2.1 dX2_faultOfUnit_37 rfl (lv_at hl 0 rfl) ?_
    have h_2 : (0 : Int) ≤ (t.1 4 14).toInt ∧ (t.1 4 14).toInt ≤ 63 := hok.1 4 14
    refine k_get (v := .int (t.1 4 14)) C hP 4 rfl rfl inlX2 14 (by decide) m_45_19 rfl dX2_faultOfUnit_38 ?_
    refine lv_aload_n C.1 C.2.1 dX2_faultOfUnit_41 rfl (lv_at hl 0 rfl) ?_
    have h_3 : (-2147483648 : Int) ≤ (t.1 4 15).toInt ∧ (t.1 4 15).toInt ≤ 1073745919 := hok.1 4 15
    refine k_get (v := .int (t.1 4 15)) C hP 4 rfl rfl inlX2 15 (by decide) m_47_12 rfl dX2_faultOfUnit_42 ?_
    refine lv_aload_n C.1 C.2.1 dX2_faultOfUnit_45 rfl (lv_at hl 0 rfl) ?_
    refine k_get (v := .ref (ad 22)) C hP 4 rfl rfl inlX2 1 (by decide) m_4_16 rfl dX2_faultOfUnit_46 ?_
    refine lv_bipush (v := 7) C.1 C.2.1 dX2_faultOfUnit_49 (by decide) ?_
    obtain ⟨v_4, e_5⟩ : ∃ z, z = (t.2.2.1 22 (7 : Int32).toNatClampNeg) := ⟨_, rfl⟩
    refine k_ild (v := v_4) C hP 22 rfl (vin (by decide)) e_5.symm dX2_faultOfUnit_51 ?_
    refine g_Si (As := [.int v_4]) (rest := [.int (t.1 4 15), .int (t.1 4 14), .int (t.1 4 13), .ref (ad 3)]) C hP hD hS hA (T_X1_value l D K Z Y ad d t hok (v_4)) hE hZ (uwS m_47_19 m_23_9 m_14_2 m_23_10) (hdS 1 (by decide +kernel) rfl) ⟨Nat.le_of_ble_eq_true rfl, Nat.le_of_ble_eq_true rfl⟩ rfl rfl rfl hl.1 (Nat.le_of_ble_eq_true rfl) dX2_faultOfUnit_52 ⟨Nat.le_of_ble_eq_true rfl, Nat.le_of_ble_eq_true rfl⟩ (fun r_7 t_6 H locs hw hP hD hS => ?_)
    obtain ⟨h_9, h_10⟩ := hw
    refine lv_aload_n C.1 C.2.1 dX2_faultOfUnit_55 rfl (lv_at hl 0 rfl) ?_
    have h_11 : (0 : Int) ≤ (t.1 4 9).toInt ∧ (t.1 4 9).toInt ≤ 1 := hok.1 4 9
    refine k_get (v := .int (t.1 4 9)) C hP 4 rfl rfl inlX2 9 (by decide) m_11_8 rfl dX2_faultOfUnit_56 ?_
    refine lv_if_eq (tgt := 73) C.1 C.2.1 dX2_faultOfUnit_59 (by decide) (fun c_12 => ?_) (fun c_12 => ?_)
    · replace c_12 : (t.1 4 9).toInt = 0 := i_eq c_12
      refine lv_iconst (v := 0) C.1 C.2.1 dX2_faultOfUnit_73 (by decide) ?_
      refine g_Vi (As := [.int (t.1 4 13), .int (t.1 4 14), .int (t.1 4 15), .int r_7, .int 0]) (rest := []) C hP hD hS hA (T_X10_faultOf l D K Z Y ad d t hok hod ((t.1 4 13)) (show (0 : Int) ≤ ((t.1 4 13) : Int32).toInt ∧ ((t.1 4 13) : Int32).toInt ≤ 63 from ⟨by omega, by omega⟩) ((t.1 4 14)) (show (0 : Int) ≤ ((t.1 4 14) : Int32).toInt ∧ ((t.1 4 14) : Int32).toInt ≤ 63 from ⟨by omega, by omega⟩) ((t.1 4 15)) (show (-2147483648 : Int) ≤ ((t.1 4 15) : Int32).toInt ∧ ((t.1 4 15) : Int32).toInt ≤ 1073745919 from ⟨(i_rng _).1, by omega⟩) (r_7) (show (-1073741824 : Int) ≤ (r_7 : Int32).toInt ∧ (r_7 : Int32).toInt ≤ 1073741823 from ⟨by omega, by omega⟩) 0 (show (0 : Int) ≤ (0 : Int32).toInt ∧ (0 : Int32).toInt ≤ 1 from ⟨by decide, by decide⟩)) hE hZ (uwV m_49_15 m_49_16 m_49_17 m_1_20 m_49_18) (hdV 5 (by decide +kernel) rfl) ⟨Nat.le_of_ble_eq_true rfl, Nat.le_of_ble_eq_true rfl⟩ rfl rfl (ci := 9) (q0 := 3) rfl rfl rfl hl.1 (Nat.le_of_ble_eq_true rfl) dX2_faultOfUnit_74 ⟨Nat.le_of_ble_eq_true rfl, Nat.le_of_ble_eq_true rfl⟩ (fun r_14 t_13 H locs hw hP hD hS => ?_)
      obtain ⟨h_16, h_17⟩ := hw
      exact g_iret C hr hlocks hP hD hS rfl () rfl ⟨by omega, by omega⟩ (Nat.le_of_ble_eq_true rfl) (Nat.le_of_ble_eq_true rfl) dX2_faultOfUnit_77
    · replace c_12 : ¬ (t.1 4 9).toInt = 0 := i_ne c_12
      refine lv_aload_n C.1 C.2.1 dX2_faultOfUnit_62 rfl (lv_at hl 0 rfl) ?_
      have h_18 : (0 : Int) ≤ (t.1 4 10).toInt ∧ (t.1 4 10).toInt ≤ 1 := hok.1 4 10
      refine k_get (v := .int (t.1 4 10)) C hP 4 rfl rfl inlX2 10 (by decide) m_11_9 rfl dX2_faultOfUnit_63 ?_
      refine lv_if_ne (tgt := 73) C.1 C.2.1 dX2_faultOfUnit_66 (by decide) (fun c_19 => ?_) (fun c_19 => ?_)
      · replace c_19 : ¬ (t.1 4 10).toInt = 0 := i_ne c_19
        refine lv_iconst (v := 0) C.1 C.2.1 dX2_faultOfUnit_73 (by decide) ?_
        refine g_Vi (As := [.int (t.1 4 13), .int (t.1 4 14), .int (t.1 4 15), .int r_7, .int 0]) (rest := []) C hP hD hS hA (T_X10_faultOf l D K Z Y ad d t hok hod ((t.1 4 13)) (show (0 : Int) ≤ ((t.1 4 13) : Int32).toInt ∧ ((t.1 4 13) : Int32).toInt ≤ 63 from ⟨by omega, by omega⟩) ((t.1 4 14)) (show (0 : Int) ≤ ((t.1 4 14) : Int32).toInt ∧ ((t.1 4 14) : Int32).toInt ≤ 63 from ⟨by omega, by omega⟩) ((t.1 4 15)) (show (-2147483648 : Int) ≤ ((t.1 4 15) : Int32).toInt ∧ ((t.1 4 15) : Int32).toInt ≤ 1073745919 from ⟨(i_rng _).1, by omega⟩) (r_7) (show (-1073741824 : Int) ≤ (r_7 : Int32).toInt ∧ (r_7 : Int32).toInt ≤ 1073741823 from ⟨by omega, by omega⟩) 0 (show (0 : Int) ≤ (0 : Int32).toInt ∧ (0 : Int32).toInt ≤ 1 from ⟨by decide, by decide⟩)) hE hZ (uwV m_49_15 m_49_16 m_49_17 m_1_20 m_49_18) (hdV 5 (by decide +kernel) rfl) ⟨Nat.le_of_ble_eq_true rfl, Nat.le_of_ble_eq_true rfl⟩ rfl rfl (ci := 9) (q0 := 3) rfl rfl rfl hl.1 (Nat.le_of_ble_eq_true rfl) dX2_faultOfUnit_74 ⟨Nat.le_of_ble_eq_true rfl, Nat.le_of_ble_eq_true rfl⟩ (fun r_21 t_20 H locs hw hP hD hS => ?_)
        obtain ⟨h_23, h_24⟩ := hw
        exact g_iret C hr hlocks hP hD hS rfl () rfl ⟨by omega, by omega⟩ (Nat.le_of_ble_eq_true rfl) (Nat.le_of_ble_eq_true rfl) dX2_faultOfUnit_77
      · replace c_19 : (t.1 4 10).toInt = 0 := i_eq c_19
        refine lv_iconst (v := 1) C.1 C.2.1 dX2_faultOfUnit_69 (by decide) ?_
        refine lv_goto (tgt := 74) C.1 C.2.1 dX2_faultOfUnit_70 (by decide) ?_
        refine g_Vi (As := [.int (t.1 4 13), .int (t.1 4 14), .int (t.1 4 15), .int r_7, .int 1]) (rest := []) C hP hD hS hA (T_X10_faultOf l D K Z Y ad d t hok hod ((t.1 4 13)) (show (0 : Int) ≤ ((t.1 4 13) : Int32).toInt ∧ ((t.1 4 13) : Int32).toInt ≤ 63 from ⟨by omega, by omega⟩) ((t.1 4 14)) (show (0 : Int) ≤ ((t.1 4 14) : Int32).toInt ∧ ((t.1 4 14) : Int32).toInt ≤ 63 from ⟨by omega, by omega⟩) ((t.1 4 15)) (show (-2147483648 : Int) ≤ ((t.1 4 15) : Int32).toInt ∧ ((t.1 4 15) : Int32).toInt ≤ 1073745919 from ⟨(i_rng _).1, by omega⟩) (r_7) (show (-1073741824 : Int) ≤ (r_7 : Int32).toInt ∧ (r_7 : Int32).toInt ≤ 1073741823 from ⟨by omega, by omega⟩) 1 (show (0 : Int) ≤ (1 : Int32).toInt ∧ (1 : Int32).toInt ≤ 1 from ⟨by decide, by decide⟩)) hE hZ (uwV m_49_15 m_49_16 m_49_17 m_1_20 m_49_18) (hdV 5 (by decide +kernel) rfl) ⟨Nat.le_of_ble_eq_true rfl, Nat.le_of_ble_eq_true rfl⟩ rfl rfl (ci := 9) (q0 := 3) rfl rfl rfl hl.1 (Nat.le_of_ble_eq_true rfl) dX2_faultOfUnit_74 ⟨Nat.le_of_ble_eq_true rfl, Nat.le_of_ble_eq_true rfl⟩ (fun r_26 t_25 H locs hw hP hD hS => ?_)
        obtain ⟨h_28, h_29⟩ := hw
        exact g_iret C hr hlocks hP hD hS rfl () rfl ⟨by omega, by omega⟩ (Nat.le_of_ble_eq_true rfl) (Nat.le_of_ble_eq_true rfl) dX2_faultOfUnit_77
  refine lv_aload_n C.1 C.2.1 dX2_faultOfUnit_0 rfl (lv_at hl 0 rfl) ?_
  have h_30 : (0 : Int) ≤ (t.1 4 13).toInt ∧ (t.1 4 13).toInt ≤ 63 := hok.1 4 13
  refine k_get (v := .int (t.1 4 13)) C hP 4 rfl rfl inlX2 13 (by decide) m_45_18 rfl dX2_faultOfUnit_1 ?_
  refine lv_bipush (v := 35) C.1 C.2.1 dX2_faultOfUnit_4 (by decide) ?_
  refine lv_icmp_eq (tgt := 29) C.1 C.2.1 dX2_faultOfUnit_6 (by decide) (fun c_31 => ?_) (fun c_31 => ?_)
  · replace c_31 : (t.1 4 13).toInt = 35 := i_eq c_31
    exact L_29  _ _ _  hP hD hS (lv_sub hl [0] rfl)
  · replace c_31 : ¬ (t.1 4 13).toInt = 35 := i_ne c_31
    refine lv_aload_n C.1 C.2.1 dX2_faultOfUnit_9 rfl (lv_at hl 0 rfl) ?_
    refine lv_aload_n C.1 C.2.1 dX2_faultOfUnit_10 rfl (lv_at hl 0 rfl) ?_
    have h_32 : (-2147483648 : Int) ≤ (t.1 4 15).toInt ∧ (t.1 4 15).toInt ≤ 1073745919 := hok.1 4 15
    refine k_get (v := .int (t.1 4 15)) C hP 4 rfl rfl inlX2 15 (by decide) m_47_12 rfl dX2_faultOfUnit_11 ?_
    refine lv_aload_n C.1 C.2.1 dX2_faultOfUnit_14 rfl (lv_at hl 0 rfl) ?_
    have h_33 : (0 : Int) ≤ (t.1 4 14).toInt ∧ (t.1 4 14).toInt ≤ 63 := hok.1 4 14
    refine k_get (v := .int (t.1 4 14)) C hP 4 rfl rfl inlX2 14 (by decide) m_45_19 rfl dX2_faultOfUnit_15 ?_
    refine g_Si (As := [.int (t.1 4 14)]) (rest := [.int (t.1 4 15), .ref (ad 4)]) C hP hD hS hA (T_X10_wordsOf l D K Z Y ad d t hok ((t.1 4 14)) (show (0 : Int) ≤ ((t.1 4 14) : Int32).toInt ∧ ((t.1 4 14) : Int32).toInt ≤ 63 from ⟨by omega, by omega⟩)) hE hZ (uwS m_49_14 m_47_1 m_1_20 m_47_2) (hdS 1 (by decide +kernel) rfl) ⟨Nat.le_of_ble_eq_true rfl, Nat.le_of_ble_eq_true rfl⟩ rfl rfl rfl hl.1 (Nat.le_of_ble_eq_true rfl) dX2_faultOfUnit_18 ⟨Nat.le_of_ble_eq_true rfl, Nat.le_of_ble_eq_true rfl⟩ (fun r_35 t_34 H locs hw hP hD hS => ?_)
    obtain ⟨h_37, h_38⟩ := hw
    refine g_Vi (As := [.int (t.1 4 15), .int r_35]) (rest := []) C hP hD hS hA (T_X2_areAddresses l D K Z Y ad d t hok ((t.1 4 15)) (show (-2147483648 : Int) ≤ ((t.1 4 15) : Int32).toInt ∧ ((t.1 4 15) : Int32).toInt ≤ 1073745919 from ⟨(i_rng _).1, by omega⟩) (r_35) (show (1 : Int) ≤ (r_35 : Int32).toInt ∧ (r_35 : Int32).toInt ≤ 100 from ⟨by omega, by omega⟩)) hE hZ (uwV m_48_14 m_48_15 m_48_16 m_1_23 m_48_17) (hdV 2 (by decide +kernel) rfl) ⟨Nat.le_of_ble_eq_true rfl, Nat.le_of_ble_eq_true rfl⟩ rfl rfl (ci := 1) (q0 := 4) rfl rfl rfl hl.1 (Nat.le_of_ble_eq_true rfl) dX2_faultOfUnit_21 ⟨Nat.le_of_ble_eq_true rfl, Nat.le_of_ble_eq_true rfl⟩ (fun r_40 t_39 H locs hw hP hD hS => ?_)
    obtain ⟨h_42, h_43⟩ := hw
    refine lv_if_ne (tgt := 29) C.1 C.2.1 dX2_faultOfUnit_24 (by decide) (fun c_44 => ?_) (fun c_44 => ?_)
    · replace c_44 : ¬ r_40.toInt = 0 := i_ne c_44
      exact L_29  _ _ _  hP hD hS (lv_sub hl [0] rfl)
    · replace c_44 : r_40.toInt = 0 := i_eq c_44
      refine lv_iconst (v := 2) C.1 C.2.1 dX2_faultOfUnit_27 (by decide) ?_
      exact g_iret C hr hlocks hP hD hS rfl () rfl ⟨by decide, by decide⟩ (Nat.le_of_ble_eq_true rfl) (Nat.le_of_ble_eq_true rfl) dX2_faultOfUnit_28

theorem dX11_layData_0 : decode cX11_layData 0 = .ok (.aload_n 0, 1) := by decide +kernel
theorem dX11_layData_1 : decode cX11_layData 1 = .ok (.getfield 40, 3) := by decide +kernel
theorem dX11_layData_10 : decode cX11_layData 10 = .ok (.aload_n 0, 1) := by decide +kernel
theorem dX11_layData_11 : decode cX11_layData 11 = .ok (.getfield 36, 3) := by decide +kernel
theorem dX11_layData_14 : decode cX11_layData 14 = .ok (.aload_n 0, 1) := by decide +kernel
theorem dX11_layData_15 : decode cX11_layData 15 = .ok (.getfield 66, 3) := by decide +kernel
theorem dX11_layData_18 : decode cX11_layData 18 = .ok (.getfield 329, 3) := by decide +kernel
theorem dX11_layData_21 : decode cX11_layData 21 = .ok (.aload_n 0, 1) := by decide +kernel
theorem dX11_layData_22 : decode cX11_layData 22 = .ok (.getfield 66, 3) := by decide +kernel
theorem dX11_layData_25 : decode cX11_layData 25 = .ok (.getfield 332, 3) := by decide +kernel
theorem dX11_layData_28 : decode cX11_layData 28 = .ok (.invokevirtual 136, 3) := by decide +kernel
theorem dX11_layData_31 : decode cX11_layData 31 = .ok (.iconst 0, 1) := by decide +kernel
theorem dX11_layData_32 : decode cX11_layData 32 = .ok (.istore_n 1, 1) := by decide +kernel
theorem dX11_layData_33 : decode cX11_layData 33 = .ok (.iload_n 1, 1) := by decide +kernel
theorem dX11_layData_34 : decode cX11_layData 34 = .ok (.sipush 8192, 3) := by decide +kernel
theorem dX11_layData_37 : decode cX11_layData 37 = .ok (.if_icmp .ge 47, 3) := by decide +kernel
theorem dX11_layData_4 : decode cX11_layData 4 = .ok (.getfield 127, 3) := by decide +kernel
theorem dX11_layData_40 : decode cX11_layData 40 = .ok (.aload_n 0, 1) := by decide +kernel
theorem dX11_layData_41 : decode cX11_layData 41 = .ok (.getfield 36, 3) := by decide +kernel
theorem dX11_layData_44 : decode cX11_layData 44 = .ok (.invokevirtual 139, 3) := by decide +kernel
theorem dX11_layData_47 : decode cX11_layData 47 = .ok (.ifCond .eq 37, 3) := by decide +kernel
theorem dX11_layData_50 : decode cX11_layData 50 = .ok (.aload_n 0, 1) := by decide +kernel
theorem dX11_layData_51 : decode cX11_layData 51 = .ok (.getfield 36, 3) := by decide +kernel
theorem dX11_layData_54 : decode cX11_layData 54 = .ok (.getfield 335, 3) := by decide +kernel
theorem dX11_layData_57 : decode cX11_layData 57 = .ok (.iconst 0, 1) := by decide +kernel
theorem dX11_layData_58 : decode cX11_layData 58 = .ok (.baload, 1) := by decide +kernel
theorem dX11_layData_59 : decode cX11_layData 59 = .ok (.bipush 42, 2) := by decide +kernel
theorem dX11_layData_61 : decode cX11_layData 61 = .ok (.if_icmp .eq 23, 3) := by decide +kernel
theorem dX11_layData_64 : decode cX11_layData 64 = .ok (.aload_n 0, 1) := by decide +kernel
theorem dX11_layData_65 : decode cX11_layData 65 = .ok (.getfield 40, 3) := by decide +kernel
theorem dX11_layData_68 : decode cX11_layData 68 = .ok (.getfield 127, 3) := by decide +kernel
theorem dX11_layData_7 : decode cX11_layData 7 = .ok (.invokevirtual 326, 3) := by decide +kernel
theorem dX11_layData_71 : decode cX11_layData 71 = .ok (.aload_n 0, 1) := by decide +kernel
theorem dX11_layData_72 : decode cX11_layData 72 = .ok (.getfield 36, 3) := by decide +kernel
theorem dX11_layData_75 : decode cX11_layData 75 = .ok (.invokevirtual 143, 3) := by decide +kernel
theorem dX11_layData_78 : decode cX11_layData 78 = .ok (.iinc 1 1, 3) := by decide +kernel
theorem dX11_layData_81 : decode cX11_layData 81 = .ok (.goto (-48), 3) := by decide +kernel
theorem dX11_layData_84 : decode cX11_layData 84 = .ok (.return_, 1) := by decide +kernel
set_option maxHeartbeats 4000000 in
set_option maxRecDepth 100000 in
theorem T_X11_layData (l : Launch) (D : va_G) (K : Nat → ClassId) (Z Y : Nat → Nat) (ad : Nat → Nat) (d : dSt) (t : tSt) (hok : okX t) (hod : okD d)  : dMet l yX11_layData cX11_layData 2 none (rmD 7 8000 2240000) D K Z Y [.ref (ad 0)] ((WX d) K ad t) (QDV D K ad d (fun (u : tSt) (dd : dSt) => okX u ∧ frA [(2, 2), (2, 3), (2, 4), (2, 5), (2, 6), (2, 7), (18, 1), (18, 2), (18, 3)] [] [9] [] t u ∧ okD dd ∧ ((u.1 18 2).toInt ≤ 1281))) 8000 2240000 := by
  refine d_met d RX11 ⟨rfl, by decide +kernel⟩ (Nat.le_of_ble_eq_true rfl) ?_
  intro p e s m below meth c A ls C hE hZ hX hr hlocks hA hP hD hS hl
  have hl : lv_has ls 2 [(0, .ref (ad 0))] := hl
  have hle : dLe d d := dLe_rf
  have hdf : dFr s.heap.size d d := dFr_rf
  have hokt := hok
  have hfr : frA [(2, 2), (2, 3), (2, 4), (2, 5), (2, 6), (2, 7), (18, 1), (18, 2), (18, 3)] [] [9] [] t t := frA_rf
  have h_1 : (0 : Int) ≤ (t.1 2 2).toInt ∧ (t.1 2 2).toInt ≤ 1280 := hok.1 2 2
  have h_2 : (0 : Int) ≤ (t.1 2 3).toInt ∧ (t.1 2 3).toInt ≤ 80 := hok.1 2 3
  have h_3 : (0 : Int) ≤ (t.1 2 4).toInt ∧ (t.1 2 4).toInt ≤ 1281 := hok.1 2 4
  have h_4 : (0 : Int) ≤ (t.1 2 7).toInt ∧ (t.1 2 7).toInt ≤ 1280 := hok.1 2 7
  have h_5 : (0 : Int) ≤ (t.1 18 2).toInt ∧ (t.1 18 2).toInt ≤ 2700 := hok.1 18 2
  have L_33 : ∀ (fuel_33 : Nat) (t1 : tSt) (d1 : dSt) (w33_1 : Int32) (H : Heap) (locs : List Loc) (ls : Array Slot), okX t1 → frA [(2, 2), (2, 3), (2, 4), (2, 5), (2, 6), (2, 7), (18, 1), (18, 2), (18, 3)] [] [9] [] t t1 → okD d1 → dLe d d1 → dFr s.heap.size d d1 → (0 : Int) ≤ w33_1.toInt ∧ w33_1.toInt ≤ 8192 → ((t1.1 18 2).toInt ≤ (t1.1 2 4).toInt) → (8192 : Int) - w33_1.toInt < (fuel_33 : Int) → va_P D vwCl ((WX d1) K ad t1) H → va_D A ((WX d1) K ad t1) → va_S A s.heap H locs → lv_has ls 2 [(0, .ref (ad 0)), (1, .int w33_1)] → W p l e (rmD 7 8000 2240000) s m [.ref (ad 0)].toArray below meth c H locs (newC d d1) 246800 (MQ below (QDV D K ad d (fun (u : tSt) (dd : dSt) => okX u ∧ frA [(2, 2), (2, 3), (2, 4), (2, 5), (2, 6), (2, 7), (18, 1), (18, 2), (18, 3)] [] [9] [] t u ∧ okD dd ∧ ((u.1 18 2).toInt ≤ 1281)) s.heap.size A) [.ref (ad 0)].toArray s 8000 2240000 A) (F0 m 33 ls []) := by
    intro fuel_33
    induction fuel_33 with
    | zero =>
      intro t1 d1 w33_1 H locs ls hok hfr hod hle hdf hw33_1 hi33_0 hm33_33 hP hD hS hl
      have h_6 : (0 : Int) ≤ (t1.1 2 2).toInt ∧ (t1.1 2 2).toInt ≤ 1280 := hok.1 2 2
      have h_7 : (0 : Int) ≤ (t1.1 2 3).toInt ∧ (t1.1 2 3).toInt ≤ 80 := hok.1 2 3
      have h_8 : (0 : Int) ≤ (t1.1 2 4).toInt ∧ (t1.1 2 4).toInt ≤ 1281 := hok.1 2 4
      have h_9 : (0 : Int) ≤ (t1.1 2 7).toInt ∧ (t1.1 2 7).toInt ≤ 1280 := hok.1 2 7
      have h_10 : (0 : Int) ≤ (t1.1 18 2).toInt ∧ (t1.1 18 2).toInt ≤ 2700 := hok.1 18 2
      exact absurd hm33_33 (by omega)
    | succ fuel_33 ih_33 =>
      intro t1 d1 w33_1 H locs ls hok hfr hod hle hdf hw33_1 hi33_0 hm33_33 hP hD hS hl
      have hm33_33 : (8192 : Int) - w33_1.toInt < (fuel_33 : Int) + 1 := by omega
      have h_11 : (0 : Int) ≤ (t1.1 2 2).toInt ∧ (t1.1 2 2).toInt ≤ 1280 := hok.1 2 2
      have h_12 : (0 : Int) ≤ (t1.1 2 3).toInt ∧ (t1.1 2 3).toInt ≤ 80 := hok.1 2 3
      have h_13 : (0 : Int) ≤ (t1.1 2 4).toInt ∧ (t1.1 2 4).toInt ≤ 1281 := hok.1 2 4
      have h_14 : (0 : Int) ≤ (t1.1 2 7).toInt ∧ (t1.1 2 7).toInt ≤ 1280 := hok.1 2 7
      have h_15 : (0 : Int) ≤ (t1.1 18 2).toInt ∧ (t1.1 18 2).toInt ≤ 2700 := hok.1 18 2
      refine lv_iload_n C.1 C.2.1 dX11_layData_33 rfl (lv_at hl 1 rfl) ?_
      refine lv_sipush (v := 8192) C.1 C.2.1 dX11_layData_34 (by decide) ?_
      refine lv_icmp_ge (tgt := 84) C.1 C.2.1 dX11_layData_37 (by decide) (fun c_16 => ?_) (fun c_16 => ?_)
      · replace c_16 : 8192 ≤ w33_1.toInt := i_le c_16
        exact g_Dvret C hr hlocks hP hD hS ⟨hok, hfr, hod, (show (t1.1 18 2).toInt ≤ 1281 from by omega)⟩ hle hdf (Nat.le_of_ble_eq_true rfl) (Nat.le_of_ble_eq_true rfl) dX11_layData_84
      · replace c_16 : w33_1.toInt < 8192 := i_nle c_16
        refine lv_aload_n C.1 C.2.1 dX11_layData_40 rfl (lv_at hl 0 rfl) ?_
        refine k_get (v := .ref (ad 2)) C hP 0 rfl rfl inlX11 2 (by decide) m_2_7 rfl dX11_layData_41 ?_
        refine hz_Vi (As := []) (rest := []) C hP hD hS hA (T_X9_advance_1 l D K Z Y ad d1 t1 hok ) hE hZ (uwV m_43_19 m_13_19 m_13_20 m_1_17 m_13_21) (hdV 0 (by decide +kernel) rfl) ⟨Nat.le_of_ble_eq_true rfl, Nat.le_of_ble_eq_true rfl⟩ rfl rfl (ci := 8) (q0 := 2) rfl rfl rfl hl.1 (Nat.le_of_ble_eq_true rfl) dX11_layData_44 ⟨Nat.le_trans (newC_le _ _) (Nat.le_of_ble_eq_true rfl), (Nat.le_of_ble_eq_true rfl)⟩ (fun r_18 t_17 H locs hw hP hD hS => ?_)
        obtain ⟨hok, f_19, h_20, h_21, p_22, p_23⟩ := hw
        have hfr : frA [(2, 2), (2, 3), (2, 4), (2, 5), (2, 6), (2, 7), (18, 1), (18, 2), (18, 3)] [] [9] [] t t_17 := frA_tr hfr f_19 rfl
        have h_24 : (t_17.1 2 7).toInt = (t1.1 2 7).toInt := ti_eq (f_19.1 2 7 rfl)
        have h_25 : (t_17.1 18 2).toInt = (t1.1 18 2).toInt := ti_eq (f_19.1 18 2 rfl)
        have h_26 : (0 : Int) ≤ (t_17.1 2 2).toInt ∧ (t_17.1 2 2).toInt ≤ 1280 := hok.1 2 2
        have h_27 : (0 : Int) ≤ (t_17.1 2 3).toInt ∧ (t_17.1 2 3).toInt ≤ 80 := hok.1 2 3
        have h_28 : (0 : Int) ≤ (t_17.1 2 4).toInt ∧ (t_17.1 2 4).toInt ≤ 1281 := hok.1 2 4
        have h_29 : (0 : Int) ≤ (t_17.1 2 7).toInt ∧ (t_17.1 2 7).toInt ≤ 1280 := hok.1 2 7
        have h_30 : (0 : Int) ≤ (t_17.1 18 2).toInt ∧ (t_17.1 18 2).toInt ≤ 2700 := hok.1 18 2
        replace p_22 : r_18.toInt = 1 → (t_17.1 2 2).toInt + (t_17.1 2 3).toInt ≤ 1280 := p_22
        replace p_23 : r_18.toInt = 1 → (t1.1 2 4).toInt + (t_17.1 2 3).toInt + 1 ≤ (t_17.1 2 4).toInt ∧ (t_17.1 2 4).toInt ≤ (t1.1 2 7).toInt + 1 := p_23
        refine lv_if_eq (tgt := 84) C.1 C.2.1 dX11_layData_47 (by decide) (fun c_31 => ?_) (fun c_31 => ?_)
        · replace c_31 : r_18.toInt = 0 := i_eq c_31
          exact g_Dvret C hr hlocks hP hD hS ⟨hok, hfr, hod, (show (t_17.1 18 2).toInt ≤ 1281 from by omega)⟩ hle hdf (Nat.le_of_ble_eq_true rfl) (Nat.le_of_ble_eq_true rfl) dX11_layData_84
        · replace c_31 : ¬ r_18.toInt = 0 := i_ne c_31
          refine lv_aload_n C.1 C.2.1 dX11_layData_50 rfl (lv_at hl 0 rfl) ?_
          refine k_get (v := .ref (ad 2)) C hP 0 rfl rfl inlX11 2 (by decide) m_2_7 rfl dX11_layData_51 ?_
          refine k_get (v := .ref (ad 9)) C hP 2 rfl rfl inlX9 1 (by decide) m_75_4 rfl dX11_layData_54 ?_
          refine lv_iconst (v := 0) C.1 C.2.1 dX11_layData_57 (by decide) ?_
          obtain ⟨v_32, e_33⟩ : ∃ z, z = (t_17.2.2.1 9 (0 : Int32).toNatClampNeg) := ⟨_, rfl⟩
          have h_34 : (-128 : Int) ≤ v_32.toInt ∧ v_32.toInt ≤ 127 := by rw [e_33]; exact hok.2.1 9 _
          refine k_bld (v := v_32) C hP 9 rfl (vin (by decide)) e_33.symm dX11_layData_58 ?_
          refine lv_bipush (v := 42) C.1 C.2.1 dX11_layData_59 (by decide) ?_
          refine lv_icmp_eq (tgt := 84) C.1 C.2.1 dX11_layData_61 (by decide) (fun c_35 => ?_) (fun c_35 => ?_)
          · replace c_35 : v_32.toInt = 42 := i_eq c_35
            exact g_Dvret C hr hlocks hP hD hS ⟨hok, hfr, hod, (show (t_17.1 18 2).toInt ≤ 1281 from by omega)⟩ hle hdf (Nat.le_of_ble_eq_true rfl) (Nat.le_of_ble_eq_true rfl) dX11_layData_84
          · replace c_35 : ¬ v_32.toInt = 42 := i_ne c_35
            refine lv_aload_n C.1 C.2.1 dX11_layData_64 rfl (lv_at hl 0 rfl) ?_
            refine k_get (v := .ref (ad 3)) C hP 0 rfl rfl inlX11 3 (by decide) m_2_8 rfl dX11_layData_65 ?_
            refine k_get (v := .ref (ad 18)) C hP 3 rfl rfl inlX10 9 (by decide) m_43_16 rfl dX11_layData_68 ?_
            refine lv_aload_n C.1 C.2.1 dX11_layData_71 rfl (lv_at hl 0 rfl) ?_
            refine k_get (v := .ref (ad 2)) C hP 0 rfl rfl inlX11 2 (by decide) m_2_7 rfl dX11_layData_72 ?_
            refine g_DVv (As := [.ref (ad 2)]) (rest := []) C hP hD hS hA (T_X6_add_1 l D K Z Y ad d1 t_17 hok hod (show (t_17.1 18 2).toInt + (t_17.1 2 3).toInt ≤ 2690 from by omega) (show (t_17.1 2 2).toInt + (t_17.1 2 3).toInt ≤ 1280 from by omega)) hE hZ hX hle hdf (uwV m_43_20 m_43_21 m_43_22 m_3_16 m_43_23) (hdV 1 (by decide +kernel) rfl) ⟨Nat.le_of_ble_eq_true rfl, Nat.le_of_ble_eq_true rfl⟩ rfl rfl (ci := 5) (q0 := 18) rfl rfl rfl hl.1 (Nat.le_of_ble_eq_true rfl) dX11_layData_75 ⟨Nat.le_of_ble_eq_true rfl, Nat.le_of_ble_eq_true rfl⟩ (fun t_36 d_38 H locs hw hP hD hS hln hle hdf => ?_)
            obtain ⟨hok, f_39, hod, p_40⟩ := hw
            have hfr : frA [(2, 2), (2, 3), (2, 4), (2, 5), (2, 6), (2, 7), (18, 1), (18, 2), (18, 3)] [] [9] [] t t_36 := frA_tr hfr f_39 rfl
            have h_41 : (t_36.1 2 2).toInt = (t_17.1 2 2).toInt := ti_eq (f_39.1 2 2 rfl)
            have h_42 : (t_36.1 2 3).toInt = (t_17.1 2 3).toInt := ti_eq (f_39.1 2 3 rfl)
            have h_43 : (t_36.1 2 4).toInt = (t_17.1 2 4).toInt := ti_eq (f_39.1 2 4 rfl)
            have h_44 : (t_36.1 2 7).toInt = (t_17.1 2 7).toInt := ti_eq (f_39.1 2 7 rfl)
            have h_45 : (0 : Int) ≤ (t_36.1 2 2).toInt ∧ (t_36.1 2 2).toInt ≤ 1280 := hok.1 2 2
            have h_46 : (0 : Int) ≤ (t_36.1 2 3).toInt ∧ (t_36.1 2 3).toInt ≤ 80 := hok.1 2 3
            have h_47 : (0 : Int) ≤ (t_36.1 2 4).toInt ∧ (t_36.1 2 4).toInt ≤ 1281 := hok.1 2 4
            have h_48 : (0 : Int) ≤ (t_36.1 2 7).toInt ∧ (t_36.1 2 7).toInt ≤ 1280 := hok.1 2 7
            have h_49 : (0 : Int) ≤ (t_36.1 18 2).toInt ∧ (t_36.1 18 2).toInt ≤ 2700 := hok.1 18 2
            replace p_40 : (t_36.1 18 2).toInt ≤ (t_17.1 18 2).toInt + (t_17.1 2 3).toInt + 1 := p_40
            obtain ⟨v_50, e_51⟩ : ∃ z, z = w33_1 + 1 := ⟨_, rfl⟩
            have h_52 : v_50.toInt = w33_1.toInt + 1 := by rw [e_51]; exact ti_iadd (by show (_ : Int) ≤ w33_1.toInt + 1; omega) (by show w33_1.toInt + 1 < (_ : Int); omega)
            refine lv_iinc (v := v_50) (lv' := [(1, .int v_50), (0, .ref (ad 0))]) C.1 C.2.1 dX11_layData_78 hl (k := 1) rfl e_51.symm (by decide) rfl (fun ls hl => ?_)
            have hl : lv_has ls 2 [(0, .ref (ad 0)), (1, .int v_50)] := lv_sub hl [1, 0] rfl
            refine lv_goto (tgt := 33) C.1 C.2.1 dX11_layData_81 (by decide) ?_
            exact ih_33 t_36 d_38 v_50 _ _ _ hok hfr hod hle hdf ⟨by omega, by omega⟩ (show (t_36.1 18 2).toInt ≤ (t_36.1 2 4).toInt from by omega) (show (8192 : Int) - v_50.toInt < (fuel_33 : Int) from by omega) hP hD hS (lv_sub hl [0, 1] rfl)
  refine lv_aload_n C.1 C.2.1 dX11_layData_0 rfl (lv_at hl 0 rfl) ?_
  refine k_get (v := .ref (ad 3)) C hP 0 rfl rfl inlX11 3 (by decide) m_2_8 rfl dX11_layData_1 ?_
  refine k_get (v := .ref (ad 18)) C hP 3 rfl rfl inlX10 9 (by decide) m_43_16 rfl dX11_layData_4 ?_
  refine hz_Vv (As := []) (rest := []) C hP hD hS hA (T_X6_empty l D K Z Y ad d t hok ) hE hZ (uwV m_75_5 m_75_6 m_75_7 m_3_16 m_75_8) (hdV 0 (by decide +kernel) rfl) ⟨Nat.le_of_ble_eq_true rfl, Nat.le_of_ble_eq_true rfl⟩ rfl rfl (ci := 5) (q0 := 18) rfl rfl rfl hl.1 (Nat.le_of_ble_eq_true rfl) dX11_layData_7 ⟨Nat.le_trans (newC_le _ _) (Nat.le_of_ble_eq_true rfl), (Nat.le_of_ble_eq_true rfl)⟩ (fun t_53 H locs hw hP hD hS => ?_)
  obtain ⟨hok, f_55, p_56⟩ := hw
  have hfr : frA [(2, 2), (2, 3), (2, 4), (2, 5), (2, 6), (2, 7), (18, 1), (18, 2), (18, 3)] [] [9] [] t t_53 := frA_tr hfr f_55 rfl
  have h_57 : (t_53.1 2 2).toInt = (t.1 2 2).toInt := ti_eq (f_55.1 2 2 rfl)
  have h_58 : (t_53.1 2 3).toInt = (t.1 2 3).toInt := ti_eq (f_55.1 2 3 rfl)
  have h_59 : (t_53.1 2 4).toInt = (t.1 2 4).toInt := ti_eq (f_55.1 2 4 rfl)
  have h_60 : (t_53.1 2 7).toInt = (t.1 2 7).toInt := ti_eq (f_55.1 2 7 rfl)
  have h_61 : (0 : Int) ≤ (t_53.1 2 2).toInt ∧ (t_53.1 2 2).toInt ≤ 1280 := hok.1 2 2
  have h_62 : (0 : Int) ≤ (t_53.1 2 3).toInt ∧ (t_53.1 2 3).toInt ≤ 80 := hok.1 2 3
  have h_63 : (0 : Int) ≤ (t_53.1 2 4).toInt ∧ (t_53.1 2 4).toInt ≤ 1281 := hok.1 2 4
  have h_64 : (0 : Int) ≤ (t_53.1 2 7).toInt ∧ (t_53.1 2 7).toInt ≤ 1280 := hok.1 2 7
  have h_65 : (0 : Int) ≤ (t_53.1 18 2).toInt ∧ (t_53.1 18 2).toInt ≤ 2700 := hok.1 18 2
  replace p_56 : (t_53.1 18 2).toInt = 0 := p_56
  refine lv_aload_n C.1 C.2.1 dX11_layData_10 rfl (lv_at hl 0 rfl) ?_
  refine k_get (v := .ref (ad 2)) C hP 0 rfl rfl inlX11 2 (by decide) m_2_7 rfl dX11_layData_11 ?_
  refine lv_aload_n C.1 C.2.1 dX11_layData_14 rfl (lv_at hl 0 rfl) ?_
  refine k_get (v := .ref (ad 7)) C hP 0 rfl rfl inlX11 7 (by decide) m_2_18 rfl dX11_layData_15 ?_
  have h_66 : (0 : Int) ≤ (t_53.1 7 7).toInt ∧ (t_53.1 7 7).toInt ≤ 1281 := hok.1 7 7
  refine k_get (v := .int (t_53.1 7 7)) C hP 7 rfl rfl inlX3 7 (by decide) m_75_2 rfl dX11_layData_18 ?_
  refine lv_aload_n C.1 C.2.1 dX11_layData_21 rfl (lv_at hl 0 rfl) ?_
  refine k_get (v := .ref (ad 7)) C hP 0 rfl rfl inlX11 7 (by decide) m_2_18 rfl dX11_layData_22 ?_
  have h_67 : (0 : Int) ≤ (t_53.1 7 8).toInt ∧ (t_53.1 7 8).toInt ≤ 1280 := hok.1 7 8
  refine k_get (v := .int (t_53.1 7 8)) C hP 7 rfl rfl inlX3 8 (by decide) m_75_3 rfl dX11_layData_25 ?_
  refine hz_Vv (As := [.int (t_53.1 7 7), .int (t_53.1 7 8)]) (rest := []) C hP hD hS hA (T_X9_open_1 l D K Z Y ad d t_53 hok ((t_53.1 7 7)) (show (0 : Int) ≤ ((t_53.1 7 7) : Int32).toInt ∧ ((t_53.1 7 7) : Int32).toInt ≤ 1281 from ⟨by omega, by omega⟩) ((t_53.1 7 8)) (show (0 : Int) ≤ ((t_53.1 7 8) : Int32).toInt ∧ ((t_53.1 7 8) : Int32).toInt ≤ 1280 from ⟨by omega, by omega⟩)) hE hZ (uwV m_43_18 m_12_10 m_12_11 m_1_17 m_12_12) (hdV 2 (by decide +kernel) rfl) ⟨Nat.le_of_ble_eq_true rfl, Nat.le_of_ble_eq_true rfl⟩ rfl rfl (ci := 8) (q0 := 2) rfl rfl rfl hl.1 (Nat.le_of_ble_eq_true rfl) dX11_layData_28 ⟨Nat.le_trans (newC_le _ _) (Nat.le_of_ble_eq_true rfl), (Nat.le_of_ble_eq_true rfl)⟩ (fun t_68 H locs hw hP hD hS => ?_)
  obtain ⟨hok, f_70, p_71, p_72⟩ := hw
  have hfr : frA [(2, 2), (2, 3), (2, 4), (2, 5), (2, 6), (2, 7), (18, 1), (18, 2), (18, 3)] [] [9] [] t t_68 := frA_tr hfr f_70 rfl
  have h_73 : (t_68.1 7 7).toInt = (t_53.1 7 7).toInt := ti_eq (f_70.1 7 7 rfl)
  have h_74 : (t_68.1 7 8).toInt = (t_53.1 7 8).toInt := ti_eq (f_70.1 7 8 rfl)
  have h_75 : (t_68.1 2 2).toInt = (t_53.1 2 2).toInt := ti_eq (f_70.1 2 2 rfl)
  have h_76 : (t_68.1 2 3).toInt = (t_53.1 2 3).toInt := ti_eq (f_70.1 2 3 rfl)
  have h_77 : (t_68.1 18 2).toInt = (t_53.1 18 2).toInt := ti_eq (f_70.1 18 2 rfl)
  have h_78 : (0 : Int) ≤ (t_68.1 2 2).toInt ∧ (t_68.1 2 2).toInt ≤ 1280 := hok.1 2 2
  have h_79 : (0 : Int) ≤ (t_68.1 2 3).toInt ∧ (t_68.1 2 3).toInt ≤ 80 := hok.1 2 3
  have h_80 : (0 : Int) ≤ (t_68.1 2 4).toInt ∧ (t_68.1 2 4).toInt ≤ 1281 := hok.1 2 4
  have h_81 : (0 : Int) ≤ (t_68.1 2 7).toInt ∧ (t_68.1 2 7).toInt ≤ 1280 := hok.1 2 7
  have h_82 : (0 : Int) ≤ (t_68.1 18 2).toInt ∧ (t_68.1 18 2).toInt ≤ 2700 := hok.1 18 2
  replace p_71 : (t_68.1 2 4).toInt = (t_53.1 7 7).toInt := p_71
  replace p_72 : (t_68.1 2 7).toInt = (t_53.1 7 8).toInt := p_72
  refine lv_iconst (v := 0) C.1 C.2.1 dX11_layData_31 (by decide) ?_
  refine lv_istore_n (lv' := [(1, .int 0), (0, .ref (ad 0))]) C.1 C.2.1 dX11_layData_32 rfl hl (by decide) rfl (fun ls hl => ?_)
  have hl : lv_has ls 2 [(0, .ref (ad 0)), (1, .int 0)] := lv_sub hl [1, 0] rfl
  exact L_33 8193 t_68 d 0 _ _ _ hok hfr hod hle hdf ⟨by decide, by decide⟩ (show (t_68.1 18 2).toInt ≤ (t_68.1 2 4).toInt from by omega) (show (8192 : Int) - 0 < ((8193 : Nat) : Int) from by omega) hP hD hS (lv_sub hl [0, 1] rfl)

theorem dX10_read_0 : decode cX10_read 0 = .ok (.aload_n 0, 1) := by decide +kernel
theorem dX10_read_1 : decode cX10_read 1 = .ok (.getfield 27, 3) := by decide +kernel
theorem dX10_read_11 : decode cX10_read 11 = .ok (.iload_n 1, 1) := by decide +kernel
theorem dX10_read_12 : decode cX10_read 12 = .ok (.iload_n 2, 1) := by decide +kernel
theorem dX10_read_13 : decode cX10_read 13 = .ok (.iastore, 1) := by decide +kernel
theorem dX10_read_14 : decode cX10_read 14 = .ok (.aload_n 0, 1) := by decide +kernel
theorem dX10_read_15 : decode cX10_read 15 = .ok (.dup, 1) := by decide +kernel
theorem dX10_read_16 : decode cX10_read 16 = .ok (.getfield 66, 3) := by decide +kernel
theorem dX10_read_19 : decode cX10_read 19 = .ok (.iconst 1, 1) := by decide +kernel
theorem dX10_read_20 : decode cX10_read 20 = .ok (.iadd, 1) := by decide +kernel
theorem dX10_read_21 : decode cX10_read 21 = .ok (.putfield 66, 3) := by decide +kernel
theorem dX10_read_24 : decode cX10_read 24 = .ok (.iload_n 1, 1) := by decide +kernel
theorem dX10_read_25 : decode cX10_read 25 = .ok (.bipush 16, 2) := by decide +kernel
theorem dX10_read_27 : decode cX10_read 27 = .ok (.if_icmp .ne 19, 3) := by decide +kernel
theorem dX10_read_30 : decode cX10_read 30 = .ok (.aload_n 0, 1) := by decide +kernel
theorem dX10_read_31 : decode cX10_read 31 = .ok (.getfield 40, 3) := by decide +kernel
theorem dX10_read_34 : decode cX10_read 34 = .ok (.aload_n 0, 1) := by decide +kernel
theorem dX10_read_35 : decode cX10_read 35 = .ok (.getfield 34, 3) := by decide +kernel
theorem dX10_read_38 : decode cX10_read 38 = .ok (.iload_n 1, 1) := by decide +kernel
theorem dX10_read_39 : decode cX10_read 39 = .ok (.bipush 100, 2) := by decide +kernel
theorem dX10_read_4 : decode cX10_read 4 = .ok (.iload_n 1, 1) := by decide +kernel
theorem dX10_read_41 : decode cX10_read 41 = .ok (.imul, 1) := by decide +kernel
theorem dX10_read_42 : decode cX10_read 42 = .ok (.invokevirtual 130, 3) := by decide +kernel
theorem dX10_read_45 : decode cX10_read 45 = .ok (.return_, 1) := by decide +kernel
theorem dX10_read_46 : decode cX10_read 46 = .ok (.aload_n 0, 1) := by decide +kernel
theorem dX10_read_47 : decode cX10_read 47 = .ok (.iload_n 1, 1) := by decide +kernel
theorem dX10_read_48 : decode cX10_read 48 = .ok (.iload_n 3, 1) := by decide +kernel
theorem dX10_read_49 : decode cX10_read 49 = .ok (.invokevirtual 133, 3) := by decide +kernel
theorem dX10_read_5 : decode cX10_read 5 = .ok (.iconst 1, 1) := by decide +kernel
theorem dX10_read_52 : decode cX10_read 52 = .ok (.bipush 100, 2) := by decide +kernel
theorem dX10_read_54 : decode cX10_read 54 = .ok (.imul, 1) := by decide +kernel
theorem dX10_read_55 : decode cX10_read 55 = .ok (.istore 4, 2) := by decide +kernel
theorem dX10_read_57 : decode cX10_read 57 = .ok (.iconst 0, 1) := by decide +kernel
theorem dX10_read_58 : decode cX10_read 58 = .ok (.istore 5, 2) := by decide +kernel
theorem dX10_read_6 : decode cX10_read 6 = .ok (.bastore, 1) := by decide +kernel
theorem dX10_read_60 : decode cX10_read 60 = .ok (.iload 5, 2) := by decide +kernel
theorem dX10_read_62 : decode cX10_read 62 = .ok (.bipush 100, 2) := by decide +kernel
theorem dX10_read_64 : decode cX10_read 64 = .ok (.if_icmp .ge 31, 3) := by decide +kernel
theorem dX10_read_67 : decode cX10_read 67 = .ok (.aload_n 0, 1) := by decide +kernel
theorem dX10_read_68 : decode cX10_read 68 = .ok (.getfield 34, 3) := by decide +kernel
theorem dX10_read_7 : decode cX10_read 7 = .ok (.aload_n 0, 1) := by decide +kernel
theorem dX10_read_71 : decode cX10_read 71 = .ok (.iload_n 1, 1) := by decide +kernel
theorem dX10_read_72 : decode cX10_read 72 = .ok (.bipush 100, 2) := by decide +kernel
theorem dX10_read_74 : decode cX10_read 74 = .ok (.imul, 1) := by decide +kernel
theorem dX10_read_75 : decode cX10_read 75 = .ok (.iload 5, 2) := by decide +kernel
theorem dX10_read_77 : decode cX10_read 77 = .ok (.iadd, 1) := by decide +kernel
theorem dX10_read_78 : decode cX10_read 78 = .ok (.aload_n 0, 1) := by decide +kernel
theorem dX10_read_79 : decode cX10_read 79 = .ok (.iload_n 1, 1) := by decide +kernel
theorem dX10_read_8 : decode cX10_read 8 = .ok (.getfield 31, 3) := by decide +kernel
theorem dX10_read_80 : decode cX10_read 80 = .ok (.iload 4, 2) := by decide +kernel
theorem dX10_read_82 : decode cX10_read 82 = .ok (.iload 5, 2) := by decide +kernel
theorem dX10_read_84 : decode cX10_read 84 = .ok (.iadd, 1) := by decide +kernel
theorem dX10_read_85 : decode cX10_read 85 = .ok (.invokevirtual 136, 3) := by decide +kernel
theorem dX10_read_88 : decode cX10_read 88 = .ok (.iastore, 1) := by decide +kernel
theorem dX10_read_89 : decode cX10_read 89 = .ok (.iinc 5 1, 3) := by decide +kernel
theorem dX10_read_92 : decode cX10_read 92 = .ok (.goto (-32), 3) := by decide +kernel
theorem dX10_read_95 : decode cX10_read 95 = .ok (.return_, 1) := by decide +kernel
set_option maxHeartbeats 4000000 in
set_option maxRecDepth 100000 in
theorem T_X10_read (l : Launch) (D : va_G) (K : Nat → ClassId) (Z Y : Nat → Nat) (ad : Nat → Nat) (d : dSt) (t : tSt) (hok : okX t) (hod : okD d) (x1 : Int32) (hx1 : (0 : Int) ≤ x1.toInt ∧ x1.toInt ≤ 16) (x2 : Int32) (hx2 : (-2147483648 : Int) ≤ x2.toInt ∧ x2.toInt ≤ 1073745919) (x3 : Int32) (hx3 : (-1073741824 : Int) ≤ x3.toInt ∧ x3.toInt ≤ 1073741823) : tMet l yX10_read cX10_read 6 none (rmD 7 0 0) D K Z Y [.ref (ad 3), .int x1, .int x2, .int x3] ((WX d) K ad t) (QV D K (fun (u : tSt) => okX u ∧ frA [(3, 8), (18, 1), (18, 3)] [] [12, 15, 16, 17] [] t u) (fun (u : tSt) => (WX d) K ad u)) 0 0 := by
  refine t_met RX10 ⟨rfl, by decide +kernel⟩ (Nat.le_of_ble_eq_true rfl) ?_
  intro p e s m below meth c A ls C hE hZ hr hlocks hA hP hD hS hl
  have hl : lv_has ls 6 [(0, .ref (ad 3)), (1, .int x1), (2, .int x2), (3, .int x3)] := hl
  have hokt := hok
  have hfr : frA [(3, 8), (18, 1), (18, 3)] [] [12, 15, 16, 17] [] t t := frA_rf
  have L_60 : ∀ (fuel_60 : Nat) (t1 : tSt) (w60_4 : Int32) (w60_5 : Int32) (H : Heap) (locs : List Loc) (ls : Array Slot), okX t1 → frA [(3, 8), (18, 1), (18, 3)] [] [12, 15, 16, 17] [] t t1 → (0 : Int) ≤ x1.toInt ∧ x1.toInt ≤ 15 → (0 : Int) ≤ w60_5.toInt ∧ w60_5.toInt ≤ 100 → (100 : Int) - w60_5.toInt < (fuel_60 : Int) → va_P D vwCl ((WX d) K ad t1) H → va_D A ((WX d) K ad t1) → va_S A s.heap H locs → lv_has ls 6 [(0, .ref (ad 3)), (1, .int x1), (2, .int x2), (3, .int x3), (4, .int w60_4), (5, .int w60_5)] → W p l e (rmD 7 0 0) s m [.ref (ad 3), .int x1, .int x2, .int x3].toArray below meth c H locs 0 0 (MQ below (QV D K (fun (u : tSt) => okX u ∧ frA [(3, 8), (18, 1), (18, 3)] [] [12, 15, 16, 17] [] t u) (fun (u : tSt) => (WX d) K ad u) A) [.ref (ad 3), .int x1, .int x2, .int x3].toArray s 0 0 A) (F0 m 60 ls []) := by
    intro fuel_60
    induction fuel_60 with
    | zero =>
      intro t1 w60_4 w60_5 H locs ls hok hfr hx60_1 hw60_5 hm60_60 hP hD hS hl
      exact absurd hm60_60 (by omega)
    | succ fuel_60 ih_60 =>
      intro t1 w60_4 w60_5 H locs ls hok hfr hx60_1 hw60_5 hm60_60 hP hD hS hl
      have hm60_60 : (100 : Int) - w60_5.toInt < (fuel_60 : Int) + 1 := by omega
      refine lv_iload C.1 C.2.1 dX10_read_60 (lv_at hl 5 rfl) ?_
      refine lv_bipush (v := 100) C.1 C.2.1 dX10_read_62 (by decide) ?_
      refine lv_icmp_ge (tgt := 95) C.1 C.2.1 dX10_read_64 (by decide) (fun c_1 => ?_) (fun c_1 => ?_)
      · replace c_1 : 100 ≤ w60_5.toInt := i_le c_1
        exact g_vret C hr hlocks hP hD hS t1 rfl ⟨hok, hfr⟩ (Nat.le_of_ble_eq_true rfl) (Nat.le_of_ble_eq_true rfl) dX10_read_95
      · replace c_1 : w60_5.toInt < 100 := i_nle c_1
        refine lv_aload_n C.1 C.2.1 dX10_read_67 rfl (lv_at hl 0 rfl) ?_
        refine k_get (v := .ref (ad 17)) C hP 3 rfl rfl inlX10 7 (by decide) m_3_13 rfl dX10_read_68 ?_
        refine lv_iload_n C.1 C.2.1 dX10_read_71 rfl (lv_at hl 1 rfl) ?_
        refine lv_bipush (v := 100) C.1 C.2.1 dX10_read_72 (by decide) ?_
        obtain ⟨v_2, e_3⟩ : ∃ z, z = (x1 : Int32) * (100 : Int32) := ⟨_, rfl⟩
        have h_4 : v_2.toInt = x1.toInt * 100 := by rw [e_3]; exact ti_mulr (k := 100) (by decide) (by omega) (by omega)
        refine k_imul (v := v_2) C e_3.symm dX10_read_74 ?_
        refine lv_iload C.1 C.2.1 dX10_read_75 (lv_at hl 5 rfl) ?_
        obtain ⟨v_5, e_6⟩ : ∃ z, z = (v_2 : Int32) + (w60_5 : Int32) := ⟨_, rfl⟩
        have h_7 : v_5.toInt = v_2.toInt + w60_5.toInt := by rw [e_6]; exact ti_iadd (by show (_ : Int) ≤ v_2.toInt + w60_5.toInt; omega) (by show v_2.toInt + w60_5.toInt < (_ : Int); omega)
        refine k_iadd (v := v_5) C e_6.symm dX10_read_77 ?_
        refine lv_aload_n C.1 C.2.1 dX10_read_78 rfl (lv_at hl 0 rfl) ?_
        refine lv_iload_n C.1 C.2.1 dX10_read_79 rfl (lv_at hl 1 rfl) ?_
        refine lv_iload C.1 C.2.1 dX10_read_80 (lv_at hl 4 rfl) ?_
        refine lv_iload C.1 C.2.1 dX10_read_82 (lv_at hl 5 rfl) ?_
        obtain ⟨v_8, e_9⟩ : ∃ z, z = (w60_4 : Int32) + (w60_5 : Int32) := ⟨_, rfl⟩
        refine k_iadd (v := v_8) C e_9.symm dX10_read_84 ?_
        refine g_Vi (As := [.int x1, .int v_8]) (rest := [.int v_5, .ref (ad 17)]) C hP hD hS hA (T_X10_stored l D K Z Y ad d t1 hok hod (x1) (v_8)) hE hZ (uwV m_53_5 m_53_6 m_53_7 m_1_20 m_53_8) (hdV 2 (by decide +kernel) rfl) ⟨Nat.le_of_ble_eq_true rfl, Nat.le_of_ble_eq_true rfl⟩ rfl rfl (ci := 9) (q0 := 3) rfl rfl rfl hl.1 (Nat.le_of_ble_eq_true rfl) dX10_read_85 ⟨Nat.le_of_ble_eq_true rfl, Nat.le_of_ble_eq_true rfl⟩ (fun r_12 t_11 H locs hw hP hD hS => ?_)
        obtain ⟨h_14, h_15⟩ := hw
        refine k_ist (ws' := (WX d) K ad (uB t1 17 (v_5 : Int32).toNatClampNeg r_12)) (x' := r_12) C hP hD hS 17 rfl (vp_in_iff.mpr ⟨by omega, by omega⟩) rfl rfl rfl dX10_read_88 (fun H locs hP hD hS => ?_)
        have hok : okX (uB t1 17 (v_5 : Int32).toNatClampNeg r_12) := ⟨hok.1, okB_B hok.2.1 17 _ r_12 (show (-2147483648 : Int) ≤ (r_12 : Int32).toInt ∧ (r_12 : Int32).toInt ≤ 2147483647 from (i_rng _)), trivial⟩
        have hfr : frA [(3, 8), (18, 1), (18, 3)] [] [12, 15, 16, 17] [] t (uB t1 17 (v_5 : Int32).toNatClampNeg r_12) := frA_B hfr 17 _ _ rfl
        obtain ⟨v_16, e_17⟩ : ∃ z, z = w60_5 + 1 := ⟨_, rfl⟩
        have h_18 : v_16.toInt = w60_5.toInt + 1 := by rw [e_17]; exact ti_iadd (by show (_ : Int) ≤ w60_5.toInt + 1; omega) (by show w60_5.toInt + 1 < (_ : Int); omega)
        refine lv_iinc (v := v_16) (lv' := [(5, .int v_16), (0, .ref (ad 3)), (1, .int x1), (2, .int x2), (3, .int x3), (4, .int w60_4)]) C.1 C.2.1 dX10_read_89 hl (k := 5) rfl e_17.symm (by decide) rfl (fun ls hl => ?_)
        have hl : lv_has ls 6 [(0, .ref (ad 3)), (1, .int x1), (2, .int x2), (3, .int x3), (4, .int w60_4), (5, .int v_16)] := lv_sub hl [1, 2, 3, 4, 5, 0] rfl
        refine lv_goto (tgt := 60) C.1 C.2.1 dX10_read_92 (by decide) ?_
        exact ih_60 (uB t1 17 (v_5 : Int32).toNatClampNeg r_12) w60_4 v_16 _ _ _ hok hfr ⟨by omega, by omega⟩ ⟨by omega, by omega⟩ (show (100 : Int) - v_16.toInt < (fuel_60 : Int) from by omega) hP hD hS (lv_sub hl [0, 1, 2, 3, 4, 5] rfl)
  refine lv_aload_n C.1 C.2.1 dX10_read_0 rfl (lv_at hl 0 rfl) ?_
  refine k_get (v := .ref (ad 15)) C hP 3 rfl rfl inlX10 5 (by decide) m_3_11 rfl dX10_read_1 ?_
  refine lv_iload_n C.1 C.2.1 dX10_read_4 rfl (lv_at hl 1 rfl) ?_
  refine lv_iconst (v := 1) C.1 C.2.1 dX10_read_5 (by decide) ?_
  obtain ⟨v_19, e_20⟩ : ∃ z, z = vp_nar .boolean 1 := ⟨_, rfl⟩
  have h_21 : (0 : Int) ≤ v_19.toInt ∧ v_19.toInt ≤ 1 := by rw [e_20]; exact nar_boolean _
  refine k_zst (ws' := (WX d) K ad (uB t 15 (x1 : Int32).toNatClampNeg v_19)) (x' := v_19) C hP hD hS 15 rfl (vp_in_iff.mpr ⟨by omega, by omega⟩) rfl e_20.symm rfl dX10_read_6 (fun H locs hP hD hS => ?_)
  have hok : okX (uB t 15 (x1 : Int32).toNatClampNeg v_19) := ⟨hok.1, okB_B hok.2.1 15 _ v_19 (show (0 : Int) ≤ (v_19 : Int32).toInt ∧ (v_19 : Int32).toInt ≤ 1 from ⟨by omega, by omega⟩), trivial⟩
  have hfr : frA [(3, 8), (18, 1), (18, 3)] [] [12, 15, 16, 17] [] t (uB t 15 (x1 : Int32).toNatClampNeg v_19) := frA_B hfr 15 _ _ rfl
  refine lv_aload_n C.1 C.2.1 dX10_read_7 rfl (lv_at hl 0 rfl) ?_
  refine k_get (v := .ref (ad 16)) C hP 3 rfl rfl inlX10 6 (by decide) m_3_12 rfl dX10_read_8 ?_
  refine lv_iload_n C.1 C.2.1 dX10_read_11 rfl (lv_at hl 1 rfl) ?_
  refine lv_iload_n C.1 C.2.1 dX10_read_12 rfl (lv_at hl 2 rfl) ?_
  obtain ⟨t_22, e_23⟩ : ∃ z, z = (uB t 15 (x1 : Int32).toNatClampNeg v_19) := ⟨_, rfl⟩
  rw [← e_23] at hP hD hok hfr
  refine k_ist (ws' := (WX d) K ad (uB t_22 16 (x1 : Int32).toNatClampNeg x2)) (x' := x2) C hP hD hS 16 rfl (vp_in_iff.mpr ⟨by omega, by omega⟩) rfl rfl rfl dX10_read_13 (fun H locs hP hD hS => ?_)
  have hok : okX (uB t_22 16 (x1 : Int32).toNatClampNeg x2) := ⟨hok.1, okB_B hok.2.1 16 _ x2 (show (-2147483648 : Int) ≤ (x2 : Int32).toInt ∧ (x2 : Int32).toInt ≤ 1073745919 from ⟨(i_rng _).1, by omega⟩), trivial⟩
  have hfr : frA [(3, 8), (18, 1), (18, 3)] [] [12, 15, 16, 17] [] t (uB t_22 16 (x1 : Int32).toNatClampNeg x2) := frA_B hfr 16 _ _ rfl
  refine lv_aload_n C.1 C.2.1 dX10_read_14 rfl (lv_at hl 0 rfl) ?_
  refine lv_dup C.1 C.2.1 dX10_read_15 rfl ?_
  refine k_get (v := .int (t_22.1 3 8)) C hP 3 rfl rfl inlX10 8 (by decide) m_11_18 rfl dX10_read_16 ?_
  refine lv_iconst (v := 1) C.1 C.2.1 dX10_read_19 (by decide) ?_
  obtain ⟨v_24, e_25⟩ : ∃ z, z = ((t_22.1 3 8) : Int32) + (1 : Int32) := ⟨_, rfl⟩
  refine k_iadd (v := v_24) C e_25.symm dX10_read_20 ?_
  refine k_put (ws' := (WX d) K ad (uI (uB t_22 16 (x1 : Int32).toNatClampNeg x2) 3 8 v_24)) (v := .int v_24) C hP hD hS 3 rfl rfl inlX10 tyX10_ok nmX10 8 (by decide) m_11_18 rfl rfl rfl rfl rfl dX10_read_21 (fun H locs hP hD hS => ?_)
  have hok : okX (uI (uB t_22 16 (x1 : Int32).toNatClampNeg x2) 3 8 v_24) := ⟨okI_I hok.1 3 8 v_24 (show (-2147483648 : Int) ≤ (v_24 : Int32).toInt ∧ (v_24 : Int32).toInt ≤ 2147483647 from (i_rng _)), hok.2.1, trivial⟩
  have hfr : frA [(3, 8), (18, 1), (18, 3)] [] [12, 15, 16, 17] [] t (uI (uB t_22 16 (x1 : Int32).toNatClampNeg x2) 3 8 v_24) := frA_I hfr 3 8 _ rfl
  refine lv_iload_n C.1 C.2.1 dX10_read_24 rfl (lv_at hl 1 rfl) ?_
  refine lv_bipush (v := 16) C.1 C.2.1 dX10_read_25 (by decide) ?_
  refine lv_icmp_ne (tgt := 46) C.1 C.2.1 dX10_read_27 (by decide) (fun c_27 => ?_) (fun c_27 => ?_)
  · replace c_27 : ¬ x1.toInt = 16 := i_ne c_27
    refine lv_aload_n C.1 C.2.1 dX10_read_46 rfl (lv_at hl 0 rfl) ?_
    refine lv_iload_n C.1 C.2.1 dX10_read_47 rfl (lv_at hl 1 rfl) ?_
    refine lv_iload_n C.1 C.2.1 dX10_read_48 rfl (lv_at hl 3 rfl) ?_
    refine g_Vi (As := [.int x1, .int x3]) (rest := []) C hP hD hS hA (T_X10_blockAt l D K Z Y ad d (uI (uB t_22 16 (x1 : Int32).toNatClampNeg x2) 3 8 v_24) hok (x1) (show (0 : Int) ≤ (x1 : Int32).toInt ∧ (x1 : Int32).toInt ≤ 15 from ⟨by omega, by omega⟩) (x3) (show (-1073741824 : Int) ≤ (x3 : Int32).toInt ∧ (x3 : Int32).toInt ≤ 1073741823 from ⟨by omega, by omega⟩)) hE hZ (uwV m_53_1 m_53_2 m_53_3 m_1_20 m_53_4) (hdV 2 (by decide +kernel) rfl) ⟨Nat.le_of_ble_eq_true rfl, Nat.le_of_ble_eq_true rfl⟩ rfl rfl (ci := 9) (q0 := 3) rfl rfl rfl hl.1 (Nat.le_of_ble_eq_true rfl) dX10_read_49 ⟨Nat.le_of_ble_eq_true rfl, Nat.le_of_ble_eq_true rfl⟩ (fun r_29 t_28 H locs hw hP hD hS => ?_)
    obtain ⟨hok, f_30, h_31, h_32⟩ := hw
    have hfr : frA [(3, 8), (18, 1), (18, 3)] [] [12, 15, 16, 17] [] t t_28 := frA_tr hfr f_30 rfl
    have h_33 : (t_28.1 3 8).toInt = v_24.toInt := ti_eq (f_30.1 3 8 rfl)
    refine lv_bipush (v := 100) C.1 C.2.1 dX10_read_52 (by decide) ?_
    obtain ⟨v_34, e_35⟩ : ∃ z, z = (r_29 : Int32) * (100 : Int32) := ⟨_, rfl⟩
    refine k_imul (v := v_34) C e_35.symm dX10_read_54 ?_
    refine lv_istore (lv' := [(4, .int v_34), (0, .ref (ad 3)), (1, .int x1), (2, .int x2), (3, .int x3)]) C.1 C.2.1 dX10_read_55 hl (by decide) rfl (fun ls hl => ?_)
    have hl : lv_has ls 6 [(0, .ref (ad 3)), (1, .int x1), (2, .int x2), (3, .int x3), (4, .int v_34)] := lv_sub hl [1, 2, 3, 4, 0] rfl
    refine lv_iconst (v := 0) C.1 C.2.1 dX10_read_57 (by decide) ?_
    refine lv_istore (lv' := [(5, .int 0), (0, .ref (ad 3)), (1, .int x1), (2, .int x2), (3, .int x3), (4, .int v_34)]) C.1 C.2.1 dX10_read_58 hl (by decide) rfl (fun ls hl => ?_)
    have hl : lv_has ls 6 [(0, .ref (ad 3)), (1, .int x1), (2, .int x2), (3, .int x3), (4, .int v_34), (5, .int 0)] := lv_sub hl [1, 2, 3, 4, 5, 0] rfl
    exact L_60 101 t_28 v_34 0 _ _ _ hok hfr ⟨by omega, by omega⟩ ⟨by decide, by decide⟩ (show (100 : Int) - 0 < ((101 : Nat) : Int) from by omega) hP hD hS (lv_sub hl [0, 1, 2, 3, 4, 5] rfl)
  · replace c_27 : x1.toInt = 16 := i_eq c_27
    refine lv_aload_n C.1 C.2.1 dX10_read_30 rfl (lv_at hl 0 rfl) ?_
    refine k_get (v := .ref (ad 18)) C hP 3 rfl rfl inlX10 9 (by decide) m_3_17 rfl dX10_read_31 ?_
    refine lv_aload_n C.1 C.2.1 dX10_read_34 rfl (lv_at hl 0 rfl) ?_
    refine k_get (v := .ref (ad 17)) C hP 3 rfl rfl inlX10 7 (by decide) m_3_13 rfl dX10_read_35 ?_
    refine lv_iload_n C.1 C.2.1 dX10_read_38 rfl (lv_at hl 1 rfl) ?_
    refine lv_bipush (v := 100) C.1 C.2.1 dX10_read_39 (by decide) ?_
    obtain ⟨v_37, e_38⟩ : ∃ z, z = (x1 : Int32) * (100 : Int32) := ⟨_, rfl⟩
    have h_39 : v_37.toInt = x1.toInt * 100 := by rw [e_38]; exact ti_mulr (k := 100) (by decide) (by omega) (by omega)
    refine k_imul (v := v_37) C e_38.symm dX10_read_41 ?_
    refine g_Vv (As := [.ref (ad 17), .int v_37]) (rest := []) C hP hD hS hA (T_X6_take_1 l D K Z Y ad d (uI (uB t_22 16 (x1 : Int32).toNatClampNeg x2) 3 8 v_24) hok hod (v_37) (show (1600 : Int) ≤ (v_37 : Int32).toInt ∧ (v_37 : Int32).toInt ≤ 1600 from ⟨by omega, by omega⟩)) hE hZ (uwV m_52_19 m_52_20 m_52_21 m_3_16 m_52_22) (hdV 2 (by decide +kernel) rfl) ⟨Nat.le_of_ble_eq_true rfl, Nat.le_of_ble_eq_true rfl⟩ rfl rfl (ci := 5) (q0 := 18) rfl rfl rfl hl.1 (Nat.le_of_ble_eq_true rfl) dX10_read_42 ⟨Nat.le_of_ble_eq_true rfl, Nat.le_of_ble_eq_true rfl⟩ (fun t_40 H locs hw hP hD hS => ?_)
    obtain ⟨hok, f_42⟩ := hw
    have hfr : frA [(3, 8), (18, 1), (18, 3)] [] [12, 15, 16, 17] [] t t_40 := frA_tr hfr f_42 rfl
    have h_43 : (t_40.1 3 8).toInt = v_24.toInt := ti_eq (f_42.1 3 8 rfl)
    exact g_vret C hr hlocks hP hD hS t_40 rfl ⟨hok, hfr⟩ (Nat.le_of_ble_eq_true rfl) (Nat.le_of_ble_eq_true rfl) dX10_read_45


set_option maxHeartbeats 4000000 in
set_option maxRecDepth 100000 in
theorem T_X10_writeLine_2 (l : Launch) (D : va_G) (K : Nat → ClassId) (Z Y : Nat → Nat) (ad : Nat → Nat) (d : dSt) (t : tSt) (hok : okX t) (hod : okD d) (x2 : Int32) (hx2 : (-2147483648 : Int) ≤ x2.toInt ∧ x2.toInt ≤ 1073745919) (x3 : Int32) (hx3 : (1 : Int) ≤ x3.toInt ∧ x3.toInt ≤ 100) : dMet l yX10_writeLine cX10_writeLine 7 none (rmD 5 6000 1680000) D K Z Y [.ref (ad 3), .ref (ad 21), .int x2, .int x3] ((WX d) K ad t) (QDV D K ad d (fun (u : tSt) (dd : dSt) => okX u ∧ frA [(21, 3)] [] [38, 39, 40] [] t u ∧ okD dd)) 6000 1680000 := by
  refine d_met d RX10 ⟨rfl, by decide +kernel⟩ (Nat.le_of_ble_eq_true rfl) ?_
  intro p e s m below meth c A ls C hE hZ hX hr hlocks hA hP hD hS hl
  have hl : lv_has ls 7 [(0, .ref (ad 3)), (1, .ref (ad 21)), (2, .int x2), (3, .int x3)] := hl
  have hle : dLe d d := dLe_rf
  have hdf : dFr s.heap.size d d := dFr_rf
  have hokt := hok
  have hfr : frA [(21, 3)] [] [38, 39, 40] [] t t := frA_rf
  have L_3 : ∀ (fuel_3 : Nat) (t1 : tSt) (d1 : dSt) (w3_4 : Int32) (H : Heap) (locs : List Loc) (ls : Array Slot), okX t1 → frA [(21, 3)] [] [38, 39, 40] [] t t1 → okD d1 → dLe d d1 → dFr s.heap.size d d1 → (0 : Int) ≤ w3_4.toInt ∧ w3_4.toInt ≤ 100 → (100 : Int) - w3_4.toInt < (fuel_3 : Int) → va_P D vwCl ((WX d1) K ad t1) H → va_D A ((WX d1) K ad t1) → va_S A s.heap H locs → lv_has ls 7 [(0, .ref (ad 3)), (1, .ref (ad 21)), (2, .int x2), (3, .int x3), (4, .int w3_4)] → W p l e (rmD 5 6000 1680000) s m [.ref (ad 3), .ref (ad 21), .int x2, .int x3].toArray below meth c H locs (newC d d1) 246800 (MQ below (QDV D K ad d (fun (u : tSt) (dd : dSt) => okX u ∧ frA [(21, 3)] [] [38, 39, 40] [] t u ∧ okD dd) s.heap.size A) [.ref (ad 3), .ref (ad 21), .int x2, .int x3].toArray s 6000 1680000 A) (F0 m 3 ls []) := by
    intro fuel_3
    induction fuel_3 with
    | zero =>
      intro t1 d1 w3_4 H locs ls hok hfr hod hle hdf hw3_4 hm3_3 hP hD hS hl
      exact absurd hm3_3 (by omega)
    | succ fuel_3 ih_3 =>
      intro t1 d1 w3_4 H locs ls hok hfr hod hle hdf hw3_4 hm3_3 hP hD hS hl
      have hm3_3 : (100 : Int) - w3_4.toInt < (fuel_3 : Int) + 1 := by omega
      have L_22 : ∀ (fuel_22 : Nat) (t1 : tSt) (d1 : dSt) (w22_4 : Int32) (w22_5 : Int32) (w22_6 : Int32) (H : Heap) (locs : List Loc) (ls : Array Slot), okX t1 → frA [(21, 3)] [] [38, 39, 40] [] t t1 → okD d1 → dLe d d1 → dFr s.heap.size d d1 → (0 : Int) ≤ w22_4.toInt ∧ w22_4.toInt ≤ 99 → (1 : Int) ≤ w22_6.toInt ∧ w22_6.toInt ≤ 6 → (100 : Int) - w22_4.toInt < (fuel_3 : Int) + 1 → (6 : Int) - w22_6.toInt < (fuel_22 : Int) → va_P D vwCl ((WX d1) K ad t1) H → va_D A ((WX d1) K ad t1) → va_S A s.heap H locs → lv_has ls 7 [(0, .ref (ad 3)), (1, .ref (ad 21)), (2, .int x2), (3, .int x3), (4, .int w22_4), (5, .int w22_5), (6, .int w22_6)] → W p l e (rmD 5 6000 1680000) s m [.ref (ad 3), .ref (ad 21), .int x2, .int x3].toArray below meth c H locs (newC d d1) 246800 (MQ below (QDV D K ad d (fun (u : tSt) (dd : dSt) => okX u ∧ frA [(21, 3)] [] [38, 39, 40] [] t u ∧ okD dd) s.heap.size A) [.ref (ad 3), .ref (ad 21), .int x2, .int x3].toArray s 6000 1680000 A) (F0 m 22 ls []) := by
        intro fuel_22
        induction fuel_22 with
        | zero =>
          intro t1 d1 w22_4 w22_5 w22_6 H locs ls hok hfr hod hle hdf hw22_4 hw22_6 hm22_3 hm22_22 hP hD hS hl
          exact absurd hm22_22 (by omega)
        | succ fuel_22 ih_22 =>
          intro t1 d1 w22_4 w22_5 w22_6 H locs ls hok hfr hod hle hdf hw22_4 hw22_6 hm22_3 hm22_22 hP hD hS hl
          have hm22_22 : (6 : Int) - w22_6.toInt < (fuel_22 : Int) + 1 := by omega
          refine lv_iload C.1 C.2.1 dX10_writeLine_22 (lv_at hl 6 rfl) ?_
          refine lv_iconst (v := 5) C.1 C.2.1 dX10_writeLine_24 (by decide) ?_
          refine lv_icmp_gt (tgt := 55) C.1 C.2.1 dX10_writeLine_25 (by decide) (fun c_1 => ?_) (fun c_1 => ?_)
          · replace c_1 : 5 < w22_6.toInt := i_lt c_1
            obtain ⟨v_2, e_3⟩ : ∃ z, z = w22_4 + 1 := ⟨_, rfl⟩
            have h_4 : v_2.toInt = w22_4.toInt + 1 := by rw [e_3]; exact ti_iadd (by show (_ : Int) ≤ w22_4.toInt + 1; omega) (by show w22_4.toInt + 1 < (_ : Int); omega)
            refine lv_iinc (v := v_2) (lv' := [(4, .int v_2), (0, .ref (ad 3)), (1, .ref (ad 21)), (2, .int x2), (3, .int x3), (5, .int w22_5), (6, .int w22_6)]) C.1 C.2.1 dX10_writeLine_55 hl (k := 4) rfl e_3.symm (by decide) rfl (fun ls hl => ?_)
            have hl : lv_has ls 7 [(0, .ref (ad 3)), (1, .ref (ad 21)), (2, .int x2), (3, .int x3), (4, .int v_2), (5, .int w22_5), (6, .int w22_6)] := lv_sub hl [1, 2, 3, 4, 0, 5, 6] rfl
            refine lv_goto (tgt := 3) C.1 C.2.1 dX10_writeLine_58 (by decide) ?_
            exact ih_3 t1 d1 v_2 _ _ _ hok hfr hod hle hdf ⟨by omega, by omega⟩ (show (100 : Int) - v_2.toInt < (fuel_3 : Int) from by omega) hP hD hS (lv_sub hl [0, 1, 2, 3, 4] rfl)
          · replace c_1 : w22_6.toInt ≤ 5 := i_nlt c_1
            refine lv_aload_n C.1 C.2.1 dX10_writeLine_28 rfl (lv_at hl 1 rfl) ?_
            refine lv_iconst (v := 5) C.1 C.2.1 dX10_writeLine_29 (by decide) ?_
            refine lv_iload C.1 C.2.1 dX10_writeLine_30 (lv_at hl 4 rfl) ?_
            obtain ⟨v_5, e_6⟩ : ∃ z, z = (5 : Int32) * (w22_4 : Int32) := ⟨_, rfl⟩
            have h_7 : v_5.toInt = 5 * w22_4.toInt := by rw [e_6]; exact ti_mull (k := 5) (by decide) (by omega) (by omega)
            refine k_imul (v := v_5) C e_6.symm dX10_writeLine_32 ?_
            refine lv_iload C.1 C.2.1 dX10_writeLine_33 (lv_at hl 6 rfl) ?_
            obtain ⟨v_8, e_9⟩ : ∃ z, z = (v_5 : Int32) + (w22_6 : Int32) := ⟨_, rfl⟩
            have h_10 : v_8.toInt = v_5.toInt + w22_6.toInt := by rw [e_9]; exact ti_iadd (by show (_ : Int) ≤ v_5.toInt + w22_6.toInt; omega) (by show v_5.toInt + w22_6.toInt < (_ : Int); omega)
            refine k_iadd (v := v_8) C e_9.symm dX10_writeLine_35 ?_
            refine lv_iload C.1 C.2.1 dX10_writeLine_36 (lv_at hl 5 rfl) ?_
            refine lv_iload C.1 C.2.1 dX10_writeLine_38 (lv_at hl 6 rfl) ?_
            refine hz_Si (As := [.int w22_5, .int w22_6]) (rest := [.int v_8, .ref (ad 21)]) C hP hD hS hA (T_X1_byteOf l D K Z Y ad d1 t1 hok (w22_5) (w22_6) (show (1 : Int) ≤ (w22_6 : Int32).toInt ∧ (w22_6 : Int32).toInt ≤ 5 from ⟨by omega, by omega⟩)) hE hZ (uwS m_54_5 m_47_14 m_14_2 m_47_15) (hdS 2 (by decide +kernel) rfl) ⟨Nat.le_of_ble_eq_true rfl, Nat.le_of_ble_eq_true rfl⟩ rfl rfl rfl hl.1 (Nat.le_of_ble_eq_true rfl) dX10_writeLine_40 ⟨Nat.le_trans (newC_le _ _) (Nat.le_of_ble_eq_true rfl), (Nat.le_of_ble_eq_true rfl)⟩ (fun r_12 t_11 H locs hw hP hD hS => ?_)
            obtain ⟨h_14, h_15⟩ := hw
            refine hz_Si (As := [.int r_12]) (rest := [.int v_8, .ref (ad 21)]) C hP hD hS hA (T_X1_written l D K Z Y ad d1 t1 hok (r_12) (show (0 : Int) ≤ (r_12 : Int32).toInt ∧ (r_12 : Int32).toInt ≤ 399 from ⟨by omega, by omega⟩)) hE hZ (uwS m_54_6 m_17_18 m_14_2 m_17_19) (hdS 1 (by decide +kernel) rfl) ⟨Nat.le_of_ble_eq_true rfl, Nat.le_of_ble_eq_true rfl⟩ rfl rfl rfl hl.1 (Nat.le_of_ble_eq_true rfl) dX10_writeLine_43 ⟨Nat.le_trans (newC_le _ _) (Nat.le_of_ble_eq_true rfl), (Nat.le_of_ble_eq_true rfl)⟩ (fun r_17 t_16 H locs hw hP hD hS => ?_)
            obtain ⟨h_19, h_20⟩ := hw
            refine hz_Vv (As := [.int v_8, .int r_17]) (rest := []) C hP hD hS hA (T_X4_mark_2 l D K Z Y ad d1 t1 hok (v_8) (show (1 : Int) ≤ (v_8 : Int32).toInt ∧ (v_8 : Int32).toInt ≤ 2147483647 from ⟨by omega, (i_rng _).2⟩) (r_17) (show (0 : Int) ≤ (r_17 : Int32).toInt ∧ (r_17 : Int32).toInt ≤ 255 from ⟨by omega, by omega⟩)) hE hZ (uwV m_52_13 m_41_0 m_41_1 m_3_20 m_41_2) (hdV 2 (by decide +kernel) rfl) ⟨Nat.le_of_ble_eq_true rfl, Nat.le_of_ble_eq_true rfl⟩ rfl rfl (ci := 3) (q0 := 21) rfl rfl rfl hl.1 (Nat.le_of_ble_eq_true rfl) dX10_writeLine_46 ⟨Nat.le_trans (newC_le _ _) (Nat.le_of_ble_eq_true rfl), (Nat.le_of_ble_eq_true rfl)⟩ (fun t_21 H locs hw hP hD hS => ?_)
            obtain ⟨hok, f_23⟩ := hw
            have hfr : frA [(21, 3)] [] [38, 39, 40] [] t t_21 := frA_tr hfr f_23 rfl
            obtain ⟨v_24, e_25⟩ : ∃ z, z = w22_6 + 1 := ⟨_, rfl⟩
            have h_26 : v_24.toInt = w22_6.toInt + 1 := by rw [e_25]; exact ti_iadd (by show (_ : Int) ≤ w22_6.toInt + 1; omega) (by show w22_6.toInt + 1 < (_ : Int); omega)
            refine lv_iinc (v := v_24) (lv' := [(6, .int v_24), (0, .ref (ad 3)), (1, .ref (ad 21)), (2, .int x2), (3, .int x3), (4, .int w22_4), (5, .int w22_5)]) C.1 C.2.1 dX10_writeLine_49 hl (k := 6) rfl e_25.symm (by decide) rfl (fun ls hl => ?_)
            have hl : lv_has ls 7 [(0, .ref (ad 3)), (1, .ref (ad 21)), (2, .int x2), (3, .int x3), (4, .int w22_4), (5, .int w22_5), (6, .int v_24)] := lv_sub hl [1, 2, 3, 4, 5, 6, 0] rfl
            refine lv_goto (tgt := 22) C.1 C.2.1 dX10_writeLine_52 (by decide) ?_
            exact ih_22 t_21 d1 w22_4 w22_5 v_24 _ _ _ hok hfr hod hle hdf ⟨by omega, by omega⟩ ⟨by omega, by omega⟩ (show (100 : Int) - w22_4.toInt < (fuel_3 : Int) + 1 from by omega) (show (6 : Int) - v_24.toInt < (fuel_22 : Int) from by omega) hP hD hS (lv_sub hl [0, 1, 2, 3, 4, 5, 6] rfl)
      refine lv_iload C.1 C.2.1 dX10_writeLine_3 (lv_at hl 4 rfl) ?_
      refine lv_iload_n C.1 C.2.1 dX10_writeLine_5 rfl (lv_at hl 3 rfl) ?_
      refine lv_icmp_ge (tgt := 61) C.1 C.2.1 dX10_writeLine_6 (by decide) (fun c_27 => ?_) (fun c_27 => ?_)
      · replace c_27 : x3.toInt ≤ w3_4.toInt := i_le c_27
        refine lv_aload_n C.1 C.2.1 dX10_writeLine_61 rfl (lv_at hl 1 rfl) ?_
        refine lv_bipush (v := 120) C.1 C.2.1 dX10_writeLine_62 (by decide) ?_
        refine lv_iconst (v := 0) C.1 C.2.1 dX10_writeLine_64 (by decide) ?_
        refine g_DVv (As := [.int 120, .int 0]) (rest := []) C hP hD hS hA (T_X4_finish_2 l D K Z Y ad d1 t1 hok hod 120 (show (120 : Int) ≤ (120 : Int32).toInt ∧ (120 : Int32).toInt ≤ 120 from ⟨by decide, by decide⟩) 0 (show (0 : Int) ≤ (0 : Int32).toInt ∧ (0 : Int32).toInt ≤ 0 from ⟨by decide, by decide⟩)) hE hZ hX hle hdf (uwV m_52_14 m_41_8 m_41_9 m_3_20 m_41_10) (hdV 2 (by decide +kernel) rfl) ⟨Nat.le_of_ble_eq_true rfl, Nat.le_of_ble_eq_true rfl⟩ rfl rfl (ci := 3) (q0 := 21) rfl rfl rfl hl.1 (Nat.le_of_ble_eq_true rfl) dX10_writeLine_65 ⟨Nat.le_of_ble_eq_true rfl, Nat.le_of_ble_eq_true rfl⟩ (fun t_28 d_30 H locs hw hP hD hS hln hle hdf => ?_)
        obtain ⟨hok, f_31, hod⟩ := hw
        have hfr : frA [(21, 3)] [] [38, 39, 40] [] t t_28 := frA_tr hfr f_31 rfl
        exact g_Dvret C hr hlocks hP hD hS ⟨hok, hfr, hod⟩ hle hdf (Nat.le_of_ble_eq_true rfl) (Nat.le_of_ble_eq_true rfl) dX10_writeLine_68
      · replace c_27 : w3_4.toInt < x3.toInt := i_nle c_27
        refine lv_aload_n C.1 C.2.1 dX10_writeLine_9 rfl (lv_at hl 0 rfl) ?_
        refine lv_iload_n C.1 C.2.1 dX10_writeLine_10 rfl (lv_at hl 2 rfl) ?_
        refine lv_iload C.1 C.2.1 dX10_writeLine_11 (lv_at hl 4 rfl) ?_
        obtain ⟨v_32, e_33⟩ : ∃ z, z = (x2 : Int32) + (w3_4 : Int32) := ⟨_, rfl⟩
        have h_35 := i_rng x2
        have h_34 : v_32.toInt = x2.toInt + w3_4.toInt := by rw [e_33]; exact ti_iadd (by show (_ : Int) ≤ x2.toInt + w3_4.toInt; omega) (by show x2.toInt + w3_4.toInt < (_ : Int); omega)
        refine k_iadd (v := v_32) C e_33.symm dX10_writeLine_13 ?_
        refine hz_Vi (As := [.int v_32]) (rest := []) C hP hD hS hA (T_X10_wordAt l D K Z Y ad d1 t1 hok (v_32)) hE hZ (uwV m_53_13 m_53_14 m_53_15 m_1_20 m_53_16) (hdV 1 (by decide +kernel) rfl) ⟨Nat.le_of_ble_eq_true rfl, Nat.le_of_ble_eq_true rfl⟩ rfl rfl (ci := 9) (q0 := 3) rfl rfl rfl hl.1 (Nat.le_of_ble_eq_true rfl) dX10_writeLine_14 ⟨Nat.le_trans (newC_le _ _) (Nat.le_of_ble_eq_true rfl), (Nat.le_of_ble_eq_true rfl)⟩ (fun r_37 t_36 H locs hw hP hD hS => ?_)
        obtain ⟨h_39, h_40⟩ := hw
        refine lv_istore (lv' := [(5, .int r_37), (0, .ref (ad 3)), (1, .ref (ad 21)), (2, .int x2), (3, .int x3), (4, .int w3_4)]) C.1 C.2.1 dX10_writeLine_17 hl (by decide) rfl (fun ls hl => ?_)
        have hl : lv_has ls 7 [(0, .ref (ad 3)), (1, .ref (ad 21)), (2, .int x2), (3, .int x3), (4, .int w3_4), (5, .int r_37)] := lv_sub hl [1, 2, 3, 4, 5, 0] rfl
        refine lv_iconst (v := 1) C.1 C.2.1 dX10_writeLine_19 (by decide) ?_
        refine lv_istore (lv' := [(6, .int 1), (0, .ref (ad 3)), (1, .ref (ad 21)), (2, .int x2), (3, .int x3), (4, .int w3_4), (5, .int r_37)]) C.1 C.2.1 dX10_writeLine_20 hl (by decide) rfl (fun ls hl => ?_)
        have hl : lv_has ls 7 [(0, .ref (ad 3)), (1, .ref (ad 21)), (2, .int x2), (3, .int x3), (4, .int w3_4), (5, .int r_37), (6, .int 1)] := lv_sub hl [1, 2, 3, 4, 5, 6, 0] rfl
        exact L_22 6 t1 d1 w3_4 r_37 1 _ _ _ hok hfr hod hle hdf ⟨by omega, by omega⟩ ⟨by decide, by decide⟩ (show (100 : Int) - w3_4.toInt < (fuel_3 : Int) + 1 from by omega) (show (6 : Int) - 1 < ((6 : Nat) : Int) from by omega) hP hD hS (lv_sub hl [0, 1, 2, 3, 4, 5, 6] rfl)
  refine lv_iconst (v := 0) C.1 C.2.1 dX10_writeLine_0 (by decide) ?_
  refine lv_istore (lv' := [(4, .int 0), (0, .ref (ad 3)), (1, .ref (ad 21)), (2, .int x2), (3, .int x3)]) C.1 C.2.1 dX10_writeLine_1 hl (by decide) rfl (fun ls hl => ?_)
  have hl : lv_has ls 7 [(0, .ref (ad 3)), (1, .ref (ad 21)), (2, .int x2), (3, .int x3), (4, .int 0)] := lv_sub hl [1, 2, 3, 4, 0] rfl
  exact L_3 101 t d 0 _ _ _ hok hfr hod hle hdf ⟨by decide, by decide⟩ (show (100 : Int) - 0 < ((101 : Nat) : Int) from by omega) hP hD hS (lv_sub hl [0, 1, 2, 3, 4] rfl)

theorem dX11_printSource_0 : decode cX11_printSource 0 = .ok (.aload_n 0, 1) := by decide +kernel
theorem dX11_printSource_1 : decode cX11_printSource 1 = .ok (.getfield 66, 3) := by decide +kernel
theorem dX11_printSource_11 : decode cX11_printSource 11 = .ok (.aload_n 0, 1) := by decide +kernel
theorem dX11_printSource_12 : decode cX11_printSource 12 = .ok (.getfield 57, 3) := by decide +kernel
theorem dX11_printSource_15 : decode cX11_printSource 15 = .ok (.bipush 75, 2) := by decide +kernel
theorem dX11_printSource_17 : decode cX11_printSource 17 = .ok (.iconst 1, 1) := by decide +kernel
theorem dX11_printSource_18 : decode cX11_printSource 18 = .ok (.invokevirtual 168, 3) := by decide +kernel
theorem dX11_printSource_21 : decode cX11_printSource 21 = .ok (.pop, 1) := by decide +kernel
theorem dX11_printSource_22 : decode cX11_printSource 22 = .ok (.aload_n 0, 1) := by decide +kernel
theorem dX11_printSource_23 : decode cX11_printSource 23 = .ok (.getfield 66, 3) := by decide +kernel
theorem dX11_printSource_26 : decode cX11_printSource 26 = .ok (.iconst 2, 1) := by decide +kernel
theorem dX11_printSource_27 : decode cX11_printSource 27 = .ok (.invokevirtual 194, 3) := by decide +kernel
theorem dX11_printSource_30 : decode cX11_printSource 30 = .ok (.ifCond .eq 15, 3) := by decide +kernel
theorem dX11_printSource_33 : decode cX11_printSource 33 = .ok (.aload_n 0, 1) := by decide +kernel
theorem dX11_printSource_34 : decode cX11_printSource 34 = .ok (.getfield 57, 3) := by decide +kernel
theorem dX11_printSource_37 : decode cX11_printSource 37 = .ok (.bipush 10, 2) := by decide +kernel
theorem dX11_printSource_39 : decode cX11_printSource 39 = .ok (.bipush 75, 2) := by decide +kernel
theorem dX11_printSource_4 : decode cX11_printSource 4 = .ok (.iconst 1, 1) := by decide +kernel
theorem dX11_printSource_41 : decode cX11_printSource 41 = .ok (.invokevirtual 174, 3) := by decide +kernel
theorem dX11_printSource_44 : decode cX11_printSource 44 = .ok (.pop, 1) := by decide +kernel
theorem dX11_printSource_45 : decode cX11_printSource 45 = .ok (.aload_n 0, 1) := by decide +kernel
theorem dX11_printSource_46 : decode cX11_printSource 46 = .ok (.getfield 66, 3) := by decide +kernel
theorem dX11_printSource_49 : decode cX11_printSource 49 = .ok (.iconst 3, 1) := by decide +kernel
theorem dX11_printSource_5 : decode cX11_printSource 5 = .ok (.invokevirtual 194, 3) := by decide +kernel
theorem dX11_printSource_50 : decode cX11_printSource 50 = .ok (.invokevirtual 194, 3) := by decide +kernel
theorem dX11_printSource_53 : decode cX11_printSource 53 = .ok (.ifCond .eq 11, 3) := by decide +kernel
theorem dX11_printSource_56 : decode cX11_printSource 56 = .ok (.aload_n 0, 1) := by decide +kernel
theorem dX11_printSource_57 : decode cX11_printSource 57 = .ok (.getfield 57, 3) := by decide +kernel
theorem dX11_printSource_60 : decode cX11_printSource 60 = .ok (.invokevirtual 165, 3) := by decide +kernel
theorem dX11_printSource_63 : decode cX11_printSource 63 = .ok (.pop, 1) := by decide +kernel
theorem dX11_printSource_64 : decode cX11_printSource 64 = .ok (.return_, 1) := by decide +kernel
theorem dX11_printSource_8 : decode cX11_printSource 8 = .ok (.ifCond .eq 14, 3) := by decide +kernel
set_option maxHeartbeats 4000000 in
set_option maxRecDepth 100000 in
theorem T_X11_printSource (l : Launch) (D : va_G) (K : Nat → ClassId) (Z Y : Nat → Nat) (ad : Nat → Nat) (d : dSt) (t : tSt) (hok : okX t) (hod : okD d)  : dMet l yX11_printSource cX11_printSource 1 none (rmD 8 9000 2520000) D K Z Y [.ref (ad 0)] ((WX d) K ad t) (QDV D K ad d (fun (u : tSt) (dd : dSt) => okX u ∧ frA [(19, 3), (20, 3)] [] [32, 33, 34, 35, 36, 37] [] t u ∧ okD dd)) 9000 2520000 := by
  refine d_met d RX11 ⟨rfl, by decide +kernel⟩ (Nat.le_of_ble_eq_true rfl) ?_
  intro p e s m below meth c A ls C hE hZ hX hr hlocks hA hP hD hS hl
  have hl : lv_has ls 1 [(0, .ref (ad 0))] := hl
  have hle : dLe d d := dLe_rf
  have hdf : dFr s.heap.size d d := dFr_rf
  have hokt := hok
  have hfr : frA [(19, 3), (20, 3)] [] [32, 33, 34, 35, 36, 37] [] t t := frA_rf
  have L_45 : ∀ (t1 : tSt) (d1 : dSt) (H : Heap) (locs : List Loc) (ls : Array Slot), okX t1 → frA [(19, 3), (20, 3)] [] [32, 33, 34, 35, 36, 37] [] t t1 → okD d1 → dLe d d1 → dFr s.heap.size d d1 → va_P D vwCl ((WX d1) K ad t1) H → va_D A ((WX d1) K ad t1) → va_S A s.heap H locs → lv_has ls 1 [(0, .ref (ad 0))] → W p l e (rmD 8 9000 2520000) s m [.ref (ad 0)].toArray below meth c H locs (newC d d1) 246800 (MQ below (QDV D K ad d (fun (u : tSt) (dd : dSt) => okX u ∧ frA [(19, 3), (20, 3)] [] [32, 33, 34, 35, 36, 37] [] t u ∧ okD dd) s.heap.size A) [.ref (ad 0)].toArray s 9000 2520000 A) (F0 m 45 ls []) := by
    intro t1 d1 H locs ls hok hfr hod hle hdf hP hD hS hl
    refine lv_aload_n C.1 C.2.1 dX11_printSource_45 rfl (lv_at hl 0 rfl) ?_
    refine k_get (v := .ref (ad 7)) C hP 0 rfl rfl inlX11 7 (by decide) m_2_18 rfl dX11_printSource_46 ?_
    refine lv_iconst (v := 3) C.1 C.2.1 dX11_printSource_49 (by decide) ?_
    refine hz_Vi (As := [.int 3]) (rest := []) C hP hD hS hA (T_X3_wants l D K Z Y ad d1 t1 hok 3 (show (0 : Int) ≤ (3 : Int32).toInt ∧ (3 : Int32).toInt ≤ 4 from ⟨by decide, by decide⟩)) hE hZ (uwV m_76_10 m_76_11 m_76_12 m_2_17 m_76_13) (hdV 1 (by decide +kernel) rfl) ⟨Nat.le_of_ble_eq_true rfl, Nat.le_of_ble_eq_true rfl⟩ rfl rfl (ci := 2) (q0 := 7) rfl rfl rfl hl.1 (Nat.le_of_ble_eq_true rfl) dX11_printSource_50 ⟨Nat.le_trans (newC_le _ _) (Nat.le_of_ble_eq_true rfl), (Nat.le_of_ble_eq_true rfl)⟩ (fun r_2 t_1 H locs hw hP hD hS => ?_)
    obtain ⟨h_4, h_5⟩ := hw
    refine lv_if_eq (tgt := 64) C.1 C.2.1 dX11_printSource_53 (by decide) (fun c_6 => ?_) (fun c_6 => ?_)
    · replace c_6 : r_2.toInt = 0 := i_eq c_6
      exact g_Dvret C hr hlocks hP hD hS ⟨hok, hfr, hod⟩ hle hdf (Nat.le_of_ble_eq_true rfl) (Nat.le_of_ble_eq_true rfl) dX11_printSource_64
    · replace c_6 : ¬ r_2.toInt = 0 := i_ne c_6
      refine lv_aload_n C.1 C.2.1 dX11_printSource_56 rfl (lv_at hl 0 rfl) ?_
      refine k_get (v := .ref (ad 6)) C hP 0 rfl rfl inlX11 6 (by decide) m_2_14 rfl dX11_printSource_57 ?_
      refine g_DVi (As := []) (rest := []) C hP hD hS hA (T_X7_punchCards l D K Z Y ad d1 t1 hok hod ) hE hZ hX hle hdf (uwV m_65_4 m_65_5 m_65_6 m_2_13 m_65_7) (hdV 0 (by decide +kernel) rfl) ⟨Nat.le_of_ble_eq_true rfl, Nat.le_of_ble_eq_true rfl⟩ rfl rfl (ci := 6) (q0 := 6) rfl rfl rfl hl.1 (Nat.le_of_ble_eq_true rfl) dX11_printSource_60 ⟨Nat.le_of_ble_eq_true rfl, Nat.le_of_ble_eq_true rfl⟩ (fun r_8 t_7 d_9 H locs hw hP hD hS hln hle hdf => ?_)
      obtain ⟨hok, f_10, hod, h_11, h_12⟩ := hw
      have hfr : frA [(19, 3), (20, 3)] [] [32, 33, 34, 35, 36, 37] [] t t_7 := frA_tr hfr f_10 rfl
      refine lv_pop C.1 C.2.1 dX11_printSource_63 rfl ?_
      exact g_Dvret C hr hlocks hP hD hS ⟨hok, hfr, hod⟩ hle hdf (Nat.le_of_ble_eq_true rfl) (Nat.le_of_ble_eq_true rfl) dX11_printSource_64
  have L_22 : ∀ (t1 : tSt) (d1 : dSt) (H : Heap) (locs : List Loc) (ls : Array Slot), okX t1 → frA [(19, 3), (20, 3)] [] [32, 33, 34, 35, 36, 37] [] t t1 → okD d1 → dLe d d1 → dFr s.heap.size d d1 → va_P D vwCl ((WX d1) K ad t1) H → va_D A ((WX d1) K ad t1) → va_S A s.heap H locs → lv_has ls 1 [(0, .ref (ad 0))] → W p l e (rmD 8 9000 2520000) s m [.ref (ad 0)].toArray below meth c H locs (newC d d1) 246800 (MQ below (QDV D K ad d (fun (u : tSt) (dd : dSt) => okX u ∧ frA [(19, 3), (20, 3)] [] [32, 33, 34, 35, 36, 37] [] t u ∧ okD dd) s.heap.size A) [.ref (ad 0)].toArray s 9000 2520000 A) (F0 m 22 ls []) := by
    intro t1 d1 H locs ls hok hfr hod hle hdf hP hD hS hl
    refine lv_aload_n C.1 C.2.1 dX11_printSource_22 rfl (lv_at hl 0 rfl) ?_
    refine k_get (v := .ref (ad 7)) C hP 0 rfl rfl inlX11 7 (by decide) m_2_18 rfl dX11_printSource_23 ?_
    refine lv_iconst (v := 2) C.1 C.2.1 dX11_printSource_26 (by decide) ?_
    refine hz_Vi (As := [.int 2]) (rest := []) C hP hD hS hA (T_X3_wants l D K Z Y ad d1 t1 hok 2 (show (0 : Int) ≤ (2 : Int32).toInt ∧ (2 : Int32).toInt ≤ 4 from ⟨by decide, by decide⟩)) hE hZ (uwV m_76_10 m_76_11 m_76_12 m_2_17 m_76_13) (hdV 1 (by decide +kernel) rfl) ⟨Nat.le_of_ble_eq_true rfl, Nat.le_of_ble_eq_true rfl⟩ rfl rfl (ci := 2) (q0 := 7) rfl rfl rfl hl.1 (Nat.le_of_ble_eq_true rfl) dX11_printSource_27 ⟨Nat.le_trans (newC_le _ _) (Nat.le_of_ble_eq_true rfl), (Nat.le_of_ble_eq_true rfl)⟩ (fun r_14 t_13 H locs hw hP hD hS => ?_)
    obtain ⟨h_16, h_17⟩ := hw
    refine lv_if_eq (tgt := 45) C.1 C.2.1 dX11_printSource_30 (by decide) (fun c_18 => ?_) (fun c_18 => ?_)
    · replace c_18 : r_14.toInt = 0 := i_eq c_18
      exact L_45 t1 d1 _ _ _ hok hfr hod hle hdf hP hD hS (lv_sub hl [0] rfl)
    · replace c_18 : ¬ r_14.toInt = 0 := i_ne c_18
      refine lv_aload_n C.1 C.2.1 dX11_printSource_33 rfl (lv_at hl 0 rfl) ?_
      refine k_get (v := .ref (ad 6)) C hP 0 rfl rfl inlX11 6 (by decide) m_2_14 rfl dX11_printSource_34 ?_
      refine lv_bipush (v := 10) C.1 C.2.1 dX11_printSource_37 (by decide) ?_
      refine lv_bipush (v := 75) C.1 C.2.1 dX11_printSource_39 (by decide) ?_
      refine g_DVi (As := [.int 10, .int 75]) (rest := []) C hP hD hS hA (T_X7_printSymbols l D K Z Y ad d1 t1 hok hod 10 (show (10 : Int) ≤ (10 : Int32).toInt ∧ (10 : Int32).toInt ≤ 16 from ⟨by decide, by decide⟩) 75 (show (72 : Int) ≤ (75 : Int32).toInt ∧ (75 : Int32).toInt ≤ 120 from ⟨by decide, by decide⟩)) hE hZ hX hle hdf (uwV m_68_11 m_68_12 m_68_13 m_2_13 m_68_14) (hdV 2 (by decide +kernel) rfl) ⟨Nat.le_of_ble_eq_true rfl, Nat.le_of_ble_eq_true rfl⟩ rfl rfl (ci := 6) (q0 := 6) rfl rfl rfl hl.1 (Nat.le_of_ble_eq_true rfl) dX11_printSource_41 ⟨Nat.le_of_ble_eq_true rfl, Nat.le_of_ble_eq_true rfl⟩ (fun r_20 t_19 d_21 H locs hw hP hD hS hln hle hdf => ?_)
      obtain ⟨hok, f_22, hod, h_23, h_24⟩ := hw
      have hfr : frA [(19, 3), (20, 3)] [] [32, 33, 34, 35, 36, 37] [] t t_19 := frA_tr hfr f_22 rfl
      refine lv_pop C.1 C.2.1 dX11_printSource_44 rfl ?_
      exact L_45 t_19 d_21 _ _ _ hok hfr hod hle hdf hP hD hS (lv_sub hl [0] rfl)
  refine lv_aload_n C.1 C.2.1 dX11_printSource_0 rfl (lv_at hl 0 rfl) ?_
  refine k_get (v := .ref (ad 7)) C hP 0 rfl rfl inlX11 7 (by decide) m_2_18 rfl dX11_printSource_1 ?_
  refine lv_iconst (v := 1) C.1 C.2.1 dX11_printSource_4 (by decide) ?_
  refine hz_Vi (As := [.int 1]) (rest := []) C hP hD hS hA (T_X3_wants l D K Z Y ad d t hok 1 (show (0 : Int) ≤ (1 : Int32).toInt ∧ (1 : Int32).toInt ≤ 4 from ⟨by decide, by decide⟩)) hE hZ (uwV m_76_10 m_76_11 m_76_12 m_2_17 m_76_13) (hdV 1 (by decide +kernel) rfl) ⟨Nat.le_of_ble_eq_true rfl, Nat.le_of_ble_eq_true rfl⟩ rfl rfl (ci := 2) (q0 := 7) rfl rfl rfl hl.1 (Nat.le_of_ble_eq_true rfl) dX11_printSource_5 ⟨Nat.le_trans (newC_le _ _) (Nat.le_of_ble_eq_true rfl), (Nat.le_of_ble_eq_true rfl)⟩ (fun r_26 t_25 H locs hw hP hD hS => ?_)
  obtain ⟨h_28, h_29⟩ := hw
  refine lv_if_eq (tgt := 22) C.1 C.2.1 dX11_printSource_8 (by decide) (fun c_30 => ?_) (fun c_30 => ?_)
  · replace c_30 : r_26.toInt = 0 := i_eq c_30
    exact L_22 t d _ _ _ hok hfr hod hle hdf hP hD hS (lv_sub hl [0] rfl)
  · replace c_30 : ¬ r_26.toInt = 0 := i_ne c_30
    refine lv_aload_n C.1 C.2.1 dX11_printSource_11 rfl (lv_at hl 0 rfl) ?_
    refine k_get (v := .ref (ad 6)) C hP 0 rfl rfl inlX11 6 (by decide) m_2_14 rfl dX11_printSource_12 ?_
    refine lv_bipush (v := 75) C.1 C.2.1 dX11_printSource_15 (by decide) ?_
    refine lv_iconst (v := 1) C.1 C.2.1 dX11_printSource_17 (by decide) ?_
    refine g_DVi (As := [.int 75, .int 1]) (rest := []) C hP hD hS hA (T_X7_printWords l D K Z Y ad d t hok hod 75 (show (72 : Int) ≤ (75 : Int32).toInt ∧ (75 : Int32).toInt ≤ 120 from ⟨by decide, by decide⟩) 1 (show (0 : Int) ≤ (1 : Int32).toInt ∧ (1 : Int32).toInt ≤ 1 from ⟨by decide, by decide⟩)) hE hZ hX hle hdf (uwV m_67_0 m_67_1 m_67_2 m_2_13 m_67_3) (hdV 2 (by decide +kernel) rfl) ⟨Nat.le_of_ble_eq_true rfl, Nat.le_of_ble_eq_true rfl⟩ rfl rfl (ci := 6) (q0 := 6) rfl rfl rfl hl.1 (Nat.le_of_ble_eq_true rfl) dX11_printSource_18 ⟨Nat.le_of_ble_eq_true rfl, Nat.le_of_ble_eq_true rfl⟩ (fun r_32 t_31 d_33 H locs hw hP hD hS hln hle hdf => ?_)
    obtain ⟨hok, f_34, hod, h_35, h_36⟩ := hw
    have hfr : frA [(19, 3), (20, 3)] [] [32, 33, 34, 35, 36, 37] [] t t_31 := frA_tr hfr f_34 rfl
    refine lv_pop C.1 C.2.1 dX11_printSource_21 rfl ?_
    exact L_22 t_31 d_33 _ _ _ hok hfr hod hle hdf hP hD hS (lv_sub hl [0] rfl)

theorem dX11_closeJob_0 : decode cX11_closeJob 0 = .ok (.iload_n 1, 1) := by decide +kernel
theorem dX11_closeJob_1 : decode cX11_closeJob 1 = .ok (.iconst 2, 1) := by decide +kernel
theorem dX11_closeJob_12 : decode cX11_closeJob 12 = .ok (.iconst 1, 1) := by decide +kernel
theorem dX11_closeJob_13 : decode cX11_closeJob 13 = .ok (.isub, 1) := by decide +kernel
theorem dX11_closeJob_14 : decode cX11_closeJob 14 = .ok (.goto 4, 3) := by decide +kernel
theorem dX11_closeJob_17 : decode cX11_closeJob 17 = .ok (.iconst 0, 1) := by decide +kernel
theorem dX11_closeJob_18 : decode cX11_closeJob 18 = .ok (.istore_n 2, 1) := by decide +kernel
theorem dX11_closeJob_19 : decode cX11_closeJob 19 = .ok (.iload_n 1, 1) := by decide +kernel
theorem dX11_closeJob_2 : decode cX11_closeJob 2 = .ok (.if_icmp .ne 15, 3) := by decide +kernel
theorem dX11_closeJob_20 : decode cX11_closeJob 20 = .ok (.iconst 3, 1) := by decide +kernel
theorem dX11_closeJob_21 : decode cX11_closeJob 21 = .ok (.if_icmp .ne 11, 3) := by decide +kernel
theorem dX11_closeJob_24 : decode cX11_closeJob 24 = .ok (.aload_n 0, 1) := by decide +kernel
theorem dX11_closeJob_25 : decode cX11_closeJob 25 = .ok (.getfield 48, 3) := by decide +kernel
theorem dX11_closeJob_28 : decode cX11_closeJob 28 = .ok (.getfield 121, 3) := by decide +kernel
theorem dX11_closeJob_31 : decode cX11_closeJob 31 = .ok (.istore_n 2, 1) := by decide +kernel
theorem dX11_closeJob_32 : decode cX11_closeJob 32 = .ok (.aload_n 0, 1) := by decide +kernel
theorem dX11_closeJob_33 : decode cX11_closeJob 33 = .ok (.getfield 66, 3) := by decide +kernel
theorem dX11_closeJob_36 : decode cX11_closeJob 36 = .ok (.iload_n 1, 1) := by decide +kernel
theorem dX11_closeJob_37 : decode cX11_closeJob 37 = .ok (.iload_n 2, 1) := by decide +kernel
theorem dX11_closeJob_38 : decode cX11_closeJob 38 = .ok (.aload_n 0, 1) := by decide +kernel
theorem dX11_closeJob_39 : decode cX11_closeJob 39 = .ok (.getfield 44, 3) := by decide +kernel
theorem dX11_closeJob_42 : decode cX11_closeJob 42 = .ok (.getfield 244, 3) := by decide +kernel
theorem dX11_closeJob_45 : decode cX11_closeJob 45 = .ok (.l2i, 1) := by decide +kernel
theorem dX11_closeJob_46 : decode cX11_closeJob 46 = .ok (.invokevirtual 346, 3) := by decide +kernel
theorem dX11_closeJob_49 : decode cX11_closeJob 49 = .ok (.aload_n 0, 1) := by decide +kernel
theorem dX11_closeJob_5 : decode cX11_closeJob 5 = .ok (.aload_n 0, 1) := by decide +kernel
theorem dX11_closeJob_50 : decode cX11_closeJob 50 = .ok (.getfield 57, 3) := by decide +kernel
theorem dX11_closeJob_53 : decode cX11_closeJob 53 = .ok (.aload_n 0, 1) := by decide +kernel
theorem dX11_closeJob_54 : decode cX11_closeJob 54 = .ok (.getfield 66, 3) := by decide +kernel
theorem dX11_closeJob_57 : decode cX11_closeJob 57 = .ok (.invokevirtual 349, 3) := by decide +kernel
theorem dX11_closeJob_6 : decode cX11_closeJob 6 = .ok (.getfield 44, 3) := by decide +kernel
theorem dX11_closeJob_60 : decode cX11_closeJob 60 = .ok (.aload_n 0, 1) := by decide +kernel
theorem dX11_closeJob_61 : decode cX11_closeJob 61 = .ok (.getfield 66, 3) := by decide +kernel
theorem dX11_closeJob_64 : decode cX11_closeJob 64 = .ok (.iconst 0, 1) := by decide +kernel
theorem dX11_closeJob_65 : decode cX11_closeJob 65 = .ok (.invokevirtual 194, 3) := by decide +kernel
theorem dX11_closeJob_68 : decode cX11_closeJob 68 = .ok (.ifCond .eq 15, 3) := by decide +kernel
theorem dX11_closeJob_71 : decode cX11_closeJob 71 = .ok (.iload_n 1, 1) := by decide +kernel
theorem dX11_closeJob_72 : decode cX11_closeJob 72 = .ok (.iconst 2, 1) := by decide +kernel
theorem dX11_closeJob_73 : decode cX11_closeJob 73 = .ok (.if_icmp .gt 10, 3) := by decide +kernel
theorem dX11_closeJob_76 : decode cX11_closeJob 76 = .ok (.aload_n 0, 1) := by decide +kernel
theorem dX11_closeJob_77 : decode cX11_closeJob 77 = .ok (.getfield 57, 3) := by decide +kernel
theorem dX11_closeJob_80 : decode cX11_closeJob 80 = .ok (.invokevirtual 353, 3) := by decide +kernel
theorem dX11_closeJob_83 : decode cX11_closeJob 83 = .ok (.return_, 1) := by decide +kernel
theorem dX11_closeJob_9 : decode cX11_closeJob 9 = .ok (.getfield 220, 3) := by decide +kernel
set_option maxHeartbeats 4000000 in
set_option maxRecDepth 100000 in
theorem T_X11_closeJob (l : Launch) (D : va_G) (K : Nat → ClassId) (Z Y : Nat → Nat) (ad : Nat → Nat) (d : dSt) (t : tSt) (hok : okX t) (hod : okD d) (x1 : Int32) (hx1 : (0 : Int) ≤ x1.toInt ∧ x1.toInt ≤ 4) : dMet l yX11_closeJob cX11_closeJob 3 none (rmD 6 7000 1960000) D K Z Y [.ref (ad 0), .int x1] ((WX d) K ad t) (QDV D K ad d (fun (u : tSt) (dd : dSt) => okX u ∧ frA [(7, 12), (20, 3)] [] [31, 35, 36, 37] [] t u ∧ okD dd)) 7000 1960000 := by
  refine d_met d RX11 ⟨rfl, by decide +kernel⟩ (Nat.le_of_ble_eq_true rfl) ?_
  intro p e s m below meth c A ls C hE hZ hX hr hlocks hA hP hD hS hl
  have hl : lv_has ls 3 [(0, .ref (ad 0)), (1, .int x1)] := hl
  have hle : dLe d d := dLe_rf
  have hdf : dFr s.heap.size d d := dFr_rf
  have hokt := hok
  have hfr : frA [(7, 12), (20, 3)] [] [31, 35, 36, 37] [] t t := frA_rf
  have L_32 : ∀ (t1 : tSt) (d1 : dSt) (w32_2 : Int32) (H : Heap) (locs : List Loc) (ls : Array Slot), okX t1 → frA [(7, 12), (20, 3)] [] [31, 35, 36, 37] [] t t1 → okD d1 → dLe d d1 → dFr s.heap.size d d1 → (-1 : Int) ≤ w32_2.toInt ∧ w32_2.toInt ≤ 8 → va_P D vwCl ((WX d1) K ad t1) H → va_D A ((WX d1) K ad t1) → va_S A s.heap H locs → lv_has ls 3 [(0, .ref (ad 0)), (1, .int x1), (2, .int w32_2)] → W p l e (rmD 6 7000 1960000) s m [.ref (ad 0), .int x1].toArray below meth c H locs (newC d d1) 246800 (MQ below (QDV D K ad d (fun (u : tSt) (dd : dSt) => okX u ∧ frA [(7, 12), (20, 3)] [] [31, 35, 36, 37] [] t u ∧ okD dd) s.heap.size A) [.ref (ad 0), .int x1].toArray s 7000 1960000 A) (F0 m 32 ls []) := by
    intro t1 d1 w32_2 H locs ls hok hfr hod hle hdf hw32_2 hP hD hS hl
    refine lv_aload_n C.1 C.2.1 dX11_closeJob_32 rfl (lv_at hl 0 rfl) ?_
    refine k_get (v := .ref (ad 7)) C hP 0 rfl rfl inlX11 7 (by decide) m_2_18 rfl dX11_closeJob_33 ?_
    refine lv_iload_n C.1 C.2.1 dX11_closeJob_36 rfl (lv_at hl 1 rfl) ?_
    refine lv_iload_n C.1 C.2.1 dX11_closeJob_37 rfl (lv_at hl 2 rfl) ?_
    refine lv_aload_n C.1 C.2.1 dX11_closeJob_38 rfl (lv_at hl 0 rfl) ?_
    refine k_get (v := .ref (ad 4)) C hP 0 rfl rfl inlX11 4 (by decide) m_2_9 rfl dX11_closeJob_39 ?_
    refine k_get (v := .long (t1.2.1 4 6)) C hP 4 rfl rfl inlX2 6 (by decide) m_77_5 rfl dX11_closeJob_42 ?_
    obtain ⟨v_1, e_2⟩ : ∃ z, z = ((t1.2.1 4 6)).toInt32 := ⟨_, rfl⟩
    refine lv_l2i (v := v_1) C.1 C.2.1 dX11_closeJob_45 e_2.symm ?_
    refine hz_Vv (As := [.int x1, .int w32_2, .int v_1]) (rest := []) C hP hD hS hA (T_X3_enter l D K Z Y ad d1 t1 hok (x1) (show (0 : Int) ≤ (x1 : Int32).toInt ∧ (x1 : Int32).toInt ≤ 4 from ⟨by omega, by omega⟩) (w32_2) (show (-1 : Int) ≤ (w32_2 : Int32).toInt ∧ (w32_2 : Int32).toInt ≤ 8 from ⟨by omega, by omega⟩) (v_1)) hE hZ (uwV m_77_6 m_77_7 m_77_8 m_2_17 m_77_9) (hdV 3 (by decide +kernel) rfl) ⟨Nat.le_of_ble_eq_true rfl, Nat.le_of_ble_eq_true rfl⟩ rfl rfl (ci := 2) (q0 := 7) rfl rfl rfl hl.1 (Nat.le_of_ble_eq_true rfl) dX11_closeJob_46 ⟨Nat.le_trans (newC_le _ _) (Nat.le_of_ble_eq_true rfl), (Nat.le_of_ble_eq_true rfl)⟩ (fun t_3 H locs hw hP hD hS => ?_)
    obtain ⟨hok, f_5⟩ := hw
    have hfr : frA [(7, 12), (20, 3)] [] [31, 35, 36, 37] [] t t_3 := frA_tr hfr f_5 rfl
    refine lv_aload_n C.1 C.2.1 dX11_closeJob_49 rfl (lv_at hl 0 rfl) ?_
    refine k_get (v := .ref (ad 6)) C hP 0 rfl rfl inlX11 6 (by decide) m_2_14 rfl dX11_closeJob_50 ?_
    refine lv_aload_n C.1 C.2.1 dX11_closeJob_53 rfl (lv_at hl 0 rfl) ?_
    refine k_get (v := .ref (ad 7)) C hP 0 rfl rfl inlX11 7 (by decide) m_2_18 rfl dX11_closeJob_54 ?_
    refine g_DVv (As := [.ref (ad 7)]) (rest := []) C hP hD hS hA (T_X7_printJob l D K Z Y ad d1 t_3 hok hod ) hE hZ hX hle hdf (uwV m_77_11 m_77_12 m_77_13 m_2_13 m_77_14) (hdV 1 (by decide +kernel) rfl) ⟨Nat.le_of_ble_eq_true rfl, Nat.le_of_ble_eq_true rfl⟩ rfl rfl (ci := 6) (q0 := 6) rfl rfl rfl hl.1 (Nat.le_of_ble_eq_true rfl) dX11_closeJob_57 ⟨Nat.le_of_ble_eq_true rfl, Nat.le_of_ble_eq_true rfl⟩ (fun t_6 d_8 H locs hw hP hD hS hln hle hdf => ?_)
    obtain ⟨hok, f_9, hod⟩ := hw
    have hfr : frA [(7, 12), (20, 3)] [] [31, 35, 36, 37] [] t t_6 := frA_tr hfr f_9 rfl
    refine lv_aload_n C.1 C.2.1 dX11_closeJob_60 rfl (lv_at hl 0 rfl) ?_
    refine k_get (v := .ref (ad 7)) C hP 0 rfl rfl inlX11 7 (by decide) m_2_18 rfl dX11_closeJob_61 ?_
    refine lv_iconst (v := 0) C.1 C.2.1 dX11_closeJob_64 (by decide) ?_
    refine hz_Vi (As := [.int 0]) (rest := []) C hP hD hS hA (T_X3_wants l D K Z Y ad d_8 t_6 hok 0 (show (0 : Int) ≤ (0 : Int32).toInt ∧ (0 : Int32).toInt ≤ 4 from ⟨by decide, by decide⟩)) hE hZ (uwV m_76_10 m_76_11 m_76_12 m_2_17 m_76_13) (hdV 1 (by decide +kernel) rfl) ⟨Nat.le_of_ble_eq_true rfl, Nat.le_of_ble_eq_true rfl⟩ rfl rfl (ci := 2) (q0 := 7) rfl rfl rfl hl.1 (Nat.le_of_ble_eq_true rfl) dX11_closeJob_65 ⟨Nat.le_trans (newC_le _ _) (Nat.le_of_ble_eq_true rfl), (Nat.le_of_ble_eq_true rfl)⟩ (fun r_11 t_10 H locs hw hP hD hS => ?_)
    obtain ⟨h_13, h_14⟩ := hw
    refine lv_if_eq (tgt := 83) C.1 C.2.1 dX11_closeJob_68 (by decide) (fun c_15 => ?_) (fun c_15 => ?_)
    · replace c_15 : r_11.toInt = 0 := i_eq c_15
      exact g_Dvret C hr hlocks hP hD hS ⟨hok, hfr, hod⟩ hle hdf (Nat.le_of_ble_eq_true rfl) (Nat.le_of_ble_eq_true rfl) dX11_closeJob_83
    · replace c_15 : ¬ r_11.toInt = 0 := i_ne c_15
      refine lv_iload_n C.1 C.2.1 dX11_closeJob_71 rfl (lv_at hl 1 rfl) ?_
      refine lv_iconst (v := 2) C.1 C.2.1 dX11_closeJob_72 (by decide) ?_
      refine lv_icmp_gt (tgt := 83) C.1 C.2.1 dX11_closeJob_73 (by decide) (fun c_16 => ?_) (fun c_16 => ?_)
      · replace c_16 : 2 < x1.toInt := i_lt c_16
        exact g_Dvret C hr hlocks hP hD hS ⟨hok, hfr, hod⟩ hle hdf (Nat.le_of_ble_eq_true rfl) (Nat.le_of_ble_eq_true rfl) dX11_closeJob_83
      · replace c_16 : x1.toInt ≤ 2 := i_nlt c_16
        refine lv_aload_n C.1 C.2.1 dX11_closeJob_76 rfl (lv_at hl 0 rfl) ?_
        refine k_get (v := .ref (ad 6)) C hP 0 rfl rfl inlX11 6 (by decide) m_2_14 rfl dX11_closeJob_77 ?_
        refine g_DVv (As := []) (rest := []) C hP hD hS hA (T_X7_printDump l D K Z Y ad d_8 t_6 hok hod ) hE hZ hX hle hdf (uwV m_78_6 m_78_7 m_78_8 m_2_13 m_78_9) (hdV 0 (by decide +kernel) rfl) ⟨Nat.le_of_ble_eq_true rfl, Nat.le_of_ble_eq_true rfl⟩ rfl rfl (ci := 6) (q0 := 6) rfl rfl rfl hl.1 (Nat.le_of_ble_eq_true rfl) dX11_closeJob_80 ⟨Nat.le_of_ble_eq_true rfl, Nat.le_of_ble_eq_true rfl⟩ (fun t_17 d_19 H locs hw hP hD hS hln hle hdf => ?_)
        obtain ⟨hok, f_20, hod⟩ := hw
        have hfr : frA [(7, 12), (20, 3)] [] [31, 35, 36, 37] [] t t_17 := frA_tr hfr f_20 rfl
        exact g_Dvret C hr hlocks hP hD hS ⟨hok, hfr, hod⟩ hle hdf (Nat.le_of_ble_eq_true rfl) (Nat.le_of_ble_eq_true rfl) dX11_closeJob_83
  have L_18 : ∀ (t1 : tSt) (d1 : dSt) (k18_0 : Int32) (H : Heap) (locs : List Loc) (ls : Array Slot), okX t1 → frA [(7, 12), (20, 3)] [] [31, 35, 36, 37] [] t t1 → okD d1 → dLe d d1 → dFr s.heap.size d d1 → (-1 : Int) ≤ k18_0.toInt ∧ k18_0.toInt ≤ 8 → va_P D vwCl ((WX d1) K ad t1) H → va_D A ((WX d1) K ad t1) → va_S A s.heap H locs → lv_has ls 3 [(0, .ref (ad 0)), (1, .int x1)] → W p l e (rmD 6 7000 1960000) s m [.ref (ad 0), .int x1].toArray below meth c H locs (newC d d1) 246800 (MQ below (QDV D K ad d (fun (u : tSt) (dd : dSt) => okX u ∧ frA [(7, 12), (20, 3)] [] [31, 35, 36, 37] [] t u ∧ okD dd) s.heap.size A) [.ref (ad 0), .int x1].toArray s 7000 1960000 A) (F0 m 18 ls [.int k18_0]) := by
    intro t1 d1 k18_0 H locs ls hok hfr hod hle hdf hk18_0 hP hD hS hl
    refine lv_istore_n (lv' := [(2, .int k18_0), (0, .ref (ad 0)), (1, .int x1)]) C.1 C.2.1 dX11_closeJob_18 rfl hl (by decide) rfl (fun ls hl => ?_)
    have hl : lv_has ls 3 [(0, .ref (ad 0)), (1, .int x1), (2, .int k18_0)] := lv_sub hl [1, 2, 0] rfl
    refine lv_iload_n C.1 C.2.1 dX11_closeJob_19 rfl (lv_at hl 1 rfl) ?_
    refine lv_iconst (v := 3) C.1 C.2.1 dX11_closeJob_20 (by decide) ?_
    refine lv_icmp_ne (tgt := 32) C.1 C.2.1 dX11_closeJob_21 (by decide) (fun c_21 => ?_) (fun c_21 => ?_)
    · replace c_21 : ¬ x1.toInt = 3 := i_ne c_21
      exact L_32 t1 d1 k18_0 _ _ _ hok hfr hod hle hdf ⟨by omega, by omega⟩ hP hD hS (lv_sub hl [0, 1, 2] rfl)
    · replace c_21 : x1.toInt = 3 := i_eq c_21
      refine lv_aload_n C.1 C.2.1 dX11_closeJob_24 rfl (lv_at hl 0 rfl) ?_
      refine k_get (v := .ref (ad 5)) C hP 0 rfl rfl inlX11 5 (by decide) m_2_10 rfl dX11_closeJob_25 ?_
      have h_22 : (0 : Int) ≤ (t1.1 5 18).toInt ∧ (t1.1 5 18).toInt ≤ 8 := hok.1 5 18
      refine k_get (v := .int (t1.1 5 18)) C hP 5 rfl rfl inlX0 18 (by decide) m_43_6 rfl dX11_closeJob_28 ?_
      refine lv_istore_n (lv' := [(2, .int (t1.1 5 18)), (0, .ref (ad 0)), (1, .int x1)]) C.1 C.2.1 dX11_closeJob_31 rfl hl (by decide) rfl (fun ls hl => ?_)
      have hl : lv_has ls 3 [(0, .ref (ad 0)), (1, .int x1), (2, .int (t1.1 5 18))] := lv_sub hl [1, 2, 0] rfl
      exact L_32 t1 d1 (t1.1 5 18) _ _ _ hok hfr hod hle hdf ⟨by omega, by omega⟩ hP hD hS (lv_sub hl [0, 1, 2] rfl)
  refine lv_iload_n C.1 C.2.1 dX11_closeJob_0 rfl (lv_at hl 1 rfl) ?_
  refine lv_iconst (v := 2) C.1 C.2.1 dX11_closeJob_1 (by decide) ?_
  refine lv_icmp_ne (tgt := 17) C.1 C.2.1 dX11_closeJob_2 (by decide) (fun c_23 => ?_) (fun c_23 => ?_)
  · replace c_23 : ¬ x1.toInt = 2 := i_ne c_23
    refine lv_iconst (v := 0) C.1 C.2.1 dX11_closeJob_17 (by decide) ?_
    exact L_18 t d 0 _ _ _ hok hfr hod hle hdf ⟨by decide, by decide⟩ hP hD hS (lv_sub hl [0, 1] rfl)
  · replace c_23 : x1.toInt = 2 := i_eq c_23
    refine lv_aload_n C.1 C.2.1 dX11_closeJob_5 rfl (lv_at hl 0 rfl) ?_
    refine k_get (v := .ref (ad 4)) C hP 0 rfl rfl inlX11 4 (by decide) m_2_9 rfl dX11_closeJob_6 ?_
    have h_24 : (0 : Int) ≤ (t.1 4 8).toInt ∧ (t.1 4 8).toInt ≤ 9 := hok.1 4 8
    refine k_get (v := .int (t.1 4 8)) C hP 4 rfl rfl inlX2 8 (by decide) m_45_11 rfl dX11_closeJob_9 ?_
    refine lv_iconst (v := 1) C.1 C.2.1 dX11_closeJob_12 (by decide) ?_
    obtain ⟨v_25, e_26⟩ : ∃ z, z = ((t.1 4 8) : Int32) - (1 : Int32) := ⟨_, rfl⟩
    have h_27 : v_25.toInt = (t.1 4 8).toInt - 1 := by rw [e_26]; exact ti_isub (by show (_ : Int) ≤ (t.1 4 8).toInt - 1; omega) (by show (t.1 4 8).toInt - 1 < (_ : Int); omega)
    refine k_isub (v := v_25) C e_26.symm dX11_closeJob_13 ?_
    refine lv_goto (tgt := 18) C.1 C.2.1 dX11_closeJob_14 (by decide) ?_
    exact L_18 t d v_25 _ _ _ hok hfr hod hle hdf ⟨by omega, by omega⟩ hP hD hS (lv_sub hl [0, 1] rfl)

theorem dX11_errors_0 : decode cX11_errors 0 = .ok (.aload_n 0, 1) := by decide +kernel
theorem dX11_errors_1 : decode cX11_errors 1 = .ok (.invokevirtual 78, 3) := by decide +kernel
theorem dX11_errors_10 : decode cX11_errors 10 = .ok (.aload_n 0, 1) := by decide +kernel
theorem dX11_errors_11 : decode cX11_errors 11 = .ok (.getfield 36, 3) := by decide +kernel
theorem dX11_errors_14 : decode cX11_errors 14 = .ok (.getfield 82, 3) := by decide +kernel
theorem dX11_errors_17 : decode cX11_errors 17 = .ok (.iconst 0, 1) := by decide +kernel
theorem dX11_errors_18 : decode cX11_errors 18 = .ok (.iload_n 1, 1) := by decide +kernel
theorem dX11_errors_19 : decode cX11_errors 19 = .ok (.invokestatic 85, 3) := by decide +kernel
theorem dX11_errors_22 : decode cX11_errors 22 = .ok (.aload_n 0, 1) := by decide +kernel
theorem dX11_errors_23 : decode cX11_errors 23 = .ok (.getfield 44, 3) := by decide +kernel
theorem dX11_errors_26 : decode cX11_errors 26 = .ok (.invokevirtual 91, 3) := by decide +kernel
theorem dX11_errors_29 : decode cX11_errors 29 = .ok (.aload_n 0, 1) := by decide +kernel
theorem dX11_errors_30 : decode cX11_errors 30 = .ok (.getfield 48, 3) := by decide +kernel
theorem dX11_errors_33 : decode cX11_errors 33 = .ok (.iconst 0, 1) := by decide +kernel
theorem dX11_errors_34 : decode cX11_errors 34 = .ok (.iload_n 1, 1) := by decide +kernel
theorem dX11_errors_35 : decode cX11_errors 35 = .ok (.iconst 0, 1) := by decide +kernel
theorem dX11_errors_36 : decode cX11_errors 36 = .ok (.invokevirtual 94, 3) := by decide +kernel
theorem dX11_errors_39 : decode cX11_errors 39 = .ok (.aload_n 0, 1) := by decide +kernel
theorem dX11_errors_4 : decode cX11_errors 4 = .ok (.istore_n 1, 1) := by decide +kernel
theorem dX11_errors_40 : decode cX11_errors 40 = .ok (.getfield 57, 3) := by decide +kernel
theorem dX11_errors_43 : decode cX11_errors 43 = .ok (.bipush 120, 2) := by decide +kernel
theorem dX11_errors_45 : decode cX11_errors 45 = .ok (.iconst 0, 1) := by decide +kernel
theorem dX11_errors_46 : decode cX11_errors 46 = .ok (.invokevirtual 117, 3) := by decide +kernel
theorem dX11_errors_49 : decode cX11_errors 49 = .ok (.istore_n 2, 1) := by decide +kernel
theorem dX11_errors_5 : decode cX11_errors 5 = .ok (.aload_n 0, 1) := by decide +kernel
theorem dX11_errors_50 : decode cX11_errors 50 = .ok (.aload_n 0, 1) := by decide +kernel
theorem dX11_errors_51 : decode cX11_errors 51 = .ok (.getfield 44, 3) := by decide +kernel
theorem dX11_errors_54 : decode cX11_errors 54 = .ok (.invokevirtual 91, 3) := by decide +kernel
theorem dX11_errors_57 : decode cX11_errors 57 = .ok (.iload_n 2, 1) := by decide +kernel
theorem dX11_errors_58 : decode cX11_errors 58 = .ok (.ireturn, 1) := by decide +kernel
theorem dX11_errors_6 : decode cX11_errors 6 = .ok (.getfield 32, 3) := by decide +kernel
theorem dX11_errors_9 : decode cX11_errors 9 = .ok (.iconst 0, 1) := by decide +kernel
set_option maxHeartbeats 4000000 in
set_option maxRecDepth 100000 in
theorem T_X11_errors (l : Launch) (D : va_G) (K : Nat → ClassId) (Z Y : Nat → Nat) (ad : Nat → Nat) (d : dSt) (t : tSt) (hok : okX t) (hod : okD d)  : dMet l yX11_errors cX11_errors 3 (some .int) (rmD 10 11000 3080000) D K Z Y [.ref (ad 0)] ((WX d) K ad t) (QDI D K ad d (fun (r : Int32) (u : tSt) (dd : dSt) => okX u ∧ frA [(0, 1), (2, 2), (2, 3), (2, 4), (2, 5), (2, 6), (2, 7), (3, 8), (4, 3), (4, 4), (4, 5), (4, 8), (4, 9), (4, 10), (5, 7), (5, 9), (5, 10), (5, 11), (5, 12), (5, 14), (5, 15), (5, 16), (5, 17), (5, 18), (5, 19), (20, 3), (23, 3), (23, 6), (23, 12), (24, 2), (24, 3), (24, 4), (24, 5), (24, 6), (24, 8)] [(4, 6), (5, 13), (24, 7), (24, 9)] [8, 9, 10, 15, 22, 26, 27, 28, 35, 36, 37, 42, 43, 44, 45, 46, 47, 48, 49, 50] [13, 25, 41] t u ∧ okD dd ∧ (-2147483648 : Int) ≤ r.toInt ∧ r.toInt ≤ 2147483647 ∧ ((u.1 0 1).toInt = 0))) 11000 3080000 := by
  refine d_met d RX11 ⟨rfl, by decide +kernel⟩ (Nat.le_of_ble_eq_true rfl) ?_
  intro p e s m below meth c A ls C hE hZ hX hr hlocks hA hP hD hS hl
  have hl : lv_has ls 3 [(0, .ref (ad 0))] := hl
  have hle : dLe d d := dLe_rf
  have hdf : dFr s.heap.size d d := dFr_rf
  have hokt := hok
  have hfr : frA [(0, 1), (2, 2), (2, 3), (2, 4), (2, 5), (2, 6), (2, 7), (3, 8), (4, 3), (4, 4), (4, 5), (4, 8), (4, 9), (4, 10), (5, 7), (5, 9), (5, 10), (5, 11), (5, 12), (5, 14), (5, 15), (5, 16), (5, 17), (5, 18), (5, 19), (20, 3), (23, 3), (23, 6), (23, 12), (24, 2), (24, 3), (24, 4), (24, 5), (24, 6), (24, 8)] [(4, 6), (5, 13), (24, 7), (24, 9)] [8, 9, 10, 15, 22, 26, 27, 28, 35, 36, 37, 42, 43, 44, 45, 46, 47, 48, 49, 50] [13, 25, 41] t t := frA_rf
  have h_1 : (0 : Int) ≤ (t.1 0 1).toInt ∧ (t.1 0 1).toInt ≤ 1280 := hok.1 0 1
  refine lv_aload_n C.1 C.2.1 dX11_errors_0 rfl (lv_at hl 0 rfl) ?_
  refine hz_Vi (As := []) (rest := []) C hP hD hS hA (T_X11_useUpTape l D K Z Y ad d t hok ) hE hZ (uwV m_10_20 m_10_21 m_10_22 m_1_2 m_10_23) (hdV 0 (by decide +kernel) rfl) ⟨Nat.le_of_ble_eq_true rfl, Nat.le_of_ble_eq_true rfl⟩ rfl rfl (ci := 10) (q0 := 0) rfl rfl rfl hl.1 (Nat.le_of_ble_eq_true rfl) dX11_errors_1 ⟨Nat.le_trans (newC_le _ _) (Nat.le_of_ble_eq_true rfl), (Nat.le_of_ble_eq_true rfl)⟩ (fun r_3 t_2 H locs hw hP hD hS => ?_)
  obtain ⟨hok, f_4, h_5, h_6, p_7, p_8⟩ := hw
  have hfr : frA [(0, 1), (2, 2), (2, 3), (2, 4), (2, 5), (2, 6), (2, 7), (3, 8), (4, 3), (4, 4), (4, 5), (4, 8), (4, 9), (4, 10), (5, 7), (5, 9), (5, 10), (5, 11), (5, 12), (5, 14), (5, 15), (5, 16), (5, 17), (5, 18), (5, 19), (20, 3), (23, 3), (23, 6), (23, 12), (24, 2), (24, 3), (24, 4), (24, 5), (24, 6), (24, 8)] [(4, 6), (5, 13), (24, 7), (24, 9)] [8, 9, 10, 15, 22, 26, 27, 28, 35, 36, 37, 42, 43, 44, 45, 46, 47, 48, 49, 50] [13, 25, 41] t t_2 := frA_tr hfr f_4 rfl
  have h_9 : (0 : Int) ≤ (t_2.1 0 1).toInt ∧ (t_2.1 0 1).toInt ≤ 1280 := hok.1 0 1
  replace p_7 : r_3.toInt = (t.1 0 1).toInt := p_7
  replace p_8 : (t_2.1 0 1).toInt = 0 := p_8
  refine lv_istore_n (lv' := [(1, .int r_3), (0, .ref (ad 0))]) C.1 C.2.1 dX11_errors_4 rfl hl (by decide) rfl (fun ls hl => ?_)
  have hl : lv_has ls 3 [(0, .ref (ad 0)), (1, .int r_3)] := lv_sub hl [1, 0] rfl
  refine lv_aload_n C.1 C.2.1 dX11_errors_5 rfl (lv_at hl 0 rfl) ?_
  refine k_get (v := .ref (ad 1)) C hP 0 rfl rfl inlX11 0 (by decide) m_2_6 rfl dX11_errors_6 ?_
  refine lv_iconst (v := 0) C.1 C.2.1 dX11_errors_9 (by decide) ?_
  refine lv_aload_n C.1 C.2.1 dX11_errors_10 rfl (lv_at hl 0 rfl) ?_
  refine k_get (v := .ref (ad 2)) C hP 0 rfl rfl inlX11 2 (by decide) m_2_7 rfl dX11_errors_11 ?_
  refine k_get (v := .ref (ad 8)) C hP 2 rfl rfl inlX9 0 (by decide) m_10_12 rfl dX11_errors_14 ?_
  refine lv_iconst (v := 0) C.1 C.2.1 dX11_errors_17 (by decide) ?_
  refine lv_iload_n C.1 C.2.1 dX11_errors_18 rfl (lv_at hl 1 rfl) ?_
  refine k_copy (ws' := (WX d) K ad (uF t_2 8 (va_cpy (t_2.2.2.1 1) (t_2.2.2.1 8) (0 : Int32).toNatClampNeg (0 : Int32).toNatClampNeg (r_3 : Int32).toNatClampNeg))) C hl.1 hP hD hS 1 8 2 rfl rfl rfl rfl (by decide) (by decide) (fun hz => by have hz2 : r_3.toInt < 0 := i_lt hz; omega) rfl rfl rfl (by have hq1 := clamp_eq (x := (0 : Int32)) (by first | decide | omega); have hq2 := clamp_eq (x := (r_3 : Int32)) (by first | decide | omega); first | (have hq3 : (0 : Int32).toInt = 0 := rfl; omega) | omega) (by have hq1 := clamp_eq (x := (0 : Int32)) (by first | decide | omega); have hq2 := clamp_eq (x := (r_3 : Int32)) (by first | decide | omega); first | (have hq3 : (0 : Int32).toInt = 0 := rfl; omega) | omega) (fun i hi => fit_b (hok.2.1 1 _)) m_10_13 m_10_14 m_10_15 m_10_16 (Nat.le_of_ble_eq_true rfl) (Nat.le_of_ble_eq_true rfl) rfl dX11_errors_19 (fun H locs hP hD hS => ?_)
  have hok : okX (uF t_2 8 (va_cpy (t_2.2.2.1 1) (t_2.2.2.1 8) (0 : Int32).toNatClampNeg (0 : Int32).toNatClampNeg (r_3 : Int32).toNatClampNeg)) := ⟨hok.1, okB_F hok.2.1 8 (cpy_r (hok.2.1 1) (hok.2.1 8)), trivial⟩
  have hfr : frA [(0, 1), (2, 2), (2, 3), (2, 4), (2, 5), (2, 6), (2, 7), (3, 8), (4, 3), (4, 4), (4, 5), (4, 8), (4, 9), (4, 10), (5, 7), (5, 9), (5, 10), (5, 11), (5, 12), (5, 14), (5, 15), (5, 16), (5, 17), (5, 18), (5, 19), (20, 3), (23, 3), (23, 6), (23, 12), (24, 2), (24, 3), (24, 4), (24, 5), (24, 6), (24, 8)] [(4, 6), (5, 13), (24, 7), (24, 9)] [8, 9, 10, 15, 22, 26, 27, 28, 35, 36, 37, 42, 43, 44, 45, 46, 47, 48, 49, 50] [13, 25, 41] t (uF t_2 8 (va_cpy (t_2.2.2.1 1) (t_2.2.2.1 8) (0 : Int32).toNatClampNeg (0 : Int32).toNatClampNeg (r_3 : Int32).toNatClampNeg)) := frA_F hfr 8 _ rfl
  refine lv_aload_n C.1 C.2.1 dX11_errors_22 rfl (lv_at hl 0 rfl) ?_
  refine k_get (v := .ref (ad 4)) C hP 0 rfl rfl inlX11 4 (by decide) m_2_9 rfl dX11_errors_23 ?_
  refine hz_Vv (As := []) (rest := []) C hP hD hS hA (T_X2_clear l D K Z Y ad d (uF t_2 8 (va_cpy (t_2.2.2.1 1) (t_2.2.2.1 8) (0 : Int32).toNatClampNeg (0 : Int32).toNatClampNeg (r_3 : Int32).toNatClampNeg)) hok ) hE hZ (uwV m_11_0 m_11_1 m_11_2 m_1_23 m_11_3) (hdV 0 (by decide +kernel) rfl) ⟨Nat.le_of_ble_eq_true rfl, Nat.le_of_ble_eq_true rfl⟩ rfl rfl (ci := 1) (q0 := 4) rfl rfl rfl hl.1 (Nat.le_of_ble_eq_true rfl) dX11_errors_26 ⟨Nat.le_trans (newC_le _ _) (Nat.le_of_ble_eq_true rfl), (Nat.le_of_ble_eq_true rfl)⟩ (fun t_10 H locs hw hP hD hS => ?_)
  obtain ⟨hok, f_12⟩ := hw
  have hfr : frA [(0, 1), (2, 2), (2, 3), (2, 4), (2, 5), (2, 6), (2, 7), (3, 8), (4, 3), (4, 4), (4, 5), (4, 8), (4, 9), (4, 10), (5, 7), (5, 9), (5, 10), (5, 11), (5, 12), (5, 14), (5, 15), (5, 16), (5, 17), (5, 18), (5, 19), (20, 3), (23, 3), (23, 6), (23, 12), (24, 2), (24, 3), (24, 4), (24, 5), (24, 6), (24, 8)] [(4, 6), (5, 13), (24, 7), (24, 9)] [8, 9, 10, 15, 22, 26, 27, 28, 35, 36, 37, 42, 43, 44, 45, 46, 47, 48, 49, 50] [13, 25, 41] t t_10 := frA_tr hfr f_12 rfl
  have h_13 : (t_10.1 0 1).toInt = (t_2.1 0 1).toInt := ti_eq (f_12.1 0 1 rfl)
  have h_14 : (0 : Int) ≤ (t_10.1 0 1).toInt ∧ (t_10.1 0 1).toInt ≤ 1280 := hok.1 0 1
  refine lv_aload_n C.1 C.2.1 dX11_errors_29 rfl (lv_at hl 0 rfl) ?_
  refine k_get (v := .ref (ad 5)) C hP 0 rfl rfl inlX11 5 (by decide) m_2_10 rfl dX11_errors_30 ?_
  refine lv_iconst (v := 0) C.1 C.2.1 dX11_errors_33 (by decide) ?_
  refine lv_iload_n C.1 C.2.1 dX11_errors_34 rfl (lv_at hl 1 rfl) ?_
  refine lv_iconst (v := 0) C.1 C.2.1 dX11_errors_35 (by decide) ?_
  refine hz_Vv (As := [.int 0, .int r_3, .int 0]) (rest := []) C hP hD hS hA (T_X0_open l D K Z Y ad d t_10 hok 0 (show (0 : Int) ≤ (0 : Int32).toInt ∧ (0 : Int32).toInt ≤ 1281 from ⟨by decide, by decide⟩) (r_3) (show (0 : Int) ≤ (r_3 : Int32).toInt ∧ (r_3 : Int32).toInt ≤ 1280 from ⟨by omega, by omega⟩) 0 (show (0 : Int) ≤ (0 : Int32).toInt ∧ (0 : Int32).toInt ≤ 1 from ⟨by decide, by decide⟩)) hE hZ (uwV m_11_22 m_11_23 m_12_0 m_2_2 m_12_1) (hdV 3 (by decide +kernel) rfl) ⟨Nat.le_of_ble_eq_true rfl, Nat.le_of_ble_eq_true rfl⟩ rfl rfl (ci := 0) (q0 := 5) rfl rfl rfl hl.1 (Nat.le_of_ble_eq_true rfl) dX11_errors_36 ⟨Nat.le_trans (newC_le _ _) (Nat.le_of_ble_eq_true rfl), (Nat.le_of_ble_eq_true rfl)⟩ (fun t_15 H locs hw hP hD hS => ?_)
  obtain ⟨hok, f_17⟩ := hw
  have hfr : frA [(0, 1), (2, 2), (2, 3), (2, 4), (2, 5), (2, 6), (2, 7), (3, 8), (4, 3), (4, 4), (4, 5), (4, 8), (4, 9), (4, 10), (5, 7), (5, 9), (5, 10), (5, 11), (5, 12), (5, 14), (5, 15), (5, 16), (5, 17), (5, 18), (5, 19), (20, 3), (23, 3), (23, 6), (23, 12), (24, 2), (24, 3), (24, 4), (24, 5), (24, 6), (24, 8)] [(4, 6), (5, 13), (24, 7), (24, 9)] [8, 9, 10, 15, 22, 26, 27, 28, 35, 36, 37, 42, 43, 44, 45, 46, 47, 48, 49, 50] [13, 25, 41] t t_15 := frA_tr hfr f_17 rfl
  have h_18 : (t_15.1 0 1).toInt = (t_10.1 0 1).toInt := ti_eq (f_17.1 0 1 rfl)
  have h_19 : (0 : Int) ≤ (t_15.1 0 1).toInt ∧ (t_15.1 0 1).toInt ≤ 1280 := hok.1 0 1
  refine lv_aload_n C.1 C.2.1 dX11_errors_39 rfl (lv_at hl 0 rfl) ?_
  refine k_get (v := .ref (ad 6)) C hP 0 rfl rfl inlX11 6 (by decide) m_2_14 rfl dX11_errors_40 ?_
  refine lv_bipush (v := 120) C.1 C.2.1 dX11_errors_43 (by decide) ?_
  refine lv_iconst (v := 0) C.1 C.2.1 dX11_errors_45 (by decide) ?_
  refine g_DVi (As := [.int 120, .int 0]) (rest := []) C hP hD hS hA (T_X7_printWrongs l D K Z Y ad d t_15 hok hod 120 (show (72 : Int) ≤ (120 : Int32).toInt ∧ (120 : Int32).toInt ≤ 120 from ⟨by decide, by decide⟩) 0 (show (0 : Int) ≤ (0 : Int32).toInt ∧ (0 : Int32).toInt ≤ 1 from ⟨by decide, by decide⟩)) hE hZ hX hle hdf (uwV m_40_9 m_40_10 m_40_11 m_2_13 m_40_12) (hdV 2 (by decide +kernel) rfl) ⟨Nat.le_of_ble_eq_true rfl, Nat.le_of_ble_eq_true rfl⟩ rfl rfl (ci := 6) (q0 := 6) rfl rfl rfl hl.1 (Nat.le_of_ble_eq_true rfl) dX11_errors_46 ⟨Nat.le_of_ble_eq_true rfl, Nat.le_of_ble_eq_true rfl⟩ (fun r_21 t_20 d_22 H locs hw hP hD hS hln hle hdf => ?_)
  obtain ⟨hok, f_23, hod, h_24, h_25⟩ := hw
  have hfr : frA [(0, 1), (2, 2), (2, 3), (2, 4), (2, 5), (2, 6), (2, 7), (3, 8), (4, 3), (4, 4), (4, 5), (4, 8), (4, 9), (4, 10), (5, 7), (5, 9), (5, 10), (5, 11), (5, 12), (5, 14), (5, 15), (5, 16), (5, 17), (5, 18), (5, 19), (20, 3), (23, 3), (23, 6), (23, 12), (24, 2), (24, 3), (24, 4), (24, 5), (24, 6), (24, 8)] [(4, 6), (5, 13), (24, 7), (24, 9)] [8, 9, 10, 15, 22, 26, 27, 28, 35, 36, 37, 42, 43, 44, 45, 46, 47, 48, 49, 50] [13, 25, 41] t t_20 := frA_tr hfr f_23 rfl
  have h_26 : (t_20.1 0 1).toInt = (t_15.1 0 1).toInt := ti_eq (f_23.1 0 1 rfl)
  have h_27 : (0 : Int) ≤ (t_20.1 0 1).toInt ∧ (t_20.1 0 1).toInt ≤ 1280 := hok.1 0 1
  refine lv_istore_n (lv' := [(2, .int r_21), (0, .ref (ad 0)), (1, .int r_3)]) C.1 C.2.1 dX11_errors_49 rfl hl (by decide) rfl (fun ls hl => ?_)
  have hl : lv_has ls 3 [(0, .ref (ad 0)), (1, .int r_3), (2, .int r_21)] := lv_sub hl [1, 2, 0] rfl
  refine lv_aload_n C.1 C.2.1 dX11_errors_50 rfl (lv_at hl 0 rfl) ?_
  refine k_get (v := .ref (ad 4)) C hP 0 rfl rfl inlX11 4 (by decide) m_2_9 rfl dX11_errors_51 ?_
  refine hz_Vv (As := []) (rest := []) C hP hD hS hA (T_X2_clear l D K Z Y ad d_22 t_20 hok ) hE hZ (uwV m_11_0 m_11_1 m_11_2 m_1_23 m_11_3) (hdV 0 (by decide +kernel) rfl) ⟨Nat.le_of_ble_eq_true rfl, Nat.le_of_ble_eq_true rfl⟩ rfl rfl (ci := 1) (q0 := 4) rfl rfl rfl hl.1 (Nat.le_of_ble_eq_true rfl) dX11_errors_54 ⟨Nat.le_trans (newC_le _ _) (Nat.le_of_ble_eq_true rfl), (Nat.le_of_ble_eq_true rfl)⟩ (fun t_28 H locs hw hP hD hS => ?_)
  obtain ⟨hok, f_30⟩ := hw
  have hfr : frA [(0, 1), (2, 2), (2, 3), (2, 4), (2, 5), (2, 6), (2, 7), (3, 8), (4, 3), (4, 4), (4, 5), (4, 8), (4, 9), (4, 10), (5, 7), (5, 9), (5, 10), (5, 11), (5, 12), (5, 14), (5, 15), (5, 16), (5, 17), (5, 18), (5, 19), (20, 3), (23, 3), (23, 6), (23, 12), (24, 2), (24, 3), (24, 4), (24, 5), (24, 6), (24, 8)] [(4, 6), (5, 13), (24, 7), (24, 9)] [8, 9, 10, 15, 22, 26, 27, 28, 35, 36, 37, 42, 43, 44, 45, 46, 47, 48, 49, 50] [13, 25, 41] t t_28 := frA_tr hfr f_30 rfl
  have h_31 : (t_28.1 0 1).toInt = (t_20.1 0 1).toInt := ti_eq (f_30.1 0 1 rfl)
  have h_32 : (0 : Int) ≤ (t_28.1 0 1).toInt ∧ (t_28.1 0 1).toInt ≤ 1280 := hok.1 0 1
  refine lv_iload_n C.1 C.2.1 dX11_errors_57 rfl (lv_at hl 2 rfl) ?_
  exact g_Diret C hr hlocks hP hD hS rfl ⟨hok, hfr, hod, (i_rng _).1, (i_rng _).2, (show (t_28.1 0 1).toInt = 0 from by omega)⟩ hle hdf (Nat.le_of_ble_eq_true rfl) (Nat.le_of_ble_eq_true rfl) dX11_errors_58

theorem dX11_deck_0 : decode cX11_deck 0 = .ok (.aload_n 0, 1) := by decide +kernel
theorem dX11_deck_1 : decode cX11_deck 1 = .ok (.getfield 48, 3) := by decide +kernel
theorem dX11_deck_10 : decode cX11_deck 10 = .ok (.aload_n 0, 1) := by decide +kernel
theorem dX11_deck_11 : decode cX11_deck 11 = .ok (.getfield 57, 3) := by decide +kernel
theorem dX11_deck_14 : decode cX11_deck 14 = .ok (.invokevirtual 165, 3) := by decide +kernel
theorem dX11_deck_17 : decode cX11_deck 17 = .ok (.goto 4, 3) := by decide +kernel
theorem dX11_deck_20 : decode cX11_deck 20 = .ok (.iconst (-1), 1) := by decide +kernel
theorem dX11_deck_21 : decode cX11_deck 21 = .ok (.ireturn, 1) := by decide +kernel
theorem dX11_deck_4 : decode cX11_deck 4 = .ok (.getfield 153, 3) := by decide +kernel
theorem dX11_deck_7 : decode cX11_deck 7 = .ok (.ifCond .eq 13, 3) := by decide +kernel
set_option maxHeartbeats 4000000 in
set_option maxRecDepth 100000 in
theorem T_X11_deck (l : Launch) (D : va_G) (K : Nat → ClassId) (Z Y : Nat → Nat) (ad : Nat → Nat) (d : dSt) (t : tSt) (hok : okX t) (hod : okD d)  : dMet l yX11_deck cX11_deck 1 (some .int) (rmD 4 5000 1400000) D K Z Y [.ref (ad 0)] ((WX d) K ad t) (QDI D K ad d (fun (r : Int32) (u : tSt) (dd : dSt) => okX u ∧ frA [(19, 3)] [] [32, 33, 34] [] t u ∧ okD dd ∧ (-2147483648 : Int) ≤ r.toInt ∧ r.toInt ≤ 2147483647)) 5000 1400000 := by
  refine d_met d RX11 ⟨rfl, by decide +kernel⟩ (Nat.le_of_ble_eq_true rfl) ?_
  intro p e s m below meth c A ls C hE hZ hX hr hlocks hA hP hD hS hl
  have hl : lv_has ls 1 [(0, .ref (ad 0))] := hl
  have hle : dLe d d := dLe_rf
  have hdf : dFr s.heap.size d d := dFr_rf
  have hokt := hok
  have hfr : frA [(19, 3)] [] [32, 33, 34] [] t t := frA_rf
  refine lv_aload_n C.1 C.2.1 dX11_deck_0 rfl (lv_at hl 0 rfl) ?_
  refine k_get (v := .ref (ad 5)) C hP 0 rfl rfl inlX11 5 (by decide) m_2_10 rfl dX11_deck_1 ?_
  have h_1 : (0 : Int) ≤ (t.1 5 19).toInt ∧ (t.1 5 19).toInt ≤ 1 := hok.1 5 19
  refine k_get (v := .int (t.1 5 19)) C hP 5 rfl rfl inlX0 19 (by decide) m_64_16 rfl dX11_deck_4 ?_
  refine lv_if_eq (tgt := 20) C.1 C.2.1 dX11_deck_7 (by decide) (fun c_2 => ?_) (fun c_2 => ?_)
  · replace c_2 : (t.1 5 19).toInt = 0 := i_eq c_2
    refine lv_iconst (v := (-1)) C.1 C.2.1 dX11_deck_20 (by decide) ?_
    exact g_Diret C hr hlocks hP hD hS rfl ⟨hok, hfr, hod, (i_rng _).1, (i_rng _).2⟩ hle hdf (Nat.le_of_ble_eq_true rfl) (Nat.le_of_ble_eq_true rfl) dX11_deck_21
  · replace c_2 : ¬ (t.1 5 19).toInt = 0 := i_ne c_2
    refine lv_aload_n C.1 C.2.1 dX11_deck_10 rfl (lv_at hl 0 rfl) ?_
    refine k_get (v := .ref (ad 6)) C hP 0 rfl rfl inlX11 6 (by decide) m_2_14 rfl dX11_deck_11 ?_
    refine g_DVi (As := []) (rest := []) C hP hD hS hA (T_X7_punchCards l D K Z Y ad d t hok hod ) hE hZ hX hle hdf (uwV m_65_4 m_65_5 m_65_6 m_2_13 m_65_7) (hdV 0 (by decide +kernel) rfl) ⟨Nat.le_of_ble_eq_true rfl, Nat.le_of_ble_eq_true rfl⟩ rfl rfl (ci := 6) (q0 := 6) rfl rfl rfl hl.1 (Nat.le_of_ble_eq_true rfl) dX11_deck_14 ⟨Nat.le_of_ble_eq_true rfl, Nat.le_of_ble_eq_true rfl⟩ (fun r_4 t_3 d_5 H locs hw hP hD hS hln hle hdf => ?_)
    obtain ⟨hok, f_6, hod, h_7, h_8⟩ := hw
    have hfr : frA [(19, 3)] [] [32, 33, 34] [] t t_3 := frA_tr hfr f_6 rfl
    have h_9 : (t_3.1 5 19).toInt = (t.1 5 19).toInt := ti_eq (f_6.1 5 19 rfl)
    refine lv_goto (tgt := 21) C.1 C.2.1 dX11_deck_17 (by decide) ?_
    exact g_Diret C hr hlocks hP hD hS rfl ⟨hok, hfr, hod, (i_rng _).1, (i_rng _).2⟩ hle hdf (Nat.le_of_ble_eq_true rfl) (Nat.le_of_ble_eq_true rfl) dX11_deck_21

theorem dX11_list_0 : decode cX11_list 0 = .ok (.aload_n 0, 1) := by decide +kernel
theorem dX11_list_1 : decode cX11_list 1 = .ok (.getfield 48, 3) := by decide +kernel
theorem dX11_list_10 : decode cX11_list 10 = .ok (.aload_n 0, 1) := by decide +kernel
theorem dX11_list_11 : decode cX11_list 11 = .ok (.getfield 57, 3) := by decide +kernel
theorem dX11_list_14 : decode cX11_list 14 = .ok (.bipush 120, 2) := by decide +kernel
theorem dX11_list_16 : decode cX11_list 16 = .ok (.iconst 0, 1) := by decide +kernel
theorem dX11_list_17 : decode cX11_list 17 = .ok (.invokevirtual 168, 3) := by decide +kernel
theorem dX11_list_20 : decode cX11_list 20 = .ok (.goto 4, 3) := by decide +kernel
theorem dX11_list_23 : decode cX11_list 23 = .ok (.iconst (-1), 1) := by decide +kernel
theorem dX11_list_24 : decode cX11_list 24 = .ok (.ireturn, 1) := by decide +kernel
theorem dX11_list_4 : decode cX11_list 4 = .ok (.getfield 153, 3) := by decide +kernel
theorem dX11_list_7 : decode cX11_list 7 = .ok (.ifCond .eq 16, 3) := by decide +kernel
set_option maxHeartbeats 4000000 in
set_option maxRecDepth 100000 in
theorem T_X11_list (l : Launch) (D : va_G) (K : Nat → ClassId) (Z Y : Nat → Nat) (ad : Nat → Nat) (d : dSt) (t : tSt) (hok : okX t) (hod : okD d)  : dMet l yX11_list cX11_list 1 (some .int) (rmD 8 9000 2520000) D K Z Y [.ref (ad 0)] ((WX d) K ad t) (QDI D K ad d (fun (r : Int32) (u : tSt) (dd : dSt) => okX u ∧ frA [(20, 3)] [] [35, 36, 37] [] t u ∧ okD dd ∧ (-2147483648 : Int) ≤ r.toInt ∧ r.toInt ≤ 2147483647)) 9000 2520000 := by
  refine d_met d RX11 ⟨rfl, by decide +kernel⟩ (Nat.le_of_ble_eq_true rfl) ?_
  intro p e s m below meth c A ls C hE hZ hX hr hlocks hA hP hD hS hl
  have hl : lv_has ls 1 [(0, .ref (ad 0))] := hl
  have hle : dLe d d := dLe_rf
  have hdf : dFr s.heap.size d d := dFr_rf
  have hokt := hok
  have hfr : frA [(20, 3)] [] [35, 36, 37] [] t t := frA_rf
  refine lv_aload_n C.1 C.2.1 dX11_list_0 rfl (lv_at hl 0 rfl) ?_
  refine k_get (v := .ref (ad 5)) C hP 0 rfl rfl inlX11 5 (by decide) m_2_10 rfl dX11_list_1 ?_
  have h_1 : (0 : Int) ≤ (t.1 5 19).toInt ∧ (t.1 5 19).toInt ≤ 1 := hok.1 5 19
  refine k_get (v := .int (t.1 5 19)) C hP 5 rfl rfl inlX0 19 (by decide) m_64_16 rfl dX11_list_4 ?_
  refine lv_if_eq (tgt := 23) C.1 C.2.1 dX11_list_7 (by decide) (fun c_2 => ?_) (fun c_2 => ?_)
  · replace c_2 : (t.1 5 19).toInt = 0 := i_eq c_2
    refine lv_iconst (v := (-1)) C.1 C.2.1 dX11_list_23 (by decide) ?_
    exact g_Diret C hr hlocks hP hD hS rfl ⟨hok, hfr, hod, (i_rng _).1, (i_rng _).2⟩ hle hdf (Nat.le_of_ble_eq_true rfl) (Nat.le_of_ble_eq_true rfl) dX11_list_24
  · replace c_2 : ¬ (t.1 5 19).toInt = 0 := i_ne c_2
    refine lv_aload_n C.1 C.2.1 dX11_list_10 rfl (lv_at hl 0 rfl) ?_
    refine k_get (v := .ref (ad 6)) C hP 0 rfl rfl inlX11 6 (by decide) m_2_14 rfl dX11_list_11 ?_
    refine lv_bipush (v := 120) C.1 C.2.1 dX11_list_14 (by decide) ?_
    refine lv_iconst (v := 0) C.1 C.2.1 dX11_list_16 (by decide) ?_
    refine g_DVi (As := [.int 120, .int 0]) (rest := []) C hP hD hS hA (T_X7_printWords l D K Z Y ad d t hok hod 120 (show (72 : Int) ≤ (120 : Int32).toInt ∧ (120 : Int32).toInt ≤ 120 from ⟨by decide, by decide⟩) 0 (show (0 : Int) ≤ (0 : Int32).toInt ∧ (0 : Int32).toInt ≤ 1 from ⟨by decide, by decide⟩)) hE hZ hX hle hdf (uwV m_67_0 m_67_1 m_67_2 m_2_13 m_67_3) (hdV 2 (by decide +kernel) rfl) ⟨Nat.le_of_ble_eq_true rfl, Nat.le_of_ble_eq_true rfl⟩ rfl rfl (ci := 6) (q0 := 6) rfl rfl rfl hl.1 (Nat.le_of_ble_eq_true rfl) dX11_list_17 ⟨Nat.le_of_ble_eq_true rfl, Nat.le_of_ble_eq_true rfl⟩ (fun r_4 t_3 d_5 H locs hw hP hD hS hln hle hdf => ?_)
    obtain ⟨hok, f_6, hod, h_7, h_8⟩ := hw
    have hfr : frA [(20, 3)] [] [35, 36, 37] [] t t_3 := frA_tr hfr f_6 rfl
    have h_9 : (t_3.1 5 19).toInt = (t.1 5 19).toInt := ti_eq (f_6.1 5 19 rfl)
    refine lv_goto (tgt := 24) C.1 C.2.1 dX11_list_20 (by decide) ?_
    exact g_Diret C hr hlocks hP hD hS rfl ⟨hok, hfr, hod, (i_rng _).1, (i_rng _).2⟩ hle hdf (Nat.le_of_ble_eq_true rfl) (Nat.le_of_ble_eq_true rfl) dX11_list_24

theorem dX11_listing_0 : decode cX11_listing 0 = .ok (.aload_n 0, 1) := by decide +kernel
theorem dX11_listing_1 : decode cX11_listing 1 = .ok (.getfield 48, 3) := by decide +kernel
theorem dX11_listing_10 : decode cX11_listing 10 = .ok (.aload_n 0, 1) := by decide +kernel
theorem dX11_listing_11 : decode cX11_listing 11 = .ok (.getfield 57, 3) := by decide +kernel
theorem dX11_listing_14 : decode cX11_listing 14 = .ok (.invokevirtual 171, 3) := by decide +kernel
theorem dX11_listing_17 : decode cX11_listing 17 = .ok (.goto 4, 3) := by decide +kernel
theorem dX11_listing_20 : decode cX11_listing 20 = .ok (.iconst (-1), 1) := by decide +kernel
theorem dX11_listing_21 : decode cX11_listing 21 = .ok (.ireturn, 1) := by decide +kernel
theorem dX11_listing_4 : decode cX11_listing 4 = .ok (.getfield 153, 3) := by decide +kernel
theorem dX11_listing_7 : decode cX11_listing 7 = .ok (.ifCond .eq 13, 3) := by decide +kernel
set_option maxHeartbeats 4000000 in
set_option maxRecDepth 100000 in
theorem T_X11_listing (l : Launch) (D : va_G) (K : Nat → ClassId) (Z Y : Nat → Nat) (ad : Nat → Nat) (d : dSt) (t : tSt) (hok : okX t) (hod : okD d)  : dMet l yX11_listing cX11_listing 1 (some .int) (rmD 8 9000 2520000) D K Z Y [.ref (ad 0)] ((WX d) K ad t) (QDI D K ad d (fun (r : Int32) (u : tSt) (dd : dSt) => okX u ∧ frA [(2, 2), (2, 3), (2, 4), (2, 5), (20, 3)] [] [9, 35, 36, 37] [] t u ∧ okD dd ∧ (-2147483648 : Int) ≤ r.toInt ∧ r.toInt ≤ 2147483647)) 9000 2520000 := by
  refine d_met d RX11 ⟨rfl, by decide +kernel⟩ (Nat.le_of_ble_eq_true rfl) ?_
  intro p e s m below meth c A ls C hE hZ hX hr hlocks hA hP hD hS hl
  have hl : lv_has ls 1 [(0, .ref (ad 0))] := hl
  have hle : dLe d d := dLe_rf
  have hdf : dFr s.heap.size d d := dFr_rf
  have hokt := hok
  have hfr : frA [(2, 2), (2, 3), (2, 4), (2, 5), (20, 3)] [] [9, 35, 36, 37] [] t t := frA_rf
  refine lv_aload_n C.1 C.2.1 dX11_listing_0 rfl (lv_at hl 0 rfl) ?_
  refine k_get (v := .ref (ad 5)) C hP 0 rfl rfl inlX11 5 (by decide) m_2_10 rfl dX11_listing_1 ?_
  have h_1 : (0 : Int) ≤ (t.1 5 19).toInt ∧ (t.1 5 19).toInt ≤ 1 := hok.1 5 19
  refine k_get (v := .int (t.1 5 19)) C hP 5 rfl rfl inlX0 19 (by decide) m_64_16 rfl dX11_listing_4 ?_
  refine lv_if_eq (tgt := 20) C.1 C.2.1 dX11_listing_7 (by decide) (fun c_2 => ?_) (fun c_2 => ?_)
  · replace c_2 : (t.1 5 19).toInt = 0 := i_eq c_2
    refine lv_iconst (v := (-1)) C.1 C.2.1 dX11_listing_20 (by decide) ?_
    exact g_Diret C hr hlocks hP hD hS rfl ⟨hok, hfr, hod, (i_rng _).1, (i_rng _).2⟩ hle hdf (Nat.le_of_ble_eq_true rfl) (Nat.le_of_ble_eq_true rfl) dX11_listing_21
  · replace c_2 : ¬ (t.1 5 19).toInt = 0 := i_ne c_2
    refine lv_aload_n C.1 C.2.1 dX11_listing_10 rfl (lv_at hl 0 rfl) ?_
    refine k_get (v := .ref (ad 6)) C hP 0 rfl rfl inlX11 6 (by decide) m_2_14 rfl dX11_listing_11 ?_
    refine g_DVi (As := []) (rest := []) C hP hD hS hA (T_X7_printLines l D K Z Y ad d t hok hod ) hE hZ hX hle hdf (uwV m_67_16 m_67_17 m_67_18 m_2_13 m_67_19) (hdV 0 (by decide +kernel) rfl) ⟨Nat.le_of_ble_eq_true rfl, Nat.le_of_ble_eq_true rfl⟩ rfl rfl (ci := 6) (q0 := 6) rfl rfl rfl hl.1 (Nat.le_of_ble_eq_true rfl) dX11_listing_14 ⟨Nat.le_of_ble_eq_true rfl, Nat.le_of_ble_eq_true rfl⟩ (fun r_4 t_3 d_5 H locs hw hP hD hS hln hle hdf => ?_)
    obtain ⟨hok, f_6, hod, h_7, h_8⟩ := hw
    have hfr : frA [(2, 2), (2, 3), (2, 4), (2, 5), (20, 3)] [] [9, 35, 36, 37] [] t t_3 := frA_tr hfr f_6 rfl
    have h_9 : (t_3.1 5 19).toInt = (t.1 5 19).toInt := ti_eq (f_6.1 5 19 rfl)
    refine lv_goto (tgt := 21) C.1 C.2.1 dX11_listing_17 (by decide) ?_
    exact g_Diret C hr hlocks hP hD hS rfl ⟨hok, hfr, hod, (i_rng _).1, (i_rng _).2⟩ hle hdf (Nat.le_of_ble_eq_true rfl) (Nat.le_of_ble_eq_true rfl) dX11_listing_21

theorem dX11_names_0 : decode cX11_names 0 = .ok (.aload_n 0, 1) := by decide +kernel
theorem dX11_names_1 : decode cX11_names 1 = .ok (.getfield 48, 3) := by decide +kernel
theorem dX11_names_10 : decode cX11_names 10 = .ok (.aload_n 0, 1) := by decide +kernel
theorem dX11_names_11 : decode cX11_names 11 = .ok (.getfield 57, 3) := by decide +kernel
theorem dX11_names_14 : decode cX11_names 14 = .ok (.bipush 16, 2) := by decide +kernel
theorem dX11_names_16 : decode cX11_names 16 = .ok (.bipush 120, 2) := by decide +kernel
theorem dX11_names_18 : decode cX11_names 18 = .ok (.invokevirtual 174, 3) := by decide +kernel
theorem dX11_names_21 : decode cX11_names 21 = .ok (.goto 4, 3) := by decide +kernel
theorem dX11_names_24 : decode cX11_names 24 = .ok (.iconst (-1), 1) := by decide +kernel
theorem dX11_names_25 : decode cX11_names 25 = .ok (.ireturn, 1) := by decide +kernel
theorem dX11_names_4 : decode cX11_names 4 = .ok (.getfield 153, 3) := by decide +kernel
theorem dX11_names_7 : decode cX11_names 7 = .ok (.ifCond .eq 17, 3) := by decide +kernel
set_option maxHeartbeats 4000000 in
set_option maxRecDepth 100000 in
theorem T_X11_names (l : Launch) (D : va_G) (K : Nat → ClassId) (Z Y : Nat → Nat) (ad : Nat → Nat) (d : dSt) (t : tSt) (hok : okX t) (hod : okD d)  : dMet l yX11_names cX11_names 1 (some .int) (rmD 4 5000 1400000) D K Z Y [.ref (ad 0)] ((WX d) K ad t) (QDI D K ad d (fun (r : Int32) (u : tSt) (dd : dSt) => okX u ∧ frA [(20, 3)] [] [35, 36, 37] [] t u ∧ okD dd ∧ (-1 : Int) ≤ r.toInt ∧ r.toInt ≤ 1024)) 5000 1400000 := by
  refine d_met d RX11 ⟨rfl, by decide +kernel⟩ (Nat.le_of_ble_eq_true rfl) ?_
  intro p e s m below meth c A ls C hE hZ hX hr hlocks hA hP hD hS hl
  have hl : lv_has ls 1 [(0, .ref (ad 0))] := hl
  have hle : dLe d d := dLe_rf
  have hdf : dFr s.heap.size d d := dFr_rf
  have hokt := hok
  have hfr : frA [(20, 3)] [] [35, 36, 37] [] t t := frA_rf
  refine lv_aload_n C.1 C.2.1 dX11_names_0 rfl (lv_at hl 0 rfl) ?_
  refine k_get (v := .ref (ad 5)) C hP 0 rfl rfl inlX11 5 (by decide) m_2_10 rfl dX11_names_1 ?_
  have h_1 : (0 : Int) ≤ (t.1 5 19).toInt ∧ (t.1 5 19).toInt ≤ 1 := hok.1 5 19
  refine k_get (v := .int (t.1 5 19)) C hP 5 rfl rfl inlX0 19 (by decide) m_64_16 rfl dX11_names_4 ?_
  refine lv_if_eq (tgt := 24) C.1 C.2.1 dX11_names_7 (by decide) (fun c_2 => ?_) (fun c_2 => ?_)
  · replace c_2 : (t.1 5 19).toInt = 0 := i_eq c_2
    refine lv_iconst (v := (-1)) C.1 C.2.1 dX11_names_24 (by decide) ?_
    exact g_Diret C hr hlocks hP hD hS rfl ⟨hok, hfr, hod, by decide, by decide⟩ hle hdf (Nat.le_of_ble_eq_true rfl) (Nat.le_of_ble_eq_true rfl) dX11_names_25
  · replace c_2 : ¬ (t.1 5 19).toInt = 0 := i_ne c_2
    refine lv_aload_n C.1 C.2.1 dX11_names_10 rfl (lv_at hl 0 rfl) ?_
    refine k_get (v := .ref (ad 6)) C hP 0 rfl rfl inlX11 6 (by decide) m_2_14 rfl dX11_names_11 ?_
    refine lv_bipush (v := 16) C.1 C.2.1 dX11_names_14 (by decide) ?_
    refine lv_bipush (v := 120) C.1 C.2.1 dX11_names_16 (by decide) ?_
    refine g_DVi (As := [.int 16, .int 120]) (rest := []) C hP hD hS hA (T_X7_printSymbols l D K Z Y ad d t hok hod 16 (show (10 : Int) ≤ (16 : Int32).toInt ∧ (16 : Int32).toInt ≤ 16 from ⟨by decide, by decide⟩) 120 (show (72 : Int) ≤ (120 : Int32).toInt ∧ (120 : Int32).toInt ≤ 120 from ⟨by decide, by decide⟩)) hE hZ hX hle hdf (uwV m_68_11 m_68_12 m_68_13 m_2_13 m_68_14) (hdV 2 (by decide +kernel) rfl) ⟨Nat.le_of_ble_eq_true rfl, Nat.le_of_ble_eq_true rfl⟩ rfl rfl (ci := 6) (q0 := 6) rfl rfl rfl hl.1 (Nat.le_of_ble_eq_true rfl) dX11_names_18 ⟨Nat.le_of_ble_eq_true rfl, Nat.le_of_ble_eq_true rfl⟩ (fun r_4 t_3 d_5 H locs hw hP hD hS hln hle hdf => ?_)
    obtain ⟨hok, f_6, hod, h_7, h_8⟩ := hw
    have hfr : frA [(20, 3)] [] [35, 36, 37] [] t t_3 := frA_tr hfr f_6 rfl
    have h_9 : (t_3.1 5 19).toInt = (t.1 5 19).toInt := ti_eq (f_6.1 5 19 rfl)
    refine lv_goto (tgt := 25) C.1 C.2.1 dX11_names_21 (by decide) ?_
    exact g_Diret C hr hlocks hP hD hS rfl ⟨hok, hfr, hod, by omega, by omega⟩ hle hdf (Nat.le_of_ble_eq_true rfl) (Nat.le_of_ble_eq_true rfl) dX11_names_25

theorem dX2_faultAhead_0 : decode cX2_faultAhead 0 = .ok (.aload_n 0, 1) := by decide +kernel
theorem dX2_faultAhead_1 : decode cX2_faultAhead 1 = .ok (.getfield 84, 3) := by decide +kernel
theorem dX2_faultAhead_100 : decode cX2_faultAhead 100 = .ok (.iconst 0, 1) := by decide +kernel
theorem dX2_faultAhead_101 : decode cX2_faultAhead 101 = .ok (.goto 4, 3) := by decide +kernel
theorem dX2_faultAhead_104 : decode cX2_faultAhead 104 = .ok (.iconst 2, 1) := by decide +kernel
theorem dX2_faultAhead_105 : decode cX2_faultAhead 105 = .ok (.ireturn, 1) := by decide +kernel
theorem dX2_faultAhead_106 : decode cX2_faultAhead 106 = .ok (.aload_n 0, 1) := by decide +kernel
theorem dX2_faultAhead_107 : decode cX2_faultAhead 107 = .ok (.getfield 84, 3) := by decide +kernel
theorem dX2_faultAhead_11 : decode cX2_faultAhead 11 = .ok (.iconst 5, 1) := by decide +kernel
theorem dX2_faultAhead_110 : decode cX2_faultAhead 110 = .ok (.bipush 33, 2) := by decide +kernel
theorem dX2_faultAhead_112 : decode cX2_faultAhead 112 = .ok (.if_icmp .le 12, 3) := by decide +kernel
theorem dX2_faultAhead_115 : decode cX2_faultAhead 115 = .ok (.aload_n 0, 1) := by decide +kernel
theorem dX2_faultAhead_116 : decode cX2_faultAhead 116 = .ok (.getfield 84, 3) := by decide +kernel
theorem dX2_faultAhead_119 : decode cX2_faultAhead 119 = .ok (.bipush 56, 2) := by decide +kernel
theorem dX2_faultAhead_12 : decode cX2_faultAhead 12 = .ok (.if_icmp .ne 5, 3) := by decide +kernel
theorem dX2_faultAhead_121 : decode cX2_faultAhead 121 = .ok (.if_icmp .lt 8, 3) := by decide +kernel
theorem dX2_faultAhead_124 : decode cX2_faultAhead 124 = .ok (.aload_n 0, 1) := by decide +kernel
theorem dX2_faultAhead_125 : decode cX2_faultAhead 125 = .ok (.invokevirtual 149, 3) := by decide +kernel
theorem dX2_faultAhead_128 : decode cX2_faultAhead 128 = .ok (.ireturn, 1) := by decide +kernel
theorem dX2_faultAhead_129 : decode cX2_faultAhead 129 = .ok (.aload_n 0, 1) := by decide +kernel
theorem dX2_faultAhead_130 : decode cX2_faultAhead 130 = .ok (.getfield 84, 3) := by decide +kernel
theorem dX2_faultAhead_133 : decode cX2_faultAhead 133 = .ok (.bipush 48, 2) := by decide +kernel
theorem dX2_faultAhead_135 : decode cX2_faultAhead 135 = .ok (.if_icmp .lt 35, 3) := by decide +kernel
theorem dX2_faultAhead_138 : decode cX2_faultAhead 138 = .ok (.aload_n 0, 1) := by decide +kernel
theorem dX2_faultAhead_139 : decode cX2_faultAhead 139 = .ok (.getfield 84, 3) := by decide +kernel
theorem dX2_faultAhead_142 : decode cX2_faultAhead 142 = .ok (.bipush 48, 2) := by decide +kernel
theorem dX2_faultAhead_144 : decode cX2_faultAhead 144 = .ok (.isub, 1) := by decide +kernel
theorem dX2_faultAhead_145 : decode cX2_faultAhead 145 = .ok (.invokestatic 152, 3) := by decide +kernel
theorem dX2_faultAhead_148 : decode cX2_faultAhead 148 = .ok (.ifCond .eq 20, 3) := by decide +kernel
theorem dX2_faultAhead_15 : decode cX2_faultAhead 15 = .ok (.iconst 0, 1) := by decide +kernel
theorem dX2_faultAhead_151 : decode cX2_faultAhead 151 = .ok (.aload_n 0, 1) := by decide +kernel
theorem dX2_faultAhead_152 : decode cX2_faultAhead 152 = .ok (.invokevirtual 155, 3) := by decide +kernel
theorem dX2_faultAhead_155 : decode cX2_faultAhead 155 = .ok (.invokestatic 158, 3) := by decide +kernel
theorem dX2_faultAhead_158 : decode cX2_faultAhead 158 = .ok (.sipush 4095, 3) := by decide +kernel
theorem dX2_faultAhead_16 : decode cX2_faultAhead 16 = .ok (.ireturn, 1) := by decide +kernel
theorem dX2_faultAhead_161 : decode cX2_faultAhead 161 = .ok (.if_icmp .le 7, 3) := by decide +kernel
theorem dX2_faultAhead_164 : decode cX2_faultAhead 164 = .ok (.iconst 4, 1) := by decide +kernel
theorem dX2_faultAhead_165 : decode cX2_faultAhead 165 = .ok (.goto 4, 3) := by decide +kernel
theorem dX2_faultAhead_168 : decode cX2_faultAhead 168 = .ok (.iconst 0, 1) := by decide +kernel
theorem dX2_faultAhead_169 : decode cX2_faultAhead 169 = .ok (.ireturn, 1) := by decide +kernel
theorem dX2_faultAhead_17 : decode cX2_faultAhead 17 = .ok (.aload_n 0, 1) := by decide +kernel
theorem dX2_faultAhead_170 : decode cX2_faultAhead 170 = .ok (.aload_n 0, 1) := by decide +kernel
theorem dX2_faultAhead_171 : decode cX2_faultAhead 171 = .ok (.getfield 84, 3) := by decide +kernel
theorem dX2_faultAhead_174 : decode cX2_faultAhead 174 = .ok (.bipush 35, 2) := by decide +kernel
theorem dX2_faultAhead_176 : decode cX2_faultAhead 176 = .ok (.if_icmp .lt 17, 3) := by decide +kernel
theorem dX2_faultAhead_179 : decode cX2_faultAhead 179 = .ok (.aload_n 0, 1) := by decide +kernel
theorem dX2_faultAhead_18 : decode cX2_faultAhead 18 = .ok (.getfield 84, 3) := by decide +kernel
theorem dX2_faultAhead_180 : decode cX2_faultAhead 180 = .ok (.getfield 84, 3) := by decide +kernel
theorem dX2_faultAhead_183 : decode cX2_faultAhead 183 = .ok (.bipush 37, 2) := by decide +kernel
theorem dX2_faultAhead_185 : decode cX2_faultAhead 185 = .ok (.if_icmp .gt 8, 3) := by decide +kernel
theorem dX2_faultAhead_188 : decode cX2_faultAhead 188 = .ok (.aload_n 0, 1) := by decide +kernel
theorem dX2_faultAhead_189 : decode cX2_faultAhead 189 = .ok (.invokevirtual 161, 3) := by decide +kernel
theorem dX2_faultAhead_192 : decode cX2_faultAhead 192 = .ok (.ireturn, 1) := by decide +kernel
theorem dX2_faultAhead_193 : decode cX2_faultAhead 193 = .ok (.aload_n 0, 1) := by decide +kernel
theorem dX2_faultAhead_194 : decode cX2_faultAhead 194 = .ok (.getfield 84, 3) := by decide +kernel
theorem dX2_faultAhead_197 : decode cX2_faultAhead 197 = .ok (.bipush 39, 2) := by decide +kernel
theorem dX2_faultAhead_199 : decode cX2_faultAhead 199 = .ok (.if_icmp .ge 14, 3) := by decide +kernel
theorem dX2_faultAhead_202 : decode cX2_faultAhead 202 = .ok (.aload_n 0, 1) := by decide +kernel
theorem dX2_faultAhead_203 : decode cX2_faultAhead 203 = .ok (.getfield 87, 3) := by decide +kernel
theorem dX2_faultAhead_206 : decode cX2_faultAhead 206 = .ok (.bipush 19, 2) := by decide +kernel
theorem dX2_faultAhead_208 : decode cX2_faultAhead 208 = .ok (.if_icmp .le 5, 3) := by decide +kernel
theorem dX2_faultAhead_21 : decode cX2_faultAhead 21 = .ok (.bipush 6, 2) := by decide +kernel
theorem dX2_faultAhead_211 : decode cX2_faultAhead 211 = .ok (.iconst 5, 1) := by decide +kernel
theorem dX2_faultAhead_212 : decode cX2_faultAhead 212 = .ok (.ireturn, 1) := by decide +kernel
theorem dX2_faultAhead_213 : decode cX2_faultAhead 213 = .ok (.aload_n 0, 1) := by decide +kernel
theorem dX2_faultAhead_214 : decode cX2_faultAhead 214 = .ok (.invokevirtual 164, 3) := by decide +kernel
theorem dX2_faultAhead_217 : decode cX2_faultAhead 217 = .ok (.ifCond .eq 19, 3) := by decide +kernel
theorem dX2_faultAhead_220 : decode cX2_faultAhead 220 = .ok (.aload_n 0, 1) := by decide +kernel
theorem dX2_faultAhead_221 : decode cX2_faultAhead 221 = .ok (.aload_n 0, 1) := by decide +kernel
theorem dX2_faultAhead_222 : decode cX2_faultAhead 222 = .ok (.getfield 142, 3) := by decide +kernel
theorem dX2_faultAhead_225 : decode cX2_faultAhead 225 = .ok (.invokevirtual 62, 3) := by decide +kernel
theorem dX2_faultAhead_228 : decode cX2_faultAhead 228 = .ok (.ifCond .ne 8, 3) := by decide +kernel
theorem dX2_faultAhead_23 : decode cX2_faultAhead 23 = .ok (.if_icmp .ne 16, 3) := by decide +kernel
theorem dX2_faultAhead_231 : decode cX2_faultAhead 231 = .ok (.bipush 7, 2) := by decide +kernel
theorem dX2_faultAhead_233 : decode cX2_faultAhead 233 = .ok (.goto 4, 3) := by decide +kernel
theorem dX2_faultAhead_236 : decode cX2_faultAhead 236 = .ok (.iconst 0, 1) := by decide +kernel
theorem dX2_faultAhead_237 : decode cX2_faultAhead 237 = .ok (.ireturn, 1) := by decide +kernel
theorem dX2_faultAhead_26 : decode cX2_faultAhead 26 = .ok (.aload_n 0, 1) := by decide +kernel
theorem dX2_faultAhead_27 : decode cX2_faultAhead 27 = .ok (.getfield 142, 3) := by decide +kernel
theorem dX2_faultAhead_30 : decode cX2_faultAhead 30 = .ok (.ifCond .ge 7, 3) := by decide +kernel
theorem dX2_faultAhead_33 : decode cX2_faultAhead 33 = .ok (.iconst 2, 1) := by decide +kernel
theorem dX2_faultAhead_34 : decode cX2_faultAhead 34 = .ok (.goto 4, 3) := by decide +kernel
theorem dX2_faultAhead_37 : decode cX2_faultAhead 37 = .ok (.iconst 0, 1) := by decide +kernel
theorem dX2_faultAhead_38 : decode cX2_faultAhead 38 = .ok (.ireturn, 1) := by decide +kernel
theorem dX2_faultAhead_39 : decode cX2_faultAhead 39 = .ok (.aload_n 0, 1) := by decide +kernel
theorem dX2_faultAhead_4 : decode cX2_faultAhead 4 = .ok (.ifCond .eq 11, 3) := by decide +kernel
theorem dX2_faultAhead_40 : decode cX2_faultAhead 40 = .ok (.getfield 84, 3) := by decide +kernel
theorem dX2_faultAhead_43 : decode cX2_faultAhead 43 = .ok (.bipush 7, 2) := by decide +kernel
theorem dX2_faultAhead_45 : decode cX2_faultAhead 45 = .ok (.if_icmp .ne 61, 3) := by decide +kernel
theorem dX2_faultAhead_48 : decode cX2_faultAhead 48 = .ok (.aload_n 0, 1) := by decide +kernel
theorem dX2_faultAhead_49 : decode cX2_faultAhead 49 = .ok (.getfield 87, 3) := by decide +kernel
theorem dX2_faultAhead_52 : decode cX2_faultAhead 52 = .ok (.ifCond .eq 38, 3) := by decide +kernel
theorem dX2_faultAhead_55 : decode cX2_faultAhead 55 = .ok (.aload_n 0, 1) := by decide +kernel
theorem dX2_faultAhead_56 : decode cX2_faultAhead 56 = .ok (.aload_n 0, 1) := by decide +kernel
theorem dX2_faultAhead_57 : decode cX2_faultAhead 57 = .ok (.getfield 142, 3) := by decide +kernel
theorem dX2_faultAhead_60 : decode cX2_faultAhead 60 = .ok (.aload_n 0, 1) := by decide +kernel
theorem dX2_faultAhead_61 : decode cX2_faultAhead 61 = .ok (.getfield 87, 3) := by decide +kernel
theorem dX2_faultAhead_64 : decode cX2_faultAhead 64 = .ok (.invokevirtual 145, 3) := by decide +kernel
theorem dX2_faultAhead_67 : decode cX2_faultAhead 67 = .ok (.ifCond .eq 27, 3) := by decide +kernel
theorem dX2_faultAhead_7 : decode cX2_faultAhead 7 = .ok (.aload_n 0, 1) := by decide +kernel
theorem dX2_faultAhead_70 : decode cX2_faultAhead 70 = .ok (.aload_n 0, 1) := by decide +kernel
theorem dX2_faultAhead_71 : decode cX2_faultAhead 71 = .ok (.aload_n 0, 1) := by decide +kernel
theorem dX2_faultAhead_72 : decode cX2_faultAhead 72 = .ok (.getfield 11, 3) := by decide +kernel
theorem dX2_faultAhead_75 : decode cX2_faultAhead 75 = .ok (.iconst 1, 1) := by decide +kernel
theorem dX2_faultAhead_76 : decode cX2_faultAhead 76 = .ok (.iaload, 1) := by decide +kernel
theorem dX2_faultAhead_77 : decode cX2_faultAhead 77 = .ok (.invokestatic 98, 3) := by decide +kernel
theorem dX2_faultAhead_8 : decode cX2_faultAhead 8 = .ok (.getfield 84, 3) := by decide +kernel
theorem dX2_faultAhead_80 : decode cX2_faultAhead 80 = .ok (.aload_n 0, 1) := by decide +kernel
theorem dX2_faultAhead_81 : decode cX2_faultAhead 81 = .ok (.getfield 87, 3) := by decide +kernel
theorem dX2_faultAhead_84 : decode cX2_faultAhead 84 = .ok (.invokevirtual 145, 3) := by decide +kernel
theorem dX2_faultAhead_87 : decode cX2_faultAhead 87 = .ok (.ifCond .eq 7, 3) := by decide +kernel
theorem dX2_faultAhead_90 : decode cX2_faultAhead 90 = .ok (.iconst 1, 1) := by decide +kernel
theorem dX2_faultAhead_91 : decode cX2_faultAhead 91 = .ok (.goto 4, 3) := by decide +kernel
theorem dX2_faultAhead_94 : decode cX2_faultAhead 94 = .ok (.iconst 0, 1) := by decide +kernel
theorem dX2_faultAhead_95 : decode cX2_faultAhead 95 = .ok (.istore_n 1, 1) := by decide +kernel
theorem dX2_faultAhead_96 : decode cX2_faultAhead 96 = .ok (.iload_n 1, 1) := by decide +kernel
theorem dX2_faultAhead_97 : decode cX2_faultAhead 97 = .ok (.ifCond .eq 7, 3) := by decide +kernel
set_option maxHeartbeats 4000000 in
set_option maxRecDepth 100000 in
theorem T_X2_faultAhead (l : Launch) (D : va_G) (K : Nat → ClassId) (Z Y : Nat → Nat) (ad : Nat → Nat) (d : dSt) (t : tSt) (hok : okX t) (hod : okD d)  : tMet l yX2_faultAhead cX2_faultAhead 2 (some .int) (rmD 4 0 0) D K Z Y [.ref (ad 4)] ((WX d) K ad t) (QI D K (fun (r : Int32) (u : Unit) => (0 : Int) ≤ r.toInt ∧ r.toInt ≤ 7) (fun (_ : Unit) => (WX d) K ad t)) 0 0 := by
  refine t_met RX2 ⟨rfl, by decide +kernel⟩ (Nat.le_of_ble_eq_true rfl) ?_
  intro p e s m below meth c A ls C hE hZ hr hlocks hA hP hD hS hl
  have hl : lv_has ls 2 [(0, .ref (ad 4))] := hl
  have L_213 : ∀  (H : Heap) (locs : List Loc) (ls : Array Slot), (34 : Int) ≤ (t.1 4 13).toInt ∧ (t.1 4 13).toInt ≤ 47 → va_P D vwCl ((WX d) K ad t) H → va_D A ((WX d) K ad t) → va_S A s.heap H locs → lv_has ls 2 [(0, .ref (ad 4))] → W p l e (rmD 4 0 0) s m [.ref (ad 4)].toArray below meth c H locs 0 0 (MQ below (QI D K (fun (r : Int32) (u : Unit) => (0 : Int) ≤ r.toInt ∧ r.toInt ≤ 7) (fun (_ : Unit) => (WX d) K ad t) A) [.ref (ad 4)].toArray s 0 0 A) (F0 m 213 ls []) := by
    intro  H locs ls hf213_13 hP hD hS hl
    refine lv_aload_n C.1 C.2.1 dX2_faultAhead_213 rfl (lv_at hl 0 rfl) ?_
    refine g_Vi (As := []) (rest := []) C hP hD hS hA (T_X2_jumps l D K Z Y ad d t hok ) hE hZ (uwV m_49_23 m_50_0 m_50_1 m_1_23 m_50_2) (hdV 0 (by decide +kernel) rfl) ⟨Nat.le_of_ble_eq_true rfl, Nat.le_of_ble_eq_true rfl⟩ rfl rfl (ci := 1) (q0 := 4) rfl rfl rfl hl.1 (Nat.le_of_ble_eq_true rfl) dX2_faultAhead_214 ⟨Nat.le_of_ble_eq_true rfl, Nat.le_of_ble_eq_true rfl⟩ (fun r_2 t_1 H locs hw hP hD hS => ?_)
    obtain ⟨h_4, h_5⟩ := hw
    refine lv_if_eq (tgt := 236) C.1 C.2.1 dX2_faultAhead_217 (by decide) (fun c_6 => ?_) (fun c_6 => ?_)
    · replace c_6 : r_2.toInt = 0 := i_eq c_6
      refine lv_iconst (v := 0) C.1 C.2.1 dX2_faultAhead_236 (by decide) ?_
      exact g_iret C hr hlocks hP hD hS rfl () rfl ⟨by decide, by decide⟩ (Nat.le_of_ble_eq_true rfl) (Nat.le_of_ble_eq_true rfl) dX2_faultAhead_237
    · replace c_6 : ¬ r_2.toInt = 0 := i_ne c_6
      refine lv_aload_n C.1 C.2.1 dX2_faultAhead_220 rfl (lv_at hl 0 rfl) ?_
      refine lv_aload_n C.1 C.2.1 dX2_faultAhead_221 rfl (lv_at hl 0 rfl) ?_
      have h_7 : (-2147483648 : Int) ≤ (t.1 4 15).toInt ∧ (t.1 4 15).toInt ≤ 1073745919 := hok.1 4 15
      refine k_get (v := .int (t.1 4 15)) C hP 4 rfl rfl inlX2 15 (by decide) m_47_12 rfl dX2_faultAhead_222 ?_
      refine g_Vi (As := [.int (t.1 4 15)]) (rest := []) C hP hD hS hA (T_X2_isAddress l D K Z Y ad d t hok ((t.1 4 15))) hE hZ (uwV m_45_20 m_45_21 m_45_22 m_1_23 m_45_23) (hdV 1 (by decide +kernel) rfl) ⟨Nat.le_of_ble_eq_true rfl, Nat.le_of_ble_eq_true rfl⟩ rfl rfl (ci := 1) (q0 := 4) rfl rfl rfl hl.1 (Nat.le_of_ble_eq_true rfl) dX2_faultAhead_225 ⟨Nat.le_of_ble_eq_true rfl, Nat.le_of_ble_eq_true rfl⟩ (fun r_9 t_8 H locs hw hP hD hS => ?_)
      obtain ⟨h_11, h_12⟩ := hw
      refine lv_if_ne (tgt := 236) C.1 C.2.1 dX2_faultAhead_228 (by decide) (fun c_13 => ?_) (fun c_13 => ?_)
      · replace c_13 : ¬ r_9.toInt = 0 := i_ne c_13
        refine lv_iconst (v := 0) C.1 C.2.1 dX2_faultAhead_236 (by decide) ?_
        exact g_iret C hr hlocks hP hD hS rfl () rfl ⟨by decide, by decide⟩ (Nat.le_of_ble_eq_true rfl) (Nat.le_of_ble_eq_true rfl) dX2_faultAhead_237
      · replace c_13 : r_9.toInt = 0 := i_eq c_13
        refine lv_bipush (v := 7) C.1 C.2.1 dX2_faultAhead_231 (by decide) ?_
        refine lv_goto (tgt := 237) C.1 C.2.1 dX2_faultAhead_233 (by decide) ?_
        exact g_iret C hr hlocks hP hD hS rfl () rfl ⟨by decide, by decide⟩ (Nat.le_of_ble_eq_true rfl) (Nat.le_of_ble_eq_true rfl) dX2_faultAhead_237
  have L_193 : ∀  (H : Heap) (locs : List Loc) (ls : Array Slot), (34 : Int) ≤ (t.1 4 13).toInt ∧ (t.1 4 13).toInt ≤ 47 → va_P D vwCl ((WX d) K ad t) H → va_D A ((WX d) K ad t) → va_S A s.heap H locs → lv_has ls 2 [(0, .ref (ad 4))] → W p l e (rmD 4 0 0) s m [.ref (ad 4)].toArray below meth c H locs 0 0 (MQ below (QI D K (fun (r : Int32) (u : Unit) => (0 : Int) ≤ r.toInt ∧ r.toInt ≤ 7) (fun (_ : Unit) => (WX d) K ad t) A) [.ref (ad 4)].toArray s 0 0 A) (F0 m 193 ls []) := by
    intro  H locs ls hf193_13 hP hD hS hl
    refine lv_aload_n C.1 C.2.1 dX2_faultAhead_193 rfl (lv_at hl 0 rfl) ?_
    refine k_get (v := .int (t.1 4 13)) C hP 4 rfl rfl inlX2 13 (by decide) m_45_18 rfl dX2_faultAhead_194 ?_
    refine lv_bipush (v := 39) C.1 C.2.1 dX2_faultAhead_197 (by decide) ?_
    refine lv_icmp_ge (tgt := 213) C.1 C.2.1 dX2_faultAhead_199 (by decide) (fun c_14 => ?_) (fun c_14 => ?_)
    · replace c_14 : 39 ≤ (t.1 4 13).toInt := i_le c_14
      exact L_213  _ _ _ (show (34 : Int) ≤ ((t.1 4 13) : Int32).toInt ∧ ((t.1 4 13) : Int32).toInt ≤ 47 from ⟨by omega, by omega⟩) hP hD hS (lv_sub hl [0] rfl)
    · replace c_14 : (t.1 4 13).toInt < 39 := i_nle c_14
      refine lv_aload_n C.1 C.2.1 dX2_faultAhead_202 rfl (lv_at hl 0 rfl) ?_
      have h_15 : (0 : Int) ≤ (t.1 4 14).toInt ∧ (t.1 4 14).toInt ≤ 63 := hok.1 4 14
      refine k_get (v := .int (t.1 4 14)) C hP 4 rfl rfl inlX2 14 (by decide) m_45_19 rfl dX2_faultAhead_203 ?_
      refine lv_bipush (v := 19) C.1 C.2.1 dX2_faultAhead_206 (by decide) ?_
      refine lv_icmp_le (tgt := 213) C.1 C.2.1 dX2_faultAhead_208 (by decide) (fun c_16 => ?_) (fun c_16 => ?_)
      · replace c_16 : (t.1 4 14).toInt ≤ 19 := i_le c_16
        exact L_213  _ _ _ (show (34 : Int) ≤ ((t.1 4 13) : Int32).toInt ∧ ((t.1 4 13) : Int32).toInt ≤ 47 from ⟨by omega, by omega⟩) hP hD hS (lv_sub hl [0] rfl)
      · replace c_16 : 19 < (t.1 4 14).toInt := i_nle c_16
        refine lv_iconst (v := 5) C.1 C.2.1 dX2_faultAhead_211 (by decide) ?_
        exact g_iret C hr hlocks hP hD hS rfl () rfl ⟨by decide, by decide⟩ (Nat.le_of_ble_eq_true rfl) (Nat.le_of_ble_eq_true rfl) dX2_faultAhead_212
  have L_95 : ∀ (k95_0 : Int32) (H : Heap) (locs : List Loc) (ls : Array Slot), (0 : Int) ≤ k95_0.toInt ∧ k95_0.toInt ≤ 1 → (7 : Int) ≤ (t.1 4 13).toInt ∧ (t.1 4 13).toInt ≤ 7 → va_P D vwCl ((WX d) K ad t) H → va_D A ((WX d) K ad t) → va_S A s.heap H locs → lv_has ls 2 [(0, .ref (ad 4))] → W p l e (rmD 4 0 0) s m [.ref (ad 4)].toArray below meth c H locs 0 0 (MQ below (QI D K (fun (r : Int32) (u : Unit) => (0 : Int) ≤ r.toInt ∧ r.toInt ≤ 7) (fun (_ : Unit) => (WX d) K ad t) A) [.ref (ad 4)].toArray s 0 0 A) (F0 m 95 ls [.int k95_0]) := by
    intro k95_0 H locs ls hk95_0 hf95_13 hP hD hS hl
    refine lv_istore_n (lv' := [(1, .int k95_0), (0, .ref (ad 4))]) C.1 C.2.1 dX2_faultAhead_95 rfl hl (by decide) rfl (fun ls hl => ?_)
    have hl : lv_has ls 2 [(0, .ref (ad 4)), (1, .int k95_0)] := lv_sub hl [1, 0] rfl
    refine lv_iload_n C.1 C.2.1 dX2_faultAhead_96 rfl (lv_at hl 1 rfl) ?_
    refine lv_if_eq (tgt := 104) C.1 C.2.1 dX2_faultAhead_97 (by decide) (fun c_17 => ?_) (fun c_17 => ?_)
    · replace c_17 : k95_0.toInt = 0 := i_eq c_17
      refine lv_iconst (v := 2) C.1 C.2.1 dX2_faultAhead_104 (by decide) ?_
      exact g_iret C hr hlocks hP hD hS rfl () rfl ⟨by decide, by decide⟩ (Nat.le_of_ble_eq_true rfl) (Nat.le_of_ble_eq_true rfl) dX2_faultAhead_105
    · replace c_17 : ¬ k95_0.toInt = 0 := i_ne c_17
      refine lv_iconst (v := 0) C.1 C.2.1 dX2_faultAhead_100 (by decide) ?_
      refine lv_goto (tgt := 105) C.1 C.2.1 dX2_faultAhead_101 (by decide) ?_
      exact g_iret C hr hlocks hP hD hS rfl () rfl ⟨by decide, by decide⟩ (Nat.le_of_ble_eq_true rfl) (Nat.le_of_ble_eq_true rfl) dX2_faultAhead_105
  have L_94 : ∀  (H : Heap) (locs : List Loc) (ls : Array Slot), (7 : Int) ≤ (t.1 4 13).toInt ∧ (t.1 4 13).toInt ≤ 7 → (1 : Int) ≤ (t.1 4 14).toInt ∧ (t.1 4 14).toInt ≤ 63 → va_P D vwCl ((WX d) K ad t) H → va_D A ((WX d) K ad t) → va_S A s.heap H locs → lv_has ls 2 [(0, .ref (ad 4))] → W p l e (rmD 4 0 0) s m [.ref (ad 4)].toArray below meth c H locs 0 0 (MQ below (QI D K (fun (r : Int32) (u : Unit) => (0 : Int) ≤ r.toInt ∧ r.toInt ≤ 7) (fun (_ : Unit) => (WX d) K ad t) A) [.ref (ad 4)].toArray s 0 0 A) (F0 m 94 ls []) := by
    intro  H locs ls hf94_13 hf94_14 hP hD hS hl
    refine lv_iconst (v := 0) C.1 C.2.1 dX2_faultAhead_94 (by decide) ?_
    exact L_95 0 _ _ _ ⟨by decide, by decide⟩ (show (7 : Int) ≤ ((t.1 4 13) : Int32).toInt ∧ ((t.1 4 13) : Int32).toInt ≤ 7 from ⟨by omega, by omega⟩) hP hD hS (lv_sub hl [0] rfl)
  have L_90 : ∀  (H : Heap) (locs : List Loc) (ls : Array Slot), (7 : Int) ≤ (t.1 4 13).toInt ∧ (t.1 4 13).toInt ≤ 7 → va_P D vwCl ((WX d) K ad t) H → va_D A ((WX d) K ad t) → va_S A s.heap H locs → lv_has ls 2 [(0, .ref (ad 4))] → W p l e (rmD 4 0 0) s m [.ref (ad 4)].toArray below meth c H locs 0 0 (MQ below (QI D K (fun (r : Int32) (u : Unit) => (0 : Int) ≤ r.toInt ∧ r.toInt ≤ 7) (fun (_ : Unit) => (WX d) K ad t) A) [.ref (ad 4)].toArray s 0 0 A) (F0 m 90 ls []) := by
    intro  H locs ls hf90_13 hP hD hS hl
    refine lv_iconst (v := 1) C.1 C.2.1 dX2_faultAhead_90 (by decide) ?_
    refine lv_goto (tgt := 95) C.1 C.2.1 dX2_faultAhead_91 (by decide) ?_
    exact L_95 1 _ _ _ ⟨by decide, by decide⟩ (show (7 : Int) ≤ ((t.1 4 13) : Int32).toInt ∧ ((t.1 4 13) : Int32).toInt ≤ 7 from ⟨by omega, by omega⟩) hP hD hS (lv_sub hl [0] rfl)
  refine lv_aload_n C.1 C.2.1 dX2_faultAhead_0 rfl (lv_at hl 0 rfl) ?_
  have h_18 : (0 : Int) ≤ (t.1 4 13).toInt ∧ (t.1 4 13).toInt ≤ 63 := hok.1 4 13
  refine k_get (v := .int (t.1 4 13)) C hP 4 rfl rfl inlX2 13 (by decide) m_45_18 rfl dX2_faultAhead_1 ?_
  refine lv_if_eq (tgt := 15) C.1 C.2.1 dX2_faultAhead_4 (by decide) (fun c_19 => ?_) (fun c_19 => ?_)
  · replace c_19 : (t.1 4 13).toInt = 0 := i_eq c_19
    refine lv_iconst (v := 0) C.1 C.2.1 dX2_faultAhead_15 (by decide) ?_
    exact g_iret C hr hlocks hP hD hS rfl () rfl ⟨by decide, by decide⟩ (Nat.le_of_ble_eq_true rfl) (Nat.le_of_ble_eq_true rfl) dX2_faultAhead_16
  · replace c_19 : ¬ (t.1 4 13).toInt = 0 := i_ne c_19
    refine lv_aload_n C.1 C.2.1 dX2_faultAhead_7 rfl (lv_at hl 0 rfl) ?_
    refine k_get (v := .int (t.1 4 13)) C hP 4 rfl rfl inlX2 13 (by decide) m_45_18 rfl dX2_faultAhead_8 ?_
    refine lv_iconst (v := 5) C.1 C.2.1 dX2_faultAhead_11 (by decide) ?_
    refine lv_icmp_ne (tgt := 17) C.1 C.2.1 dX2_faultAhead_12 (by decide) (fun c_20 => ?_) (fun c_20 => ?_)
    · replace c_20 : ¬ (t.1 4 13).toInt = 5 := i_ne c_20
      refine lv_aload_n C.1 C.2.1 dX2_faultAhead_17 rfl (lv_at hl 0 rfl) ?_
      refine k_get (v := .int (t.1 4 13)) C hP 4 rfl rfl inlX2 13 (by decide) m_45_18 rfl dX2_faultAhead_18 ?_
      refine lv_bipush (v := 6) C.1 C.2.1 dX2_faultAhead_21 (by decide) ?_
      refine lv_icmp_ne (tgt := 39) C.1 C.2.1 dX2_faultAhead_23 (by decide) (fun c_21 => ?_) (fun c_21 => ?_)
      · replace c_21 : ¬ (t.1 4 13).toInt = 6 := i_ne c_21
        refine lv_aload_n C.1 C.2.1 dX2_faultAhead_39 rfl (lv_at hl 0 rfl) ?_
        refine k_get (v := .int (t.1 4 13)) C hP 4 rfl rfl inlX2 13 (by decide) m_45_18 rfl dX2_faultAhead_40 ?_
        refine lv_bipush (v := 7) C.1 C.2.1 dX2_faultAhead_43 (by decide) ?_
        refine lv_icmp_ne (tgt := 106) C.1 C.2.1 dX2_faultAhead_45 (by decide) (fun c_22 => ?_) (fun c_22 => ?_)
        · replace c_22 : ¬ (t.1 4 13).toInt = 7 := i_ne c_22
          refine lv_aload_n C.1 C.2.1 dX2_faultAhead_106 rfl (lv_at hl 0 rfl) ?_
          refine k_get (v := .int (t.1 4 13)) C hP 4 rfl rfl inlX2 13 (by decide) m_45_18 rfl dX2_faultAhead_107 ?_
          refine lv_bipush (v := 33) C.1 C.2.1 dX2_faultAhead_110 (by decide) ?_
          refine lv_icmp_le (tgt := 124) C.1 C.2.1 dX2_faultAhead_112 (by decide) (fun c_23 => ?_) (fun c_23 => ?_)
          · replace c_23 : (t.1 4 13).toInt ≤ 33 := i_le c_23
            refine lv_aload_n C.1 C.2.1 dX2_faultAhead_124 rfl (lv_at hl 0 rfl) ?_
            refine g_Vi (As := []) (rest := []) C hP hD hS hA (T_X2_faultOfField l D K Z Y ad d t hok ) hE hZ (uwV m_48_18 m_48_19 m_48_20 m_1_23 m_48_21) (hdV 0 (by decide +kernel) rfl) ⟨Nat.le_of_ble_eq_true rfl, Nat.le_of_ble_eq_true rfl⟩ rfl rfl (ci := 1) (q0 := 4) rfl rfl rfl hl.1 (Nat.le_of_ble_eq_true rfl) dX2_faultAhead_125 ⟨Nat.le_of_ble_eq_true rfl, Nat.le_of_ble_eq_true rfl⟩ (fun r_25 t_24 H locs hw hP hD hS => ?_)
            obtain ⟨h_27, h_28⟩ := hw
            exact g_iret C hr hlocks hP hD hS rfl () rfl ⟨by omega, by omega⟩ (Nat.le_of_ble_eq_true rfl) (Nat.le_of_ble_eq_true rfl) dX2_faultAhead_128
          · replace c_23 : 33 < (t.1 4 13).toInt := i_nle c_23
            refine lv_aload_n C.1 C.2.1 dX2_faultAhead_115 rfl (lv_at hl 0 rfl) ?_
            refine k_get (v := .int (t.1 4 13)) C hP 4 rfl rfl inlX2 13 (by decide) m_45_18 rfl dX2_faultAhead_116 ?_
            refine lv_bipush (v := 56) C.1 C.2.1 dX2_faultAhead_119 (by decide) ?_
            refine lv_icmp_lt (tgt := 129) C.1 C.2.1 dX2_faultAhead_121 (by decide) (fun c_29 => ?_) (fun c_29 => ?_)
            · replace c_29 : (t.1 4 13).toInt < 56 := i_lt c_29
              refine lv_aload_n C.1 C.2.1 dX2_faultAhead_129 rfl (lv_at hl 0 rfl) ?_
              refine k_get (v := .int (t.1 4 13)) C hP 4 rfl rfl inlX2 13 (by decide) m_45_18 rfl dX2_faultAhead_130 ?_
              refine lv_bipush (v := 48) C.1 C.2.1 dX2_faultAhead_133 (by decide) ?_
              refine lv_icmp_lt (tgt := 170) C.1 C.2.1 dX2_faultAhead_135 (by decide) (fun c_30 => ?_) (fun c_30 => ?_)
              · replace c_30 : (t.1 4 13).toInt < 48 := i_lt c_30
                refine lv_aload_n C.1 C.2.1 dX2_faultAhead_170 rfl (lv_at hl 0 rfl) ?_
                refine k_get (v := .int (t.1 4 13)) C hP 4 rfl rfl inlX2 13 (by decide) m_45_18 rfl dX2_faultAhead_171 ?_
                refine lv_bipush (v := 35) C.1 C.2.1 dX2_faultAhead_174 (by decide) ?_
                refine lv_icmp_lt (tgt := 193) C.1 C.2.1 dX2_faultAhead_176 (by decide) (fun c_31 => ?_) (fun c_31 => ?_)
                · replace c_31 : (t.1 4 13).toInt < 35 := i_lt c_31
                  exact L_193  _ _ _ (show (34 : Int) ≤ ((t.1 4 13) : Int32).toInt ∧ ((t.1 4 13) : Int32).toInt ≤ 47 from ⟨by omega, by omega⟩) hP hD hS (lv_sub hl [0] rfl)
                · replace c_31 : 35 ≤ (t.1 4 13).toInt := i_nlt c_31
                  refine lv_aload_n C.1 C.2.1 dX2_faultAhead_179 rfl (lv_at hl 0 rfl) ?_
                  refine k_get (v := .int (t.1 4 13)) C hP 4 rfl rfl inlX2 13 (by decide) m_45_18 rfl dX2_faultAhead_180 ?_
                  refine lv_bipush (v := 37) C.1 C.2.1 dX2_faultAhead_183 (by decide) ?_
                  refine lv_icmp_gt (tgt := 193) C.1 C.2.1 dX2_faultAhead_185 (by decide) (fun c_32 => ?_) (fun c_32 => ?_)
                  · replace c_32 : 37 < (t.1 4 13).toInt := i_lt c_32
                    exact L_193  _ _ _ (show (34 : Int) ≤ ((t.1 4 13) : Int32).toInt ∧ ((t.1 4 13) : Int32).toInt ≤ 47 from ⟨by omega, by omega⟩) hP hD hS (lv_sub hl [0] rfl)
                  · replace c_32 : (t.1 4 13).toInt ≤ 37 := i_nlt c_32
                    refine lv_aload_n C.1 C.2.1 dX2_faultAhead_188 rfl (lv_at hl 0 rfl) ?_
                    refine g_Vi (As := []) (rest := []) C hP hD hS hA (T_X2_faultOfUnit l D K Z Y ad d t hok hod ) hE hZ (uwV m_49_10 m_49_11 m_49_12 m_1_23 m_49_13) (hdV 0 (by decide +kernel) rfl) ⟨Nat.le_of_ble_eq_true rfl, Nat.le_of_ble_eq_true rfl⟩ rfl rfl (ci := 1) (q0 := 4) rfl rfl rfl hl.1 (Nat.le_of_ble_eq_true rfl) dX2_faultAhead_189 ⟨Nat.le_of_ble_eq_true rfl, Nat.le_of_ble_eq_true rfl⟩ (fun r_34 t_33 H locs hw hP hD hS => ?_)
                    obtain ⟨h_36, h_37⟩ := hw
                    exact g_iret C hr hlocks hP hD hS rfl () rfl ⟨by omega, by omega⟩ (Nat.le_of_ble_eq_true rfl) (Nat.le_of_ble_eq_true rfl) dX2_faultAhead_192
              · replace c_30 : 48 ≤ (t.1 4 13).toInt := i_nlt c_30
                refine lv_aload_n C.1 C.2.1 dX2_faultAhead_138 rfl (lv_at hl 0 rfl) ?_
                refine k_get (v := .int (t.1 4 13)) C hP 4 rfl rfl inlX2 13 (by decide) m_45_18 rfl dX2_faultAhead_139 ?_
                refine lv_bipush (v := 48) C.1 C.2.1 dX2_faultAhead_142 (by decide) ?_
                obtain ⟨v_38, e_39⟩ : ∃ z, z = ((t.1 4 13) : Int32) - (48 : Int32) := ⟨_, rfl⟩
                have h_40 : v_38.toInt = (t.1 4 13).toInt - 48 := by rw [e_39]; exact ti_isub (by show (_ : Int) ≤ (t.1 4 13).toInt - 48; omega) (by show (t.1 4 13).toInt - 48 < (_ : Int); omega)
                refine k_isub (v := v_38) C e_39.symm dX2_faultAhead_144 ?_
                refine g_Si (As := [.int v_38]) (rest := []) C hP hD hS hA (T_X2_isIndex l D K Z Y ad d t hok (v_38) (show (0 : Int) ≤ (v_38 : Int32).toInt ∧ (v_38 : Int32).toInt ≤ 7 from ⟨by omega, by omega⟩)) hE hZ (uwS m_49_0 m_49_1 m_1_23 m_49_2) (hdS 1 (by decide +kernel) rfl) ⟨Nat.le_of_ble_eq_true rfl, Nat.le_of_ble_eq_true rfl⟩ rfl rfl rfl hl.1 (Nat.le_of_ble_eq_true rfl) dX2_faultAhead_145 ⟨Nat.le_of_ble_eq_true rfl, Nat.le_of_ble_eq_true rfl⟩ (fun r_42 t_41 H locs hw hP hD hS => ?_)
                obtain ⟨h_44, h_45⟩ := hw
                refine lv_if_eq (tgt := 168) C.1 C.2.1 dX2_faultAhead_148 (by decide) (fun c_46 => ?_) (fun c_46 => ?_)
                · replace c_46 : r_42.toInt = 0 := i_eq c_46
                  refine lv_iconst (v := 0) C.1 C.2.1 dX2_faultAhead_168 (by decide) ?_
                  exact g_iret C hr hlocks hP hD hS rfl () rfl ⟨by decide, by decide⟩ (Nat.le_of_ble_eq_true rfl) (Nat.le_of_ble_eq_true rfl) dX2_faultAhead_169
                · replace c_46 : ¬ r_42.toInt = 0 := i_ne c_46
                  refine lv_aload_n C.1 C.2.1 dX2_faultAhead_151 rfl (lv_at hl 0 rfl) ?_
                  refine g_Vi (As := []) (rest := []) C hP hD hS hA (T_X2_entered l D K Z Y ad d t hok ) hE hZ (uwV m_49_6 m_49_7 m_49_8 m_1_23 m_49_9) (hdV 0 (by decide +kernel) rfl) ⟨Nat.le_of_ble_eq_true rfl, Nat.le_of_ble_eq_true rfl⟩ rfl rfl (ci := 1) (q0 := 4) rfl rfl rfl hl.1 (Nat.le_of_ble_eq_true rfl) dX2_faultAhead_152 ⟨Nat.le_of_ble_eq_true rfl, Nat.le_of_ble_eq_true rfl⟩ (fun r_48 t_47 H locs hw hP hD hS => ?_)
                  obtain ⟨h_50, h_51⟩ := hw
                  refine va_mabs C.1 C.2.1 (by rw [C.2.2.1, hl.1]) C.2.2.2.1 (C.2.2.2.2.1 _ m_48_11) (C.2.2.2.2.1 _ m_48_12) (C.2.2.2.2.1 _ m_12_15) (C.2.2.2.2.1 _ m_48_13) (Nat.le_of_ble_eq_true rfl) (Nat.le_of_ble_eq_true rfl) (Nat.le_of_ble_eq_true rfl) (Nat.le_of_ble_eq_true rfl) dX2_faultAhead_155 ?_
                  refine lv_sipush (v := 4095) C.1 C.2.1 dX2_faultAhead_158 (by decide) ?_
                  refine lv_icmp_le (tgt := 168) C.1 C.2.1 dX2_faultAhead_161 (by decide) (fun c_54 => ?_) (fun c_54 => ?_)
                  · replace c_54 : (if (0 : Int32) ≤ r_48 then r_48 else 0 - r_48).toInt ≤ 4095 := i_le c_54
                    refine lv_iconst (v := 0) C.1 C.2.1 dX2_faultAhead_168 (by decide) ?_
                    exact g_iret C hr hlocks hP hD hS rfl () rfl ⟨by decide, by decide⟩ (Nat.le_of_ble_eq_true rfl) (Nat.le_of_ble_eq_true rfl) dX2_faultAhead_169
                  · replace c_54 : 4095 < (if (0 : Int32) ≤ r_48 then r_48 else 0 - r_48).toInt := i_nle c_54
                    refine lv_iconst (v := 4) C.1 C.2.1 dX2_faultAhead_164 (by decide) ?_
                    refine lv_goto (tgt := 169) C.1 C.2.1 dX2_faultAhead_165 (by decide) ?_
                    exact g_iret C hr hlocks hP hD hS rfl () rfl ⟨by decide, by decide⟩ (Nat.le_of_ble_eq_true rfl) (Nat.le_of_ble_eq_true rfl) dX2_faultAhead_169
            · replace c_29 : 56 ≤ (t.1 4 13).toInt := i_nlt c_29
              refine lv_aload_n C.1 C.2.1 dX2_faultAhead_124 rfl (lv_at hl 0 rfl) ?_
              refine g_Vi (As := []) (rest := []) C hP hD hS hA (T_X2_faultOfField l D K Z Y ad d t hok ) hE hZ (uwV m_48_18 m_48_19 m_48_20 m_1_23 m_48_21) (hdV 0 (by decide +kernel) rfl) ⟨Nat.le_of_ble_eq_true rfl, Nat.le_of_ble_eq_true rfl⟩ rfl rfl (ci := 1) (q0 := 4) rfl rfl rfl hl.1 (Nat.le_of_ble_eq_true rfl) dX2_faultAhead_125 ⟨Nat.le_of_ble_eq_true rfl, Nat.le_of_ble_eq_true rfl⟩ (fun r_56 t_55 H locs hw hP hD hS => ?_)
              obtain ⟨h_58, h_59⟩ := hw
              exact g_iret C hr hlocks hP hD hS rfl () rfl ⟨by omega, by omega⟩ (Nat.le_of_ble_eq_true rfl) (Nat.le_of_ble_eq_true rfl) dX2_faultAhead_128
        · replace c_22 : (t.1 4 13).toInt = 7 := i_eq c_22
          refine lv_aload_n C.1 C.2.1 dX2_faultAhead_48 rfl (lv_at hl 0 rfl) ?_
          have h_60 : (0 : Int) ≤ (t.1 4 14).toInt ∧ (t.1 4 14).toInt ≤ 63 := hok.1 4 14
          refine k_get (v := .int (t.1 4 14)) C hP 4 rfl rfl inlX2 14 (by decide) m_45_19 rfl dX2_faultAhead_49 ?_
          refine lv_if_eq (tgt := 90) C.1 C.2.1 dX2_faultAhead_52 (by decide) (fun c_61 => ?_) (fun c_61 => ?_)
          · replace c_61 : (t.1 4 14).toInt = 0 := i_eq c_61
            exact L_90  _ _ _ (show (7 : Int) ≤ ((t.1 4 13) : Int32).toInt ∧ ((t.1 4 13) : Int32).toInt ≤ 7 from ⟨by omega, by omega⟩) hP hD hS (lv_sub hl [0] rfl)
          · replace c_61 : ¬ (t.1 4 14).toInt = 0 := i_ne c_61
            refine lv_aload_n C.1 C.2.1 dX2_faultAhead_55 rfl (lv_at hl 0 rfl) ?_
            refine lv_aload_n C.1 C.2.1 dX2_faultAhead_56 rfl (lv_at hl 0 rfl) ?_
            have h_62 : (-2147483648 : Int) ≤ (t.1 4 15).toInt ∧ (t.1 4 15).toInt ≤ 1073745919 := hok.1 4 15
            refine k_get (v := .int (t.1 4 15)) C hP 4 rfl rfl inlX2 15 (by decide) m_47_12 rfl dX2_faultAhead_57 ?_
            refine lv_aload_n C.1 C.2.1 dX2_faultAhead_60 rfl (lv_at hl 0 rfl) ?_
            refine k_get (v := .int (t.1 4 14)) C hP 4 rfl rfl inlX2 14 (by decide) m_45_19 rfl dX2_faultAhead_61 ?_
            refine g_Vi (As := [.int (t.1 4 15), .int (t.1 4 14)]) (rest := []) C hP hD hS hA (T_X2_areAddresses l D K Z Y ad d t hok ((t.1 4 15)) (show (-2147483648 : Int) ≤ ((t.1 4 15) : Int32).toInt ∧ ((t.1 4 15) : Int32).toInt ≤ 1073745919 from ⟨(i_rng _).1, by omega⟩) ((t.1 4 14)) (show (1 : Int) ≤ ((t.1 4 14) : Int32).toInt ∧ ((t.1 4 14) : Int32).toInt ≤ 100 from ⟨by omega, by omega⟩)) hE hZ (uwV m_48_14 m_48_15 m_48_16 m_1_23 m_48_17) (hdV 2 (by decide +kernel) rfl) ⟨Nat.le_of_ble_eq_true rfl, Nat.le_of_ble_eq_true rfl⟩ rfl rfl (ci := 1) (q0 := 4) rfl rfl rfl hl.1 (Nat.le_of_ble_eq_true rfl) dX2_faultAhead_64 ⟨Nat.le_of_ble_eq_true rfl, Nat.le_of_ble_eq_true rfl⟩ (fun r_64 t_63 H locs hw hP hD hS => ?_)
            obtain ⟨h_66, h_67⟩ := hw
            refine lv_if_eq (tgt := 94) C.1 C.2.1 dX2_faultAhead_67 (by decide) (fun c_68 => ?_) (fun c_68 => ?_)
            · replace c_68 : r_64.toInt = 0 := i_eq c_68
              exact L_94  _ _ _ (show (7 : Int) ≤ ((t.1 4 13) : Int32).toInt ∧ ((t.1 4 13) : Int32).toInt ≤ 7 from ⟨by omega, by omega⟩) (show (1 : Int) ≤ ((t.1 4 14) : Int32).toInt ∧ ((t.1 4 14) : Int32).toInt ≤ 63 from ⟨by omega, by omega⟩) hP hD hS (lv_sub hl [0] rfl)
            · replace c_68 : ¬ r_64.toInt = 0 := i_ne c_68
              refine lv_aload_n C.1 C.2.1 dX2_faultAhead_70 rfl (lv_at hl 0 rfl) ?_
              refine lv_aload_n C.1 C.2.1 dX2_faultAhead_71 rfl (lv_at hl 0 rfl) ?_
              refine k_get (v := .ref (ad 22)) C hP 4 rfl rfl inlX2 1 (by decide) m_4_16 rfl dX2_faultAhead_72 ?_
              refine lv_iconst (v := 1) C.1 C.2.1 dX2_faultAhead_75 (by decide) ?_
              obtain ⟨v_69, e_70⟩ : ∃ z, z = (t.2.2.1 22 (1 : Int32).toNatClampNeg) := ⟨_, rfl⟩
              refine k_ild (v := v_69) C hP 22 rfl (vin (by decide)) e_70.symm dX2_faultAhead_76 ?_
              refine g_Si (As := [.int v_69]) (rest := [.ref (ad 4)]) C hP hD hS hA (T_X1_value l D K Z Y ad d t hok (v_69)) hE hZ (uwS m_47_19 m_23_9 m_14_2 m_23_10) (hdS 1 (by decide +kernel) rfl) ⟨Nat.le_of_ble_eq_true rfl, Nat.le_of_ble_eq_true rfl⟩ rfl rfl rfl hl.1 (Nat.le_of_ble_eq_true rfl) dX2_faultAhead_77 ⟨Nat.le_of_ble_eq_true rfl, Nat.le_of_ble_eq_true rfl⟩ (fun r_72 t_71 H locs hw hP hD hS => ?_)
              obtain ⟨h_74, h_75⟩ := hw
              refine lv_aload_n C.1 C.2.1 dX2_faultAhead_80 rfl (lv_at hl 0 rfl) ?_
              refine k_get (v := .int (t.1 4 14)) C hP 4 rfl rfl inlX2 14 (by decide) m_45_19 rfl dX2_faultAhead_81 ?_
              refine g_Vi (As := [.int r_72, .int (t.1 4 14)]) (rest := []) C hP hD hS hA (T_X2_areAddresses l D K Z Y ad d t hok (r_72) (show (-2147483648 : Int) ≤ (r_72 : Int32).toInt ∧ (r_72 : Int32).toInt ≤ 1073745919 from ⟨(i_rng _).1, by omega⟩) ((t.1 4 14)) (show (1 : Int) ≤ ((t.1 4 14) : Int32).toInt ∧ ((t.1 4 14) : Int32).toInt ≤ 100 from ⟨by omega, by omega⟩)) hE hZ (uwV m_48_14 m_48_15 m_48_16 m_1_23 m_48_17) (hdV 2 (by decide +kernel) rfl) ⟨Nat.le_of_ble_eq_true rfl, Nat.le_of_ble_eq_true rfl⟩ rfl rfl (ci := 1) (q0 := 4) rfl rfl rfl hl.1 (Nat.le_of_ble_eq_true rfl) dX2_faultAhead_84 ⟨Nat.le_of_ble_eq_true rfl, Nat.le_of_ble_eq_true rfl⟩ (fun r_77 t_76 H locs hw hP hD hS => ?_)
              obtain ⟨h_79, h_80⟩ := hw
              refine lv_if_eq (tgt := 94) C.1 C.2.1 dX2_faultAhead_87 (by decide) (fun c_81 => ?_) (fun c_81 => ?_)
              · replace c_81 : r_77.toInt = 0 := i_eq c_81
                exact L_94  _ _ _ (show (7 : Int) ≤ ((t.1 4 13) : Int32).toInt ∧ ((t.1 4 13) : Int32).toInt ≤ 7 from ⟨by omega, by omega⟩) (show (1 : Int) ≤ ((t.1 4 14) : Int32).toInt ∧ ((t.1 4 14) : Int32).toInt ≤ 63 from ⟨by omega, by omega⟩) hP hD hS (lv_sub hl [0] rfl)
              · replace c_81 : ¬ r_77.toInt = 0 := i_ne c_81
                exact L_90  _ _ _ (show (7 : Int) ≤ ((t.1 4 13) : Int32).toInt ∧ ((t.1 4 13) : Int32).toInt ≤ 7 from ⟨by omega, by omega⟩) hP hD hS (lv_sub hl [0] rfl)
      · replace c_21 : (t.1 4 13).toInt = 6 := i_eq c_21
        refine lv_aload_n C.1 C.2.1 dX2_faultAhead_26 rfl (lv_at hl 0 rfl) ?_
        have h_82 : (-2147483648 : Int) ≤ (t.1 4 15).toInt ∧ (t.1 4 15).toInt ≤ 1073745919 := hok.1 4 15
        refine k_get (v := .int (t.1 4 15)) C hP 4 rfl rfl inlX2 15 (by decide) m_47_12 rfl dX2_faultAhead_27 ?_
        refine lv_if_ge (tgt := 37) C.1 C.2.1 dX2_faultAhead_30 (by decide) (fun c_83 => ?_) (fun c_83 => ?_)
        · replace c_83 : 0 ≤ (t.1 4 15).toInt := i_le c_83
          refine lv_iconst (v := 0) C.1 C.2.1 dX2_faultAhead_37 (by decide) ?_
          exact g_iret C hr hlocks hP hD hS rfl () rfl ⟨by decide, by decide⟩ (Nat.le_of_ble_eq_true rfl) (Nat.le_of_ble_eq_true rfl) dX2_faultAhead_38
        · replace c_83 : (t.1 4 15).toInt < 0 := i_nle c_83
          refine lv_iconst (v := 2) C.1 C.2.1 dX2_faultAhead_33 (by decide) ?_
          refine lv_goto (tgt := 38) C.1 C.2.1 dX2_faultAhead_34 (by decide) ?_
          exact g_iret C hr hlocks hP hD hS rfl () rfl ⟨by decide, by decide⟩ (Nat.le_of_ble_eq_true rfl) (Nat.le_of_ble_eq_true rfl) dX2_faultAhead_38
    · replace c_20 : (t.1 4 13).toInt = 5 := i_eq c_20
      refine lv_iconst (v := 0) C.1 C.2.1 dX2_faultAhead_15 (by decide) ?_
      exact g_iret C hr hlocks hP hD hS rfl () rfl ⟨by decide, by decide⟩ (Nat.le_of_ble_eq_true rfl) (Nat.le_of_ble_eq_true rfl) dX2_faultAhead_16

theorem dX11_layJob_0 : decode cX11_layJob 0 = .ok (.aload_n 0, 1) := by decide +kernel
theorem dX11_layJob_1 : decode cX11_layJob 1 = .ok (.getfield 44, 3) := by decide +kernel
theorem dX11_layJob_101 : decode cX11_layJob 101 = .ok (.getfield 317, 3) := by decide +kernel
theorem dX11_layJob_104 : decode cX11_layJob 104 = .ok (.ifCond .ne 7, 3) := by decide +kernel
theorem dX11_layJob_107 : decode cX11_layJob 107 = .ok (.iconst (-1), 1) := by decide +kernel
theorem dX11_layJob_108 : decode cX11_layJob 108 = .ok (.goto 4, 3) := by decide +kernel
theorem dX11_layJob_11 : decode cX11_layJob 11 = .ok (.invokevirtual 302, 3) := by decide +kernel
theorem dX11_layJob_111 : decode cX11_layJob 111 = .ok (.iconst 4, 1) := by decide +kernel
theorem dX11_layJob_112 : decode cX11_layJob 112 = .ok (.ireturn, 1) := by decide +kernel
theorem dX11_layJob_113 : decode cX11_layJob 113 = .ok (.aload_n 0, 1) := by decide +kernel
theorem dX11_layJob_114 : decode cX11_layJob 114 = .ok (.getfield 48, 3) := by decide +kernel
theorem dX11_layJob_117 : decode cX11_layJob 117 = .ok (.aload_n 0, 1) := by decide +kernel
theorem dX11_layJob_118 : decode cX11_layJob 118 = .ok (.getfield 66, 3) := by decide +kernel
theorem dX11_layJob_121 : decode cX11_layJob 121 = .ok (.getfield 198, 3) := by decide +kernel
theorem dX11_layJob_124 : decode cX11_layJob 124 = .ok (.aload_n 0, 1) := by decide +kernel
theorem dX11_layJob_125 : decode cX11_layJob 125 = .ok (.getfield 66, 3) := by decide +kernel
theorem dX11_layJob_128 : decode cX11_layJob 128 = .ok (.getfield 201, 3) := by decide +kernel
theorem dX11_layJob_131 : decode cX11_layJob 131 = .ok (.iconst 1, 1) := by decide +kernel
theorem dX11_layJob_132 : decode cX11_layJob 132 = .ok (.invokevirtual 94, 3) := by decide +kernel
theorem dX11_layJob_135 : decode cX11_layJob 135 = .ok (.aload_n 0, 1) := by decide +kernel
theorem dX11_layJob_136 : decode cX11_layJob 136 = .ok (.getfield 48, 3) := by decide +kernel
theorem dX11_layJob_139 : decode cX11_layJob 139 = .ok (.invokevirtual 98, 3) := by decide +kernel
theorem dX11_layJob_14 : decode cX11_layJob 14 = .ok (.aload_n 0, 1) := by decide +kernel
theorem dX11_layJob_142 : decode cX11_layJob 142 = .ok (.istore_n 1, 1) := by decide +kernel
theorem dX11_layJob_143 : decode cX11_layJob 143 = .ok (.aload_n 0, 1) := by decide +kernel
theorem dX11_layJob_144 : decode cX11_layJob 144 = .ok (.getfield 48, 3) := by decide +kernel
theorem dX11_layJob_147 : decode cX11_layJob 147 = .ok (.iload_n 1, 1) := by decide +kernel
theorem dX11_layJob_148 : decode cX11_layJob 148 = .ok (.invokevirtual 101, 3) := by decide +kernel
theorem dX11_layJob_15 : decode cX11_layJob 15 = .ok (.invokevirtual 305, 3) := by decide +kernel
theorem dX11_layJob_151 : decode cX11_layJob 151 = .ok (.iload_n 1, 1) := by decide +kernel
theorem dX11_layJob_152 : decode cX11_layJob 152 = .ok (.ifCond .eq 19, 3) := by decide +kernel
theorem dX11_layJob_155 : decode cX11_layJob 155 = .ok (.aload_n 0, 1) := by decide +kernel
theorem dX11_layJob_156 : decode cX11_layJob 156 = .ok (.getfield 66, 3) := by decide +kernel
theorem dX11_layJob_159 : decode cX11_layJob 159 = .ok (.aload_n 0, 1) := by decide +kernel
theorem dX11_layJob_160 : decode cX11_layJob 160 = .ok (.getfield 36, 3) := by decide +kernel
theorem dX11_layJob_163 : decode cX11_layJob 163 = .ok (.getfield 104, 3) := by decide +kernel
theorem dX11_layJob_166 : decode cX11_layJob 166 = .ok (.putfield 317, 3) := by decide +kernel
theorem dX11_layJob_169 : decode cX11_layJob 169 = .ok (.iconst 3, 1) := by decide +kernel
theorem dX11_layJob_170 : decode cX11_layJob 170 = .ok (.ireturn, 1) := by decide +kernel
theorem dX11_layJob_171 : decode cX11_layJob 171 = .ok (.aload_n 0, 1) := by decide +kernel
theorem dX11_layJob_172 : decode cX11_layJob 172 = .ok (.getfield 66, 3) := by decide +kernel
theorem dX11_layJob_175 : decode cX11_layJob 175 = .ok (.aload_n 0, 1) := by decide +kernel
theorem dX11_layJob_176 : decode cX11_layJob 176 = .ok (.getfield 48, 3) := by decide +kernel
theorem dX11_layJob_179 : decode cX11_layJob 179 = .ok (.getfield 107, 3) := by decide +kernel
theorem dX11_layJob_18 : decode cX11_layJob 18 = .ok (.aload_n 0, 1) := by decide +kernel
theorem dX11_layJob_182 : decode cX11_layJob 182 = .ok (.putfield 320, 3) := by decide +kernel
theorem dX11_layJob_185 : decode cX11_layJob 185 = .ok (.aload_n 0, 1) := by decide +kernel
theorem dX11_layJob_186 : decode cX11_layJob 186 = .ok (.invokevirtual 323, 3) := by decide +kernel
theorem dX11_layJob_189 : decode cX11_layJob 189 = .ok (.iconst (-1), 1) := by decide +kernel
theorem dX11_layJob_19 : decode cX11_layJob 19 = .ok (.getfield 48, 3) := by decide +kernel
theorem dX11_layJob_190 : decode cX11_layJob 190 = .ok (.ireturn, 1) := by decide +kernel
theorem dX11_layJob_22 : decode cX11_layJob 22 = .ok (.iconst 0, 1) := by decide +kernel
theorem dX11_layJob_23 : decode cX11_layJob 23 = .ok (.putfield 153, 3) := by decide +kernel
theorem dX11_layJob_26 : decode cX11_layJob 26 = .ok (.aload_n 0, 1) := by decide +kernel
theorem dX11_layJob_27 : decode cX11_layJob 27 = .ok (.getfield 66, 3) := by decide +kernel
theorem dX11_layJob_30 : decode cX11_layJob 30 = .ok (.getfield 308, 3) := by decide +kernel
theorem dX11_layJob_33 : decode cX11_layJob 33 = .ok (.ifCond .eq 80, 3) := by decide +kernel
theorem dX11_layJob_36 : decode cX11_layJob 36 = .ok (.aload_n 0, 1) := by decide +kernel
theorem dX11_layJob_37 : decode cX11_layJob 37 = .ok (.getfield 48, 3) := by decide +kernel
theorem dX11_layJob_4 : decode cX11_layJob 4 = .ok (.invokevirtual 91, 3) := by decide +kernel
theorem dX11_layJob_40 : decode cX11_layJob 40 = .ok (.iconst 0, 1) := by decide +kernel
theorem dX11_layJob_41 : decode cX11_layJob 41 = .ok (.putfield 121, 3) := by decide +kernel
theorem dX11_layJob_44 : decode cX11_layJob 44 = .ok (.aload_n 0, 1) := by decide +kernel
theorem dX11_layJob_45 : decode cX11_layJob 45 = .ok (.getfield 66, 3) := by decide +kernel
theorem dX11_layJob_48 : decode cX11_layJob 48 = .ok (.aload_n 0, 1) := by decide +kernel
theorem dX11_layJob_49 : decode cX11_layJob 49 = .ok (.getfield 66, 3) := by decide +kernel
theorem dX11_layJob_52 : decode cX11_layJob 52 = .ok (.getfield 308, 3) := by decide +kernel
theorem dX11_layJob_55 : decode cX11_layJob 55 = .ok (.iconst 1, 1) := by decide +kernel
theorem dX11_layJob_56 : decode cX11_layJob 56 = .ok (.if_icmp .ne 24, 3) := by decide +kernel
theorem dX11_layJob_59 : decode cX11_layJob 59 = .ok (.aload_n 0, 1) := by decide +kernel
theorem dX11_layJob_60 : decode cX11_layJob 60 = .ok (.getfield 66, 3) := by decide +kernel
theorem dX11_layJob_63 : decode cX11_layJob 63 = .ok (.aload_n 0, 1) := by decide +kernel
theorem dX11_layJob_64 : decode cX11_layJob 64 = .ok (.getfield 36, 3) := by decide +kernel
theorem dX11_layJob_67 : decode cX11_layJob 67 = .ok (.aload_n 0, 1) := by decide +kernel
theorem dX11_layJob_68 : decode cX11_layJob 68 = .ok (.getfield 44, 3) := by decide +kernel
theorem dX11_layJob_7 : decode cX11_layJob 7 = .ok (.aload_n 0, 1) := by decide +kernel
theorem dX11_layJob_71 : decode cX11_layJob 71 = .ok (.getfield 157, 3) := by decide +kernel
theorem dX11_layJob_74 : decode cX11_layJob 74 = .ok (.invokevirtual 309, 3) := by decide +kernel
theorem dX11_layJob_77 : decode cX11_layJob 77 = .ok (.goto 17, 3) := by decide +kernel
theorem dX11_layJob_8 : decode cX11_layJob 8 = .ok (.getfield 40, 3) := by decide +kernel
theorem dX11_layJob_80 : decode cX11_layJob 80 = .ok (.aload_n 0, 1) := by decide +kernel
theorem dX11_layJob_81 : decode cX11_layJob 81 = .ok (.getfield 66, 3) := by decide +kernel
theorem dX11_layJob_84 : decode cX11_layJob 84 = .ok (.aload_n 0, 1) := by decide +kernel
theorem dX11_layJob_85 : decode cX11_layJob 85 = .ok (.getfield 44, 3) := by decide +kernel
theorem dX11_layJob_88 : decode cX11_layJob 88 = .ok (.getfield 157, 3) := by decide +kernel
theorem dX11_layJob_91 : decode cX11_layJob 91 = .ok (.invokevirtual 313, 3) := by decide +kernel
theorem dX11_layJob_94 : decode cX11_layJob 94 = .ok (.putfield 317, 3) := by decide +kernel
theorem dX11_layJob_97 : decode cX11_layJob 97 = .ok (.aload_n 0, 1) := by decide +kernel
theorem dX11_layJob_98 : decode cX11_layJob 98 = .ok (.getfield 66, 3) := by decide +kernel
set_option maxHeartbeats 4000000 in
set_option maxRecDepth 100000 in
theorem T_X11_layJob (l : Launch) (D : va_G) (K : Nat → ClassId) (Z Y : Nat → Nat) (ad : Nat → Nat) (d : dSt) (t : tSt) (hok : okX t) (hod : okD d)  : dMet l yX11_layJob cX11_layJob 2 (some .int) (rmD 9 10000 2800000) D K Z Y [.ref (ad 0)] ((WX d) K ad t) (QDI D K ad d (fun (r : Int32) (u : tSt) (dd : dSt) => okX u ∧ frA [(2, 2), (2, 3), (2, 4), (2, 5), (2, 6), (2, 7), (3, 8), (4, 3), (4, 4), (4, 5), (4, 8), (4, 9), (4, 10), (5, 7), (5, 9), (5, 10), (5, 11), (5, 12), (5, 14), (5, 15), (5, 16), (5, 17), (5, 18), (5, 19), (7, 9), (7, 10), (18, 1), (18, 2), (18, 3), (19, 3), (20, 3), (23, 3), (23, 6), (23, 12), (24, 2), (24, 3), (24, 4), (24, 5), (24, 6), (24, 8)] [(4, 6), (5, 13), (24, 7), (24, 9)] [9, 10, 12, 15, 22, 26, 27, 28, 32, 33, 34, 35, 36, 37, 42, 43, 44, 45, 46, 47, 48, 49, 50] [13, 25, 41] t u ∧ okD dd ∧ (-1 : Int) ≤ r.toInt ∧ r.toInt ≤ 4 ∧ ((u.1 18 2).toInt ≤ 1281))) 10000 2800000 := by
  refine d_met d RX11 ⟨rfl, by decide +kernel⟩ (Nat.le_of_ble_eq_true rfl) ?_
  intro p e s m below meth c A ls C hE hZ hX hr hlocks hA hP hD hS hl
  have hl : lv_has ls 2 [(0, .ref (ad 0))] := hl
  have hle : dLe d d := dLe_rf
  have hdf : dFr s.heap.size d d := dFr_rf
  have hokt := hok
  have hfr : frA [(2, 2), (2, 3), (2, 4), (2, 5), (2, 6), (2, 7), (3, 8), (4, 3), (4, 4), (4, 5), (4, 8), (4, 9), (4, 10), (5, 7), (5, 9), (5, 10), (5, 11), (5, 12), (5, 14), (5, 15), (5, 16), (5, 17), (5, 18), (5, 19), (7, 9), (7, 10), (18, 1), (18, 2), (18, 3), (19, 3), (20, 3), (23, 3), (23, 6), (23, 12), (24, 2), (24, 3), (24, 4), (24, 5), (24, 6), (24, 8)] [(4, 6), (5, 13), (24, 7), (24, 9)] [9, 10, 12, 15, 22, 26, 27, 28, 32, 33, 34, 35, 36, 37, 42, 43, 44, 45, 46, 47, 48, 49, 50] [13, 25, 41] t t := frA_rf
  have h_1 : (0 : Int) ≤ (t.1 18 2).toInt ∧ (t.1 18 2).toInt ≤ 2700 := hok.1 18 2
  have L_94 : ∀ (t1 : tSt) (d1 : dSt) (k94_1 : Int32) (H : Heap) (locs : List Loc) (ls : Array Slot), okX t1 → frA [(2, 2), (2, 3), (2, 4), (2, 5), (2, 6), (2, 7), (3, 8), (4, 3), (4, 4), (4, 5), (4, 8), (4, 9), (4, 10), (5, 7), (5, 9), (5, 10), (5, 11), (5, 12), (5, 14), (5, 15), (5, 16), (5, 17), (5, 18), (5, 19), (7, 9), (7, 10), (18, 1), (18, 2), (18, 3), (19, 3), (20, 3), (23, 3), (23, 6), (23, 12), (24, 2), (24, 3), (24, 4), (24, 5), (24, 6), (24, 8)] [(4, 6), (5, 13), (24, 7), (24, 9)] [9, 10, 12, 15, 22, 26, 27, 28, 32, 33, 34, 35, 36, 37, 42, 43, 44, 45, 46, 47, 48, 49, 50] [13, 25, 41] t t1 → okD d1 → dLe d d1 → dFr s.heap.size d d1 → (0 : Int) ≤ (t1.1 5 18).toInt ∧ (t1.1 5 18).toInt ≤ 0 → (0 : Int) ≤ (t1.1 5 19).toInt ∧ (t1.1 5 19).toInt ≤ 0 → (1 : Int) ≤ (t1.1 7 4).toInt ∧ (t1.1 7 4).toInt ≤ 2 → ((t1.1 18 2).toInt ≤ 1281) → va_P D vwCl ((WX d1) K ad t1) H → va_D A ((WX d1) K ad t1) → va_S A s.heap H locs → lv_has ls 2 [(0, .ref (ad 0))] → W p l e (rmD 9 10000 2800000) s m [.ref (ad 0)].toArray below meth c H locs (newC d d1) 246800 (MQ below (QDI D K ad d (fun (r : Int32) (u : tSt) (dd : dSt) => okX u ∧ frA [(2, 2), (2, 3), (2, 4), (2, 5), (2, 6), (2, 7), (3, 8), (4, 3), (4, 4), (4, 5), (4, 8), (4, 9), (4, 10), (5, 7), (5, 9), (5, 10), (5, 11), (5, 12), (5, 14), (5, 15), (5, 16), (5, 17), (5, 18), (5, 19), (7, 9), (7, 10), (18, 1), (18, 2), (18, 3), (19, 3), (20, 3), (23, 3), (23, 6), (23, 12), (24, 2), (24, 3), (24, 4), (24, 5), (24, 6), (24, 8)] [(4, 6), (5, 13), (24, 7), (24, 9)] [9, 10, 12, 15, 22, 26, 27, 28, 32, 33, 34, 35, 36, 37, 42, 43, 44, 45, 46, 47, 48, 49, 50] [13, 25, 41] t u ∧ okD dd ∧ (-1 : Int) ≤ r.toInt ∧ r.toInt ≤ 4 ∧ ((u.1 18 2).toInt ≤ 1281)) s.heap.size A) [.ref (ad 0)].toArray s 10000 2800000 A) (F0 m 94 ls [.int k94_1, .ref (ad 7)]) := by
    intro t1 d1 k94_1 H locs ls hok hfr hod hle hdf hf94_18 hf94_19 hf94_4 hi94_0 hP hD hS hl
    have h_2 : (0 : Int) ≤ (t1.1 18 2).toInt ∧ (t1.1 18 2).toInt ≤ 2700 := hok.1 18 2
    refine k_put (ws' := (WX d1) K ad (uI t1 7 10 k94_1)) (v := .int k94_1) C hP hD hS 7 rfl rfl inlX3 tyX3_ok nmX3 10 (by decide) m_74_15 rfl rfl rfl rfl rfl dX11_layJob_94 (fun H locs hP hD hS => ?_)
    have hok : okX (uI t1 7 10 k94_1) := ⟨okI_I hok.1 7 10 k94_1 (show (-2147483648 : Int) ≤ (k94_1 : Int32).toInt ∧ (k94_1 : Int32).toInt ≤ 2147483647 from (i_rng _)), hok.2.1, trivial⟩
    have hfr : frA [(2, 2), (2, 3), (2, 4), (2, 5), (2, 6), (2, 7), (3, 8), (4, 3), (4, 4), (4, 5), (4, 8), (4, 9), (4, 10), (5, 7), (5, 9), (5, 10), (5, 11), (5, 12), (5, 14), (5, 15), (5, 16), (5, 17), (5, 18), (5, 19), (7, 9), (7, 10), (18, 1), (18, 2), (18, 3), (19, 3), (20, 3), (23, 3), (23, 6), (23, 12), (24, 2), (24, 3), (24, 4), (24, 5), (24, 6), (24, 8)] [(4, 6), (5, 13), (24, 7), (24, 9)] [9, 10, 12, 15, 22, 26, 27, 28, 32, 33, 34, 35, 36, 37, 42, 43, 44, 45, 46, 47, 48, 49, 50] [13, 25, 41] t (uI t1 7 10 k94_1) := frA_I hfr 7 10 _ rfl
    refine lv_aload_n C.1 C.2.1 dX11_layJob_97 rfl (lv_at hl 0 rfl) ?_
    refine k_get (v := .ref (ad 7)) C hP 0 rfl rfl inlX11 7 (by decide) m_2_18 rfl dX11_layJob_98 ?_
    refine k_get (v := .int k94_1) C hP 7 rfl rfl inlX3 10 (by decide) m_74_15 rfl dX11_layJob_101 ?_
    refine lv_if_ne (tgt := 111) C.1 C.2.1 dX11_layJob_104 (by decide) (fun c_3 => ?_) (fun c_3 => ?_)
    · replace c_3 : ¬ k94_1.toInt = 0 := i_ne c_3
      refine lv_iconst (v := 4) C.1 C.2.1 dX11_layJob_111 (by decide) ?_
      exact g_Diret C hr hlocks hP hD hS rfl ⟨hok, hfr, hod, by decide, by decide, (show (t1.1 18 2).toInt ≤ 1281 from by omega)⟩ hle hdf (Nat.le_of_ble_eq_true rfl) (Nat.le_of_ble_eq_true rfl) dX11_layJob_112
    · replace c_3 : k94_1.toInt = 0 := i_eq c_3
      refine lv_iconst (v := (-1)) C.1 C.2.1 dX11_layJob_107 (by decide) ?_
      refine lv_goto (tgt := 112) C.1 C.2.1 dX11_layJob_108 (by decide) ?_
      exact g_Diret C hr hlocks hP hD hS rfl ⟨hok, hfr, hod, by decide, by decide, (show (t1.1 18 2).toInt ≤ 1281 from by omega)⟩ hle hdf (Nat.le_of_ble_eq_true rfl) (Nat.le_of_ble_eq_true rfl) dX11_layJob_112
  refine lv_aload_n C.1 C.2.1 dX11_layJob_0 rfl (lv_at hl 0 rfl) ?_
  refine k_get (v := .ref (ad 4)) C hP 0 rfl rfl inlX11 4 (by decide) m_2_9 rfl dX11_layJob_1 ?_
  refine hz_Vv (As := []) (rest := []) C hP hD hS hA (T_X2_clear l D K Z Y ad d t hok ) hE hZ (uwV m_11_0 m_11_1 m_11_2 m_1_23 m_11_3) (hdV 0 (by decide +kernel) rfl) ⟨Nat.le_of_ble_eq_true rfl, Nat.le_of_ble_eq_true rfl⟩ rfl rfl (ci := 1) (q0 := 4) rfl rfl rfl hl.1 (Nat.le_of_ble_eq_true rfl) dX11_layJob_4 ⟨Nat.le_trans (newC_le _ _) (Nat.le_of_ble_eq_true rfl), (Nat.le_of_ble_eq_true rfl)⟩ (fun t_4 H locs hw hP hD hS => ?_)
  obtain ⟨hok, f_6⟩ := hw
  have hfr : frA [(2, 2), (2, 3), (2, 4), (2, 5), (2, 6), (2, 7), (3, 8), (4, 3), (4, 4), (4, 5), (4, 8), (4, 9), (4, 10), (5, 7), (5, 9), (5, 10), (5, 11), (5, 12), (5, 14), (5, 15), (5, 16), (5, 17), (5, 18), (5, 19), (7, 9), (7, 10), (18, 1), (18, 2), (18, 3), (19, 3), (20, 3), (23, 3), (23, 6), (23, 12), (24, 2), (24, 3), (24, 4), (24, 5), (24, 6), (24, 8)] [(4, 6), (5, 13), (24, 7), (24, 9)] [9, 10, 12, 15, 22, 26, 27, 28, 32, 33, 34, 35, 36, 37, 42, 43, 44, 45, 46, 47, 48, 49, 50] [13, 25, 41] t t_4 := frA_tr hfr f_6 rfl
  have h_7 : (t_4.1 18 2).toInt = (t.1 18 2).toInt := ti_eq (f_6.1 18 2 rfl)
  have h_8 : (0 : Int) ≤ (t_4.1 18 2).toInt ∧ (t_4.1 18 2).toInt ≤ 2700 := hok.1 18 2
  refine lv_aload_n C.1 C.2.1 dX11_layJob_7 rfl (lv_at hl 0 rfl) ?_
  refine k_get (v := .ref (ad 3)) C hP 0 rfl rfl inlX11 3 (by decide) m_2_8 rfl dX11_layJob_8 ?_
  refine hz_Vv (As := []) (rest := []) C hP hD hS hA (T_X10_rewind l D K Z Y ad d t_4 hok ) hE hZ (uwV m_74_17 m_74_18 m_74_19 m_1_20 m_74_20) (hdV 0 (by decide +kernel) rfl) ⟨Nat.le_of_ble_eq_true rfl, Nat.le_of_ble_eq_true rfl⟩ rfl rfl (ci := 9) (q0 := 3) rfl rfl rfl hl.1 (Nat.le_of_ble_eq_true rfl) dX11_layJob_11 ⟨Nat.le_trans (newC_le _ _) (Nat.le_of_ble_eq_true rfl), (Nat.le_of_ble_eq_true rfl)⟩ (fun t_9 H locs hw hP hD hS => ?_)
  obtain ⟨hok, f_11⟩ := hw
  have hfr : frA [(2, 2), (2, 3), (2, 4), (2, 5), (2, 6), (2, 7), (3, 8), (4, 3), (4, 4), (4, 5), (4, 8), (4, 9), (4, 10), (5, 7), (5, 9), (5, 10), (5, 11), (5, 12), (5, 14), (5, 15), (5, 16), (5, 17), (5, 18), (5, 19), (7, 9), (7, 10), (18, 1), (18, 2), (18, 3), (19, 3), (20, 3), (23, 3), (23, 6), (23, 12), (24, 2), (24, 3), (24, 4), (24, 5), (24, 6), (24, 8)] [(4, 6), (5, 13), (24, 7), (24, 9)] [9, 10, 12, 15, 22, 26, 27, 28, 32, 33, 34, 35, 36, 37, 42, 43, 44, 45, 46, 47, 48, 49, 50] [13, 25, 41] t t_9 := frA_tr hfr f_11 rfl
  have h_12 : (t_9.1 18 2).toInt = (t_4.1 18 2).toInt := ti_eq (f_11.1 18 2 rfl)
  have h_13 : (0 : Int) ≤ (t_9.1 18 2).toInt ∧ (t_9.1 18 2).toInt ≤ 2700 := hok.1 18 2
  refine lv_aload_n C.1 C.2.1 dX11_layJob_14 rfl (lv_at hl 0 rfl) ?_
  refine g_DVv (As := []) (rest := []) C hP hD hS hA (T_X11_layData l D K Z Y ad d t_9 hok hod ) hE hZ hX hle hdf (uwV m_74_22 m_74_23 m_75_0 m_1_2 m_75_1) (hdV 0 (by decide +kernel) rfl) ⟨Nat.le_of_ble_eq_true rfl, Nat.le_of_ble_eq_true rfl⟩ rfl rfl (ci := 10) (q0 := 0) rfl rfl rfl hl.1 (Nat.le_of_ble_eq_true rfl) dX11_layJob_15 ⟨Nat.le_of_ble_eq_true rfl, Nat.le_of_ble_eq_true rfl⟩ (fun t_14 d_16 H locs hw hP hD hS hln hle hdf => ?_)
  obtain ⟨hok, f_17, hod, p_18⟩ := hw
  have hfr : frA [(2, 2), (2, 3), (2, 4), (2, 5), (2, 6), (2, 7), (3, 8), (4, 3), (4, 4), (4, 5), (4, 8), (4, 9), (4, 10), (5, 7), (5, 9), (5, 10), (5, 11), (5, 12), (5, 14), (5, 15), (5, 16), (5, 17), (5, 18), (5, 19), (7, 9), (7, 10), (18, 1), (18, 2), (18, 3), (19, 3), (20, 3), (23, 3), (23, 6), (23, 12), (24, 2), (24, 3), (24, 4), (24, 5), (24, 6), (24, 8)] [(4, 6), (5, 13), (24, 7), (24, 9)] [9, 10, 12, 15, 22, 26, 27, 28, 32, 33, 34, 35, 36, 37, 42, 43, 44, 45, 46, 47, 48, 49, 50] [13, 25, 41] t t_14 := frA_tr hfr f_17 rfl
  have h_19 : (0 : Int) ≤ (t_14.1 18 2).toInt ∧ (t_14.1 18 2).toInt ≤ 2700 := hok.1 18 2
  replace p_18 : (t_14.1 18 2).toInt ≤ 1281 := p_18
  refine lv_aload_n C.1 C.2.1 dX11_layJob_18 rfl (lv_at hl 0 rfl) ?_
  refine k_get (v := .ref (ad 5)) C hP 0 rfl rfl inlX11 5 (by decide) m_2_10 rfl dX11_layJob_19 ?_
  refine lv_iconst (v := 0) C.1 C.2.1 dX11_layJob_22 (by decide) ?_
  refine k_put (ws' := (WX d_16) K ad (uI t_14 5 19 0)) (v := .int 0) C hP hD hS 5 rfl rfl inlX0 tyX0_ok nmX0 19 (by decide) m_64_16 rfl (by decide) (by decide) rfl rfl dX11_layJob_23 (fun H locs hP hD hS => ?_)
  have hok : okX (uI t_14 5 19 0) := ⟨okI_I hok.1 5 19 0 (show (0 : Int) ≤ (0 : Int32).toInt ∧ (0 : Int32).toInt ≤ 1 from ⟨by decide, by decide⟩), hok.2.1, trivial⟩
  have hfr : frA [(2, 2), (2, 3), (2, 4), (2, 5), (2, 6), (2, 7), (3, 8), (4, 3), (4, 4), (4, 5), (4, 8), (4, 9), (4, 10), (5, 7), (5, 9), (5, 10), (5, 11), (5, 12), (5, 14), (5, 15), (5, 16), (5, 17), (5, 18), (5, 19), (7, 9), (7, 10), (18, 1), (18, 2), (18, 3), (19, 3), (20, 3), (23, 3), (23, 6), (23, 12), (24, 2), (24, 3), (24, 4), (24, 5), (24, 6), (24, 8)] [(4, 6), (5, 13), (24, 7), (24, 9)] [9, 10, 12, 15, 22, 26, 27, 28, 32, 33, 34, 35, 36, 37, 42, 43, 44, 45, 46, 47, 48, 49, 50] [13, 25, 41] t (uI t_14 5 19 0) := frA_I hfr 5 19 _ rfl
  refine lv_aload_n C.1 C.2.1 dX11_layJob_26 rfl (lv_at hl 0 rfl) ?_
  refine k_get (v := .ref (ad 7)) C hP 0 rfl rfl inlX11 7 (by decide) m_2_18 rfl dX11_layJob_27 ?_
  have h_20 : (0 : Int) ≤ (t_14.1 7 4).toInt ∧ (t_14.1 7 4).toInt ≤ 2 := hok.1 7 4
  refine k_get (v := .int (t_14.1 7 4)) C hP 7 rfl rfl inlX3 4 (by decide) m_74_14 rfl dX11_layJob_30 ?_
  refine lv_if_eq (tgt := 113) C.1 C.2.1 dX11_layJob_33 (by decide) (fun c_21 => ?_) (fun c_21 => ?_)
  · replace c_21 : (t_14.1 7 4).toInt = 0 := i_eq c_21
    refine lv_aload_n C.1 C.2.1 dX11_layJob_113 rfl (lv_at hl 0 rfl) ?_
    refine k_get (v := .ref (ad 5)) C hP 0 rfl rfl inlX11 5 (by decide) m_2_10 rfl dX11_layJob_114 ?_
    refine lv_aload_n C.1 C.2.1 dX11_layJob_117 rfl (lv_at hl 0 rfl) ?_
    refine k_get (v := .ref (ad 7)) C hP 0 rfl rfl inlX11 7 (by decide) m_2_18 rfl dX11_layJob_118 ?_
    have h_22 : (0 : Int) ≤ (t_14.1 7 5).toInt ∧ (t_14.1 7 5).toInt ≤ 1281 := hok.1 7 5
    refine k_get (v := .int (t_14.1 7 5)) C hP 7 rfl rfl inlX3 5 (by decide) m_71_10 rfl dX11_layJob_121 ?_
    refine lv_aload_n C.1 C.2.1 dX11_layJob_124 rfl (lv_at hl 0 rfl) ?_
    refine k_get (v := .ref (ad 7)) C hP 0 rfl rfl inlX11 7 (by decide) m_2_18 rfl dX11_layJob_125 ?_
    have h_23 : (0 : Int) ≤ (t_14.1 7 6).toInt ∧ (t_14.1 7 6).toInt ≤ 1280 := hok.1 7 6
    refine k_get (v := .int (t_14.1 7 6)) C hP 7 rfl rfl inlX3 6 (by decide) m_71_11 rfl dX11_layJob_128 ?_
    refine lv_iconst (v := 1) C.1 C.2.1 dX11_layJob_131 (by decide) ?_
    refine hz_Vv (As := [.int (t_14.1 7 5), .int (t_14.1 7 6), .int 1]) (rest := []) C hP hD hS hA (T_X0_open l D K Z Y ad d_16 (uI t_14 5 19 0) hok ((t_14.1 7 5)) (show (0 : Int) ≤ ((t_14.1 7 5) : Int32).toInt ∧ ((t_14.1 7 5) : Int32).toInt ≤ 1281 from ⟨by omega, by omega⟩) ((t_14.1 7 6)) (show (0 : Int) ≤ ((t_14.1 7 6) : Int32).toInt ∧ ((t_14.1 7 6) : Int32).toInt ≤ 1280 from ⟨by omega, by omega⟩) 1 (show (0 : Int) ≤ (1 : Int32).toInt ∧ (1 : Int32).toInt ≤ 1 from ⟨by decide, by decide⟩)) hE hZ (uwV m_11_22 m_11_23 m_12_0 m_2_2 m_12_1) (hdV 3 (by decide +kernel) rfl) ⟨Nat.le_of_ble_eq_true rfl, Nat.le_of_ble_eq_true rfl⟩ rfl rfl (ci := 0) (q0 := 5) rfl rfl rfl hl.1 (Nat.le_of_ble_eq_true rfl) dX11_layJob_132 ⟨Nat.le_trans (newC_le _ _) (Nat.le_of_ble_eq_true rfl), (Nat.le_of_ble_eq_true rfl)⟩ (fun t_24 H locs hw hP hD hS => ?_)
    obtain ⟨hok, f_26⟩ := hw
    have hfr : frA [(2, 2), (2, 3), (2, 4), (2, 5), (2, 6), (2, 7), (3, 8), (4, 3), (4, 4), (4, 5), (4, 8), (4, 9), (4, 10), (5, 7), (5, 9), (5, 10), (5, 11), (5, 12), (5, 14), (5, 15), (5, 16), (5, 17), (5, 18), (5, 19), (7, 9), (7, 10), (18, 1), (18, 2), (18, 3), (19, 3), (20, 3), (23, 3), (23, 6), (23, 12), (24, 2), (24, 3), (24, 4), (24, 5), (24, 6), (24, 8)] [(4, 6), (5, 13), (24, 7), (24, 9)] [9, 10, 12, 15, 22, 26, 27, 28, 32, 33, 34, 35, 36, 37, 42, 43, 44, 45, 46, 47, 48, 49, 50] [13, 25, 41] t t_24 := frA_tr hfr f_26 rfl
    have h_27 : (t_24.1 7 4).toInt = (t_14.1 7 4).toInt := ti_eq (f_26.1 7 4 rfl)
    have h_28 : (t_24.1 7 5).toInt = (t_14.1 7 5).toInt := ti_eq (f_26.1 7 5 rfl)
    have h_29 : (t_24.1 7 6).toInt = (t_14.1 7 6).toInt := ti_eq (f_26.1 7 6 rfl)
    have h_30 : (t_24.1 18 2).toInt = (t_14.1 18 2).toInt := ti_eq (f_26.1 18 2 rfl)
    have h_31 : (0 : Int) ≤ (t_24.1 18 2).toInt ∧ (t_24.1 18 2).toInt ≤ 2700 := hok.1 18 2
    refine lv_aload_n C.1 C.2.1 dX11_layJob_135 rfl (lv_at hl 0 rfl) ?_
    refine k_get (v := .ref (ad 5)) C hP 0 rfl rfl inlX11 5 (by decide) m_2_10 rfl dX11_layJob_136 ?_
    refine hz_Vi (As := []) (rest := []) C hP hD hS hA (T_X0_nextWrong l D K Z Y ad d_16 t_24 hok ) hE hZ (uwV m_13_12 m_13_13 m_13_14 m_2_2 m_13_15) (hdV 0 (by decide +kernel) rfl) ⟨Nat.le_of_ble_eq_true rfl, Nat.le_of_ble_eq_true rfl⟩ rfl rfl (ci := 0) (q0 := 5) rfl rfl rfl hl.1 (Nat.le_of_ble_eq_true rfl) dX11_layJob_139 ⟨Nat.le_trans (newC_le _ _) (Nat.le_of_ble_eq_true rfl), (Nat.le_of_ble_eq_true rfl)⟩ (fun r_33 t_32 H locs hw hP hD hS => ?_)
    obtain ⟨hok, f_34, h_35, h_36⟩ := hw
    have hfr : frA [(2, 2), (2, 3), (2, 4), (2, 5), (2, 6), (2, 7), (3, 8), (4, 3), (4, 4), (4, 5), (4, 8), (4, 9), (4, 10), (5, 7), (5, 9), (5, 10), (5, 11), (5, 12), (5, 14), (5, 15), (5, 16), (5, 17), (5, 18), (5, 19), (7, 9), (7, 10), (18, 1), (18, 2), (18, 3), (19, 3), (20, 3), (23, 3), (23, 6), (23, 12), (24, 2), (24, 3), (24, 4), (24, 5), (24, 6), (24, 8)] [(4, 6), (5, 13), (24, 7), (24, 9)] [9, 10, 12, 15, 22, 26, 27, 28, 32, 33, 34, 35, 36, 37, 42, 43, 44, 45, 46, 47, 48, 49, 50] [13, 25, 41] t t_32 := frA_tr hfr f_34 rfl
    have h_37 : (t_32.1 7 4).toInt = (t_24.1 7 4).toInt := ti_eq (f_34.1 7 4 rfl)
    have h_38 : (t_32.1 7 5).toInt = (t_24.1 7 5).toInt := ti_eq (f_34.1 7 5 rfl)
    have h_39 : (t_32.1 7 6).toInt = (t_24.1 7 6).toInt := ti_eq (f_34.1 7 6 rfl)
    have h_40 : (t_32.1 18 2).toInt = (t_24.1 18 2).toInt := ti_eq (f_34.1 18 2 rfl)
    have h_41 : (0 : Int) ≤ (t_32.1 18 2).toInt ∧ (t_32.1 18 2).toInt ≤ 2700 := hok.1 18 2
    refine lv_istore_n (lv' := [(1, .int r_33), (0, .ref (ad 0))]) C.1 C.2.1 dX11_layJob_142 rfl hl (by decide) rfl (fun ls hl => ?_)
    have hl : lv_has ls 2 [(0, .ref (ad 0)), (1, .int r_33)] := lv_sub hl [1, 0] rfl
    refine lv_aload_n C.1 C.2.1 dX11_layJob_143 rfl (lv_at hl 0 rfl) ?_
    refine k_get (v := .ref (ad 5)) C hP 0 rfl rfl inlX11 5 (by decide) m_2_10 rfl dX11_layJob_144 ?_
    refine lv_iload_n C.1 C.2.1 dX11_layJob_147 rfl (lv_at hl 1 rfl) ?_
    refine hz_Vv (As := [.int r_33]) (rest := []) C hP hD hS hA (T_X0_close l D K Z Y ad d_16 t_32 hok (r_33) (show (0 : Int) ≤ (r_33 : Int32).toInt ∧ (r_33 : Int32).toInt ≤ 8 from ⟨by omega, by omega⟩)) hE hZ (uwV m_28_7 m_28_8 m_28_9 m_2_2 m_28_10) (hdV 1 (by decide +kernel) rfl) ⟨Nat.le_of_ble_eq_true rfl, Nat.le_of_ble_eq_true rfl⟩ rfl rfl (ci := 0) (q0 := 5) rfl rfl rfl hl.1 (Nat.le_of_ble_eq_true rfl) dX11_layJob_148 ⟨Nat.le_trans (newC_le _ _) (Nat.le_of_ble_eq_true rfl), (Nat.le_of_ble_eq_true rfl)⟩ (fun t_42 H locs hw hP hD hS => ?_)
    obtain ⟨hok, f_44⟩ := hw
    have hfr : frA [(2, 2), (2, 3), (2, 4), (2, 5), (2, 6), (2, 7), (3, 8), (4, 3), (4, 4), (4, 5), (4, 8), (4, 9), (4, 10), (5, 7), (5, 9), (5, 10), (5, 11), (5, 12), (5, 14), (5, 15), (5, 16), (5, 17), (5, 18), (5, 19), (7, 9), (7, 10), (18, 1), (18, 2), (18, 3), (19, 3), (20, 3), (23, 3), (23, 6), (23, 12), (24, 2), (24, 3), (24, 4), (24, 5), (24, 6), (24, 8)] [(4, 6), (5, 13), (24, 7), (24, 9)] [9, 10, 12, 15, 22, 26, 27, 28, 32, 33, 34, 35, 36, 37, 42, 43, 44, 45, 46, 47, 48, 49, 50] [13, 25, 41] t t_42 := frA_tr hfr f_44 rfl
    have h_45 : (t_42.1 7 4).toInt = (t_32.1 7 4).toInt := ti_eq (f_44.1 7 4 rfl)
    have h_46 : (t_42.1 7 5).toInt = (t_32.1 7 5).toInt := ti_eq (f_44.1 7 5 rfl)
    have h_47 : (t_42.1 7 6).toInt = (t_32.1 7 6).toInt := ti_eq (f_44.1 7 6 rfl)
    have h_48 : (t_42.1 18 2).toInt = (t_32.1 18 2).toInt := ti_eq (f_44.1 18 2 rfl)
    have h_49 : (0 : Int) ≤ (t_42.1 18 2).toInt ∧ (t_42.1 18 2).toInt ≤ 2700 := hok.1 18 2
    refine lv_iload_n C.1 C.2.1 dX11_layJob_151 rfl (lv_at hl 1 rfl) ?_
    refine lv_if_eq (tgt := 171) C.1 C.2.1 dX11_layJob_152 (by decide) (fun c_50 => ?_) (fun c_50 => ?_)
    · replace c_50 : r_33.toInt = 0 := i_eq c_50
      refine lv_aload_n C.1 C.2.1 dX11_layJob_171 rfl (lv_at hl 0 rfl) ?_
      refine k_get (v := .ref (ad 7)) C hP 0 rfl rfl inlX11 7 (by decide) m_2_18 rfl dX11_layJob_172 ?_
      refine lv_aload_n C.1 C.2.1 dX11_layJob_175 rfl (lv_at hl 0 rfl) ?_
      refine k_get (v := .ref (ad 5)) C hP 0 rfl rfl inlX11 5 (by decide) m_2_10 rfl dX11_layJob_176 ?_
      have h_51 : (-1073741824 : Int) ≤ (t_42.1 5 17).toInt ∧ (t_42.1 5 17).toInt ≤ 1073741823 := hok.1 5 17
      refine k_get (v := .int (t_42.1 5 17)) C hP 5 rfl rfl inlX0 17 (by decide) m_10_18 rfl dX11_layJob_179 ?_
      refine k_put (ws' := (WX d_16) K ad (uI t_42 7 9 (t_42.1 5 17))) (v := .int (t_42.1 5 17)) C hP hD hS 7 rfl rfl inlX3 tyX3_ok nmX3 9 (by decide) m_74_16 rfl rfl rfl rfl rfl dX11_layJob_182 (fun H locs hP hD hS => ?_)
      have hok : okX (uI t_42 7 9 (t_42.1 5 17)) := ⟨okI_I hok.1 7 9 (t_42.1 5 17) (show (-1073741824 : Int) ≤ ((t_42.1 5 17) : Int32).toInt ∧ ((t_42.1 5 17) : Int32).toInt ≤ 2147483647 from ⟨by omega, (i_rng _).2⟩), hok.2.1, trivial⟩
      have hfr : frA [(2, 2), (2, 3), (2, 4), (2, 5), (2, 6), (2, 7), (3, 8), (4, 3), (4, 4), (4, 5), (4, 8), (4, 9), (4, 10), (5, 7), (5, 9), (5, 10), (5, 11), (5, 12), (5, 14), (5, 15), (5, 16), (5, 17), (5, 18), (5, 19), (7, 9), (7, 10), (18, 1), (18, 2), (18, 3), (19, 3), (20, 3), (23, 3), (23, 6), (23, 12), (24, 2), (24, 3), (24, 4), (24, 5), (24, 6), (24, 8)] [(4, 6), (5, 13), (24, 7), (24, 9)] [9, 10, 12, 15, 22, 26, 27, 28, 32, 33, 34, 35, 36, 37, 42, 43, 44, 45, 46, 47, 48, 49, 50] [13, 25, 41] t (uI t_42 7 9 (t_42.1 5 17)) := frA_I hfr 7 9 _ rfl
      refine lv_aload_n C.1 C.2.1 dX11_layJob_185 rfl (lv_at hl 0 rfl) ?_
      refine g_DVv (As := []) (rest := []) C hP hD hS hA (T_X11_printSource l D K Z Y ad d_16 (uI t_42 7 9 (t_42.1 5 17)) hok hod ) hE hZ hX hle hdf (uwV m_76_6 m_76_7 m_76_8 m_1_2 m_76_9) (hdV 0 (by decide +kernel) rfl) ⟨Nat.le_of_ble_eq_true rfl, Nat.le_of_ble_eq_true rfl⟩ rfl rfl (ci := 10) (q0 := 0) rfl rfl rfl hl.1 (Nat.le_of_ble_eq_true rfl) dX11_layJob_186 ⟨Nat.le_of_ble_eq_true rfl, Nat.le_of_ble_eq_true rfl⟩ (fun t_52 d_54 H locs hw hP hD hS hln hle hdf => ?_)
      obtain ⟨hok, f_55, hod⟩ := hw
      have hfr : frA [(2, 2), (2, 3), (2, 4), (2, 5), (2, 6), (2, 7), (3, 8), (4, 3), (4, 4), (4, 5), (4, 8), (4, 9), (4, 10), (5, 7), (5, 9), (5, 10), (5, 11), (5, 12), (5, 14), (5, 15), (5, 16), (5, 17), (5, 18), (5, 19), (7, 9), (7, 10), (18, 1), (18, 2), (18, 3), (19, 3), (20, 3), (23, 3), (23, 6), (23, 12), (24, 2), (24, 3), (24, 4), (24, 5), (24, 6), (24, 8)] [(4, 6), (5, 13), (24, 7), (24, 9)] [9, 10, 12, 15, 22, 26, 27, 28, 32, 33, 34, 35, 36, 37, 42, 43, 44, 45, 46, 47, 48, 49, 50] [13, 25, 41] t t_52 := frA_tr hfr f_55 rfl
      have h_56 : (t_52.1 7 4).toInt = (t_42.1 7 4).toInt := ti_eq (f_55.1 7 4 rfl)
      have h_57 : (t_52.1 7 5).toInt = (t_42.1 7 5).toInt := ti_eq (f_55.1 7 5 rfl)
      have h_58 : (t_52.1 7 6).toInt = (t_42.1 7 6).toInt := ti_eq (f_55.1 7 6 rfl)
      have h_59 : (t_52.1 5 17).toInt = (t_42.1 5 17).toInt := ti_eq (f_55.1 5 17 rfl)
      have h_60 : (t_52.1 7 9).toInt = (t_42.1 5 17).toInt := ti_eq (f_55.1 7 9 rfl)
      have h_61 : (t_52.1 18 2).toInt = (t_42.1 18 2).toInt := ti_eq (f_55.1 18 2 rfl)
      have h_62 : (0 : Int) ≤ (t_52.1 18 2).toInt ∧ (t_52.1 18 2).toInt ≤ 2700 := hok.1 18 2
      refine lv_iconst (v := (-1)) C.1 C.2.1 dX11_layJob_189 (by decide) ?_
      exact g_Diret C hr hlocks hP hD hS rfl ⟨hok, hfr, hod, by decide, by decide, (show (t_52.1 18 2).toInt ≤ 1281 from by omega)⟩ hle hdf (Nat.le_of_ble_eq_true rfl) (Nat.le_of_ble_eq_true rfl) dX11_layJob_190
    · replace c_50 : ¬ r_33.toInt = 0 := i_ne c_50
      refine lv_aload_n C.1 C.2.1 dX11_layJob_155 rfl (lv_at hl 0 rfl) ?_
      refine k_get (v := .ref (ad 7)) C hP 0 rfl rfl inlX11 7 (by decide) m_2_18 rfl dX11_layJob_156 ?_
      refine lv_aload_n C.1 C.2.1 dX11_layJob_159 rfl (lv_at hl 0 rfl) ?_
      refine k_get (v := .ref (ad 2)) C hP 0 rfl rfl inlX11 2 (by decide) m_2_7 rfl dX11_layJob_160 ?_
      refine k_get (v := .int (t_42.1 2 5)) C hP 2 rfl rfl inlX9 5 (by decide) m_10_17 rfl dX11_layJob_163 ?_
      refine k_put (ws' := (WX d_16) K ad (uI t_42 7 10 (t_42.1 2 5))) (v := .int (t_42.1 2 5)) C hP hD hS 7 rfl rfl inlX3 tyX3_ok nmX3 10 (by decide) m_74_15 rfl rfl rfl rfl rfl dX11_layJob_166 (fun H locs hP hD hS => ?_)
      have hok : okX (uI t_42 7 10 (t_42.1 2 5)) := ⟨okI_I hok.1 7 10 (t_42.1 2 5) (show (-2147483648 : Int) ≤ ((t_42.1 2 5) : Int32).toInt ∧ ((t_42.1 2 5) : Int32).toInt ≤ 2147483647 from (i_rng _)), hok.2.1, trivial⟩
      have hfr : frA [(2, 2), (2, 3), (2, 4), (2, 5), (2, 6), (2, 7), (3, 8), (4, 3), (4, 4), (4, 5), (4, 8), (4, 9), (4, 10), (5, 7), (5, 9), (5, 10), (5, 11), (5, 12), (5, 14), (5, 15), (5, 16), (5, 17), (5, 18), (5, 19), (7, 9), (7, 10), (18, 1), (18, 2), (18, 3), (19, 3), (20, 3), (23, 3), (23, 6), (23, 12), (24, 2), (24, 3), (24, 4), (24, 5), (24, 6), (24, 8)] [(4, 6), (5, 13), (24, 7), (24, 9)] [9, 10, 12, 15, 22, 26, 27, 28, 32, 33, 34, 35, 36, 37, 42, 43, 44, 45, 46, 47, 48, 49, 50] [13, 25, 41] t (uI t_42 7 10 (t_42.1 2 5)) := frA_I hfr 7 10 _ rfl
      refine lv_iconst (v := 3) C.1 C.2.1 dX11_layJob_169 (by decide) ?_
      exact g_Diret C hr hlocks hP hD hS rfl ⟨hok, hfr, hod, by decide, by decide, (show (t_42.1 18 2).toInt ≤ 1281 from by omega)⟩ hle hdf (Nat.le_of_ble_eq_true rfl) (Nat.le_of_ble_eq_true rfl) dX11_layJob_170
  · replace c_21 : ¬ (t_14.1 7 4).toInt = 0 := i_ne c_21
    refine lv_aload_n C.1 C.2.1 dX11_layJob_36 rfl (lv_at hl 0 rfl) ?_
    refine k_get (v := .ref (ad 5)) C hP 0 rfl rfl inlX11 5 (by decide) m_2_10 rfl dX11_layJob_37 ?_
    refine lv_iconst (v := 0) C.1 C.2.1 dX11_layJob_40 (by decide) ?_
    refine k_put (ws' := (WX d_16) K ad (uI (uI t_14 5 19 0) 5 18 0)) (v := .int 0) C hP hD hS 5 rfl rfl inlX0 tyX0_ok nmX0 18 (by decide) m_43_6 rfl rfl rfl rfl rfl dX11_layJob_41 (fun H locs hP hD hS => ?_)
    have hok : okX (uI (uI t_14 5 19 0) 5 18 0) := ⟨okI_I hok.1 5 18 0 (show (0 : Int) ≤ (0 : Int32).toInt ∧ (0 : Int32).toInt ≤ 8 from ⟨by decide, by decide⟩), hok.2.1, trivial⟩
    have hfr : frA [(2, 2), (2, 3), (2, 4), (2, 5), (2, 6), (2, 7), (3, 8), (4, 3), (4, 4), (4, 5), (4, 8), (4, 9), (4, 10), (5, 7), (5, 9), (5, 10), (5, 11), (5, 12), (5, 14), (5, 15), (5, 16), (5, 17), (5, 18), (5, 19), (7, 9), (7, 10), (18, 1), (18, 2), (18, 3), (19, 3), (20, 3), (23, 3), (23, 6), (23, 12), (24, 2), (24, 3), (24, 4), (24, 5), (24, 6), (24, 8)] [(4, 6), (5, 13), (24, 7), (24, 9)] [9, 10, 12, 15, 22, 26, 27, 28, 32, 33, 34, 35, 36, 37, 42, 43, 44, 45, 46, 47, 48, 49, 50] [13, 25, 41] t (uI (uI t_14 5 19 0) 5 18 0) := frA_I hfr 5 18 _ rfl
    refine lv_aload_n C.1 C.2.1 dX11_layJob_44 rfl (lv_at hl 0 rfl) ?_
    refine k_get (v := .ref (ad 7)) C hP 0 rfl rfl inlX11 7 (by decide) m_2_18 rfl dX11_layJob_45 ?_
    refine lv_aload_n C.1 C.2.1 dX11_layJob_48 rfl (lv_at hl 0 rfl) ?_
    refine k_get (v := .ref (ad 7)) C hP 0 rfl rfl inlX11 7 (by decide) m_2_18 rfl dX11_layJob_49 ?_
    refine k_get (v := .int (t_14.1 7 4)) C hP 7 rfl rfl inlX3 4 (by decide) m_74_14 rfl dX11_layJob_52 ?_
    refine lv_iconst (v := 1) C.1 C.2.1 dX11_layJob_55 (by decide) ?_
    refine lv_icmp_ne (tgt := 80) C.1 C.2.1 dX11_layJob_56 (by decide) (fun c_63 => ?_) (fun c_63 => ?_)
    · replace c_63 : ¬ (t_14.1 7 4).toInt = 1 := i_ne c_63
      refine lv_aload_n C.1 C.2.1 dX11_layJob_80 rfl (lv_at hl 0 rfl) ?_
      refine k_get (v := .ref (ad 7)) C hP 0 rfl rfl inlX11 7 (by decide) m_2_18 rfl dX11_layJob_81 ?_
      refine lv_aload_n C.1 C.2.1 dX11_layJob_84 rfl (lv_at hl 0 rfl) ?_
      refine k_get (v := .ref (ad 4)) C hP 0 rfl rfl inlX11 4 (by decide) m_2_9 rfl dX11_layJob_85 ?_
      refine k_get (v := .ref (ad 10)) C hP 4 rfl rfl inlX2 0 (by decide) m_64_17 rfl dX11_layJob_88 ?_
      refine hz_Vi (As := [.ref (ad 10)]) (rest := [.ref (ad 7)]) C hP hD hS hA (T_X3_again l D K Z Y ad d_16 (uI (uI t_14 5 19 0) 5 18 0) hok hod ) hE hZ (uwV m_75_23 m_76_0 m_76_1 m_2_17 m_76_2) (hdV 1 (by decide +kernel) rfl) ⟨Nat.le_of_ble_eq_true rfl, Nat.le_of_ble_eq_true rfl⟩ rfl rfl (ci := 2) (q0 := 7) rfl rfl rfl hl.1 (Nat.le_of_ble_eq_true rfl) dX11_layJob_91 ⟨Nat.le_trans (newC_le _ _) (Nat.le_of_ble_eq_true rfl), (Nat.le_of_ble_eq_true rfl)⟩ (fun r_65 t_64 H locs hw hP hD hS => ?_)
      obtain ⟨hok, f_66, h_67, h_68⟩ := hw
      have hfr : frA [(2, 2), (2, 3), (2, 4), (2, 5), (2, 6), (2, 7), (3, 8), (4, 3), (4, 4), (4, 5), (4, 8), (4, 9), (4, 10), (5, 7), (5, 9), (5, 10), (5, 11), (5, 12), (5, 14), (5, 15), (5, 16), (5, 17), (5, 18), (5, 19), (7, 9), (7, 10), (18, 1), (18, 2), (18, 3), (19, 3), (20, 3), (23, 3), (23, 6), (23, 12), (24, 2), (24, 3), (24, 4), (24, 5), (24, 6), (24, 8)] [(4, 6), (5, 13), (24, 7), (24, 9)] [9, 10, 12, 15, 22, 26, 27, 28, 32, 33, 34, 35, 36, 37, 42, 43, 44, 45, 46, 47, 48, 49, 50] [13, 25, 41] t t_64 := frA_tr hfr f_66 rfl
      have h_69 : (t_64.1 5 19).toInt = 0 := by rw [show (t_64.1 5 19) = (0 : Int32) from f_66.1 5 19 rfl]; rfl
      have h_70 : (t_64.1 7 4).toInt = (t_14.1 7 4).toInt := ti_eq (f_66.1 7 4 rfl)
      have h_71 : (t_64.1 5 18).toInt = 0 := by rw [show (t_64.1 5 18) = (0 : Int32) from f_66.1 5 18 rfl]; rfl
      have h_72 : (t_64.1 18 2).toInt = (t_14.1 18 2).toInt := ti_eq (f_66.1 18 2 rfl)
      have h_73 : (0 : Int) ≤ (t_64.1 18 2).toInt ∧ (t_64.1 18 2).toInt ≤ 2700 := hok.1 18 2
      exact L_94 t_64 d_16 r_65 _ _ _ hok hfr hod hle hdf (show (0 : Int) ≤ ((t_64.1 5 18) : Int32).toInt ∧ ((t_64.1 5 18) : Int32).toInt ≤ 0 from ⟨by omega, by omega⟩) (show (0 : Int) ≤ ((t_64.1 5 19) : Int32).toInt ∧ ((t_64.1 5 19) : Int32).toInt ≤ 0 from ⟨by omega, by omega⟩) (show (1 : Int) ≤ ((t_64.1 7 4) : Int32).toInt ∧ ((t_64.1 7 4) : Int32).toInt ≤ 2 from ⟨by omega, by omega⟩) (show (t_64.1 18 2).toInt ≤ 1281 from by omega) hP hD hS (lv_sub hl [0] rfl)
    · replace c_63 : (t_14.1 7 4).toInt = 1 := i_eq c_63
      refine lv_aload_n C.1 C.2.1 dX11_layJob_59 rfl (lv_at hl 0 rfl) ?_
      refine k_get (v := .ref (ad 7)) C hP 0 rfl rfl inlX11 7 (by decide) m_2_18 rfl dX11_layJob_60 ?_
      refine lv_aload_n C.1 C.2.1 dX11_layJob_63 rfl (lv_at hl 0 rfl) ?_
      refine k_get (v := .ref (ad 2)) C hP 0 rfl rfl inlX11 2 (by decide) m_2_7 rfl dX11_layJob_64 ?_
      refine lv_aload_n C.1 C.2.1 dX11_layJob_67 rfl (lv_at hl 0 rfl) ?_
      refine k_get (v := .ref (ad 4)) C hP 0 rfl rfl inlX11 4 (by decide) m_2_9 rfl dX11_layJob_68 ?_
      refine k_get (v := .ref (ad 10)) C hP 4 rfl rfl inlX2 0 (by decide) m_64_17 rfl dX11_layJob_71 ?_
      refine hz_Vi (As := [.ref (ad 2), .ref (ad 10)]) (rest := [.ref (ad 7)]) C hP hD hS hA (T_X3_load l D K Z Y ad d_16 (uI (uI t_14 5 19 0) 5 18 0) hok ) hE hZ (uwV m_75_9 m_75_10 m_75_11 m_2_17 m_75_12) (hdV 2 (by decide +kernel) rfl) ⟨Nat.le_of_ble_eq_true rfl, Nat.le_of_ble_eq_true rfl⟩ rfl rfl (ci := 2) (q0 := 7) rfl rfl rfl hl.1 (Nat.le_of_ble_eq_true rfl) dX11_layJob_74 ⟨Nat.le_trans (newC_le _ _) (Nat.le_of_ble_eq_true rfl), (Nat.le_of_ble_eq_true rfl)⟩ (fun r_75 t_74 H locs hw hP hD hS => ?_)
      obtain ⟨hok, f_76, h_77, h_78⟩ := hw
      have hfr : frA [(2, 2), (2, 3), (2, 4), (2, 5), (2, 6), (2, 7), (3, 8), (4, 3), (4, 4), (4, 5), (4, 8), (4, 9), (4, 10), (5, 7), (5, 9), (5, 10), (5, 11), (5, 12), (5, 14), (5, 15), (5, 16), (5, 17), (5, 18), (5, 19), (7, 9), (7, 10), (18, 1), (18, 2), (18, 3), (19, 3), (20, 3), (23, 3), (23, 6), (23, 12), (24, 2), (24, 3), (24, 4), (24, 5), (24, 6), (24, 8)] [(4, 6), (5, 13), (24, 7), (24, 9)] [9, 10, 12, 15, 22, 26, 27, 28, 32, 33, 34, 35, 36, 37, 42, 43, 44, 45, 46, 47, 48, 49, 50] [13, 25, 41] t t_74 := frA_tr hfr f_76 rfl
      have h_79 : (t_74.1 5 19).toInt = 0 := by rw [show (t_74.1 5 19) = (0 : Int32) from f_76.1 5 19 rfl]; rfl
      have h_80 : (t_74.1 7 4).toInt = (t_14.1 7 4).toInt := ti_eq (f_76.1 7 4 rfl)
      have h_81 : (t_74.1 5 18).toInt = 0 := by rw [show (t_74.1 5 18) = (0 : Int32) from f_76.1 5 18 rfl]; rfl
      have h_82 : (t_74.1 18 2).toInt = (t_14.1 18 2).toInt := ti_eq (f_76.1 18 2 rfl)
      have h_83 : (0 : Int) ≤ (t_74.1 18 2).toInt ∧ (t_74.1 18 2).toInt ≤ 2700 := hok.1 18 2
      refine lv_goto (tgt := 94) C.1 C.2.1 dX11_layJob_77 (by decide) ?_
      exact L_94 t_74 d_16 r_75 _ _ _ hok hfr hod hle hdf (show (0 : Int) ≤ ((t_74.1 5 18) : Int32).toInt ∧ ((t_74.1 5 18) : Int32).toInt ≤ 0 from ⟨by omega, by omega⟩) (show (0 : Int) ≤ ((t_74.1 5 19) : Int32).toInt ∧ ((t_74.1 5 19) : Int32).toInt ≤ 0 from ⟨by omega, by omega⟩) (show (1 : Int) ≤ ((t_74.1 7 4) : Int32).toInt ∧ ((t_74.1 7 4) : Int32).toInt ≤ 2 from ⟨by omega, by omega⟩) (show (t_74.1 18 2).toInt ≤ 1281 from by omega) hP hD hS (lv_sub hl [0] rfl)

theorem dX10_begin_0 : decode cX10_begin 0 = .ok (.iload_n 2, 1) := by decide +kernel
theorem dX10_begin_1 : decode cX10_begin 1 = .ok (.ifCond .lt 9, 3) := by decide +kernel
theorem dX10_begin_10 : decode cX10_begin 10 = .ok (.return_, 1) := by decide +kernel
theorem dX10_begin_101 : decode cX10_begin 101 = .ok (.iload_n 2, 1) := by decide +kernel
theorem dX10_begin_102 : decode cX10_begin 102 = .ok (.invokestatic 114, 3) := by decide +kernel
theorem dX10_begin_105 : decode cX10_begin 105 = .ok (.i2l, 1) := by decide +kernel
theorem dX10_begin_106 : decode cX10_begin 106 = .ok (.ladd, 1) := by decide +kernel
theorem dX10_begin_107 : decode cX10_begin 107 = .ok (.lastore, 1) := by decide +kernel
theorem dX10_begin_108 : decode cX10_begin 108 = .ok (.return_, 1) := by decide +kernel
theorem dX10_begin_11 : decode cX10_begin 11 = .ok (.aload_n 0, 1) := by decide +kernel
theorem dX10_begin_12 : decode cX10_begin 12 = .ok (.lload 5, 2) := by decide +kernel
theorem dX10_begin_14 : decode cX10_begin 14 = .ok (.invokevirtual 87, 3) := by decide +kernel
theorem dX10_begin_17 : decode cX10_begin 17 = .ok (.iload_n 1, 1) := by decide +kernel
theorem dX10_begin_18 : decode cX10_begin 18 = .ok (.bipush 35, 2) := by decide +kernel
theorem dX10_begin_20 : decode cX10_begin 20 = .ok (.if_icmp .ne 12, 3) := by decide +kernel
theorem dX10_begin_23 : decode cX10_begin 23 = .ok (.aload_n 0, 1) := by decide +kernel
theorem dX10_begin_24 : decode cX10_begin 24 = .ok (.iload_n 2, 1) := by decide +kernel
theorem dX10_begin_25 : decode cX10_begin 25 = .ok (.iload_n 3, 1) := by decide +kernel
theorem dX10_begin_26 : decode cX10_begin 26 = .ok (.invokevirtual 91, 3) := by decide +kernel
theorem dX10_begin_29 : decode cX10_begin 29 = .ok (.goto 65, 3) := by decide +kernel
theorem dX10_begin_32 : decode cX10_begin 32 = .ok (.iload_n 1, 1) := by decide +kernel
theorem dX10_begin_33 : decode cX10_begin 33 = .ok (.bipush 36, 2) := by decide +kernel
theorem dX10_begin_35 : decode cX10_begin 35 = .ok (.if_icmp .ne 28, 3) := by decide +kernel
theorem dX10_begin_38 : decode cX10_begin 38 = .ok (.iload_n 2, 1) := by decide +kernel
theorem dX10_begin_39 : decode cX10_begin 39 = .ok (.bipush 16, 2) := by decide +kernel
theorem dX10_begin_4 : decode cX10_begin 4 = .ok (.iload_n 2, 1) := by decide +kernel
theorem dX10_begin_41 : decode cX10_begin 41 = .ok (.if_icmp .gt 22, 3) := by decide +kernel
theorem dX10_begin_44 : decode cX10_begin 44 = .ok (.aload_n 0, 1) := by decide +kernel
theorem dX10_begin_45 : decode cX10_begin 45 = .ok (.iload_n 2, 1) := by decide +kernel
theorem dX10_begin_46 : decode cX10_begin 46 = .ok (.iload_n 3, 1) := by decide +kernel
theorem dX10_begin_47 : decode cX10_begin 47 = .ok (.iload 4, 2) := by decide +kernel
theorem dX10_begin_49 : decode cX10_begin 49 = .ok (.invokevirtual 95, 3) := by decide +kernel
theorem dX10_begin_5 : decode cX10_begin 5 = .ok (.bipush 20, 2) := by decide +kernel
theorem dX10_begin_52 : decode cX10_begin 52 = .ok (.aload_n 0, 1) := by decide +kernel
theorem dX10_begin_53 : decode cX10_begin 53 = .ok (.getfield 24, 3) := by decide +kernel
theorem dX10_begin_56 : decode cX10_begin 56 = .ok (.iload_n 2, 1) := by decide +kernel
theorem dX10_begin_57 : decode cX10_begin 57 = .ok (.lload 5, 2) := by decide +kernel
theorem dX10_begin_59 : decode cX10_begin 59 = .ok (.lastore, 1) := by decide +kernel
theorem dX10_begin_60 : decode cX10_begin 60 = .ok (.goto 34, 3) := by decide +kernel
theorem dX10_begin_63 : decode cX10_begin 63 = .ok (.iload_n 2, 1) := by decide +kernel
theorem dX10_begin_64 : decode cX10_begin 64 = .ok (.bipush 16, 2) := by decide +kernel
theorem dX10_begin_66 : decode cX10_begin 66 = .ok (.if_icmp .ge 14, 3) := by decide +kernel
theorem dX10_begin_69 : decode cX10_begin 69 = .ok (.aload_n 0, 1) := by decide +kernel
theorem dX10_begin_7 : decode cX10_begin 7 = .ok (.if_icmp .lt 4, 3) := by decide +kernel
theorem dX10_begin_70 : decode cX10_begin 70 = .ok (.iload_n 2, 1) := by decide +kernel
theorem dX10_begin_71 : decode cX10_begin 71 = .ok (.iload_n 3, 1) := by decide +kernel
theorem dX10_begin_72 : decode cX10_begin 72 = .ok (.iload 4, 2) := by decide +kernel
theorem dX10_begin_74 : decode cX10_begin 74 = .ok (.invokevirtual 99, 3) := by decide +kernel
theorem dX10_begin_77 : decode cX10_begin 77 = .ok (.goto 17, 3) := by decide +kernel
theorem dX10_begin_80 : decode cX10_begin 80 = .ok (.aload_n 0, 1) := by decide +kernel
theorem dX10_begin_81 : decode cX10_begin 81 = .ok (.aload_n 0, 1) := by decide +kernel
theorem dX10_begin_82 : decode cX10_begin 82 = .ok (.iload_n 2, 1) := by decide +kernel
theorem dX10_begin_83 : decode cX10_begin 83 = .ok (.invokevirtual 102, 3) := by decide +kernel
theorem dX10_begin_86 : decode cX10_begin 86 = .ok (.iload_n 3, 1) := by decide +kernel
theorem dX10_begin_87 : decode cX10_begin 87 = .ok (.iload_n 2, 1) := by decide +kernel
theorem dX10_begin_88 : decode cX10_begin 88 = .ok (.invokestatic 106, 3) := by decide +kernel
theorem dX10_begin_91 : decode cX10_begin 91 = .ok (.invokevirtual 110, 3) := by decide +kernel
theorem dX10_begin_94 : decode cX10_begin 94 = .ok (.aload_n 0, 1) := by decide +kernel
theorem dX10_begin_95 : decode cX10_begin 95 = .ok (.getfield 20, 3) := by decide +kernel
theorem dX10_begin_98 : decode cX10_begin 98 = .ok (.iload_n 2, 1) := by decide +kernel
theorem dX10_begin_99 : decode cX10_begin 99 = .ok (.lload 5, 2) := by decide +kernel
set_option maxHeartbeats 4000000 in
set_option maxRecDepth 100000 in
theorem T_X10_begin (l : Launch) (D : va_G) (K : Nat → ClassId) (Z Y : Nat → Nat) (ad : Nat → Nat) (d : dSt) (t : tSt) (hok : okX t) (hod : okD d) (x1 : Int32) (hx1 : (35 : Int) ≤ x1.toInt ∧ x1.toInt ≤ 37) (x2 : Int32) (hx2 : (0 : Int) ≤ x2.toInt ∧ x2.toInt ≤ 63) (x3 : Int32) (hx3 : (-2147483648 : Int) ≤ x3.toInt ∧ x3.toInt ≤ 1073745919) (x4 : Int32) (hx4 : (-1073741824 : Int) ≤ x4.toInt ∧ x4.toInt ≤ 1073741823) (x5 : Int64) : dMet l yX10_begin cX10_begin 7 none (rmD 8 9000 2520000) D K Z Y [.ref (ad 3), .int x1, .int x2, .int x3, .int x4, .long x5] ((WX d) K ad t) (QDV D K ad d (fun (u : tSt) (dd : dSt) => okX u ∧ frA [(3, 8), (18, 1), (18, 3), (19, 3), (20, 3), (21, 3)] [] [10, 11, 12, 15, 16, 17, 32, 33, 34, 35, 36, 37, 38, 39, 40] [13, 14] t u ∧ okD dd)) 9000 2520000 := by
  refine d_met d RX10 ⟨rfl, by decide +kernel⟩ (Nat.le_of_ble_eq_true rfl) ?_
  intro p e s m below meth c A ls C hE hZ hX hr hlocks hA hP hD hS hl
  have hl : lv_has ls 7 [(0, .ref (ad 3)), (1, .int x1), (2, .int x2), (3, .int x3), (4, .int x4), (5, .long x5)] := hl
  have hle : dLe d d := dLe_rf
  have hdf : dFr s.heap.size d d := dFr_rf
  have hokt := hok
  have hfr : frA [(3, 8), (18, 1), (18, 3), (19, 3), (20, 3), (21, 3)] [] [10, 11, 12, 15, 16, 17, 32, 33, 34, 35, 36, 37, 38, 39, 40] [13, 14] t t := frA_rf
  have L_94 : ∀ (t1 : tSt) (d1 : dSt) (H : Heap) (locs : List Loc) (ls : Array Slot), okX t1 → frA [(3, 8), (18, 1), (18, 3), (19, 3), (20, 3), (21, 3)] [] [10, 11, 12, 15, 16, 17, 32, 33, 34, 35, 36, 37, 38, 39, 40] [13, 14] t t1 → okD d1 → dLe d d1 → dFr s.heap.size d d1 → (0 : Int) ≤ x2.toInt ∧ x2.toInt ≤ 19 → va_P D vwCl ((WX d1) K ad t1) H → va_D A ((WX d1) K ad t1) → va_S A s.heap H locs → lv_has ls 7 [(0, .ref (ad 3)), (1, .int x1), (2, .int x2), (3, .int x3), (4, .int x4), (5, .long x5)] → W p l e (rmD 8 9000 2520000) s m [.ref (ad 3), .int x1, .int x2, .int x3, .int x4, .long x5].toArray below meth c H locs (newC d d1) 246800 (MQ below (QDV D K ad d (fun (u : tSt) (dd : dSt) => okX u ∧ frA [(3, 8), (18, 1), (18, 3), (19, 3), (20, 3), (21, 3)] [] [10, 11, 12, 15, 16, 17, 32, 33, 34, 35, 36, 37, 38, 39, 40] [13, 14] t u ∧ okD dd) s.heap.size A) [.ref (ad 3), .int x1, .int x2, .int x3, .int x4, .long x5].toArray s 9000 2520000 A) (F0 m 94 ls []) := by
    intro t1 d1 H locs ls hok hfr hod hle hdf hx94_2 hP hD hS hl
    refine lv_aload_n C.1 C.2.1 dX10_begin_94 rfl (lv_at hl 0 rfl) ?_
    refine k_get (v := .ref (ad 13)) C hP 3 rfl rfl inlX10 3 (by decide) m_3_8 rfl dX10_begin_95 ?_
    refine lv_iload_n C.1 C.2.1 dX10_begin_98 rfl (lv_at hl 2 rfl) ?_
    refine lv_lload C.1 C.2.1 dX10_begin_99 (lv_at hl 5 rfl) ?_
    refine lv_iload_n C.1 C.2.1 dX10_begin_101 rfl (lv_at hl 2 rfl) ?_
    refine hz_Si (As := [.int x2]) (rest := [.long x5, .int x2, .ref (ad 13)]) C hP hD hS hA (T_X10_busyFor l D K Z Y ad d1 t1 hok (x2) (show (0 : Int) ≤ (x2 : Int32).toInt ∧ (x2 : Int32).toInt ≤ 19 from ⟨by omega, by omega⟩)) hE hZ (uwS m_54_7 m_54_8 m_1_20 m_54_9) (hdS 1 (by decide +kernel) rfl) ⟨Nat.le_of_ble_eq_true rfl, Nat.le_of_ble_eq_true rfl⟩ rfl rfl rfl hl.1 (Nat.le_of_ble_eq_true rfl) dX10_begin_102 ⟨Nat.le_trans (newC_le _ _) (Nat.le_of_ble_eq_true rfl), (Nat.le_of_ble_eq_true rfl)⟩ (fun r_2 t_1 H locs hw hP hD hS => ?_)
    obtain ⟨h_4, h_5⟩ := hw
    obtain ⟨v_6, e_7⟩ : ∃ z, z = (r_2 : Int32).toInt64 := ⟨_, rfl⟩
    have h_8 : v_6.toInt = r_2.toInt := by rw [e_7]; exact Jvm.Kit.i64_of_i32 _
    refine lv_i2l (v := v_6) C.1 C.2.1 dX10_begin_105 e_7.symm ?_
    obtain ⟨v_9, e_10⟩ : ∃ z, z = (x5 : Int64) + (v_6 : Int64) := ⟨_, rfl⟩
    refine k_ladd (v := v_9) C e_10.symm dX10_begin_106 ?_
    refine k_lst (ws' := (WX d1) K ad (uG t1 13 (x2 : Int32).toNatClampNeg v_9)) (x' := v_9) C hP hD hS 13 rfl (vp_in_iff.mpr ⟨by omega, by omega⟩) rfl rfl rfl dX10_begin_107 (fun H locs hP hD hS => ?_)
    have hok : okX (uG t1 13 (x2 : Int32).toNatClampNeg v_9) := ⟨hok.1, hok.2.1, trivial⟩
    have hfr : frA [(3, 8), (18, 1), (18, 3), (19, 3), (20, 3), (21, 3)] [] [10, 11, 12, 15, 16, 17, 32, 33, 34, 35, 36, 37, 38, 39, 40] [13, 14] t (uG t1 13 (x2 : Int32).toNatClampNeg v_9) := frA_G hfr 13 _ _ rfl
    exact g_Dvret C hr hlocks hP hD hS ⟨hok, hfr, hod⟩ hle hdf (Nat.le_of_ble_eq_true rfl) (Nat.le_of_ble_eq_true rfl) dX10_begin_108
  have L_63 : ∀ (t1 : tSt) (d1 : dSt) (H : Heap) (locs : List Loc) (ls : Array Slot), okX t1 → frA [(3, 8), (18, 1), (18, 3), (19, 3), (20, 3), (21, 3)] [] [10, 11, 12, 15, 16, 17, 32, 33, 34, 35, 36, 37, 38, 39, 40] [13, 14] t t1 → okD d1 → dLe d d1 → dFr s.heap.size d d1 → (36 : Int) ≤ x1.toInt ∧ x1.toInt ≤ 37 → (0 : Int) ≤ x2.toInt ∧ x2.toInt ≤ 19 → va_P D vwCl ((WX d1) K ad t1) H → va_D A ((WX d1) K ad t1) → va_S A s.heap H locs → lv_has ls 7 [(0, .ref (ad 3)), (1, .int x1), (2, .int x2), (3, .int x3), (4, .int x4), (5, .long x5)] → W p l e (rmD 8 9000 2520000) s m [.ref (ad 3), .int x1, .int x2, .int x3, .int x4, .long x5].toArray below meth c H locs (newC d d1) 246800 (MQ below (QDV D K ad d (fun (u : tSt) (dd : dSt) => okX u ∧ frA [(3, 8), (18, 1), (18, 3), (19, 3), (20, 3), (21, 3)] [] [10, 11, 12, 15, 16, 17, 32, 33, 34, 35, 36, 37, 38, 39, 40] [13, 14] t u ∧ okD dd) s.heap.size A) [.ref (ad 3), .int x1, .int x2, .int x3, .int x4, .long x5].toArray s 9000 2520000 A) (F0 m 63 ls []) := by
    intro t1 d1 H locs ls hok hfr hod hle hdf hx63_1 hx63_2 hP hD hS hl
    refine lv_iload_n C.1 C.2.1 dX10_begin_63 rfl (lv_at hl 2 rfl) ?_
    refine lv_bipush (v := 16) C.1 C.2.1 dX10_begin_64 (by decide) ?_
    refine lv_icmp_ge (tgt := 80) C.1 C.2.1 dX10_begin_66 (by decide) (fun c_11 => ?_) (fun c_11 => ?_)
    · replace c_11 : 16 ≤ x2.toInt := i_le c_11
      refine lv_aload_n C.1 C.2.1 dX10_begin_80 rfl (lv_at hl 0 rfl) ?_
      refine lv_aload_n C.1 C.2.1 dX10_begin_81 rfl (lv_at hl 0 rfl) ?_
      refine lv_iload_n C.1 C.2.1 dX10_begin_82 rfl (lv_at hl 2 rfl) ?_
      refine hz_Vr (As := [.int x2]) (rest := [.ref (ad 3)]) C hP hD hS hA (T_X10_paper l D K Z Y ad d1 t1 hok (x2) (show (16 : Int) ≤ (x2 : Int32).toInt ∧ (x2 : Int32).toInt ≤ 19 from ⟨by omega, by omega⟩)) hE hZ (uwV m_53_21 m_53_22 m_53_23 m_1_20 m_54_0) (hdV 1 (by decide +kernel) rfl) ⟨Nat.le_of_ble_eq_true rfl, Nat.le_of_ble_eq_true rfl⟩ rfl rfl (ci := 9) (q0 := 3) rfl rfl rfl hl.1 (Nat.le_of_ble_eq_true rfl) dX10_begin_83 ⟨Nat.le_trans (newC_le _ _) (Nat.le_of_ble_eq_true rfl), (Nat.le_of_ble_eq_true rfl)⟩ (fun t_12 H locs hw hP hD hS => ?_)
      rcases hw with rfl | rfl | rfl
      · refine lv_iload_n C.1 C.2.1 dX10_begin_86 rfl (lv_at hl 3 rfl) ?_
        refine lv_iload_n C.1 C.2.1 dX10_begin_87 rfl (lv_at hl 2 rfl) ?_
        refine hz_Si (As := [.int x2]) (rest := [.int x3, .ref (ad 19), .ref (ad 3)]) C hP hD hS hA (T_X10_wordsOf l D K Z Y ad d1 t1 hok (x2) (show (0 : Int) ≤ (x2 : Int32).toInt ∧ (x2 : Int32).toInt ≤ 63 from ⟨by omega, by omega⟩)) hE hZ (uwS m_47_0 m_47_1 m_1_20 m_47_2) (hdS 1 (by decide +kernel) rfl) ⟨Nat.le_of_ble_eq_true rfl, Nat.le_of_ble_eq_true rfl⟩ rfl rfl rfl hl.1 (Nat.le_of_ble_eq_true rfl) dX10_begin_88 ⟨Nat.le_trans (newC_le _ _) (Nat.le_of_ble_eq_true rfl), (Nat.le_of_ble_eq_true rfl)⟩ (fun r_16 t_15 H locs hw hP hD hS => ?_)
        obtain ⟨h_18, h_19⟩ := hw
        refine g_DVv (As := [.ref (ad 19), .int x3, .int r_16]) (rest := []) C hP hD hS hA (T_X10_writeLine l D K Z Y ad d1 t1 hok hod (x3) (show (-2147483648 : Int) ≤ (x3 : Int32).toInt ∧ (x3 : Int32).toInt ≤ 1073745919 from ⟨(i_rng _).1, by omega⟩) (r_16) (show (1 : Int) ≤ (r_16 : Int32).toInt ∧ (r_16 : Int32).toInt ≤ 100 from ⟨by omega, by omega⟩)) hE hZ hX hle hdf (uwV m_54_1 m_54_2 m_54_3 m_1_20 m_54_4) (hdV 3 (by decide +kernel) rfl) ⟨Nat.le_of_ble_eq_true rfl, Nat.le_of_ble_eq_true rfl⟩ rfl rfl (ci := 9) (q0 := 3) rfl rfl rfl hl.1 (Nat.le_of_ble_eq_true rfl) dX10_begin_91 ⟨Nat.le_of_ble_eq_true rfl, Nat.le_of_ble_eq_true rfl⟩ (fun t_20 d_22 H locs hw hP hD hS hln hle hdf => ?_)
        obtain ⟨hok, f_23, hod⟩ := hw
        have hfr : frA [(3, 8), (18, 1), (18, 3), (19, 3), (20, 3), (21, 3)] [] [10, 11, 12, 15, 16, 17, 32, 33, 34, 35, 36, 37, 38, 39, 40] [13, 14] t t_20 := frA_tr hfr f_23 rfl
        exact L_94 t_20 d_22 _ _ _ hok hfr hod hle hdf ⟨by omega, by omega⟩ hP hD hS (lv_sub hl [0, 1, 2, 3, 4, 5] rfl)
      · refine lv_iload_n C.1 C.2.1 dX10_begin_86 rfl (lv_at hl 3 rfl) ?_
        refine lv_iload_n C.1 C.2.1 dX10_begin_87 rfl (lv_at hl 2 rfl) ?_
        refine hz_Si (As := [.int x2]) (rest := [.int x3, .ref (ad 20), .ref (ad 3)]) C hP hD hS hA (T_X10_wordsOf l D K Z Y ad d1 t1 hok (x2) (show (0 : Int) ≤ (x2 : Int32).toInt ∧ (x2 : Int32).toInt ≤ 63 from ⟨by omega, by omega⟩)) hE hZ (uwS m_47_0 m_47_1 m_1_20 m_47_2) (hdS 1 (by decide +kernel) rfl) ⟨Nat.le_of_ble_eq_true rfl, Nat.le_of_ble_eq_true rfl⟩ rfl rfl rfl hl.1 (Nat.le_of_ble_eq_true rfl) dX10_begin_88 ⟨Nat.le_trans (newC_le _ _) (Nat.le_of_ble_eq_true rfl), (Nat.le_of_ble_eq_true rfl)⟩ (fun r_25 t_24 H locs hw hP hD hS => ?_)
        obtain ⟨h_27, h_28⟩ := hw
        refine g_DVv (As := [.ref (ad 20), .int x3, .int r_25]) (rest := []) C hP hD hS hA (T_X10_writeLine_1 l D K Z Y ad d1 t1 hok hod (x3) (show (-2147483648 : Int) ≤ (x3 : Int32).toInt ∧ (x3 : Int32).toInt ≤ 1073745919 from ⟨(i_rng _).1, by omega⟩) (r_25) (show (1 : Int) ≤ (r_25 : Int32).toInt ∧ (r_25 : Int32).toInt ≤ 100 from ⟨by omega, by omega⟩)) hE hZ hX hle hdf (uwV m_54_1 m_54_2 m_54_3 m_1_20 m_54_4) (hdV 3 (by decide +kernel) rfl) ⟨Nat.le_of_ble_eq_true rfl, Nat.le_of_ble_eq_true rfl⟩ rfl rfl (ci := 9) (q0 := 3) rfl rfl rfl hl.1 (Nat.le_of_ble_eq_true rfl) dX10_begin_91 ⟨Nat.le_of_ble_eq_true rfl, Nat.le_of_ble_eq_true rfl⟩ (fun t_29 d_31 H locs hw hP hD hS hln hle hdf => ?_)
        obtain ⟨hok, f_32, hod⟩ := hw
        have hfr : frA [(3, 8), (18, 1), (18, 3), (19, 3), (20, 3), (21, 3)] [] [10, 11, 12, 15, 16, 17, 32, 33, 34, 35, 36, 37, 38, 39, 40] [13, 14] t t_29 := frA_tr hfr f_32 rfl
        exact L_94 t_29 d_31 _ _ _ hok hfr hod hle hdf ⟨by omega, by omega⟩ hP hD hS (lv_sub hl [0, 1, 2, 3, 4, 5] rfl)
      · refine lv_iload_n C.1 C.2.1 dX10_begin_86 rfl (lv_at hl 3 rfl) ?_
        refine lv_iload_n C.1 C.2.1 dX10_begin_87 rfl (lv_at hl 2 rfl) ?_
        refine hz_Si (As := [.int x2]) (rest := [.int x3, .ref (ad 21), .ref (ad 3)]) C hP hD hS hA (T_X10_wordsOf l D K Z Y ad d1 t1 hok (x2) (show (0 : Int) ≤ (x2 : Int32).toInt ∧ (x2 : Int32).toInt ≤ 63 from ⟨by omega, by omega⟩)) hE hZ (uwS m_47_0 m_47_1 m_1_20 m_47_2) (hdS 1 (by decide +kernel) rfl) ⟨Nat.le_of_ble_eq_true rfl, Nat.le_of_ble_eq_true rfl⟩ rfl rfl rfl hl.1 (Nat.le_of_ble_eq_true rfl) dX10_begin_88 ⟨Nat.le_trans (newC_le _ _) (Nat.le_of_ble_eq_true rfl), (Nat.le_of_ble_eq_true rfl)⟩ (fun r_34 t_33 H locs hw hP hD hS => ?_)
        obtain ⟨h_36, h_37⟩ := hw
        refine g_DVv (As := [.ref (ad 21), .int x3, .int r_34]) (rest := []) C hP hD hS hA (T_X10_writeLine_2 l D K Z Y ad d1 t1 hok hod (x3) (show (-2147483648 : Int) ≤ (x3 : Int32).toInt ∧ (x3 : Int32).toInt ≤ 1073745919 from ⟨(i_rng _).1, by omega⟩) (r_34) (show (1 : Int) ≤ (r_34 : Int32).toInt ∧ (r_34 : Int32).toInt ≤ 100 from ⟨by omega, by omega⟩)) hE hZ hX hle hdf (uwV m_54_1 m_54_2 m_54_3 m_1_20 m_54_4) (hdV 3 (by decide +kernel) rfl) ⟨Nat.le_of_ble_eq_true rfl, Nat.le_of_ble_eq_true rfl⟩ rfl rfl (ci := 9) (q0 := 3) rfl rfl rfl hl.1 (Nat.le_of_ble_eq_true rfl) dX10_begin_91 ⟨Nat.le_of_ble_eq_true rfl, Nat.le_of_ble_eq_true rfl⟩ (fun t_38 d_40 H locs hw hP hD hS hln hle hdf => ?_)
        obtain ⟨hok, f_41, hod⟩ := hw
        have hfr : frA [(3, 8), (18, 1), (18, 3), (19, 3), (20, 3), (21, 3)] [] [10, 11, 12, 15, 16, 17, 32, 33, 34, 35, 36, 37, 38, 39, 40] [13, 14] t t_38 := frA_tr hfr f_41 rfl
        exact L_94 t_38 d_40 _ _ _ hok hfr hod hle hdf ⟨by omega, by omega⟩ hP hD hS (lv_sub hl [0, 1, 2, 3, 4, 5] rfl)
    · replace c_11 : x2.toInt < 16 := i_nle c_11
      refine lv_aload_n C.1 C.2.1 dX10_begin_69 rfl (lv_at hl 0 rfl) ?_
      refine lv_iload_n C.1 C.2.1 dX10_begin_70 rfl (lv_at hl 2 rfl) ?_
      refine lv_iload_n C.1 C.2.1 dX10_begin_71 rfl (lv_at hl 3 rfl) ?_
      refine lv_iload C.1 C.2.1 dX10_begin_72 (lv_at hl 4 rfl) ?_
      refine g_DVv (As := [.int x2, .int x3, .int x4]) (rest := []) C hP hD hS hA (T_X10_writeBlock l D K Z Y ad d1 t1 hok hod (x2) (show (0 : Int) ≤ (x2 : Int32).toInt ∧ (x2 : Int32).toInt ≤ 15 from ⟨by omega, by omega⟩) (x3) (show (-2147483648 : Int) ≤ (x3 : Int32).toInt ∧ (x3 : Int32).toInt ≤ 1073745919 from ⟨(i_rng _).1, by omega⟩) (x4) (show (-1073741824 : Int) ≤ (x4 : Int32).toInt ∧ (x4 : Int32).toInt ≤ 1073741823 from ⟨by omega, by omega⟩)) hE hZ hX hle hdf (uwV m_53_9 m_53_10 m_53_11 m_1_20 m_53_12) (hdV 3 (by decide +kernel) rfl) ⟨Nat.le_of_ble_eq_true rfl, Nat.le_of_ble_eq_true rfl⟩ rfl rfl (ci := 9) (q0 := 3) rfl rfl rfl hl.1 (Nat.le_of_ble_eq_true rfl) dX10_begin_74 ⟨Nat.le_of_ble_eq_true rfl, Nat.le_of_ble_eq_true rfl⟩ (fun t_42 d_44 H locs hw hP hD hS hln hle hdf => ?_)
      obtain ⟨hok, f_45, hod⟩ := hw
      have hfr : frA [(3, 8), (18, 1), (18, 3), (19, 3), (20, 3), (21, 3)] [] [10, 11, 12, 15, 16, 17, 32, 33, 34, 35, 36, 37, 38, 39, 40] [13, 14] t t_42 := frA_tr hfr f_45 rfl
      refine lv_goto (tgt := 94) C.1 C.2.1 dX10_begin_77 (by decide) ?_
      exact L_94 t_42 d_44 _ _ _ hok hfr hod hle hdf ⟨by omega, by omega⟩ hP hD hS (lv_sub hl [0, 1, 2, 3, 4, 5] rfl)
  refine lv_iload_n C.1 C.2.1 dX10_begin_0 rfl (lv_at hl 2 rfl) ?_
  refine lv_if_lt (tgt := 10) C.1 C.2.1 dX10_begin_1 (by decide) (fun c_46 => False.elim (by have c_46 : x2.toInt < 0 := i_lt c_46; omega)) (fun c_46 => ?_)
  replace c_46 : 0 ≤ x2.toInt := i_nlt c_46
  refine lv_iload_n C.1 C.2.1 dX10_begin_4 rfl (lv_at hl 2 rfl) ?_
  refine lv_bipush (v := 20) C.1 C.2.1 dX10_begin_5 (by decide) ?_
  refine lv_icmp_lt (tgt := 11) C.1 C.2.1 dX10_begin_7 (by decide) (fun c_47 => ?_) (fun c_47 => ?_)
  · replace c_47 : x2.toInt < 20 := i_lt c_47
    refine lv_aload_n C.1 C.2.1 dX10_begin_11 rfl (lv_at hl 0 rfl) ?_
    refine lv_lload C.1 C.2.1 dX10_begin_12 (lv_at hl 5 rfl) ?_
    refine hz_Vv (As := [.long x5]) (rest := []) C hP hD hS hA (T_X10_settle l D K Z Y ad d t hok (x5)) hE hZ (uwV m_52_6 m_46_13 m_46_14 m_1_20 m_46_15) (hdV 1 (by decide +kernel) rfl) ⟨Nat.le_of_ble_eq_true rfl, Nat.le_of_ble_eq_true rfl⟩ rfl rfl (ci := 9) (q0 := 3) rfl rfl rfl hl.1 (Nat.le_of_ble_eq_true rfl) dX10_begin_14 ⟨Nat.le_trans (newC_le _ _) (Nat.le_of_ble_eq_true rfl), (Nat.le_of_ble_eq_true rfl)⟩ (fun t_48 H locs hw hP hD hS => ?_)
    obtain ⟨hok, f_50⟩ := hw
    have hfr : frA [(3, 8), (18, 1), (18, 3), (19, 3), (20, 3), (21, 3)] [] [10, 11, 12, 15, 16, 17, 32, 33, 34, 35, 36, 37, 38, 39, 40] [13, 14] t t_48 := frA_tr hfr f_50 rfl
    refine lv_iload_n C.1 C.2.1 dX10_begin_17 rfl (lv_at hl 1 rfl) ?_
    refine lv_bipush (v := 35) C.1 C.2.1 dX10_begin_18 (by decide) ?_
    refine lv_icmp_ne (tgt := 32) C.1 C.2.1 dX10_begin_20 (by decide) (fun c_51 => ?_) (fun c_51 => ?_)
    · replace c_51 : ¬ x1.toInt = 35 := i_ne c_51
      refine lv_iload_n C.1 C.2.1 dX10_begin_32 rfl (lv_at hl 1 rfl) ?_
      refine lv_bipush (v := 36) C.1 C.2.1 dX10_begin_33 (by decide) ?_
      refine lv_icmp_ne (tgt := 63) C.1 C.2.1 dX10_begin_35 (by decide) (fun c_52 => ?_) (fun c_52 => ?_)
      · replace c_52 : ¬ x1.toInt = 36 := i_ne c_52
        exact L_63 t_48 d _ _ _ hok hfr hod hle hdf ⟨by omega, by omega⟩ ⟨by omega, by omega⟩ hP hD hS (lv_sub hl [0, 1, 2, 3, 4, 5] rfl)
      · replace c_52 : x1.toInt = 36 := i_eq c_52
        refine lv_iload_n C.1 C.2.1 dX10_begin_38 rfl (lv_at hl 2 rfl) ?_
        refine lv_bipush (v := 16) C.1 C.2.1 dX10_begin_39 (by decide) ?_
        refine lv_icmp_gt (tgt := 63) C.1 C.2.1 dX10_begin_41 (by decide) (fun c_53 => ?_) (fun c_53 => ?_)
        · replace c_53 : 16 < x2.toInt := i_lt c_53
          exact L_63 t_48 d _ _ _ hok hfr hod hle hdf ⟨by omega, by omega⟩ ⟨by omega, by omega⟩ hP hD hS (lv_sub hl [0, 1, 2, 3, 4, 5] rfl)
        · replace c_53 : x2.toInt ≤ 16 := i_nlt c_53
          refine lv_aload_n C.1 C.2.1 dX10_begin_44 rfl (lv_at hl 0 rfl) ?_
          refine lv_iload_n C.1 C.2.1 dX10_begin_45 rfl (lv_at hl 2 rfl) ?_
          refine lv_iload_n C.1 C.2.1 dX10_begin_46 rfl (lv_at hl 3 rfl) ?_
          refine lv_iload C.1 C.2.1 dX10_begin_47 (lv_at hl 4 rfl) ?_
          refine hz_Vv (As := [.int x2, .int x3, .int x4]) (rest := []) C hP hD hS hA (T_X10_read l D K Z Y ad d t_48 hok hod (x2) (show (0 : Int) ≤ (x2 : Int32).toInt ∧ (x2 : Int32).toInt ≤ 16 from ⟨by omega, by omega⟩) (x3) (show (-2147483648 : Int) ≤ (x3 : Int32).toInt ∧ (x3 : Int32).toInt ≤ 1073745919 from ⟨(i_rng _).1, by omega⟩) (x4) (show (-1073741824 : Int) ≤ (x4 : Int32).toInt ∧ (x4 : Int32).toInt ≤ 1073741823 from ⟨by omega, by omega⟩)) hE hZ (uwV m_52_15 m_52_16 m_52_17 m_1_20 m_52_18) (hdV 3 (by decide +kernel) rfl) ⟨Nat.le_of_ble_eq_true rfl, Nat.le_of_ble_eq_true rfl⟩ rfl rfl (ci := 9) (q0 := 3) rfl rfl rfl hl.1 (Nat.le_of_ble_eq_true rfl) dX10_begin_49 ⟨Nat.le_trans (newC_le _ _) (Nat.le_of_ble_eq_true rfl), (Nat.le_of_ble_eq_true rfl)⟩ (fun t_54 H locs hw hP hD hS => ?_)
          obtain ⟨hok, f_56⟩ := hw
          have hfr : frA [(3, 8), (18, 1), (18, 3), (19, 3), (20, 3), (21, 3)] [] [10, 11, 12, 15, 16, 17, 32, 33, 34, 35, 36, 37, 38, 39, 40] [13, 14] t t_54 := frA_tr hfr f_56 rfl
          refine lv_aload_n C.1 C.2.1 dX10_begin_52 rfl (lv_at hl 0 rfl) ?_
          refine k_get (v := .ref (ad 14)) C hP 3 rfl rfl inlX10 4 (by decide) m_3_9 rfl dX10_begin_53 ?_
          refine lv_iload_n C.1 C.2.1 dX10_begin_56 rfl (lv_at hl 2 rfl) ?_
          refine lv_lload C.1 C.2.1 dX10_begin_57 (lv_at hl 5 rfl) ?_
          refine k_lst (ws' := (WX d) K ad (uG t_54 14 (x2 : Int32).toNatClampNeg x5)) (x' := x5) C hP hD hS 14 rfl (vp_in_iff.mpr ⟨by omega, by omega⟩) rfl rfl rfl dX10_begin_59 (fun H locs hP hD hS => ?_)
          have hok : okX (uG t_54 14 (x2 : Int32).toNatClampNeg x5) := ⟨hok.1, hok.2.1, trivial⟩
          have hfr : frA [(3, 8), (18, 1), (18, 3), (19, 3), (20, 3), (21, 3)] [] [10, 11, 12, 15, 16, 17, 32, 33, 34, 35, 36, 37, 38, 39, 40] [13, 14] t (uG t_54 14 (x2 : Int32).toNatClampNeg x5) := frA_G hfr 14 _ _ rfl
          refine lv_goto (tgt := 94) C.1 C.2.1 dX10_begin_60 (by decide) ?_
          exact L_94 (uG t_54 14 (x2 : Int32).toNatClampNeg x5) d _ _ _ hok hfr hod hle hdf ⟨by omega, by omega⟩ hP hD hS (lv_sub hl [0, 1, 2, 3, 4, 5] rfl)
    · replace c_51 : x1.toInt = 35 := i_eq c_51
      refine lv_aload_n C.1 C.2.1 dX10_begin_23 rfl (lv_at hl 0 rfl) ?_
      refine lv_iload_n C.1 C.2.1 dX10_begin_24 rfl (lv_at hl 2 rfl) ?_
      refine lv_iload_n C.1 C.2.1 dX10_begin_25 rfl (lv_at hl 3 rfl) ?_
      refine g_DVv (As := [.int x2, .int x3]) (rest := []) C hP hD hS hA (T_X10_turn l D K Z Y ad d t_48 hok hod (x2) (show (0 : Int) ≤ (x2 : Int32).toInt ∧ (x2 : Int32).toInt ≤ 19 from ⟨by omega, by omega⟩) (x3) (show (-2147483648 : Int) ≤ (x3 : Int32).toInt ∧ (x3 : Int32).toInt ≤ 1073745919 from ⟨(i_rng _).1, by omega⟩)) hE hZ hX hle hdf (uwV m_52_7 m_52_8 m_52_9 m_1_20 m_52_10) (hdV 2 (by decide +kernel) rfl) ⟨Nat.le_of_ble_eq_true rfl, Nat.le_of_ble_eq_true rfl⟩ rfl rfl (ci := 9) (q0 := 3) rfl rfl rfl hl.1 (Nat.le_of_ble_eq_true rfl) dX10_begin_26 ⟨Nat.le_of_ble_eq_true rfl, Nat.le_of_ble_eq_true rfl⟩ (fun t_57 d_59 H locs hw hP hD hS hln hle hdf => ?_)
      obtain ⟨hok, f_60, hod⟩ := hw
      have hfr : frA [(3, 8), (18, 1), (18, 3), (19, 3), (20, 3), (21, 3)] [] [10, 11, 12, 15, 16, 17, 32, 33, 34, 35, 36, 37, 38, 39, 40] [13, 14] t t_57 := frA_tr hfr f_60 rfl
      refine lv_goto (tgt := 94) C.1 C.2.1 dX10_begin_29 (by decide) ?_
      exact L_94 t_57 d_59 _ _ _ hok hfr hod hle hdf ⟨by omega, by omega⟩ hP hD hS (lv_sub hl [0, 1, 2, 3, 4, 5] rfl)
  · replace c_47 : 20 ≤ x2.toInt := i_nlt c_47
    exact g_Dvret C hr hlocks hP hD hS ⟨hok, hfr, hod⟩ hle hdf (Nat.le_of_ble_eq_true rfl) (Nat.le_of_ble_eq_true rfl) dX10_begin_10

theorem dX2_perform_0 : decode cX2_perform 0 = .ok (.aload_n 0, 1) := by decide +kernel
theorem dX2_perform_1 : decode cX2_perform 1 = .ok (.getfield 44, 3) := by decide +kernel
theorem dX2_perform_101 : decode cX2_perform 101 = .ok (.iconst 1, 1) := by decide +kernel
theorem dX2_perform_102 : decode cX2_perform 102 = .ok (.if_icmp .lt 33, 3) := by decide +kernel
theorem dX2_perform_105 : decode cX2_perform 105 = .ok (.aload_n 0, 1) := by decide +kernel
theorem dX2_perform_106 : decode cX2_perform 106 = .ok (.getfield 84, 3) := by decide +kernel
theorem dX2_perform_109 : decode cX2_perform 109 = .ok (.iconst 4, 1) := by decide +kernel
theorem dX2_perform_11 : decode cX2_perform 11 = .ok (.istore 4, 2) := by decide +kernel
theorem dX2_perform_110 : decode cX2_perform 110 = .ok (.if_icmp .gt 25, 3) := by decide +kernel
theorem dX2_perform_113 : decode cX2_perform 113 = .ok (.aload_n 0, 1) := by decide +kernel
theorem dX2_perform_114 : decode cX2_perform 114 = .ok (.aload_n 0, 1) := by decide +kernel
theorem dX2_perform_115 : decode cX2_perform 115 = .ok (.aload_n 0, 1) := by decide +kernel
theorem dX2_perform_116 : decode cX2_perform 116 = .ok (.getfield 142, 3) := by decide +kernel
theorem dX2_perform_119 : decode cX2_perform 119 = .ok (.invokevirtual 73, 3) := by decide +kernel
theorem dX2_perform_122 : decode cX2_perform 122 = .ok (.aload_n 0, 1) := by decide +kernel
theorem dX2_perform_123 : decode cX2_perform 123 = .ok (.getfield 87, 3) := by decide +kernel
theorem dX2_perform_126 : decode cX2_perform 126 = .ok (.invokestatic 170, 3) := by decide +kernel
theorem dX2_perform_129 : decode cX2_perform 129 = .ok (.invokevirtual 188, 3) := by decide +kernel
theorem dX2_perform_13 : decode cX2_perform 13 = .ok (.aload_n 0, 1) := by decide +kernel
theorem dX2_perform_132 : decode cX2_perform 132 = .ok (.goto 326, 3) := by decide +kernel
theorem dX2_perform_135 : decode cX2_perform 135 = .ok (.aload_n 0, 1) := by decide +kernel
theorem dX2_perform_136 : decode cX2_perform 136 = .ok (.getfield 84, 3) := by decide +kernel
theorem dX2_perform_139 : decode cX2_perform 139 = .ok (.iconst 5, 1) := by decide +kernel
theorem dX2_perform_14 : decode cX2_perform 14 = .ok (.iload 4, 2) := by decide +kernel
theorem dX2_perform_140 : decode cX2_perform 140 = .ok (.if_icmp .ne 10, 3) := by decide +kernel
theorem dX2_perform_143 : decode cX2_perform 143 = .ok (.aload_n 0, 1) := by decide +kernel
theorem dX2_perform_144 : decode cX2_perform 144 = .ok (.invokevirtual 191, 3) := by decide +kernel
theorem dX2_perform_147 : decode cX2_perform 147 = .ok (.goto 311, 3) := by decide +kernel
theorem dX2_perform_150 : decode cX2_perform 150 = .ok (.aload_n 0, 1) := by decide +kernel
theorem dX2_perform_151 : decode cX2_perform 151 = .ok (.getfield 84, 3) := by decide +kernel
theorem dX2_perform_154 : decode cX2_perform 154 = .ok (.bipush 6, 2) := by decide +kernel
theorem dX2_perform_156 : decode cX2_perform 156 = .ok (.if_icmp .ne 10, 3) := by decide +kernel
theorem dX2_perform_159 : decode cX2_perform 159 = .ok (.aload_n 0, 1) := by decide +kernel
theorem dX2_perform_16 : decode cX2_perform 16 = .ok (.ifCond .eq 10, 3) := by decide +kernel
theorem dX2_perform_160 : decode cX2_perform 160 = .ok (.invokevirtual 194, 3) := by decide +kernel
theorem dX2_perform_163 : decode cX2_perform 163 = .ok (.goto 295, 3) := by decide +kernel
theorem dX2_perform_166 : decode cX2_perform 166 = .ok (.aload_n 0, 1) := by decide +kernel
theorem dX2_perform_167 : decode cX2_perform 167 = .ok (.getfield 84, 3) := by decide +kernel
theorem dX2_perform_170 : decode cX2_perform 170 = .ok (.bipush 7, 2) := by decide +kernel
theorem dX2_perform_172 : decode cX2_perform 172 = .ok (.if_icmp .ne 10, 3) := by decide +kernel
theorem dX2_perform_175 : decode cX2_perform 175 = .ok (.aload_n 0, 1) := by decide +kernel
theorem dX2_perform_176 : decode cX2_perform 176 = .ok (.invokevirtual 197, 3) := by decide +kernel
theorem dX2_perform_179 : decode cX2_perform 179 = .ok (.goto 279, 3) := by decide +kernel
theorem dX2_perform_182 : decode cX2_perform 182 = .ok (.aload_n 0, 1) := by decide +kernel
theorem dX2_perform_183 : decode cX2_perform 183 = .ok (.getfield 84, 3) := by decide +kernel
theorem dX2_perform_186 : decode cX2_perform 186 = .ok (.bipush 8, 2) := by decide +kernel
theorem dX2_perform_188 : decode cX2_perform 188 = .ok (.if_icmp .lt 58, 3) := by decide +kernel
theorem dX2_perform_19 : decode cX2_perform 19 = .ok (.aload_n 0, 1) := by decide +kernel
theorem dX2_perform_191 : decode cX2_perform 191 = .ok (.aload_n 0, 1) := by decide +kernel
theorem dX2_perform_192 : decode cX2_perform 192 = .ok (.getfield 84, 3) := by decide +kernel
theorem dX2_perform_195 : decode cX2_perform 195 = .ok (.bipush 23, 2) := by decide +kernel
theorem dX2_perform_197 : decode cX2_perform 197 = .ok (.if_icmp .gt 49, 3) := by decide +kernel
theorem dX2_perform_20 : decode cX2_perform 20 = .ok (.getfield 142, 3) := by decide +kernel
theorem dX2_perform_200 : decode cX2_perform 200 = .ok (.aload_n 0, 1) := by decide +kernel
theorem dX2_perform_201 : decode cX2_perform 201 = .ok (.getfield 11, 3) := by decide +kernel
theorem dX2_perform_204 : decode cX2_perform 204 = .ok (.aload_n 0, 1) := by decide +kernel
theorem dX2_perform_205 : decode cX2_perform 205 = .ok (.getfield 84, 3) := by decide +kernel
theorem dX2_perform_208 : decode cX2_perform 208 = .ok (.bipush 7, 2) := by decide +kernel
theorem dX2_perform_210 : decode cX2_perform 210 = .ok (.iand, 1) := by decide +kernel
theorem dX2_perform_211 : decode cX2_perform 211 = .ok (.aload_n 0, 1) := by decide +kernel
theorem dX2_perform_212 : decode cX2_perform 212 = .ok (.aload_n 0, 1) := by decide +kernel
theorem dX2_perform_213 : decode cX2_perform 213 = .ok (.getfield 142, 3) := by decide +kernel
theorem dX2_perform_216 : decode cX2_perform 216 = .ok (.invokevirtual 73, 3) := by decide +kernel
theorem dX2_perform_219 : decode cX2_perform 219 = .ok (.aload_n 0, 1) := by decide +kernel
theorem dX2_perform_220 : decode cX2_perform 220 = .ok (.getfield 87, 3) := by decide +kernel
theorem dX2_perform_223 : decode cX2_perform 223 = .ok (.invokestatic 170, 3) := by decide +kernel
theorem dX2_perform_226 : decode cX2_perform 226 = .ok (.aload_n 0, 1) := by decide +kernel
theorem dX2_perform_227 : decode cX2_perform 227 = .ok (.getfield 84, 3) := by decide +kernel
theorem dX2_perform_23 : decode cX2_perform 23 = .ok (.goto 4, 3) := by decide +kernel
theorem dX2_perform_230 : decode cX2_perform 230 = .ok (.bipush 16, 2) := by decide +kernel
theorem dX2_perform_232 : decode cX2_perform 232 = .ok (.if_icmp .lt 8, 3) := by decide +kernel
theorem dX2_perform_235 : decode cX2_perform 235 = .ok (.ldc 124, 2) := by decide +kernel
theorem dX2_perform_237 : decode cX2_perform 237 = .ok (.goto 4, 3) := by decide +kernel
theorem dX2_perform_240 : decode cX2_perform 240 = .ok (.iconst 0, 1) := by decide +kernel
theorem dX2_perform_241 : decode cX2_perform 241 = .ok (.ixor, 1) := by decide +kernel
theorem dX2_perform_242 : decode cX2_perform 242 = .ok (.iastore, 1) := by decide +kernel
theorem dX2_perform_243 : decode cX2_perform 243 = .ok (.goto 215, 3) := by decide +kernel
theorem dX2_perform_246 : decode cX2_perform 246 = .ok (.aload_n 0, 1) := by decide +kernel
theorem dX2_perform_247 : decode cX2_perform 247 = .ok (.getfield 84, 3) := by decide +kernel
theorem dX2_perform_250 : decode cX2_perform 250 = .ok (.bipush 24, 2) := by decide +kernel
theorem dX2_perform_252 : decode cX2_perform 252 = .ok (.if_icmp .lt 63, 3) := by decide +kernel
theorem dX2_perform_255 : decode cX2_perform 255 = .ok (.aload_n 0, 1) := by decide +kernel
theorem dX2_perform_256 : decode cX2_perform 256 = .ok (.getfield 84, 3) := by decide +kernel
theorem dX2_perform_259 : decode cX2_perform 259 = .ok (.bipush 33, 2) := by decide +kernel
theorem dX2_perform_26 : decode cX2_perform 26 = .ok (.iload_n 3, 1) := by decide +kernel
theorem dX2_perform_261 : decode cX2_perform 261 = .ok (.if_icmp .gt 54, 3) := by decide +kernel
theorem dX2_perform_264 : decode cX2_perform 264 = .ok (.aload_n 0, 1) := by decide +kernel
theorem dX2_perform_265 : decode cX2_perform 265 = .ok (.aload_n 0, 1) := by decide +kernel
theorem dX2_perform_266 : decode cX2_perform 266 = .ok (.getfield 142, 3) := by decide +kernel
theorem dX2_perform_269 : decode cX2_perform 269 = .ok (.aload_n 0, 1) := by decide +kernel
theorem dX2_perform_27 : decode cX2_perform 27 = .ok (.putfield 44, 3) := by decide +kernel
theorem dX2_perform_270 : decode cX2_perform 270 = .ok (.aload_n 0, 1) := by decide +kernel
theorem dX2_perform_271 : decode cX2_perform 271 = .ok (.getfield 142, 3) := by decide +kernel
theorem dX2_perform_274 : decode cX2_perform 274 = .ok (.invokevirtual 73, 3) := by decide +kernel
theorem dX2_perform_277 : decode cX2_perform 277 = .ok (.aload_n 0, 1) := by decide +kernel
theorem dX2_perform_278 : decode cX2_perform 278 = .ok (.getfield 87, 3) := by decide +kernel
theorem dX2_perform_281 : decode cX2_perform 281 = .ok (.aload_n 0, 1) := by decide +kernel
theorem dX2_perform_282 : decode cX2_perform 282 = .ok (.getfield 84, 3) := by decide +kernel
theorem dX2_perform_285 : decode cX2_perform 285 = .ok (.bipush 33, 2) := by decide +kernel
theorem dX2_perform_287 : decode cX2_perform 287 = .ok (.if_icmp .ne 7, 3) := by decide +kernel
theorem dX2_perform_290 : decode cX2_perform 290 = .ok (.iconst 0, 1) := by decide +kernel
theorem dX2_perform_291 : decode cX2_perform 291 = .ok (.goto 15, 3) := by decide +kernel
theorem dX2_perform_294 : decode cX2_perform 294 = .ok (.aload_n 0, 1) := by decide +kernel
theorem dX2_perform_295 : decode cX2_perform 295 = .ok (.getfield 11, 3) := by decide +kernel
theorem dX2_perform_298 : decode cX2_perform 298 = .ok (.aload_n 0, 1) := by decide +kernel
theorem dX2_perform_299 : decode cX2_perform 299 = .ok (.getfield 84, 3) := by decide +kernel
theorem dX2_perform_30 : decode cX2_perform 30 = .ok (.iload 4, 2) := by decide +kernel
theorem dX2_perform_302 : decode cX2_perform 302 = .ok (.bipush 24, 2) := by decide +kernel
theorem dX2_perform_304 : decode cX2_perform 304 = .ok (.isub, 1) := by decide +kernel
theorem dX2_perform_305 : decode cX2_perform 305 = .ok (.iaload, 1) := by decide +kernel
theorem dX2_perform_306 : decode cX2_perform 306 = .ok (.invokestatic 200, 3) := by decide +kernel
theorem dX2_perform_309 : decode cX2_perform 309 = .ok (.invokevirtual 125, 3) := by decide +kernel
theorem dX2_perform_312 : decode cX2_perform 312 = .ok (.goto 146, 3) := by decide +kernel
theorem dX2_perform_315 : decode cX2_perform 315 = .ok (.aload_n 0, 1) := by decide +kernel
theorem dX2_perform_316 : decode cX2_perform 316 = .ok (.getfield 84, 3) := by decide +kernel
theorem dX2_perform_319 : decode cX2_perform 319 = .ok (.bipush 35, 2) := by decide +kernel
theorem dX2_perform_32 : decode cX2_perform 32 = .ok (.ifCond .eq 32, 3) := by decide +kernel
theorem dX2_perform_321 : decode cX2_perform 321 = .ok (.if_icmp .lt 45, 3) := by decide +kernel
theorem dX2_perform_324 : decode cX2_perform 324 = .ok (.aload_n 0, 1) := by decide +kernel
theorem dX2_perform_325 : decode cX2_perform 325 = .ok (.getfield 84, 3) := by decide +kernel
theorem dX2_perform_328 : decode cX2_perform 328 = .ok (.bipush 37, 2) := by decide +kernel
theorem dX2_perform_330 : decode cX2_perform 330 = .ok (.if_icmp .gt 36, 3) := by decide +kernel
theorem dX2_perform_333 : decode cX2_perform 333 = .ok (.aload_n 0, 1) := by decide +kernel
theorem dX2_perform_334 : decode cX2_perform 334 = .ok (.getfield 22, 3) := by decide +kernel
theorem dX2_perform_337 : decode cX2_perform 337 = .ok (.aload_n 0, 1) := by decide +kernel
theorem dX2_perform_338 : decode cX2_perform 338 = .ok (.getfield 84, 3) := by decide +kernel
theorem dX2_perform_341 : decode cX2_perform 341 = .ok (.aload_n 0, 1) := by decide +kernel
theorem dX2_perform_342 : decode cX2_perform 342 = .ok (.getfield 87, 3) := by decide +kernel
theorem dX2_perform_345 : decode cX2_perform 345 = .ok (.aload_n 0, 1) := by decide +kernel
theorem dX2_perform_346 : decode cX2_perform 346 = .ok (.getfield 142, 3) := by decide +kernel
theorem dX2_perform_349 : decode cX2_perform 349 = .ok (.aload_n 0, 1) := by decide +kernel
theorem dX2_perform_35 : decode cX2_perform 35 = .ok (.aload_n 0, 1) := by decide +kernel
theorem dX2_perform_350 : decode cX2_perform 350 = .ok (.getfield 11, 3) := by decide +kernel
theorem dX2_perform_353 : decode cX2_perform 353 = .ok (.bipush 7, 2) := by decide +kernel
theorem dX2_perform_355 : decode cX2_perform 355 = .ok (.iaload, 1) := by decide +kernel
theorem dX2_perform_356 : decode cX2_perform 356 = .ok (.invokestatic 98, 3) := by decide +kernel
theorem dX2_perform_359 : decode cX2_perform 359 = .ok (.lload_n 1, 1) := by decide +kernel
theorem dX2_perform_36 : decode cX2_perform 36 = .ok (.getfield 84, 3) := by decide +kernel
theorem dX2_perform_360 : decode cX2_perform 360 = .ok (.invokevirtual 204, 3) := by decide +kernel
theorem dX2_perform_363 : decode cX2_perform 363 = .ok (.goto 95, 3) := by decide +kernel
theorem dX2_perform_366 : decode cX2_perform 366 = .ok (.aload_n 0, 1) := by decide +kernel
theorem dX2_perform_367 : decode cX2_perform 367 = .ok (.getfield 84, 3) := by decide +kernel
theorem dX2_perform_370 : decode cX2_perform 370 = .ok (.bipush 48, 2) := by decide +kernel
theorem dX2_perform_372 : decode cX2_perform 372 = .ok (.if_icmp .lt 26, 3) := by decide +kernel
theorem dX2_perform_375 : decode cX2_perform 375 = .ok (.aload_n 0, 1) := by decide +kernel
theorem dX2_perform_376 : decode cX2_perform 376 = .ok (.getfield 84, 3) := by decide +kernel
theorem dX2_perform_379 : decode cX2_perform 379 = .ok (.bipush 55, 2) := by decide +kernel
theorem dX2_perform_381 : decode cX2_perform 381 = .ok (.if_icmp .gt 17, 3) := by decide +kernel
theorem dX2_perform_384 : decode cX2_perform 384 = .ok (.aload_n 0, 1) := by decide +kernel
theorem dX2_perform_385 : decode cX2_perform 385 = .ok (.aload_n 0, 1) := by decide +kernel
theorem dX2_perform_386 : decode cX2_perform 386 = .ok (.getfield 84, 3) := by decide +kernel
theorem dX2_perform_389 : decode cX2_perform 389 = .ok (.bipush 48, 2) := by decide +kernel
theorem dX2_perform_39 : decode cX2_perform 39 = .ok (.bipush 39, 2) := by decide +kernel
theorem dX2_perform_391 : decode cX2_perform 391 = .ok (.isub, 1) := by decide +kernel
theorem dX2_perform_392 : decode cX2_perform 392 = .ok (.invokevirtual 208, 3) := by decide +kernel
theorem dX2_perform_395 : decode cX2_perform 395 = .ok (.goto 63, 3) := by decide +kernel
theorem dX2_perform_398 : decode cX2_perform 398 = .ok (.aload_n 0, 1) := by decide +kernel
theorem dX2_perform_399 : decode cX2_perform 399 = .ok (.getfield 84, 3) := by decide +kernel
theorem dX2_perform_4 : decode cX2_perform 4 = .ok (.iconst 1, 1) := by decide +kernel
theorem dX2_perform_402 : decode cX2_perform 402 = .ok (.bipush 56, 2) := by decide +kernel
theorem dX2_perform_404 : decode cX2_perform 404 = .ok (.if_icmp .lt 54, 3) := by decide +kernel
theorem dX2_perform_407 : decode cX2_perform 407 = .ok (.aload_n 0, 1) := by decide +kernel
theorem dX2_perform_408 : decode cX2_perform 408 = .ok (.getfield 11, 3) := by decide +kernel
theorem dX2_perform_41 : decode cX2_perform 41 = .ok (.if_icmp .ne 11, 3) := by decide +kernel
theorem dX2_perform_411 : decode cX2_perform 411 = .ok (.aload_n 0, 1) := by decide +kernel
theorem dX2_perform_412 : decode cX2_perform 412 = .ok (.getfield 84, 3) := by decide +kernel
theorem dX2_perform_415 : decode cX2_perform 415 = .ok (.bipush 56, 2) := by decide +kernel
theorem dX2_perform_417 : decode cX2_perform 417 = .ok (.isub, 1) := by decide +kernel
theorem dX2_perform_418 : decode cX2_perform 418 = .ok (.iaload, 1) := by decide +kernel
theorem dX2_perform_419 : decode cX2_perform 419 = .ok (.aload_n 0, 1) := by decide +kernel
theorem dX2_perform_420 : decode cX2_perform 420 = .ok (.getfield 87, 3) := by decide +kernel
theorem dX2_perform_423 : decode cX2_perform 423 = .ok (.invokestatic 170, 3) := by decide +kernel
theorem dX2_perform_426 : decode cX2_perform 426 = .ok (.invokestatic 98, 3) := by decide +kernel
theorem dX2_perform_429 : decode cX2_perform 429 = .ok (.istore 5, 2) := by decide +kernel
theorem dX2_perform_431 : decode cX2_perform 431 = .ok (.aload_n 0, 1) := by decide +kernel
theorem dX2_perform_432 : decode cX2_perform 432 = .ok (.iload 5, 2) := by decide +kernel
theorem dX2_perform_434 : decode cX2_perform 434 = .ok (.aload_n 0, 1) := by decide +kernel
theorem dX2_perform_435 : decode cX2_perform 435 = .ok (.aload_n 0, 1) := by decide +kernel
theorem dX2_perform_436 : decode cX2_perform 436 = .ok (.getfield 142, 3) := by decide +kernel
theorem dX2_perform_439 : decode cX2_perform 439 = .ok (.invokevirtual 73, 3) := by decide +kernel
theorem dX2_perform_44 : decode cX2_perform 44 = .ok (.aload_n 0, 1) := by decide +kernel
theorem dX2_perform_442 : decode cX2_perform 442 = .ok (.aload_n 0, 1) := by decide +kernel
theorem dX2_perform_443 : decode cX2_perform 443 = .ok (.getfield 87, 3) := by decide +kernel
theorem dX2_perform_446 : decode cX2_perform 446 = .ok (.invokestatic 170, 3) := by decide +kernel
theorem dX2_perform_449 : decode cX2_perform 449 = .ok (.invokestatic 98, 3) := by decide +kernel
theorem dX2_perform_45 : decode cX2_perform 45 = .ok (.getfield 87, 3) := by decide +kernel
theorem dX2_perform_452 : decode cX2_perform 452 = .ok (.invokestatic 211, 3) := by decide +kernel
theorem dX2_perform_455 : decode cX2_perform 455 = .ok (.putfield 41, 3) := by decide +kernel
theorem dX2_perform_458 : decode cX2_perform 458 = .ok (.return_, 1) := by decide +kernel
theorem dX2_perform_48 : decode cX2_perform 48 = .ok (.iconst 1, 1) := by decide +kernel
theorem dX2_perform_49 : decode cX2_perform 49 = .ok (.if_icmp .eq 15, 3) := by decide +kernel
theorem dX2_perform_5 : decode cX2_perform 5 = .ok (.iadd, 1) := by decide +kernel
theorem dX2_perform_52 : decode cX2_perform 52 = .ok (.aload_n 0, 1) := by decide +kernel
theorem dX2_perform_53 : decode cX2_perform 53 = .ok (.getfield 11, 3) := by decide +kernel
theorem dX2_perform_56 : decode cX2_perform 56 = .ok (.bipush 8, 2) := by decide +kernel
theorem dX2_perform_58 : decode cX2_perform 58 = .ok (.iload_n 3, 1) := by decide +kernel
theorem dX2_perform_59 : decode cX2_perform 59 = .ok (.i2l, 1) := by decide +kernel
theorem dX2_perform_6 : decode cX2_perform 6 = .ok (.istore_n 3, 1) := by decide +kernel
theorem dX2_perform_60 : decode cX2_perform 60 = .ok (.invokestatic 120, 3) := by decide +kernel
theorem dX2_perform_63 : decode cX2_perform 63 = .ok (.iastore, 1) := by decide +kernel
theorem dX2_perform_64 : decode cX2_perform 64 = .ok (.aload_n 0, 1) := by decide +kernel
theorem dX2_perform_65 : decode cX2_perform 65 = .ok (.getfield 84, 3) := by decide +kernel
theorem dX2_perform_68 : decode cX2_perform 68 = .ok (.bipush 39, 2) := by decide +kernel
theorem dX2_perform_7 : decode cX2_perform 7 = .ok (.aload_n 0, 1) := by decide +kernel
theorem dX2_perform_70 : decode cX2_perform 70 = .ok (.if_icmp .ne 27, 3) := by decide +kernel
theorem dX2_perform_73 : decode cX2_perform 73 = .ok (.aload_n 0, 1) := by decide +kernel
theorem dX2_perform_74 : decode cX2_perform 74 = .ok (.getfield 87, 3) := by decide +kernel
theorem dX2_perform_77 : decode cX2_perform 77 = .ok (.iconst 2, 1) := by decide +kernel
theorem dX2_perform_78 : decode cX2_perform 78 = .ok (.if_icmp .eq 11, 3) := by decide +kernel
theorem dX2_perform_8 : decode cX2_perform 8 = .ok (.invokevirtual 164, 3) := by decide +kernel
theorem dX2_perform_81 : decode cX2_perform 81 = .ok (.aload_n 0, 1) := by decide +kernel
theorem dX2_perform_82 : decode cX2_perform 82 = .ok (.getfield 87, 3) := by decide +kernel
theorem dX2_perform_85 : decode cX2_perform 85 = .ok (.iconst 3, 1) := by decide +kernel
theorem dX2_perform_86 : decode cX2_perform 86 = .ok (.if_icmp .ne 11, 3) := by decide +kernel
theorem dX2_perform_89 : decode cX2_perform 89 = .ok (.aload_n 0, 1) := by decide +kernel
theorem dX2_perform_90 : decode cX2_perform 90 = .ok (.iconst 0, 1) := by decide +kernel
theorem dX2_perform_91 : decode cX2_perform 91 = .ok (.putfield 37, 3) := by decide +kernel
theorem dX2_perform_94 : decode cX2_perform 94 = .ok (.goto 364, 3) := by decide +kernel
theorem dX2_perform_97 : decode cX2_perform 97 = .ok (.aload_n 0, 1) := by decide +kernel
theorem dX2_perform_98 : decode cX2_perform 98 = .ok (.getfield 84, 3) := by decide +kernel
set_option maxHeartbeats 4000000 in
set_option maxRecDepth 100000 in
theorem T_X2_perform (l : Launch) (D : va_G) (K : Nat → ClassId) (Z Y : Nat → Nat) (ad : Nat → Nat) (d : dSt) (t : tSt) (hok : okX t) (hod : okD d) (x1 : Int64) : dMet l yX2_perform cX2_perform 6 none (rmD 9 10000 2800000) D K Z Y [.ref (ad 4), .long x1] ((WX d) K ad t) (QDV D K ad d (fun (u : tSt) (dd : dSt) => okX u ∧ frA [(3, 8), (4, 3), (4, 4), (4, 5), (4, 10), (18, 1), (18, 3), (19, 3), (20, 3), (21, 3)] [] [10, 11, 12, 15, 16, 17, 22, 32, 33, 34, 35, 36, 37, 38, 39, 40] [13, 14] t u ∧ okD dd)) 10000 2800000 := by
  refine d_met d RX2 ⟨rfl, by decide +kernel⟩ (Nat.le_of_ble_eq_true rfl) ?_
  intro p e s m below meth c A ls C hE hZ hX hr hlocks hA hP hD hS hl
  have hl : lv_has ls 6 [(0, .ref (ad 4)), (1, .long x1)] := hl
  have hle : dLe d d := dLe_rf
  have hdf : dFr s.heap.size d d := dFr_rf
  have hokt := hok
  have hfr : frA [(3, 8), (4, 3), (4, 4), (4, 5), (4, 10), (18, 1), (18, 3), (19, 3), (20, 3), (21, 3)] [] [10, 11, 12, 15, 16, 17, 22, 32, 33, 34, 35, 36, 37, 38, 39, 40] [13, 14] t t := frA_rf
  have L_398 : ∀ (t1 : tSt) (d1 : dSt) (w398_3 : Int32) (w398_4 : Int32) (H : Heap) (locs : List Loc) (ls : Array Slot), okX t1 → frA [(3, 8), (4, 3), (4, 4), (4, 5), (4, 10), (18, 1), (18, 3), (19, 3), (20, 3), (21, 3)] [] [10, 11, 12, 15, 16, 17, 22, 32, 33, 34, 35, 36, 37, 38, 39, 40] [13, 14] t t1 → okD d1 → dLe d d1 → dFr s.heap.size d d1 → (0 : Int) ≤ w398_4.toInt ∧ w398_4.toInt ≤ 1 → va_P D vwCl ((WX d1) K ad t1) H → va_D A ((WX d1) K ad t1) → va_S A s.heap H locs → lv_has ls 6 [(0, .ref (ad 4)), (1, .long x1), (3, .int w398_3), (4, .int w398_4)] → W p l e (rmD 9 10000 2800000) s m [.ref (ad 4), .long x1].toArray below meth c H locs (newC d d1) 246800 (MQ below (QDV D K ad d (fun (u : tSt) (dd : dSt) => okX u ∧ frA [(3, 8), (4, 3), (4, 4), (4, 5), (4, 10), (18, 1), (18, 3), (19, 3), (20, 3), (21, 3)] [] [10, 11, 12, 15, 16, 17, 22, 32, 33, 34, 35, 36, 37, 38, 39, 40] [13, 14] t u ∧ okD dd) s.heap.size A) [.ref (ad 4), .long x1].toArray s 10000 2800000 A) (F0 m 398 ls []) := by
    intro t1 d1 w398_3 w398_4 H locs ls hok hfr hod hle hdf hw398_4 hP hD hS hl
    refine lv_aload_n C.1 C.2.1 dX2_perform_398 rfl (lv_at hl 0 rfl) ?_
    have h_1 : (0 : Int) ≤ (t1.1 4 13).toInt ∧ (t1.1 4 13).toInt ≤ 63 := hok.1 4 13
    refine k_get (v := .int (t1.1 4 13)) C hP 4 rfl rfl inlX2 13 (by decide) m_45_18 rfl dX2_perform_399 ?_
    refine lv_bipush (v := 56) C.1 C.2.1 dX2_perform_402 (by decide) ?_
    refine lv_icmp_lt (tgt := 458) C.1 C.2.1 dX2_perform_404 (by decide) (fun c_2 => ?_) (fun c_2 => ?_)
    · replace c_2 : (t1.1 4 13).toInt < 56 := i_lt c_2
      exact g_Dvret C hr hlocks hP hD hS ⟨hok, hfr, hod⟩ hle hdf (Nat.le_of_ble_eq_true rfl) (Nat.le_of_ble_eq_true rfl) dX2_perform_458
    · replace c_2 : 56 ≤ (t1.1 4 13).toInt := i_nlt c_2
      refine lv_aload_n C.1 C.2.1 dX2_perform_407 rfl (lv_at hl 0 rfl) ?_
      refine k_get (v := .ref (ad 22)) C hP 4 rfl rfl inlX2 1 (by decide) m_4_16 rfl dX2_perform_408 ?_
      refine lv_aload_n C.1 C.2.1 dX2_perform_411 rfl (lv_at hl 0 rfl) ?_
      refine k_get (v := .int (t1.1 4 13)) C hP 4 rfl rfl inlX2 13 (by decide) m_45_18 rfl dX2_perform_412 ?_
      refine lv_bipush (v := 56) C.1 C.2.1 dX2_perform_415 (by decide) ?_
      obtain ⟨v_3, e_4⟩ : ∃ z, z = ((t1.1 4 13) : Int32) - (56 : Int32) := ⟨_, rfl⟩
      have h_5 : v_3.toInt = (t1.1 4 13).toInt - 56 := by rw [e_4]; exact ti_isub (by show (_ : Int) ≤ (t1.1 4 13).toInt - 56; omega) (by show (t1.1 4 13).toInt - 56 < (_ : Int); omega)
      refine k_isub (v := v_3) C e_4.symm dX2_perform_417 ?_
      obtain ⟨v_6, e_7⟩ : ∃ z, z = (t1.2.2.1 22 (v_3 : Int32).toNatClampNeg) := ⟨_, rfl⟩
      refine k_ild (v := v_6) C hP 22 rfl (vp_in_iff.mpr ⟨by omega, by omega⟩) e_7.symm dX2_perform_418 ?_
      refine lv_aload_n C.1 C.2.1 dX2_perform_419 rfl (lv_at hl 0 rfl) ?_
      have h_8 : (0 : Int) ≤ (t1.1 4 14).toInt ∧ (t1.1 4 14).toInt ≤ 63 := hok.1 4 14
      refine k_get (v := .int (t1.1 4 14)) C hP 4 rfl rfl inlX2 14 (by decide) m_45_19 rfl dX2_perform_420 ?_
      refine hz_Si (As := [.int v_6, .int (t1.1 4 14)]) (rest := []) C hP hD hS hA (T_X1_field l D K Z Y ad d1 t1 hok (v_6) ((t1.1 4 14)) (show (0 : Int) ≤ ((t1.1 4 14) : Int32).toInt ∧ ((t1.1 4 14) : Int32).toInt ≤ 63 from ⟨by omega, by omega⟩)) hE hZ (uwS m_49_3 m_49_4 m_14_2 m_49_5) (hdS 2 (by decide +kernel) rfl) ⟨Nat.le_of_ble_eq_true rfl, Nat.le_of_ble_eq_true rfl⟩ rfl rfl rfl hl.1 (Nat.le_of_ble_eq_true rfl) dX2_perform_423 ⟨Nat.le_trans (newC_le _ _) (Nat.le_of_ble_eq_true rfl), (Nat.le_of_ble_eq_true rfl)⟩ (fun r_10 t_9 H locs hw hP hD hS => ?_)
      obtain ⟨h_12, h_13⟩ := hw
      refine hz_Si (As := [.int r_10]) (rest := []) C hP hD hS hA (T_X1_value l D K Z Y ad d1 t1 hok (r_10)) hE hZ (uwS m_47_19 m_23_9 m_14_2 m_23_10) (hdS 1 (by decide +kernel) rfl) ⟨Nat.le_of_ble_eq_true rfl, Nat.le_of_ble_eq_true rfl⟩ rfl rfl rfl hl.1 (Nat.le_of_ble_eq_true rfl) dX2_perform_426 ⟨Nat.le_trans (newC_le _ _) (Nat.le_of_ble_eq_true rfl), (Nat.le_of_ble_eq_true rfl)⟩ (fun r_15 t_14 H locs hw hP hD hS => ?_)
      obtain ⟨h_17, h_18⟩ := hw
      refine lv_istore (lv' := [(5, .int r_15), (0, .ref (ad 4)), (1, .long x1), (3, .int w398_3), (4, .int w398_4)]) C.1 C.2.1 dX2_perform_429 hl (by decide) rfl (fun ls hl => ?_)
      have hl : lv_has ls 6 [(0, .ref (ad 4)), (1, .long x1), (3, .int w398_3), (4, .int w398_4), (5, .int r_15)] := lv_sub hl [1, 2, 3, 4, 0] rfl
      refine lv_aload_n C.1 C.2.1 dX2_perform_431 rfl (lv_at hl 0 rfl) ?_
      refine lv_iload C.1 C.2.1 dX2_perform_432 (lv_at hl 4 rfl) ?_
      refine lv_aload_n C.1 C.2.1 dX2_perform_434 rfl (lv_at hl 0 rfl) ?_
      refine lv_aload_n C.1 C.2.1 dX2_perform_435 rfl (lv_at hl 0 rfl) ?_
      have h_19 : (-2147483648 : Int) ≤ (t1.1 4 15).toInt ∧ (t1.1 4 15).toInt ≤ 1073745919 := hok.1 4 15
      refine k_get (v := .int (t1.1 4 15)) C hP 4 rfl rfl inlX2 15 (by decide) m_47_12 rfl dX2_perform_436 ?_
      refine hz_Vi (As := [.int (t1.1 4 15)]) (rest := [.int r_15, .ref (ad 4)]) C hP hD hS hA (T_X2_load l D K Z Y ad d1 t1 hok ((t1.1 4 15))) hE hZ (uwV m_47_3 m_47_4 m_47_5 m_1_23 m_47_6) (hdV 1 (by decide +kernel) rfl) ⟨Nat.le_of_ble_eq_true rfl, Nat.le_of_ble_eq_true rfl⟩ rfl rfl (ci := 1) (q0 := 4) rfl rfl rfl hl.1 (Nat.le_of_ble_eq_true rfl) dX2_perform_439 ⟨Nat.le_trans (newC_le _ _) (Nat.le_of_ble_eq_true rfl), (Nat.le_of_ble_eq_true rfl)⟩ (fun r_21 t_20 H locs hw hP hD hS => ?_)
      obtain ⟨h_23, h_24⟩ := hw
      refine lv_aload_n C.1 C.2.1 dX2_perform_442 rfl (lv_at hl 0 rfl) ?_
      refine k_get (v := .int (t1.1 4 14)) C hP 4 rfl rfl inlX2 14 (by decide) m_45_19 rfl dX2_perform_443 ?_
      refine hz_Si (As := [.int r_21, .int (t1.1 4 14)]) (rest := [.int r_15, .ref (ad 4)]) C hP hD hS hA (T_X1_field l D K Z Y ad d1 t1 hok (r_21) ((t1.1 4 14)) (show (0 : Int) ≤ ((t1.1 4 14) : Int32).toInt ∧ ((t1.1 4 14) : Int32).toInt ≤ 63 from ⟨by omega, by omega⟩)) hE hZ (uwS m_49_3 m_49_4 m_14_2 m_49_5) (hdS 2 (by decide +kernel) rfl) ⟨Nat.le_of_ble_eq_true rfl, Nat.le_of_ble_eq_true rfl⟩ rfl rfl rfl hl.1 (Nat.le_of_ble_eq_true rfl) dX2_perform_446 ⟨Nat.le_trans (newC_le _ _) (Nat.le_of_ble_eq_true rfl), (Nat.le_of_ble_eq_true rfl)⟩ (fun r_26 t_25 H locs hw hP hD hS => ?_)
      obtain ⟨h_28, h_29⟩ := hw
      refine hz_Si (As := [.int r_26]) (rest := [.int r_15, .ref (ad 4)]) C hP hD hS hA (T_X1_value l D K Z Y ad d1 t1 hok (r_26)) hE hZ (uwS m_47_19 m_23_9 m_14_2 m_23_10) (hdS 1 (by decide +kernel) rfl) ⟨Nat.le_of_ble_eq_true rfl, Nat.le_of_ble_eq_true rfl⟩ rfl rfl rfl hl.1 (Nat.le_of_ble_eq_true rfl) dX2_perform_449 ⟨Nat.le_trans (newC_le _ _) (Nat.le_of_ble_eq_true rfl), (Nat.le_of_ble_eq_true rfl)⟩ (fun r_31 t_30 H locs hw hP hD hS => ?_)
      obtain ⟨h_33, h_34⟩ := hw
      refine hz_Si (As := [.int r_15, .int r_31]) (rest := [.ref (ad 4)]) C hP hD hS hA (TJ_compare l D K Z Y ((WX d1) K ad t1) r_15 r_31) hE hZ (uwS m_54_14 m_54_15 m_54_16 m_54_17) (hdS 2 (by decide +kernel) rfl) ⟨Nat.le_of_ble_eq_true rfl, Nat.le_of_ble_eq_true rfl⟩ rfl rfl rfl hl.1 (Nat.le_of_ble_eq_true rfl) dX2_perform_452 ⟨Nat.le_trans (newC_le _ _) (Nat.le_of_ble_eq_true rfl), (Nat.le_of_ble_eq_true rfl)⟩ (fun r_35 u_r_35 H locs hw hP hD hS => ?_)
      have h_36 : (-1 : Int) ≤ r_35.toInt ∧ r_35.toInt ≤ 1 := hw
      refine k_put (ws' := (WX d1) K ad (uI t1 4 4 r_35)) (v := .int r_35) C hP hD hS 4 rfl rfl inlX2 tyX2_ok nmX2 4 (by decide) m_11_5 rfl rfl rfl rfl rfl dX2_perform_455 (fun H locs hP hD hS => ?_)
      have hok : okX (uI t1 4 4 r_35) := ⟨okI_I hok.1 4 4 r_35 (show (-1 : Int) ≤ (r_35 : Int32).toInt ∧ (r_35 : Int32).toInt ≤ 1 from ⟨by omega, by omega⟩), hok.2.1, trivial⟩
      have hfr : frA [(3, 8), (4, 3), (4, 4), (4, 5), (4, 10), (18, 1), (18, 3), (19, 3), (20, 3), (21, 3)] [] [10, 11, 12, 15, 16, 17, 22, 32, 33, 34, 35, 36, 37, 38, 39, 40] [13, 14] t (uI t1 4 4 r_35) := frA_I hfr 4 4 _ rfl
      exact g_Dvret C hr hlocks hP hD hS ⟨hok, hfr, hod⟩ hle hdf (Nat.le_of_ble_eq_true rfl) (Nat.le_of_ble_eq_true rfl) dX2_perform_458
  have L_366 : ∀ (t1 : tSt) (d1 : dSt) (w366_3 : Int32) (w366_4 : Int32) (H : Heap) (locs : List Loc) (ls : Array Slot), okX t1 → frA [(3, 8), (4, 3), (4, 4), (4, 5), (4, 10), (18, 1), (18, 3), (19, 3), (20, 3), (21, 3)] [] [10, 11, 12, 15, 16, 17, 22, 32, 33, 34, 35, 36, 37, 38, 39, 40] [13, 14] t t1 → okD d1 → dLe d d1 → dFr s.heap.size d d1 → (0 : Int) ≤ w366_4.toInt ∧ w366_4.toInt ≤ 1 → va_P D vwCl ((WX d1) K ad t1) H → va_D A ((WX d1) K ad t1) → va_S A s.heap H locs → lv_has ls 6 [(0, .ref (ad 4)), (1, .long x1), (3, .int w366_3), (4, .int w366_4)] → W p l e (rmD 9 10000 2800000) s m [.ref (ad 4), .long x1].toArray below meth c H locs (newC d d1) 246800 (MQ below (QDV D K ad d (fun (u : tSt) (dd : dSt) => okX u ∧ frA [(3, 8), (4, 3), (4, 4), (4, 5), (4, 10), (18, 1), (18, 3), (19, 3), (20, 3), (21, 3)] [] [10, 11, 12, 15, 16, 17, 22, 32, 33, 34, 35, 36, 37, 38, 39, 40] [13, 14] t u ∧ okD dd) s.heap.size A) [.ref (ad 4), .long x1].toArray s 10000 2800000 A) (F0 m 366 ls []) := by
    intro t1 d1 w366_3 w366_4 H locs ls hok hfr hod hle hdf hw366_4 hP hD hS hl
    refine lv_aload_n C.1 C.2.1 dX2_perform_366 rfl (lv_at hl 0 rfl) ?_
    have h_37 : (0 : Int) ≤ (t1.1 4 13).toInt ∧ (t1.1 4 13).toInt ≤ 63 := hok.1 4 13
    refine k_get (v := .int (t1.1 4 13)) C hP 4 rfl rfl inlX2 13 (by decide) m_45_18 rfl dX2_perform_367 ?_
    refine lv_bipush (v := 48) C.1 C.2.1 dX2_perform_370 (by decide) ?_
    refine lv_icmp_lt (tgt := 398) C.1 C.2.1 dX2_perform_372 (by decide) (fun c_38 => ?_) (fun c_38 => ?_)
    · replace c_38 : (t1.1 4 13).toInt < 48 := i_lt c_38
      exact L_398 t1 d1 w366_3 w366_4 _ _ _ hok hfr hod hle hdf ⟨by omega, by omega⟩ hP hD hS (lv_sub hl [0, 1, 2, 3] rfl)
    · replace c_38 : 48 ≤ (t1.1 4 13).toInt := i_nlt c_38
      refine lv_aload_n C.1 C.2.1 dX2_perform_375 rfl (lv_at hl 0 rfl) ?_
      refine k_get (v := .int (t1.1 4 13)) C hP 4 rfl rfl inlX2 13 (by decide) m_45_18 rfl dX2_perform_376 ?_
      refine lv_bipush (v := 55) C.1 C.2.1 dX2_perform_379 (by decide) ?_
      refine lv_icmp_gt (tgt := 398) C.1 C.2.1 dX2_perform_381 (by decide) (fun c_39 => ?_) (fun c_39 => ?_)
      · replace c_39 : 55 < (t1.1 4 13).toInt := i_lt c_39
        exact L_398 t1 d1 w366_3 w366_4 _ _ _ hok hfr hod hle hdf ⟨by omega, by omega⟩ hP hD hS (lv_sub hl [0, 1, 2, 3] rfl)
      · replace c_39 : (t1.1 4 13).toInt ≤ 55 := i_nlt c_39
        refine lv_aload_n C.1 C.2.1 dX2_perform_384 rfl (lv_at hl 0 rfl) ?_
        refine lv_aload_n C.1 C.2.1 dX2_perform_385 rfl (lv_at hl 0 rfl) ?_
        refine k_get (v := .int (t1.1 4 13)) C hP 4 rfl rfl inlX2 13 (by decide) m_45_18 rfl dX2_perform_386 ?_
        refine lv_bipush (v := 48) C.1 C.2.1 dX2_perform_389 (by decide) ?_
        obtain ⟨v_40, e_41⟩ : ∃ z, z = ((t1.1 4 13) : Int32) - (48 : Int32) := ⟨_, rfl⟩
        have h_42 : v_40.toInt = (t1.1 4 13).toInt - 48 := by rw [e_41]; exact ti_isub (by show (_ : Int) ≤ (t1.1 4 13).toInt - 48; omega) (by show (t1.1 4 13).toInt - 48 < (_ : Int); omega)
        refine k_isub (v := v_40) C e_41.symm dX2_perform_391 ?_
        refine hz_Vv (As := [.int v_40]) (rest := []) C hP hD hS hA (T_X2_enter l D K Z Y ad d1 t1 hok (v_40) (show (0 : Int) ≤ (v_40 : Int32).toInt ∧ (v_40 : Int32).toInt ≤ 7 from ⟨by omega, by omega⟩)) hE hZ (uwV m_54_10 m_54_11 m_54_12 m_1_23 m_54_13) (hdV 1 (by decide +kernel) rfl) ⟨Nat.le_of_ble_eq_true rfl, Nat.le_of_ble_eq_true rfl⟩ rfl rfl (ci := 1) (q0 := 4) rfl rfl rfl hl.1 (Nat.le_of_ble_eq_true rfl) dX2_perform_392 ⟨Nat.le_trans (newC_le _ _) (Nat.le_of_ble_eq_true rfl), (Nat.le_of_ble_eq_true rfl)⟩ (fun t_43 H locs hw hP hD hS => ?_)
        obtain ⟨hok, f_45⟩ := hw
        have hfr : frA [(3, 8), (4, 3), (4, 4), (4, 5), (4, 10), (18, 1), (18, 3), (19, 3), (20, 3), (21, 3)] [] [10, 11, 12, 15, 16, 17, 22, 32, 33, 34, 35, 36, 37, 38, 39, 40] [13, 14] t t_43 := frA_tr hfr f_45 rfl
        have h_46 : (t_43.1 4 13).toInt = (t1.1 4 13).toInt := ti_eq (f_45.1 4 13 rfl)
        refine lv_goto (tgt := 458) C.1 C.2.1 dX2_perform_395 (by decide) ?_
        exact g_Dvret C hr hlocks hP hD hS ⟨hok, hfr, hod⟩ hle hdf (Nat.le_of_ble_eq_true rfl) (Nat.le_of_ble_eq_true rfl) dX2_perform_458
  have L_315 : ∀ (t1 : tSt) (d1 : dSt) (w315_3 : Int32) (w315_4 : Int32) (H : Heap) (locs : List Loc) (ls : Array Slot), okX t1 → frA [(3, 8), (4, 3), (4, 4), (4, 5), (4, 10), (18, 1), (18, 3), (19, 3), (20, 3), (21, 3)] [] [10, 11, 12, 15, 16, 17, 22, 32, 33, 34, 35, 36, 37, 38, 39, 40] [13, 14] t t1 → okD d1 → dLe d d1 → dFr s.heap.size d d1 → (0 : Int) ≤ w315_4.toInt ∧ w315_4.toInt ≤ 1 → va_P D vwCl ((WX d1) K ad t1) H → va_D A ((WX d1) K ad t1) → va_S A s.heap H locs → lv_has ls 6 [(0, .ref (ad 4)), (1, .long x1), (3, .int w315_3), (4, .int w315_4)] → W p l e (rmD 9 10000 2800000) s m [.ref (ad 4), .long x1].toArray below meth c H locs (newC d d1) 246800 (MQ below (QDV D K ad d (fun (u : tSt) (dd : dSt) => okX u ∧ frA [(3, 8), (4, 3), (4, 4), (4, 5), (4, 10), (18, 1), (18, 3), (19, 3), (20, 3), (21, 3)] [] [10, 11, 12, 15, 16, 17, 22, 32, 33, 34, 35, 36, 37, 38, 39, 40] [13, 14] t u ∧ okD dd) s.heap.size A) [.ref (ad 4), .long x1].toArray s 10000 2800000 A) (F0 m 315 ls []) := by
    intro t1 d1 w315_3 w315_4 H locs ls hok hfr hod hle hdf hw315_4 hP hD hS hl
    refine lv_aload_n C.1 C.2.1 dX2_perform_315 rfl (lv_at hl 0 rfl) ?_
    have h_47 : (0 : Int) ≤ (t1.1 4 13).toInt ∧ (t1.1 4 13).toInt ≤ 63 := hok.1 4 13
    refine k_get (v := .int (t1.1 4 13)) C hP 4 rfl rfl inlX2 13 (by decide) m_45_18 rfl dX2_perform_316 ?_
    refine lv_bipush (v := 35) C.1 C.2.1 dX2_perform_319 (by decide) ?_
    refine lv_icmp_lt (tgt := 366) C.1 C.2.1 dX2_perform_321 (by decide) (fun c_48 => ?_) (fun c_48 => ?_)
    · replace c_48 : (t1.1 4 13).toInt < 35 := i_lt c_48
      exact L_366 t1 d1 w315_3 w315_4 _ _ _ hok hfr hod hle hdf ⟨by omega, by omega⟩ hP hD hS (lv_sub hl [0, 1, 2, 3] rfl)
    · replace c_48 : 35 ≤ (t1.1 4 13).toInt := i_nlt c_48
      refine lv_aload_n C.1 C.2.1 dX2_perform_324 rfl (lv_at hl 0 rfl) ?_
      refine k_get (v := .int (t1.1 4 13)) C hP 4 rfl rfl inlX2 13 (by decide) m_45_18 rfl dX2_perform_325 ?_
      refine lv_bipush (v := 37) C.1 C.2.1 dX2_perform_328 (by decide) ?_
      refine lv_icmp_gt (tgt := 366) C.1 C.2.1 dX2_perform_330 (by decide) (fun c_49 => ?_) (fun c_49 => ?_)
      · replace c_49 : 37 < (t1.1 4 13).toInt := i_lt c_49
        exact L_366 t1 d1 w315_3 w315_4 _ _ _ hok hfr hod hle hdf ⟨by omega, by omega⟩ hP hD hS (lv_sub hl [0, 1, 2, 3] rfl)
      · replace c_49 : (t1.1 4 13).toInt ≤ 37 := i_nlt c_49
        refine lv_aload_n C.1 C.2.1 dX2_perform_333 rfl (lv_at hl 0 rfl) ?_
        refine k_get (v := .ref (ad 3)) C hP 4 rfl rfl inlX2 2 (by decide) m_4_19 rfl dX2_perform_334 ?_
        refine lv_aload_n C.1 C.2.1 dX2_perform_337 rfl (lv_at hl 0 rfl) ?_
        refine k_get (v := .int (t1.1 4 13)) C hP 4 rfl rfl inlX2 13 (by decide) m_45_18 rfl dX2_perform_338 ?_
        refine lv_aload_n C.1 C.2.1 dX2_perform_341 rfl (lv_at hl 0 rfl) ?_
        have h_50 : (0 : Int) ≤ (t1.1 4 14).toInt ∧ (t1.1 4 14).toInt ≤ 63 := hok.1 4 14
        refine k_get (v := .int (t1.1 4 14)) C hP 4 rfl rfl inlX2 14 (by decide) m_45_19 rfl dX2_perform_342 ?_
        refine lv_aload_n C.1 C.2.1 dX2_perform_345 rfl (lv_at hl 0 rfl) ?_
        have h_51 : (-2147483648 : Int) ≤ (t1.1 4 15).toInt ∧ (t1.1 4 15).toInt ≤ 1073745919 := hok.1 4 15
        refine k_get (v := .int (t1.1 4 15)) C hP 4 rfl rfl inlX2 15 (by decide) m_47_12 rfl dX2_perform_346 ?_
        refine lv_aload_n C.1 C.2.1 dX2_perform_349 rfl (lv_at hl 0 rfl) ?_
        refine k_get (v := .ref (ad 22)) C hP 4 rfl rfl inlX2 1 (by decide) m_4_16 rfl dX2_perform_350 ?_
        refine lv_bipush (v := 7) C.1 C.2.1 dX2_perform_353 (by decide) ?_
        obtain ⟨v_52, e_53⟩ : ∃ z, z = (t1.2.2.1 22 (7 : Int32).toNatClampNeg) := ⟨_, rfl⟩
        refine k_ild (v := v_52) C hP 22 rfl (vin (by decide)) e_53.symm dX2_perform_355 ?_
        refine hz_Si (As := [.int v_52]) (rest := [.int (t1.1 4 15), .int (t1.1 4 14), .int (t1.1 4 13), .ref (ad 3)]) C hP hD hS hA (T_X1_value l D K Z Y ad d1 t1 hok (v_52)) hE hZ (uwS m_47_19 m_23_9 m_14_2 m_23_10) (hdS 1 (by decide +kernel) rfl) ⟨Nat.le_of_ble_eq_true rfl, Nat.le_of_ble_eq_true rfl⟩ rfl rfl rfl hl.1 (Nat.le_of_ble_eq_true rfl) dX2_perform_356 ⟨Nat.le_trans (newC_le _ _) (Nat.le_of_ble_eq_true rfl), (Nat.le_of_ble_eq_true rfl)⟩ (fun r_55 t_54 H locs hw hP hD hS => ?_)
        obtain ⟨h_57, h_58⟩ := hw
        refine lv_lload_n C.1 C.2.1 dX2_perform_359 rfl (lv_at hl 1 rfl) ?_
        refine g_DVv (As := [.int (t1.1 4 13), .int (t1.1 4 14), .int (t1.1 4 15), .int r_55, .long x1]) (rest := []) C hP hD hS hA (T_X10_begin l D K Z Y ad d1 t1 hok hod ((t1.1 4 13)) (show (35 : Int) ≤ ((t1.1 4 13) : Int32).toInt ∧ ((t1.1 4 13) : Int32).toInt ≤ 37 from ⟨by omega, by omega⟩) ((t1.1 4 14)) (show (0 : Int) ≤ ((t1.1 4 14) : Int32).toInt ∧ ((t1.1 4 14) : Int32).toInt ≤ 63 from ⟨by omega, by omega⟩) ((t1.1 4 15)) (show (-2147483648 : Int) ≤ ((t1.1 4 15) : Int32).toInt ∧ ((t1.1 4 15) : Int32).toInt ≤ 1073745919 from ⟨(i_rng _).1, by omega⟩) (r_55) (show (-1073741824 : Int) ≤ (r_55 : Int32).toInt ∧ (r_55 : Int32).toInt ≤ 1073741823 from ⟨by omega, by omega⟩) (x1)) hE hZ hX hle hdf (uwV m_52_2 m_52_3 m_52_4 m_1_20 m_52_5) (hdV 5 (by decide +kernel) rfl) ⟨Nat.le_of_ble_eq_true rfl, Nat.le_of_ble_eq_true rfl⟩ rfl rfl (ci := 9) (q0 := 3) rfl rfl rfl hl.1 (Nat.le_of_ble_eq_true rfl) dX2_perform_360 ⟨Nat.le_of_ble_eq_true rfl, Nat.le_of_ble_eq_true rfl⟩ (fun t_59 d_61 H locs hw hP hD hS hln hle hdf => ?_)
        obtain ⟨hok, f_62, hod⟩ := hw
        have hfr : frA [(3, 8), (4, 3), (4, 4), (4, 5), (4, 10), (18, 1), (18, 3), (19, 3), (20, 3), (21, 3)] [] [10, 11, 12, 15, 16, 17, 22, 32, 33, 34, 35, 36, 37, 38, 39, 40] [13, 14] t t_59 := frA_tr hfr f_62 rfl
        have h_63 : (t_59.1 4 13).toInt = (t1.1 4 13).toInt := ti_eq (f_62.1 4 13 rfl)
        have h_64 : (t_59.1 4 14).toInt = (t1.1 4 14).toInt := ti_eq (f_62.1 4 14 rfl)
        have h_65 : (t_59.1 4 15).toInt = (t1.1 4 15).toInt := ti_eq (f_62.1 4 15 rfl)
        refine lv_goto (tgt := 458) C.1 C.2.1 dX2_perform_363 (by decide) ?_
        exact g_Dvret C hr hlocks hP hD hS ⟨hok, hfr, hod⟩ hle hdf (Nat.le_of_ble_eq_true rfl) (Nat.le_of_ble_eq_true rfl) dX2_perform_458
  have L_246 : ∀ (t1 : tSt) (d1 : dSt) (w246_3 : Int32) (w246_4 : Int32) (H : Heap) (locs : List Loc) (ls : Array Slot), okX t1 → frA [(3, 8), (4, 3), (4, 4), (4, 5), (4, 10), (18, 1), (18, 3), (19, 3), (20, 3), (21, 3)] [] [10, 11, 12, 15, 16, 17, 22, 32, 33, 34, 35, 36, 37, 38, 39, 40] [13, 14] t t1 → okD d1 → dLe d d1 → dFr s.heap.size d d1 → (0 : Int) ≤ w246_4.toInt ∧ w246_4.toInt ≤ 1 → va_P D vwCl ((WX d1) K ad t1) H → va_D A ((WX d1) K ad t1) → va_S A s.heap H locs → lv_has ls 6 [(0, .ref (ad 4)), (1, .long x1), (3, .int w246_3), (4, .int w246_4)] → W p l e (rmD 9 10000 2800000) s m [.ref (ad 4), .long x1].toArray below meth c H locs (newC d d1) 246800 (MQ below (QDV D K ad d (fun (u : tSt) (dd : dSt) => okX u ∧ frA [(3, 8), (4, 3), (4, 4), (4, 5), (4, 10), (18, 1), (18, 3), (19, 3), (20, 3), (21, 3)] [] [10, 11, 12, 15, 16, 17, 22, 32, 33, 34, 35, 36, 37, 38, 39, 40] [13, 14] t u ∧ okD dd) s.heap.size A) [.ref (ad 4), .long x1].toArray s 10000 2800000 A) (F0 m 246 ls []) := by
    intro t1 d1 w246_3 w246_4 H locs ls hok hfr hod hle hdf hw246_4 hP hD hS hl
    refine lv_aload_n C.1 C.2.1 dX2_perform_246 rfl (lv_at hl 0 rfl) ?_
    have h_66 : (0 : Int) ≤ (t1.1 4 13).toInt ∧ (t1.1 4 13).toInt ≤ 63 := hok.1 4 13
    refine k_get (v := .int (t1.1 4 13)) C hP 4 rfl rfl inlX2 13 (by decide) m_45_18 rfl dX2_perform_247 ?_
    refine lv_bipush (v := 24) C.1 C.2.1 dX2_perform_250 (by decide) ?_
    refine lv_icmp_lt (tgt := 315) C.1 C.2.1 dX2_perform_252 (by decide) (fun c_67 => ?_) (fun c_67 => ?_)
    · replace c_67 : (t1.1 4 13).toInt < 24 := i_lt c_67
      exact L_315 t1 d1 w246_3 w246_4 _ _ _ hok hfr hod hle hdf ⟨by omega, by omega⟩ hP hD hS (lv_sub hl [0, 1, 2, 3] rfl)
    · replace c_67 : 24 ≤ (t1.1 4 13).toInt := i_nlt c_67
      refine lv_aload_n C.1 C.2.1 dX2_perform_255 rfl (lv_at hl 0 rfl) ?_
      refine k_get (v := .int (t1.1 4 13)) C hP 4 rfl rfl inlX2 13 (by decide) m_45_18 rfl dX2_perform_256 ?_
      refine lv_bipush (v := 33) C.1 C.2.1 dX2_perform_259 (by decide) ?_
      refine lv_icmp_gt (tgt := 315) C.1 C.2.1 dX2_perform_261 (by decide) (fun c_68 => ?_) (fun c_68 => ?_)
      · replace c_68 : 33 < (t1.1 4 13).toInt := i_lt c_68
        exact L_315 t1 d1 w246_3 w246_4 _ _ _ hok hfr hod hle hdf ⟨by omega, by omega⟩ hP hD hS (lv_sub hl [0, 1, 2, 3] rfl)
      · replace c_68 : (t1.1 4 13).toInt ≤ 33 := i_nlt c_68
        refine lv_aload_n C.1 C.2.1 dX2_perform_264 rfl (lv_at hl 0 rfl) ?_
        refine lv_aload_n C.1 C.2.1 dX2_perform_265 rfl (lv_at hl 0 rfl) ?_
        have h_69 : (-2147483648 : Int) ≤ (t1.1 4 15).toInt ∧ (t1.1 4 15).toInt ≤ 1073745919 := hok.1 4 15
        refine k_get (v := .int (t1.1 4 15)) C hP 4 rfl rfl inlX2 15 (by decide) m_47_12 rfl dX2_perform_266 ?_
        refine lv_aload_n C.1 C.2.1 dX2_perform_269 rfl (lv_at hl 0 rfl) ?_
        refine lv_aload_n C.1 C.2.1 dX2_perform_270 rfl (lv_at hl 0 rfl) ?_
        refine k_get (v := .int (t1.1 4 15)) C hP 4 rfl rfl inlX2 15 (by decide) m_47_12 rfl dX2_perform_271 ?_
        refine hz_Vi (As := [.int (t1.1 4 15)]) (rest := [.int (t1.1 4 15), .ref (ad 4)]) C hP hD hS hA (T_X2_load l D K Z Y ad d1 t1 hok ((t1.1 4 15))) hE hZ (uwV m_47_3 m_47_4 m_47_5 m_1_23 m_47_6) (hdV 1 (by decide +kernel) rfl) ⟨Nat.le_of_ble_eq_true rfl, Nat.le_of_ble_eq_true rfl⟩ rfl rfl (ci := 1) (q0 := 4) rfl rfl rfl hl.1 (Nat.le_of_ble_eq_true rfl) dX2_perform_274 ⟨Nat.le_trans (newC_le _ _) (Nat.le_of_ble_eq_true rfl), (Nat.le_of_ble_eq_true rfl)⟩ (fun r_71 t_70 H locs hw hP hD hS => ?_)
        obtain ⟨h_73, h_74⟩ := hw
        refine lv_aload_n C.1 C.2.1 dX2_perform_277 rfl (lv_at hl 0 rfl) ?_
        have h_75 : (0 : Int) ≤ (t1.1 4 14).toInt ∧ (t1.1 4 14).toInt ≤ 63 := hok.1 4 14
        refine k_get (v := .int (t1.1 4 14)) C hP 4 rfl rfl inlX2 14 (by decide) m_45_19 rfl dX2_perform_278 ?_
        refine lv_aload_n C.1 C.2.1 dX2_perform_281 rfl (lv_at hl 0 rfl) ?_
        refine k_get (v := .int (t1.1 4 13)) C hP 4 rfl rfl inlX2 13 (by decide) m_45_18 rfl dX2_perform_282 ?_
        refine lv_bipush (v := 33) C.1 C.2.1 dX2_perform_285 (by decide) ?_
        refine lv_icmp_ne (tgt := 294) C.1 C.2.1 dX2_perform_287 (by decide) (fun c_76 => ?_) (fun c_76 => ?_)
        · replace c_76 : ¬ (t1.1 4 13).toInt = 33 := i_ne c_76
          refine lv_aload_n C.1 C.2.1 dX2_perform_294 rfl (lv_at hl 0 rfl) ?_
          refine k_get (v := .ref (ad 22)) C hP 4 rfl rfl inlX2 1 (by decide) m_4_16 rfl dX2_perform_295 ?_
          refine lv_aload_n C.1 C.2.1 dX2_perform_298 rfl (lv_at hl 0 rfl) ?_
          refine k_get (v := .int (t1.1 4 13)) C hP 4 rfl rfl inlX2 13 (by decide) m_45_18 rfl dX2_perform_299 ?_
          refine lv_bipush (v := 24) C.1 C.2.1 dX2_perform_302 (by decide) ?_
          obtain ⟨v_77, e_78⟩ : ∃ z, z = ((t1.1 4 13) : Int32) - (24 : Int32) := ⟨_, rfl⟩
          have h_79 : v_77.toInt = (t1.1 4 13).toInt - 24 := by rw [e_78]; exact ti_isub (by show (_ : Int) ≤ (t1.1 4 13).toInt - 24; omega) (by show (t1.1 4 13).toInt - 24 < (_ : Int); omega)
          refine k_isub (v := v_77) C e_78.symm dX2_perform_304 ?_
          obtain ⟨v_80, e_81⟩ : ∃ z, z = (t1.2.2.1 22 (v_77 : Int32).toNatClampNeg) := ⟨_, rfl⟩
          refine k_ild (v := v_80) C hP 22 rfl (vp_in_iff.mpr ⟨by omega, by omega⟩) e_81.symm dX2_perform_305 ?_
          refine hz_Si (As := [.int r_71, .int (t1.1 4 14), .int v_80]) (rest := [.int (t1.1 4 15), .ref (ad 4)]) C hP hD hS hA (T_X1_stored l D K Z Y ad d1 t1 hok (r_71) ((t1.1 4 14)) (show (-1073741824 : Int) ≤ ((t1.1 4 14) : Int32).toInt ∧ ((t1.1 4 14) : Int32).toInt ≤ 1073741823 from ⟨by omega, by omega⟩) (v_80)) hE hZ (uwS m_52_1 m_24_3 m_14_2 m_24_4) (hdS 3 (by decide +kernel) rfl) ⟨Nat.le_of_ble_eq_true rfl, Nat.le_of_ble_eq_true rfl⟩ rfl rfl rfl hl.1 (Nat.le_of_ble_eq_true rfl) dX2_perform_306 ⟨Nat.le_trans (newC_le _ _) (Nat.le_of_ble_eq_true rfl), (Nat.le_of_ble_eq_true rfl)⟩ (fun r_83 t_82 H locs hw hP hD hS => ?_)
          obtain ⟨h_85, h_86⟩ := hw
          refine hz_Vv (As := [.int (t1.1 4 15), .int r_83]) (rest := []) C hP hD hS hA (T_X2_save l D K Z Y ad d1 t1 hok ((t1.1 4 15)) (show (-2147483648 : Int) ≤ ((t1.1 4 15) : Int32).toInt ∧ ((t1.1 4 15) : Int32).toInt ≤ 1073745919 from ⟨(i_rng _).1, by omega⟩) (r_83)) hE hZ (uwV m_46_8 m_46_9 m_46_10 m_1_23 m_46_11) (hdV 2 (by decide +kernel) rfl) ⟨Nat.le_of_ble_eq_true rfl, Nat.le_of_ble_eq_true rfl⟩ rfl rfl (ci := 1) (q0 := 4) rfl rfl rfl hl.1 (Nat.le_of_ble_eq_true rfl) dX2_perform_309 ⟨Nat.le_trans (newC_le _ _) (Nat.le_of_ble_eq_true rfl), (Nat.le_of_ble_eq_true rfl)⟩ (fun t_87 H locs hw hP hD hS => ?_)
          obtain ⟨hok, f_89⟩ := hw
          have hfr : frA [(3, 8), (4, 3), (4, 4), (4, 5), (4, 10), (18, 1), (18, 3), (19, 3), (20, 3), (21, 3)] [] [10, 11, 12, 15, 16, 17, 22, 32, 33, 34, 35, 36, 37, 38, 39, 40] [13, 14] t t_87 := frA_tr hfr f_89 rfl
          have h_90 : (t_87.1 4 13).toInt = (t1.1 4 13).toInt := ti_eq (f_89.1 4 13 rfl)
          have h_91 : (t_87.1 4 15).toInt = (t1.1 4 15).toInt := ti_eq (f_89.1 4 15 rfl)
          have h_92 : (t_87.1 4 14).toInt = (t1.1 4 14).toInt := ti_eq (f_89.1 4 14 rfl)
          refine lv_goto (tgt := 458) C.1 C.2.1 dX2_perform_312 (by decide) ?_
          exact g_Dvret C hr hlocks hP hD hS ⟨hok, hfr, hod⟩ hle hdf (Nat.le_of_ble_eq_true rfl) (Nat.le_of_ble_eq_true rfl) dX2_perform_458
        · replace c_76 : (t1.1 4 13).toInt = 33 := i_eq c_76
          refine lv_iconst (v := 0) C.1 C.2.1 dX2_perform_290 (by decide) ?_
          refine lv_goto (tgt := 306) C.1 C.2.1 dX2_perform_291 (by decide) ?_
          refine hz_Si (As := [.int r_71, .int (t1.1 4 14), .int 0]) (rest := [.int (t1.1 4 15), .ref (ad 4)]) C hP hD hS hA (T_X1_stored l D K Z Y ad d1 t1 hok (r_71) ((t1.1 4 14)) (show (-1073741824 : Int) ≤ ((t1.1 4 14) : Int32).toInt ∧ ((t1.1 4 14) : Int32).toInt ≤ 1073741823 from ⟨by omega, by omega⟩) 0) hE hZ (uwS m_52_1 m_24_3 m_14_2 m_24_4) (hdS 3 (by decide +kernel) rfl) ⟨Nat.le_of_ble_eq_true rfl, Nat.le_of_ble_eq_true rfl⟩ rfl rfl rfl hl.1 (Nat.le_of_ble_eq_true rfl) dX2_perform_306 ⟨Nat.le_trans (newC_le _ _) (Nat.le_of_ble_eq_true rfl), (Nat.le_of_ble_eq_true rfl)⟩ (fun r_94 t_93 H locs hw hP hD hS => ?_)
          obtain ⟨h_96, h_97⟩ := hw
          refine hz_Vv (As := [.int (t1.1 4 15), .int r_94]) (rest := []) C hP hD hS hA (T_X2_save l D K Z Y ad d1 t1 hok ((t1.1 4 15)) (show (-2147483648 : Int) ≤ ((t1.1 4 15) : Int32).toInt ∧ ((t1.1 4 15) : Int32).toInt ≤ 1073745919 from ⟨(i_rng _).1, by omega⟩) (r_94)) hE hZ (uwV m_46_8 m_46_9 m_46_10 m_1_23 m_46_11) (hdV 2 (by decide +kernel) rfl) ⟨Nat.le_of_ble_eq_true rfl, Nat.le_of_ble_eq_true rfl⟩ rfl rfl (ci := 1) (q0 := 4) rfl rfl rfl hl.1 (Nat.le_of_ble_eq_true rfl) dX2_perform_309 ⟨Nat.le_trans (newC_le _ _) (Nat.le_of_ble_eq_true rfl), (Nat.le_of_ble_eq_true rfl)⟩ (fun t_98 H locs hw hP hD hS => ?_)
          obtain ⟨hok, f_100⟩ := hw
          have hfr : frA [(3, 8), (4, 3), (4, 4), (4, 5), (4, 10), (18, 1), (18, 3), (19, 3), (20, 3), (21, 3)] [] [10, 11, 12, 15, 16, 17, 22, 32, 33, 34, 35, 36, 37, 38, 39, 40] [13, 14] t t_98 := frA_tr hfr f_100 rfl
          have h_101 : (t_98.1 4 13).toInt = (t1.1 4 13).toInt := ti_eq (f_100.1 4 13 rfl)
          have h_102 : (t_98.1 4 15).toInt = (t1.1 4 15).toInt := ti_eq (f_100.1 4 15 rfl)
          have h_103 : (t_98.1 4 14).toInt = (t1.1 4 14).toInt := ti_eq (f_100.1 4 14 rfl)
          refine lv_goto (tgt := 458) C.1 C.2.1 dX2_perform_312 (by decide) ?_
          exact g_Dvret C hr hlocks hP hD hS ⟨hok, hfr, hod⟩ hle hdf (Nat.le_of_ble_eq_true rfl) (Nat.le_of_ble_eq_true rfl) dX2_perform_458
  have L_135 : ∀ (t1 : tSt) (d1 : dSt) (w135_3 : Int32) (w135_4 : Int32) (H : Heap) (locs : List Loc) (ls : Array Slot), okX t1 → frA [(3, 8), (4, 3), (4, 4), (4, 5), (4, 10), (18, 1), (18, 3), (19, 3), (20, 3), (21, 3)] [] [10, 11, 12, 15, 16, 17, 22, 32, 33, 34, 35, 36, 37, 38, 39, 40] [13, 14] t t1 → okD d1 → dLe d d1 → dFr s.heap.size d d1 → (0 : Int) ≤ w135_4.toInt ∧ w135_4.toInt ≤ 1 → va_P D vwCl ((WX d1) K ad t1) H → va_D A ((WX d1) K ad t1) → va_S A s.heap H locs → lv_has ls 6 [(0, .ref (ad 4)), (1, .long x1), (3, .int w135_3), (4, .int w135_4)] → W p l e (rmD 9 10000 2800000) s m [.ref (ad 4), .long x1].toArray below meth c H locs (newC d d1) 246800 (MQ below (QDV D K ad d (fun (u : tSt) (dd : dSt) => okX u ∧ frA [(3, 8), (4, 3), (4, 4), (4, 5), (4, 10), (18, 1), (18, 3), (19, 3), (20, 3), (21, 3)] [] [10, 11, 12, 15, 16, 17, 22, 32, 33, 34, 35, 36, 37, 38, 39, 40] [13, 14] t u ∧ okD dd) s.heap.size A) [.ref (ad 4), .long x1].toArray s 10000 2800000 A) (F0 m 135 ls []) := by
    intro t1 d1 w135_3 w135_4 H locs ls hok hfr hod hle hdf hw135_4 hP hD hS hl
    refine lv_aload_n C.1 C.2.1 dX2_perform_135 rfl (lv_at hl 0 rfl) ?_
    have h_104 : (0 : Int) ≤ (t1.1 4 13).toInt ∧ (t1.1 4 13).toInt ≤ 63 := hok.1 4 13
    refine k_get (v := .int (t1.1 4 13)) C hP 4 rfl rfl inlX2 13 (by decide) m_45_18 rfl dX2_perform_136 ?_
    refine lv_iconst (v := 5) C.1 C.2.1 dX2_perform_139 (by decide) ?_
    refine lv_icmp_ne (tgt := 150) C.1 C.2.1 dX2_perform_140 (by decide) (fun c_105 => ?_) (fun c_105 => ?_)
    · replace c_105 : ¬ (t1.1 4 13).toInt = 5 := i_ne c_105
      refine lv_aload_n C.1 C.2.1 dX2_perform_150 rfl (lv_at hl 0 rfl) ?_
      refine k_get (v := .int (t1.1 4 13)) C hP 4 rfl rfl inlX2 13 (by decide) m_45_18 rfl dX2_perform_151 ?_
      refine lv_bipush (v := 6) C.1 C.2.1 dX2_perform_154 (by decide) ?_
      refine lv_icmp_ne (tgt := 166) C.1 C.2.1 dX2_perform_156 (by decide) (fun c_106 => ?_) (fun c_106 => ?_)
      · replace c_106 : ¬ (t1.1 4 13).toInt = 6 := i_ne c_106
        refine lv_aload_n C.1 C.2.1 dX2_perform_166 rfl (lv_at hl 0 rfl) ?_
        refine k_get (v := .int (t1.1 4 13)) C hP 4 rfl rfl inlX2 13 (by decide) m_45_18 rfl dX2_perform_167 ?_
        refine lv_bipush (v := 7) C.1 C.2.1 dX2_perform_170 (by decide) ?_
        refine lv_icmp_ne (tgt := 182) C.1 C.2.1 dX2_perform_172 (by decide) (fun c_107 => ?_) (fun c_107 => ?_)
        · replace c_107 : ¬ (t1.1 4 13).toInt = 7 := i_ne c_107
          refine lv_aload_n C.1 C.2.1 dX2_perform_182 rfl (lv_at hl 0 rfl) ?_
          refine k_get (v := .int (t1.1 4 13)) C hP 4 rfl rfl inlX2 13 (by decide) m_45_18 rfl dX2_perform_183 ?_
          refine lv_bipush (v := 8) C.1 C.2.1 dX2_perform_186 (by decide) ?_
          refine lv_icmp_lt (tgt := 246) C.1 C.2.1 dX2_perform_188 (by decide) (fun c_108 => ?_) (fun c_108 => ?_)
          · replace c_108 : (t1.1 4 13).toInt < 8 := i_lt c_108
            exact L_246 t1 d1 w135_3 w135_4 _ _ _ hok hfr hod hle hdf ⟨by omega, by omega⟩ hP hD hS (lv_sub hl [0, 1, 2, 3] rfl)
          · replace c_108 : 8 ≤ (t1.1 4 13).toInt := i_nlt c_108
            refine lv_aload_n C.1 C.2.1 dX2_perform_191 rfl (lv_at hl 0 rfl) ?_
            refine k_get (v := .int (t1.1 4 13)) C hP 4 rfl rfl inlX2 13 (by decide) m_45_18 rfl dX2_perform_192 ?_
            refine lv_bipush (v := 23) C.1 C.2.1 dX2_perform_195 (by decide) ?_
            refine lv_icmp_gt (tgt := 246) C.1 C.2.1 dX2_perform_197 (by decide) (fun c_109 => ?_) (fun c_109 => ?_)
            · replace c_109 : 23 < (t1.1 4 13).toInt := i_lt c_109
              exact L_246 t1 d1 w135_3 w135_4 _ _ _ hok hfr hod hle hdf ⟨by omega, by omega⟩ hP hD hS (lv_sub hl [0, 1, 2, 3] rfl)
            · replace c_109 : (t1.1 4 13).toInt ≤ 23 := i_nlt c_109
              refine lv_aload_n C.1 C.2.1 dX2_perform_200 rfl (lv_at hl 0 rfl) ?_
              refine k_get (v := .ref (ad 22)) C hP 4 rfl rfl inlX2 1 (by decide) m_4_16 rfl dX2_perform_201 ?_
              refine lv_aload_n C.1 C.2.1 dX2_perform_204 rfl (lv_at hl 0 rfl) ?_
              refine k_get (v := .int (t1.1 4 13)) C hP 4 rfl rfl inlX2 13 (by decide) m_45_18 rfl dX2_perform_205 ?_
              refine lv_bipush (v := 7) C.1 C.2.1 dX2_perform_208 (by decide) ?_
              obtain ⟨v_110, e_111⟩ : ∃ z, z = ((t1.1 4 13) : Int32) &&& (7 : Int32) := ⟨_, rfl⟩
              have h_112 : v_110.toInt = (t1.1 4 13).toInt % 2 ^ 3 := by rw [e_111]; exact Jvm.Kit.i32_mask _ _ (k := 3) (by decide) (by decide)
              refine k_iand (v := v_110) C e_111.symm dX2_perform_210 ?_
              refine lv_aload_n C.1 C.2.1 dX2_perform_211 rfl (lv_at hl 0 rfl) ?_
              refine lv_aload_n C.1 C.2.1 dX2_perform_212 rfl (lv_at hl 0 rfl) ?_
              have h_113 : (-2147483648 : Int) ≤ (t1.1 4 15).toInt ∧ (t1.1 4 15).toInt ≤ 1073745919 := hok.1 4 15
              refine k_get (v := .int (t1.1 4 15)) C hP 4 rfl rfl inlX2 15 (by decide) m_47_12 rfl dX2_perform_213 ?_
              refine hz_Vi (As := [.int (t1.1 4 15)]) (rest := [.int v_110, .ref (ad 22)]) C hP hD hS hA (T_X2_load l D K Z Y ad d1 t1 hok ((t1.1 4 15))) hE hZ (uwV m_47_3 m_47_4 m_47_5 m_1_23 m_47_6) (hdV 1 (by decide +kernel) rfl) ⟨Nat.le_of_ble_eq_true rfl, Nat.le_of_ble_eq_true rfl⟩ rfl rfl (ci := 1) (q0 := 4) rfl rfl rfl hl.1 (Nat.le_of_ble_eq_true rfl) dX2_perform_216 ⟨Nat.le_trans (newC_le _ _) (Nat.le_of_ble_eq_true rfl), (Nat.le_of_ble_eq_true rfl)⟩ (fun r_115 t_114 H locs hw hP hD hS => ?_)
              obtain ⟨h_117, h_118⟩ := hw
              refine lv_aload_n C.1 C.2.1 dX2_perform_219 rfl (lv_at hl 0 rfl) ?_
              have h_119 : (0 : Int) ≤ (t1.1 4 14).toInt ∧ (t1.1 4 14).toInt ≤ 63 := hok.1 4 14
              refine k_get (v := .int (t1.1 4 14)) C hP 4 rfl rfl inlX2 14 (by decide) m_45_19 rfl dX2_perform_220 ?_
              refine hz_Si (As := [.int r_115, .int (t1.1 4 14)]) (rest := [.int v_110, .ref (ad 22)]) C hP hD hS hA (T_X1_field l D K Z Y ad d1 t1 hok (r_115) ((t1.1 4 14)) (show (0 : Int) ≤ ((t1.1 4 14) : Int32).toInt ∧ ((t1.1 4 14) : Int32).toInt ≤ 63 from ⟨by omega, by omega⟩)) hE hZ (uwS m_49_3 m_49_4 m_14_2 m_49_5) (hdS 2 (by decide +kernel) rfl) ⟨Nat.le_of_ble_eq_true rfl, Nat.le_of_ble_eq_true rfl⟩ rfl rfl rfl hl.1 (Nat.le_of_ble_eq_true rfl) dX2_perform_223 ⟨Nat.le_trans (newC_le _ _) (Nat.le_of_ble_eq_true rfl), (Nat.le_of_ble_eq_true rfl)⟩ (fun r_121 t_120 H locs hw hP hD hS => ?_)
              obtain ⟨h_123, h_124⟩ := hw
              refine lv_aload_n C.1 C.2.1 dX2_perform_226 rfl (lv_at hl 0 rfl) ?_
              refine k_get (v := .int (t1.1 4 13)) C hP 4 rfl rfl inlX2 13 (by decide) m_45_18 rfl dX2_perform_227 ?_
              refine lv_bipush (v := 16) C.1 C.2.1 dX2_perform_230 (by decide) ?_
              refine lv_icmp_lt (tgt := 240) C.1 C.2.1 dX2_perform_232 (by decide) (fun c_125 => ?_) (fun c_125 => ?_)
              · replace c_125 : (t1.1 4 13).toInt < 16 := i_lt c_125
                refine lv_iconst (v := 0) C.1 C.2.1 dX2_perform_240 (by decide) ?_
                obtain ⟨v_126, e_127⟩ : ∃ z, z = (r_121 : Int32) ^^^ (0 : Int32) := ⟨_, rfl⟩
                have h_128 : (0 : Int) ≤ v_126.toInt ∧ v_126.toInt ≤ 2147483647 := by rw [e_127]; exact z_xor (k := 31) (by decide) (by show (0 : Int) ≤ r_121.toInt; omega) (by show r_121.toInt < (_ : Int); omega) (by show (0 : Int) ≤ 0; omega) (by show 0 < (_ : Int); omega)
                refine k_ixor (v := v_126) C e_127.symm dX2_perform_241 ?_
                refine k_ist (ws' := (WX d1) K ad (uB t1 22 (v_110 : Int32).toNatClampNeg v_126)) (x' := v_126) C hP hD hS 22 rfl (vp_in_iff.mpr ⟨by omega, by omega⟩) rfl rfl rfl dX2_perform_242 (fun H locs hP hD hS => ?_)
                have hok : okX (uB t1 22 (v_110 : Int32).toNatClampNeg v_126) := ⟨hok.1, okB_B hok.2.1 22 _ v_126 (show (-2147483648 : Int) ≤ (v_126 : Int32).toInt ∧ (v_126 : Int32).toInt ≤ 2147483647 from (i_rng _)), trivial⟩
                have hfr : frA [(3, 8), (4, 3), (4, 4), (4, 5), (4, 10), (18, 1), (18, 3), (19, 3), (20, 3), (21, 3)] [] [10, 11, 12, 15, 16, 17, 22, 32, 33, 34, 35, 36, 37, 38, 39, 40] [13, 14] t (uB t1 22 (v_110 : Int32).toNatClampNeg v_126) := frA_B hfr 22 _ _ rfl
                refine lv_goto (tgt := 458) C.1 C.2.1 dX2_perform_243 (by decide) ?_
                exact g_Dvret C hr hlocks hP hD hS ⟨hok, hfr, hod⟩ hle hdf (Nat.le_of_ble_eq_true rfl) (Nat.le_of_ble_eq_true rfl) dX2_perform_458
              · replace c_125 : 16 ≤ (t1.1 4 13).toInt := i_nlt c_125
                refine lv_ldc (v := 1073741824) C.1 C.2.1 C.2.2.2.1 (C.2.2.2.2.1 _ m_47_11) dX2_perform_235 ?_
                refine lv_goto (tgt := 241) C.1 C.2.1 dX2_perform_237 (by decide) ?_
                obtain ⟨v_129, e_130⟩ : ∃ z, z = (r_121 : Int32) ^^^ (1073741824 : Int32) := ⟨_, rfl⟩
                have h_131 : (0 : Int) ≤ v_129.toInt ∧ v_129.toInt ≤ 2147483647 := by rw [e_130]; exact z_xor (k := 31) (by decide) (by show (0 : Int) ≤ r_121.toInt; omega) (by show r_121.toInt < (_ : Int); omega) (by show (0 : Int) ≤ 1073741824; omega) (by show 1073741824 < (_ : Int); omega)
                refine k_ixor (v := v_129) C e_130.symm dX2_perform_241 ?_
                refine k_ist (ws' := (WX d1) K ad (uB t1 22 (v_110 : Int32).toNatClampNeg v_129)) (x' := v_129) C hP hD hS 22 rfl (vp_in_iff.mpr ⟨by omega, by omega⟩) rfl rfl rfl dX2_perform_242 (fun H locs hP hD hS => ?_)
                have hok : okX (uB t1 22 (v_110 : Int32).toNatClampNeg v_129) := ⟨hok.1, okB_B hok.2.1 22 _ v_129 (show (-2147483648 : Int) ≤ (v_129 : Int32).toInt ∧ (v_129 : Int32).toInt ≤ 2147483647 from (i_rng _)), trivial⟩
                have hfr : frA [(3, 8), (4, 3), (4, 4), (4, 5), (4, 10), (18, 1), (18, 3), (19, 3), (20, 3), (21, 3)] [] [10, 11, 12, 15, 16, 17, 22, 32, 33, 34, 35, 36, 37, 38, 39, 40] [13, 14] t (uB t1 22 (v_110 : Int32).toNatClampNeg v_129) := frA_B hfr 22 _ _ rfl
                refine lv_goto (tgt := 458) C.1 C.2.1 dX2_perform_243 (by decide) ?_
                exact g_Dvret C hr hlocks hP hD hS ⟨hok, hfr, hod⟩ hle hdf (Nat.le_of_ble_eq_true rfl) (Nat.le_of_ble_eq_true rfl) dX2_perform_458
        · replace c_107 : (t1.1 4 13).toInt = 7 := i_eq c_107
          refine lv_aload_n C.1 C.2.1 dX2_perform_175 rfl (lv_at hl 0 rfl) ?_
          refine hz_Vv (As := []) (rest := []) C hP hD hS hA (T_X2_move l D K Z Y ad d1 t1 hok ) hE hZ (uwV m_51_21 m_51_22 m_51_23 m_1_23 m_52_0) (hdV 0 (by decide +kernel) rfl) ⟨Nat.le_of_ble_eq_true rfl, Nat.le_of_ble_eq_true rfl⟩ rfl rfl (ci := 1) (q0 := 4) rfl rfl rfl hl.1 (Nat.le_of_ble_eq_true rfl) dX2_perform_176 ⟨Nat.le_trans (newC_le _ _) (Nat.le_of_ble_eq_true rfl), (Nat.le_of_ble_eq_true rfl)⟩ (fun t_132 H locs hw hP hD hS => ?_)
          obtain ⟨hok, f_134⟩ := hw
          have hfr : frA [(3, 8), (4, 3), (4, 4), (4, 5), (4, 10), (18, 1), (18, 3), (19, 3), (20, 3), (21, 3)] [] [10, 11, 12, 15, 16, 17, 22, 32, 33, 34, 35, 36, 37, 38, 39, 40] [13, 14] t t_132 := frA_tr hfr f_134 rfl
          have h_135 : (t_132.1 4 13).toInt = (t1.1 4 13).toInt := ti_eq (f_134.1 4 13 rfl)
          refine lv_goto (tgt := 458) C.1 C.2.1 dX2_perform_179 (by decide) ?_
          exact g_Dvret C hr hlocks hP hD hS ⟨hok, hfr, hod⟩ hle hdf (Nat.le_of_ble_eq_true rfl) (Nat.le_of_ble_eq_true rfl) dX2_perform_458
      · replace c_106 : (t1.1 4 13).toInt = 6 := i_eq c_106
        refine lv_aload_n C.1 C.2.1 dX2_perform_159 rfl (lv_at hl 0 rfl) ?_
        refine hz_Vv (As := []) (rest := []) C hP hD hS hA (T_X2_shift l D K Z Y ad d1 t1 hok ) hE hZ (uwV m_51_17 m_51_18 m_51_19 m_1_23 m_51_20) (hdV 0 (by decide +kernel) rfl) ⟨Nat.le_of_ble_eq_true rfl, Nat.le_of_ble_eq_true rfl⟩ rfl rfl (ci := 1) (q0 := 4) rfl rfl rfl hl.1 (Nat.le_of_ble_eq_true rfl) dX2_perform_160 ⟨Nat.le_trans (newC_le _ _) (Nat.le_of_ble_eq_true rfl), (Nat.le_of_ble_eq_true rfl)⟩ (fun t_136 H locs hw hP hD hS => ?_)
        obtain ⟨hok, f_138⟩ := hw
        have hfr : frA [(3, 8), (4, 3), (4, 4), (4, 5), (4, 10), (18, 1), (18, 3), (19, 3), (20, 3), (21, 3)] [] [10, 11, 12, 15, 16, 17, 22, 32, 33, 34, 35, 36, 37, 38, 39, 40] [13, 14] t t_136 := frA_tr hfr f_138 rfl
        have h_139 : (t_136.1 4 13).toInt = (t1.1 4 13).toInt := ti_eq (f_138.1 4 13 rfl)
        refine lv_goto (tgt := 458) C.1 C.2.1 dX2_perform_163 (by decide) ?_
        exact g_Dvret C hr hlocks hP hD hS ⟨hok, hfr, hod⟩ hle hdf (Nat.le_of_ble_eq_true rfl) (Nat.le_of_ble_eq_true rfl) dX2_perform_458
    · replace c_105 : (t1.1 4 13).toInt = 5 := i_eq c_105
      refine lv_aload_n C.1 C.2.1 dX2_perform_143 rfl (lv_at hl 0 rfl) ?_
      refine hz_Vv (As := []) (rest := []) C hP hD hS hA (T_X2_convert l D K Z Y ad d1 t1 hok ) hE hZ (uwV m_51_2 m_51_3 m_51_4 m_1_23 m_51_5) (hdV 0 (by decide +kernel) rfl) ⟨Nat.le_of_ble_eq_true rfl, Nat.le_of_ble_eq_true rfl⟩ rfl rfl (ci := 1) (q0 := 4) rfl rfl rfl hl.1 (Nat.le_of_ble_eq_true rfl) dX2_perform_144 ⟨Nat.le_trans (newC_le _ _) (Nat.le_of_ble_eq_true rfl), (Nat.le_of_ble_eq_true rfl)⟩ (fun t_140 H locs hw hP hD hS => ?_)
      obtain ⟨hok, f_142⟩ := hw
      have hfr : frA [(3, 8), (4, 3), (4, 4), (4, 5), (4, 10), (18, 1), (18, 3), (19, 3), (20, 3), (21, 3)] [] [10, 11, 12, 15, 16, 17, 22, 32, 33, 34, 35, 36, 37, 38, 39, 40] [13, 14] t t_140 := frA_tr hfr f_142 rfl
      have h_143 : (t_140.1 4 13).toInt = (t1.1 4 13).toInt := ti_eq (f_142.1 4 13 rfl)
      refine lv_goto (tgt := 458) C.1 C.2.1 dX2_perform_147 (by decide) ?_
      exact g_Dvret C hr hlocks hP hD hS ⟨hok, hfr, hod⟩ hle hdf (Nat.le_of_ble_eq_true rfl) (Nat.le_of_ble_eq_true rfl) dX2_perform_458
  have L_97 : ∀ (t1 : tSt) (d1 : dSt) (w97_3 : Int32) (w97_4 : Int32) (H : Heap) (locs : List Loc) (ls : Array Slot), okX t1 → frA [(3, 8), (4, 3), (4, 4), (4, 5), (4, 10), (18, 1), (18, 3), (19, 3), (20, 3), (21, 3)] [] [10, 11, 12, 15, 16, 17, 22, 32, 33, 34, 35, 36, 37, 38, 39, 40] [13, 14] t t1 → okD d1 → dLe d d1 → dFr s.heap.size d d1 → (0 : Int) ≤ w97_4.toInt ∧ w97_4.toInt ≤ 1 → va_P D vwCl ((WX d1) K ad t1) H → va_D A ((WX d1) K ad t1) → va_S A s.heap H locs → lv_has ls 6 [(0, .ref (ad 4)), (1, .long x1), (3, .int w97_3), (4, .int w97_4)] → W p l e (rmD 9 10000 2800000) s m [.ref (ad 4), .long x1].toArray below meth c H locs (newC d d1) 246800 (MQ below (QDV D K ad d (fun (u : tSt) (dd : dSt) => okX u ∧ frA [(3, 8), (4, 3), (4, 4), (4, 5), (4, 10), (18, 1), (18, 3), (19, 3), (20, 3), (21, 3)] [] [10, 11, 12, 15, 16, 17, 22, 32, 33, 34, 35, 36, 37, 38, 39, 40] [13, 14] t u ∧ okD dd) s.heap.size A) [.ref (ad 4), .long x1].toArray s 10000 2800000 A) (F0 m 97 ls []) := by
    intro t1 d1 w97_3 w97_4 H locs ls hok hfr hod hle hdf hw97_4 hP hD hS hl
    refine lv_aload_n C.1 C.2.1 dX2_perform_97 rfl (lv_at hl 0 rfl) ?_
    have h_144 : (0 : Int) ≤ (t1.1 4 13).toInt ∧ (t1.1 4 13).toInt ≤ 63 := hok.1 4 13
    refine k_get (v := .int (t1.1 4 13)) C hP 4 rfl rfl inlX2 13 (by decide) m_45_18 rfl dX2_perform_98 ?_
    refine lv_iconst (v := 1) C.1 C.2.1 dX2_perform_101 (by decide) ?_
    refine lv_icmp_lt (tgt := 135) C.1 C.2.1 dX2_perform_102 (by decide) (fun c_145 => ?_) (fun c_145 => ?_)
    · replace c_145 : (t1.1 4 13).toInt < 1 := i_lt c_145
      exact L_135 t1 d1 w97_3 w97_4 _ _ _ hok hfr hod hle hdf ⟨by omega, by omega⟩ hP hD hS (lv_sub hl [0, 1, 2, 3] rfl)
    · replace c_145 : 1 ≤ (t1.1 4 13).toInt := i_nlt c_145
      refine lv_aload_n C.1 C.2.1 dX2_perform_105 rfl (lv_at hl 0 rfl) ?_
      refine k_get (v := .int (t1.1 4 13)) C hP 4 rfl rfl inlX2 13 (by decide) m_45_18 rfl dX2_perform_106 ?_
      refine lv_iconst (v := 4) C.1 C.2.1 dX2_perform_109 (by decide) ?_
      refine lv_icmp_gt (tgt := 135) C.1 C.2.1 dX2_perform_110 (by decide) (fun c_146 => ?_) (fun c_146 => ?_)
      · replace c_146 : 4 < (t1.1 4 13).toInt := i_lt c_146
        exact L_135 t1 d1 w97_3 w97_4 _ _ _ hok hfr hod hle hdf ⟨by omega, by omega⟩ hP hD hS (lv_sub hl [0, 1, 2, 3] rfl)
      · replace c_146 : (t1.1 4 13).toInt ≤ 4 := i_nlt c_146
        refine lv_aload_n C.1 C.2.1 dX2_perform_113 rfl (lv_at hl 0 rfl) ?_
        refine lv_aload_n C.1 C.2.1 dX2_perform_114 rfl (lv_at hl 0 rfl) ?_
        refine lv_aload_n C.1 C.2.1 dX2_perform_115 rfl (lv_at hl 0 rfl) ?_
        have h_147 : (-2147483648 : Int) ≤ (t1.1 4 15).toInt ∧ (t1.1 4 15).toInt ≤ 1073745919 := hok.1 4 15
        refine k_get (v := .int (t1.1 4 15)) C hP 4 rfl rfl inlX2 15 (by decide) m_47_12 rfl dX2_perform_116 ?_
        refine hz_Vi (As := [.int (t1.1 4 15)]) (rest := [.ref (ad 4)]) C hP hD hS hA (T_X2_load l D K Z Y ad d1 t1 hok ((t1.1 4 15))) hE hZ (uwV m_47_3 m_47_4 m_47_5 m_1_23 m_47_6) (hdV 1 (by decide +kernel) rfl) ⟨Nat.le_of_ble_eq_true rfl, Nat.le_of_ble_eq_true rfl⟩ rfl rfl (ci := 1) (q0 := 4) rfl rfl rfl hl.1 (Nat.le_of_ble_eq_true rfl) dX2_perform_119 ⟨Nat.le_trans (newC_le _ _) (Nat.le_of_ble_eq_true rfl), (Nat.le_of_ble_eq_true rfl)⟩ (fun r_149 t_148 H locs hw hP hD hS => ?_)
        obtain ⟨h_151, h_152⟩ := hw
        refine lv_aload_n C.1 C.2.1 dX2_perform_122 rfl (lv_at hl 0 rfl) ?_
        have h_153 : (0 : Int) ≤ (t1.1 4 14).toInt ∧ (t1.1 4 14).toInt ≤ 63 := hok.1 4 14
        refine k_get (v := .int (t1.1 4 14)) C hP 4 rfl rfl inlX2 14 (by decide) m_45_19 rfl dX2_perform_123 ?_
        refine hz_Si (As := [.int r_149, .int (t1.1 4 14)]) (rest := [.ref (ad 4)]) C hP hD hS hA (T_X1_field l D K Z Y ad d1 t1 hok (r_149) ((t1.1 4 14)) (show (0 : Int) ≤ ((t1.1 4 14) : Int32).toInt ∧ ((t1.1 4 14) : Int32).toInt ≤ 63 from ⟨by omega, by omega⟩)) hE hZ (uwS m_49_3 m_49_4 m_14_2 m_49_5) (hdS 2 (by decide +kernel) rfl) ⟨Nat.le_of_ble_eq_true rfl, Nat.le_of_ble_eq_true rfl⟩ rfl rfl rfl hl.1 (Nat.le_of_ble_eq_true rfl) dX2_perform_126 ⟨Nat.le_trans (newC_le _ _) (Nat.le_of_ble_eq_true rfl), (Nat.le_of_ble_eq_true rfl)⟩ (fun r_155 t_154 H locs hw hP hD hS => ?_)
        obtain ⟨h_157, h_158⟩ := hw
        refine hz_Vv (As := [.int r_155]) (rest := []) C hP hD hS hA (T_X2_reckon l D K Z Y ad d1 t1 hok (r_155) (show (0 : Int) ≤ (r_155 : Int32).toInt ∧ (r_155 : Int32).toInt ≤ 2147483647 from ⟨by omega, (i_rng _).2⟩)) hE hZ (uwV m_50_16 m_50_17 m_50_18 m_1_23 m_50_19) (hdV 1 (by decide +kernel) rfl) ⟨Nat.le_of_ble_eq_true rfl, Nat.le_of_ble_eq_true rfl⟩ rfl rfl (ci := 1) (q0 := 4) rfl rfl rfl hl.1 (Nat.le_of_ble_eq_true rfl) dX2_perform_129 ⟨Nat.le_trans (newC_le _ _) (Nat.le_of_ble_eq_true rfl), (Nat.le_of_ble_eq_true rfl)⟩ (fun t_159 H locs hw hP hD hS => ?_)
        obtain ⟨hok, f_161⟩ := hw
        have hfr : frA [(3, 8), (4, 3), (4, 4), (4, 5), (4, 10), (18, 1), (18, 3), (19, 3), (20, 3), (21, 3)] [] [10, 11, 12, 15, 16, 17, 22, 32, 33, 34, 35, 36, 37, 38, 39, 40] [13, 14] t t_159 := frA_tr hfr f_161 rfl
        have h_162 : (t_159.1 4 13).toInt = (t1.1 4 13).toInt := ti_eq (f_161.1 4 13 rfl)
        have h_163 : (t_159.1 4 15).toInt = (t1.1 4 15).toInt := ti_eq (f_161.1 4 15 rfl)
        have h_164 : (t_159.1 4 14).toInt = (t1.1 4 14).toInt := ti_eq (f_161.1 4 14 rfl)
        refine lv_goto (tgt := 458) C.1 C.2.1 dX2_perform_132 (by decide) ?_
        exact g_Dvret C hr hlocks hP hD hS ⟨hok, hfr, hod⟩ hle hdf (Nat.le_of_ble_eq_true rfl) (Nat.le_of_ble_eq_true rfl) dX2_perform_458
  have L_89 : ∀ (t1 : tSt) (d1 : dSt) (w89_3 : Int32) (w89_4 : Int32) (H : Heap) (locs : List Loc) (ls : Array Slot), okX t1 → frA [(3, 8), (4, 3), (4, 4), (4, 5), (4, 10), (18, 1), (18, 3), (19, 3), (20, 3), (21, 3)] [] [10, 11, 12, 15, 16, 17, 22, 32, 33, 34, 35, 36, 37, 38, 39, 40] [13, 14] t t1 → okD d1 → dLe d d1 → dFr s.heap.size d d1 → (0 : Int) ≤ w89_4.toInt ∧ w89_4.toInt ≤ 1 → (39 : Int) ≤ (t1.1 4 13).toInt ∧ (t1.1 4 13).toInt ≤ 39 → (2 : Int) ≤ (t1.1 4 14).toInt ∧ (t1.1 4 14).toInt ≤ 3 → va_P D vwCl ((WX d1) K ad t1) H → va_D A ((WX d1) K ad t1) → va_S A s.heap H locs → lv_has ls 6 [(0, .ref (ad 4)), (1, .long x1), (3, .int w89_3), (4, .int w89_4)] → W p l e (rmD 9 10000 2800000) s m [.ref (ad 4), .long x1].toArray below meth c H locs (newC d d1) 246800 (MQ below (QDV D K ad d (fun (u : tSt) (dd : dSt) => okX u ∧ frA [(3, 8), (4, 3), (4, 4), (4, 5), (4, 10), (18, 1), (18, 3), (19, 3), (20, 3), (21, 3)] [] [10, 11, 12, 15, 16, 17, 22, 32, 33, 34, 35, 36, 37, 38, 39, 40] [13, 14] t u ∧ okD dd) s.heap.size A) [.ref (ad 4), .long x1].toArray s 10000 2800000 A) (F0 m 89 ls []) := by
    intro t1 d1 w89_3 w89_4 H locs ls hok hfr hod hle hdf hw89_4 hf89_13 hf89_14 hP hD hS hl
    refine lv_aload_n C.1 C.2.1 dX2_perform_89 rfl (lv_at hl 0 rfl) ?_
    refine lv_iconst (v := 0) C.1 C.2.1 dX2_perform_90 (by decide) ?_
    refine k_put (ws' := (WX d1) K ad (uI t1 4 3 0)) (v := .int 0) C hP hD hS 4 rfl rfl inlX2 tyX2_ok nmX2 3 (by decide) m_11_4 rfl (by decide) (by decide) rfl rfl dX2_perform_91 (fun H locs hP hD hS => ?_)
    have hok : okX (uI t1 4 3 0) := ⟨okI_I hok.1 4 3 0 (show (0 : Int) ≤ (0 : Int32).toInt ∧ (0 : Int32).toInt ≤ 1 from ⟨by decide, by decide⟩), hok.2.1, trivial⟩
    have hfr : frA [(3, 8), (4, 3), (4, 4), (4, 5), (4, 10), (18, 1), (18, 3), (19, 3), (20, 3), (21, 3)] [] [10, 11, 12, 15, 16, 17, 22, 32, 33, 34, 35, 36, 37, 38, 39, 40] [13, 14] t (uI t1 4 3 0) := frA_I hfr 4 3 _ rfl
    refine lv_goto (tgt := 458) C.1 C.2.1 dX2_perform_94 (by decide) ?_
    exact g_Dvret C hr hlocks hP hD hS ⟨hok, hfr, hod⟩ hle hdf (Nat.le_of_ble_eq_true rfl) (Nat.le_of_ble_eq_true rfl) dX2_perform_458
  have L_64 : ∀ (t1 : tSt) (d1 : dSt) (w64_3 : Int32) (w64_4 : Int32) (H : Heap) (locs : List Loc) (ls : Array Slot), okX t1 → frA [(3, 8), (4, 3), (4, 4), (4, 5), (4, 10), (18, 1), (18, 3), (19, 3), (20, 3), (21, 3)] [] [10, 11, 12, 15, 16, 17, 22, 32, 33, 34, 35, 36, 37, 38, 39, 40] [13, 14] t t1 → okD d1 → dLe d d1 → dFr s.heap.size d d1 → (0 : Int) ≤ w64_4.toInt ∧ w64_4.toInt ≤ 1 → va_P D vwCl ((WX d1) K ad t1) H → va_D A ((WX d1) K ad t1) → va_S A s.heap H locs → lv_has ls 6 [(0, .ref (ad 4)), (1, .long x1), (3, .int w64_3), (4, .int w64_4)] → W p l e (rmD 9 10000 2800000) s m [.ref (ad 4), .long x1].toArray below meth c H locs (newC d d1) 246800 (MQ below (QDV D K ad d (fun (u : tSt) (dd : dSt) => okX u ∧ frA [(3, 8), (4, 3), (4, 4), (4, 5), (4, 10), (18, 1), (18, 3), (19, 3), (20, 3), (21, 3)] [] [10, 11, 12, 15, 16, 17, 22, 32, 33, 34, 35, 36, 37, 38, 39, 40] [13, 14] t u ∧ okD dd) s.heap.size A) [.ref (ad 4), .long x1].toArray s 10000 2800000 A) (F0 m 64 ls []) := by
    intro t1 d1 w64_3 w64_4 H locs ls hok hfr hod hle hdf hw64_4 hP hD hS hl
    refine lv_aload_n C.1 C.2.1 dX2_perform_64 rfl (lv_at hl 0 rfl) ?_
    have h_165 : (0 : Int) ≤ (t1.1 4 13).toInt ∧ (t1.1 4 13).toInt ≤ 63 := hok.1 4 13
    refine k_get (v := .int (t1.1 4 13)) C hP 4 rfl rfl inlX2 13 (by decide) m_45_18 rfl dX2_perform_65 ?_
    refine lv_bipush (v := 39) C.1 C.2.1 dX2_perform_68 (by decide) ?_
    refine lv_icmp_ne (tgt := 97) C.1 C.2.1 dX2_perform_70 (by decide) (fun c_166 => ?_) (fun c_166 => ?_)
    · replace c_166 : ¬ (t1.1 4 13).toInt = 39 := i_ne c_166
      exact L_97 t1 d1 w64_3 w64_4 _ _ _ hok hfr hod hle hdf ⟨by omega, by omega⟩ hP hD hS (lv_sub hl [0, 1, 2, 3] rfl)
    · replace c_166 : (t1.1 4 13).toInt = 39 := i_eq c_166
      refine lv_aload_n C.1 C.2.1 dX2_perform_73 rfl (lv_at hl 0 rfl) ?_
      have h_167 : (0 : Int) ≤ (t1.1 4 14).toInt ∧ (t1.1 4 14).toInt ≤ 63 := hok.1 4 14
      refine k_get (v := .int (t1.1 4 14)) C hP 4 rfl rfl inlX2 14 (by decide) m_45_19 rfl dX2_perform_74 ?_
      refine lv_iconst (v := 2) C.1 C.2.1 dX2_perform_77 (by decide) ?_
      refine lv_icmp_eq (tgt := 89) C.1 C.2.1 dX2_perform_78 (by decide) (fun c_168 => ?_) (fun c_168 => ?_)
      · replace c_168 : (t1.1 4 14).toInt = 2 := i_eq c_168
        exact L_89 t1 d1 w64_3 w64_4 _ _ _ hok hfr hod hle hdf ⟨by omega, by omega⟩ (show (39 : Int) ≤ ((t1.1 4 13) : Int32).toInt ∧ ((t1.1 4 13) : Int32).toInt ≤ 39 from ⟨by omega, by omega⟩) (show (2 : Int) ≤ ((t1.1 4 14) : Int32).toInt ∧ ((t1.1 4 14) : Int32).toInt ≤ 3 from ⟨by omega, by omega⟩) hP hD hS (lv_sub hl [0, 1, 2, 3] rfl)
      · replace c_168 : ¬ (t1.1 4 14).toInt = 2 := i_ne c_168
        refine lv_aload_n C.1 C.2.1 dX2_perform_81 rfl (lv_at hl 0 rfl) ?_
        refine k_get (v := .int (t1.1 4 14)) C hP 4 rfl rfl inlX2 14 (by decide) m_45_19 rfl dX2_perform_82 ?_
        refine lv_iconst (v := 3) C.1 C.2.1 dX2_perform_85 (by decide) ?_
        refine lv_icmp_ne (tgt := 97) C.1 C.2.1 dX2_perform_86 (by decide) (fun c_169 => ?_) (fun c_169 => ?_)
        · replace c_169 : ¬ (t1.1 4 14).toInt = 3 := i_ne c_169
          exact L_97 t1 d1 w64_3 w64_4 _ _ _ hok hfr hod hle hdf ⟨by omega, by omega⟩ hP hD hS (lv_sub hl [0, 1, 2, 3] rfl)
        · replace c_169 : (t1.1 4 14).toInt = 3 := i_eq c_169
          exact L_89 t1 d1 w64_3 w64_4 _ _ _ hok hfr hod hle hdf ⟨by omega, by omega⟩ (show (39 : Int) ≤ ((t1.1 4 13) : Int32).toInt ∧ ((t1.1 4 13) : Int32).toInt ≤ 39 from ⟨by omega, by omega⟩) (show (2 : Int) ≤ ((t1.1 4 14) : Int32).toInt ∧ ((t1.1 4 14) : Int32).toInt ≤ 3 from ⟨by omega, by omega⟩) hP hD hS (lv_sub hl [0, 1, 2, 3] rfl)
  have L_52 : ∀ (t1 : tSt) (d1 : dSt) (w52_3 : Int32) (w52_4 : Int32) (H : Heap) (locs : List Loc) (ls : Array Slot), okX t1 → frA [(3, 8), (4, 3), (4, 4), (4, 5), (4, 10), (18, 1), (18, 3), (19, 3), (20, 3), (21, 3)] [] [10, 11, 12, 15, 16, 17, 22, 32, 33, 34, 35, 36, 37, 38, 39, 40] [13, 14] t t1 → okD d1 → dLe d d1 → dFr s.heap.size d d1 → (1 : Int) ≤ w52_4.toInt ∧ w52_4.toInt ≤ 1 → va_P D vwCl ((WX d1) K ad t1) H → va_D A ((WX d1) K ad t1) → va_S A s.heap H locs → lv_has ls 6 [(0, .ref (ad 4)), (1, .long x1), (3, .int w52_3), (4, .int w52_4)] → W p l e (rmD 9 10000 2800000) s m [.ref (ad 4), .long x1].toArray below meth c H locs (newC d d1) 246800 (MQ below (QDV D K ad d (fun (u : tSt) (dd : dSt) => okX u ∧ frA [(3, 8), (4, 3), (4, 4), (4, 5), (4, 10), (18, 1), (18, 3), (19, 3), (20, 3), (21, 3)] [] [10, 11, 12, 15, 16, 17, 22, 32, 33, 34, 35, 36, 37, 38, 39, 40] [13, 14] t u ∧ okD dd) s.heap.size A) [.ref (ad 4), .long x1].toArray s 10000 2800000 A) (F0 m 52 ls []) := by
    intro t1 d1 w52_3 w52_4 H locs ls hok hfr hod hle hdf hw52_4 hP hD hS hl
    refine lv_aload_n C.1 C.2.1 dX2_perform_52 rfl (lv_at hl 0 rfl) ?_
    refine k_get (v := .ref (ad 22)) C hP 4 rfl rfl inlX2 1 (by decide) m_4_16 rfl dX2_perform_53 ?_
    refine lv_bipush (v := 8) C.1 C.2.1 dX2_perform_56 (by decide) ?_
    refine lv_iload_n C.1 C.2.1 dX2_perform_58 rfl (lv_at hl 2 rfl) ?_
    obtain ⟨v_170, e_171⟩ : ∃ z, z = (w52_3 : Int32).toInt64 := ⟨_, rfl⟩
    have h_172 : v_170.toInt = w52_3.toInt := by rw [e_171]; exact Jvm.Kit.i64_of_i32 _
    have h_173 := i_rng w52_3
    refine lv_i2l (v := v_170) C.1 C.2.1 dX2_perform_59 e_171.symm ?_
    refine hz_Si (As := [.long v_170]) (rest := [.int 8, .ref (ad 22)]) C hP hD hS hA (T_X1_wordOf l D K Z Y ad d1 t1 hok (v_170)) hE hZ (uwS m_50_15 m_22_11 m_14_2 m_22_12) (hdS 1 (by decide +kernel) rfl) ⟨Nat.le_of_ble_eq_true rfl, Nat.le_of_ble_eq_true rfl⟩ rfl rfl rfl hl.1 (Nat.le_of_ble_eq_true rfl) dX2_perform_60 ⟨Nat.le_trans (newC_le _ _) (Nat.le_of_ble_eq_true rfl), (Nat.le_of_ble_eq_true rfl)⟩ (fun r_175 t_174 H locs hw hP hD hS => ?_)
    obtain ⟨h_177, h_178⟩ := hw
    refine k_ist (ws' := (WX d1) K ad (uB t1 22 (8 : Int32).toNatClampNeg r_175)) (x' := r_175) C hP hD hS 22 rfl (vin (by decide)) rfl rfl rfl dX2_perform_63 (fun H locs hP hD hS => ?_)
    have hok : okX (uB t1 22 (8 : Int32).toNatClampNeg r_175) := ⟨hok.1, okB_B hok.2.1 22 _ r_175 (show (-2147483648 : Int) ≤ (r_175 : Int32).toInt ∧ (r_175 : Int32).toInt ≤ 2147483647 from (i_rng _)), trivial⟩
    have hfr : frA [(3, 8), (4, 3), (4, 4), (4, 5), (4, 10), (18, 1), (18, 3), (19, 3), (20, 3), (21, 3)] [] [10, 11, 12, 15, 16, 17, 22, 32, 33, 34, 35, 36, 37, 38, 39, 40] [13, 14] t (uB t1 22 (8 : Int32).toNatClampNeg r_175) := frA_B hfr 22 _ _ rfl
    exact L_64 (uB t1 22 (8 : Int32).toNatClampNeg r_175) d1 w52_3 w52_4 _ _ _ hok hfr hod hle hdf ⟨by omega, by omega⟩ hP hD hS (lv_sub hl [0, 1, 2, 3] rfl)
  have L_27 : ∀ (t1 : tSt) (d1 : dSt) (w27_3 : Int32) (w27_4 : Int32) (k27_1 : Int32) (H : Heap) (locs : List Loc) (ls : Array Slot), okX t1 → frA [(3, 8), (4, 3), (4, 4), (4, 5), (4, 10), (18, 1), (18, 3), (19, 3), (20, 3), (21, 3)] [] [10, 11, 12, 15, 16, 17, 22, 32, 33, 34, 35, 36, 37, 38, 39, 40] [13, 14] t t1 → okD d1 → dLe d d1 → dFr s.heap.size d d1 → (0 : Int) ≤ w27_4.toInt ∧ w27_4.toInt ≤ 1 → va_P D vwCl ((WX d1) K ad t1) H → va_D A ((WX d1) K ad t1) → va_S A s.heap H locs → lv_has ls 6 [(0, .ref (ad 4)), (1, .long x1), (3, .int w27_3), (4, .int w27_4)] → W p l e (rmD 9 10000 2800000) s m [.ref (ad 4), .long x1].toArray below meth c H locs (newC d d1) 246800 (MQ below (QDV D K ad d (fun (u : tSt) (dd : dSt) => okX u ∧ frA [(3, 8), (4, 3), (4, 4), (4, 5), (4, 10), (18, 1), (18, 3), (19, 3), (20, 3), (21, 3)] [] [10, 11, 12, 15, 16, 17, 22, 32, 33, 34, 35, 36, 37, 38, 39, 40] [13, 14] t u ∧ okD dd) s.heap.size A) [.ref (ad 4), .long x1].toArray s 10000 2800000 A) (F0 m 27 ls [.int k27_1, .ref (ad 4)]) := by
    intro t1 d1 w27_3 w27_4 k27_1 H locs ls hok hfr hod hle hdf hw27_4 hP hD hS hl
    refine k_put (ws' := (WX d1) K ad (uI t1 4 5 k27_1)) (v := .int k27_1) C hP hD hS 4 rfl rfl inlX2 tyX2_ok nmX2 5 (by decide) m_11_6 rfl rfl rfl rfl rfl dX2_perform_27 (fun H locs hP hD hS => ?_)
    have hok : okX (uI t1 4 5 k27_1) := ⟨okI_I hok.1 4 5 k27_1 (show (-2147483648 : Int) ≤ (k27_1 : Int32).toInt ∧ (k27_1 : Int32).toInt ≤ 2147483647 from (i_rng _)), hok.2.1, trivial⟩
    have hfr : frA [(3, 8), (4, 3), (4, 4), (4, 5), (4, 10), (18, 1), (18, 3), (19, 3), (20, 3), (21, 3)] [] [10, 11, 12, 15, 16, 17, 22, 32, 33, 34, 35, 36, 37, 38, 39, 40] [13, 14] t (uI t1 4 5 k27_1) := frA_I hfr 4 5 _ rfl
    refine lv_iload C.1 C.2.1 dX2_perform_30 (lv_at hl 3 rfl) ?_
    refine lv_if_eq (tgt := 64) C.1 C.2.1 dX2_perform_32 (by decide) (fun c_179 => ?_) (fun c_179 => ?_)
    · replace c_179 : w27_4.toInt = 0 := i_eq c_179
      exact L_64 (uI t1 4 5 k27_1) d1 w27_3 w27_4 _ _ _ hok hfr hod hle hdf ⟨by omega, by omega⟩ hP hD hS (lv_sub hl [0, 1, 2, 3] rfl)
    · replace c_179 : ¬ w27_4.toInt = 0 := i_ne c_179
      refine lv_aload_n C.1 C.2.1 dX2_perform_35 rfl (lv_at hl 0 rfl) ?_
      have h_180 : (0 : Int) ≤ (t1.1 4 13).toInt ∧ (t1.1 4 13).toInt ≤ 63 := hok.1 4 13
      refine k_get (v := .int (t1.1 4 13)) C hP 4 rfl rfl inlX2 13 (by decide) m_45_18 rfl dX2_perform_36 ?_
      refine lv_bipush (v := 39) C.1 C.2.1 dX2_perform_39 (by decide) ?_
      refine lv_icmp_ne (tgt := 52) C.1 C.2.1 dX2_perform_41 (by decide) (fun c_181 => ?_) (fun c_181 => ?_)
      · replace c_181 : ¬ (t1.1 4 13).toInt = 39 := i_ne c_181
        exact L_52 (uI t1 4 5 k27_1) d1 w27_3 w27_4 _ _ _ hok hfr hod hle hdf ⟨by omega, by omega⟩ hP hD hS (lv_sub hl [0, 1, 2, 3] rfl)
      · replace c_181 : (t1.1 4 13).toInt = 39 := i_eq c_181
        refine lv_aload_n C.1 C.2.1 dX2_perform_44 rfl (lv_at hl 0 rfl) ?_
        have h_182 : (0 : Int) ≤ (t1.1 4 14).toInt ∧ (t1.1 4 14).toInt ≤ 63 := hok.1 4 14
        refine k_get (v := .int (t1.1 4 14)) C hP 4 rfl rfl inlX2 14 (by decide) m_45_19 rfl dX2_perform_45 ?_
        refine lv_iconst (v := 1) C.1 C.2.1 dX2_perform_48 (by decide) ?_
        refine lv_icmp_eq (tgt := 64) C.1 C.2.1 dX2_perform_49 (by decide) (fun c_183 => ?_) (fun c_183 => ?_)
        · replace c_183 : (t1.1 4 14).toInt = 1 := i_eq c_183
          exact L_64 (uI t1 4 5 k27_1) d1 w27_3 w27_4 _ _ _ hok hfr hod hle hdf ⟨by omega, by omega⟩ hP hD hS (lv_sub hl [0, 1, 2, 3] rfl)
        · replace c_183 : ¬ (t1.1 4 14).toInt = 1 := i_ne c_183
          exact L_52 (uI t1 4 5 k27_1) d1 w27_3 w27_4 _ _ _ hok hfr hod hle hdf ⟨by omega, by omega⟩ hP hD hS (lv_sub hl [0, 1, 2, 3] rfl)
  refine lv_aload_n C.1 C.2.1 dX2_perform_0 rfl (lv_at hl 0 rfl) ?_
  refine k_get (v := .int (t.1 4 5)) C hP 4 rfl rfl inlX2 5 (by decide) m_11_6 rfl dX2_perform_1 ?_
  refine lv_iconst (v := 1) C.1 C.2.1 dX2_perform_4 (by decide) ?_
  obtain ⟨v_184, e_185⟩ : ∃ z, z = ((t.1 4 5) : Int32) + (1 : Int32) := ⟨_, rfl⟩
  refine k_iadd (v := v_184) C e_185.symm dX2_perform_5 ?_
  refine lv_istore_n (lv' := [(3, .int v_184), (0, .ref (ad 4)), (1, .long x1)]) C.1 C.2.1 dX2_perform_6 rfl hl (by decide) rfl (fun ls hl => ?_)
  have hl : lv_has ls 6 [(0, .ref (ad 4)), (1, .long x1), (3, .int v_184)] := lv_sub hl [1, 2, 0] rfl
  refine lv_aload_n C.1 C.2.1 dX2_perform_7 rfl (lv_at hl 0 rfl) ?_
  refine hz_Vi (As := []) (rest := []) C hP hD hS hA (T_X2_jumps l D K Z Y ad d t hok ) hE hZ (uwV m_49_23 m_50_0 m_50_1 m_1_23 m_50_2) (hdV 0 (by decide +kernel) rfl) ⟨Nat.le_of_ble_eq_true rfl, Nat.le_of_ble_eq_true rfl⟩ rfl rfl (ci := 1) (q0 := 4) rfl rfl rfl hl.1 (Nat.le_of_ble_eq_true rfl) dX2_perform_8 ⟨Nat.le_trans (newC_le _ _) (Nat.le_of_ble_eq_true rfl), (Nat.le_of_ble_eq_true rfl)⟩ (fun r_188 t_187 H locs hw hP hD hS => ?_)
  obtain ⟨h_190, h_191⟩ := hw
  refine lv_istore (lv' := [(4, .int r_188), (0, .ref (ad 4)), (1, .long x1), (3, .int v_184)]) C.1 C.2.1 dX2_perform_11 hl (by decide) rfl (fun ls hl => ?_)
  have hl : lv_has ls 6 [(0, .ref (ad 4)), (1, .long x1), (3, .int v_184), (4, .int r_188)] := lv_sub hl [1, 2, 3, 0] rfl
  refine lv_aload_n C.1 C.2.1 dX2_perform_13 rfl (lv_at hl 0 rfl) ?_
  refine lv_iload C.1 C.2.1 dX2_perform_14 (lv_at hl 3 rfl) ?_
  refine lv_if_eq (tgt := 26) C.1 C.2.1 dX2_perform_16 (by decide) (fun c_192 => ?_) (fun c_192 => ?_)
  · replace c_192 : r_188.toInt = 0 := i_eq c_192
    refine lv_iload_n C.1 C.2.1 dX2_perform_26 rfl (lv_at hl 2 rfl) ?_
    exact L_27 t d v_184 r_188 v_184 _ _ _ hok hfr hod hle hdf ⟨by omega, by omega⟩ hP hD hS (lv_sub hl [0, 1, 2, 3] rfl)
  · replace c_192 : ¬ r_188.toInt = 0 := i_ne c_192
    refine lv_aload_n C.1 C.2.1 dX2_perform_19 rfl (lv_at hl 0 rfl) ?_
    have h_193 : (-2147483648 : Int) ≤ (t.1 4 15).toInt ∧ (t.1 4 15).toInt ≤ 1073745919 := hok.1 4 15
    refine k_get (v := .int (t.1 4 15)) C hP 4 rfl rfl inlX2 15 (by decide) m_47_12 rfl dX2_perform_20 ?_
    refine lv_goto (tgt := 27) C.1 C.2.1 dX2_perform_23 (by decide) ?_
    exact L_27 t d v_184 r_188 (t.1 4 15) _ _ _ hok hfr hod hle hdf ⟨by omega, by omega⟩ hP hD hS (lv_sub hl [0, 1, 2, 3] rfl)
