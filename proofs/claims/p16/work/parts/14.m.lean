theorem dX12_goOn_0 : decode cX12_goOn 0 = .ok (.iconst 0, 1) := by decide +kernel
theorem dX12_goOn_1 : decode cX12_goOn 1 = .ok (.istore_n 2, 1) := by decide +kernel
theorem dX12_goOn_11 : decode cX12_goOn 11 = .ok (.ifCond .ne 58, 3) := by decide +kernel
theorem dX12_goOn_14 : decode cX12_goOn 14 = .ok (.aload_n 0, 1) := by decide +kernel
theorem dX12_goOn_15 : decode cX12_goOn 15 = .ok (.aload_n 0, 1) := by decide +kernel
theorem dX12_goOn_16 : decode cX12_goOn 16 = .ok (.getfield 272, 3) := by decide +kernel
theorem dX12_goOn_19 : decode cX12_goOn 19 = .ok (.invokevirtual 222, 3) := by decide +kernel
theorem dX12_goOn_2 : decode cX12_goOn 2 = .ok (.iload_n 2, 1) := by decide +kernel
theorem dX12_goOn_22 : decode cX12_goOn 22 = .ok (.aload_n 0, 1) := by decide +kernel
theorem dX12_goOn_23 : decode cX12_goOn 23 = .ok (.invokevirtual 421, 3) := by decide +kernel
theorem dX12_goOn_26 : decode cX12_goOn 26 = .ok (.istore_n 3, 1) := by decide +kernel
theorem dX12_goOn_27 : decode cX12_goOn 27 = .ok (.iload_n 3, 1) := by decide +kernel
theorem dX12_goOn_28 : decode cX12_goOn 28 = .ok (.bipush 10, 2) := by decide +kernel
theorem dX12_goOn_3 : decode cX12_goOn 3 = .ok (.iload_n 1, 1) := by decide +kernel
theorem dX12_goOn_30 : decode cX12_goOn 30 = .ok (.if_icmp .ne 17, 3) := by decide +kernel
theorem dX12_goOn_33 : decode cX12_goOn 33 = .ok (.aload_n 0, 1) := by decide +kernel
theorem dX12_goOn_34 : decode cX12_goOn 34 = .ok (.iconst 1, 1) := by decide +kernel
theorem dX12_goOn_35 : decode cX12_goOn 35 = .ok (.putfield 424, 3) := by decide +kernel
theorem dX12_goOn_38 : decode cX12_goOn 38 = .ok (.aload_n 0, 1) := by decide +kernel
theorem dX12_goOn_39 : decode cX12_goOn 39 = .ok (.bipush 9, 2) := by decide +kernel
theorem dX12_goOn_4 : decode cX12_goOn 4 = .ok (.if_icmp .ge 65, 3) := by decide +kernel
theorem dX12_goOn_41 : decode cX12_goOn 41 = .ok (.invokevirtual 384, 3) := by decide +kernel
theorem dX12_goOn_44 : decode cX12_goOn 44 = .ok (.goto 22, 3) := by decide +kernel
theorem dX12_goOn_47 : decode cX12_goOn 47 = .ok (.iload_n 3, 1) := by decide +kernel
theorem dX12_goOn_48 : decode cX12_goOn 48 = .ok (.ifCond .le 11, 3) := by decide +kernel
theorem dX12_goOn_51 : decode cX12_goOn 51 = .ok (.aload_n 0, 1) := by decide +kernel
theorem dX12_goOn_52 : decode cX12_goOn 52 = .ok (.iload_n 3, 1) := by decide +kernel
theorem dX12_goOn_53 : decode cX12_goOn 53 = .ok (.invokevirtual 427, 3) := by decide +kernel
theorem dX12_goOn_56 : decode cX12_goOn 56 = .ok (.goto 10, 3) := by decide +kernel
theorem dX12_goOn_59 : decode cX12_goOn 59 = .ok (.aload_n 0, 1) := by decide +kernel
theorem dX12_goOn_60 : decode cX12_goOn 60 = .ok (.invokevirtual 430, 3) := by decide +kernel
theorem dX12_goOn_63 : decode cX12_goOn 63 = .ok (.iinc 2 1, 3) := by decide +kernel
theorem dX12_goOn_66 : decode cX12_goOn 66 = .ok (.goto (-64), 3) := by decide +kernel
theorem dX12_goOn_69 : decode cX12_goOn 69 = .ok (.iload_n 2, 1) := by decide +kernel
theorem dX12_goOn_7 : decode cX12_goOn 7 = .ok (.aload_n 0, 1) := by decide +kernel
theorem dX12_goOn_70 : decode cX12_goOn 70 = .ok (.ireturn, 1) := by decide +kernel
theorem dX12_goOn_8 : decode cX12_goOn 8 = .ok (.getfield 24, 3) := by decide +kernel
set_option maxHeartbeats 4000000 in
set_option maxRecDepth 100000 in
theorem T_X12_goOn (l : Launch) (D : va_G) (K : Nat → ClassId) (Z Y : Nat → Nat) (ad : Nat → Nat) (t : tSt) (hok : okM t) (x1 : Int32) (hx1 : (0 : Int) ≤ x1.toInt ∧ x1.toInt ≤ 100000) : tMet l yX12_goOn cX12_goOn 4 (some .int) (rmD 11 0 0) D K Z Y [.ref (ad 0), .int x1] (WM K ad t) (QI D K (fun (r : Int32) (u : tSt) => okM u ∧ frA [(0, 5), (0, 6), (0, 7), (0, 9), (0, 10), (0, 14), (0, 15), (0, 16), (0, 17), (0, 18), (0, 30), (0, 35), (0, 91)] [(0, 8)] [2, 3, 5, 7, 8, 9, 10, 11, 12, 13, 14] [4, 6] t u ∧ (0 : Int) ≤ r.toInt ∧ r.toInt ≤ 100000 ∧ ((t.1 0 12).toInt = 1 → (t.2.1 0 8).toInt ≤ (u.2.1 0 8).toInt) ∧ ((t.1 0 12).toInt = 1 → (u.1 0 9).toInt = 0 → (t.2.1 0 8).toInt + x1.toInt ≤ (u.2.1 0 8).toInt)) (fun (u : tSt) => WM K ad u)) 0 0 := by
  refine t_met RX12 ⟨rfl, by decide +kernel⟩ (Nat.le_of_ble_eq_true rfl) ?_
  intro p e s m below meth c A ls C hE hZ hr hlocks hA hP hD hS hl
  have hl : lv_has ls 4 [(0, .ref (ad 0)), (1, .int x1)] := hl
  have hokt := hok
  have hfr : frA [(0, 5), (0, 6), (0, 7), (0, 9), (0, 10), (0, 14), (0, 15), (0, 16), (0, 17), (0, 18), (0, 30), (0, 35), (0, 91)] [(0, 8)] [2, 3, 5, 7, 8, 9, 10, 11, 12, 13, 14] [4, 6] t t := frA_rf
  have h_1 : (0 : Int) ≤ (t.1 0 9).toInt ∧ (t.1 0 9).toInt ≤ 10 := hok.1 0 9
  have h_2 : (0 : Int) ≤ (t.1 0 10).toInt ∧ (t.1 0 10).toInt ≤ 1 := hok.1 0 10
  have h_3 : (0 : Int) ≤ (t.1 0 12).toInt ∧ (t.1 0 12).toInt ≤ 1 := hok.1 0 12
  have h_4 : (0 : Int) ≤ (t.1 0 16).toInt ∧ (t.1 0 16).toInt ≤ 63 := hok.1 0 16
  have h_5 : (0 : Int) ≤ (t.1 0 17).toInt ∧ (t.1 0 17).toInt ≤ 63 := hok.1 0 17
  have h_6 : (0 : Int) ≤ (t.1 0 35).toInt ∧ (t.1 0 35).toInt ≤ 1700 := hok.1 0 35
  have h_7 : (0 : Int) ≤ (t.1 0 36).toInt ∧ (t.1 0 36).toInt ≤ 1700 := hok.1 0 36
  have L_2 : ∀ (fuel_2 : Nat) (t1 : tSt) (w2_2 : Int32) (H : Heap) (locs : List Loc) (ls : Array Slot), okM t1 → frA [(0, 5), (0, 6), (0, 7), (0, 9), (0, 10), (0, 14), (0, 15), (0, 16), (0, 17), (0, 18), (0, 30), (0, 35), (0, 91)] [(0, 8)] [2, 3, 5, 7, 8, 9, 10, 11, 12, 13, 14] [4, 6] t t1 → (0 : Int) ≤ w2_2.toInt ∧ w2_2.toInt ≤ 100000 → (w2_2.toInt ≤ x1.toInt) → ((t.1 0 12).toInt = 1 → (t.2.1 0 8).toInt + w2_2.toInt ≤ (t1.2.1 0 8).toInt) → (2 * (2 * (x1.toInt - w2_2.toInt) + 1 - (t1.1 0 10).toInt) + st0 (t1.1 0 9)) < (fuel_2 : Int) → va_P D vwCl (WM K ad t1) H → va_D A (WM K ad t1) → va_S A s.heap H locs → lv_has ls 4 [(0, .ref (ad 0)), (1, .int x1), (2, .int w2_2)] → W p l e (rmD 11 0 0) s m [.ref (ad 0), .int x1].toArray below meth c H locs 0 0 (MQ below (QI D K (fun (r : Int32) (u : tSt) => okM u ∧ frA [(0, 5), (0, 6), (0, 7), (0, 9), (0, 10), (0, 14), (0, 15), (0, 16), (0, 17), (0, 18), (0, 30), (0, 35), (0, 91)] [(0, 8)] [2, 3, 5, 7, 8, 9, 10, 11, 12, 13, 14] [4, 6] t u ∧ (0 : Int) ≤ r.toInt ∧ r.toInt ≤ 100000 ∧ ((t.1 0 12).toInt = 1 → (t.2.1 0 8).toInt ≤ (u.2.1 0 8).toInt) ∧ ((t.1 0 12).toInt = 1 → (u.1 0 9).toInt = 0 → (t.2.1 0 8).toInt + x1.toInt ≤ (u.2.1 0 8).toInt)) (fun (u : tSt) => WM K ad u) A) [.ref (ad 0), .int x1].toArray s 0 0 A) (F0 m 2 ls []) := by
    intro fuel_2
    induction fuel_2 with
    | zero =>
      intro t1 w2_2 H locs ls hok hfr hw2_2 hi2_0 hi2_1 hm2_2 hP hD hS hl
      have h_8 : (t1.1 0 12).toInt = (t.1 0 12).toInt := ti_eq (hfr.1 0 12 rfl)
      have h_9 : (t1.2.1 0 13).toInt = (t.2.1 0 13).toInt := tl_eq (hfr.2.1 0 13 rfl)
      have h_10 : (t1.1 0 36).toInt = (t.1 0 36).toInt := ti_eq (hfr.1 0 36 rfl)
      have h_11 : (0 : Int) ≤ (t1.1 0 9).toInt ∧ (t1.1 0 9).toInt ≤ 10 := hok.1 0 9
      have h_12 : (0 : Int) ≤ (t1.1 0 10).toInt ∧ (t1.1 0 10).toInt ≤ 1 := hok.1 0 10
      have h_13 : (0 : Int) ≤ (t1.1 0 12).toInt ∧ (t1.1 0 12).toInt ≤ 1 := hok.1 0 12
      have h_14 : (0 : Int) ≤ (t1.1 0 16).toInt ∧ (t1.1 0 16).toInt ≤ 63 := hok.1 0 16
      have h_15 : (0 : Int) ≤ (t1.1 0 17).toInt ∧ (t1.1 0 17).toInt ≤ 63 := hok.1 0 17
      have h_16 : (0 : Int) ≤ (t1.1 0 35).toInt ∧ (t1.1 0 35).toInt ≤ 1700 := hok.1 0 35
      have h_17 : (0 : Int) ≤ (t1.1 0 36).toInt ∧ (t1.1 0 36).toInt ≤ 1700 := hok.1 0 36
      have hst := st0_r (t1.1 0 9)
      exact absurd hm2_2 (by omega)
    | succ fuel_2 ih_2 =>
      intro t1 w2_2 H locs ls hok hfr hw2_2 hi2_0 hi2_1 hm2_2 hP hD hS hl
      have hm2_2 : (2 * (2 * (x1.toInt - w2_2.toInt) + 1 - (t1.1 0 10).toInt) + st0 (t1.1 0 9)) < (fuel_2 : Int) + 1 := by omega
      have h_18 : (t1.1 0 12).toInt = (t.1 0 12).toInt := ti_eq (hfr.1 0 12 rfl)
      have h_19 : (t1.2.1 0 13).toInt = (t.2.1 0 13).toInt := tl_eq (hfr.2.1 0 13 rfl)
      have h_20 : (t1.1 0 36).toInt = (t.1 0 36).toInt := ti_eq (hfr.1 0 36 rfl)
      have h_21 : (0 : Int) ≤ (t1.1 0 9).toInt ∧ (t1.1 0 9).toInt ≤ 10 := hok.1 0 9
      have h_22 : (0 : Int) ≤ (t1.1 0 10).toInt ∧ (t1.1 0 10).toInt ≤ 1 := hok.1 0 10
      have h_23 : (0 : Int) ≤ (t1.1 0 12).toInt ∧ (t1.1 0 12).toInt ≤ 1 := hok.1 0 12
      have h_24 : (0 : Int) ≤ (t1.1 0 16).toInt ∧ (t1.1 0 16).toInt ≤ 63 := hok.1 0 16
      have h_25 : (0 : Int) ≤ (t1.1 0 17).toInt ∧ (t1.1 0 17).toInt ≤ 63 := hok.1 0 17
      have h_26 : (0 : Int) ≤ (t1.1 0 35).toInt ∧ (t1.1 0 35).toInt ≤ 1700 := hok.1 0 35
      have h_27 : (0 : Int) ≤ (t1.1 0 36).toInt ∧ (t1.1 0 36).toInt ≤ 1700 := hok.1 0 36
      have hst0 := st0_r (t1.1 0 9)
      refine lv_iload_n C.1 C.2.1 dX12_goOn_2 rfl (lv_at hl 2 rfl) ?_
      refine lv_iload_n C.1 C.2.1 dX12_goOn_3 rfl (lv_at hl 1 rfl) ?_
      refine lv_icmp_ge (tgt := 69) C.1 C.2.1 dX12_goOn_4 (by decide) (fun c_28 => ?_) (fun c_28 => ?_)
      · replace c_28 : x1.toInt ≤ w2_2.toInt := i_le c_28
        refine lv_iload_n C.1 C.2.1 dX12_goOn_69 rfl (lv_at hl 2 rfl) ?_
        exact g_iret C hr hlocks hP hD hS rfl t1 rfl ⟨hok, hfr, by omega, by omega, (show (t.1 0 12).toInt = 1 → (t.2.1 0 8).toInt ≤ (t1.2.1 0 8).toInt from by omega), (show (t.1 0 12).toInt = 1 → (t1.1 0 9).toInt = 0 → (t.2.1 0 8).toInt + x1.toInt ≤ (t1.2.1 0 8).toInt from by omega)⟩ (Nat.le_of_ble_eq_true rfl) (Nat.le_of_ble_eq_true rfl) dX12_goOn_70
      · replace c_28 : w2_2.toInt < x1.toInt := i_nle c_28
        refine lv_aload_n C.1 C.2.1 dX12_goOn_7 rfl (lv_at hl 0 rfl) ?_
        refine k_get (v := .int (t1.1 0 9)) C hP 0 rfl rfl inlX12 9 (by decide) m_7_8 rfl dX12_goOn_8 ?_
        refine lv_if_ne (tgt := 69) C.1 C.2.1 dX12_goOn_11 (by decide) (fun c_29 => ?_) (fun c_29 => ?_)
        · replace c_29 : ¬ (t1.1 0 9).toInt = 0 := i_ne c_29
          refine lv_iload_n C.1 C.2.1 dX12_goOn_69 rfl (lv_at hl 2 rfl) ?_
          exact g_iret C hr hlocks hP hD hS rfl t1 rfl ⟨hok, hfr, by omega, by omega, (show (t.1 0 12).toInt = 1 → (t.2.1 0 8).toInt ≤ (t1.2.1 0 8).toInt from by omega), (show (t.1 0 12).toInt = 1 → (t1.1 0 9).toInt = 0 → (t.2.1 0 8).toInt + x1.toInt ≤ (t1.2.1 0 8).toInt from by omega)⟩ (Nat.le_of_ble_eq_true rfl) (Nat.le_of_ble_eq_true rfl) dX12_goOn_70
        · replace c_29 : (t1.1 0 9).toInt = 0 := i_eq c_29
          refine lv_aload_n C.1 C.2.1 dX12_goOn_14 rfl (lv_at hl 0 rfl) ?_
          refine lv_aload_n C.1 C.2.1 dX12_goOn_15 rfl (lv_at hl 0 rfl) ?_
          refine k_get (v := .long (t1.2.1 0 8)) C hP 0 rfl rfl inlX12 8 (by decide) m_29_23 rfl dX12_goOn_16 ?_
          refine g_Vv (As := [.long (t1.2.1 0 8)]) (rest := []) C hP hD hS hA (T_X12_settle l D K Z Y ad t1 hok ((t1.2.1 0 8))) hE hZ (uwV m_56_15 m_56_16 m_56_17 m_1_5 m_56_18) (hdV 1 (by decide +kernel) rfl) ⟨Nat.le_of_ble_eq_true rfl, Nat.le_of_ble_eq_true rfl⟩ rfl rfl (ci := 11) (q0 := 0) rfl rfl rfl hl.1 (Nat.le_of_ble_eq_true rfl) dX12_goOn_19 ⟨Nat.le_of_ble_eq_true rfl, Nat.le_of_ble_eq_true rfl⟩ (fun t_30 H locs hw hP hD hS => ?_)
          obtain ⟨hok, f_32⟩ := hw
          have hfr : frA [(0, 5), (0, 6), (0, 7), (0, 9), (0, 10), (0, 14), (0, 15), (0, 16), (0, 17), (0, 18), (0, 30), (0, 35), (0, 91)] [(0, 8)] [2, 3, 5, 7, 8, 9, 10, 11, 12, 13, 14] [4, 6] t t_30 := frA_tr hfr f_32 rfl
          have h_33 : (t_30.1 0 9).toInt = (t1.1 0 9).toInt := ti_eq (f_32.1 0 9 rfl)
          have h_34 : (t_30.2.1 0 8).toInt = (t1.2.1 0 8).toInt := tl_eq (f_32.2.1 0 8 rfl)
          have h_35 : (t_30.1 0 10).toInt = (t1.1 0 10).toInt := ti_eq (f_32.1 0 10 rfl)
          have h_36 : (t_30.1 0 12).toInt = (t1.1 0 12).toInt := ti_eq (f_32.1 0 12 rfl)
          have h_37 : (t_30.2.1 0 13).toInt = (t1.2.1 0 13).toInt := tl_eq (f_32.2.1 0 13 rfl)
          have h_38 : (t_30.1 0 16).toInt = (t1.1 0 16).toInt := ti_eq (f_32.1 0 16 rfl)
          have h_39 : (t_30.1 0 17).toInt = (t1.1 0 17).toInt := ti_eq (f_32.1 0 17 rfl)
          have h_40 : (t_30.1 0 18).toInt = (t1.1 0 18).toInt := ti_eq (f_32.1 0 18 rfl)
          have h_41 : (t_30.1 0 35).toInt = (t1.1 0 35).toInt := ti_eq (f_32.1 0 35 rfl)
          have h_42 : (t_30.1 0 36).toInt = (t1.1 0 36).toInt := ti_eq (f_32.1 0 36 rfl)
          have e_43 : t_30.2.2.2 4 = t1.2.2.2 4 := f_32.2.2.2 4 rfl
          have h_44 : (0 : Int) ≤ (t_30.1 0 10).toInt ∧ (t_30.1 0 10).toInt ≤ 1 := hok.1 0 10
          have h_45 : (0 : Int) ≤ (t_30.1 0 12).toInt ∧ (t_30.1 0 12).toInt ≤ 1 := hok.1 0 12
          have h_46 : (0 : Int) ≤ (t_30.1 0 16).toInt ∧ (t_30.1 0 16).toInt ≤ 63 := hok.1 0 16
          have h_47 : (0 : Int) ≤ (t_30.1 0 17).toInt ∧ (t_30.1 0 17).toInt ≤ 63 := hok.1 0 17
          have h_48 : (0 : Int) ≤ (t_30.1 0 35).toInt ∧ (t_30.1 0 35).toInt ≤ 1700 := hok.1 0 35
          have h_49 : (0 : Int) ≤ (t_30.1 0 36).toInt ∧ (t_30.1 0 36).toInt ≤ 1700 := hok.1 0 36
          refine lv_aload_n C.1 C.2.1 dX12_goOn_22 rfl (lv_at hl 0 rfl) ?_
          refine g_Vi (As := []) (rest := []) C hP hD hS hA (T_X12_look l D K Z Y ad t_30 hok ) hE hZ (uwV m_56_22 m_56_23 m_57_0 m_1_5 m_57_1) (hdV 0 (by decide +kernel) rfl) ⟨Nat.le_of_ble_eq_true rfl, Nat.le_of_ble_eq_true rfl⟩ rfl rfl (ci := 11) (q0 := 0) rfl rfl rfl hl.1 (Nat.le_of_ble_eq_true rfl) dX12_goOn_23 ⟨Nat.le_of_ble_eq_true rfl, Nat.le_of_ble_eq_true rfl⟩ (fun r_51 t_50 H locs hw hP hD hS => ?_)
          obtain ⟨hok, f_52, h_53, h_54, p_55, p_56, p_57⟩ := hw
          have hfr : frA [(0, 5), (0, 6), (0, 7), (0, 9), (0, 10), (0, 14), (0, 15), (0, 16), (0, 17), (0, 18), (0, 30), (0, 35), (0, 91)] [(0, 8)] [2, 3, 5, 7, 8, 9, 10, 11, 12, 13, 14] [4, 6] t t_50 := frA_tr hfr f_52 rfl
          have h_58 : (t_50.1 0 9).toInt = (t_30.1 0 9).toInt := ti_eq (f_52.1 0 9 rfl)
          have h_59 : (t_50.2.1 0 8).toInt = (t_30.2.1 0 8).toInt := tl_eq (f_52.2.1 0 8 rfl)
          have h_60 : (t_50.1 0 10).toInt = (t_30.1 0 10).toInt := ti_eq (f_52.1 0 10 rfl)
          have h_61 : (t_50.1 0 12).toInt = (t_30.1 0 12).toInt := ti_eq (f_52.1 0 12 rfl)
          have h_62 : (t_50.2.1 0 13).toInt = (t_30.2.1 0 13).toInt := tl_eq (f_52.2.1 0 13 rfl)
          have h_63 : (t_50.1 0 35).toInt = (t_30.1 0 35).toInt := ti_eq (f_52.1 0 35 rfl)
          have h_64 : (t_50.1 0 36).toInt = (t_30.1 0 36).toInt := ti_eq (f_52.1 0 36 rfl)
          have e_65 : t_50.2.2.2 4 = t1.2.2.2 4 := (f_52.2.2.2 4 rfl).trans (e_43)
          have h_66 : (0 : Int) ≤ (t_50.1 0 10).toInt ∧ (t_50.1 0 10).toInt ≤ 1 := hok.1 0 10
          have h_67 : (0 : Int) ≤ (t_50.1 0 12).toInt ∧ (t_50.1 0 12).toInt ≤ 1 := hok.1 0 12
          have h_68 : (0 : Int) ≤ (t_50.1 0 16).toInt ∧ (t_50.1 0 16).toInt ≤ 63 := hok.1 0 16
          have h_69 : (0 : Int) ≤ (t_50.1 0 17).toInt ∧ (t_50.1 0 17).toInt ≤ 63 := hok.1 0 17
          have h_70 : (0 : Int) ≤ (t_50.1 0 35).toInt ∧ (t_50.1 0 35).toInt ≤ 1700 := hok.1 0 35
          have h_71 : (0 : Int) ≤ (t_50.1 0 36).toInt ∧ (t_50.1 0 36).toInt ≤ 1700 := hok.1 0 36
          replace p_55 : r_51.toInt = 0 → gdA (t_50.1 0 16) (t_50.1 0 17) (t_50.1 0 18) (t_50.2.2.1 3) := p_55
          replace p_56 : r_51.toInt = 0 → gdU (t_50.1 0 16) (t_50.1 0 17) (t_50.2.2.1 3) (t_50.2.2.1 9) (t_50.1 0 35) (t_50.1 0 36) := p_56
          replace p_57 : r_51.toInt = 0 → (t_30.1 0 12).toInt = 1 → (t_50.2.1 0 8).toInt + (cO (t_50.1 0 16) (t_50.1 0 17) (t_50.2.2.2 4 ((t_50.1 0 17) : Int32).toNatClampNeg) (t_50.2.1 0 8)).toInt ≤ (t_30.2.1 0 13).toInt := p_57
          have h_72 : (t_50.2.2.2 4 ((t_50.1 0 17) : Int32).toNatClampNeg).toInt = (t1.2.2.2 4 ((t_50.1 0 17) : Int32).toNatClampNeg).toInt := tg_eq e_65 _
          have hgA := p_55
          have hgU := p_56
          have hgC := p_57
          refine lv_istore_n (lv' := [(3, .int r_51), (0, .ref (ad 0)), (1, .int x1), (2, .int w2_2)]) C.1 C.2.1 dX12_goOn_26 rfl hl (by decide) rfl (fun ls hl => ?_)
          have hl : lv_has ls 4 [(0, .ref (ad 0)), (1, .int x1), (2, .int w2_2), (3, .int r_51)] := lv_sub hl [1, 2, 3, 0] rfl
          refine lv_iload_n C.1 C.2.1 dX12_goOn_27 rfl (lv_at hl 3 rfl) ?_
          refine lv_bipush (v := 10) C.1 C.2.1 dX12_goOn_28 (by decide) ?_
          refine lv_icmp_ne (tgt := 47) C.1 C.2.1 dX12_goOn_30 (by decide) (fun c_73 => ?_) (fun c_73 => ?_)
          · replace c_73 : ¬ r_51.toInt = 10 := i_ne c_73
            refine lv_iload_n C.1 C.2.1 dX12_goOn_47 rfl (lv_at hl 3 rfl) ?_
            refine lv_if_le (tgt := 59) C.1 C.2.1 dX12_goOn_48 (by decide) (fun c_74 => ?_) (fun c_74 => ?_)
            · replace c_74 : r_51.toInt ≤ 0 := i_le c_74
              refine lv_aload_n C.1 C.2.1 dX12_goOn_59 rfl (lv_at hl 0 rfl) ?_
              refine g_Vv (As := []) (rest := []) C hP hD hS hA (T_X12_perform l D K Z Y ad t_50 hok (show gdA (t_50.1 0 16) (t_50.1 0 17) (t_50.1 0 18) (t_50.2.2.1 3) from hgA (by omega)) (show gdU (t_50.1 0 16) (t_50.1 0 17) (t_50.2.2.1 3) (t_50.2.2.1 9) (t_50.1 0 35) (t_50.1 0 36) from hgU (by omega)) (show (t_50.1 0 12).toInt = 1 → (t_50.2.1 0 8).toInt + (cO (t_50.1 0 16) (t_50.1 0 17) (t_50.2.2.2 4 ((t_50.1 0 17) : Int32).toNatClampNeg) (t_50.2.1 0 8)).toInt ≤ (t_50.2.1 0 13).toInt from by omega)) hE hZ (uwV m_60_0 m_60_1 m_60_2 m_1_5 m_60_3) (hdV 0 (by decide +kernel) rfl) ⟨Nat.le_of_ble_eq_true rfl, Nat.le_of_ble_eq_true rfl⟩ rfl rfl (ci := 11) (q0 := 0) rfl rfl rfl hl.1 (Nat.le_of_ble_eq_true rfl) dX12_goOn_60 ⟨Nat.le_of_ble_eq_true rfl, Nat.le_of_ble_eq_true rfl⟩ (fun t_75 H locs hw hP hD hS => ?_)
              obtain ⟨hok, f_77, p_78⟩ := hw
              have hfr : frA [(0, 5), (0, 6), (0, 7), (0, 9), (0, 10), (0, 14), (0, 15), (0, 16), (0, 17), (0, 18), (0, 30), (0, 35), (0, 91)] [(0, 8)] [2, 3, 5, 7, 8, 9, 10, 11, 12, 13, 14] [4, 6] t t_75 := frA_tr hfr f_77 rfl
              have h_79 : (t_75.1 0 12).toInt = (t_50.1 0 12).toInt := ti_eq (f_77.1 0 12 rfl)
              have h_80 : (t_75.2.1 0 13).toInt = (t_50.2.1 0 13).toInt := tl_eq (f_77.2.1 0 13 rfl)
              have h_81 : (t_75.1 0 16).toInt = (t_50.1 0 16).toInt := ti_eq (f_77.1 0 16 rfl)
              have h_82 : (t_75.1 0 17).toInt = (t_50.1 0 17).toInt := ti_eq (f_77.1 0 17 rfl)
              have h_83 : (t_75.1 0 18).toInt = (t_50.1 0 18).toInt := ti_eq (f_77.1 0 18 rfl)
              have h_84 : (t_75.1 0 36).toInt = (t_50.1 0 36).toInt := ti_eq (f_77.1 0 36 rfl)
              have h_85 : (0 : Int) ≤ (t_75.1 0 9).toInt ∧ (t_75.1 0 9).toInt ≤ 10 := hok.1 0 9
              have h_86 : (0 : Int) ≤ (t_75.1 0 10).toInt ∧ (t_75.1 0 10).toInt ≤ 1 := hok.1 0 10
              have h_87 : (0 : Int) ≤ (t_75.1 0 12).toInt ∧ (t_75.1 0 12).toInt ≤ 1 := hok.1 0 12
              have h_88 : (0 : Int) ≤ (t_75.1 0 16).toInt ∧ (t_75.1 0 16).toInt ≤ 63 := hok.1 0 16
              have h_89 : (0 : Int) ≤ (t_75.1 0 17).toInt ∧ (t_75.1 0 17).toInt ≤ 63 := hok.1 0 17
              have h_90 : (0 : Int) ≤ (t_75.1 0 35).toInt ∧ (t_75.1 0 35).toInt ≤ 1700 := hok.1 0 35
              have h_91 : (0 : Int) ≤ (t_75.1 0 36).toInt ∧ (t_75.1 0 36).toInt ≤ 1700 := hok.1 0 36
              replace p_78 : (t_50.1 0 12).toInt = 1 → (t_50.2.1 0 8).toInt + 1 ≤ (t_75.2.1 0 8).toInt := p_78
              obtain ⟨v_92, e_93⟩ : ∃ z, z = w2_2 + 1 := ⟨_, rfl⟩
              have h_94 : v_92.toInt = w2_2.toInt + 1 := by rw [e_93]; exact ti_iadd (by show (_ : Int) ≤ w2_2.toInt + 1; omega) (by show w2_2.toInt + 1 < (_ : Int); omega)
              refine lv_iinc (v := v_92) (lv' := [(2, .int v_92), (0, .ref (ad 0)), (1, .int x1), (3, .int r_51)]) C.1 C.2.1 dX12_goOn_63 hl (k := 2) rfl e_93.symm (by decide) rfl (fun ls hl => ?_)
              have hl : lv_has ls 4 [(0, .ref (ad 0)), (1, .int x1), (2, .int v_92), (3, .int r_51)] := lv_sub hl [1, 2, 0, 3] rfl
              refine lv_goto (tgt := 2) C.1 C.2.1 dX12_goOn_66 (by decide) ?_
              have hst := st0_r (t_75.1 0 9)
              exact ih_2 t_75 v_92 _ _ _ hok hfr ⟨by omega, by omega⟩ (show v_92.toInt ≤ x1.toInt from by omega) (show (t.1 0 12).toInt = 1 → (t.2.1 0 8).toInt + v_92.toInt ≤ (t_75.2.1 0 8).toInt from by omega) (show (2 * (2 * (x1.toInt - v_92.toInt) + 1 - (t_75.1 0 10).toInt) + st0 (t_75.1 0 9)) < (fuel_2 : Int) from by omega) hP hD hS (lv_sub hl [0, 1, 2] rfl)
            · replace c_74 : 0 < r_51.toInt := i_nle c_74
              refine lv_aload_n C.1 C.2.1 dX12_goOn_51 rfl (lv_at hl 0 rfl) ?_
              refine lv_iload_n C.1 C.2.1 dX12_goOn_52 rfl (lv_at hl 3 rfl) ?_
              refine g_Vv (As := [.int r_51]) (rest := []) C hP hD hS hA (T_X12_fails l D K Z Y ad t_50 hok (r_51) (show (1 : Int) ≤ (r_51 : Int32).toInt ∧ (r_51 : Int32).toInt ≤ 9 from ⟨by omega, by omega⟩) (show 1 ≤ r_51.toInt from by omega)) hE hZ (uwV m_59_16 m_59_17 m_59_18 m_1_5 m_59_19) (hdV 1 (by decide +kernel) rfl) ⟨Nat.le_of_ble_eq_true rfl, Nat.le_of_ble_eq_true rfl⟩ rfl rfl (ci := 11) (q0 := 0) rfl rfl rfl hl.1 (Nat.le_of_ble_eq_true rfl) dX12_goOn_53 ⟨Nat.le_of_ble_eq_true rfl, Nat.le_of_ble_eq_true rfl⟩ (fun t_95 H locs hw hP hD hS => ?_)
              obtain ⟨hok, f_97, p_98⟩ := hw
              have hfr : frA [(0, 5), (0, 6), (0, 7), (0, 9), (0, 10), (0, 14), (0, 15), (0, 16), (0, 17), (0, 18), (0, 30), (0, 35), (0, 91)] [(0, 8)] [2, 3, 5, 7, 8, 9, 10, 11, 12, 13, 14] [4, 6] t t_95 := frA_tr hfr f_97 rfl
              have h_99 : (t_95.2.1 0 8).toInt = (t_50.2.1 0 8).toInt := tl_eq (f_97.2.1 0 8 rfl)
              have h_100 : (t_95.1 0 12).toInt = (t_50.1 0 12).toInt := ti_eq (f_97.1 0 12 rfl)
              have h_101 : (t_95.2.1 0 13).toInt = (t_50.2.1 0 13).toInt := tl_eq (f_97.2.1 0 13 rfl)
              have h_102 : (t_95.1 0 16).toInt = (t_50.1 0 16).toInt := ti_eq (f_97.1 0 16 rfl)
              have h_103 : (t_95.1 0 17).toInt = (t_50.1 0 17).toInt := ti_eq (f_97.1 0 17 rfl)
              have h_104 : (t_95.1 0 18).toInt = (t_50.1 0 18).toInt := ti_eq (f_97.1 0 18 rfl)
              have h_105 : (t_95.1 0 35).toInt = (t_50.1 0 35).toInt := ti_eq (f_97.1 0 35 rfl)
              have h_106 : (t_95.1 0 36).toInt = (t_50.1 0 36).toInt := ti_eq (f_97.1 0 36 rfl)
              have e_107 : t_95.2.2.2 4 = t1.2.2.2 4 := (f_97.2.2.2 4 rfl).trans (e_65)
              have h_108 : (0 : Int) ≤ (t_95.1 0 9).toInt ∧ (t_95.1 0 9).toInt ≤ 10 := hok.1 0 9
              have h_109 : (0 : Int) ≤ (t_95.1 0 10).toInt ∧ (t_95.1 0 10).toInt ≤ 1 := hok.1 0 10
              have h_110 : (0 : Int) ≤ (t_95.1 0 12).toInt ∧ (t_95.1 0 12).toInt ≤ 1 := hok.1 0 12
              have h_111 : (0 : Int) ≤ (t_95.1 0 16).toInt ∧ (t_95.1 0 16).toInt ≤ 63 := hok.1 0 16
              have h_112 : (0 : Int) ≤ (t_95.1 0 17).toInt ∧ (t_95.1 0 17).toInt ≤ 63 := hok.1 0 17
              have h_113 : (0 : Int) ≤ (t_95.1 0 35).toInt ∧ (t_95.1 0 35).toInt ≤ 1700 := hok.1 0 35
              have h_114 : (0 : Int) ≤ (t_95.1 0 36).toInt ∧ (t_95.1 0 36).toInt ≤ 1700 := hok.1 0 36
              replace p_98 : ((t_50.1 0 10).toInt = 0 ∧ (t_95.1 0 10).toInt = 1 ∧ (t_95.1 0 9).toInt = (t_50.1 0 9).toInt) ∨ (¬ (t_95.1 0 9).toInt = 0 ∧ (t_95.1 0 10).toInt = (t_50.1 0 10).toInt) := p_98
              refine lv_goto (tgt := 66) C.1 C.2.1 dX12_goOn_56 (by decide) ?_
              refine lv_goto (tgt := 2) C.1 C.2.1 dX12_goOn_66 (by decide) ?_
              have hst := st0_r (t_95.1 0 9)
              exact ih_2 t_95 w2_2 _ _ _ hok hfr ⟨by omega, by omega⟩ (show w2_2.toInt ≤ x1.toInt from by omega) (show (t.1 0 12).toInt = 1 → (t.2.1 0 8).toInt + w2_2.toInt ≤ (t_95.2.1 0 8).toInt from by omega) (show (2 * (2 * (x1.toInt - w2_2.toInt) + 1 - (t_95.1 0 10).toInt) + st0 (t_95.1 0 9)) < (fuel_2 : Int) from by omega) hP hD hS (lv_sub hl [0, 1, 2] rfl)
          · replace c_73 : r_51.toInt = 10 := i_eq c_73
            refine lv_aload_n C.1 C.2.1 dX12_goOn_33 rfl (lv_at hl 0 rfl) ?_
            refine lv_iconst (v := 1) C.1 C.2.1 dX12_goOn_34 (by decide) ?_
            refine k_put (ws' := WM K ad (uI t_50 0 14 1)) (v := .int 1) C hP hD hS 0 rfl rfl inlX12 tyX12_ok nmX12 14 (by decide) m_56_14 rfl (by decide) (by decide) rfl rfl dX12_goOn_35 (fun H locs hP hD hS => ?_)
            have hok : okM (uI t_50 0 14 1) := ⟨okI_I hok.1 0 14 1 (show (0 : Int) ≤ (1 : Int32).toInt ∧ (1 : Int32).toInt ≤ 1 from ⟨by decide, by decide⟩), hok.2.1, hok.2.2.1, hok.2.2.2.1, hok.2.2.2.2.1, hok.2.2.2.2.2.1, hok.2.2.2.2.2.2.1, trivial⟩
            have hfr : frA [(0, 5), (0, 6), (0, 7), (0, 9), (0, 10), (0, 14), (0, 15), (0, 16), (0, 17), (0, 18), (0, 30), (0, 35), (0, 91)] [(0, 8)] [2, 3, 5, 7, 8, 9, 10, 11, 12, 13, 14] [4, 6] t (uI t_50 0 14 1) := frA_I hfr 0 14 _ rfl
            refine lv_aload_n C.1 C.2.1 dX12_goOn_38 rfl (lv_at hl 0 rfl) ?_
            refine lv_bipush (v := 9) C.1 C.2.1 dX12_goOn_39 (by decide) ?_
            have h_115 : (9 : Int32).toInt = 9 := rfl
            refine g_Vv (As := [.int 9]) (rest := []) C hP hD hS hA (T_X12_stop l D K Z Y ad (uI t_50 0 14 1) hok 9 (show (1 : Int) ≤ (9 : Int32).toInt ∧ (9 : Int32).toInt ≤ 10 from ⟨by decide, by decide⟩)) hE hZ (uwV m_59_11 m_59_12 m_59_13 m_1_5 m_59_14) (hdV 1 (by decide +kernel) rfl) ⟨Nat.le_of_ble_eq_true rfl, Nat.le_of_ble_eq_true rfl⟩ rfl rfl (ci := 11) (q0 := 0) rfl rfl rfl hl.1 (Nat.le_of_ble_eq_true rfl) dX12_goOn_41 ⟨Nat.le_of_ble_eq_true rfl, Nat.le_of_ble_eq_true rfl⟩ (fun t_116 H locs hw hP hD hS => ?_)
            obtain ⟨hok, f_118, p_119⟩ := hw
            have hfr : frA [(0, 5), (0, 6), (0, 7), (0, 9), (0, 10), (0, 14), (0, 15), (0, 16), (0, 17), (0, 18), (0, 30), (0, 35), (0, 91)] [(0, 8)] [2, 3, 5, 7, 8, 9, 10, 11, 12, 13, 14] [4, 6] t t_116 := frA_tr hfr f_118 rfl
            have h_120 : (t_116.2.1 0 8).toInt = (t_50.2.1 0 8).toInt := tl_eq (f_118.2.1 0 8 rfl)
            have h_121 : (t_116.1 0 14).toInt = 1 := by rw [show (t_116.1 0 14) = (1 : Int32) from f_118.1 0 14 rfl]; rfl
            have h_122 : (t_116.1 0 10).toInt = (t_50.1 0 10).toInt := ti_eq (f_118.1 0 10 rfl)
            have h_123 : (t_116.1 0 12).toInt = (t_50.1 0 12).toInt := ti_eq (f_118.1 0 12 rfl)
            have h_124 : (t_116.2.1 0 13).toInt = (t_50.2.1 0 13).toInt := tl_eq (f_118.2.1 0 13 rfl)
            have h_125 : (t_116.1 0 16).toInt = (t_50.1 0 16).toInt := ti_eq (f_118.1 0 16 rfl)
            have h_126 : (t_116.1 0 17).toInt = (t_50.1 0 17).toInt := ti_eq (f_118.1 0 17 rfl)
            have h_127 : (t_116.1 0 18).toInt = (t_50.1 0 18).toInt := ti_eq (f_118.1 0 18 rfl)
            have h_128 : (t_116.1 0 35).toInt = (t_50.1 0 35).toInt := ti_eq (f_118.1 0 35 rfl)
            have h_129 : (t_116.1 0 36).toInt = (t_50.1 0 36).toInt := ti_eq (f_118.1 0 36 rfl)
            have e_130 : t_116.2.2.2 4 = t1.2.2.2 4 := (f_118.2.2.2 4 rfl).trans (e_65)
            have h_131 : (0 : Int) ≤ (t_116.1 0 9).toInt ∧ (t_116.1 0 9).toInt ≤ 10 := hok.1 0 9
            have h_132 : (0 : Int) ≤ (t_116.1 0 10).toInt ∧ (t_116.1 0 10).toInt ≤ 1 := hok.1 0 10
            have h_133 : (0 : Int) ≤ (t_116.1 0 12).toInt ∧ (t_116.1 0 12).toInt ≤ 1 := hok.1 0 12
            have h_134 : (0 : Int) ≤ (t_116.1 0 16).toInt ∧ (t_116.1 0 16).toInt ≤ 63 := hok.1 0 16
            have h_135 : (0 : Int) ≤ (t_116.1 0 17).toInt ∧ (t_116.1 0 17).toInt ≤ 63 := hok.1 0 17
            have h_136 : (0 : Int) ≤ (t_116.1 0 35).toInt ∧ (t_116.1 0 35).toInt ≤ 1700 := hok.1 0 35
            have h_137 : (0 : Int) ≤ (t_116.1 0 36).toInt ∧ (t_116.1 0 36).toInt ≤ 1700 := hok.1 0 36
            replace p_119 : (t_116.1 0 9).toInt = (9 : Int32).toInt := p_119
            refine lv_goto (tgt := 66) C.1 C.2.1 dX12_goOn_44 (by decide) ?_
            refine lv_goto (tgt := 2) C.1 C.2.1 dX12_goOn_66 (by decide) ?_
            have hst := st0_r (t_116.1 0 9)
            exact ih_2 t_116 w2_2 _ _ _ hok hfr ⟨by omega, by omega⟩ (show w2_2.toInt ≤ x1.toInt from by omega) (show (t.1 0 12).toInt = 1 → (t.2.1 0 8).toInt + w2_2.toInt ≤ (t_116.2.1 0 8).toInt from by omega) (show (2 * (2 * (x1.toInt - w2_2.toInt) + 1 - (t_116.1 0 10).toInt) + st0 (t_116.1 0 9)) < (fuel_2 : Int) from by omega) hP hD hS (lv_sub hl [0, 1, 2] rfl)
  refine lv_iconst (v := 0) C.1 C.2.1 dX12_goOn_0 (by decide) ?_
  refine lv_istore_n (lv' := [(2, .int 0), (0, .ref (ad 0)), (1, .int x1)]) C.1 C.2.1 dX12_goOn_1 rfl hl (by decide) rfl (fun ls hl => ?_)
  have hl : lv_has ls 4 [(0, .ref (ad 0)), (1, .int x1), (2, .int 0)] := lv_sub hl [1, 2, 0] rfl
  have hst := st0_r (t.1 0 9)
  exact L_2 500000 t 0 _ _ _ hok hfr ⟨by decide, by decide⟩ (show 0 ≤ x1.toInt from by omega) (show (t.1 0 12).toInt = 1 → (t.2.1 0 8).toInt + 0 ≤ (t.2.1 0 8).toInt from by omega) (show (2 * (2 * (x1.toInt - 0) + 1 - (t.1 0 10).toInt) + st0 (t.1 0 9)) < ((500000 : Nat) : Int) from by omega) hP hD hS (lv_sub hl [0, 1, 2] rfl)

theorem dX12_runJob_0 : decode cX12_runJob 0 = .ok (.aload_n 0, 1) := by decide +kernel
theorem dX12_runJob_1 : decode cX12_runJob 1 = .ok (.iconst 1, 1) := by decide +kernel
theorem dX12_runJob_10 : decode cX12_runJob 10 = .ok (.i2l, 1) := by decide +kernel
theorem dX12_runJob_11 : decode cX12_runJob 11 = .ok (.putfield 394, 3) := by decide +kernel
theorem dX12_runJob_14 : decode cX12_runJob 14 = .ok (.aload_n 0, 1) := by decide +kernel
theorem dX12_runJob_15 : decode cX12_runJob 15 = .ok (.iconst 0, 1) := by decide +kernel
theorem dX12_runJob_16 : decode cX12_runJob 16 = .ok (.putfield 424, 3) := by decide +kernel
theorem dX12_runJob_19 : decode cX12_runJob 19 = .ok (.aload_n 0, 1) := by decide +kernel
theorem dX12_runJob_2 : decode cX12_runJob 2 = .ok (.putfield 235, 3) := by decide +kernel
theorem dX12_runJob_20 : decode cX12_runJob 20 = .ok (.aload_n 0, 1) := by decide +kernel
theorem dX12_runJob_21 : decode cX12_runJob 21 = .ok (.iconst 4, 1) := by decide +kernel
theorem dX12_runJob_22 : decode cX12_runJob 22 = .ok (.invokevirtual 816, 3) := by decide +kernel
theorem dX12_runJob_25 : decode cX12_runJob 25 = .ok (.ifCond .eq 8, 3) := by decide +kernel
theorem dX12_runJob_28 : decode cX12_runJob 28 = .ok (.bipush 50, 2) := by decide +kernel
theorem dX12_runJob_30 : decode cX12_runJob 30 = .ok (.goto 4, 3) := by decide +kernel
theorem dX12_runJob_33 : decode cX12_runJob 33 = .ok (.iconst 0, 1) := by decide +kernel
theorem dX12_runJob_34 : decode cX12_runJob 34 = .ok (.putfield 415, 3) := by decide +kernel
theorem dX12_runJob_37 : decode cX12_runJob 37 = .ok (.aload_n 0, 1) := by decide +kernel
theorem dX12_runJob_38 : decode cX12_runJob 38 = .ok (.aload_n 0, 1) := by decide +kernel
theorem dX12_runJob_39 : decode cX12_runJob 39 = .ok (.getfield 602, 3) := by decide +kernel
theorem dX12_runJob_42 : decode cX12_runJob 42 = .ok (.invokevirtual 664, 3) := by decide +kernel
theorem dX12_runJob_45 : decode cX12_runJob 45 = .ok (.aload_n 0, 1) := by decide +kernel
theorem dX12_runJob_46 : decode cX12_runJob 46 = .ok (.getfield 24, 3) := by decide +kernel
theorem dX12_runJob_49 : decode cX12_runJob 49 = .ok (.ifCond .ne 14, 3) := by decide +kernel
theorem dX12_runJob_5 : decode cX12_runJob 5 = .ok (.aload_n 0, 1) := by decide +kernel
theorem dX12_runJob_52 : decode cX12_runJob 52 = .ok (.aload_n 0, 1) := by decide +kernel
theorem dX12_runJob_53 : decode cX12_runJob 53 = .ok (.ldc_w 711, 3) := by decide +kernel
theorem dX12_runJob_56 : decode cX12_runJob 56 = .ok (.invokevirtual 712, 3) := by decide +kernel
theorem dX12_runJob_59 : decode cX12_runJob 59 = .ok (.pop, 1) := by decide +kernel
theorem dX12_runJob_6 : decode cX12_runJob 6 = .ok (.aload_n 0, 1) := by decide +kernel
theorem dX12_runJob_60 : decode cX12_runJob 60 = .ok (.goto (-15), 3) := by decide +kernel
theorem dX12_runJob_63 : decode cX12_runJob 63 = .ok (.aload_n 0, 1) := by decide +kernel
theorem dX12_runJob_64 : decode cX12_runJob 64 = .ok (.iconst 0, 1) := by decide +kernel
theorem dX12_runJob_65 : decode cX12_runJob 65 = .ok (.putfield 415, 3) := by decide +kernel
theorem dX12_runJob_68 : decode cX12_runJob 68 = .ok (.aload_n 0, 1) := by decide +kernel
theorem dX12_runJob_69 : decode cX12_runJob 69 = .ok (.iconst 0, 1) := by decide +kernel
theorem dX12_runJob_7 : decode cX12_runJob 7 = .ok (.getfield 740, 3) := by decide +kernel
theorem dX12_runJob_70 : decode cX12_runJob 70 = .ok (.putfield 235, 3) := by decide +kernel
theorem dX12_runJob_73 : decode cX12_runJob 73 = .ok (.return_, 1) := by decide +kernel
set_option maxHeartbeats 4000000 in
set_option maxRecDepth 100000 in
theorem T_X12_runJob (l : Launch) (D : va_G) (K : Nat → ClassId) (Z Y : Nat → Nat) (ad : Nat → Nat) (t : tSt) (hok : okM t) (hs0 : (t.2.1 0 8).toInt = 0) (hs1 : bz (t.2.2.2 4) 20) : tMet l yX12_runJob cX12_runJob 1 none (rmD 12 0 0) D K Z Y [.ref (ad 0)] (WM K ad t) (QV D K (fun (u : tSt) => okM u ∧ frA [(0, 5), (0, 6), (0, 7), (0, 9), (0, 10), (0, 11), (0, 12), (0, 14), (0, 15), (0, 16), (0, 17), (0, 18), (0, 30), (0, 35), (0, 91)] [(0, 8), (0, 13)] [2, 3, 5, 7, 8, 9, 10, 11, 12, 13, 14] [4, 6] t u ∧ ((u.1 0 12).toInt = 0)) (fun (u : tSt) => WM K ad u)) 0 0 := by
  refine t_met RX12 ⟨rfl, by decide +kernel⟩ (Nat.le_of_ble_eq_true rfl) ?_
  intro p e s m below meth c A ls C hE hZ hr hlocks hA hP hD hS hl
  have hl : lv_has ls 1 [(0, .ref (ad 0))] := hl
  have hokt := hok
  have hfr : frA [(0, 5), (0, 6), (0, 7), (0, 9), (0, 10), (0, 11), (0, 12), (0, 14), (0, 15), (0, 16), (0, 17), (0, 18), (0, 30), (0, 35), (0, 91)] [(0, 8), (0, 13)] [2, 3, 5, 7, 8, 9, 10, 11, 12, 13, 14] [4, 6] t t := frA_rf
  have h_1 : (0 : Int) ≤ (t.1 0 9).toInt ∧ (t.1 0 9).toInt ≤ 10 := hok.1 0 9
  have h_2 : (0 : Int) ≤ (t.1 0 12).toInt ∧ (t.1 0 12).toInt ≤ 1 := hok.1 0 12
  have L_45 : ∀ (fuel_45 : Nat) (t1 : tSt) (H : Heap) (locs : List Loc) (ls : Array Slot), okM t1 → frA [(0, 5), (0, 6), (0, 7), (0, 9), (0, 10), (0, 11), (0, 12), (0, 14), (0, 15), (0, 16), (0, 17), (0, 18), (0, 30), (0, 35), (0, 91)] [(0, 8), (0, 13)] [2, 3, 5, 7, 8, 9, 10, 11, 12, 13, 14] [4, 6] t t1 → (1 : Int) ≤ (t1.1 0 12).toInt ∧ (t1.1 0 12).toInt ≤ 1 → ((t1.1 0 12).toInt = 1) → (2147483647 - (t1.2.1 0 8).toInt + st0 (t1.1 0 9)) < (fuel_45 : Int) → va_P D vwCl (WM K ad t1) H → va_D A (WM K ad t1) → va_S A s.heap H locs → lv_has ls 1 [(0, .ref (ad 0))] → W p l e (rmD 12 0 0) s m [.ref (ad 0)].toArray below meth c H locs 0 0 (MQ below (QV D K (fun (u : tSt) => okM u ∧ frA [(0, 5), (0, 6), (0, 7), (0, 9), (0, 10), (0, 11), (0, 12), (0, 14), (0, 15), (0, 16), (0, 17), (0, 18), (0, 30), (0, 35), (0, 91)] [(0, 8), (0, 13)] [2, 3, 5, 7, 8, 9, 10, 11, 12, 13, 14] [4, 6] t u ∧ ((u.1 0 12).toInt = 0)) (fun (u : tSt) => WM K ad u) A) [.ref (ad 0)].toArray s 0 0 A) (F0 m 45 ls []) := by
    intro fuel_45
    induction fuel_45 with
    | zero =>
      intro t1 H locs ls hok hfr hf45_12 hi45_0 hm45_45 hP hD hS hl
      have h_3 : (0 : Int) ≤ (t1.1 0 9).toInt ∧ (t1.1 0 9).toInt ≤ 10 := hok.1 0 9
      have hst := st0_r (t1.1 0 9)
      have hjm : (-2147483648 ≤ (t1.2.1 0 13).toInt ∧ (t1.2.1 0 13).toInt ≤ 2147483647) ∧ ((t1.1 0 12).toInt = 1 → 0 ≤ (t1.2.1 0 8).toInt ∧ ((t1.2.1 0 8).toInt ≤ (t1.2.1 0 13).toInt ∨ (t1.2.1 0 8).toInt = 0)) := jM_n hok.2.2.2.2.2.2.1
      exact absurd hm45_45 (by omega)
    | succ fuel_45 ih_45 =>
      intro t1 H locs ls hok hfr hf45_12 hi45_0 hm45_45 hP hD hS hl
      have hm45_45 : (2147483647 - (t1.2.1 0 8).toInt + st0 (t1.1 0 9)) < (fuel_45 : Int) + 1 := by omega
      have h_4 : (0 : Int) ≤ (t1.1 0 9).toInt ∧ (t1.1 0 9).toInt ≤ 10 := hok.1 0 9
      have hst0 := st0_r (t1.1 0 9)
      refine lv_aload_n C.1 C.2.1 dX12_runJob_45 rfl (lv_at hl 0 rfl) ?_
      refine k_get (v := .int (t1.1 0 9)) C hP 0 rfl rfl inlX12 9 (by decide) m_7_8 rfl dX12_runJob_46 ?_
      refine lv_if_ne (tgt := 63) C.1 C.2.1 dX12_runJob_49 (by decide) (fun c_5 => ?_) (fun c_5 => ?_)
      · replace c_5 : ¬ (t1.1 0 9).toInt = 0 := i_ne c_5
        refine lv_aload_n C.1 C.2.1 dX12_runJob_63 rfl (lv_at hl 0 rfl) ?_
        refine lv_iconst (v := 0) C.1 C.2.1 dX12_runJob_64 (by decide) ?_
        refine k_put (ws' := WM K ad (uI t1 0 91 0)) (v := .int 0) C hP hD hS 0 rfl rfl inlX12 tyX12_ok nmX12 91 (by decide) m_30_3 rfl rfl rfl rfl rfl dX12_runJob_65 (fun H locs hP hD hS => ?_)
        have hok : okM (uI t1 0 91 0) := ⟨okI_I hok.1 0 91 0 (show (-2147483648 : Int) ≤ (0 : Int32).toInt ∧ (0 : Int32).toInt ≤ 2147483647 from (i_rng _)), hok.2.1, hok.2.2.1, hok.2.2.2.1, hok.2.2.2.2.1, hok.2.2.2.2.2.1, hok.2.2.2.2.2.2.1, trivial⟩
        have hfr : frA [(0, 5), (0, 6), (0, 7), (0, 9), (0, 10), (0, 11), (0, 12), (0, 14), (0, 15), (0, 16), (0, 17), (0, 18), (0, 30), (0, 35), (0, 91)] [(0, 8), (0, 13)] [2, 3, 5, 7, 8, 9, 10, 11, 12, 13, 14] [4, 6] t (uI t1 0 91 0) := frA_I hfr 0 91 _ rfl
        refine lv_aload_n C.1 C.2.1 dX12_runJob_68 rfl (lv_at hl 0 rfl) ?_
        refine lv_iconst (v := 0) C.1 C.2.1 dX12_runJob_69 (by decide) ?_
        refine k_put (ws' := WM K ad (uI (uI t1 0 91 0) 0 12 0)) (v := .int 0) C hP hD hS 0 rfl rfl inlX12 tyX12_ok nmX12 12 (by decide) m_30_2 rfl (by decide) (by decide) rfl rfl dX12_runJob_70 (fun H locs hP hD hS => ?_)
        have hok : okM (uI (uI t1 0 91 0) 0 12 0) := ⟨okI_I hok.1 0 12 0 (show (0 : Int) ≤ (0 : Int32).toInt ∧ (0 : Int32).toInt ≤ 1 from ⟨by decide, by decide⟩), hok.2.1, hok.2.2.1, hok.2.2.2.1, hok.2.2.2.2.1, hok.2.2.2.2.2.1, (jM_0 (k := (0 : Int32)) hok.2.2.2.2.2.2.1 (by decide)), trivial⟩
        have hfr : frA [(0, 5), (0, 6), (0, 7), (0, 9), (0, 10), (0, 11), (0, 12), (0, 14), (0, 15), (0, 16), (0, 17), (0, 18), (0, 30), (0, 35), (0, 91)] [(0, 8), (0, 13)] [2, 3, 5, 7, 8, 9, 10, 11, 12, 13, 14] [4, 6] t (uI (uI t1 0 91 0) 0 12 0) := frA_I hfr 0 12 _ rfl
        exact g_vret C hr hlocks hP hD hS (uI (uI t1 0 91 0) 0 12 0) rfl ⟨hok, hfr, (show 0 = 0 from by omega)⟩ (Nat.le_of_ble_eq_true rfl) (Nat.le_of_ble_eq_true rfl) dX12_runJob_73
      · replace c_5 : (t1.1 0 9).toInt = 0 := i_eq c_5
        refine lv_aload_n C.1 C.2.1 dX12_runJob_52 rfl (lv_at hl 0 rfl) ?_
        refine lv_ldcw (v := 100000) C.1 C.2.1 C.2.2.2.1 (C.2.2.2.2.1 _ m_56_9) dX12_runJob_53 ?_
        have h_6 : (100000 : Int32).toInt = 100000 := rfl
        refine g_Vi (As := [.int 100000]) (rest := []) C hP hD hS hA (T_X12_goOn l D K Z Y ad t1 hok 100000 (show (0 : Int) ≤ (100000 : Int32).toInt ∧ (100000 : Int32).toInt ≤ 100000 from ⟨by decide, by decide⟩)) hE hZ (uwV m_56_10 m_56_11 m_56_12 m_1_5 m_56_13) (hdV 1 (by decide +kernel) rfl) ⟨Nat.le_of_ble_eq_true rfl, Nat.le_of_ble_eq_true rfl⟩ rfl rfl (ci := 11) (q0 := 0) rfl rfl rfl hl.1 (Nat.le_of_ble_eq_true rfl) dX12_runJob_56 ⟨Nat.le_of_ble_eq_true rfl, Nat.le_of_ble_eq_true rfl⟩ (fun r_8 t_7 H locs hw hP hD hS => ?_)
        obtain ⟨hok, f_9, h_10, h_11, p_12, p_13⟩ := hw
        have hfr : frA [(0, 5), (0, 6), (0, 7), (0, 9), (0, 10), (0, 11), (0, 12), (0, 14), (0, 15), (0, 16), (0, 17), (0, 18), (0, 30), (0, 35), (0, 91)] [(0, 8), (0, 13)] [2, 3, 5, 7, 8, 9, 10, 11, 12, 13, 14] [4, 6] t t_7 := frA_tr hfr f_9 rfl
        have h_14 : (t_7.1 0 12).toInt = (t1.1 0 12).toInt := ti_eq (f_9.1 0 12 rfl)
        have h_15 : (0 : Int) ≤ (t_7.1 0 9).toInt ∧ (t_7.1 0 9).toInt ≤ 10 := hok.1 0 9
        replace p_12 : (t1.1 0 12).toInt = 1 → (t1.2.1 0 8).toInt ≤ (t_7.2.1 0 8).toInt := p_12
        replace p_13 : (t1.1 0 12).toInt = 1 → (t_7.1 0 9).toInt = 0 → (t1.2.1 0 8).toInt + (100000 : Int32).toInt ≤ (t_7.2.1 0 8).toInt := p_13
        refine lv_pop C.1 C.2.1 dX12_runJob_59 rfl ?_
        refine lv_goto (tgt := 45) C.1 C.2.1 dX12_runJob_60 (by decide) ?_
        have hst := st0_r (t_7.1 0 9)
        have hjm : (-2147483648 ≤ (t_7.2.1 0 13).toInt ∧ (t_7.2.1 0 13).toInt ≤ 2147483647) ∧ ((t_7.1 0 12).toInt = 1 → 0 ≤ (t_7.2.1 0 8).toInt ∧ ((t_7.2.1 0 8).toInt ≤ (t_7.2.1 0 13).toInt ∨ (t_7.2.1 0 8).toInt = 0)) := jM_n hok.2.2.2.2.2.2.1
        exact ih_45 t_7 _ _ _ hok hfr (show (1 : Int) ≤ ((t_7.1 0 12) : Int32).toInt ∧ ((t_7.1 0 12) : Int32).toInt ≤ 1 from ⟨by omega, by omega⟩) (show (t_7.1 0 12).toInt = 1 from by omega) (show (2147483647 - (t_7.2.1 0 8).toInt + st0 (t_7.1 0 9)) < (fuel_45 : Int) from by omega) hP hD hS (lv_sub hl [0] rfl)
  refine lv_aload_n C.1 C.2.1 dX12_runJob_0 rfl (lv_at hl 0 rfl) ?_
  refine lv_iconst (v := 1) C.1 C.2.1 dX12_runJob_1 (by decide) ?_
  refine k_put (ws' := WM K ad (uI t 0 12 1)) (v := .int 1) C hP hD hS 0 rfl rfl inlX12 tyX12_ok nmX12 12 (by decide) m_30_2 rfl (by decide) (by decide) rfl rfl dX12_runJob_2 (fun H locs hP hD hS => ?_)
  have hok : okM (uI t 0 12 1) := ⟨okI_I hok.1 0 12 1 (show (0 : Int) ≤ (1 : Int32).toInt ∧ (1 : Int32).toInt ≤ 1 from ⟨by decide, by decide⟩), hok.2.1, hok.2.2.1, hok.2.2.2.1, hok.2.2.2.2.1, hok.2.2.2.2.2.1, (jM_s hok.2.2.2.2.2.2.1 hs0 hs1 (jM_m hok.2.2.2.2.2.2.1)), trivial⟩
  have hfr : frA [(0, 5), (0, 6), (0, 7), (0, 9), (0, 10), (0, 11), (0, 12), (0, 14), (0, 15), (0, 16), (0, 17), (0, 18), (0, 30), (0, 35), (0, 91)] [(0, 8), (0, 13)] [2, 3, 5, 7, 8, 9, 10, 11, 12, 13, 14] [4, 6] t (uI t 0 12 1) := frA_I hfr 0 12 _ rfl
  refine lv_aload_n C.1 C.2.1 dX12_runJob_5 rfl (lv_at hl 0 rfl) ?_
  refine lv_aload_n C.1 C.2.1 dX12_runJob_6 rfl (lv_at hl 0 rfl) ?_
  refine k_get (v := .int (t.1 0 81)) C hP 0 rfl rfl inlX12 81 (by decide) m_78_23 rfl dX12_runJob_7 ?_
  obtain ⟨v_16, e_17⟩ : ∃ z, z = ((t.1 0 81) : Int32).toInt64 := ⟨_, rfl⟩
  have h_18 : v_16.toInt = (t.1 0 81).toInt := by rw [e_17]; exact Jvm.Kit.i64_of_i32 _
  have h_19 := i_rng (t.1 0 81)
  refine lv_i2l (v := v_16) C.1 C.2.1 dX12_runJob_10 e_17.symm ?_
  refine k_put (ws' := WM K ad (uJ (uI t 0 12 1) 0 13 v_16)) (v := .long v_16) C hP hD hS 0 rfl rfl inlX12 tyX12_ok nmX12 13 (by decide) m_57_6 rfl rfl rfl rfl rfl dX12_runJob_11 (fun H locs hP hD hS => ?_)
  have hok : okM (uJ (uI t 0 12 1) 0 13 v_16) := ⟨hok.1, hok.2.1, hok.2.2.1, hok.2.2.2.1, hok.2.2.2.2.1, hok.2.2.2.2.2.1, (jM_s (n := v_16) hok.2.2.2.2.2.2.1 hs0 hs1 (by omega)), trivial⟩
  have hfr : frA [(0, 5), (0, 6), (0, 7), (0, 9), (0, 10), (0, 11), (0, 12), (0, 14), (0, 15), (0, 16), (0, 17), (0, 18), (0, 30), (0, 35), (0, 91)] [(0, 8), (0, 13)] [2, 3, 5, 7, 8, 9, 10, 11, 12, 13, 14] [4, 6] t (uJ (uI t 0 12 1) 0 13 v_16) := frA_J hfr 0 13 _ rfl
  refine lv_aload_n C.1 C.2.1 dX12_runJob_14 rfl (lv_at hl 0 rfl) ?_
  refine lv_iconst (v := 0) C.1 C.2.1 dX12_runJob_15 (by decide) ?_
  refine k_put (ws' := WM K ad (uI (uJ (uI t 0 12 1) 0 13 v_16) 0 14 0)) (v := .int 0) C hP hD hS 0 rfl rfl inlX12 tyX12_ok nmX12 14 (by decide) m_56_14 rfl (by decide) (by decide) rfl rfl dX12_runJob_16 (fun H locs hP hD hS => ?_)
  have hok : okM (uI (uJ (uI t 0 12 1) 0 13 v_16) 0 14 0) := ⟨okI_I hok.1 0 14 0 (show (0 : Int) ≤ (0 : Int32).toInt ∧ (0 : Int32).toInt ≤ 1 from ⟨by decide, by decide⟩), hok.2.1, hok.2.2.1, hok.2.2.2.1, hok.2.2.2.2.1, hok.2.2.2.2.2.1, hok.2.2.2.2.2.2.1, trivial⟩
  have hfr : frA [(0, 5), (0, 6), (0, 7), (0, 9), (0, 10), (0, 11), (0, 12), (0, 14), (0, 15), (0, 16), (0, 17), (0, 18), (0, 30), (0, 35), (0, 91)] [(0, 8), (0, 13)] [2, 3, 5, 7, 8, 9, 10, 11, 12, 13, 14] [4, 6] t (uI (uJ (uI t 0 12 1) 0 13 v_16) 0 14 0) := frA_I hfr 0 14 _ rfl
  refine lv_aload_n C.1 C.2.1 dX12_runJob_19 rfl (lv_at hl 0 rfl) ?_
  refine lv_aload_n C.1 C.2.1 dX12_runJob_20 rfl (lv_at hl 0 rfl) ?_
  refine lv_iconst (v := 4) C.1 C.2.1 dX12_runJob_21 (by decide) ?_
  refine g_Vi (As := [.int 4]) (rest := [.ref (ad 0)]) C hP hD hS hA (T_X12_hasOption l D K Z Y ad (uI (uJ (uI t 0 12 1) 0 13 v_16) 0 14 0) hok 4 (show (0 : Int) ≤ (4 : Int32).toInt ∧ (4 : Int32).toInt ≤ 4 from ⟨by decide, by decide⟩)) hE hZ (uwV m_80_19 m_80_20 m_80_21 m_1_5 m_80_22) (hdV 1 (by decide +kernel) rfl) ⟨Nat.le_of_ble_eq_true rfl, Nat.le_of_ble_eq_true rfl⟩ rfl rfl (ci := 11) (q0 := 0) rfl rfl rfl hl.1 (Nat.le_of_ble_eq_true rfl) dX12_runJob_22 ⟨Nat.le_of_ble_eq_true rfl, Nat.le_of_ble_eq_true rfl⟩ (fun r_21 t_20 H locs hw hP hD hS => ?_)
  obtain ⟨h_23, h_24⟩ := hw
  refine lv_if_eq (tgt := 33) C.1 C.2.1 dX12_runJob_25 (by decide) (fun c_25 => ?_) (fun c_25 => ?_)
  · replace c_25 : r_21.toInt = 0 := i_eq c_25
    refine lv_iconst (v := 0) C.1 C.2.1 dX12_runJob_33 (by decide) ?_
    refine k_put (ws' := WM K ad (uI (uI (uJ (uI t 0 12 1) 0 13 v_16) 0 14 0) 0 91 0)) (v := .int 0) C hP hD hS 0 rfl rfl inlX12 tyX12_ok nmX12 91 (by decide) m_30_3 rfl rfl rfl rfl rfl dX12_runJob_34 (fun H locs hP hD hS => ?_)
    have hok : okM (uI (uI (uJ (uI t 0 12 1) 0 13 v_16) 0 14 0) 0 91 0) := ⟨okI_I hok.1 0 91 0 (show (-2147483648 : Int) ≤ (0 : Int32).toInt ∧ (0 : Int32).toInt ≤ 2147483647 from (i_rng _)), hok.2.1, hok.2.2.1, hok.2.2.2.1, hok.2.2.2.2.1, hok.2.2.2.2.2.1, hok.2.2.2.2.2.2.1, trivial⟩
    have hfr : frA [(0, 5), (0, 6), (0, 7), (0, 9), (0, 10), (0, 11), (0, 12), (0, 14), (0, 15), (0, 16), (0, 17), (0, 18), (0, 30), (0, 35), (0, 91)] [(0, 8), (0, 13)] [2, 3, 5, 7, 8, 9, 10, 11, 12, 13, 14] [4, 6] t (uI (uI (uJ (uI t 0 12 1) 0 13 v_16) 0 14 0) 0 91 0) := frA_I hfr 0 91 _ rfl
    refine lv_aload_n C.1 C.2.1 dX12_runJob_37 rfl (lv_at hl 0 rfl) ?_
    refine lv_aload_n C.1 C.2.1 dX12_runJob_38 rfl (lv_at hl 0 rfl) ?_
    have h_26 : (-3999 : Int) ≤ (t.1 0 45).toInt ∧ (t.1 0 45).toInt ≤ 3999 := hok.1 0 45
    refine k_get (v := .int (t.1 0 45)) C hP 0 rfl rfl inlX12 45 (by decide) m_29_0 rfl dX12_runJob_39 ?_
    refine g_Vv (As := [.int (t.1 0 45)]) (rest := []) C hP hD hS hA (T_X12_startAt l D K Z Y ad (uI (uI (uJ (uI t 0 12 1) 0 13 v_16) 0 14 0) 0 91 0) hok ((t.1 0 45)) (show (-3999 : Int) ≤ ((t.1 0 45) : Int32).toInt ∧ ((t.1 0 45) : Int32).toInt ≤ 3999 from ⟨by omega, by omega⟩)) hE hZ (uwV m_40_1 m_40_2 m_40_3 m_1_5 m_40_4) (hdV 1 (by decide +kernel) rfl) ⟨Nat.le_of_ble_eq_true rfl, Nat.le_of_ble_eq_true rfl⟩ rfl rfl (ci := 11) (q0 := 0) rfl rfl rfl hl.1 (Nat.le_of_ble_eq_true rfl) dX12_runJob_42 ⟨Nat.le_of_ble_eq_true rfl, Nat.le_of_ble_eq_true rfl⟩ (fun t_27 H locs hw hP hD hS => ?_)
    obtain ⟨hok, f_29⟩ := hw
    have hfr : frA [(0, 5), (0, 6), (0, 7), (0, 9), (0, 10), (0, 11), (0, 12), (0, 14), (0, 15), (0, 16), (0, 17), (0, 18), (0, 30), (0, 35), (0, 91)] [(0, 8), (0, 13)] [2, 3, 5, 7, 8, 9, 10, 11, 12, 13, 14] [4, 6] t t_27 := frA_tr hfr f_29 rfl
    have h_30 : (t_27.1 0 12).toInt = 1 := by rw [show (t_27.1 0 12) = (1 : Int32) from f_29.1 0 12 rfl]; rfl
    have h_31 : (t_27.1 0 81).toInt = (t.1 0 81).toInt := ti_eq (f_29.1 0 81 rfl)
    have h_32 : (t_27.2.1 0 13).toInt = v_16.toInt := tl_eq (f_29.2.1 0 13 rfl)
    have h_33 : (t_27.1 0 14).toInt = 0 := by rw [show (t_27.1 0 14) = (0 : Int32) from f_29.1 0 14 rfl]; rfl
    have h_34 : (t_27.1 0 91).toInt = 0 := by rw [show (t_27.1 0 91) = (0 : Int32) from f_29.1 0 91 rfl]; rfl
    have h_35 : (t_27.1 0 45).toInt = (t.1 0 45).toInt := ti_eq (f_29.1 0 45 rfl)
    have h_36 : (t_27.2.1 0 8).toInt = (t.2.1 0 8).toInt := tl_eq (f_29.2.1 0 8 rfl)
    have h_37 : (0 : Int) ≤ (t_27.1 0 9).toInt ∧ (t_27.1 0 9).toInt ≤ 10 := hok.1 0 9
    have hst := st0_r (t_27.1 0 9)
    have hjm : (-2147483648 ≤ (t_27.2.1 0 13).toInt ∧ (t_27.2.1 0 13).toInt ≤ 2147483647) ∧ ((t_27.1 0 12).toInt = 1 → 0 ≤ (t_27.2.1 0 8).toInt ∧ ((t_27.2.1 0 8).toInt ≤ (t_27.2.1 0 13).toInt ∨ (t_27.2.1 0 8).toInt = 0)) := jM_n hok.2.2.2.2.2.2.1
    exact L_45 2147483650 t_27 _ _ _ hok hfr (show (1 : Int) ≤ ((t_27.1 0 12) : Int32).toInt ∧ ((t_27.1 0 12) : Int32).toInt ≤ 1 from ⟨by omega, by omega⟩) (show (t_27.1 0 12).toInt = 1 from by omega) (show (2147483647 - (t_27.2.1 0 8).toInt + st0 (t_27.1 0 9)) < ((2147483650 : Nat) : Int) from by omega) hP hD hS (lv_sub hl [0] rfl)
  · replace c_25 : ¬ r_21.toInt = 0 := i_ne c_25
    refine lv_bipush (v := 50) C.1 C.2.1 dX12_runJob_28 (by decide) ?_
    refine lv_goto (tgt := 34) C.1 C.2.1 dX12_runJob_30 (by decide) ?_
    refine k_put (ws' := WM K ad (uI (uI (uJ (uI t 0 12 1) 0 13 v_16) 0 14 0) 0 91 50)) (v := .int 50) C hP hD hS 0 rfl rfl inlX12 tyX12_ok nmX12 91 (by decide) m_30_3 rfl rfl rfl rfl rfl dX12_runJob_34 (fun H locs hP hD hS => ?_)
    have hok : okM (uI (uI (uJ (uI t 0 12 1) 0 13 v_16) 0 14 0) 0 91 50) := ⟨okI_I hok.1 0 91 50 (show (-2147483648 : Int) ≤ (50 : Int32).toInt ∧ (50 : Int32).toInt ≤ 2147483647 from (i_rng _)), hok.2.1, hok.2.2.1, hok.2.2.2.1, hok.2.2.2.2.1, hok.2.2.2.2.2.1, hok.2.2.2.2.2.2.1, trivial⟩
    have hfr : frA [(0, 5), (0, 6), (0, 7), (0, 9), (0, 10), (0, 11), (0, 12), (0, 14), (0, 15), (0, 16), (0, 17), (0, 18), (0, 30), (0, 35), (0, 91)] [(0, 8), (0, 13)] [2, 3, 5, 7, 8, 9, 10, 11, 12, 13, 14] [4, 6] t (uI (uI (uJ (uI t 0 12 1) 0 13 v_16) 0 14 0) 0 91 50) := frA_I hfr 0 91 _ rfl
    refine lv_aload_n C.1 C.2.1 dX12_runJob_37 rfl (lv_at hl 0 rfl) ?_
    refine lv_aload_n C.1 C.2.1 dX12_runJob_38 rfl (lv_at hl 0 rfl) ?_
    have h_38 : (-3999 : Int) ≤ (t.1 0 45).toInt ∧ (t.1 0 45).toInt ≤ 3999 := hok.1 0 45
    refine k_get (v := .int (t.1 0 45)) C hP 0 rfl rfl inlX12 45 (by decide) m_29_0 rfl dX12_runJob_39 ?_
    refine g_Vv (As := [.int (t.1 0 45)]) (rest := []) C hP hD hS hA (T_X12_startAt l D K Z Y ad (uI (uI (uJ (uI t 0 12 1) 0 13 v_16) 0 14 0) 0 91 50) hok ((t.1 0 45)) (show (-3999 : Int) ≤ ((t.1 0 45) : Int32).toInt ∧ ((t.1 0 45) : Int32).toInt ≤ 3999 from ⟨by omega, by omega⟩)) hE hZ (uwV m_40_1 m_40_2 m_40_3 m_1_5 m_40_4) (hdV 1 (by decide +kernel) rfl) ⟨Nat.le_of_ble_eq_true rfl, Nat.le_of_ble_eq_true rfl⟩ rfl rfl (ci := 11) (q0 := 0) rfl rfl rfl hl.1 (Nat.le_of_ble_eq_true rfl) dX12_runJob_42 ⟨Nat.le_of_ble_eq_true rfl, Nat.le_of_ble_eq_true rfl⟩ (fun t_39 H locs hw hP hD hS => ?_)
    obtain ⟨hok, f_41⟩ := hw
    have hfr : frA [(0, 5), (0, 6), (0, 7), (0, 9), (0, 10), (0, 11), (0, 12), (0, 14), (0, 15), (0, 16), (0, 17), (0, 18), (0, 30), (0, 35), (0, 91)] [(0, 8), (0, 13)] [2, 3, 5, 7, 8, 9, 10, 11, 12, 13, 14] [4, 6] t t_39 := frA_tr hfr f_41 rfl
    have h_42 : (t_39.1 0 12).toInt = 1 := by rw [show (t_39.1 0 12) = (1 : Int32) from f_41.1 0 12 rfl]; rfl
    have h_43 : (t_39.1 0 81).toInt = (t.1 0 81).toInt := ti_eq (f_41.1 0 81 rfl)
    have h_44 : (t_39.2.1 0 13).toInt = v_16.toInt := tl_eq (f_41.2.1 0 13 rfl)
    have h_45 : (t_39.1 0 14).toInt = 0 := by rw [show (t_39.1 0 14) = (0 : Int32) from f_41.1 0 14 rfl]; rfl
    have h_46 : (t_39.1 0 91).toInt = 50 := by rw [show (t_39.1 0 91) = (50 : Int32) from f_41.1 0 91 rfl]; rfl
    have h_47 : (t_39.1 0 45).toInt = (t.1 0 45).toInt := ti_eq (f_41.1 0 45 rfl)
    have h_48 : (t_39.2.1 0 8).toInt = (t.2.1 0 8).toInt := tl_eq (f_41.2.1 0 8 rfl)
    have h_49 : (0 : Int) ≤ (t_39.1 0 9).toInt ∧ (t_39.1 0 9).toInt ≤ 10 := hok.1 0 9
    have hst := st0_r (t_39.1 0 9)
    have hjm : (-2147483648 ≤ (t_39.2.1 0 13).toInt ∧ (t_39.2.1 0 13).toInt ≤ 2147483647) ∧ ((t_39.1 0 12).toInt = 1 → 0 ≤ (t_39.2.1 0 8).toInt ∧ ((t_39.2.1 0 8).toInt ≤ (t_39.2.1 0 13).toInt ∨ (t_39.2.1 0 8).toInt = 0)) := jM_n hok.2.2.2.2.2.2.1
    exact L_45 2147483650 t_39 _ _ _ hok hfr (show (1 : Int) ≤ ((t_39.1 0 12) : Int32).toInt ∧ ((t_39.1 0 12) : Int32).toInt ≤ 1 from ⟨by omega, by omega⟩) (show (t_39.1 0 12).toInt = 1 from by omega) (show (2147483647 - (t_39.2.1 0 8).toInt + st0 (t_39.1 0 9)) < ((2147483650 : Nat) : Int) from by omega) hP hD hS (lv_sub hl [0] rfl)

theorem dX12_wValue_0 : decode cX12_wValue 0 = .ok (.iconst 0, 1) := by decide +kernel
theorem dX12_wValue_1 : decode cX12_wValue 1 = .ok (.istore_n 1, 1) := by decide +kernel
theorem dX12_wValue_100 : decode cX12_wValue 100 = .ok (.bipush 44, 2) := by decide +kernel
theorem dX12_wValue_102 : decode cX12_wValue 102 = .ok (.if_icmp .ne 7, 3) := by decide +kernel
theorem dX12_wValue_105 : decode cX12_wValue 105 = .ok (.iconst 1, 1) := by decide +kernel
theorem dX12_wValue_106 : decode cX12_wValue 106 = .ok (.goto 4, 3) := by decide +kernel
theorem dX12_wValue_109 : decode cX12_wValue 109 = .ok (.iconst 0, 1) := by decide +kernel
theorem dX12_wValue_110 : decode cX12_wValue 110 = .ok (.istore_n 2, 1) := by decide +kernel
theorem dX12_wValue_111 : decode cX12_wValue 111 = .ok (.iload_n 2, 1) := by decide +kernel
theorem dX12_wValue_112 : decode cX12_wValue 112 = .ok (.ifCond .eq 13, 3) := by decide +kernel
theorem dX12_wValue_115 : decode cX12_wValue 115 = .ok (.aload_n 0, 1) := by decide +kernel
theorem dX12_wValue_116 : decode cX12_wValue 116 = .ok (.dup, 1) := by decide +kernel
theorem dX12_wValue_117 : decode cX12_wValue 117 = .ok (.getfield 472, 3) := by decide +kernel
theorem dX12_wValue_12 : decode cX12_wValue 12 = .ok (.ifCond .ne 116, 3) := by decide +kernel
theorem dX12_wValue_120 : decode cX12_wValue 120 = .ok (.iconst 1, 1) := by decide +kernel
theorem dX12_wValue_121 : decode cX12_wValue 121 = .ok (.iadd, 1) := by decide +kernel
theorem dX12_wValue_122 : decode cX12_wValue 122 = .ok (.putfield 472, 3) := by decide +kernel
theorem dX12_wValue_125 : decode cX12_wValue 125 = .ok (.goto (-121), 3) := by decide +kernel
theorem dX12_wValue_128 : decode cX12_wValue 128 = .ok (.iload_n 1, 1) := by decide +kernel
theorem dX12_wValue_129 : decode cX12_wValue 129 = .ok (.ireturn, 1) := by decide +kernel
theorem dX12_wValue_15 : decode cX12_wValue 15 = .ok (.aload_n 0, 1) := by decide +kernel
theorem dX12_wValue_16 : decode cX12_wValue 16 = .ok (.invokevirtual 528, 3) := by decide +kernel
theorem dX12_wValue_19 : decode cX12_wValue 19 = .ok (.istore_n 3, 1) := by decide +kernel
theorem dX12_wValue_2 : decode cX12_wValue 2 = .ok (.iconst 1, 1) := by decide +kernel
theorem dX12_wValue_20 : decode cX12_wValue 20 = .ok (.iconst 5, 1) := by decide +kernel
theorem dX12_wValue_21 : decode cX12_wValue 21 = .ok (.istore 4, 2) := by decide +kernel
theorem dX12_wValue_23 : decode cX12_wValue 23 = .ok (.aload_n 0, 1) := by decide +kernel
theorem dX12_wValue_24 : decode cX12_wValue 24 = .ok (.getfield 469, 3) := by decide +kernel
theorem dX12_wValue_27 : decode cX12_wValue 27 = .ok (.ifCond .ne 47, 3) := by decide +kernel
theorem dX12_wValue_3 : decode cX12_wValue 3 = .ok (.istore_n 2, 1) := by decide +kernel
theorem dX12_wValue_30 : decode cX12_wValue 30 = .ok (.aload_n 0, 1) := by decide +kernel
theorem dX12_wValue_31 : decode cX12_wValue 31 = .ok (.invokevirtual 491, 3) := by decide +kernel
theorem dX12_wValue_34 : decode cX12_wValue 34 = .ok (.bipush 40, 2) := by decide +kernel
theorem dX12_wValue_36 : decode cX12_wValue 36 = .ok (.if_icmp .ne 38, 3) := by decide +kernel
theorem dX12_wValue_39 : decode cX12_wValue 39 = .ok (.aload_n 0, 1) := by decide +kernel
theorem dX12_wValue_4 : decode cX12_wValue 4 = .ok (.iload_n 2, 1) := by decide +kernel
theorem dX12_wValue_40 : decode cX12_wValue 40 = .ok (.iconst 0, 1) := by decide +kernel
theorem dX12_wValue_41 : decode cX12_wValue 41 = .ok (.bipush 63, 2) := by decide +kernel
theorem dX12_wValue_43 : decode cX12_wValue 43 = .ok (.invokevirtual 531, 3) := by decide +kernel
theorem dX12_wValue_46 : decode cX12_wValue 46 = .ok (.istore 4, 2) := by decide +kernel
theorem dX12_wValue_48 : decode cX12_wValue 48 = .ok (.aload_n 0, 1) := by decide +kernel
theorem dX12_wValue_49 : decode cX12_wValue 49 = .ok (.getfield 469, 3) := by decide +kernel
theorem dX12_wValue_5 : decode cX12_wValue 5 = .ok (.ifCond .eq 123, 3) := by decide +kernel
theorem dX12_wValue_52 : decode cX12_wValue 52 = .ok (.ifCond .ne 16, 3) := by decide +kernel
theorem dX12_wValue_55 : decode cX12_wValue 55 = .ok (.iload 4, 2) := by decide +kernel
theorem dX12_wValue_57 : decode cX12_wValue 57 = .ok (.invokestatic 323, 3) := by decide +kernel
theorem dX12_wValue_60 : decode cX12_wValue 60 = .ok (.ifCond .ne 8, 3) := by decide +kernel
theorem dX12_wValue_63 : decode cX12_wValue 63 = .ok (.aload_n 0, 1) := by decide +kernel
theorem dX12_wValue_64 : decode cX12_wValue 64 = .ok (.iconst 5, 1) := by decide +kernel
theorem dX12_wValue_65 : decode cX12_wValue 65 = .ok (.invokevirtual 478, 3) := by decide +kernel
theorem dX12_wValue_68 : decode cX12_wValue 68 = .ok (.aload_n 0, 1) := by decide +kernel
theorem dX12_wValue_69 : decode cX12_wValue 69 = .ok (.bipush 41, 2) := by decide +kernel
theorem dX12_wValue_71 : decode cX12_wValue 71 = .ok (.invokevirtual 534, 3) := by decide +kernel
theorem dX12_wValue_74 : decode cX12_wValue 74 = .ok (.aload_n 0, 1) := by decide +kernel
theorem dX12_wValue_75 : decode cX12_wValue 75 = .ok (.getfield 469, 3) := by decide +kernel
theorem dX12_wValue_78 : decode cX12_wValue 78 = .ok (.ifCond .ne 11, 3) := by decide +kernel
theorem dX12_wValue_8 : decode cX12_wValue 8 = .ok (.aload_n 0, 1) := by decide +kernel
theorem dX12_wValue_81 : decode cX12_wValue 81 = .ok (.iload_n 1, 1) := by decide +kernel
theorem dX12_wValue_82 : decode cX12_wValue 82 = .ok (.iload_n 3, 1) := by decide +kernel
theorem dX12_wValue_83 : decode cX12_wValue 83 = .ok (.iload 4, 2) := by decide +kernel
theorem dX12_wValue_85 : decode cX12_wValue 85 = .ok (.invokestatic 350, 3) := by decide +kernel
theorem dX12_wValue_88 : decode cX12_wValue 88 = .ok (.istore_n 1, 1) := by decide +kernel
theorem dX12_wValue_89 : decode cX12_wValue 89 = .ok (.aload_n 0, 1) := by decide +kernel
theorem dX12_wValue_9 : decode cX12_wValue 9 = .ok (.getfield 469, 3) := by decide +kernel
theorem dX12_wValue_90 : decode cX12_wValue 90 = .ok (.getfield 469, 3) := by decide +kernel
theorem dX12_wValue_93 : decode cX12_wValue 93 = .ok (.ifCond .ne 16, 3) := by decide +kernel
theorem dX12_wValue_96 : decode cX12_wValue 96 = .ok (.aload_n 0, 1) := by decide +kernel
theorem dX12_wValue_97 : decode cX12_wValue 97 = .ok (.invokevirtual 491, 3) := by decide +kernel
set_option maxHeartbeats 4000000 in
set_option maxRecDepth 100000 in
theorem T_X12_wValue (l : Launch) (D : va_G) (K : Nat → ClassId) (Z Y : Nat → Nat) (ad : Nat → Nat) (t : tSt) (hok : okM t) (hs0 : 1 ≤ (t.1 0 68).toInt) : tMet l yX12_wValue cX12_wValue 5 (some .int) (rmD 13 0 0) D K Z Y [.ref (ad 0)] (WM K ad t) (QI D K (fun (r : Int32) (u : tSt) => okM u ∧ frA [(0, 68), (0, 70)] [] [26, 27] [] t u ∧ (-2147483648 : Int) ≤ r.toInt ∧ r.toInt ≤ 2147483647 ∧ ((t.1 0 68).toInt ≤ (u.1 0 68).toInt) ∧ ((u.1 0 68).toInt ≤ (t.1 0 69).toInt ∨ (u.1 0 68).toInt = (t.1 0 68).toInt) ∧ (1 ≤ (u.1 0 70).toInt ∨ (t.1 0 68).toInt < (u.1 0 68).toInt) ∧ ((u.1 0 70).toInt = 0 → (t.1 0 70).toInt = 0)) (fun (u : tSt) => WM K ad u)) 0 0 := by
  refine t_met RX12 ⟨rfl, by decide +kernel⟩ (Nat.le_of_ble_eq_true rfl) ?_
  intro p e s m below meth c A ls C hE hZ hr hlocks hA hP hD hS hl
  have hl : lv_has ls 5 [(0, .ref (ad 0))] := hl
  have hokt := hok
  have hfr : frA [(0, 68), (0, 70)] [] [26, 27] [] t t := frA_rf
  have h_1 : (0 : Int) ≤ (t.1 0 68).toInt ∧ (t.1 0 68).toInt ≤ 81 := hok.1 0 68
  have h_2 : (0 : Int) ≤ (t.1 0 69).toInt ∧ (t.1 0 69).toInt ≤ 81 := hok.1 0 69
  have h_3 : (0 : Int) ≤ (t.1 0 70).toInt ∧ (t.1 0 70).toInt ≤ 8 := hok.1 0 70
  have L_4 : ∀ (fuel_4 : Nat) (t1 : tSt) (w4_1 : Int32) (w4_2 : Int32) (H : Heap) (locs : List Loc) (ls : Array Slot), okM t1 → frA [(0, 68), (0, 70)] [] [26, 27] [] t t1 → (0 : Int) ≤ w4_2.toInt ∧ w4_2.toInt ≤ 1 → ((t.1 0 68).toInt ≤ (t1.1 0 68).toInt) → ((t1.1 0 68).toInt ≤ (t.1 0 69).toInt ∨ (t1.1 0 68).toInt = (t.1 0 68).toInt) → (w4_2.toInt = 1 ∨ w4_2.toInt = 0) → (1 ≤ (t1.1 0 70).toInt ∨ (t.1 0 68).toInt < (t1.1 0 68).toInt ∨ w4_2.toInt = 1 ∧ (t1.1 0 70).toInt = (t.1 0 70).toInt) → ((t1.1 0 70).toInt = 0 → (t.1 0 70).toInt = 0) → (2 * (81 - (t1.1 0 68).toInt) + w4_2.toInt) < (fuel_4 : Int) → va_P D vwCl (WM K ad t1) H → va_D A (WM K ad t1) → va_S A s.heap H locs → lv_has ls 5 [(0, .ref (ad 0)), (1, .int w4_1), (2, .int w4_2)] → W p l e (rmD 13 0 0) s m [.ref (ad 0)].toArray below meth c H locs 0 0 (MQ below (QI D K (fun (r : Int32) (u : tSt) => okM u ∧ frA [(0, 68), (0, 70)] [] [26, 27] [] t u ∧ (-2147483648 : Int) ≤ r.toInt ∧ r.toInt ≤ 2147483647 ∧ ((t.1 0 68).toInt ≤ (u.1 0 68).toInt) ∧ ((u.1 0 68).toInt ≤ (t.1 0 69).toInt ∨ (u.1 0 68).toInt = (t.1 0 68).toInt) ∧ (1 ≤ (u.1 0 70).toInt ∨ (t.1 0 68).toInt < (u.1 0 68).toInt) ∧ ((u.1 0 70).toInt = 0 → (t.1 0 70).toInt = 0)) (fun (u : tSt) => WM K ad u) A) [.ref (ad 0)].toArray s 0 0 A) (F0 m 4 ls []) := by
    intro fuel_4
    induction fuel_4 with
    | zero =>
      intro t1 w4_1 w4_2 H locs ls hok hfr hw4_2 hi4_0 hi4_1 hi4_2 hi4_3 hi4_4 hm4_4 hP hD hS hl
      have h_4 : (t1.1 0 69).toInt = (t.1 0 69).toInt := ti_eq (hfr.1 0 69 rfl)
      have h_5 : (0 : Int) ≤ (t1.1 0 68).toInt ∧ (t1.1 0 68).toInt ≤ 81 := hok.1 0 68
      have h_6 : (0 : Int) ≤ (t1.1 0 69).toInt ∧ (t1.1 0 69).toInt ≤ 81 := hok.1 0 69
      have h_7 : (0 : Int) ≤ (t1.1 0 70).toInt ∧ (t1.1 0 70).toInt ≤ 8 := hok.1 0 70
      exact absurd hm4_4 (by omega)
    | succ fuel_4 ih_4 =>
      intro t1 w4_1 w4_2 H locs ls hok hfr hw4_2 hi4_0 hi4_1 hi4_2 hi4_3 hi4_4 hm4_4 hP hD hS hl
      have hm4_4 : (2 * (81 - (t1.1 0 68).toInt) + w4_2.toInt) < (fuel_4 : Int) + 1 := by omega
      have h_8 : (t1.1 0 69).toInt = (t.1 0 69).toInt := ti_eq (hfr.1 0 69 rfl)
      have h_9 : (0 : Int) ≤ (t1.1 0 68).toInt ∧ (t1.1 0 68).toInt ≤ 81 := hok.1 0 68
      have h_10 : (0 : Int) ≤ (t1.1 0 69).toInt ∧ (t1.1 0 69).toInt ≤ 81 := hok.1 0 69
      have h_11 : (0 : Int) ≤ (t1.1 0 70).toInt ∧ (t1.1 0 70).toInt ≤ 8 := hok.1 0 70
      have L_89 : ∀ (t1 : tSt) (w89_1 : Int32) (w89_2 : Int32) (w89_3 : Int32) (w89_4 : Int32) (H : Heap) (locs : List Loc) (ls : Array Slot), okM t1 → frA [(0, 68), (0, 70)] [] [26, 27] [] t t1 → (1 : Int) ≤ w89_2.toInt ∧ w89_2.toInt ≤ 1 → ((t.1 0 68).toInt ≤ (t1.1 0 68).toInt) → ((t1.1 0 68).toInt ≤ (t.1 0 69).toInt ∨ (t1.1 0 68).toInt = (t.1 0 68).toInt) → (1 ≤ (t1.1 0 70).toInt ∨ (t.1 0 68).toInt < (t1.1 0 68).toInt) → ((t1.1 0 70).toInt = 0 → (t.1 0 70).toInt = 0) → (2 * (81 - (t1.1 0 68).toInt) + w89_2.toInt) < (fuel_4 : Int) + 1 → va_P D vwCl (WM K ad t1) H → va_D A (WM K ad t1) → va_S A s.heap H locs → lv_has ls 5 [(0, .ref (ad 0)), (1, .int w89_1), (2, .int w89_2), (3, .int w89_3), (4, .int w89_4)] → W p l e (rmD 13 0 0) s m [.ref (ad 0)].toArray below meth c H locs 0 0 (MQ below (QI D K (fun (r : Int32) (u : tSt) => okM u ∧ frA [(0, 68), (0, 70)] [] [26, 27] [] t u ∧ (-2147483648 : Int) ≤ r.toInt ∧ r.toInt ≤ 2147483647 ∧ ((t.1 0 68).toInt ≤ (u.1 0 68).toInt) ∧ ((u.1 0 68).toInt ≤ (t.1 0 69).toInt ∨ (u.1 0 68).toInt = (t.1 0 68).toInt) ∧ (1 ≤ (u.1 0 70).toInt ∨ (t.1 0 68).toInt < (u.1 0 68).toInt) ∧ ((u.1 0 70).toInt = 0 → (t.1 0 70).toInt = 0)) (fun (u : tSt) => WM K ad u) A) [.ref (ad 0)].toArray s 0 0 A) (F0 m 89 ls []) := by
        intro t1 w89_1 w89_2 w89_3 w89_4 H locs ls hok hfr hw89_2 hi89_0 hi89_1 hi89_2 hi89_3 hm89_4 hP hD hS hl
        have h_12 : (t1.1 0 69).toInt = (t.1 0 69).toInt := ti_eq (hfr.1 0 69 rfl)
        have h_13 : (0 : Int) ≤ (t1.1 0 68).toInt ∧ (t1.1 0 68).toInt ≤ 81 := hok.1 0 68
        have h_14 : (0 : Int) ≤ (t1.1 0 69).toInt ∧ (t1.1 0 69).toInt ≤ 81 := hok.1 0 69
        have h_15 : (0 : Int) ≤ (t1.1 0 70).toInt ∧ (t1.1 0 70).toInt ≤ 8 := hok.1 0 70
        refine lv_aload_n C.1 C.2.1 dX12_wValue_89 rfl (lv_at hl 0 rfl) ?_
        refine k_get (v := .int (t1.1 0 70)) C hP 0 rfl rfl inlX12 70 (by decide) m_29_13 rfl dX12_wValue_90 ?_
        refine lv_if_ne (tgt := 109) C.1 C.2.1 dX12_wValue_93 (by decide) (fun c_16 => ?_) (fun c_16 => ?_)
        · replace c_16 : ¬ (t1.1 0 70).toInt = 0 := i_ne c_16
          refine lv_iconst (v := 0) C.1 C.2.1 dX12_wValue_109 (by decide) ?_
          refine lv_istore_n (lv' := [(2, .int 0), (0, .ref (ad 0)), (1, .int w89_1), (3, .int w89_3), (4, .int w89_4)]) C.1 C.2.1 dX12_wValue_110 rfl hl (by decide) rfl (fun ls hl => ?_)
          have hl : lv_has ls 5 [(0, .ref (ad 0)), (1, .int w89_1), (2, .int 0), (3, .int w89_3), (4, .int w89_4)] := lv_sub hl [1, 2, 0, 3, 4] rfl
          refine lv_iload_n C.1 C.2.1 dX12_wValue_111 rfl (lv_at hl 2 rfl) ?_
          refine lv_if_eq (tgt := 125) C.1 C.2.1 dX12_wValue_112 (by decide) (fun _ => ?_) (fun h => absurd (by decide) h)
          refine lv_goto (tgt := 4) C.1 C.2.1 dX12_wValue_125 (by decide) ?_
          exact ih_4 t1 w89_1 0 _ _ _ hok hfr ⟨by decide, by decide⟩ (show (t.1 0 68).toInt ≤ (t1.1 0 68).toInt from by omega) (show (t1.1 0 68).toInt ≤ (t.1 0 69).toInt ∨ (t1.1 0 68).toInt = (t.1 0 68).toInt from by omega) (show 0 = 1 ∨ 0 = 0 from by omega) (show 1 ≤ (t1.1 0 70).toInt ∨ (t.1 0 68).toInt < (t1.1 0 68).toInt ∨ 0 = 1 ∧ (t1.1 0 70).toInt = (t.1 0 70).toInt from by omega) (show (t1.1 0 70).toInt = 0 → (t.1 0 70).toInt = 0 from by omega) (show (2 * (81 - (t1.1 0 68).toInt) + 0) < (fuel_4 : Int) from by omega) hP hD hS (lv_sub hl [0, 1, 2] rfl)
        · replace c_16 : (t1.1 0 70).toInt = 0 := i_eq c_16
          refine lv_aload_n C.1 C.2.1 dX12_wValue_96 rfl (lv_at hl 0 rfl) ?_
          refine g_Vi (As := []) (rest := []) C hP hD hS hA (T_X12_now l D K Z Y ad t1 hok (show 1 ≤ (t1.1 0 68).toInt from by omega)) hE hZ (uwV m_34_20 m_34_21 m_34_22 m_1_5 m_34_23) (hdV 0 (by decide +kernel) rfl) ⟨Nat.le_of_ble_eq_true rfl, Nat.le_of_ble_eq_true rfl⟩ rfl rfl (ci := 11) (q0 := 0) rfl rfl rfl hl.1 (Nat.le_of_ble_eq_true rfl) dX12_wValue_97 ⟨Nat.le_of_ble_eq_true rfl, Nat.le_of_ble_eq_true rfl⟩ (fun r_18 t_17 H locs hw hP hD hS => ?_)
          obtain ⟨h_20, h_21, p_22⟩ := hw
          replace p_22 : r_18.toInt = -1 ∨ (t1.1 0 68).toInt < (t1.1 0 69).toInt := p_22
          refine lv_bipush (v := 44) C.1 C.2.1 dX12_wValue_100 (by decide) ?_
          refine lv_icmp_ne (tgt := 109) C.1 C.2.1 dX12_wValue_102 (by decide) (fun c_23 => ?_) (fun c_23 => ?_)
          · replace c_23 : ¬ r_18.toInt = 44 := i_ne c_23
            refine lv_iconst (v := 0) C.1 C.2.1 dX12_wValue_109 (by decide) ?_
            refine lv_istore_n (lv' := [(2, .int 0), (0, .ref (ad 0)), (1, .int w89_1), (3, .int w89_3), (4, .int w89_4)]) C.1 C.2.1 dX12_wValue_110 rfl hl (by decide) rfl (fun ls hl => ?_)
            have hl : lv_has ls 5 [(0, .ref (ad 0)), (1, .int w89_1), (2, .int 0), (3, .int w89_3), (4, .int w89_4)] := lv_sub hl [1, 2, 0, 3, 4] rfl
            refine lv_iload_n C.1 C.2.1 dX12_wValue_111 rfl (lv_at hl 2 rfl) ?_
            refine lv_if_eq (tgt := 125) C.1 C.2.1 dX12_wValue_112 (by decide) (fun _ => ?_) (fun h => absurd (by decide) h)
            refine lv_goto (tgt := 4) C.1 C.2.1 dX12_wValue_125 (by decide) ?_
            exact ih_4 t1 w89_1 0 _ _ _ hok hfr ⟨by decide, by decide⟩ (show (t.1 0 68).toInt ≤ (t1.1 0 68).toInt from by omega) (show (t1.1 0 68).toInt ≤ (t.1 0 69).toInt ∨ (t1.1 0 68).toInt = (t.1 0 68).toInt from by omega) (show 0 = 1 ∨ 0 = 0 from by omega) (show 1 ≤ (t1.1 0 70).toInt ∨ (t.1 0 68).toInt < (t1.1 0 68).toInt ∨ 0 = 1 ∧ (t1.1 0 70).toInt = (t.1 0 70).toInt from by omega) (show (t1.1 0 70).toInt = 0 → (t.1 0 70).toInt = 0 from by omega) (show (2 * (81 - (t1.1 0 68).toInt) + 0) < (fuel_4 : Int) from by omega) hP hD hS (lv_sub hl [0, 1, 2] rfl)
          · replace c_23 : r_18.toInt = 44 := i_eq c_23
            refine lv_iconst (v := 1) C.1 C.2.1 dX12_wValue_105 (by decide) ?_
            refine lv_goto (tgt := 110) C.1 C.2.1 dX12_wValue_106 (by decide) ?_
            refine lv_istore_n (lv' := [(2, .int 1), (0, .ref (ad 0)), (1, .int w89_1), (3, .int w89_3), (4, .int w89_4)]) C.1 C.2.1 dX12_wValue_110 rfl hl (by decide) rfl (fun ls hl => ?_)
            have hl : lv_has ls 5 [(0, .ref (ad 0)), (1, .int w89_1), (2, .int 1), (3, .int w89_3), (4, .int w89_4)] := lv_sub hl [1, 2, 0, 3, 4] rfl
            refine lv_iload_n C.1 C.2.1 dX12_wValue_111 rfl (lv_at hl 2 rfl) ?_
            refine lv_if_eq (tgt := 125) C.1 C.2.1 dX12_wValue_112 (by decide) (fun h => absurd h (by decide)) (fun _ => ?_)
            refine lv_aload_n C.1 C.2.1 dX12_wValue_115 rfl (lv_at hl 0 rfl) ?_
            refine lv_dup C.1 C.2.1 dX12_wValue_116 rfl ?_
            refine k_get (v := .int (t1.1 0 68)) C hP 0 rfl rfl inlX12 68 (by decide) m_31_6 rfl dX12_wValue_117 ?_
            refine lv_iconst (v := 1) C.1 C.2.1 dX12_wValue_120 (by decide) ?_
            obtain ⟨v_24, e_25⟩ : ∃ z, z = ((t1.1 0 68) : Int32) + (1 : Int32) := ⟨_, rfl⟩
            have h_26 : v_24.toInt = (t1.1 0 68).toInt + 1 := by rw [e_25]; exact ti_iadd (by show (_ : Int) ≤ (t1.1 0 68).toInt + 1; omega) (by show (t1.1 0 68).toInt + 1 < (_ : Int); omega)
            refine k_iadd (v := v_24) C e_25.symm dX12_wValue_121 ?_
            refine k_put (ws' := WM K ad (uI t1 0 68 v_24)) (v := .int v_24) C hP hD hS 0 rfl rfl inlX12 tyX12_ok nmX12 68 (by decide) m_31_6 rfl rfl rfl rfl rfl dX12_wValue_122 (fun H locs hP hD hS => ?_)
            have hok : okM (uI t1 0 68 v_24) := ⟨okI_I hok.1 0 68 v_24 (show (0 : Int) ≤ (v_24 : Int32).toInt ∧ (v_24 : Int32).toInt ≤ 81 from ⟨by omega, by omega⟩), hok.2.1, hok.2.2.1, hok.2.2.2.1, hok.2.2.2.2.1, hok.2.2.2.2.2.1, hok.2.2.2.2.2.2.1, trivial⟩
            have hfr : frA [(0, 68), (0, 70)] [] [26, 27] [] t (uI t1 0 68 v_24) := frA_I hfr 0 68 _ rfl
            refine lv_goto (tgt := 4) C.1 C.2.1 dX12_wValue_125 (by decide) ?_
            exact ih_4 (uI t1 0 68 v_24) w89_1 1 _ _ _ hok hfr ⟨by decide, by decide⟩ (show (t.1 0 68).toInt ≤ v_24.toInt from by omega) (show v_24.toInt ≤ (t.1 0 69).toInt ∨ v_24.toInt = (t.1 0 68).toInt from by omega) (show 1 = 1 ∨ 1 = 0 from by omega) (show 1 ≤ (t1.1 0 70).toInt ∨ (t.1 0 68).toInt < v_24.toInt ∨ 1 = 1 ∧ (t1.1 0 70).toInt = (t.1 0 70).toInt from by omega) (show (t1.1 0 70).toInt = 0 → (t.1 0 70).toInt = 0 from by omega) (show (2 * (81 - v_24.toInt) + 1) < (fuel_4 : Int) from by omega) hP hD hS (lv_sub hl [0, 1, 2] rfl)
      have L_74 : ∀ (t1 : tSt) (w74_1 : Int32) (w74_2 : Int32) (w74_3 : Int32) (w74_4 : Int32) (H : Heap) (locs : List Loc) (ls : Array Slot), okM t1 → frA [(0, 68), (0, 70)] [] [26, 27] [] t t1 → (1 : Int) ≤ w74_2.toInt ∧ w74_2.toInt ≤ 1 → ((t.1 0 68).toInt ≤ (t1.1 0 68).toInt) → ((t1.1 0 68).toInt ≤ (t.1 0 69).toInt ∨ (t1.1 0 68).toInt = (t.1 0 68).toInt) → ((t1.1 0 70).toInt = 0 → 0 ≤ w74_4.toInt ∧ w74_4.toInt ≤ 63) → (1 ≤ (t1.1 0 70).toInt ∨ (t.1 0 68).toInt < (t1.1 0 68).toInt) → ((t1.1 0 70).toInt = 0 → (t.1 0 70).toInt = 0) → (2 * (81 - (t1.1 0 68).toInt) + w74_2.toInt) < (fuel_4 : Int) + 1 → va_P D vwCl (WM K ad t1) H → va_D A (WM K ad t1) → va_S A s.heap H locs → lv_has ls 5 [(0, .ref (ad 0)), (1, .int w74_1), (2, .int w74_2), (3, .int w74_3), (4, .int w74_4)] → W p l e (rmD 13 0 0) s m [.ref (ad 0)].toArray below meth c H locs 0 0 (MQ below (QI D K (fun (r : Int32) (u : tSt) => okM u ∧ frA [(0, 68), (0, 70)] [] [26, 27] [] t u ∧ (-2147483648 : Int) ≤ r.toInt ∧ r.toInt ≤ 2147483647 ∧ ((t.1 0 68).toInt ≤ (u.1 0 68).toInt) ∧ ((u.1 0 68).toInt ≤ (t.1 0 69).toInt ∨ (u.1 0 68).toInt = (t.1 0 68).toInt) ∧ (1 ≤ (u.1 0 70).toInt ∨ (t.1 0 68).toInt < (u.1 0 68).toInt) ∧ ((u.1 0 70).toInt = 0 → (t.1 0 70).toInt = 0)) (fun (u : tSt) => WM K ad u) A) [.ref (ad 0)].toArray s 0 0 A) (F0 m 74 ls []) := by
        intro t1 w74_1 w74_2 w74_3 w74_4 H locs ls hok hfr hw74_2 hi74_0 hi74_1 hi74_2 hi74_3 hi74_4 hm74_4 hP hD hS hl
        have h_27 : (t1.1 0 69).toInt = (t.1 0 69).toInt := ti_eq (hfr.1 0 69 rfl)
        have h_28 : (0 : Int) ≤ (t1.1 0 68).toInt ∧ (t1.1 0 68).toInt ≤ 81 := hok.1 0 68
        have h_29 : (0 : Int) ≤ (t1.1 0 69).toInt ∧ (t1.1 0 69).toInt ≤ 81 := hok.1 0 69
        have h_30 : (0 : Int) ≤ (t1.1 0 70).toInt ∧ (t1.1 0 70).toInt ≤ 8 := hok.1 0 70
        refine lv_aload_n C.1 C.2.1 dX12_wValue_74 rfl (lv_at hl 0 rfl) ?_
        refine k_get (v := .int (t1.1 0 70)) C hP 0 rfl rfl inlX12 70 (by decide) m_29_13 rfl dX12_wValue_75 ?_
        refine lv_if_ne (tgt := 89) C.1 C.2.1 dX12_wValue_78 (by decide) (fun c_31 => ?_) (fun c_31 => ?_)
        · replace c_31 : ¬ (t1.1 0 70).toInt = 0 := i_ne c_31
          exact L_89 t1 w74_1 w74_2 w74_3 w74_4 _ _ _ hok hfr ⟨by omega, by omega⟩ (show (t.1 0 68).toInt ≤ (t1.1 0 68).toInt from by omega) (show (t1.1 0 68).toInt ≤ (t.1 0 69).toInt ∨ (t1.1 0 68).toInt = (t.1 0 68).toInt from by omega) (show 1 ≤ (t1.1 0 70).toInt ∨ (t.1 0 68).toInt < (t1.1 0 68).toInt from by omega) (show (t1.1 0 70).toInt = 0 → (t.1 0 70).toInt = 0 from by omega) (show (2 * (81 - (t1.1 0 68).toInt) + w74_2.toInt) < (fuel_4 : Int) + 1 from by omega) hP hD hS (lv_sub hl [0, 1, 2, 3, 4] rfl)
        · replace c_31 : (t1.1 0 70).toInt = 0 := i_eq c_31
          refine lv_iload_n C.1 C.2.1 dX12_wValue_81 rfl (lv_at hl 1 rfl) ?_
          refine lv_iload_n C.1 C.2.1 dX12_wValue_82 rfl (lv_at hl 3 rfl) ?_
          refine lv_iload C.1 C.2.1 dX12_wValue_83 (lv_at hl 4 rfl) ?_
          refine g_Si (As := [.int w74_1, .int w74_3, .int w74_4]) (rest := []) C hP hD hS hA (T_X12_stored l D K Z Y ad t1 hok (w74_1) (w74_3) (w74_4) (show (0 : Int) ≤ (w74_4 : Int32).toInt ∧ (w74_4 : Int32).toInt ≤ 63 from ⟨by omega, by omega⟩)) hE hZ (uwS m_37_7 m_37_8 m_1_5 m_37_9) (hdS 3 (by decide +kernel) rfl) ⟨Nat.le_of_ble_eq_true rfl, Nat.le_of_ble_eq_true rfl⟩ rfl rfl rfl hl.1 (Nat.le_of_ble_eq_true rfl) dX12_wValue_85 ⟨Nat.le_of_ble_eq_true rfl, Nat.le_of_ble_eq_true rfl⟩ (fun r_33 t_32 H locs hw hP hD hS => ?_)
          obtain ⟨h_35, h_36⟩ := hw
          refine lv_istore_n (lv' := [(1, .int r_33), (0, .ref (ad 0)), (2, .int w74_2), (3, .int w74_3), (4, .int w74_4)]) C.1 C.2.1 dX12_wValue_88 rfl hl (by decide) rfl (fun ls hl => ?_)
          have hl : lv_has ls 5 [(0, .ref (ad 0)), (1, .int r_33), (2, .int w74_2), (3, .int w74_3), (4, .int w74_4)] := lv_sub hl [1, 0, 2, 3, 4] rfl
          exact L_89 t1 r_33 w74_2 w74_3 w74_4 _ _ _ hok hfr ⟨by omega, by omega⟩ (show (t.1 0 68).toInt ≤ (t1.1 0 68).toInt from by omega) (show (t1.1 0 68).toInt ≤ (t.1 0 69).toInt ∨ (t1.1 0 68).toInt = (t.1 0 68).toInt from by omega) (show 1 ≤ (t1.1 0 70).toInt ∨ (t.1 0 68).toInt < (t1.1 0 68).toInt from by omega) (show (t1.1 0 70).toInt = 0 → (t.1 0 70).toInt = 0 from by omega) (show (2 * (81 - (t1.1 0 68).toInt) + w74_2.toInt) < (fuel_4 : Int) + 1 from by omega) hP hD hS (lv_sub hl [0, 1, 2, 3, 4] rfl)
      have L_68 : ∀ (t1 : tSt) (w68_1 : Int32) (w68_2 : Int32) (w68_3 : Int32) (w68_4 : Int32) (H : Heap) (locs : List Loc) (ls : Array Slot), okM t1 → frA [(0, 68), (0, 70)] [] [26, 27] [] t t1 → (1 : Int) ≤ w68_2.toInt ∧ w68_2.toInt ≤ 1 → ((t.1 0 68).toInt ≤ (t1.1 0 68).toInt) → ((t1.1 0 68).toInt ≤ (t.1 0 69).toInt ∨ (t1.1 0 68).toInt = (t.1 0 68).toInt) → ((t1.1 0 70).toInt = 0 → 0 ≤ w68_4.toInt ∧ w68_4.toInt ≤ 63) → (1 ≤ (t1.1 0 70).toInt ∨ (t.1 0 68).toInt < (t1.1 0 68).toInt) → ((t1.1 0 70).toInt = 0 → (t.1 0 70).toInt = 0) → (2 * (81 - (t1.1 0 68).toInt) + w68_2.toInt) < (fuel_4 : Int) + 1 → va_P D vwCl (WM K ad t1) H → va_D A (WM K ad t1) → va_S A s.heap H locs → lv_has ls 5 [(0, .ref (ad 0)), (1, .int w68_1), (2, .int w68_2), (3, .int w68_3), (4, .int w68_4)] → W p l e (rmD 13 0 0) s m [.ref (ad 0)].toArray below meth c H locs 0 0 (MQ below (QI D K (fun (r : Int32) (u : tSt) => okM u ∧ frA [(0, 68), (0, 70)] [] [26, 27] [] t u ∧ (-2147483648 : Int) ≤ r.toInt ∧ r.toInt ≤ 2147483647 ∧ ((t.1 0 68).toInt ≤ (u.1 0 68).toInt) ∧ ((u.1 0 68).toInt ≤ (t.1 0 69).toInt ∨ (u.1 0 68).toInt = (t.1 0 68).toInt) ∧ (1 ≤ (u.1 0 70).toInt ∨ (t.1 0 68).toInt < (u.1 0 68).toInt) ∧ ((u.1 0 70).toInt = 0 → (t.1 0 70).toInt = 0)) (fun (u : tSt) => WM K ad u) A) [.ref (ad 0)].toArray s 0 0 A) (F0 m 68 ls []) := by
        intro t1 w68_1 w68_2 w68_3 w68_4 H locs ls hok hfr hw68_2 hi68_0 hi68_1 hi68_2 hi68_3 hi68_4 hm68_4 hP hD hS hl
        have h_37 : (t1.1 0 69).toInt = (t.1 0 69).toInt := ti_eq (hfr.1 0 69 rfl)
        have h_38 : (0 : Int) ≤ (t1.1 0 68).toInt ∧ (t1.1 0 68).toInt ≤ 81 := hok.1 0 68
        have h_39 : (0 : Int) ≤ (t1.1 0 69).toInt ∧ (t1.1 0 69).toInt ≤ 81 := hok.1 0 69
        have h_40 : (0 : Int) ≤ (t1.1 0 70).toInt ∧ (t1.1 0 70).toInt ≤ 8 := hok.1 0 70
        refine lv_aload_n C.1 C.2.1 dX12_wValue_68 rfl (lv_at hl 0 rfl) ?_
        refine lv_bipush (v := 41) C.1 C.2.1 dX12_wValue_69 (by decide) ?_
        have h_41 : (41 : Int32).toInt = 41 := rfl
        refine g_Vv (As := [.int 41]) (rest := []) C hP hD hS hA (T_X12_must l D K Z Y ad t1 hok 41 (show (32 : Int) ≤ (41 : Int32).toInt ∧ (41 : Int32).toInt ≤ 61 from ⟨by decide, by decide⟩) (show 1 ≤ (t1.1 0 68).toInt from by omega) (show 0 ≤ (41 : Int32).toInt from by omega)) hE hZ (uwV m_37_3 m_37_4 m_37_5 m_1_5 m_37_6) (hdV 1 (by decide +kernel) rfl) ⟨Nat.le_of_ble_eq_true rfl, Nat.le_of_ble_eq_true rfl⟩ rfl rfl (ci := 11) (q0 := 0) rfl rfl rfl hl.1 (Nat.le_of_ble_eq_true rfl) dX12_wValue_71 ⟨Nat.le_of_ble_eq_true rfl, Nat.le_of_ble_eq_true rfl⟩ (fun t_42 H locs hw hP hD hS => ?_)
        obtain ⟨hok, f_44, p_45, p_46, p_47⟩ := hw
        have hfr : frA [(0, 68), (0, 70)] [] [26, 27] [] t t_42 := frA_tr hfr f_44 rfl
        have h_48 : (t_42.1 0 69).toInt = (t1.1 0 69).toInt := ti_eq (f_44.1 0 69 rfl)
        have h_49 : (0 : Int) ≤ (t_42.1 0 68).toInt ∧ (t_42.1 0 68).toInt ≤ 81 := hok.1 0 68
        have h_50 : (0 : Int) ≤ (t_42.1 0 69).toInt ∧ (t_42.1 0 69).toInt ≤ 81 := hok.1 0 69
        have h_51 : (0 : Int) ≤ (t_42.1 0 70).toInt ∧ (t_42.1 0 70).toInt ≤ 8 := hok.1 0 70
        replace p_45 : (t1.1 0 68).toInt ≤ (t_42.1 0 68).toInt := p_45
        replace p_46 : (t_42.1 0 68).toInt ≤ (t1.1 0 69).toInt ∨ (t_42.1 0 68).toInt = (t1.1 0 68).toInt := p_46
        replace p_47 : (t_42.1 0 70).toInt = 0 → (t1.1 0 70).toInt = 0 := p_47
        exact L_74 t_42 w68_1 w68_2 w68_3 w68_4 _ _ _ hok hfr ⟨by omega, by omega⟩ (show (t.1 0 68).toInt ≤ (t_42.1 0 68).toInt from by omega) (show (t_42.1 0 68).toInt ≤ (t.1 0 69).toInt ∨ (t_42.1 0 68).toInt = (t.1 0 68).toInt from by omega) (show (t_42.1 0 70).toInt = 0 → 0 ≤ w68_4.toInt ∧ w68_4.toInt ≤ 63 from by omega) (show 1 ≤ (t_42.1 0 70).toInt ∨ (t.1 0 68).toInt < (t_42.1 0 68).toInt from by omega) (show (t_42.1 0 70).toInt = 0 → (t.1 0 70).toInt = 0 from by omega) (show (2 * (81 - (t_42.1 0 68).toInt) + w68_2.toInt) < (fuel_4 : Int) + 1 from by omega) hP hD hS (lv_sub hl [0, 1, 2, 3, 4] rfl)
      refine lv_iload_n C.1 C.2.1 dX12_wValue_4 rfl (lv_at hl 2 rfl) ?_
      refine lv_if_eq (tgt := 128) C.1 C.2.1 dX12_wValue_5 (by decide) (fun c_52 => ?_) (fun c_52 => ?_)
      · replace c_52 : w4_2.toInt = 0 := i_eq c_52
        refine lv_iload_n C.1 C.2.1 dX12_wValue_128 rfl (lv_at hl 1 rfl) ?_
        exact g_iret C hr hlocks hP hD hS rfl t1 rfl ⟨hok, hfr, (i_rng _).1, (i_rng _).2, (show (t.1 0 68).toInt ≤ (t1.1 0 68).toInt from by omega), (show (t1.1 0 68).toInt ≤ (t.1 0 69).toInt ∨ (t1.1 0 68).toInt = (t.1 0 68).toInt from by omega), (show 1 ≤ (t1.1 0 70).toInt ∨ (t.1 0 68).toInt < (t1.1 0 68).toInt from by omega), (show (t1.1 0 70).toInt = 0 → (t.1 0 70).toInt = 0 from by omega)⟩ (Nat.le_of_ble_eq_true rfl) (Nat.le_of_ble_eq_true rfl) dX12_wValue_129
      · replace c_52 : ¬ w4_2.toInt = 0 := i_ne c_52
        refine lv_aload_n C.1 C.2.1 dX12_wValue_8 rfl (lv_at hl 0 rfl) ?_
        refine k_get (v := .int (t1.1 0 70)) C hP 0 rfl rfl inlX12 70 (by decide) m_29_13 rfl dX12_wValue_9 ?_
        refine lv_if_ne (tgt := 128) C.1 C.2.1 dX12_wValue_12 (by decide) (fun c_53 => ?_) (fun c_53 => ?_)
        · replace c_53 : ¬ (t1.1 0 70).toInt = 0 := i_ne c_53
          refine lv_iload_n C.1 C.2.1 dX12_wValue_128 rfl (lv_at hl 1 rfl) ?_
          exact g_iret C hr hlocks hP hD hS rfl t1 rfl ⟨hok, hfr, (i_rng _).1, (i_rng _).2, (show (t.1 0 68).toInt ≤ (t1.1 0 68).toInt from by omega), (show (t1.1 0 68).toInt ≤ (t.1 0 69).toInt ∨ (t1.1 0 68).toInt = (t.1 0 68).toInt from by omega), (show 1 ≤ (t1.1 0 70).toInt ∨ (t.1 0 68).toInt < (t1.1 0 68).toInt from by omega), (show (t1.1 0 70).toInt = 0 → (t.1 0 70).toInt = 0 from by omega)⟩ (Nat.le_of_ble_eq_true rfl) (Nat.le_of_ble_eq_true rfl) dX12_wValue_129
        · replace c_53 : (t1.1 0 70).toInt = 0 := i_eq c_53
          refine lv_aload_n C.1 C.2.1 dX12_wValue_15 rfl (lv_at hl 0 rfl) ?_
          refine g_Vi (As := []) (rest := []) C hP hD hS hA (T_X12_expression l D K Z Y ad t1 hok (show 1 ≤ (t1.1 0 68).toInt from by omega)) hE hZ (uwV m_34_15 m_34_16 m_34_17 m_1_5 m_34_18) (hdV 0 (by decide +kernel) rfl) ⟨Nat.le_of_ble_eq_true rfl, Nat.le_of_ble_eq_true rfl⟩ rfl rfl (ci := 11) (q0 := 0) rfl rfl rfl hl.1 (Nat.le_of_ble_eq_true rfl) dX12_wValue_16 ⟨Nat.le_of_ble_eq_true rfl, Nat.le_of_ble_eq_true rfl⟩ (fun r_55 t_54 H locs hw hP hD hS => ?_)
          obtain ⟨hok, f_56, h_57, h_58, p_59, p_60, p_61, p_62⟩ := hw
          have hfr : frA [(0, 68), (0, 70)] [] [26, 27] [] t t_54 := frA_tr hfr f_56 rfl
          have h_63 : (t_54.1 0 69).toInt = (t1.1 0 69).toInt := ti_eq (f_56.1 0 69 rfl)
          have h_64 : (0 : Int) ≤ (t_54.1 0 68).toInt ∧ (t_54.1 0 68).toInt ≤ 81 := hok.1 0 68
          have h_65 : (0 : Int) ≤ (t_54.1 0 69).toInt ∧ (t_54.1 0 69).toInt ≤ 81 := hok.1 0 69
          have h_66 : (0 : Int) ≤ (t_54.1 0 70).toInt ∧ (t_54.1 0 70).toInt ≤ 8 := hok.1 0 70
          replace p_59 : (t1.1 0 68).toInt ≤ (t_54.1 0 68).toInt := p_59
          replace p_60 : (t_54.1 0 68).toInt ≤ (t1.1 0 69).toInt ∨ (t_54.1 0 68).toInt = (t1.1 0 68).toInt := p_60
          replace p_61 : 1 ≤ (t_54.1 0 70).toInt ∨ (t1.1 0 68).toInt < (t_54.1 0 68).toInt := p_61
          replace p_62 : (t_54.1 0 70).toInt = 0 → (t1.1 0 70).toInt = 0 := p_62
          refine lv_istore_n (lv' := [(3, .int r_55), (0, .ref (ad 0)), (1, .int w4_1), (2, .int w4_2)]) C.1 C.2.1 dX12_wValue_19 rfl hl (by decide) rfl (fun ls hl => ?_)
          have hl : lv_has ls 5 [(0, .ref (ad 0)), (1, .int w4_1), (2, .int w4_2), (3, .int r_55)] := lv_sub hl [1, 2, 3, 0] rfl
          refine lv_iconst (v := 5) C.1 C.2.1 dX12_wValue_20 (by decide) ?_
          refine lv_istore (lv' := [(4, .int 5), (0, .ref (ad 0)), (1, .int w4_1), (2, .int w4_2), (3, .int r_55)]) C.1 C.2.1 dX12_wValue_21 hl (by decide) rfl (fun ls hl => ?_)
          have hl : lv_has ls 5 [(0, .ref (ad 0)), (1, .int w4_1), (2, .int w4_2), (3, .int r_55), (4, .int 5)] := lv_sub hl [1, 2, 3, 4, 0] rfl
          refine lv_aload_n C.1 C.2.1 dX12_wValue_23 rfl (lv_at hl 0 rfl) ?_
          refine k_get (v := .int (t_54.1 0 70)) C hP 0 rfl rfl inlX12 70 (by decide) m_29_13 rfl dX12_wValue_24 ?_
          refine lv_if_ne (tgt := 74) C.1 C.2.1 dX12_wValue_27 (by decide) (fun c_67 => ?_) (fun c_67 => ?_)
          · replace c_67 : ¬ (t_54.1 0 70).toInt = 0 := i_ne c_67
            exact L_74 t_54 w4_1 w4_2 r_55 5 _ _ _ hok hfr ⟨by omega, by omega⟩ (show (t.1 0 68).toInt ≤ (t_54.1 0 68).toInt from by omega) (show (t_54.1 0 68).toInt ≤ (t.1 0 69).toInt ∨ (t_54.1 0 68).toInt = (t.1 0 68).toInt from by omega) (show (t_54.1 0 70).toInt = 0 → 0 ≤ 5 ∧ 5 ≤ 63 from by omega) (show 1 ≤ (t_54.1 0 70).toInt ∨ (t.1 0 68).toInt < (t_54.1 0 68).toInt from by omega) (show (t_54.1 0 70).toInt = 0 → (t.1 0 70).toInt = 0 from by omega) (show (2 * (81 - (t_54.1 0 68).toInt) + w4_2.toInt) < (fuel_4 : Int) + 1 from by omega) hP hD hS (lv_sub hl [0, 1, 2, 3, 4] rfl)
          · replace c_67 : (t_54.1 0 70).toInt = 0 := i_eq c_67
            refine lv_aload_n C.1 C.2.1 dX12_wValue_30 rfl (lv_at hl 0 rfl) ?_
            refine g_Vi (As := []) (rest := []) C hP hD hS hA (T_X12_now l D K Z Y ad t_54 hok (show 1 ≤ (t_54.1 0 68).toInt from by omega)) hE hZ (uwV m_34_20 m_34_21 m_34_22 m_1_5 m_34_23) (hdV 0 (by decide +kernel) rfl) ⟨Nat.le_of_ble_eq_true rfl, Nat.le_of_ble_eq_true rfl⟩ rfl rfl (ci := 11) (q0 := 0) rfl rfl rfl hl.1 (Nat.le_of_ble_eq_true rfl) dX12_wValue_31 ⟨Nat.le_of_ble_eq_true rfl, Nat.le_of_ble_eq_true rfl⟩ (fun r_69 t_68 H locs hw hP hD hS => ?_)
            obtain ⟨h_71, h_72, p_73⟩ := hw
            replace p_73 : r_69.toInt = -1 ∨ (t_54.1 0 68).toInt < (t_54.1 0 69).toInt := p_73
            refine lv_bipush (v := 40) C.1 C.2.1 dX12_wValue_34 (by decide) ?_
            refine lv_icmp_ne (tgt := 74) C.1 C.2.1 dX12_wValue_36 (by decide) (fun c_74 => ?_) (fun c_74 => ?_)
            · replace c_74 : ¬ r_69.toInt = 40 := i_ne c_74
              exact L_74 t_54 w4_1 w4_2 r_55 5 _ _ _ hok hfr ⟨by omega, by omega⟩ (show (t.1 0 68).toInt ≤ (t_54.1 0 68).toInt from by omega) (show (t_54.1 0 68).toInt ≤ (t.1 0 69).toInt ∨ (t_54.1 0 68).toInt = (t.1 0 68).toInt from by omega) (show (t_54.1 0 70).toInt = 0 → 0 ≤ 5 ∧ 5 ≤ 63 from by omega) (show 1 ≤ (t_54.1 0 70).toInt ∨ (t.1 0 68).toInt < (t_54.1 0 68).toInt from by omega) (show (t_54.1 0 70).toInt = 0 → (t.1 0 70).toInt = 0 from by omega) (show (2 * (81 - (t_54.1 0 68).toInt) + w4_2.toInt) < (fuel_4 : Int) + 1 from by omega) hP hD hS (lv_sub hl [0, 1, 2, 3, 4] rfl)
            · replace c_74 : r_69.toInt = 40 := i_eq c_74
              refine lv_aload_n C.1 C.2.1 dX12_wValue_39 rfl (lv_at hl 0 rfl) ?_
              refine lv_iconst (v := 0) C.1 C.2.1 dX12_wValue_40 (by decide) ?_
              refine lv_bipush (v := 63) C.1 C.2.1 dX12_wValue_41 (by decide) ?_
              have h_75 : (0 : Int32).toInt = 0 := rfl
              have h_76 : (63 : Int32).toInt = 63 := rfl
              refine g_Vi (As := [.int 0, .int 63]) (rest := []) C hP hD hS hA (T_X12_inside l D K Z Y ad t_54 hok 0 (show (0 : Int) ≤ (0 : Int32).toInt ∧ (0 : Int32).toInt ≤ 0 from ⟨by decide, by decide⟩) 63 (show (6 : Int) ≤ (63 : Int32).toInt ∧ (63 : Int32).toInt ≤ 63 from ⟨by decide, by decide⟩) (show 1 ≤ (t_54.1 0 68).toInt from by omega) (show (t_54.1 0 68).toInt < (t_54.1 0 69).toInt from by omega)) hE hZ (uwV m_36_20 m_36_21 m_36_22 m_1_5 m_36_23) (hdV 2 (by decide +kernel) rfl) ⟨Nat.le_of_ble_eq_true rfl, Nat.le_of_ble_eq_true rfl⟩ rfl rfl (ci := 11) (q0 := 0) rfl rfl rfl hl.1 (Nat.le_of_ble_eq_true rfl) dX12_wValue_43 ⟨Nat.le_of_ble_eq_true rfl, Nat.le_of_ble_eq_true rfl⟩ (fun r_78 t_77 H locs hw hP hD hS => ?_)
              obtain ⟨hok, f_79, h_80, h_81, p_82, p_83, p_84, p_85⟩ := hw
              have hfr : frA [(0, 68), (0, 70)] [] [26, 27] [] t t_77 := frA_tr hfr f_79 rfl
              have h_86 : (t_77.1 0 69).toInt = (t_54.1 0 69).toInt := ti_eq (f_79.1 0 69 rfl)
              have h_87 : (0 : Int) ≤ (t_77.1 0 68).toInt ∧ (t_77.1 0 68).toInt ≤ 81 := hok.1 0 68
              have h_88 : (0 : Int) ≤ (t_77.1 0 69).toInt ∧ (t_77.1 0 69).toInt ≤ 81 := hok.1 0 69
              have h_89 : (0 : Int) ≤ (t_77.1 0 70).toInt ∧ (t_77.1 0 70).toInt ≤ 8 := hok.1 0 70
              replace p_82 : (t_54.1 0 68).toInt < (t_77.1 0 68).toInt := p_82
              replace p_83 : (t_77.1 0 68).toInt ≤ (t_54.1 0 69).toInt := p_83
              replace p_84 : (t_77.1 0 70).toInt = 0 → (0 : Int32).toInt ≤ r_78.toInt ∧ r_78.toInt ≤ (63 : Int32).toInt := p_84
              replace p_85 : (t_77.1 0 70).toInt = 0 → (t_54.1 0 70).toInt = 0 := p_85
              refine lv_istore (lv' := [(4, .int r_78), (0, .ref (ad 0)), (1, .int w4_1), (2, .int w4_2), (3, .int r_55)]) C.1 C.2.1 dX12_wValue_46 hl (by decide) rfl (fun ls hl => ?_)
              have hl : lv_has ls 5 [(0, .ref (ad 0)), (1, .int w4_1), (2, .int w4_2), (3, .int r_55), (4, .int r_78)] := lv_sub hl [1, 2, 3, 4, 0] rfl
              refine lv_aload_n C.1 C.2.1 dX12_wValue_48 rfl (lv_at hl 0 rfl) ?_
              refine k_get (v := .int (t_77.1 0 70)) C hP 0 rfl rfl inlX12 70 (by decide) m_29_13 rfl dX12_wValue_49 ?_
              refine lv_if_ne (tgt := 68) C.1 C.2.1 dX12_wValue_52 (by decide) (fun c_90 => ?_) (fun c_90 => ?_)
              · replace c_90 : ¬ (t_77.1 0 70).toInt = 0 := i_ne c_90
                exact L_68 t_77 w4_1 w4_2 r_55 r_78 _ _ _ hok hfr ⟨by omega, by omega⟩ (show (t.1 0 68).toInt ≤ (t_77.1 0 68).toInt from by omega) (show (t_77.1 0 68).toInt ≤ (t.1 0 69).toInt ∨ (t_77.1 0 68).toInt = (t.1 0 68).toInt from by omega) (show (t_77.1 0 70).toInt = 0 → 0 ≤ r_78.toInt ∧ r_78.toInt ≤ 63 from by omega) (show 1 ≤ (t_77.1 0 70).toInt ∨ (t.1 0 68).toInt < (t_77.1 0 68).toInt from by omega) (show (t_77.1 0 70).toInt = 0 → (t.1 0 70).toInt = 0 from by omega) (show (2 * (81 - (t_77.1 0 68).toInt) + w4_2.toInt) < (fuel_4 : Int) + 1 from by omega) hP hD hS (lv_sub hl [0, 1, 2, 3, 4] rfl)
              · replace c_90 : (t_77.1 0 70).toInt = 0 := i_eq c_90
                refine lv_iload C.1 C.2.1 dX12_wValue_55 (lv_at hl 4 rfl) ?_
                refine g_Si (As := [.int r_78]) (rest := []) C hP hD hS hA (T_X12_isField l D K Z Y ad t_77 hok (r_78)) hE hZ (uwS m_37_0 m_37_1 m_1_5 m_37_2) (hdS 1 (by decide +kernel) rfl) ⟨Nat.le_of_ble_eq_true rfl, Nat.le_of_ble_eq_true rfl⟩ rfl rfl rfl hl.1 (Nat.le_of_ble_eq_true rfl) dX12_wValue_57 ⟨Nat.le_of_ble_eq_true rfl, Nat.le_of_ble_eq_true rfl⟩ (fun r_92 t_91 H locs hw hP hD hS => ?_)
                obtain ⟨h_94, h_95⟩ := hw
                refine lv_if_ne (tgt := 68) C.1 C.2.1 dX12_wValue_60 (by decide) (fun c_96 => ?_) (fun c_96 => ?_)
                · replace c_96 : ¬ r_92.toInt = 0 := i_ne c_96
                  exact L_68 t_77 w4_1 w4_2 r_55 r_78 _ _ _ hok hfr ⟨by omega, by omega⟩ (show (t.1 0 68).toInt ≤ (t_77.1 0 68).toInt from by omega) (show (t_77.1 0 68).toInt ≤ (t.1 0 69).toInt ∨ (t_77.1 0 68).toInt = (t.1 0 68).toInt from by omega) (show (t_77.1 0 70).toInt = 0 → 0 ≤ r_78.toInt ∧ r_78.toInt ≤ 63 from by omega) (show 1 ≤ (t_77.1 0 70).toInt ∨ (t.1 0 68).toInt < (t_77.1 0 68).toInt from by omega) (show (t_77.1 0 70).toInt = 0 → (t.1 0 70).toInt = 0 from by omega) (show (2 * (81 - (t_77.1 0 68).toInt) + w4_2.toInt) < (fuel_4 : Int) + 1 from by omega) hP hD hS (lv_sub hl [0, 1, 2, 3, 4] rfl)
                · replace c_96 : r_92.toInt = 0 := i_eq c_96
                  refine lv_aload_n C.1 C.2.1 dX12_wValue_63 rfl (lv_at hl 0 rfl) ?_
                  refine lv_iconst (v := 5) C.1 C.2.1 dX12_wValue_64 (by decide) ?_
                  have h_97 : (5 : Int32).toInt = 5 := rfl
                  refine g_Vv (As := [.int 5]) (rest := []) C hP hD hS hA (T_X12_fail l D K Z Y ad t_77 hok 5 (show (1 : Int) ≤ (5 : Int32).toInt ∧ (5 : Int32).toInt ≤ 8 from ⟨by decide, by decide⟩) (show 1 ≤ (5 : Int32).toInt from by omega)) hE hZ (uwV m_32_22 m_32_23 m_33_0 m_1_5 m_33_1) (hdV 1 (by decide +kernel) rfl) ⟨Nat.le_of_ble_eq_true rfl, Nat.le_of_ble_eq_true rfl⟩ rfl rfl (ci := 11) (q0 := 0) rfl rfl rfl hl.1 (Nat.le_of_ble_eq_true rfl) dX12_wValue_65 ⟨Nat.le_of_ble_eq_true rfl, Nat.le_of_ble_eq_true rfl⟩ (fun t_98 H locs hw hP hD hS => ?_)
                  obtain ⟨hok, f_100, p_101⟩ := hw
                  have hfr : frA [(0, 68), (0, 70)] [] [26, 27] [] t t_98 := frA_tr hfr f_100 rfl
                  have h_102 : (t_98.1 0 68).toInt = (t_77.1 0 68).toInt := ti_eq (f_100.1 0 68 rfl)
                  have h_103 : (t_98.1 0 69).toInt = (t_77.1 0 69).toInt := ti_eq (f_100.1 0 69 rfl)
                  have h_104 : (0 : Int) ≤ (t_98.1 0 68).toInt ∧ (t_98.1 0 68).toInt ≤ 81 := hok.1 0 68
                  have h_105 : (0 : Int) ≤ (t_98.1 0 69).toInt ∧ (t_98.1 0 69).toInt ≤ 81 := hok.1 0 69
                  have h_106 : (0 : Int) ≤ (t_98.1 0 70).toInt ∧ (t_98.1 0 70).toInt ≤ 8 := hok.1 0 70
                  replace p_101 : 1 ≤ (t_98.1 0 70).toInt := p_101
                  exact L_68 t_98 w4_1 w4_2 r_55 r_78 _ _ _ hok hfr ⟨by omega, by omega⟩ (show (t.1 0 68).toInt ≤ (t_98.1 0 68).toInt from by omega) (show (t_98.1 0 68).toInt ≤ (t.1 0 69).toInt ∨ (t_98.1 0 68).toInt = (t.1 0 68).toInt from by omega) (show (t_98.1 0 70).toInt = 0 → 0 ≤ r_78.toInt ∧ r_78.toInt ≤ 63 from by omega) (show 1 ≤ (t_98.1 0 70).toInt ∨ (t.1 0 68).toInt < (t_98.1 0 68).toInt from by omega) (show (t_98.1 0 70).toInt = 0 → (t.1 0 70).toInt = 0 from by omega) (show (2 * (81 - (t_98.1 0 68).toInt) + w4_2.toInt) < (fuel_4 : Int) + 1 from by omega) hP hD hS (lv_sub hl [0, 1, 2, 3, 4] rfl)
  refine lv_iconst (v := 0) C.1 C.2.1 dX12_wValue_0 (by decide) ?_
  refine lv_istore_n (lv' := [(1, .int 0), (0, .ref (ad 0))]) C.1 C.2.1 dX12_wValue_1 rfl hl (by decide) rfl (fun ls hl => ?_)
  have hl : lv_has ls 5 [(0, .ref (ad 0)), (1, .int 0)] := lv_sub hl [1, 0] rfl
  refine lv_iconst (v := 1) C.1 C.2.1 dX12_wValue_2 (by decide) ?_
  refine lv_istore_n (lv' := [(2, .int 1), (0, .ref (ad 0)), (1, .int 0)]) C.1 C.2.1 dX12_wValue_3 rfl hl (by decide) rfl (fun ls hl => ?_)
  have hl : lv_has ls 5 [(0, .ref (ad 0)), (1, .int 0), (2, .int 1)] := lv_sub hl [1, 2, 0] rfl
  exact L_4 400 t 0 1 _ _ _ hok hfr ⟨by decide, by decide⟩ (show (t.1 0 68).toInt ≤ (t.1 0 68).toInt from by omega) (show (t.1 0 68).toInt ≤ (t.1 0 69).toInt ∨ (t.1 0 68).toInt = (t.1 0 68).toInt from by omega) (show 1 = 1 ∨ 1 = 0 from by omega) (show 1 ≤ (t.1 0 70).toInt ∨ (t.1 0 68).toInt < (t.1 0 68).toInt ∨ 1 = 1 ∧ (t.1 0 70).toInt = (t.1 0 70).toInt from by omega) (show (t.1 0 70).toInt = 0 → (t.1 0 70).toInt = 0 from by omega) (show (2 * (81 - (t.1 0 68).toInt) + 1) < ((400 : Nat) : Int) from by omega) hP hD hS (lv_sub hl [0, 1, 2] rfl)

theorem dX12_run_0 : decode cX12_run 0 = .ok (.aload_n 0, 1) := by decide +kernel
theorem dX12_run_1 : decode cX12_run 1 = .ok (.iconst 0, 1) := by decide +kernel
theorem dX12_run_10 : decode cX12_run 10 = .ok (.ldc_w 711, 3) := by decide +kernel
theorem dX12_run_13 : decode cX12_run 13 = .ok (.if_icmp .le 7, 3) := by decide +kernel
theorem dX12_run_16 : decode cX12_run 16 = .ok (.iconst 0, 1) := by decide +kernel
theorem dX12_run_17 : decode cX12_run 17 = .ok (.goto 8, 3) := by decide +kernel
theorem dX12_run_2 : decode cX12_run 2 = .ok (.putfield 155, 3) := by decide +kernel
theorem dX12_run_20 : decode cX12_run 20 = .ok (.aload_n 0, 1) := by decide +kernel
theorem dX12_run_21 : decode cX12_run 21 = .ok (.iload_n 1, 1) := by decide +kernel
theorem dX12_run_22 : decode cX12_run 22 = .ok (.invokevirtual 712, 3) := by decide +kernel
theorem dX12_run_25 : decode cX12_run 25 = .ok (.ireturn, 1) := by decide +kernel
theorem dX12_run_5 : decode cX12_run 5 = .ok (.iload_n 1, 1) := by decide +kernel
theorem dX12_run_6 : decode cX12_run 6 = .ok (.ifCond .lt 10, 3) := by decide +kernel
theorem dX12_run_9 : decode cX12_run 9 = .ok (.iload_n 1, 1) := by decide +kernel
set_option maxHeartbeats 4000000 in
set_option maxRecDepth 100000 in
theorem T_X12_run (l : Launch) (D : va_G) (K : Nat → ClassId) (Z Y : Nat → Nat) (ad : Nat → Nat) (t : tSt) (hok : okM t) (x1 : Int32) : tMet l yX12_run cX12_run 2 (some .int) (rmD 12 0 0) D K Z Y [.ref (ad 0), .int x1] (WM K ad t) (QI D K (fun (r : Int32) (u : tSt) => okM u ∧ frA [(0, 0), (0, 5), (0, 6), (0, 7), (0, 9), (0, 10), (0, 14), (0, 15), (0, 16), (0, 17), (0, 18), (0, 30), (0, 35), (0, 91)] [(0, 8)] [2, 3, 5, 7, 8, 9, 10, 11, 12, 13, 14] [4, 6] t u ∧ (0 : Int) ≤ r.toInt ∧ r.toInt ≤ 100000) (fun (u : tSt) => WM K ad u)) 0 0 := by
  refine t_met RX12 ⟨rfl, by decide +kernel⟩ (Nat.le_of_ble_eq_true rfl) ?_
  intro p e s m below meth c A ls C hE hZ hr hlocks hA hP hD hS hl
  have hl : lv_has ls 2 [(0, .ref (ad 0)), (1, .int x1)] := hl
  have hokt := hok
  have hfr : frA [(0, 0), (0, 5), (0, 6), (0, 7), (0, 9), (0, 10), (0, 14), (0, 15), (0, 16), (0, 17), (0, 18), (0, 30), (0, 35), (0, 91)] [(0, 8)] [2, 3, 5, 7, 8, 9, 10, 11, 12, 13, 14] [4, 6] t t := frA_rf
  have h_1 : (0 : Int) ≤ (t.1 0 9).toInt ∧ (t.1 0 9).toInt ≤ 10 := hok.1 0 9
  have h_2 : (0 : Int) ≤ (t.1 0 12).toInt ∧ (t.1 0 12).toInt ≤ 1 := hok.1 0 12
  refine lv_aload_n C.1 C.2.1 dX12_run_0 rfl (lv_at hl 0 rfl) ?_
  refine lv_iconst (v := 0) C.1 C.2.1 dX12_run_1 (by decide) ?_
  refine k_put (ws' := WM K ad (uI t 0 0 0)) (v := .int 0) C hP hD hS 0 rfl rfl inlX12 tyX12_ok nmX12 0 (by decide) m_9_18 rfl rfl rfl rfl rfl dX12_run_2 (fun H locs hP hD hS => ?_)
  have hok : okM (uI t 0 0 0) := ⟨okI_I hok.1 0 0 0 (show (0 : Int) ≤ (0 : Int32).toInt ∧ (0 : Int32).toInt ≤ 1 from ⟨by decide, by decide⟩), hok.2.1, hok.2.2.1, hok.2.2.2.1, hok.2.2.2.2.1, hok.2.2.2.2.2.1, hok.2.2.2.2.2.2.1, trivial⟩
  have hfr : frA [(0, 0), (0, 5), (0, 6), (0, 7), (0, 9), (0, 10), (0, 14), (0, 15), (0, 16), (0, 17), (0, 18), (0, 30), (0, 35), (0, 91)] [(0, 8)] [2, 3, 5, 7, 8, 9, 10, 11, 12, 13, 14] [4, 6] t (uI t 0 0 0) := frA_I hfr 0 0 _ rfl
  refine lv_iload_n C.1 C.2.1 dX12_run_5 rfl (lv_at hl 1 rfl) ?_
  refine lv_if_lt (tgt := 16) C.1 C.2.1 dX12_run_6 (by decide) (fun c_3 => ?_) (fun c_3 => ?_)
  · replace c_3 : x1.toInt < 0 := i_lt c_3
    refine lv_iconst (v := 0) C.1 C.2.1 dX12_run_16 (by decide) ?_
    refine lv_goto (tgt := 25) C.1 C.2.1 dX12_run_17 (by decide) ?_
    exact g_iret C hr hlocks hP hD hS rfl (uI t 0 0 0) rfl ⟨hok, hfr, by decide, by decide⟩ (Nat.le_of_ble_eq_true rfl) (Nat.le_of_ble_eq_true rfl) dX12_run_25
  · replace c_3 : 0 ≤ x1.toInt := i_nlt c_3
    refine lv_iload_n C.1 C.2.1 dX12_run_9 rfl (lv_at hl 1 rfl) ?_
    refine lv_ldcw (v := 100000) C.1 C.2.1 C.2.2.2.1 (C.2.2.2.2.1 _ m_56_9) dX12_run_10 ?_
    refine lv_icmp_le (tgt := 20) C.1 C.2.1 dX12_run_13 (by decide) (fun c_4 => ?_) (fun c_4 => ?_)
    · replace c_4 : x1.toInt ≤ 100000 := i_le c_4
      refine lv_aload_n C.1 C.2.1 dX12_run_20 rfl (lv_at hl 0 rfl) ?_
      refine lv_iload_n C.1 C.2.1 dX12_run_21 rfl (lv_at hl 1 rfl) ?_
      refine g_Vi (As := [.int x1]) (rest := []) C hP hD hS hA (T_X12_goOn l D K Z Y ad (uI t 0 0 0) hok (x1) (show (0 : Int) ≤ (x1 : Int32).toInt ∧ (x1 : Int32).toInt ≤ 100000 from ⟨by omega, by omega⟩)) hE hZ (uwV m_56_10 m_56_11 m_56_12 m_1_5 m_56_13) (hdV 1 (by decide +kernel) rfl) ⟨Nat.le_of_ble_eq_true rfl, Nat.le_of_ble_eq_true rfl⟩ rfl rfl (ci := 11) (q0 := 0) rfl rfl rfl hl.1 (Nat.le_of_ble_eq_true rfl) dX12_run_22 ⟨Nat.le_of_ble_eq_true rfl, Nat.le_of_ble_eq_true rfl⟩ (fun r_6 t_5 H locs hw hP hD hS => ?_)
      obtain ⟨hok, f_7, h_8, h_9, p_10, p_11⟩ := hw
      have hfr : frA [(0, 0), (0, 5), (0, 6), (0, 7), (0, 9), (0, 10), (0, 14), (0, 15), (0, 16), (0, 17), (0, 18), (0, 30), (0, 35), (0, 91)] [(0, 8)] [2, 3, 5, 7, 8, 9, 10, 11, 12, 13, 14] [4, 6] t t_5 := frA_tr hfr f_7 rfl
      have h_12 : (t_5.1 0 0).toInt = 0 := by rw [show (t_5.1 0 0) = (0 : Int32) from f_7.1 0 0 rfl]; rfl
      have h_13 : (t_5.1 0 12).toInt = (t.1 0 12).toInt := ti_eq (f_7.1 0 12 rfl)
      have h_14 : (0 : Int) ≤ (t_5.1 0 9).toInt ∧ (t_5.1 0 9).toInt ≤ 10 := hok.1 0 9
      have h_15 : (0 : Int) ≤ (t_5.1 0 12).toInt ∧ (t_5.1 0 12).toInt ≤ 1 := hok.1 0 12
      replace p_10 : (t.1 0 12).toInt = 1 → (t.2.1 0 8).toInt ≤ (t_5.2.1 0 8).toInt := p_10
      replace p_11 : (t.1 0 12).toInt = 1 → (t_5.1 0 9).toInt = 0 → (t.2.1 0 8).toInt + x1.toInt ≤ (t_5.2.1 0 8).toInt := p_11
      exact g_iret C hr hlocks hP hD hS rfl t_5 rfl ⟨hok, hfr, by omega, by omega⟩ (Nat.le_of_ble_eq_true rfl) (Nat.le_of_ble_eq_true rfl) dX12_run_25
    · replace c_4 : 100000 < x1.toInt := i_nle c_4
      refine lv_iconst (v := 0) C.1 C.2.1 dX12_run_16 (by decide) ?_
      refine lv_goto (tgt := 25) C.1 C.2.1 dX12_run_17 (by decide) ?_
      exact g_iret C hr hlocks hP hD hS rfl (uI t 0 0 0) rfl ⟨hok, hfr, by decide, by decide⟩ (Nat.le_of_ble_eq_true rfl) (Nat.le_of_ble_eq_true rfl) dX12_run_25

theorem dX12_trace_0 : decode cX12_trace 0 = .ok (.aload_n 0, 1) := by decide +kernel
theorem dX12_trace_1 : decode cX12_trace 1 = .ok (.iconst 0, 1) := by decide +kernel
theorem dX12_trace_10 : decode cX12_trace 10 = .ok (.sipush 300, 3) := by decide +kernel
theorem dX12_trace_13 : decode cX12_trace 13 = .ok (.if_icmp .le 5, 3) := by decide +kernel
theorem dX12_trace_16 : decode cX12_trace 16 = .ok (.iconst 0, 1) := by decide +kernel
theorem dX12_trace_17 : decode cX12_trace 17 = .ok (.ireturn, 1) := by decide +kernel
theorem dX12_trace_18 : decode cX12_trace 18 = .ok (.aload_n 0, 1) := by decide +kernel
theorem dX12_trace_19 : decode cX12_trace 19 = .ok (.iload_n 1, 1) := by decide +kernel
theorem dX12_trace_2 : decode cX12_trace 2 = .ok (.putfield 155, 3) := by decide +kernel
theorem dX12_trace_20 : decode cX12_trace 20 = .ok (.putfield 415, 3) := by decide +kernel
theorem dX12_trace_23 : decode cX12_trace 23 = .ok (.aload_n 0, 1) := by decide +kernel
theorem dX12_trace_24 : decode cX12_trace 24 = .ok (.iload_n 1, 1) := by decide +kernel
theorem dX12_trace_25 : decode cX12_trace 25 = .ok (.invokevirtual 712, 3) := by decide +kernel
theorem dX12_trace_28 : decode cX12_trace 28 = .ok (.istore_n 2, 1) := by decide +kernel
theorem dX12_trace_29 : decode cX12_trace 29 = .ok (.aload_n 0, 1) := by decide +kernel
theorem dX12_trace_30 : decode cX12_trace 30 = .ok (.iconst 0, 1) := by decide +kernel
theorem dX12_trace_31 : decode cX12_trace 31 = .ok (.putfield 415, 3) := by decide +kernel
theorem dX12_trace_34 : decode cX12_trace 34 = .ok (.iload_n 2, 1) := by decide +kernel
theorem dX12_trace_35 : decode cX12_trace 35 = .ok (.ireturn, 1) := by decide +kernel
theorem dX12_trace_5 : decode cX12_trace 5 = .ok (.iload_n 1, 1) := by decide +kernel
theorem dX12_trace_6 : decode cX12_trace 6 = .ok (.ifCond .lt 10, 3) := by decide +kernel
theorem dX12_trace_9 : decode cX12_trace 9 = .ok (.iload_n 1, 1) := by decide +kernel
set_option maxHeartbeats 4000000 in
set_option maxRecDepth 100000 in
theorem T_X12_trace (l : Launch) (D : va_G) (K : Nat → ClassId) (Z Y : Nat → Nat) (ad : Nat → Nat) (t : tSt) (hok : okM t) (x1 : Int32) : tMet l yX12_trace cX12_trace 3 (some .int) (rmD 12 0 0) D K Z Y [.ref (ad 0), .int x1] (WM K ad t) (QI D K (fun (r : Int32) (u : tSt) => okM u ∧ frA [(0, 0), (0, 5), (0, 6), (0, 7), (0, 9), (0, 10), (0, 14), (0, 15), (0, 16), (0, 17), (0, 18), (0, 30), (0, 35), (0, 91)] [(0, 8)] [2, 3, 5, 7, 8, 9, 10, 11, 12, 13, 14] [4, 6] t u ∧ (0 : Int) ≤ r.toInt ∧ r.toInt ≤ 100000) (fun (u : tSt) => WM K ad u)) 0 0 := by
  refine t_met RX12 ⟨rfl, by decide +kernel⟩ (Nat.le_of_ble_eq_true rfl) ?_
  intro p e s m below meth c A ls C hE hZ hr hlocks hA hP hD hS hl
  have hl : lv_has ls 3 [(0, .ref (ad 0)), (1, .int x1)] := hl
  have hokt := hok
  have hfr : frA [(0, 0), (0, 5), (0, 6), (0, 7), (0, 9), (0, 10), (0, 14), (0, 15), (0, 16), (0, 17), (0, 18), (0, 30), (0, 35), (0, 91)] [(0, 8)] [2, 3, 5, 7, 8, 9, 10, 11, 12, 13, 14] [4, 6] t t := frA_rf
  have h_1 : (0 : Int) ≤ (t.1 0 9).toInt ∧ (t.1 0 9).toInt ≤ 10 := hok.1 0 9
  have h_2 : (0 : Int) ≤ (t.1 0 12).toInt ∧ (t.1 0 12).toInt ≤ 1 := hok.1 0 12
  refine lv_aload_n C.1 C.2.1 dX12_trace_0 rfl (lv_at hl 0 rfl) ?_
  refine lv_iconst (v := 0) C.1 C.2.1 dX12_trace_1 (by decide) ?_
  refine k_put (ws' := WM K ad (uI t 0 0 0)) (v := .int 0) C hP hD hS 0 rfl rfl inlX12 tyX12_ok nmX12 0 (by decide) m_9_18 rfl rfl rfl rfl rfl dX12_trace_2 (fun H locs hP hD hS => ?_)
  have hok : okM (uI t 0 0 0) := ⟨okI_I hok.1 0 0 0 (show (0 : Int) ≤ (0 : Int32).toInt ∧ (0 : Int32).toInt ≤ 1 from ⟨by decide, by decide⟩), hok.2.1, hok.2.2.1, hok.2.2.2.1, hok.2.2.2.2.1, hok.2.2.2.2.2.1, hok.2.2.2.2.2.2.1, trivial⟩
  have hfr : frA [(0, 0), (0, 5), (0, 6), (0, 7), (0, 9), (0, 10), (0, 14), (0, 15), (0, 16), (0, 17), (0, 18), (0, 30), (0, 35), (0, 91)] [(0, 8)] [2, 3, 5, 7, 8, 9, 10, 11, 12, 13, 14] [4, 6] t (uI t 0 0 0) := frA_I hfr 0 0 _ rfl
  refine lv_iload_n C.1 C.2.1 dX12_trace_5 rfl (lv_at hl 1 rfl) ?_
  refine lv_if_lt (tgt := 16) C.1 C.2.1 dX12_trace_6 (by decide) (fun c_3 => ?_) (fun c_3 => ?_)
  · replace c_3 : x1.toInt < 0 := i_lt c_3
    refine lv_iconst (v := 0) C.1 C.2.1 dX12_trace_16 (by decide) ?_
    exact g_iret C hr hlocks hP hD hS rfl (uI t 0 0 0) rfl ⟨hok, hfr, by decide, by decide⟩ (Nat.le_of_ble_eq_true rfl) (Nat.le_of_ble_eq_true rfl) dX12_trace_17
  · replace c_3 : 0 ≤ x1.toInt := i_nlt c_3
    refine lv_iload_n C.1 C.2.1 dX12_trace_9 rfl (lv_at hl 1 rfl) ?_
    refine lv_sipush (v := 300) C.1 C.2.1 dX12_trace_10 (by decide) ?_
    refine lv_icmp_le (tgt := 18) C.1 C.2.1 dX12_trace_13 (by decide) (fun c_4 => ?_) (fun c_4 => ?_)
    · replace c_4 : x1.toInt ≤ 300 := i_le c_4
      refine lv_aload_n C.1 C.2.1 dX12_trace_18 rfl (lv_at hl 0 rfl) ?_
      refine lv_iload_n C.1 C.2.1 dX12_trace_19 rfl (lv_at hl 1 rfl) ?_
      refine k_put (ws' := WM K ad (uI (uI t 0 0 0) 0 91 x1)) (v := .int x1) C hP hD hS 0 rfl rfl inlX12 tyX12_ok nmX12 91 (by decide) m_30_3 rfl rfl rfl rfl rfl dX12_trace_20 (fun H locs hP hD hS => ?_)
      have hok : okM (uI (uI t 0 0 0) 0 91 x1) := ⟨okI_I hok.1 0 91 x1 (show (-2147483648 : Int) ≤ (x1 : Int32).toInt ∧ (x1 : Int32).toInt ≤ 2147483647 from (i_rng _)), hok.2.1, hok.2.2.1, hok.2.2.2.1, hok.2.2.2.2.1, hok.2.2.2.2.2.1, hok.2.2.2.2.2.2.1, trivial⟩
      have hfr : frA [(0, 0), (0, 5), (0, 6), (0, 7), (0, 9), (0, 10), (0, 14), (0, 15), (0, 16), (0, 17), (0, 18), (0, 30), (0, 35), (0, 91)] [(0, 8)] [2, 3, 5, 7, 8, 9, 10, 11, 12, 13, 14] [4, 6] t (uI (uI t 0 0 0) 0 91 x1) := frA_I hfr 0 91 _ rfl
      refine lv_aload_n C.1 C.2.1 dX12_trace_23 rfl (lv_at hl 0 rfl) ?_
      refine lv_iload_n C.1 C.2.1 dX12_trace_24 rfl (lv_at hl 1 rfl) ?_
      refine g_Vi (As := [.int x1]) (rest := []) C hP hD hS hA (T_X12_goOn l D K Z Y ad (uI (uI t 0 0 0) 0 91 x1) hok (x1) (show (0 : Int) ≤ (x1 : Int32).toInt ∧ (x1 : Int32).toInt ≤ 100000 from ⟨by omega, by omega⟩)) hE hZ (uwV m_56_10 m_56_11 m_56_12 m_1_5 m_56_13) (hdV 1 (by decide +kernel) rfl) ⟨Nat.le_of_ble_eq_true rfl, Nat.le_of_ble_eq_true rfl⟩ rfl rfl (ci := 11) (q0 := 0) rfl rfl rfl hl.1 (Nat.le_of_ble_eq_true rfl) dX12_trace_25 ⟨Nat.le_of_ble_eq_true rfl, Nat.le_of_ble_eq_true rfl⟩ (fun r_6 t_5 H locs hw hP hD hS => ?_)
      obtain ⟨hok, f_7, h_8, h_9, p_10, p_11⟩ := hw
      have hfr : frA [(0, 0), (0, 5), (0, 6), (0, 7), (0, 9), (0, 10), (0, 14), (0, 15), (0, 16), (0, 17), (0, 18), (0, 30), (0, 35), (0, 91)] [(0, 8)] [2, 3, 5, 7, 8, 9, 10, 11, 12, 13, 14] [4, 6] t t_5 := frA_tr hfr f_7 rfl
      have h_12 : (t_5.1 0 0).toInt = 0 := by rw [show (t_5.1 0 0) = (0 : Int32) from f_7.1 0 0 rfl]; rfl
      have h_13 : (t_5.1 0 12).toInt = (t.1 0 12).toInt := ti_eq (f_7.1 0 12 rfl)
      have h_14 : (0 : Int) ≤ (t_5.1 0 9).toInt ∧ (t_5.1 0 9).toInt ≤ 10 := hok.1 0 9
      have h_15 : (0 : Int) ≤ (t_5.1 0 12).toInt ∧ (t_5.1 0 12).toInt ≤ 1 := hok.1 0 12
      replace p_10 : (t.1 0 12).toInt = 1 → (t.2.1 0 8).toInt ≤ (t_5.2.1 0 8).toInt := p_10
      replace p_11 : (t.1 0 12).toInt = 1 → (t_5.1 0 9).toInt = 0 → (t.2.1 0 8).toInt + x1.toInt ≤ (t_5.2.1 0 8).toInt := p_11
      refine lv_istore_n (lv' := [(2, .int r_6), (0, .ref (ad 0)), (1, .int x1)]) C.1 C.2.1 dX12_trace_28 rfl hl (by decide) rfl (fun ls hl => ?_)
      have hl : lv_has ls 3 [(0, .ref (ad 0)), (1, .int x1), (2, .int r_6)] := lv_sub hl [1, 2, 0] rfl
      refine lv_aload_n C.1 C.2.1 dX12_trace_29 rfl (lv_at hl 0 rfl) ?_
      refine lv_iconst (v := 0) C.1 C.2.1 dX12_trace_30 (by decide) ?_
      refine k_put (ws' := WM K ad (uI t_5 0 91 0)) (v := .int 0) C hP hD hS 0 rfl rfl inlX12 tyX12_ok nmX12 91 (by decide) m_30_3 rfl rfl rfl rfl rfl dX12_trace_31 (fun H locs hP hD hS => ?_)
      have hok : okM (uI t_5 0 91 0) := ⟨okI_I hok.1 0 91 0 (show (-2147483648 : Int) ≤ (0 : Int32).toInt ∧ (0 : Int32).toInt ≤ 2147483647 from (i_rng _)), hok.2.1, hok.2.2.1, hok.2.2.2.1, hok.2.2.2.2.1, hok.2.2.2.2.2.1, hok.2.2.2.2.2.2.1, trivial⟩
      have hfr : frA [(0, 0), (0, 5), (0, 6), (0, 7), (0, 9), (0, 10), (0, 14), (0, 15), (0, 16), (0, 17), (0, 18), (0, 30), (0, 35), (0, 91)] [(0, 8)] [2, 3, 5, 7, 8, 9, 10, 11, 12, 13, 14] [4, 6] t (uI t_5 0 91 0) := frA_I hfr 0 91 _ rfl
      refine lv_iload_n C.1 C.2.1 dX12_trace_34 rfl (lv_at hl 2 rfl) ?_
      exact g_iret C hr hlocks hP hD hS rfl (uI t_5 0 91 0) rfl ⟨hok, hfr, by omega, by omega⟩ (Nat.le_of_ble_eq_true rfl) (Nat.le_of_ble_eq_true rfl) dX12_trace_35
    · replace c_4 : 300 < x1.toInt := i_nle c_4
      refine lv_iconst (v := 0) C.1 C.2.1 dX12_trace_16 (by decide) ?_
      exact g_iret C hr hlocks hP hD hS rfl (uI t 0 0 0) rfl ⟨hok, hfr, by decide, by decide⟩ (Nat.le_of_ble_eq_true rfl) (Nat.le_of_ble_eq_true rfl) dX12_trace_17

theorem dX12_partA_0 : decode cX12_partA 0 = .ok (.aload_n 0, 1) := by decide +kernel
theorem dX12_partA_1 : decode cX12_partA 1 = .ok (.invokevirtual 540, 3) := by decide +kernel
theorem dX12_partA_10 : decode cX12_partA 10 = .ok (.invokevirtual 491, 3) := by decide +kernel
theorem dX12_partA_102 : decode cX12_partA 102 = .ok (.invokevirtual 446, 3) := by decide +kernel
theorem dX12_partA_105 : decode cX12_partA 105 = .ok (.bipush 48, 2) := by decide +kernel
theorem dX12_partA_107 : decode cX12_partA 107 = .ok (.isub, 1) := by decide +kernel
theorem dX12_partA_108 : decode cX12_partA 108 = .ok (.goto 16, 3) := by decide +kernel
theorem dX12_partA_111 : decode cX12_partA 111 = .ok (.aload_n 0, 1) := by decide +kernel
theorem dX12_partA_112 : decode cX12_partA 112 = .ok (.aload_n 0, 1) := by decide +kernel
theorem dX12_partA_113 : decode cX12_partA 113 = .ok (.aload_n 0, 1) := by decide +kernel
theorem dX12_partA_114 : decode cX12_partA 114 = .ok (.getfield 472, 3) := by decide +kernel
theorem dX12_partA_117 : decode cX12_partA 117 = .ok (.iload_n 1, 1) := by decide +kernel
theorem dX12_partA_118 : decode cX12_partA 118 = .ok (.invokevirtual 484, 3) := by decide +kernel
theorem dX12_partA_121 : decode cX12_partA 121 = .ok (.invokevirtual 552, 3) := by decide +kernel
theorem dX12_partA_124 : decode cX12_partA 124 = .ok (.putfield 555, 3) := by decide +kernel
theorem dX12_partA_127 : decode cX12_partA 127 = .ok (.iload_n 2, 1) := by decide +kernel
theorem dX12_partA_128 : decode cX12_partA 128 = .ok (.ifCond .ne 11, 3) := by decide +kernel
theorem dX12_partA_13 : decode cX12_partA 13 = .ok (.bipush 61, 2) := by decide +kernel
theorem dX12_partA_131 : decode cX12_partA 131 = .ok (.aload_n 0, 1) := by decide +kernel
theorem dX12_partA_132 : decode cX12_partA 132 = .ok (.aload_n 0, 1) := by decide +kernel
theorem dX12_partA_133 : decode cX12_partA 133 = .ok (.getfield 555, 3) := by decide +kernel
theorem dX12_partA_136 : decode cX12_partA 136 = .ok (.invokevirtual 488, 3) := by decide +kernel
theorem dX12_partA_139 : decode cX12_partA 139 = .ok (.aload_n 0, 1) := by decide +kernel
theorem dX12_partA_140 : decode cX12_partA 140 = .ok (.iload_n 1, 1) := by decide +kernel
theorem dX12_partA_141 : decode cX12_partA 141 = .ok (.putfield 472, 3) := by decide +kernel
theorem dX12_partA_144 : decode cX12_partA 144 = .ok (.iconst 0, 1) := by decide +kernel
theorem dX12_partA_145 : decode cX12_partA 145 = .ok (.ireturn, 1) := by decide +kernel
theorem dX12_partA_146 : decode cX12_partA 146 = .ok (.aload_n 0, 1) := by decide +kernel
theorem dX12_partA_147 : decode cX12_partA 147 = .ok (.invokevirtual 528, 3) := by decide +kernel
theorem dX12_partA_15 : decode cX12_partA 15 = .ok (.if_icmp .ne 34, 3) := by decide +kernel
theorem dX12_partA_150 : decode cX12_partA 150 = .ok (.istore_n 1, 1) := by decide +kernel
theorem dX12_partA_151 : decode cX12_partA 151 = .ok (.aload_n 0, 1) := by decide +kernel
theorem dX12_partA_152 : decode cX12_partA 152 = .ok (.getfield 469, 3) := by decide +kernel
theorem dX12_partA_155 : decode cX12_partA 155 = .ok (.ifCond .ne 18, 3) := by decide +kernel
theorem dX12_partA_158 : decode cX12_partA 158 = .ok (.iload_n 1, 1) := by decide +kernel
theorem dX12_partA_159 : decode cX12_partA 159 = .ok (.ldc 159, 2) := by decide +kernel
theorem dX12_partA_161 : decode cX12_partA 161 = .ok (.iand, 1) := by decide +kernel
theorem dX12_partA_162 : decode cX12_partA 162 = .ok (.sipush 4095, 3) := by decide +kernel
theorem dX12_partA_165 : decode cX12_partA 165 = .ok (.if_icmp .le 8, 3) := by decide +kernel
theorem dX12_partA_168 : decode cX12_partA 168 = .ok (.aload_n 0, 1) := by decide +kernel
theorem dX12_partA_169 : decode cX12_partA 169 = .ok (.iconst 5, 1) := by decide +kernel
theorem dX12_partA_170 : decode cX12_partA 170 = .ok (.invokevirtual 478, 3) := by decide +kernel
theorem dX12_partA_173 : decode cX12_partA 173 = .ok (.iload_n 1, 1) := by decide +kernel
theorem dX12_partA_174 : decode cX12_partA 174 = .ok (.sipush 4095, 3) := by decide +kernel
theorem dX12_partA_177 : decode cX12_partA 177 = .ok (.iand, 1) := by decide +kernel
theorem dX12_partA_178 : decode cX12_partA 178 = .ok (.bipush 18, 2) := by decide +kernel
theorem dX12_partA_18 : decode cX12_partA 18 = .ok (.aload_n 0, 1) := by decide +kernel
theorem dX12_partA_180 : decode cX12_partA 180 = .ok (.ishl, 1) := by decide +kernel
theorem dX12_partA_181 : decode cX12_partA 181 = .ok (.iload_n 1, 1) := by decide +kernel
theorem dX12_partA_182 : decode cX12_partA 182 = .ok (.ldc 158, 2) := by decide +kernel
theorem dX12_partA_184 : decode cX12_partA 184 = .ok (.iand, 1) := by decide +kernel
theorem dX12_partA_185 : decode cX12_partA 185 = .ok (.ior, 1) := by decide +kernel
theorem dX12_partA_186 : decode cX12_partA 186 = .ok (.ireturn, 1) := by decide +kernel
theorem dX12_partA_19 : decode cX12_partA 19 = .ok (.dup, 1) := by decide +kernel
theorem dX12_partA_20 : decode cX12_partA 20 = .ok (.getfield 472, 3) := by decide +kernel
theorem dX12_partA_23 : decode cX12_partA 23 = .ok (.iconst 1, 1) := by decide +kernel
theorem dX12_partA_24 : decode cX12_partA 24 = .ok (.iadd, 1) := by decide +kernel
theorem dX12_partA_25 : decode cX12_partA 25 = .ok (.putfield 472, 3) := by decide +kernel
theorem dX12_partA_28 : decode cX12_partA 28 = .ok (.aload_n 0, 1) := by decide +kernel
theorem dX12_partA_29 : decode cX12_partA 29 = .ok (.aload_n 0, 1) := by decide +kernel
theorem dX12_partA_30 : decode cX12_partA 30 = .ok (.invokevirtual 537, 3) := by decide +kernel
theorem dX12_partA_33 : decode cX12_partA 33 = .ok (.putfield 543, 3) := by decide +kernel
theorem dX12_partA_36 : decode cX12_partA 36 = .ok (.aload_n 0, 1) := by decide +kernel
theorem dX12_partA_37 : decode cX12_partA 37 = .ok (.bipush 61, 2) := by decide +kernel
theorem dX12_partA_39 : decode cX12_partA 39 = .ok (.invokevirtual 534, 3) := by decide +kernel
theorem dX12_partA_4 : decode cX12_partA 4 = .ok (.ifCond .eq 5, 3) := by decide +kernel
theorem dX12_partA_42 : decode cX12_partA 42 = .ok (.aload_n 0, 1) := by decide +kernel
theorem dX12_partA_43 : decode cX12_partA 43 = .ok (.iconst 2, 1) := by decide +kernel
theorem dX12_partA_44 : decode cX12_partA 44 = .ok (.putfield 546, 3) := by decide +kernel
theorem dX12_partA_47 : decode cX12_partA 47 = .ok (.iconst 0, 1) := by decide +kernel
theorem dX12_partA_48 : decode cX12_partA 48 = .ok (.ireturn, 1) := by decide +kernel
theorem dX12_partA_49 : decode cX12_partA 49 = .ok (.aload_n 0, 1) := by decide +kernel
theorem dX12_partA_50 : decode cX12_partA 50 = .ok (.invokevirtual 549, 3) := by decide +kernel
theorem dX12_partA_53 : decode cX12_partA 53 = .ok (.ifCond .eq 93, 3) := by decide +kernel
theorem dX12_partA_56 : decode cX12_partA 56 = .ok (.aload_n 0, 1) := by decide +kernel
theorem dX12_partA_57 : decode cX12_partA 57 = .ok (.invokevirtual 497, 3) := by decide +kernel
theorem dX12_partA_60 : decode cX12_partA 60 = .ok (.istore_n 1, 1) := by decide +kernel
theorem dX12_partA_61 : decode cX12_partA 61 = .ok (.aload_n 0, 1) := by decide +kernel
theorem dX12_partA_62 : decode cX12_partA 62 = .ok (.aload_n 0, 1) := by decide +kernel
theorem dX12_partA_63 : decode cX12_partA 63 = .ok (.getfield 472, 3) := by decide +kernel
theorem dX12_partA_66 : decode cX12_partA 66 = .ok (.iload_n 1, 1) := by decide +kernel
theorem dX12_partA_67 : decode cX12_partA 67 = .ok (.invokevirtual 481, 3) := by decide +kernel
theorem dX12_partA_7 : decode cX12_partA 7 = .ok (.iconst 0, 1) := by decide +kernel
theorem dX12_partA_70 : decode cX12_partA 70 = .ok (.ifCond .eq 7, 3) := by decide +kernel
theorem dX12_partA_73 : decode cX12_partA 73 = .ok (.iconst 1, 1) := by decide +kernel
theorem dX12_partA_74 : decode cX12_partA 74 = .ok (.goto 4, 3) := by decide +kernel
theorem dX12_partA_77 : decode cX12_partA 77 = .ok (.iconst 0, 1) := by decide +kernel
theorem dX12_partA_78 : decode cX12_partA 78 = .ok (.istore_n 2, 1) := by decide +kernel
theorem dX12_partA_79 : decode cX12_partA 79 = .ok (.aload_n 0, 1) := by decide +kernel
theorem dX12_partA_8 : decode cX12_partA 8 = .ok (.ireturn, 1) := by decide +kernel
theorem dX12_partA_80 : decode cX12_partA 80 = .ok (.iload_n 2, 1) := by decide +kernel
theorem dX12_partA_81 : decode cX12_partA 81 = .ok (.ifCond .eq 7, 3) := by decide +kernel
theorem dX12_partA_84 : decode cX12_partA 84 = .ok (.iconst 1, 1) := by decide +kernel
theorem dX12_partA_85 : decode cX12_partA 85 = .ok (.goto 4, 3) := by decide +kernel
theorem dX12_partA_88 : decode cX12_partA 88 = .ok (.iconst 0, 1) := by decide +kernel
theorem dX12_partA_89 : decode cX12_partA 89 = .ok (.putfield 546, 3) := by decide +kernel
theorem dX12_partA_9 : decode cX12_partA 9 = .ok (.aload_n 0, 1) := by decide +kernel
theorem dX12_partA_92 : decode cX12_partA 92 = .ok (.aload_n 0, 1) := by decide +kernel
theorem dX12_partA_93 : decode cX12_partA 93 = .ok (.iload_n 2, 1) := by decide +kernel
theorem dX12_partA_94 : decode cX12_partA 94 = .ok (.ifCond .eq 17, 3) := by decide +kernel
theorem dX12_partA_97 : decode cX12_partA 97 = .ok (.aload_n 0, 1) := by decide +kernel
theorem dX12_partA_98 : decode cX12_partA 98 = .ok (.aload_n 0, 1) := by decide +kernel
theorem dX12_partA_99 : decode cX12_partA 99 = .ok (.getfield 472, 3) := by decide +kernel
set_option maxHeartbeats 4000000 in
set_option maxRecDepth 100000 in
theorem T_X12_partA (l : Launch) (D : va_G) (K : Nat → ClassId) (Z Y : Nat → Nat) (ad : Nat → Nat) (t : tSt) (hok : okM t) (hs0 : 1 ≤ (t.1 0 68).toInt) (hs1 : (t.1 0 52).toInt ≤ 1199) : tMet l yX12_partA cX12_partA 3 (some .int) (rmD 14 0 0) D K Z Y [.ref (ad 0)] (WM K ad t) (QI D K (fun (r : Int32) (u : tSt) => okM u ∧ frA [(0, 52), (0, 68), (0, 70), (0, 71), (0, 72), (0, 73)] [] [25, 26, 27] [23] t u ∧ (0 : Int) ≤ r.toInt ∧ r.toInt ≤ 2147483647 ∧ ((t.1 0 68).toInt ≤ (u.1 0 68).toInt) ∧ ((u.1 0 68).toInt ≤ (t.1 0 69).toInt ∨ (u.1 0 68).toInt = (t.1 0 68).toInt) ∧ ((u.1 0 71).toInt = (t.1 0 71).toInt ∨ (t.1 0 68).toInt < (t.1 0 69).toInt) ∧ ((t.1 0 52).toInt ≤ (u.1 0 52).toInt) ∧ ((u.1 0 52).toInt = (t.1 0 52).toInt ∨ ((u.1 0 52).toInt = (t.1 0 52).toInt + 1 ∧ (t.1 0 68).toInt < (t.1 0 69).toInt)) ∧ ((u.1 0 70).toInt = 0 → (t.1 0 70).toInt = 0)) (fun (u : tSt) => WM K ad u)) 0 0 := by
  refine t_met RX12 ⟨rfl, by decide +kernel⟩ (Nat.le_of_ble_eq_true rfl) ?_
  intro p e s m below meth c A ls C hE hZ hr hlocks hA hP hD hS hl
  have hl : lv_has ls 3 [(0, .ref (ad 0))] := hl
  have hokt := hok
  have hfr : frA [(0, 52), (0, 68), (0, 70), (0, 71), (0, 72), (0, 73)] [] [25, 26, 27] [23] t t := frA_rf
  have h_1 : (0 : Int) ≤ (t.1 0 52).toInt ∧ (t.1 0 52).toInt ≤ 1200 := hok.1 0 52
  have h_2 : (0 : Int) ≤ (t.1 0 67).toInt ∧ (t.1 0 67).toInt ≤ 1281 := hok.1 0 67
  have h_3 : (0 : Int) ≤ (t.1 0 68).toInt ∧ (t.1 0 68).toInt ≤ 81 := hok.1 0 68
  have h_4 : (0 : Int) ≤ (t.1 0 69).toInt ∧ (t.1 0 69).toInt ≤ 81 := hok.1 0 69
  have h_5 : (0 : Int) ≤ (t.1 0 70).toInt ∧ (t.1 0 70).toInt ≤ 8 := hok.1 0 70
  have h_6 : (-1 : Int) ≤ (t.1 0 71).toInt ∧ (t.1 0 71).toInt ≤ 2 := hok.1 0 71
  refine lv_aload_n C.1 C.2.1 dX12_partA_0 rfl (lv_at hl 0 rfl) ?_
  refine g_Vi (As := []) (rest := []) C hP hD hS hA (T_X12_endsPart l D K Z Y ad t hok (show 1 ≤ (t.1 0 68).toInt from by omega)) hE hZ (uwV m_39_13 m_39_14 m_39_15 m_1_5 m_39_16) (hdV 0 (by decide +kernel) rfl) ⟨Nat.le_of_ble_eq_true rfl, Nat.le_of_ble_eq_true rfl⟩ rfl rfl (ci := 11) (q0 := 0) rfl rfl rfl hl.1 (Nat.le_of_ble_eq_true rfl) dX12_partA_1 ⟨Nat.le_of_ble_eq_true rfl, Nat.le_of_ble_eq_true rfl⟩ (fun r_8 t_7 H locs hw hP hD hS => ?_)
  obtain ⟨h_10, h_11⟩ := hw
  refine lv_if_eq (tgt := 9) C.1 C.2.1 dX12_partA_4 (by decide) (fun c_12 => ?_) (fun c_12 => ?_)
  · replace c_12 : r_8.toInt = 0 := i_eq c_12
    refine lv_aload_n C.1 C.2.1 dX12_partA_9 rfl (lv_at hl 0 rfl) ?_
    refine g_Vi (As := []) (rest := []) C hP hD hS hA (T_X12_now l D K Z Y ad t hok (show 1 ≤ (t.1 0 68).toInt from by omega)) hE hZ (uwV m_34_20 m_34_21 m_34_22 m_1_5 m_34_23) (hdV 0 (by decide +kernel) rfl) ⟨Nat.le_of_ble_eq_true rfl, Nat.le_of_ble_eq_true rfl⟩ rfl rfl (ci := 11) (q0 := 0) rfl rfl rfl hl.1 (Nat.le_of_ble_eq_true rfl) dX12_partA_10 ⟨Nat.le_of_ble_eq_true rfl, Nat.le_of_ble_eq_true rfl⟩ (fun r_14 t_13 H locs hw hP hD hS => ?_)
    obtain ⟨h_16, h_17, p_18⟩ := hw
    replace p_18 : r_14.toInt = -1 ∨ (t.1 0 68).toInt < (t.1 0 69).toInt := p_18
    refine lv_bipush (v := 61) C.1 C.2.1 dX12_partA_13 (by decide) ?_
    refine lv_icmp_ne (tgt := 49) C.1 C.2.1 dX12_partA_15 (by decide) (fun c_19 => ?_) (fun c_19 => ?_)
    · replace c_19 : ¬ r_14.toInt = 61 := i_ne c_19
      refine lv_aload_n C.1 C.2.1 dX12_partA_49 rfl (lv_at hl 0 rfl) ?_
      refine g_Vi (As := []) (rest := []) C hP hD hS hA (T_X12_isToCome l D K Z Y ad t hok (show 1 ≤ (t.1 0 68).toInt from by omega)) hE hZ (uwV m_39_17 m_39_18 m_39_19 m_1_5 m_39_20) (hdV 0 (by decide +kernel) rfl) ⟨Nat.le_of_ble_eq_true rfl, Nat.le_of_ble_eq_true rfl⟩ rfl rfl (ci := 11) (q0 := 0) rfl rfl rfl hl.1 (Nat.le_of_ble_eq_true rfl) dX12_partA_50 ⟨Nat.le_of_ble_eq_true rfl, Nat.le_of_ble_eq_true rfl⟩ (fun r_21 t_20 H locs hw hP hD hS => ?_)
      obtain ⟨h_23, h_24, p_25⟩ := hw
      replace p_25 : r_21.toInt = 1 → (t.1 0 68).toInt < (t.1 0 69).toInt := p_25
      refine lv_if_eq (tgt := 146) C.1 C.2.1 dX12_partA_53 (by decide) (fun c_26 => ?_) (fun c_26 => ?_)
      · replace c_26 : r_21.toInt = 0 := i_eq c_26
        refine lv_aload_n C.1 C.2.1 dX12_partA_146 rfl (lv_at hl 0 rfl) ?_
        refine g_Vi (As := []) (rest := []) C hP hD hS hA (T_X12_expression l D K Z Y ad t hok (show 1 ≤ (t.1 0 68).toInt from by omega)) hE hZ (uwV m_34_15 m_34_16 m_34_17 m_1_5 m_34_18) (hdV 0 (by decide +kernel) rfl) ⟨Nat.le_of_ble_eq_true rfl, Nat.le_of_ble_eq_true rfl⟩ rfl rfl (ci := 11) (q0 := 0) rfl rfl rfl hl.1 (Nat.le_of_ble_eq_true rfl) dX12_partA_147 ⟨Nat.le_of_ble_eq_true rfl, Nat.le_of_ble_eq_true rfl⟩ (fun r_28 t_27 H locs hw hP hD hS => ?_)
        obtain ⟨hok, f_29, h_30, h_31, p_32, p_33, p_34, p_35⟩ := hw
        have hfr : frA [(0, 52), (0, 68), (0, 70), (0, 71), (0, 72), (0, 73)] [] [25, 26, 27] [23] t t_27 := frA_tr hfr f_29 rfl
        have h_36 : (t_27.1 0 52).toInt = (t.1 0 52).toInt := ti_eq (f_29.1 0 52 rfl)
        have h_37 : (t_27.1 0 67).toInt = (t.1 0 67).toInt := ti_eq (f_29.1 0 67 rfl)
        have h_38 : (t_27.1 0 69).toInt = (t.1 0 69).toInt := ti_eq (f_29.1 0 69 rfl)
        have h_39 : (t_27.1 0 71).toInt = (t.1 0 71).toInt := ti_eq (f_29.1 0 71 rfl)
        have e_40 : t_27.2.2.1 19 = t.2.2.1 19 := f_29.2.2.1 19 rfl
        have e_41 : t_27.2.2.1 20 = t.2.2.1 20 := f_29.2.2.1 20 rfl
        have h_42 : (0 : Int) ≤ (t_27.1 0 52).toInt ∧ (t_27.1 0 52).toInt ≤ 1200 := hok.1 0 52
        have h_43 : (0 : Int) ≤ (t_27.1 0 67).toInt ∧ (t_27.1 0 67).toInt ≤ 1281 := hok.1 0 67
        have h_44 : (0 : Int) ≤ (t_27.1 0 68).toInt ∧ (t_27.1 0 68).toInt ≤ 81 := hok.1 0 68
        have h_45 : (0 : Int) ≤ (t_27.1 0 69).toInt ∧ (t_27.1 0 69).toInt ≤ 81 := hok.1 0 69
        have h_46 : (0 : Int) ≤ (t_27.1 0 70).toInt ∧ (t_27.1 0 70).toInt ≤ 8 := hok.1 0 70
        have h_47 : (-1 : Int) ≤ (t_27.1 0 71).toInt ∧ (t_27.1 0 71).toInt ≤ 2 := hok.1 0 71
        replace p_32 : (t.1 0 68).toInt ≤ (t_27.1 0 68).toInt := p_32
        replace p_33 : (t_27.1 0 68).toInt ≤ (t.1 0 69).toInt ∨ (t_27.1 0 68).toInt = (t.1 0 68).toInt := p_33
        replace p_34 : 1 ≤ (t_27.1 0 70).toInt ∨ (t.1 0 68).toInt < (t_27.1 0 68).toInt := p_34
        replace p_35 : (t_27.1 0 70).toInt = 0 → (t.1 0 70).toInt = 0 := p_35
        refine lv_istore_n (lv' := [(1, .int r_28), (0, .ref (ad 0))]) C.1 C.2.1 dX12_partA_150 rfl hl (by decide) rfl (fun ls hl => ?_)
        have hl : lv_has ls 3 [(0, .ref (ad 0)), (1, .int r_28)] := lv_sub hl [1, 0] rfl
        refine lv_aload_n C.1 C.2.1 dX12_partA_151 rfl (lv_at hl 0 rfl) ?_
        refine k_get (v := .int (t_27.1 0 70)) C hP 0 rfl rfl inlX12 70 (by decide) m_29_13 rfl dX12_partA_152 ?_
        refine lv_if_ne (tgt := 173) C.1 C.2.1 dX12_partA_155 (by decide) (fun c_48 => ?_) (fun c_48 => ?_)
        · replace c_48 : ¬ (t_27.1 0 70).toInt = 0 := i_ne c_48
          refine lv_iload_n C.1 C.2.1 dX12_partA_173 rfl (lv_at hl 1 rfl) ?_
          refine lv_sipush (v := 4095) C.1 C.2.1 dX12_partA_174 (by decide) ?_
          obtain ⟨v_49, e_50⟩ : ∃ z, z = (r_28 : Int32) &&& (4095 : Int32) := ⟨_, rfl⟩
          have h_51 : v_49.toInt = r_28.toInt % 2 ^ 12 := by rw [e_50]; exact Jvm.Kit.i32_mask _ _ (k := 12) (by decide) (by decide)
          refine k_iand (v := v_49) C e_50.symm dX12_partA_177 ?_
          refine lv_bipush (v := 18) C.1 C.2.1 dX12_partA_178 (by decide) ?_
          obtain ⟨v_52, e_53⟩ : ∃ z, z = (v_49 : Int32) <<< ((18 : Int32) &&& 31) := ⟨_, rfl⟩
          have h_54 : v_52.toInt = v_49.toInt * 2 ^ 18 := by rw [e_53]; exact Jvm.Kit.i32_shl _ _ (k := 18) (by decide) (by omega) (by omega)
          refine k_ishl (v := v_52) C e_53.symm dX12_partA_180 ?_
          refine lv_iload_n C.1 C.2.1 dX12_partA_181 rfl (lv_at hl 1 rfl) ?_
          refine lv_ldc (v := 1073741824) C.1 C.2.1 C.2.2.2.1 (C.2.2.2.2.1 _ m_34_19) dX12_partA_182 ?_
          obtain ⟨v_55, e_56⟩ : ∃ z, z = (r_28 : Int32) &&& (1073741824 : Int32) := ⟨_, rfl⟩
          have h_57 : (0 : Int) ≤ v_55.toInt ∧ v_55.toInt ≤ 1073741824 := by rw [e_56]; exact z_and _ (k := 1073741824) (by decide) (by decide)
          refine k_iand (v := v_55) C e_56.symm dX12_partA_184 ?_
          obtain ⟨v_58, e_59⟩ : ∃ z, z = (v_52 : Int32) ||| (v_55 : Int32) := ⟨_, rfl⟩
          have h_60 : (0 : Int) ≤ v_58.toInt ∧ v_58.toInt ≤ 2147483647 := by rw [e_59]; exact z_or (k := 31) (by decide) (by show (0 : Int) ≤ v_52.toInt; omega) (by show v_52.toInt < (_ : Int); omega) (by show (0 : Int) ≤ v_55.toInt; omega) (by show v_55.toInt < (_ : Int); omega)
          refine k_ior (v := v_58) C e_59.symm dX12_partA_185 ?_
          exact g_iret C hr hlocks hP hD hS rfl t_27 rfl ⟨hok, hfr, by omega, by omega, (show (t.1 0 68).toInt ≤ (t_27.1 0 68).toInt from by omega), (show (t_27.1 0 68).toInt ≤ (t.1 0 69).toInt ∨ (t_27.1 0 68).toInt = (t.1 0 68).toInt from by omega), (show (t_27.1 0 71).toInt = (t.1 0 71).toInt ∨ (t.1 0 68).toInt < (t.1 0 69).toInt from by omega), (show (t.1 0 52).toInt ≤ (t_27.1 0 52).toInt from by omega), (show (t_27.1 0 52).toInt = (t.1 0 52).toInt ∨ ((t_27.1 0 52).toInt = (t.1 0 52).toInt + 1 ∧ (t.1 0 68).toInt < (t.1 0 69).toInt) from by omega), (show (t_27.1 0 70).toInt = 0 → (t.1 0 70).toInt = 0 from by omega)⟩ (Nat.le_of_ble_eq_true rfl) (Nat.le_of_ble_eq_true rfl) dX12_partA_186
        · replace c_48 : (t_27.1 0 70).toInt = 0 := i_eq c_48
          refine lv_iload_n C.1 C.2.1 dX12_partA_158 rfl (lv_at hl 1 rfl) ?_
          refine lv_ldc (v := 1073741823) C.1 C.2.1 C.2.2.2.1 (C.2.2.2.2.1 _ m_36_12) dX12_partA_159 ?_
          obtain ⟨v_61, e_62⟩ : ∃ z, z = (r_28 : Int32) &&& (1073741823 : Int32) := ⟨_, rfl⟩
          have h_63 : v_61.toInt = r_28.toInt % 2 ^ 30 := by rw [e_62]; exact Jvm.Kit.i32_mask _ _ (k := 30) (by decide) (by decide)
          refine k_iand (v := v_61) C e_62.symm dX12_partA_161 ?_
          refine lv_sipush (v := 4095) C.1 C.2.1 dX12_partA_162 (by decide) ?_
          refine lv_icmp_le (tgt := 173) C.1 C.2.1 dX12_partA_165 (by decide) (fun c_64 => ?_) (fun c_64 => ?_)
          · replace c_64 : v_61.toInt ≤ 4095 := i_le c_64
            refine lv_iload_n C.1 C.2.1 dX12_partA_173 rfl (lv_at hl 1 rfl) ?_
            refine lv_sipush (v := 4095) C.1 C.2.1 dX12_partA_174 (by decide) ?_
            obtain ⟨v_65, e_66⟩ : ∃ z, z = (r_28 : Int32) &&& (4095 : Int32) := ⟨_, rfl⟩
            have h_67 : v_65.toInt = r_28.toInt % 2 ^ 12 := by rw [e_66]; exact Jvm.Kit.i32_mask _ _ (k := 12) (by decide) (by decide)
            refine k_iand (v := v_65) C e_66.symm dX12_partA_177 ?_
            refine lv_bipush (v := 18) C.1 C.2.1 dX12_partA_178 (by decide) ?_
            obtain ⟨v_68, e_69⟩ : ∃ z, z = (v_65 : Int32) <<< ((18 : Int32) &&& 31) := ⟨_, rfl⟩
            have h_70 : v_68.toInt = v_65.toInt * 2 ^ 18 := by rw [e_69]; exact Jvm.Kit.i32_shl _ _ (k := 18) (by decide) (by omega) (by omega)
            refine k_ishl (v := v_68) C e_69.symm dX12_partA_180 ?_
            refine lv_iload_n C.1 C.2.1 dX12_partA_181 rfl (lv_at hl 1 rfl) ?_
            refine lv_ldc (v := 1073741824) C.1 C.2.1 C.2.2.2.1 (C.2.2.2.2.1 _ m_34_19) dX12_partA_182 ?_
            obtain ⟨v_71, e_72⟩ : ∃ z, z = (r_28 : Int32) &&& (1073741824 : Int32) := ⟨_, rfl⟩
            have h_73 : (0 : Int) ≤ v_71.toInt ∧ v_71.toInt ≤ 1073741824 := by rw [e_72]; exact z_and _ (k := 1073741824) (by decide) (by decide)
            refine k_iand (v := v_71) C e_72.symm dX12_partA_184 ?_
            obtain ⟨v_74, e_75⟩ : ∃ z, z = (v_68 : Int32) ||| (v_71 : Int32) := ⟨_, rfl⟩
            have h_76 : (0 : Int) ≤ v_74.toInt ∧ v_74.toInt ≤ 2147483647 := by rw [e_75]; exact z_or (k := 31) (by decide) (by show (0 : Int) ≤ v_68.toInt; omega) (by show v_68.toInt < (_ : Int); omega) (by show (0 : Int) ≤ v_71.toInt; omega) (by show v_71.toInt < (_ : Int); omega)
            refine k_ior (v := v_74) C e_75.symm dX12_partA_185 ?_
            exact g_iret C hr hlocks hP hD hS rfl t_27 rfl ⟨hok, hfr, by omega, by omega, (show (t.1 0 68).toInt ≤ (t_27.1 0 68).toInt from by omega), (show (t_27.1 0 68).toInt ≤ (t.1 0 69).toInt ∨ (t_27.1 0 68).toInt = (t.1 0 68).toInt from by omega), (show (t_27.1 0 71).toInt = (t.1 0 71).toInt ∨ (t.1 0 68).toInt < (t.1 0 69).toInt from by omega), (show (t.1 0 52).toInt ≤ (t_27.1 0 52).toInt from by omega), (show (t_27.1 0 52).toInt = (t.1 0 52).toInt ∨ ((t_27.1 0 52).toInt = (t.1 0 52).toInt + 1 ∧ (t.1 0 68).toInt < (t.1 0 69).toInt) from by omega), (show (t_27.1 0 70).toInt = 0 → (t.1 0 70).toInt = 0 from by omega)⟩ (Nat.le_of_ble_eq_true rfl) (Nat.le_of_ble_eq_true rfl) dX12_partA_186
          · replace c_64 : 4095 < v_61.toInt := i_nle c_64
            refine lv_aload_n C.1 C.2.1 dX12_partA_168 rfl (lv_at hl 0 rfl) ?_
            refine lv_iconst (v := 5) C.1 C.2.1 dX12_partA_169 (by decide) ?_
            have h_77 : (5 : Int32).toInt = 5 := rfl
            refine g_Vv (As := [.int 5]) (rest := []) C hP hD hS hA (T_X12_fail l D K Z Y ad t_27 hok 5 (show (1 : Int) ≤ (5 : Int32).toInt ∧ (5 : Int32).toInt ≤ 8 from ⟨by decide, by decide⟩) (show 1 ≤ (5 : Int32).toInt from by omega)) hE hZ (uwV m_32_22 m_32_23 m_33_0 m_1_5 m_33_1) (hdV 1 (by decide +kernel) rfl) ⟨Nat.le_of_ble_eq_true rfl, Nat.le_of_ble_eq_true rfl⟩ rfl rfl (ci := 11) (q0 := 0) rfl rfl rfl hl.1 (Nat.le_of_ble_eq_true rfl) dX12_partA_170 ⟨Nat.le_of_ble_eq_true rfl, Nat.le_of_ble_eq_true rfl⟩ (fun t_78 H locs hw hP hD hS => ?_)
            obtain ⟨hok, f_80, p_81⟩ := hw
            have hfr : frA [(0, 52), (0, 68), (0, 70), (0, 71), (0, 72), (0, 73)] [] [25, 26, 27] [23] t t_78 := frA_tr hfr f_80 rfl
            have h_82 : (t_78.1 0 52).toInt = (t_27.1 0 52).toInt := ti_eq (f_80.1 0 52 rfl)
            have h_83 : (t_78.1 0 67).toInt = (t_27.1 0 67).toInt := ti_eq (f_80.1 0 67 rfl)
            have h_84 : (t_78.1 0 68).toInt = (t_27.1 0 68).toInt := ti_eq (f_80.1 0 68 rfl)
            have h_85 : (t_78.1 0 69).toInt = (t_27.1 0 69).toInt := ti_eq (f_80.1 0 69 rfl)
            have h_86 : (t_78.1 0 71).toInt = (t_27.1 0 71).toInt := ti_eq (f_80.1 0 71 rfl)
            have e_87 : t_78.2.2.1 19 = t.2.2.1 19 := (f_80.2.2.1 19 rfl).trans (e_40)
            have e_88 : t_78.2.2.1 20 = t.2.2.1 20 := (f_80.2.2.1 20 rfl).trans (e_41)
            have h_89 : (0 : Int) ≤ (t_78.1 0 52).toInt ∧ (t_78.1 0 52).toInt ≤ 1200 := hok.1 0 52
            have h_90 : (0 : Int) ≤ (t_78.1 0 67).toInt ∧ (t_78.1 0 67).toInt ≤ 1281 := hok.1 0 67
            have h_91 : (0 : Int) ≤ (t_78.1 0 68).toInt ∧ (t_78.1 0 68).toInt ≤ 81 := hok.1 0 68
            have h_92 : (0 : Int) ≤ (t_78.1 0 69).toInt ∧ (t_78.1 0 69).toInt ≤ 81 := hok.1 0 69
            have h_93 : (0 : Int) ≤ (t_78.1 0 70).toInt ∧ (t_78.1 0 70).toInt ≤ 8 := hok.1 0 70
            have h_94 : (-1 : Int) ≤ (t_78.1 0 71).toInt ∧ (t_78.1 0 71).toInt ≤ 2 := hok.1 0 71
            replace p_81 : 1 ≤ (t_78.1 0 70).toInt := p_81
            refine lv_iload_n C.1 C.2.1 dX12_partA_173 rfl (lv_at hl 1 rfl) ?_
            refine lv_sipush (v := 4095) C.1 C.2.1 dX12_partA_174 (by decide) ?_
            obtain ⟨v_95, e_96⟩ : ∃ z, z = (r_28 : Int32) &&& (4095 : Int32) := ⟨_, rfl⟩
            have h_97 : v_95.toInt = r_28.toInt % 2 ^ 12 := by rw [e_96]; exact Jvm.Kit.i32_mask _ _ (k := 12) (by decide) (by decide)
            refine k_iand (v := v_95) C e_96.symm dX12_partA_177 ?_
            refine lv_bipush (v := 18) C.1 C.2.1 dX12_partA_178 (by decide) ?_
            obtain ⟨v_98, e_99⟩ : ∃ z, z = (v_95 : Int32) <<< ((18 : Int32) &&& 31) := ⟨_, rfl⟩
            have h_100 : v_98.toInt = v_95.toInt * 2 ^ 18 := by rw [e_99]; exact Jvm.Kit.i32_shl _ _ (k := 18) (by decide) (by omega) (by omega)
            refine k_ishl (v := v_98) C e_99.symm dX12_partA_180 ?_
            refine lv_iload_n C.1 C.2.1 dX12_partA_181 rfl (lv_at hl 1 rfl) ?_
            refine lv_ldc (v := 1073741824) C.1 C.2.1 C.2.2.2.1 (C.2.2.2.2.1 _ m_34_19) dX12_partA_182 ?_
            obtain ⟨v_101, e_102⟩ : ∃ z, z = (r_28 : Int32) &&& (1073741824 : Int32) := ⟨_, rfl⟩
            have h_103 : (0 : Int) ≤ v_101.toInt ∧ v_101.toInt ≤ 1073741824 := by rw [e_102]; exact z_and _ (k := 1073741824) (by decide) (by decide)
            refine k_iand (v := v_101) C e_102.symm dX12_partA_184 ?_
            obtain ⟨v_104, e_105⟩ : ∃ z, z = (v_98 : Int32) ||| (v_101 : Int32) := ⟨_, rfl⟩
            have h_106 : (0 : Int) ≤ v_104.toInt ∧ v_104.toInt ≤ 2147483647 := by rw [e_105]; exact z_or (k := 31) (by decide) (by show (0 : Int) ≤ v_98.toInt; omega) (by show v_98.toInt < (_ : Int); omega) (by show (0 : Int) ≤ v_101.toInt; omega) (by show v_101.toInt < (_ : Int); omega)
            refine k_ior (v := v_104) C e_105.symm dX12_partA_185 ?_
            exact g_iret C hr hlocks hP hD hS rfl t_78 rfl ⟨hok, hfr, by omega, by omega, (show (t.1 0 68).toInt ≤ (t_78.1 0 68).toInt from by omega), (show (t_78.1 0 68).toInt ≤ (t.1 0 69).toInt ∨ (t_78.1 0 68).toInt = (t.1 0 68).toInt from by omega), (show (t_78.1 0 71).toInt = (t.1 0 71).toInt ∨ (t.1 0 68).toInt < (t.1 0 69).toInt from by omega), (show (t.1 0 52).toInt ≤ (t_78.1 0 52).toInt from by omega), (show (t_78.1 0 52).toInt = (t.1 0 52).toInt ∨ ((t_78.1 0 52).toInt = (t.1 0 52).toInt + 1 ∧ (t.1 0 68).toInt < (t.1 0 69).toInt) from by omega), (show (t_78.1 0 70).toInt = 0 → (t.1 0 70).toInt = 0 from by omega)⟩ (Nat.le_of_ble_eq_true rfl) (Nat.le_of_ble_eq_true rfl) dX12_partA_186
      · replace c_26 : ¬ r_21.toInt = 0 := i_ne c_26
        refine lv_aload_n C.1 C.2.1 dX12_partA_56 rfl (lv_at hl 0 rfl) ?_
        refine g_Vi (As := []) (rest := []) C hP hD hS hA (T_X12_nameEnd l D K Z Y ad t hok (show 1 ≤ (t.1 0 68).toInt from by omega)) hE hZ (uwV m_35_7 m_35_8 m_35_9 m_1_5 m_35_10) (hdV 0 (by decide +kernel) rfl) ⟨Nat.le_of_ble_eq_true rfl, Nat.le_of_ble_eq_true rfl⟩ rfl rfl (ci := 11) (q0 := 0) rfl rfl rfl hl.1 (Nat.le_of_ble_eq_true rfl) dX12_partA_57 ⟨Nat.le_of_ble_eq_true rfl, Nat.le_of_ble_eq_true rfl⟩ (fun r_108 t_107 H locs hw hP hD hS => ?_)
        obtain ⟨h_110, h_111, p_112, p_113⟩ := hw
        replace p_112 : (t.1 0 68).toInt ≤ r_108.toInt := p_112
        replace p_113 : r_108.toInt ≤ (t.1 0 69).toInt ∨ r_108.toInt = (t.1 0 68).toInt := p_113
        refine lv_istore_n (lv' := [(1, .int r_108), (0, .ref (ad 0))]) C.1 C.2.1 dX12_partA_60 rfl hl (by decide) rfl (fun ls hl => ?_)
        have hl : lv_has ls 3 [(0, .ref (ad 0)), (1, .int r_108)] := lv_sub hl [1, 0] rfl
        refine lv_aload_n C.1 C.2.1 dX12_partA_61 rfl (lv_at hl 0 rfl) ?_
        refine lv_aload_n C.1 C.2.1 dX12_partA_62 rfl (lv_at hl 0 rfl) ?_
        refine k_get (v := .int (t.1 0 68)) C hP 0 rfl rfl inlX12 68 (by decide) m_31_6 rfl dX12_partA_63 ?_
        refine lv_iload_n C.1 C.2.1 dX12_partA_66 rfl (lv_at hl 1 rfl) ?_
        refine g_Vi (As := [.int (t.1 0 68), .int r_108]) (rest := []) C hP hD hS hA (T_X12_localKind l D K Z Y ad t hok ((t.1 0 68)) (show (1 : Int) ≤ ((t.1 0 68) : Int32).toInt ∧ ((t.1 0 68) : Int32).toInt ≤ 81 from ⟨by omega, by omega⟩) (r_108) (show (0 : Int) ≤ (r_108 : Int32).toInt ∧ (r_108 : Int32).toInt ≤ 81 from ⟨by omega, by omega⟩)) hE hZ (uwV m_32_18 m_32_19 m_32_20 m_1_5 m_32_21) (hdV 2 (by decide +kernel) rfl) ⟨Nat.le_of_ble_eq_true rfl, Nat.le_of_ble_eq_true rfl⟩ rfl rfl (ci := 11) (q0 := 0) rfl rfl rfl hl.1 (Nat.le_of_ble_eq_true rfl) dX12_partA_67 ⟨Nat.le_of_ble_eq_true rfl, Nat.le_of_ble_eq_true rfl⟩ (fun r_115 t_114 H locs hw hP hD hS => ?_)
        obtain ⟨h_117, h_118, p_119⟩ := hw
        replace p_119 : ¬ r_115.toInt = 0 → 48 ≤ (fLet t (t.1 0 68)).toInt ∧ (fLet t (t.1 0 68)).toInt ≤ 57 := p_119
        refine lv_if_eq (tgt := 77) C.1 C.2.1 dX12_partA_70 (by decide) (fun c_120 => ?_) (fun c_120 => ?_)
        · replace c_120 : r_115.toInt = 0 := i_eq c_120
          refine lv_iconst (v := 0) C.1 C.2.1 dX12_partA_77 (by decide) ?_
          refine lv_istore_n (lv' := [(2, .int 0), (0, .ref (ad 0)), (1, .int r_108)]) C.1 C.2.1 dX12_partA_78 rfl hl (by decide) rfl (fun ls hl => ?_)
          have hl : lv_has ls 3 [(0, .ref (ad 0)), (1, .int r_108), (2, .int 0)] := lv_sub hl [1, 2, 0] rfl
          refine lv_aload_n C.1 C.2.1 dX12_partA_79 rfl (lv_at hl 0 rfl) ?_
          refine lv_iload_n C.1 C.2.1 dX12_partA_80 rfl (lv_at hl 2 rfl) ?_
          refine lv_if_eq (tgt := 88) C.1 C.2.1 dX12_partA_81 (by decide) (fun _ => ?_) (fun h => absurd (by decide) h)
          refine lv_iconst (v := 0) C.1 C.2.1 dX12_partA_88 (by decide) ?_
          refine k_put (ws' := WM K ad (uI t 0 71 0)) (v := .int 0) C hP hD hS 0 rfl rfl inlX12 tyX12_ok nmX12 71 (by decide) m_34_6 rfl rfl rfl rfl rfl dX12_partA_89 (fun H locs hP hD hS => ?_)
          have hok : okM (uI t 0 71 0) := ⟨okI_I hok.1 0 71 0 (show (-1 : Int) ≤ (0 : Int32).toInt ∧ (0 : Int32).toInt ≤ 2 from ⟨by decide, by decide⟩), hok.2.1, hok.2.2.1, hok.2.2.2.1, hok.2.2.2.2.1, hok.2.2.2.2.2.1, hok.2.2.2.2.2.2.1, trivial⟩
          have hfr : frA [(0, 52), (0, 68), (0, 70), (0, 71), (0, 72), (0, 73)] [] [25, 26, 27] [23] t (uI t 0 71 0) := frA_I hfr 0 71 _ rfl
          refine lv_aload_n C.1 C.2.1 dX12_partA_92 rfl (lv_at hl 0 rfl) ?_
          refine lv_iload_n C.1 C.2.1 dX12_partA_93 rfl (lv_at hl 2 rfl) ?_
          refine lv_if_eq (tgt := 111) C.1 C.2.1 dX12_partA_94 (by decide) (fun _ => ?_) (fun h => absurd (by decide) h)
          refine lv_aload_n C.1 C.2.1 dX12_partA_111 rfl (lv_at hl 0 rfl) ?_
          refine lv_aload_n C.1 C.2.1 dX12_partA_112 rfl (lv_at hl 0 rfl) ?_
          refine lv_aload_n C.1 C.2.1 dX12_partA_113 rfl (lv_at hl 0 rfl) ?_
          refine k_get (v := .int (t.1 0 68)) C hP 0 rfl rfl inlX12 68 (by decide) m_31_6 rfl dX12_partA_114 ?_
          refine lv_iload_n C.1 C.2.1 dX12_partA_117 rfl (lv_at hl 1 rfl) ?_
          refine g_Vl (As := [.int (t.1 0 68), .int r_108]) (rest := [.ref (ad 0), .ref (ad 0)]) C hP hD hS hA (T_X12_keyOf l D K Z Y ad (uI t 0 71 0) hok ((t.1 0 68)) (show (1 : Int) ≤ ((t.1 0 68) : Int32).toInt ∧ ((t.1 0 68) : Int32).toInt ≤ 81 from ⟨by omega, by omega⟩) (r_108) (show (0 : Int) ≤ (r_108 : Int32).toInt ∧ (r_108 : Int32).toInt ≤ 81 from ⟨by omega, by omega⟩)) hE hZ (uwV m_33_14 m_33_15 m_33_16 m_1_5 m_33_17) (hdV 2 (by decide +kernel) rfl) ⟨Nat.le_of_ble_eq_true rfl, Nat.le_of_ble_eq_true rfl⟩ rfl rfl (ci := 11) (q0 := 0) rfl rfl rfl hl.1 (Nat.le_of_ble_eq_true rfl) dX12_partA_118 ⟨Nat.le_of_ble_eq_true rfl, Nat.le_of_ble_eq_true rfl⟩ (fun r_122 t_121 H locs hw hP hD hS => ?_)
          refine g_Vi (As := [.long r_122]) (rest := [.ref (ad 0)]) C hP hD hS hA (T_X12_symbolOf l D K Z Y ad (uI t 0 71 0) hok (r_122) (show (t.1 0 52).toInt ≤ 1199 from by omega)) hE hZ (uwV m_37_14 m_37_15 m_37_16 m_1_5 m_37_17) (hdV 1 (by decide +kernel) rfl) ⟨Nat.le_of_ble_eq_true rfl, Nat.le_of_ble_eq_true rfl⟩ rfl rfl (ci := 11) (q0 := 0) rfl rfl rfl hl.1 (Nat.le_of_ble_eq_true rfl) dX12_partA_121 ⟨Nat.le_of_ble_eq_true rfl, Nat.le_of_ble_eq_true rfl⟩ (fun r_125 t_124 H locs hw hP hD hS => ?_)
          obtain ⟨hok, f_126, h_127, h_128, p_129, p_130, p_131⟩ := hw
          have hfr : frA [(0, 52), (0, 68), (0, 70), (0, 71), (0, 72), (0, 73)] [] [25, 26, 27] [23] t t_124 := frA_tr hfr f_126 rfl
          have h_132 : (t_124.1 0 68).toInt = (t.1 0 68).toInt := ti_eq (f_126.1 0 68 rfl)
          have h_133 : (t_124.1 0 71).toInt = 0 := by rw [show (t_124.1 0 71) = (0 : Int32) from f_126.1 0 71 rfl]; rfl
          have h_134 : (t_124.1 0 67).toInt = (t.1 0 67).toInt := ti_eq (f_126.1 0 67 rfl)
          have h_135 : (t_124.1 0 69).toInt = (t.1 0 69).toInt := ti_eq (f_126.1 0 69 rfl)
          have h_136 : (t_124.1 0 70).toInt = (t.1 0 70).toInt := ti_eq (f_126.1 0 70 rfl)
          have e_137 : t_124.2.2.1 19 = t.2.2.1 19 := f_126.2.2.1 19 rfl
          have e_138 : t_124.2.2.1 20 = t.2.2.1 20 := f_126.2.2.1 20 rfl
          have h_139 : (0 : Int) ≤ (t_124.1 0 52).toInt ∧ (t_124.1 0 52).toInt ≤ 1200 := hok.1 0 52
          have h_140 : (0 : Int) ≤ (t_124.1 0 67).toInt ∧ (t_124.1 0 67).toInt ≤ 1281 := hok.1 0 67
          have h_141 : (0 : Int) ≤ (t_124.1 0 69).toInt ∧ (t_124.1 0 69).toInt ≤ 81 := hok.1 0 69
          have h_142 : (0 : Int) ≤ (t_124.1 0 70).toInt ∧ (t_124.1 0 70).toInt ≤ 8 := hok.1 0 70
          replace p_129 : (t.1 0 52).toInt ≤ (t_124.1 0 52).toInt := p_129
          replace p_130 : (t_124.1 0 52).toInt ≤ (t.1 0 52).toInt + 1 := p_130
          replace p_131 : r_125.toInt < (t_124.1 0 52).toInt := p_131
          refine k_put (ws' := WM K ad (uI t_124 0 72 r_125)) (v := .int r_125) C hP hD hS 0 rfl rfl inlX12 tyX12_ok nmX12 72 (by decide) m_39_12 rfl rfl rfl rfl rfl dX12_partA_124 (fun H locs hP hD hS => ?_)
          have hok : okM (uI t_124 0 72 r_125) := ⟨okI_I hok.1 0 72 r_125 (show (0 : Int) ≤ (r_125 : Int32).toInt ∧ (r_125 : Int32).toInt ≤ 1199 from ⟨by omega, by omega⟩), hok.2.1, hok.2.2.1, hok.2.2.2.1, hok.2.2.2.2.1, hok.2.2.2.2.2.1, hok.2.2.2.2.2.2.1, trivial⟩
          have hfr : frA [(0, 52), (0, 68), (0, 70), (0, 71), (0, 72), (0, 73)] [] [25, 26, 27] [23] t (uI t_124 0 72 r_125) := frA_I hfr 0 72 _ rfl
          refine lv_iload_n C.1 C.2.1 dX12_partA_127 rfl (lv_at hl 2 rfl) ?_
          refine lv_if_ne (tgt := 139) C.1 C.2.1 dX12_partA_128 (by decide) (fun h => absurd h (by decide)) (fun _ => ?_)
          refine lv_aload_n C.1 C.2.1 dX12_partA_131 rfl (lv_at hl 0 rfl) ?_
          refine lv_aload_n C.1 C.2.1 dX12_partA_132 rfl (lv_at hl 0 rfl) ?_
          refine k_get (v := .int r_125) C hP 0 rfl rfl inlX12 72 (by decide) m_39_12 rfl dX12_partA_133 ?_
          refine g_Vv (As := [.int r_125]) (rest := []) C hP hD hS hA (T_X12_use l D K Z Y ad (uI t_124 0 72 r_125) hok (r_125) (show (0 : Int) ≤ (r_125 : Int32).toInt ∧ (r_125 : Int32).toInt ≤ 1199 from ⟨by omega, by omega⟩)) hE hZ (uwV m_35_19 m_35_20 m_35_21 m_1_5 m_35_22) (hdV 1 (by decide +kernel) rfl) ⟨Nat.le_of_ble_eq_true rfl, Nat.le_of_ble_eq_true rfl⟩ rfl rfl (ci := 11) (q0 := 0) rfl rfl rfl hl.1 (Nat.le_of_ble_eq_true rfl) dX12_partA_136 ⟨Nat.le_of_ble_eq_true rfl, Nat.le_of_ble_eq_true rfl⟩ (fun t_143 H locs hw hP hD hS => ?_)
          obtain ⟨hok, f_145⟩ := hw
          have hfr : frA [(0, 52), (0, 68), (0, 70), (0, 71), (0, 72), (0, 73)] [] [25, 26, 27] [23] t t_143 := frA_tr hfr f_145 rfl
          have h_146 : (t_143.1 0 68).toInt = (t_124.1 0 68).toInt := ti_eq (f_145.1 0 68 rfl)
          have h_147 : (t_143.1 0 71).toInt = (t_124.1 0 71).toInt := ti_eq (f_145.1 0 71 rfl)
          have h_148 : (t_143.1 0 72).toInt = r_125.toInt := ti_eq (f_145.1 0 72 rfl)
          have h_149 : (t_143.1 0 52).toInt = (t_124.1 0 52).toInt := ti_eq (f_145.1 0 52 rfl)
          have h_150 : (t_143.1 0 67).toInt = (t_124.1 0 67).toInt := ti_eq (f_145.1 0 67 rfl)
          have h_151 : (t_143.1 0 69).toInt = (t_124.1 0 69).toInt := ti_eq (f_145.1 0 69 rfl)
          have h_152 : (t_143.1 0 70).toInt = (t_124.1 0 70).toInt := ti_eq (f_145.1 0 70 rfl)
          have e_153 : t_143.2.2.1 19 = t.2.2.1 19 := (f_145.2.2.1 19 rfl).trans (e_137)
          have e_154 : t_143.2.2.1 20 = t.2.2.1 20 := (f_145.2.2.1 20 rfl).trans (e_138)
          have h_155 : (0 : Int) ≤ (t_143.1 0 52).toInt ∧ (t_143.1 0 52).toInt ≤ 1200 := hok.1 0 52
          have h_156 : (0 : Int) ≤ (t_143.1 0 67).toInt ∧ (t_143.1 0 67).toInt ≤ 1281 := hok.1 0 67
          have h_157 : (0 : Int) ≤ (t_143.1 0 69).toInt ∧ (t_143.1 0 69).toInt ≤ 81 := hok.1 0 69
          have h_158 : (0 : Int) ≤ (t_143.1 0 70).toInt ∧ (t_143.1 0 70).toInt ≤ 8 := hok.1 0 70
          refine lv_aload_n C.1 C.2.1 dX12_partA_139 rfl (lv_at hl 0 rfl) ?_
          refine lv_iload_n C.1 C.2.1 dX12_partA_140 rfl (lv_at hl 1 rfl) ?_
          refine k_put (ws' := WM K ad (uI t_143 0 68 r_108)) (v := .int r_108) C hP hD hS 0 rfl rfl inlX12 tyX12_ok nmX12 68 (by decide) m_31_6 rfl rfl rfl rfl rfl dX12_partA_141 (fun H locs hP hD hS => ?_)
          have hok : okM (uI t_143 0 68 r_108) := ⟨okI_I hok.1 0 68 r_108 (show (0 : Int) ≤ (r_108 : Int32).toInt ∧ (r_108 : Int32).toInt ≤ 81 from ⟨by omega, by omega⟩), hok.2.1, hok.2.2.1, hok.2.2.2.1, hok.2.2.2.2.1, hok.2.2.2.2.2.1, hok.2.2.2.2.2.2.1, trivial⟩
          have hfr : frA [(0, 52), (0, 68), (0, 70), (0, 71), (0, 72), (0, 73)] [] [25, 26, 27] [23] t (uI t_143 0 68 r_108) := frA_I hfr 0 68 _ rfl
          refine lv_iconst (v := 0) C.1 C.2.1 dX12_partA_144 (by decide) ?_
          exact g_iret C hr hlocks hP hD hS rfl (uI t_143 0 68 r_108) rfl ⟨hok, hfr, by decide, by decide, (show (t.1 0 68).toInt ≤ r_108.toInt from by omega), (show r_108.toInt ≤ (t.1 0 69).toInt ∨ r_108.toInt = (t.1 0 68).toInt from by omega), (show (t_143.1 0 71).toInt = (t.1 0 71).toInt ∨ (t.1 0 68).toInt < (t.1 0 69).toInt from by omega), (show (t.1 0 52).toInt ≤ (t_143.1 0 52).toInt from by omega), (show (t_143.1 0 52).toInt = (t.1 0 52).toInt ∨ ((t_143.1 0 52).toInt = (t.1 0 52).toInt + 1 ∧ (t.1 0 68).toInt < (t.1 0 69).toInt) from by omega), (show (t_143.1 0 70).toInt = 0 → (t.1 0 70).toInt = 0 from by omega)⟩ (Nat.le_of_ble_eq_true rfl) (Nat.le_of_ble_eq_true rfl) dX12_partA_145
        · replace c_120 : ¬ r_115.toInt = 0 := i_ne c_120
          refine lv_iconst (v := 1) C.1 C.2.1 dX12_partA_73 (by decide) ?_
          refine lv_goto (tgt := 78) C.1 C.2.1 dX12_partA_74 (by decide) ?_
          refine lv_istore_n (lv' := [(2, .int 1), (0, .ref (ad 0)), (1, .int r_108)]) C.1 C.2.1 dX12_partA_78 rfl hl (by decide) rfl (fun ls hl => ?_)
          have hl : lv_has ls 3 [(0, .ref (ad 0)), (1, .int r_108), (2, .int 1)] := lv_sub hl [1, 2, 0] rfl
          refine lv_aload_n C.1 C.2.1 dX12_partA_79 rfl (lv_at hl 0 rfl) ?_
          refine lv_iload_n C.1 C.2.1 dX12_partA_80 rfl (lv_at hl 2 rfl) ?_
          refine lv_if_eq (tgt := 88) C.1 C.2.1 dX12_partA_81 (by decide) (fun h => absurd h (by decide)) (fun _ => ?_)
          refine lv_iconst (v := 1) C.1 C.2.1 dX12_partA_84 (by decide) ?_
          refine lv_goto (tgt := 89) C.1 C.2.1 dX12_partA_85 (by decide) ?_
          refine k_put (ws' := WM K ad (uI t 0 71 1)) (v := .int 1) C hP hD hS 0 rfl rfl inlX12 tyX12_ok nmX12 71 (by decide) m_34_6 rfl rfl rfl rfl rfl dX12_partA_89 (fun H locs hP hD hS => ?_)
          have hok : okM (uI t 0 71 1) := ⟨okI_I hok.1 0 71 1 (show (-1 : Int) ≤ (1 : Int32).toInt ∧ (1 : Int32).toInt ≤ 2 from ⟨by decide, by decide⟩), hok.2.1, hok.2.2.1, hok.2.2.2.1, hok.2.2.2.2.1, hok.2.2.2.2.2.1, hok.2.2.2.2.2.2.1, trivial⟩
          have hfr : frA [(0, 52), (0, 68), (0, 70), (0, 71), (0, 72), (0, 73)] [] [25, 26, 27] [23] t (uI t 0 71 1) := frA_I hfr 0 71 _ rfl
          refine lv_aload_n C.1 C.2.1 dX12_partA_92 rfl (lv_at hl 0 rfl) ?_
          refine lv_iload_n C.1 C.2.1 dX12_partA_93 rfl (lv_at hl 2 rfl) ?_
          refine lv_if_eq (tgt := 111) C.1 C.2.1 dX12_partA_94 (by decide) (fun h => absurd h (by decide)) (fun _ => ?_)
          refine lv_aload_n C.1 C.2.1 dX12_partA_97 rfl (lv_at hl 0 rfl) ?_
          refine lv_aload_n C.1 C.2.1 dX12_partA_98 rfl (lv_at hl 0 rfl) ?_
          refine k_get (v := .int (t.1 0 68)) C hP 0 rfl rfl inlX12 68 (by decide) m_31_6 rfl dX12_partA_99 ?_
          refine g_Vi (As := [.int (t.1 0 68)]) (rest := [.ref (ad 0)]) C hP hD hS hA (T_X12_letterAt l D K Z Y ad (uI t 0 71 1) hok ((t.1 0 68)) (show (1 : Int) ≤ ((t.1 0 68) : Int32).toInt ∧ ((t.1 0 68) : Int32).toInt ≤ 100 from ⟨by omega, by omega⟩)) hE hZ (uwV m_31_8 m_31_9 m_31_10 m_1_5 m_31_11) (hdV 1 (by decide +kernel) rfl) ⟨Nat.le_of_ble_eq_true rfl, Nat.le_of_ble_eq_true rfl⟩ rfl rfl (ci := 11) (q0 := 0) rfl rfl rfl hl.1 (Nat.le_of_ble_eq_true rfl) dX12_partA_102 ⟨Nat.le_of_ble_eq_true rfl, Nat.le_of_ble_eq_true rfl⟩ (fun r_160 t_159 H locs hw hP hD hS => ?_)
          obtain ⟨h_162, h_163, p_164, p_165, p_166, p_167⟩ := hw
          replace p_164 : r_160 = fLet t (t.1 0 68) := p_164
          replace p_165 : r_160.toInt = (fLet t (t.1 0 68)).toInt := p_165
          replace p_166 : ¬ r_160.toInt = 32 → (t.2.2.1 19 ((t.1 0 67) : Int32).toNatClampNeg).toInt + (t.1 0 68).toInt ≤ (t.2.2.1 20 ((t.1 0 67) : Int32).toNatClampNeg).toInt := p_166
          replace p_167 : 81 ≤ (t.1 0 68).toInt → r_160.toInt = 32 := p_167
          refine lv_bipush (v := 48) C.1 C.2.1 dX12_partA_105 (by decide) ?_
          obtain ⟨v_168, e_169⟩ : ∃ z, z = (r_160 : Int32) - (48 : Int32) := ⟨_, rfl⟩
          have h_170 : v_168.toInt = r_160.toInt - 48 := by rw [e_169]; exact ti_isub (by show (_ : Int) ≤ r_160.toInt - 48; omega) (by show r_160.toInt - 48 < (_ : Int); omega)
          refine k_isub (v := v_168) C e_169.symm dX12_partA_107 ?_
          refine lv_goto (tgt := 124) C.1 C.2.1 dX12_partA_108 (by decide) ?_
          refine k_put (ws' := WM K ad (uI (uI t 0 71 1) 0 72 v_168)) (v := .int v_168) C hP hD hS 0 rfl rfl inlX12 tyX12_ok nmX12 72 (by decide) m_39_12 rfl rfl rfl rfl rfl dX12_partA_124 (fun H locs hP hD hS => ?_)
          have hok : okM (uI (uI t 0 71 1) 0 72 v_168) := ⟨okI_I hok.1 0 72 v_168 (show (0 : Int) ≤ (v_168 : Int32).toInt ∧ (v_168 : Int32).toInt ≤ 1199 from ⟨by omega, by omega⟩), hok.2.1, hok.2.2.1, hok.2.2.2.1, hok.2.2.2.2.1, hok.2.2.2.2.2.1, hok.2.2.2.2.2.2.1, trivial⟩
          have hfr : frA [(0, 52), (0, 68), (0, 70), (0, 71), (0, 72), (0, 73)] [] [25, 26, 27] [23] t (uI (uI t 0 71 1) 0 72 v_168) := frA_I hfr 0 72 _ rfl
          refine lv_iload_n C.1 C.2.1 dX12_partA_127 rfl (lv_at hl 2 rfl) ?_
          refine lv_if_ne (tgt := 139) C.1 C.2.1 dX12_partA_128 (by decide) (fun _ => ?_) (fun h => absurd h (by decide))
          refine lv_aload_n C.1 C.2.1 dX12_partA_139 rfl (lv_at hl 0 rfl) ?_
          refine lv_iload_n C.1 C.2.1 dX12_partA_140 rfl (lv_at hl 1 rfl) ?_
          refine k_put (ws' := WM K ad (uI (uI (uI t 0 71 1) 0 72 v_168) 0 68 r_108)) (v := .int r_108) C hP hD hS 0 rfl rfl inlX12 tyX12_ok nmX12 68 (by decide) m_31_6 rfl rfl rfl rfl rfl dX12_partA_141 (fun H locs hP hD hS => ?_)
          have hok : okM (uI (uI (uI t 0 71 1) 0 72 v_168) 0 68 r_108) := ⟨okI_I hok.1 0 68 r_108 (show (0 : Int) ≤ (r_108 : Int32).toInt ∧ (r_108 : Int32).toInt ≤ 81 from ⟨by omega, by omega⟩), hok.2.1, hok.2.2.1, hok.2.2.2.1, hok.2.2.2.2.1, hok.2.2.2.2.2.1, hok.2.2.2.2.2.2.1, trivial⟩
          have hfr : frA [(0, 52), (0, 68), (0, 70), (0, 71), (0, 72), (0, 73)] [] [25, 26, 27] [23] t (uI (uI (uI t 0 71 1) 0 72 v_168) 0 68 r_108) := frA_I hfr 0 68 _ rfl
          refine lv_iconst (v := 0) C.1 C.2.1 dX12_partA_144 (by decide) ?_
          exact g_iret C hr hlocks hP hD hS rfl (uI (uI (uI t 0 71 1) 0 72 v_168) 0 68 r_108) rfl ⟨hok, hfr, by decide, by decide, (show (t.1 0 68).toInt ≤ r_108.toInt from by omega), (show r_108.toInt ≤ (t.1 0 69).toInt ∨ r_108.toInt = (t.1 0 68).toInt from by omega), (show 1 = (t.1 0 71).toInt ∨ (t.1 0 68).toInt < (t.1 0 69).toInt from by omega), (show (t.1 0 52).toInt ≤ (t.1 0 52).toInt from by omega), (show (t.1 0 52).toInt = (t.1 0 52).toInt ∨ ((t.1 0 52).toInt = (t.1 0 52).toInt + 1 ∧ (t.1 0 68).toInt < (t.1 0 69).toInt) from by omega), (show (t.1 0 70).toInt = 0 → (t.1 0 70).toInt = 0 from by omega)⟩ (Nat.le_of_ble_eq_true rfl) (Nat.le_of_ble_eq_true rfl) dX12_partA_145
    · replace c_19 : r_14.toInt = 61 := i_eq c_19
      refine lv_aload_n C.1 C.2.1 dX12_partA_18 rfl (lv_at hl 0 rfl) ?_
      refine lv_dup C.1 C.2.1 dX12_partA_19 rfl ?_
      refine k_get (v := .int (t.1 0 68)) C hP 0 rfl rfl inlX12 68 (by decide) m_31_6 rfl dX12_partA_20 ?_
      refine lv_iconst (v := 1) C.1 C.2.1 dX12_partA_23 (by decide) ?_
      obtain ⟨v_171, e_172⟩ : ∃ z, z = ((t.1 0 68) : Int32) + (1 : Int32) := ⟨_, rfl⟩
      have h_173 : v_171.toInt = (t.1 0 68).toInt + 1 := by rw [e_172]; exact ti_iadd (by show (_ : Int) ≤ (t.1 0 68).toInt + 1; omega) (by show (t.1 0 68).toInt + 1 < (_ : Int); omega)
      refine k_iadd (v := v_171) C e_172.symm dX12_partA_24 ?_
      refine k_put (ws' := WM K ad (uI t 0 68 v_171)) (v := .int v_171) C hP hD hS 0 rfl rfl inlX12 tyX12_ok nmX12 68 (by decide) m_31_6 rfl rfl rfl rfl rfl dX12_partA_25 (fun H locs hP hD hS => ?_)
      have hok : okM (uI t 0 68 v_171) := ⟨okI_I hok.1 0 68 v_171 (show (0 : Int) ≤ (v_171 : Int32).toInt ∧ (v_171 : Int32).toInt ≤ 81 from ⟨by omega, by omega⟩), hok.2.1, hok.2.2.1, hok.2.2.2.1, hok.2.2.2.2.1, hok.2.2.2.2.2.1, hok.2.2.2.2.2.2.1, trivial⟩
      have hfr : frA [(0, 52), (0, 68), (0, 70), (0, 71), (0, 72), (0, 73)] [] [25, 26, 27] [23] t (uI t 0 68 v_171) := frA_I hfr 0 68 _ rfl
      refine lv_aload_n C.1 C.2.1 dX12_partA_28 rfl (lv_at hl 0 rfl) ?_
      refine lv_aload_n C.1 C.2.1 dX12_partA_29 rfl (lv_at hl 0 rfl) ?_
      refine g_Vi (As := []) (rest := [.ref (ad 0)]) C hP hD hS hA (T_X12_wValue l D K Z Y ad (uI t 0 68 v_171) hok (show 1 ≤ v_171.toInt from by omega)) hE hZ (uwV m_34_11 m_34_12 m_34_13 m_1_5 m_34_14) (hdV 0 (by decide +kernel) rfl) ⟨Nat.le_of_ble_eq_true rfl, Nat.le_of_ble_eq_true rfl⟩ rfl rfl (ci := 11) (q0 := 0) rfl rfl rfl hl.1 (Nat.le_of_ble_eq_true rfl) dX12_partA_30 ⟨Nat.le_of_ble_eq_true rfl, Nat.le_of_ble_eq_true rfl⟩ (fun r_175 t_174 H locs hw hP hD hS => ?_)
      obtain ⟨hok, f_176, h_177, h_178, p_179, p_180, p_181, p_182⟩ := hw
      have hfr : frA [(0, 52), (0, 68), (0, 70), (0, 71), (0, 72), (0, 73)] [] [25, 26, 27] [23] t t_174 := frA_tr hfr f_176 rfl
      have h_183 : (t_174.1 0 52).toInt = (t.1 0 52).toInt := ti_eq (f_176.1 0 52 rfl)
      have h_184 : (t_174.1 0 67).toInt = (t.1 0 67).toInt := ti_eq (f_176.1 0 67 rfl)
      have h_185 : (t_174.1 0 69).toInt = (t.1 0 69).toInt := ti_eq (f_176.1 0 69 rfl)
      have h_186 : (t_174.1 0 71).toInt = (t.1 0 71).toInt := ti_eq (f_176.1 0 71 rfl)
      have e_187 : t_174.2.2.1 19 = t.2.2.1 19 := f_176.2.2.1 19 rfl
      have e_188 : t_174.2.2.1 20 = t.2.2.1 20 := f_176.2.2.1 20 rfl
      have h_189 : (0 : Int) ≤ (t_174.1 0 52).toInt ∧ (t_174.1 0 52).toInt ≤ 1200 := hok.1 0 52
      have h_190 : (0 : Int) ≤ (t_174.1 0 67).toInt ∧ (t_174.1 0 67).toInt ≤ 1281 := hok.1 0 67
      have h_191 : (0 : Int) ≤ (t_174.1 0 68).toInt ∧ (t_174.1 0 68).toInt ≤ 81 := hok.1 0 68
      have h_192 : (0 : Int) ≤ (t_174.1 0 69).toInt ∧ (t_174.1 0 69).toInt ≤ 81 := hok.1 0 69
      have h_193 : (0 : Int) ≤ (t_174.1 0 70).toInt ∧ (t_174.1 0 70).toInt ≤ 8 := hok.1 0 70
      have h_194 : (-1 : Int) ≤ (t_174.1 0 71).toInt ∧ (t_174.1 0 71).toInt ≤ 2 := hok.1 0 71
      replace p_179 : v_171.toInt ≤ (t_174.1 0 68).toInt := p_179
      replace p_180 : (t_174.1 0 68).toInt ≤ (t.1 0 69).toInt ∨ (t_174.1 0 68).toInt = v_171.toInt := p_180
      replace p_181 : 1 ≤ (t_174.1 0 70).toInt ∨ v_171.toInt < (t_174.1 0 68).toInt := p_181
      replace p_182 : (t_174.1 0 70).toInt = 0 → (t.1 0 70).toInt = 0 := p_182
      refine k_put (ws' := WM K ad (uI t_174 0 73 r_175)) (v := .int r_175) C hP hD hS 0 rfl rfl inlX12 tyX12_ok nmX12 73 (by decide) m_39_11 rfl rfl rfl rfl rfl dX12_partA_33 (fun H locs hP hD hS => ?_)
      have hok : okM (uI t_174 0 73 r_175) := ⟨okI_I hok.1 0 73 r_175 (show (-2147483648 : Int) ≤ (r_175 : Int32).toInt ∧ (r_175 : Int32).toInt ≤ 2147483647 from (i_rng _)), hok.2.1, hok.2.2.1, hok.2.2.2.1, hok.2.2.2.2.1, hok.2.2.2.2.2.1, hok.2.2.2.2.2.2.1, trivial⟩
      have hfr : frA [(0, 52), (0, 68), (0, 70), (0, 71), (0, 72), (0, 73)] [] [25, 26, 27] [23] t (uI t_174 0 73 r_175) := frA_I hfr 0 73 _ rfl
      refine lv_aload_n C.1 C.2.1 dX12_partA_36 rfl (lv_at hl 0 rfl) ?_
      refine lv_bipush (v := 61) C.1 C.2.1 dX12_partA_37 (by decide) ?_
      have h_195 : (61 : Int32).toInt = 61 := rfl
      refine g_Vv (As := [.int 61]) (rest := []) C hP hD hS hA (T_X12_must l D K Z Y ad (uI t_174 0 73 r_175) hok 61 (show (32 : Int) ≤ (61 : Int32).toInt ∧ (61 : Int32).toInt ≤ 61 from ⟨by decide, by decide⟩) (show 1 ≤ (t_174.1 0 68).toInt from by omega) (show 0 ≤ (61 : Int32).toInt from by omega)) hE hZ (uwV m_37_3 m_37_4 m_37_5 m_1_5 m_37_6) (hdV 1 (by decide +kernel) rfl) ⟨Nat.le_of_ble_eq_true rfl, Nat.le_of_ble_eq_true rfl⟩ rfl rfl (ci := 11) (q0 := 0) rfl rfl rfl hl.1 (Nat.le_of_ble_eq_true rfl) dX12_partA_39 ⟨Nat.le_of_ble_eq_true rfl, Nat.le_of_ble_eq_true rfl⟩ (fun t_196 H locs hw hP hD hS => ?_)
      obtain ⟨hok, f_198, p_199, p_200, p_201⟩ := hw
      have hfr : frA [(0, 52), (0, 68), (0, 70), (0, 71), (0, 72), (0, 73)] [] [25, 26, 27] [23] t t_196 := frA_tr hfr f_198 rfl
      have h_202 : (t_196.1 0 73).toInt = r_175.toInt := ti_eq (f_198.1 0 73 rfl)
      have h_203 : (t_196.1 0 52).toInt = (t_174.1 0 52).toInt := ti_eq (f_198.1 0 52 rfl)
      have h_204 : (t_196.1 0 67).toInt = (t_174.1 0 67).toInt := ti_eq (f_198.1 0 67 rfl)
      have h_205 : (t_196.1 0 69).toInt = (t_174.1 0 69).toInt := ti_eq (f_198.1 0 69 rfl)
      have h_206 : (t_196.1 0 71).toInt = (t_174.1 0 71).toInt := ti_eq (f_198.1 0 71 rfl)
      have e_207 : t_196.2.2.1 19 = t.2.2.1 19 := (f_198.2.2.1 19 rfl).trans (e_187)
      have e_208 : t_196.2.2.1 20 = t.2.2.1 20 := (f_198.2.2.1 20 rfl).trans (e_188)
      have h_209 : (0 : Int) ≤ (t_196.1 0 52).toInt ∧ (t_196.1 0 52).toInt ≤ 1200 := hok.1 0 52
      have h_210 : (0 : Int) ≤ (t_196.1 0 67).toInt ∧ (t_196.1 0 67).toInt ≤ 1281 := hok.1 0 67
      have h_211 : (0 : Int) ≤ (t_196.1 0 68).toInt ∧ (t_196.1 0 68).toInt ≤ 81 := hok.1 0 68
      have h_212 : (0 : Int) ≤ (t_196.1 0 69).toInt ∧ (t_196.1 0 69).toInt ≤ 81 := hok.1 0 69
      have h_213 : (0 : Int) ≤ (t_196.1 0 70).toInt ∧ (t_196.1 0 70).toInt ≤ 8 := hok.1 0 70
      have h_214 : (-1 : Int) ≤ (t_196.1 0 71).toInt ∧ (t_196.1 0 71).toInt ≤ 2 := hok.1 0 71
      replace p_199 : (t_174.1 0 68).toInt ≤ (t_196.1 0 68).toInt := p_199
      replace p_200 : (t_196.1 0 68).toInt ≤ (t_174.1 0 69).toInt ∨ (t_196.1 0 68).toInt = (t_174.1 0 68).toInt := p_200
      replace p_201 : (t_196.1 0 70).toInt = 0 → (t_174.1 0 70).toInt = 0 := p_201
      refine lv_aload_n C.1 C.2.1 dX12_partA_42 rfl (lv_at hl 0 rfl) ?_
      refine lv_iconst (v := 2) C.1 C.2.1 dX12_partA_43 (by decide) ?_
      refine k_put (ws' := WM K ad (uI t_196 0 71 2)) (v := .int 2) C hP hD hS 0 rfl rfl inlX12 tyX12_ok nmX12 71 (by decide) m_34_6 rfl rfl rfl rfl rfl dX12_partA_44 (fun H locs hP hD hS => ?_)
      have hok : okM (uI t_196 0 71 2) := ⟨okI_I hok.1 0 71 2 (show (-1 : Int) ≤ (2 : Int32).toInt ∧ (2 : Int32).toInt ≤ 2 from ⟨by decide, by decide⟩), hok.2.1, hok.2.2.1, hok.2.2.2.1, hok.2.2.2.2.1, hok.2.2.2.2.2.1, hok.2.2.2.2.2.2.1, trivial⟩
      have hfr : frA [(0, 52), (0, 68), (0, 70), (0, 71), (0, 72), (0, 73)] [] [25, 26, 27] [23] t (uI t_196 0 71 2) := frA_I hfr 0 71 _ rfl
      refine lv_iconst (v := 0) C.1 C.2.1 dX12_partA_47 (by decide) ?_
      exact g_iret C hr hlocks hP hD hS rfl (uI t_196 0 71 2) rfl ⟨hok, hfr, by decide, by decide, (show (t.1 0 68).toInt ≤ (t_196.1 0 68).toInt from by omega), (show (t_196.1 0 68).toInt ≤ (t.1 0 69).toInt ∨ (t_196.1 0 68).toInt = (t.1 0 68).toInt from by omega), (show 2 = (t.1 0 71).toInt ∨ (t.1 0 68).toInt < (t.1 0 69).toInt from by omega), (show (t.1 0 52).toInt ≤ (t_196.1 0 52).toInt from by omega), (show (t_196.1 0 52).toInt = (t.1 0 52).toInt ∨ ((t_196.1 0 52).toInt = (t.1 0 52).toInt + 1 ∧ (t.1 0 68).toInt < (t.1 0 69).toInt) from by omega), (show (t_196.1 0 70).toInt = 0 → (t.1 0 70).toInt = 0 from by omega)⟩ (Nat.le_of_ble_eq_true rfl) (Nat.le_of_ble_eq_true rfl) dX12_partA_48
  · replace c_12 : ¬ r_8.toInt = 0 := i_ne c_12
    refine lv_iconst (v := 0) C.1 C.2.1 dX12_partA_7 (by decide) ?_
    exact g_iret C hr hlocks hP hD hS rfl t rfl ⟨hok, hfr, by decide, by decide, (show (t.1 0 68).toInt ≤ (t.1 0 68).toInt from by omega), (show (t.1 0 68).toInt ≤ (t.1 0 69).toInt ∨ (t.1 0 68).toInt = (t.1 0 68).toInt from by omega), (show (t.1 0 71).toInt = (t.1 0 71).toInt ∨ (t.1 0 68).toInt < (t.1 0 69).toInt from by omega), (show (t.1 0 52).toInt ≤ (t.1 0 52).toInt from by omega), (show (t.1 0 52).toInt = (t.1 0 52).toInt ∨ ((t.1 0 52).toInt = (t.1 0 52).toInt + 1 ∧ (t.1 0 68).toInt < (t.1 0 69).toInt) from by omega), (show (t.1 0 70).toInt = 0 → (t.1 0 70).toInt = 0 from by omega)⟩ (Nat.le_of_ble_eq_true rfl) (Nat.le_of_ble_eq_true rfl) dX12_partA_8

theorem dX12_wholeValue_0 : decode cX12_wholeValue 0 = .ok (.aload_n 0, 1) := by decide +kernel
theorem dX12_wholeValue_1 : decode cX12_wholeValue 1 = .ok (.invokevirtual 537, 3) := by decide +kernel
theorem dX12_wholeValue_12 : decode cX12_wholeValue 12 = .ok (.aload_n 0, 1) := by decide +kernel
theorem dX12_wholeValue_13 : decode cX12_wholeValue 13 = .ok (.getfield 472, 3) := by decide +kernel
theorem dX12_wholeValue_16 : decode cX12_wholeValue 16 = .ok (.aload_n 0, 1) := by decide +kernel
theorem dX12_wholeValue_17 : decode cX12_wholeValue 17 = .ok (.getfield 475, 3) := by decide +kernel
theorem dX12_wholeValue_20 : decode cX12_wholeValue 20 = .ok (.if_icmp .ge 8, 3) := by decide +kernel
theorem dX12_wholeValue_23 : decode cX12_wholeValue 23 = .ok (.aload_n 0, 1) := by decide +kernel
theorem dX12_wholeValue_24 : decode cX12_wholeValue 24 = .ok (.iconst 1, 1) := by decide +kernel
theorem dX12_wholeValue_25 : decode cX12_wholeValue 25 = .ok (.invokevirtual 478, 3) := by decide +kernel
theorem dX12_wholeValue_28 : decode cX12_wholeValue 28 = .ok (.iload_n 1, 1) := by decide +kernel
theorem dX12_wholeValue_29 : decode cX12_wholeValue 29 = .ok (.ireturn, 1) := by decide +kernel
theorem dX12_wholeValue_4 : decode cX12_wholeValue 4 = .ok (.istore_n 1, 1) := by decide +kernel
theorem dX12_wholeValue_5 : decode cX12_wholeValue 5 = .ok (.aload_n 0, 1) := by decide +kernel
theorem dX12_wholeValue_6 : decode cX12_wholeValue 6 = .ok (.getfield 469, 3) := by decide +kernel
theorem dX12_wholeValue_9 : decode cX12_wholeValue 9 = .ok (.ifCond .ne 19, 3) := by decide +kernel
set_option maxHeartbeats 4000000 in
set_option maxRecDepth 100000 in
theorem T_X12_wholeValue (l : Launch) (D : va_G) (K : Nat → ClassId) (Z Y : Nat → Nat) (ad : Nat → Nat) (t : tSt) (hok : okM t) (hs0 : 1 ≤ (t.1 0 68).toInt) : tMet l yX12_wholeValue cX12_wholeValue 2 (some .int) (rmD 14 0 0) D K Z Y [.ref (ad 0)] (WM K ad t) (QI D K (fun (r : Int32) (u : tSt) => okM u ∧ frA [(0, 68), (0, 70)] [] [26, 27] [] t u ∧ (-2147483648 : Int) ≤ r.toInt ∧ r.toInt ≤ 2147483647 ∧ ((t.1 0 68).toInt ≤ (u.1 0 68).toInt) ∧ ((u.1 0 68).toInt ≤ (t.1 0 69).toInt ∨ (u.1 0 68).toInt = (t.1 0 68).toInt) ∧ ((u.1 0 70).toInt = 0 → (t.1 0 70).toInt = 0)) (fun (u : tSt) => WM K ad u)) 0 0 := by
  refine t_met RX12 ⟨rfl, by decide +kernel⟩ (Nat.le_of_ble_eq_true rfl) ?_
  intro p e s m below meth c A ls C hE hZ hr hlocks hA hP hD hS hl
  have hl : lv_has ls 2 [(0, .ref (ad 0))] := hl
  have hokt := hok
  have hfr : frA [(0, 68), (0, 70)] [] [26, 27] [] t t := frA_rf
  have h_1 : (0 : Int) ≤ (t.1 0 68).toInt ∧ (t.1 0 68).toInt ≤ 81 := hok.1 0 68
  have h_2 : (0 : Int) ≤ (t.1 0 69).toInt ∧ (t.1 0 69).toInt ≤ 81 := hok.1 0 69
  have h_3 : (0 : Int) ≤ (t.1 0 70).toInt ∧ (t.1 0 70).toInt ≤ 8 := hok.1 0 70
  refine lv_aload_n C.1 C.2.1 dX12_wholeValue_0 rfl (lv_at hl 0 rfl) ?_
  refine g_Vi (As := []) (rest := []) C hP hD hS hA (T_X12_wValue l D K Z Y ad t hok (show 1 ≤ (t.1 0 68).toInt from by omega)) hE hZ (uwV m_34_11 m_34_12 m_34_13 m_1_5 m_34_14) (hdV 0 (by decide +kernel) rfl) ⟨Nat.le_of_ble_eq_true rfl, Nat.le_of_ble_eq_true rfl⟩ rfl rfl (ci := 11) (q0 := 0) rfl rfl rfl hl.1 (Nat.le_of_ble_eq_true rfl) dX12_wholeValue_1 ⟨Nat.le_of_ble_eq_true rfl, Nat.le_of_ble_eq_true rfl⟩ (fun r_5 t_4 H locs hw hP hD hS => ?_)
  obtain ⟨hok, f_6, h_7, h_8, p_9, p_10, p_11, p_12⟩ := hw
  have hfr : frA [(0, 68), (0, 70)] [] [26, 27] [] t t_4 := frA_tr hfr f_6 rfl
  have h_13 : (t_4.1 0 69).toInt = (t.1 0 69).toInt := ti_eq (f_6.1 0 69 rfl)
  have h_14 : (0 : Int) ≤ (t_4.1 0 68).toInt ∧ (t_4.1 0 68).toInt ≤ 81 := hok.1 0 68
  have h_15 : (0 : Int) ≤ (t_4.1 0 69).toInt ∧ (t_4.1 0 69).toInt ≤ 81 := hok.1 0 69
  have h_16 : (0 : Int) ≤ (t_4.1 0 70).toInt ∧ (t_4.1 0 70).toInt ≤ 8 := hok.1 0 70
  replace p_9 : (t.1 0 68).toInt ≤ (t_4.1 0 68).toInt := p_9
  replace p_10 : (t_4.1 0 68).toInt ≤ (t.1 0 69).toInt ∨ (t_4.1 0 68).toInt = (t.1 0 68).toInt := p_10
  replace p_11 : 1 ≤ (t_4.1 0 70).toInt ∨ (t.1 0 68).toInt < (t_4.1 0 68).toInt := p_11
  replace p_12 : (t_4.1 0 70).toInt = 0 → (t.1 0 70).toInt = 0 := p_12
  refine lv_istore_n (lv' := [(1, .int r_5), (0, .ref (ad 0))]) C.1 C.2.1 dX12_wholeValue_4 rfl hl (by decide) rfl (fun ls hl => ?_)
  have hl : lv_has ls 2 [(0, .ref (ad 0)), (1, .int r_5)] := lv_sub hl [1, 0] rfl
  refine lv_aload_n C.1 C.2.1 dX12_wholeValue_5 rfl (lv_at hl 0 rfl) ?_
  refine k_get (v := .int (t_4.1 0 70)) C hP 0 rfl rfl inlX12 70 (by decide) m_29_13 rfl dX12_wholeValue_6 ?_
  refine lv_if_ne (tgt := 28) C.1 C.2.1 dX12_wholeValue_9 (by decide) (fun c_17 => ?_) (fun c_17 => ?_)
  · replace c_17 : ¬ (t_4.1 0 70).toInt = 0 := i_ne c_17
    refine lv_iload_n C.1 C.2.1 dX12_wholeValue_28 rfl (lv_at hl 1 rfl) ?_
    exact g_iret C hr hlocks hP hD hS rfl t_4 rfl ⟨hok, hfr, (i_rng _).1, (i_rng _).2, (show (t.1 0 68).toInt ≤ (t_4.1 0 68).toInt from by omega), (show (t_4.1 0 68).toInt ≤ (t.1 0 69).toInt ∨ (t_4.1 0 68).toInt = (t.1 0 68).toInt from by omega), (show (t_4.1 0 70).toInt = 0 → (t.1 0 70).toInt = 0 from by omega)⟩ (Nat.le_of_ble_eq_true rfl) (Nat.le_of_ble_eq_true rfl) dX12_wholeValue_29
  · replace c_17 : (t_4.1 0 70).toInt = 0 := i_eq c_17
    refine lv_aload_n C.1 C.2.1 dX12_wholeValue_12 rfl (lv_at hl 0 rfl) ?_
    refine k_get (v := .int (t_4.1 0 68)) C hP 0 rfl rfl inlX12 68 (by decide) m_31_6 rfl dX12_wholeValue_13 ?_
    refine lv_aload_n C.1 C.2.1 dX12_wholeValue_16 rfl (lv_at hl 0 rfl) ?_
    refine k_get (v := .int (t_4.1 0 69)) C hP 0 rfl rfl inlX12 69 (by decide) m_31_7 rfl dX12_wholeValue_17 ?_
    refine lv_icmp_ge (tgt := 28) C.1 C.2.1 dX12_wholeValue_20 (by decide) (fun c_18 => ?_) (fun c_18 => ?_)
    · replace c_18 : (t_4.1 0 69).toInt ≤ (t_4.1 0 68).toInt := i_le c_18
      refine lv_iload_n C.1 C.2.1 dX12_wholeValue_28 rfl (lv_at hl 1 rfl) ?_
      exact g_iret C hr hlocks hP hD hS rfl t_4 rfl ⟨hok, hfr, (i_rng _).1, (i_rng _).2, (show (t.1 0 68).toInt ≤ (t_4.1 0 68).toInt from by omega), (show (t_4.1 0 68).toInt ≤ (t.1 0 69).toInt ∨ (t_4.1 0 68).toInt = (t.1 0 68).toInt from by omega), (show (t_4.1 0 70).toInt = 0 → (t.1 0 70).toInt = 0 from by omega)⟩ (Nat.le_of_ble_eq_true rfl) (Nat.le_of_ble_eq_true rfl) dX12_wholeValue_29
    · replace c_18 : (t_4.1 0 68).toInt < (t_4.1 0 69).toInt := i_nle c_18
      refine lv_aload_n C.1 C.2.1 dX12_wholeValue_23 rfl (lv_at hl 0 rfl) ?_
      refine lv_iconst (v := 1) C.1 C.2.1 dX12_wholeValue_24 (by decide) ?_
      have h_19 : (1 : Int32).toInt = 1 := rfl
      refine g_Vv (As := [.int 1]) (rest := []) C hP hD hS hA (T_X12_fail l D K Z Y ad t_4 hok 1 (show (1 : Int) ≤ (1 : Int32).toInt ∧ (1 : Int32).toInt ≤ 8 from ⟨by decide, by decide⟩) (show 1 ≤ (1 : Int32).toInt from by omega)) hE hZ (uwV m_32_22 m_32_23 m_33_0 m_1_5 m_33_1) (hdV 1 (by decide +kernel) rfl) ⟨Nat.le_of_ble_eq_true rfl, Nat.le_of_ble_eq_true rfl⟩ rfl rfl (ci := 11) (q0 := 0) rfl rfl rfl hl.1 (Nat.le_of_ble_eq_true rfl) dX12_wholeValue_25 ⟨Nat.le_of_ble_eq_true rfl, Nat.le_of_ble_eq_true rfl⟩ (fun t_20 H locs hw hP hD hS => ?_)
      obtain ⟨hok, f_22, p_23⟩ := hw
      have hfr : frA [(0, 68), (0, 70)] [] [26, 27] [] t t_20 := frA_tr hfr f_22 rfl
      have h_24 : (t_20.1 0 68).toInt = (t_4.1 0 68).toInt := ti_eq (f_22.1 0 68 rfl)
      have h_25 : (t_20.1 0 69).toInt = (t_4.1 0 69).toInt := ti_eq (f_22.1 0 69 rfl)
      have h_26 : (0 : Int) ≤ (t_20.1 0 70).toInt ∧ (t_20.1 0 70).toInt ≤ 8 := hok.1 0 70
      replace p_23 : 1 ≤ (t_20.1 0 70).toInt := p_23
      refine lv_iload_n C.1 C.2.1 dX12_wholeValue_28 rfl (lv_at hl 1 rfl) ?_
      exact g_iret C hr hlocks hP hD hS rfl t_20 rfl ⟨hok, hfr, (i_rng _).1, (i_rng _).2, (show (t.1 0 68).toInt ≤ (t_20.1 0 68).toInt from by omega), (show (t_20.1 0 68).toInt ≤ (t.1 0 69).toInt ∨ (t_20.1 0 68).toInt = (t.1 0 68).toInt from by omega), (show (t_20.1 0 70).toInt = 0 → (t.1 0 70).toInt = 0 from by omega)⟩ (Nat.le_of_ble_eq_true rfl) (Nat.le_of_ble_eq_true rfl) dX12_wholeValue_29

theorem dX12_bounded_0 : decode cX12_bounded 0 = .ok (.aload_n 0, 1) := by decide +kernel
theorem dX12_bounded_1 : decode cX12_bounded 1 = .ok (.invokevirtual 578, 3) := by decide +kernel
theorem dX12_bounded_12 : decode cX12_bounded 12 = .ok (.ifCond .ne 18, 3) := by decide +kernel
theorem dX12_bounded_15 : decode cX12_bounded 15 = .ok (.iload_n 3, 1) := by decide +kernel
theorem dX12_bounded_16 : decode cX12_bounded 16 = .ok (.iload_n 1, 1) := by decide +kernel
theorem dX12_bounded_17 : decode cX12_bounded 17 = .ok (.if_icmp .lt 8, 3) := by decide +kernel
theorem dX12_bounded_20 : decode cX12_bounded 20 = .ok (.iload_n 3, 1) := by decide +kernel
theorem dX12_bounded_21 : decode cX12_bounded 21 = .ok (.iload_n 2, 1) := by decide +kernel
theorem dX12_bounded_22 : decode cX12_bounded 22 = .ok (.if_icmp .le 8, 3) := by decide +kernel
theorem dX12_bounded_25 : decode cX12_bounded 25 = .ok (.aload_n 0, 1) := by decide +kernel
theorem dX12_bounded_26 : decode cX12_bounded 26 = .ok (.iconst 5, 1) := by decide +kernel
theorem dX12_bounded_27 : decode cX12_bounded 27 = .ok (.invokevirtual 478, 3) := by decide +kernel
theorem dX12_bounded_30 : decode cX12_bounded 30 = .ok (.iload_n 3, 1) := by decide +kernel
theorem dX12_bounded_31 : decode cX12_bounded 31 = .ok (.ireturn, 1) := by decide +kernel
theorem dX12_bounded_4 : decode cX12_bounded 4 = .ok (.invokestatic 161, 3) := by decide +kernel
theorem dX12_bounded_7 : decode cX12_bounded 7 = .ok (.istore_n 3, 1) := by decide +kernel
theorem dX12_bounded_8 : decode cX12_bounded 8 = .ok (.aload_n 0, 1) := by decide +kernel
theorem dX12_bounded_9 : decode cX12_bounded 9 = .ok (.getfield 469, 3) := by decide +kernel
set_option maxHeartbeats 4000000 in
set_option maxRecDepth 100000 in
theorem T_X12_bounded (l : Launch) (D : va_G) (K : Nat → ClassId) (Z Y : Nat → Nat) (ad : Nat → Nat) (t : tSt) (hok : okM t) (x1 : Int32) (hx1 : (-3999 : Int) ≤ x1.toInt ∧ x1.toInt ≤ 0) (x2 : Int32) (hx2 : (3999 : Int) ≤ x2.toInt ∧ x2.toInt ≤ 4000) (hs0 : 1 ≤ (t.1 0 68).toInt) : tMet l yX12_bounded cX12_bounded 4 (some .int) (rmD 15 0 0) D K Z Y [.ref (ad 0), .int x1, .int x2] (WM K ad t) (QI D K (fun (r : Int32) (u : tSt) => okM u ∧ frA [(0, 68), (0, 70)] [] [26, 27] [] t u ∧ (-2147483648 : Int) ≤ r.toInt ∧ r.toInt ≤ 2147483647 ∧ ((u.1 0 70).toInt = 0 → x1.toInt ≤ r.toInt ∧ r.toInt ≤ x2.toInt) ∧ ((u.1 0 70).toInt = 0 → (t.1 0 70).toInt = 0)) (fun (u : tSt) => WM K ad u)) 0 0 := by
  refine t_met RX12 ⟨rfl, by decide +kernel⟩ (Nat.le_of_ble_eq_true rfl) ?_
  intro p e s m below meth c A ls C hE hZ hr hlocks hA hP hD hS hl
  have hl : lv_has ls 4 [(0, .ref (ad 0)), (1, .int x1), (2, .int x2)] := hl
  have hokt := hok
  have hfr : frA [(0, 68), (0, 70)] [] [26, 27] [] t t := frA_rf
  have h_1 : (0 : Int) ≤ (t.1 0 68).toInt ∧ (t.1 0 68).toInt ≤ 81 := hok.1 0 68
  have h_2 : (0 : Int) ≤ (t.1 0 69).toInt ∧ (t.1 0 69).toInt ≤ 81 := hok.1 0 69
  have h_3 : (0 : Int) ≤ (t.1 0 70).toInt ∧ (t.1 0 70).toInt ≤ 8 := hok.1 0 70
  refine lv_aload_n C.1 C.2.1 dX12_bounded_0 rfl (lv_at hl 0 rfl) ?_
  refine g_Vi (As := []) (rest := []) C hP hD hS hA (T_X12_wholeValue l D K Z Y ad t hok (show 1 ≤ (t.1 0 68).toInt from by omega)) hE hZ (uwV m_34_7 m_34_8 m_34_9 m_1_5 m_34_10) (hdV 0 (by decide +kernel) rfl) ⟨Nat.le_of_ble_eq_true rfl, Nat.le_of_ble_eq_true rfl⟩ rfl rfl (ci := 11) (q0 := 0) rfl rfl rfl hl.1 (Nat.le_of_ble_eq_true rfl) dX12_bounded_1 ⟨Nat.le_of_ble_eq_true rfl, Nat.le_of_ble_eq_true rfl⟩ (fun r_5 t_4 H locs hw hP hD hS => ?_)
  obtain ⟨hok, f_6, h_7, h_8, p_9, p_10, p_11⟩ := hw
  have hfr : frA [(0, 68), (0, 70)] [] [26, 27] [] t t_4 := frA_tr hfr f_6 rfl
  have h_12 : (t_4.1 0 69).toInt = (t.1 0 69).toInt := ti_eq (f_6.1 0 69 rfl)
  have h_13 : (0 : Int) ≤ (t_4.1 0 68).toInt ∧ (t_4.1 0 68).toInt ≤ 81 := hok.1 0 68
  have h_14 : (0 : Int) ≤ (t_4.1 0 69).toInt ∧ (t_4.1 0 69).toInt ≤ 81 := hok.1 0 69
  have h_15 : (0 : Int) ≤ (t_4.1 0 70).toInt ∧ (t_4.1 0 70).toInt ≤ 8 := hok.1 0 70
  replace p_9 : (t.1 0 68).toInt ≤ (t_4.1 0 68).toInt := p_9
  replace p_10 : (t_4.1 0 68).toInt ≤ (t.1 0 69).toInt ∨ (t_4.1 0 68).toInt = (t.1 0 68).toInt := p_10
  replace p_11 : (t_4.1 0 70).toInt = 0 → (t.1 0 70).toInt = 0 := p_11
  refine g_Si (As := [.int r_5]) (rest := []) C hP hD hS hA (T_X12_value l D K Z Y ad t_4 hok (r_5)) hE hZ (uwS m_36_9 m_36_10 m_1_5 m_36_11) (hdS 1 (by decide +kernel) rfl) ⟨Nat.le_of_ble_eq_true rfl, Nat.le_of_ble_eq_true rfl⟩ rfl rfl rfl hl.1 (Nat.le_of_ble_eq_true rfl) dX12_bounded_4 ⟨Nat.le_of_ble_eq_true rfl, Nat.le_of_ble_eq_true rfl⟩ (fun r_17 t_16 H locs hw hP hD hS => ?_)
  obtain ⟨h_19, h_20, p_21⟩ := hw
  replace p_21 : r_17.toInt = (vO r_5).toInt := p_21
  refine lv_istore_n (lv' := [(3, .int r_17), (0, .ref (ad 0)), (1, .int x1), (2, .int x2)]) C.1 C.2.1 dX12_bounded_7 rfl hl (by decide) rfl (fun ls hl => ?_)
  have hl : lv_has ls 4 [(0, .ref (ad 0)), (1, .int x1), (2, .int x2), (3, .int r_17)] := lv_sub hl [1, 2, 3, 0] rfl
  refine lv_aload_n C.1 C.2.1 dX12_bounded_8 rfl (lv_at hl 0 rfl) ?_
  refine k_get (v := .int (t_4.1 0 70)) C hP 0 rfl rfl inlX12 70 (by decide) m_29_13 rfl dX12_bounded_9 ?_
  refine lv_if_ne (tgt := 30) C.1 C.2.1 dX12_bounded_12 (by decide) (fun c_22 => ?_) (fun c_22 => ?_)
  · replace c_22 : ¬ (t_4.1 0 70).toInt = 0 := i_ne c_22
    refine lv_iload_n C.1 C.2.1 dX12_bounded_30 rfl (lv_at hl 3 rfl) ?_
    exact g_iret C hr hlocks hP hD hS rfl t_4 rfl ⟨hok, hfr, (i_rng _).1, (i_rng _).2, (show (t_4.1 0 70).toInt = 0 → x1.toInt ≤ r_17.toInt ∧ r_17.toInt ≤ x2.toInt from by omega), (show (t_4.1 0 70).toInt = 0 → (t.1 0 70).toInt = 0 from by omega)⟩ (Nat.le_of_ble_eq_true rfl) (Nat.le_of_ble_eq_true rfl) dX12_bounded_31
  · replace c_22 : (t_4.1 0 70).toInt = 0 := i_eq c_22
    refine lv_iload_n C.1 C.2.1 dX12_bounded_15 rfl (lv_at hl 3 rfl) ?_
    refine lv_iload_n C.1 C.2.1 dX12_bounded_16 rfl (lv_at hl 1 rfl) ?_
    refine lv_icmp_lt (tgt := 25) C.1 C.2.1 dX12_bounded_17 (by decide) (fun c_23 => ?_) (fun c_23 => ?_)
    · replace c_23 : r_17.toInt < x1.toInt := i_lt c_23
      refine lv_aload_n C.1 C.2.1 dX12_bounded_25 rfl (lv_at hl 0 rfl) ?_
      refine lv_iconst (v := 5) C.1 C.2.1 dX12_bounded_26 (by decide) ?_
      have h_24 : (5 : Int32).toInt = 5 := rfl
      refine g_Vv (As := [.int 5]) (rest := []) C hP hD hS hA (T_X12_fail l D K Z Y ad t_4 hok 5 (show (1 : Int) ≤ (5 : Int32).toInt ∧ (5 : Int32).toInt ≤ 8 from ⟨by decide, by decide⟩) (show 1 ≤ (5 : Int32).toInt from by omega)) hE hZ (uwV m_32_22 m_32_23 m_33_0 m_1_5 m_33_1) (hdV 1 (by decide +kernel) rfl) ⟨Nat.le_of_ble_eq_true rfl, Nat.le_of_ble_eq_true rfl⟩ rfl rfl (ci := 11) (q0 := 0) rfl rfl rfl hl.1 (Nat.le_of_ble_eq_true rfl) dX12_bounded_27 ⟨Nat.le_of_ble_eq_true rfl, Nat.le_of_ble_eq_true rfl⟩ (fun t_25 H locs hw hP hD hS => ?_)
      obtain ⟨hok, f_27, p_28⟩ := hw
      have hfr : frA [(0, 68), (0, 70)] [] [26, 27] [] t t_25 := frA_tr hfr f_27 rfl
      have h_29 : (t_25.1 0 68).toInt = (t_4.1 0 68).toInt := ti_eq (f_27.1 0 68 rfl)
      have h_30 : (t_25.1 0 69).toInt = (t_4.1 0 69).toInt := ti_eq (f_27.1 0 69 rfl)
      have h_31 : (0 : Int) ≤ (t_25.1 0 68).toInt ∧ (t_25.1 0 68).toInt ≤ 81 := hok.1 0 68
      have h_32 : (0 : Int) ≤ (t_25.1 0 69).toInt ∧ (t_25.1 0 69).toInt ≤ 81 := hok.1 0 69
      have h_33 : (0 : Int) ≤ (t_25.1 0 70).toInt ∧ (t_25.1 0 70).toInt ≤ 8 := hok.1 0 70
      replace p_28 : 1 ≤ (t_25.1 0 70).toInt := p_28
      refine lv_iload_n C.1 C.2.1 dX12_bounded_30 rfl (lv_at hl 3 rfl) ?_
      exact g_iret C hr hlocks hP hD hS rfl t_25 rfl ⟨hok, hfr, (i_rng _).1, (i_rng _).2, (show (t_25.1 0 70).toInt = 0 → x1.toInt ≤ r_17.toInt ∧ r_17.toInt ≤ x2.toInt from by omega), (show (t_25.1 0 70).toInt = 0 → (t.1 0 70).toInt = 0 from by omega)⟩ (Nat.le_of_ble_eq_true rfl) (Nat.le_of_ble_eq_true rfl) dX12_bounded_31
    · replace c_23 : x1.toInt ≤ r_17.toInt := i_nlt c_23
      refine lv_iload_n C.1 C.2.1 dX12_bounded_20 rfl (lv_at hl 3 rfl) ?_
      refine lv_iload_n C.1 C.2.1 dX12_bounded_21 rfl (lv_at hl 2 rfl) ?_
      refine lv_icmp_le (tgt := 30) C.1 C.2.1 dX12_bounded_22 (by decide) (fun c_34 => ?_) (fun c_34 => ?_)
      · replace c_34 : r_17.toInt ≤ x2.toInt := i_le c_34
        refine lv_iload_n C.1 C.2.1 dX12_bounded_30 rfl (lv_at hl 3 rfl) ?_
        exact g_iret C hr hlocks hP hD hS rfl t_4 rfl ⟨hok, hfr, (i_rng _).1, (i_rng _).2, (show (t_4.1 0 70).toInt = 0 → x1.toInt ≤ r_17.toInt ∧ r_17.toInt ≤ x2.toInt from by omega), (show (t_4.1 0 70).toInt = 0 → (t.1 0 70).toInt = 0 from by omega)⟩ (Nat.le_of_ble_eq_true rfl) (Nat.le_of_ble_eq_true rfl) dX12_bounded_31
      · replace c_34 : x2.toInt < r_17.toInt := i_nle c_34
        refine lv_aload_n C.1 C.2.1 dX12_bounded_25 rfl (lv_at hl 0 rfl) ?_
        refine lv_iconst (v := 5) C.1 C.2.1 dX12_bounded_26 (by decide) ?_
        have h_35 : (5 : Int32).toInt = 5 := rfl
        refine g_Vv (As := [.int 5]) (rest := []) C hP hD hS hA (T_X12_fail l D K Z Y ad t_4 hok 5 (show (1 : Int) ≤ (5 : Int32).toInt ∧ (5 : Int32).toInt ≤ 8 from ⟨by decide, by decide⟩) (show 1 ≤ (5 : Int32).toInt from by omega)) hE hZ (uwV m_32_22 m_32_23 m_33_0 m_1_5 m_33_1) (hdV 1 (by decide +kernel) rfl) ⟨Nat.le_of_ble_eq_true rfl, Nat.le_of_ble_eq_true rfl⟩ rfl rfl (ci := 11) (q0 := 0) rfl rfl rfl hl.1 (Nat.le_of_ble_eq_true rfl) dX12_bounded_27 ⟨Nat.le_of_ble_eq_true rfl, Nat.le_of_ble_eq_true rfl⟩ (fun t_36 H locs hw hP hD hS => ?_)
        obtain ⟨hok, f_38, p_39⟩ := hw
        have hfr : frA [(0, 68), (0, 70)] [] [26, 27] [] t t_36 := frA_tr hfr f_38 rfl
        have h_40 : (t_36.1 0 68).toInt = (t_4.1 0 68).toInt := ti_eq (f_38.1 0 68 rfl)
        have h_41 : (t_36.1 0 69).toInt = (t_4.1 0 69).toInt := ti_eq (f_38.1 0 69 rfl)
        have h_42 : (0 : Int) ≤ (t_36.1 0 68).toInt ∧ (t_36.1 0 68).toInt ≤ 81 := hok.1 0 68
        have h_43 : (0 : Int) ≤ (t_36.1 0 69).toInt ∧ (t_36.1 0 69).toInt ≤ 81 := hok.1 0 69
        have h_44 : (0 : Int) ≤ (t_36.1 0 70).toInt ∧ (t_36.1 0 70).toInt ≤ 8 := hok.1 0 70
        replace p_39 : 1 ≤ (t_36.1 0 70).toInt := p_39
        refine lv_iload_n C.1 C.2.1 dX12_bounded_30 rfl (lv_at hl 3 rfl) ?_
        exact g_iret C hr hlocks hP hD hS rfl t_36 rfl ⟨hok, hfr, (i_rng _).1, (i_rng _).2, (show (t_36.1 0 70).toInt = 0 → x1.toInt ≤ r_17.toInt ∧ r_17.toInt ≤ x2.toInt from by omega), (show (t_36.1 0 70).toInt = 0 → (t.1 0 70).toInt = 0 from by omega)⟩ (Nat.le_of_ble_eq_true rfl) (Nat.le_of_ble_eq_true rfl) dX12_bounded_31

theorem dX12_instruction_0 : decode cX12_instruction 0 = .ok (.aload_n 0, 1) := by decide +kernel
theorem dX12_instruction_1 : decode cX12_instruction 1 = .ok (.iconst (-1), 1) := by decide +kernel
theorem dX12_instruction_10 : decode cX12_instruction 10 = .ok (.aload_n 0, 1) := by decide +kernel
theorem dX12_instruction_100 : decode cX12_instruction 100 = .ok (.invokevirtual 491, 3) := by decide +kernel
theorem dX12_instruction_103 : decode cX12_instruction 103 = .ok (.bipush 40, 2) := by decide +kernel
theorem dX12_instruction_105 : decode cX12_instruction 105 = .ok (.if_icmp .ne 18, 3) := by decide +kernel
theorem dX12_instruction_108 : decode cX12_instruction 108 = .ok (.aload_n 0, 1) := by decide +kernel
theorem dX12_instruction_109 : decode cX12_instruction 109 = .ok (.iconst 0, 1) := by decide +kernel
theorem dX12_instruction_11 : decode cX12_instruction 11 = .ok (.getfield 469, 3) := by decide +kernel
theorem dX12_instruction_110 : decode cX12_instruction 110 = .ok (.bipush 63, 2) := by decide +kernel
theorem dX12_instruction_112 : decode cX12_instruction 112 = .ok (.invokevirtual 531, 3) := by decide +kernel
theorem dX12_instruction_115 : decode cX12_instruction 115 = .ok (.istore 4, 2) := by decide +kernel
theorem dX12_instruction_117 : decode cX12_instruction 117 = .ok (.aload_n 0, 1) := by decide +kernel
theorem dX12_instruction_118 : decode cX12_instruction 118 = .ok (.bipush 41, 2) := by decide +kernel
theorem dX12_instruction_120 : decode cX12_instruction 120 = .ok (.invokevirtual 534, 3) := by decide +kernel
theorem dX12_instruction_123 : decode cX12_instruction 123 = .ok (.aload_n 0, 1) := by decide +kernel
theorem dX12_instruction_124 : decode cX12_instruction 124 = .ok (.getfield 469, 3) := by decide +kernel
theorem dX12_instruction_127 : decode cX12_instruction 127 = .ok (.ifCond .ne 16, 3) := by decide +kernel
theorem dX12_instruction_130 : decode cX12_instruction 130 = .ok (.aload_n 0, 1) := by decide +kernel
theorem dX12_instruction_131 : decode cX12_instruction 131 = .ok (.invokevirtual 491, 3) := by decide +kernel
theorem dX12_instruction_134 : decode cX12_instruction 134 = .ok (.iconst (-1), 1) := by decide +kernel
theorem dX12_instruction_135 : decode cX12_instruction 135 = .ok (.if_icmp .eq 8, 3) := by decide +kernel
theorem dX12_instruction_138 : decode cX12_instruction 138 = .ok (.aload_n 0, 1) := by decide +kernel
theorem dX12_instruction_139 : decode cX12_instruction 139 = .ok (.iconst 1, 1) := by decide +kernel
theorem dX12_instruction_14 : decode cX12_instruction 14 = .ok (.ifCond .ne 15, 3) := by decide +kernel
theorem dX12_instruction_140 : decode cX12_instruction 140 = .ok (.invokevirtual 478, 3) := by decide +kernel
theorem dX12_instruction_143 : decode cX12_instruction 143 = .ok (.iload_n 2, 1) := by decide +kernel
theorem dX12_instruction_144 : decode cX12_instruction 144 = .ok (.iload_n 3, 1) := by decide +kernel
theorem dX12_instruction_145 : decode cX12_instruction 145 = .ok (.bipush 12, 2) := by decide +kernel
theorem dX12_instruction_147 : decode cX12_instruction 147 = .ok (.ishl, 1) := by decide +kernel
theorem dX12_instruction_148 : decode cX12_instruction 148 = .ok (.ior, 1) := by decide +kernel
theorem dX12_instruction_149 : decode cX12_instruction 149 = .ok (.iload 4, 2) := by decide +kernel
theorem dX12_instruction_151 : decode cX12_instruction 151 = .ok (.bipush 6, 2) := by decide +kernel
theorem dX12_instruction_153 : decode cX12_instruction 153 = .ok (.ishl, 1) := by decide +kernel
theorem dX12_instruction_154 : decode cX12_instruction 154 = .ok (.ior, 1) := by decide +kernel
theorem dX12_instruction_155 : decode cX12_instruction 155 = .ok (.iload_n 1, 1) := by decide +kernel
theorem dX12_instruction_156 : decode cX12_instruction 156 = .ok (.bipush 6, 2) := by decide +kernel
theorem dX12_instruction_158 : decode cX12_instruction 158 = .ok (.ishr, 1) := by decide +kernel
theorem dX12_instruction_159 : decode cX12_instruction 159 = .ok (.ior, 1) := by decide +kernel
theorem dX12_instruction_160 : decode cX12_instruction 160 = .ok (.ireturn, 1) := by decide +kernel
theorem dX12_instruction_17 : decode cX12_instruction 17 = .ok (.aload_n 0, 1) := by decide +kernel
theorem dX12_instruction_18 : decode cX12_instruction 18 = .ok (.invokevirtual 540, 3) := by decide +kernel
theorem dX12_instruction_2 : decode cX12_instruction 2 = .ok (.putfield 546, 3) := by decide +kernel
theorem dX12_instruction_21 : decode cX12_instruction 21 = .ok (.ifCond .ne 8, 3) := by decide +kernel
theorem dX12_instruction_24 : decode cX12_instruction 24 = .ok (.aload_n 0, 1) := by decide +kernel
theorem dX12_instruction_25 : decode cX12_instruction 25 = .ok (.iconst 1, 1) := by decide +kernel
theorem dX12_instruction_26 : decode cX12_instruction 26 = .ok (.invokevirtual 478, 3) := by decide +kernel
theorem dX12_instruction_29 : decode cX12_instruction 29 = .ok (.aload_n 0, 1) := by decide +kernel
theorem dX12_instruction_30 : decode cX12_instruction 30 = .ok (.getfield 469, 3) := by decide +kernel
theorem dX12_instruction_33 : decode cX12_instruction 33 = .ok (.ifCond .ne 22, 3) := by decide +kernel
theorem dX12_instruction_36 : decode cX12_instruction 36 = .ok (.aload_n 0, 1) := by decide +kernel
theorem dX12_instruction_37 : decode cX12_instruction 37 = .ok (.invokevirtual 491, 3) := by decide +kernel
theorem dX12_instruction_40 : decode cX12_instruction 40 = .ok (.bipush 44, 2) := by decide +kernel
theorem dX12_instruction_42 : decode cX12_instruction 42 = .ok (.if_icmp .ne 13, 3) := by decide +kernel
theorem dX12_instruction_45 : decode cX12_instruction 45 = .ok (.aload_n 0, 1) := by decide +kernel
theorem dX12_instruction_46 : decode cX12_instruction 46 = .ok (.iconst 0, 1) := by decide +kernel
theorem dX12_instruction_47 : decode cX12_instruction 47 = .ok (.bipush 6, 2) := by decide +kernel
theorem dX12_instruction_49 : decode cX12_instruction 49 = .ok (.invokevirtual 531, 3) := by decide +kernel
theorem dX12_instruction_5 : decode cX12_instruction 5 = .ok (.aload_n 0, 1) := by decide +kernel
theorem dX12_instruction_52 : decode cX12_instruction 52 = .ok (.goto 4, 3) := by decide +kernel
theorem dX12_instruction_55 : decode cX12_instruction 55 = .ok (.iconst 0, 1) := by decide +kernel
theorem dX12_instruction_56 : decode cX12_instruction 56 = .ok (.istore_n 3, 1) := by decide +kernel
theorem dX12_instruction_57 : decode cX12_instruction 57 = .ok (.aload_n 0, 1) := by decide +kernel
theorem dX12_instruction_58 : decode cX12_instruction 58 = .ok (.getfield 469, 3) := by decide +kernel
theorem dX12_instruction_6 : decode cX12_instruction 6 = .ok (.invokevirtual 558, 3) := by decide +kernel
theorem dX12_instruction_61 : decode cX12_instruction 61 = .ok (.ifCond .ne 25, 3) := by decide +kernel
theorem dX12_instruction_64 : decode cX12_instruction 64 = .ok (.aload_n 0, 1) := by decide +kernel
theorem dX12_instruction_65 : decode cX12_instruction 65 = .ok (.invokevirtual 491, 3) := by decide +kernel
theorem dX12_instruction_68 : decode cX12_instruction 68 = .ok (.iconst (-1), 1) := by decide +kernel
theorem dX12_instruction_69 : decode cX12_instruction 69 = .ok (.if_icmp .eq 17, 3) := by decide +kernel
theorem dX12_instruction_72 : decode cX12_instruction 72 = .ok (.aload_n 0, 1) := by decide +kernel
theorem dX12_instruction_73 : decode cX12_instruction 73 = .ok (.invokevirtual 491, 3) := by decide +kernel
theorem dX12_instruction_76 : decode cX12_instruction 76 = .ok (.bipush 40, 2) := by decide +kernel
theorem dX12_instruction_78 : decode cX12_instruction 78 = .ok (.if_icmp .eq 8, 3) := by decide +kernel
theorem dX12_instruction_81 : decode cX12_instruction 81 = .ok (.aload_n 0, 1) := by decide +kernel
theorem dX12_instruction_82 : decode cX12_instruction 82 = .ok (.iconst 1, 1) := by decide +kernel
theorem dX12_instruction_83 : decode cX12_instruction 83 = .ok (.invokevirtual 478, 3) := by decide +kernel
theorem dX12_instruction_86 : decode cX12_instruction 86 = .ok (.iload_n 1, 1) := by decide +kernel
theorem dX12_instruction_87 : decode cX12_instruction 87 = .ok (.bipush 63, 2) := by decide +kernel
theorem dX12_instruction_89 : decode cX12_instruction 89 = .ok (.iand, 1) := by decide +kernel
theorem dX12_instruction_9 : decode cX12_instruction 9 = .ok (.istore_n 2, 1) := by decide +kernel
theorem dX12_instruction_90 : decode cX12_instruction 90 = .ok (.istore 4, 2) := by decide +kernel
theorem dX12_instruction_92 : decode cX12_instruction 92 = .ok (.aload_n 0, 1) := by decide +kernel
theorem dX12_instruction_93 : decode cX12_instruction 93 = .ok (.getfield 469, 3) := by decide +kernel
theorem dX12_instruction_96 : decode cX12_instruction 96 = .ok (.ifCond .ne 27, 3) := by decide +kernel
theorem dX12_instruction_99 : decode cX12_instruction 99 = .ok (.aload_n 0, 1) := by decide +kernel
set_option maxHeartbeats 4000000 in
set_option maxRecDepth 100000 in
theorem T_X12_instruction (l : Launch) (D : va_G) (K : Nat → ClassId) (Z Y : Nat → Nat) (ad : Nat → Nat) (t : tSt) (hok : okM t) (x1 : Int32) (hx1 : (-1 : Int) ≤ x1.toInt ∧ x1.toInt ≤ 6399) (hs0 : 1 ≤ (t.1 0 68).toInt) (hs1 : (t.1 0 52).toInt ≤ 1199) : tMet l yX12_instruction cX12_instruction 5 (some .int) (rmD 15 0 0) D K Z Y [.ref (ad 0), .int x1] (WM K ad t) (QI D K (fun (r : Int32) (u : tSt) => okM u ∧ frA [(0, 52), (0, 68), (0, 70), (0, 71), (0, 72), (0, 73)] [] [25, 26, 27] [23] t u ∧ (-2147483648 : Int) ≤ r.toInt ∧ r.toInt ≤ 2147483647 ∧ ((u.1 0 71).toInt = -1 ∨ (t.1 0 68).toInt < (t.1 0 69).toInt) ∧ ((t.1 0 52).toInt ≤ (u.1 0 52).toInt) ∧ ((u.1 0 52).toInt = (t.1 0 52).toInt ∨ ((u.1 0 52).toInt = (t.1 0 52).toInt + 1 ∧ (t.1 0 68).toInt < (t.1 0 69).toInt)) ∧ ((u.1 0 70).toInt = 0 → (t.1 0 70).toInt = 0)) (fun (u : tSt) => WM K ad u)) 0 0 := by
  refine t_met RX12 ⟨rfl, by decide +kernel⟩ (Nat.le_of_ble_eq_true rfl) ?_
  intro p e s m below meth c A ls C hE hZ hr hlocks hA hP hD hS hl
  have hl : lv_has ls 5 [(0, .ref (ad 0)), (1, .int x1)] := hl
  have hokt := hok
  have hfr : frA [(0, 52), (0, 68), (0, 70), (0, 71), (0, 72), (0, 73)] [] [25, 26, 27] [23] t t := frA_rf
  have h_1 : (0 : Int) ≤ (t.1 0 52).toInt ∧ (t.1 0 52).toInt ≤ 1200 := hok.1 0 52
  have h_2 : (0 : Int) ≤ (t.1 0 68).toInt ∧ (t.1 0 68).toInt ≤ 81 := hok.1 0 68
  have h_3 : (0 : Int) ≤ (t.1 0 69).toInt ∧ (t.1 0 69).toInt ≤ 81 := hok.1 0 69
  have h_4 : (0 : Int) ≤ (t.1 0 70).toInt ∧ (t.1 0 70).toInt ≤ 8 := hok.1 0 70
  have h_5 : (-1 : Int) ≤ (t.1 0 71).toInt ∧ (t.1 0 71).toInt ≤ 2 := hok.1 0 71
  have L_143 : ∀ (t1 : tSt) (w143_2 : Int32) (w143_3 : Int32) (w143_4 : Int32) (H : Heap) (locs : List Loc) (ls : Array Slot), okM t1 → frA [(0, 52), (0, 68), (0, 70), (0, 71), (0, 72), (0, 73)] [] [25, 26, 27] [23] t t1 → (0 : Int) ≤ w143_2.toInt ∧ w143_2.toInt ≤ 2147483647 → ((t1.1 0 71).toInt = -1 ∨ (t.1 0 68).toInt < (t.1 0 69).toInt) → ((t.1 0 52).toInt ≤ (t1.1 0 52).toInt) → ((t1.1 0 52).toInt = (t.1 0 52).toInt ∨ ((t1.1 0 52).toInt = (t.1 0 52).toInt + 1 ∧ (t.1 0 68).toInt < (t.1 0 69).toInt)) → ((t.1 0 68).toInt ≤ (t1.1 0 68).toInt) → ((t1.1 0 70).toInt = 0 → (t.1 0 70).toInt = 0) → va_P D vwCl (WM K ad t1) H → va_D A (WM K ad t1) → va_S A s.heap H locs → lv_has ls 5 [(0, .ref (ad 0)), (1, .int x1), (2, .int w143_2), (3, .int w143_3), (4, .int w143_4)] → W p l e (rmD 15 0 0) s m [.ref (ad 0), .int x1].toArray below meth c H locs 0 0 (MQ below (QI D K (fun (r : Int32) (u : tSt) => okM u ∧ frA [(0, 52), (0, 68), (0, 70), (0, 71), (0, 72), (0, 73)] [] [25, 26, 27] [23] t u ∧ (-2147483648 : Int) ≤ r.toInt ∧ r.toInt ≤ 2147483647 ∧ ((u.1 0 71).toInt = -1 ∨ (t.1 0 68).toInt < (t.1 0 69).toInt) ∧ ((t.1 0 52).toInt ≤ (u.1 0 52).toInt) ∧ ((u.1 0 52).toInt = (t.1 0 52).toInt ∨ ((u.1 0 52).toInt = (t.1 0 52).toInt + 1 ∧ (t.1 0 68).toInt < (t.1 0 69).toInt)) ∧ ((u.1 0 70).toInt = 0 → (t.1 0 70).toInt = 0)) (fun (u : tSt) => WM K ad u) A) [.ref (ad 0), .int x1].toArray s 0 0 A) (F0 m 143 ls []) := by
    intro t1 w143_2 w143_3 w143_4 H locs ls hok hfr hw143_2 hi143_0 hi143_1 hi143_2 hi143_3 hi143_4 hP hD hS hl
    have h_6 : (t1.1 0 69).toInt = (t.1 0 69).toInt := ti_eq (hfr.1 0 69 rfl)
    have h_7 : (0 : Int) ≤ (t1.1 0 52).toInt ∧ (t1.1 0 52).toInt ≤ 1200 := hok.1 0 52
    have h_8 : (0 : Int) ≤ (t1.1 0 68).toInt ∧ (t1.1 0 68).toInt ≤ 81 := hok.1 0 68
    have h_9 : (0 : Int) ≤ (t1.1 0 69).toInt ∧ (t1.1 0 69).toInt ≤ 81 := hok.1 0 69
    have h_10 : (0 : Int) ≤ (t1.1 0 70).toInt ∧ (t1.1 0 70).toInt ≤ 8 := hok.1 0 70
    have h_11 : (-1 : Int) ≤ (t1.1 0 71).toInt ∧ (t1.1 0 71).toInt ≤ 2 := hok.1 0 71
    refine lv_iload_n C.1 C.2.1 dX12_instruction_143 rfl (lv_at hl 2 rfl) ?_
    refine lv_iload_n C.1 C.2.1 dX12_instruction_144 rfl (lv_at hl 3 rfl) ?_
    refine lv_bipush (v := 12) C.1 C.2.1 dX12_instruction_145 (by decide) ?_
    obtain ⟨v_12, e_13⟩ : ∃ z, z = (w143_3 : Int32) <<< ((12 : Int32) &&& 31) := ⟨_, rfl⟩
    refine k_ishl (v := v_12) C e_13.symm dX12_instruction_147 ?_
    obtain ⟨v_15, e_16⟩ : ∃ z, z = (w143_2 : Int32) ||| (v_12 : Int32) := ⟨_, rfl⟩
    refine k_ior (v := v_15) C e_16.symm dX12_instruction_148 ?_
    refine lv_iload C.1 C.2.1 dX12_instruction_149 (lv_at hl 4 rfl) ?_
    refine lv_bipush (v := 6) C.1 C.2.1 dX12_instruction_151 (by decide) ?_
    obtain ⟨v_18, e_19⟩ : ∃ z, z = (w143_4 : Int32) <<< ((6 : Int32) &&& 31) := ⟨_, rfl⟩
    refine k_ishl (v := v_18) C e_19.symm dX12_instruction_153 ?_
    obtain ⟨v_21, e_22⟩ : ∃ z, z = (v_15 : Int32) ||| (v_18 : Int32) := ⟨_, rfl⟩
    refine k_ior (v := v_21) C e_22.symm dX12_instruction_154 ?_
    refine lv_iload_n C.1 C.2.1 dX12_instruction_155 rfl (lv_at hl 1 rfl) ?_
    refine lv_bipush (v := 6) C.1 C.2.1 dX12_instruction_156 (by decide) ?_
    obtain ⟨v_24, e_25⟩ : ∃ z, z = (x1 : Int32) >>> ((6 : Int32) &&& 31) := ⟨_, rfl⟩
    have h_26 : v_24.toInt = x1.toInt / 2 ^ 6 := by rw [e_25]; exact Jvm.Kit.i32_shr _ _ (k := 6) (by decide)
    refine k_ishr (v := v_24) C e_25.symm dX12_instruction_158 ?_
    obtain ⟨v_27, e_28⟩ : ∃ z, z = (v_21 : Int32) ||| (v_24 : Int32) := ⟨_, rfl⟩
    refine k_ior (v := v_27) C e_28.symm dX12_instruction_159 ?_
    exact g_iret C hr hlocks hP hD hS rfl t1 rfl ⟨hok, hfr, (i_rng _).1, (i_rng _).2, (show (t1.1 0 71).toInt = -1 ∨ (t.1 0 68).toInt < (t.1 0 69).toInt from by omega), (show (t.1 0 52).toInt ≤ (t1.1 0 52).toInt from by omega), (show (t1.1 0 52).toInt = (t.1 0 52).toInt ∨ ((t1.1 0 52).toInt = (t.1 0 52).toInt + 1 ∧ (t.1 0 68).toInt < (t.1 0 69).toInt) from by omega), (show (t1.1 0 70).toInt = 0 → (t.1 0 70).toInt = 0 from by omega)⟩ (Nat.le_of_ble_eq_true rfl) (Nat.le_of_ble_eq_true rfl) dX12_instruction_160
  have L_123 : ∀ (t1 : tSt) (w123_2 : Int32) (w123_3 : Int32) (w123_4 : Int32) (H : Heap) (locs : List Loc) (ls : Array Slot), okM t1 → frA [(0, 52), (0, 68), (0, 70), (0, 71), (0, 72), (0, 73)] [] [25, 26, 27] [23] t t1 → (0 : Int) ≤ w123_2.toInt ∧ w123_2.toInt ≤ 2147483647 → ((t1.1 0 71).toInt = -1 ∨ (t.1 0 68).toInt < (t.1 0 69).toInt) → ((t.1 0 52).toInt ≤ (t1.1 0 52).toInt) → ((t1.1 0 52).toInt = (t.1 0 52).toInt ∨ ((t1.1 0 52).toInt = (t.1 0 52).toInt + 1 ∧ (t.1 0 68).toInt < (t.1 0 69).toInt)) → ((t.1 0 68).toInt ≤ (t1.1 0 68).toInt) → ((t1.1 0 70).toInt = 0 → (t.1 0 70).toInt = 0) → va_P D vwCl (WM K ad t1) H → va_D A (WM K ad t1) → va_S A s.heap H locs → lv_has ls 5 [(0, .ref (ad 0)), (1, .int x1), (2, .int w123_2), (3, .int w123_3), (4, .int w123_4)] → W p l e (rmD 15 0 0) s m [.ref (ad 0), .int x1].toArray below meth c H locs 0 0 (MQ below (QI D K (fun (r : Int32) (u : tSt) => okM u ∧ frA [(0, 52), (0, 68), (0, 70), (0, 71), (0, 72), (0, 73)] [] [25, 26, 27] [23] t u ∧ (-2147483648 : Int) ≤ r.toInt ∧ r.toInt ≤ 2147483647 ∧ ((u.1 0 71).toInt = -1 ∨ (t.1 0 68).toInt < (t.1 0 69).toInt) ∧ ((t.1 0 52).toInt ≤ (u.1 0 52).toInt) ∧ ((u.1 0 52).toInt = (t.1 0 52).toInt ∨ ((u.1 0 52).toInt = (t.1 0 52).toInt + 1 ∧ (t.1 0 68).toInt < (t.1 0 69).toInt)) ∧ ((u.1 0 70).toInt = 0 → (t.1 0 70).toInt = 0)) (fun (u : tSt) => WM K ad u) A) [.ref (ad 0), .int x1].toArray s 0 0 A) (F0 m 123 ls []) := by
    intro t1 w123_2 w123_3 w123_4 H locs ls hok hfr hw123_2 hi123_0 hi123_1 hi123_2 hi123_3 hi123_4 hP hD hS hl
    have h_30 : (t1.1 0 69).toInt = (t.1 0 69).toInt := ti_eq (hfr.1 0 69 rfl)
    have h_31 : (0 : Int) ≤ (t1.1 0 52).toInt ∧ (t1.1 0 52).toInt ≤ 1200 := hok.1 0 52
    have h_32 : (0 : Int) ≤ (t1.1 0 68).toInt ∧ (t1.1 0 68).toInt ≤ 81 := hok.1 0 68
    have h_33 : (0 : Int) ≤ (t1.1 0 69).toInt ∧ (t1.1 0 69).toInt ≤ 81 := hok.1 0 69
    have h_34 : (0 : Int) ≤ (t1.1 0 70).toInt ∧ (t1.1 0 70).toInt ≤ 8 := hok.1 0 70
    have h_35 : (-1 : Int) ≤ (t1.1 0 71).toInt ∧ (t1.1 0 71).toInt ≤ 2 := hok.1 0 71
    refine lv_aload_n C.1 C.2.1 dX12_instruction_123 rfl (lv_at hl 0 rfl) ?_
    refine k_get (v := .int (t1.1 0 70)) C hP 0 rfl rfl inlX12 70 (by decide) m_29_13 rfl dX12_instruction_124 ?_
    refine lv_if_ne (tgt := 143) C.1 C.2.1 dX12_instruction_127 (by decide) (fun c_36 => ?_) (fun c_36 => ?_)
    · replace c_36 : ¬ (t1.1 0 70).toInt = 0 := i_ne c_36
      exact L_143 t1 w123_2 w123_3 w123_4 _ _ _ hok hfr ⟨by omega, (i_rng _).2⟩ (show (t1.1 0 71).toInt = -1 ∨ (t.1 0 68).toInt < (t.1 0 69).toInt from by omega) (show (t.1 0 52).toInt ≤ (t1.1 0 52).toInt from by omega) (show (t1.1 0 52).toInt = (t.1 0 52).toInt ∨ ((t1.1 0 52).toInt = (t.1 0 52).toInt + 1 ∧ (t.1 0 68).toInt < (t.1 0 69).toInt) from by omega) (show (t.1 0 68).toInt ≤ (t1.1 0 68).toInt from by omega) (show (t1.1 0 70).toInt = 0 → (t.1 0 70).toInt = 0 from by omega) hP hD hS (lv_sub hl [0, 1, 2, 3, 4] rfl)
    · replace c_36 : (t1.1 0 70).toInt = 0 := i_eq c_36
      refine lv_aload_n C.1 C.2.1 dX12_instruction_130 rfl (lv_at hl 0 rfl) ?_
      refine g_Vi (As := []) (rest := []) C hP hD hS hA (T_X12_now l D K Z Y ad t1 hok (show 1 ≤ (t1.1 0 68).toInt from by omega)) hE hZ (uwV m_34_20 m_34_21 m_34_22 m_1_5 m_34_23) (hdV 0 (by decide +kernel) rfl) ⟨Nat.le_of_ble_eq_true rfl, Nat.le_of_ble_eq_true rfl⟩ rfl rfl (ci := 11) (q0 := 0) rfl rfl rfl hl.1 (Nat.le_of_ble_eq_true rfl) dX12_instruction_131 ⟨Nat.le_of_ble_eq_true rfl, Nat.le_of_ble_eq_true rfl⟩ (fun r_38 t_37 H locs hw hP hD hS => ?_)
      obtain ⟨h_40, h_41, p_42⟩ := hw
      replace p_42 : r_38.toInt = -1 ∨ (t1.1 0 68).toInt < (t1.1 0 69).toInt := p_42
      refine lv_iconst (v := (-1)) C.1 C.2.1 dX12_instruction_134 (by decide) ?_
      refine lv_icmp_eq (tgt := 143) C.1 C.2.1 dX12_instruction_135 (by decide) (fun c_43 => ?_) (fun c_43 => ?_)
      · replace c_43 : r_38.toInt = (-1) := i_eq c_43
        exact L_143 t1 w123_2 w123_3 w123_4 _ _ _ hok hfr ⟨by omega, (i_rng _).2⟩ (show (t1.1 0 71).toInt = -1 ∨ (t.1 0 68).toInt < (t.1 0 69).toInt from by omega) (show (t.1 0 52).toInt ≤ (t1.1 0 52).toInt from by omega) (show (t1.1 0 52).toInt = (t.1 0 52).toInt ∨ ((t1.1 0 52).toInt = (t.1 0 52).toInt + 1 ∧ (t.1 0 68).toInt < (t.1 0 69).toInt) from by omega) (show (t.1 0 68).toInt ≤ (t1.1 0 68).toInt from by omega) (show (t1.1 0 70).toInt = 0 → (t.1 0 70).toInt = 0 from by omega) hP hD hS (lv_sub hl [0, 1, 2, 3, 4] rfl)
      · replace c_43 : ¬ r_38.toInt = (-1) := i_ne c_43
        refine lv_aload_n C.1 C.2.1 dX12_instruction_138 rfl (lv_at hl 0 rfl) ?_
        refine lv_iconst (v := 1) C.1 C.2.1 dX12_instruction_139 (by decide) ?_
        have h_44 : (1 : Int32).toInt = 1 := rfl
        refine g_Vv (As := [.int 1]) (rest := []) C hP hD hS hA (T_X12_fail l D K Z Y ad t1 hok 1 (show (1 : Int) ≤ (1 : Int32).toInt ∧ (1 : Int32).toInt ≤ 8 from ⟨by decide, by decide⟩) (show 1 ≤ (1 : Int32).toInt from by omega)) hE hZ (uwV m_32_22 m_32_23 m_33_0 m_1_5 m_33_1) (hdV 1 (by decide +kernel) rfl) ⟨Nat.le_of_ble_eq_true rfl, Nat.le_of_ble_eq_true rfl⟩ rfl rfl (ci := 11) (q0 := 0) rfl rfl rfl hl.1 (Nat.le_of_ble_eq_true rfl) dX12_instruction_140 ⟨Nat.le_of_ble_eq_true rfl, Nat.le_of_ble_eq_true rfl⟩ (fun t_45 H locs hw hP hD hS => ?_)
        obtain ⟨hok, f_47, p_48⟩ := hw
        have hfr : frA [(0, 52), (0, 68), (0, 70), (0, 71), (0, 72), (0, 73)] [] [25, 26, 27] [23] t t_45 := frA_tr hfr f_47 rfl
        have h_49 : (t_45.1 0 52).toInt = (t1.1 0 52).toInt := ti_eq (f_47.1 0 52 rfl)
        have h_50 : (t_45.1 0 68).toInt = (t1.1 0 68).toInt := ti_eq (f_47.1 0 68 rfl)
        have h_51 : (t_45.1 0 69).toInt = (t1.1 0 69).toInt := ti_eq (f_47.1 0 69 rfl)
        have h_52 : (t_45.1 0 71).toInt = (t1.1 0 71).toInt := ti_eq (f_47.1 0 71 rfl)
        have h_53 : (0 : Int) ≤ (t_45.1 0 52).toInt ∧ (t_45.1 0 52).toInt ≤ 1200 := hok.1 0 52
        have h_54 : (0 : Int) ≤ (t_45.1 0 68).toInt ∧ (t_45.1 0 68).toInt ≤ 81 := hok.1 0 68
        have h_55 : (0 : Int) ≤ (t_45.1 0 69).toInt ∧ (t_45.1 0 69).toInt ≤ 81 := hok.1 0 69
        have h_56 : (0 : Int) ≤ (t_45.1 0 70).toInt ∧ (t_45.1 0 70).toInt ≤ 8 := hok.1 0 70
        have h_57 : (-1 : Int) ≤ (t_45.1 0 71).toInt ∧ (t_45.1 0 71).toInt ≤ 2 := hok.1 0 71
        replace p_48 : 1 ≤ (t_45.1 0 70).toInt := p_48
        exact L_143 t_45 w123_2 w123_3 w123_4 _ _ _ hok hfr ⟨by omega, (i_rng _).2⟩ (show (t_45.1 0 71).toInt = -1 ∨ (t.1 0 68).toInt < (t.1 0 69).toInt from by omega) (show (t.1 0 52).toInt ≤ (t_45.1 0 52).toInt from by omega) (show (t_45.1 0 52).toInt = (t.1 0 52).toInt ∨ ((t_45.1 0 52).toInt = (t.1 0 52).toInt + 1 ∧ (t.1 0 68).toInt < (t.1 0 69).toInt) from by omega) (show (t.1 0 68).toInt ≤ (t_45.1 0 68).toInt from by omega) (show (t_45.1 0 70).toInt = 0 → (t.1 0 70).toInt = 0 from by omega) hP hD hS (lv_sub hl [0, 1, 2, 3, 4] rfl)
  have L_86 : ∀ (t1 : tSt) (w86_2 : Int32) (w86_3 : Int32) (H : Heap) (locs : List Loc) (ls : Array Slot), okM t1 → frA [(0, 52), (0, 68), (0, 70), (0, 71), (0, 72), (0, 73)] [] [25, 26, 27] [23] t t1 → (0 : Int) ≤ w86_2.toInt ∧ w86_2.toInt ≤ 2147483647 → ((t1.1 0 71).toInt = -1 ∨ (t.1 0 68).toInt < (t.1 0 69).toInt) → ((t.1 0 52).toInt ≤ (t1.1 0 52).toInt) → ((t1.1 0 52).toInt = (t.1 0 52).toInt ∨ ((t1.1 0 52).toInt = (t.1 0 52).toInt + 1 ∧ (t.1 0 68).toInt < (t.1 0 69).toInt)) → ((t.1 0 68).toInt ≤ (t1.1 0 68).toInt) → ((t1.1 0 70).toInt = 0 → (t.1 0 70).toInt = 0) → va_P D vwCl (WM K ad t1) H → va_D A (WM K ad t1) → va_S A s.heap H locs → lv_has ls 5 [(0, .ref (ad 0)), (1, .int x1), (2, .int w86_2), (3, .int w86_3)] → W p l e (rmD 15 0 0) s m [.ref (ad 0), .int x1].toArray below meth c H locs 0 0 (MQ below (QI D K (fun (r : Int32) (u : tSt) => okM u ∧ frA [(0, 52), (0, 68), (0, 70), (0, 71), (0, 72), (0, 73)] [] [25, 26, 27] [23] t u ∧ (-2147483648 : Int) ≤ r.toInt ∧ r.toInt ≤ 2147483647 ∧ ((u.1 0 71).toInt = -1 ∨ (t.1 0 68).toInt < (t.1 0 69).toInt) ∧ ((t.1 0 52).toInt ≤ (u.1 0 52).toInt) ∧ ((u.1 0 52).toInt = (t.1 0 52).toInt ∨ ((u.1 0 52).toInt = (t.1 0 52).toInt + 1 ∧ (t.1 0 68).toInt < (t.1 0 69).toInt)) ∧ ((u.1 0 70).toInt = 0 → (t.1 0 70).toInt = 0)) (fun (u : tSt) => WM K ad u) A) [.ref (ad 0), .int x1].toArray s 0 0 A) (F0 m 86 ls []) := by
    intro t1 w86_2 w86_3 H locs ls hok hfr hw86_2 hi86_0 hi86_1 hi86_2 hi86_3 hi86_4 hP hD hS hl
    have h_58 : (t1.1 0 69).toInt = (t.1 0 69).toInt := ti_eq (hfr.1 0 69 rfl)
    have h_59 : (0 : Int) ≤ (t1.1 0 52).toInt ∧ (t1.1 0 52).toInt ≤ 1200 := hok.1 0 52
    have h_60 : (0 : Int) ≤ (t1.1 0 68).toInt ∧ (t1.1 0 68).toInt ≤ 81 := hok.1 0 68
    have h_61 : (0 : Int) ≤ (t1.1 0 69).toInt ∧ (t1.1 0 69).toInt ≤ 81 := hok.1 0 69
    have h_62 : (0 : Int) ≤ (t1.1 0 70).toInt ∧ (t1.1 0 70).toInt ≤ 8 := hok.1 0 70
    have h_63 : (-1 : Int) ≤ (t1.1 0 71).toInt ∧ (t1.1 0 71).toInt ≤ 2 := hok.1 0 71
    refine lv_iload_n C.1 C.2.1 dX12_instruction_86 rfl (lv_at hl 1 rfl) ?_
    refine lv_bipush (v := 63) C.1 C.2.1 dX12_instruction_87 (by decide) ?_
    obtain ⟨v_64, e_65⟩ : ∃ z, z = (x1 : Int32) &&& (63 : Int32) := ⟨_, rfl⟩
    have h_66 : v_64.toInt = x1.toInt % 2 ^ 6 := by rw [e_65]; exact Jvm.Kit.i32_mask _ _ (k := 6) (by decide) (by decide)
    refine k_iand (v := v_64) C e_65.symm dX12_instruction_89 ?_
    refine lv_istore (lv' := [(4, .int v_64), (0, .ref (ad 0)), (1, .int x1), (2, .int w86_2), (3, .int w86_3)]) C.1 C.2.1 dX12_instruction_90 hl (by decide) rfl (fun ls hl => ?_)
    have hl : lv_has ls 5 [(0, .ref (ad 0)), (1, .int x1), (2, .int w86_2), (3, .int w86_3), (4, .int v_64)] := lv_sub hl [1, 2, 3, 4, 0] rfl
    refine lv_aload_n C.1 C.2.1 dX12_instruction_92 rfl (lv_at hl 0 rfl) ?_
    refine k_get (v := .int (t1.1 0 70)) C hP 0 rfl rfl inlX12 70 (by decide) m_29_13 rfl dX12_instruction_93 ?_
    refine lv_if_ne (tgt := 123) C.1 C.2.1 dX12_instruction_96 (by decide) (fun c_67 => ?_) (fun c_67 => ?_)
    · replace c_67 : ¬ (t1.1 0 70).toInt = 0 := i_ne c_67
      exact L_123 t1 w86_2 w86_3 v_64 _ _ _ hok hfr ⟨by omega, (i_rng _).2⟩ (show (t1.1 0 71).toInt = -1 ∨ (t.1 0 68).toInt < (t.1 0 69).toInt from by omega) (show (t.1 0 52).toInt ≤ (t1.1 0 52).toInt from by omega) (show (t1.1 0 52).toInt = (t.1 0 52).toInt ∨ ((t1.1 0 52).toInt = (t.1 0 52).toInt + 1 ∧ (t.1 0 68).toInt < (t.1 0 69).toInt) from by omega) (show (t.1 0 68).toInt ≤ (t1.1 0 68).toInt from by omega) (show (t1.1 0 70).toInt = 0 → (t.1 0 70).toInt = 0 from by omega) hP hD hS (lv_sub hl [0, 1, 2, 3, 4] rfl)
    · replace c_67 : (t1.1 0 70).toInt = 0 := i_eq c_67
      refine lv_aload_n C.1 C.2.1 dX12_instruction_99 rfl (lv_at hl 0 rfl) ?_
      refine g_Vi (As := []) (rest := []) C hP hD hS hA (T_X12_now l D K Z Y ad t1 hok (show 1 ≤ (t1.1 0 68).toInt from by omega)) hE hZ (uwV m_34_20 m_34_21 m_34_22 m_1_5 m_34_23) (hdV 0 (by decide +kernel) rfl) ⟨Nat.le_of_ble_eq_true rfl, Nat.le_of_ble_eq_true rfl⟩ rfl rfl (ci := 11) (q0 := 0) rfl rfl rfl hl.1 (Nat.le_of_ble_eq_true rfl) dX12_instruction_100 ⟨Nat.le_of_ble_eq_true rfl, Nat.le_of_ble_eq_true rfl⟩ (fun r_69 t_68 H locs hw hP hD hS => ?_)
      obtain ⟨h_71, h_72, p_73⟩ := hw
      replace p_73 : r_69.toInt = -1 ∨ (t1.1 0 68).toInt < (t1.1 0 69).toInt := p_73
      refine lv_bipush (v := 40) C.1 C.2.1 dX12_instruction_103 (by decide) ?_
      refine lv_icmp_ne (tgt := 123) C.1 C.2.1 dX12_instruction_105 (by decide) (fun c_74 => ?_) (fun c_74 => ?_)
      · replace c_74 : ¬ r_69.toInt = 40 := i_ne c_74
        exact L_123 t1 w86_2 w86_3 v_64 _ _ _ hok hfr ⟨by omega, (i_rng _).2⟩ (show (t1.1 0 71).toInt = -1 ∨ (t.1 0 68).toInt < (t.1 0 69).toInt from by omega) (show (t.1 0 52).toInt ≤ (t1.1 0 52).toInt from by omega) (show (t1.1 0 52).toInt = (t.1 0 52).toInt ∨ ((t1.1 0 52).toInt = (t.1 0 52).toInt + 1 ∧ (t.1 0 68).toInt < (t.1 0 69).toInt) from by omega) (show (t.1 0 68).toInt ≤ (t1.1 0 68).toInt from by omega) (show (t1.1 0 70).toInt = 0 → (t.1 0 70).toInt = 0 from by omega) hP hD hS (lv_sub hl [0, 1, 2, 3, 4] rfl)
      · replace c_74 : r_69.toInt = 40 := i_eq c_74
        refine lv_aload_n C.1 C.2.1 dX12_instruction_108 rfl (lv_at hl 0 rfl) ?_
        refine lv_iconst (v := 0) C.1 C.2.1 dX12_instruction_109 (by decide) ?_
        refine lv_bipush (v := 63) C.1 C.2.1 dX12_instruction_110 (by decide) ?_
        have h_75 : (0 : Int32).toInt = 0 := rfl
        have h_76 : (63 : Int32).toInt = 63 := rfl
        refine g_Vi (As := [.int 0, .int 63]) (rest := []) C hP hD hS hA (T_X12_inside l D K Z Y ad t1 hok 0 (show (0 : Int) ≤ (0 : Int32).toInt ∧ (0 : Int32).toInt ≤ 0 from ⟨by decide, by decide⟩) 63 (show (6 : Int) ≤ (63 : Int32).toInt ∧ (63 : Int32).toInt ≤ 63 from ⟨by decide, by decide⟩) (show 1 ≤ (t1.1 0 68).toInt from by omega) (show (t1.1 0 68).toInt < (t1.1 0 69).toInt from by omega)) hE hZ (uwV m_36_20 m_36_21 m_36_22 m_1_5 m_36_23) (hdV 2 (by decide +kernel) rfl) ⟨Nat.le_of_ble_eq_true rfl, Nat.le_of_ble_eq_true rfl⟩ rfl rfl (ci := 11) (q0 := 0) rfl rfl rfl hl.1 (Nat.le_of_ble_eq_true rfl) dX12_instruction_112 ⟨Nat.le_of_ble_eq_true rfl, Nat.le_of_ble_eq_true rfl⟩ (fun r_78 t_77 H locs hw hP hD hS => ?_)
        obtain ⟨hok, f_79, h_80, h_81, p_82, p_83, p_84, p_85⟩ := hw
        have hfr : frA [(0, 52), (0, 68), (0, 70), (0, 71), (0, 72), (0, 73)] [] [25, 26, 27] [23] t t_77 := frA_tr hfr f_79 rfl
        have h_86 : (t_77.1 0 52).toInt = (t1.1 0 52).toInt := ti_eq (f_79.1 0 52 rfl)
        have h_87 : (t_77.1 0 69).toInt = (t1.1 0 69).toInt := ti_eq (f_79.1 0 69 rfl)
        have h_88 : (t_77.1 0 71).toInt = (t1.1 0 71).toInt := ti_eq (f_79.1 0 71 rfl)
        have h_89 : (0 : Int) ≤ (t_77.1 0 52).toInt ∧ (t_77.1 0 52).toInt ≤ 1200 := hok.1 0 52
        have h_90 : (0 : Int) ≤ (t_77.1 0 68).toInt ∧ (t_77.1 0 68).toInt ≤ 81 := hok.1 0 68
        have h_91 : (0 : Int) ≤ (t_77.1 0 69).toInt ∧ (t_77.1 0 69).toInt ≤ 81 := hok.1 0 69
        have h_92 : (0 : Int) ≤ (t_77.1 0 70).toInt ∧ (t_77.1 0 70).toInt ≤ 8 := hok.1 0 70
        have h_93 : (-1 : Int) ≤ (t_77.1 0 71).toInt ∧ (t_77.1 0 71).toInt ≤ 2 := hok.1 0 71
        replace p_82 : (t1.1 0 68).toInt < (t_77.1 0 68).toInt := p_82
        replace p_83 : (t_77.1 0 68).toInt ≤ (t1.1 0 69).toInt := p_83
        replace p_84 : (t_77.1 0 70).toInt = 0 → (0 : Int32).toInt ≤ r_78.toInt ∧ r_78.toInt ≤ (63 : Int32).toInt := p_84
        replace p_85 : (t_77.1 0 70).toInt = 0 → (t1.1 0 70).toInt = 0 := p_85
        refine lv_istore (lv' := [(4, .int r_78), (0, .ref (ad 0)), (1, .int x1), (2, .int w86_2), (3, .int w86_3)]) C.1 C.2.1 dX12_instruction_115 hl (by decide) rfl (fun ls hl => ?_)
        have hl : lv_has ls 5 [(0, .ref (ad 0)), (1, .int x1), (2, .int w86_2), (3, .int w86_3), (4, .int r_78)] := lv_sub hl [1, 2, 3, 4, 0] rfl
        refine lv_aload_n C.1 C.2.1 dX12_instruction_117 rfl (lv_at hl 0 rfl) ?_
        refine lv_bipush (v := 41) C.1 C.2.1 dX12_instruction_118 (by decide) ?_
        have h_94 : (41 : Int32).toInt = 41 := rfl
        refine g_Vv (As := [.int 41]) (rest := []) C hP hD hS hA (T_X12_must l D K Z Y ad t_77 hok 41 (show (32 : Int) ≤ (41 : Int32).toInt ∧ (41 : Int32).toInt ≤ 61 from ⟨by decide, by decide⟩) (show 1 ≤ (t_77.1 0 68).toInt from by omega) (show 0 ≤ (41 : Int32).toInt from by omega)) hE hZ (uwV m_37_3 m_37_4 m_37_5 m_1_5 m_37_6) (hdV 1 (by decide +kernel) rfl) ⟨Nat.le_of_ble_eq_true rfl, Nat.le_of_ble_eq_true rfl⟩ rfl rfl (ci := 11) (q0 := 0) rfl rfl rfl hl.1 (Nat.le_of_ble_eq_true rfl) dX12_instruction_120 ⟨Nat.le_of_ble_eq_true rfl, Nat.le_of_ble_eq_true rfl⟩ (fun t_95 H locs hw hP hD hS => ?_)
        obtain ⟨hok, f_97, p_98, p_99, p_100⟩ := hw
        have hfr : frA [(0, 52), (0, 68), (0, 70), (0, 71), (0, 72), (0, 73)] [] [25, 26, 27] [23] t t_95 := frA_tr hfr f_97 rfl
        have h_101 : (t_95.1 0 52).toInt = (t_77.1 0 52).toInt := ti_eq (f_97.1 0 52 rfl)
        have h_102 : (t_95.1 0 69).toInt = (t_77.1 0 69).toInt := ti_eq (f_97.1 0 69 rfl)
        have h_103 : (t_95.1 0 71).toInt = (t_77.1 0 71).toInt := ti_eq (f_97.1 0 71 rfl)
        have h_104 : (0 : Int) ≤ (t_95.1 0 52).toInt ∧ (t_95.1 0 52).toInt ≤ 1200 := hok.1 0 52
        have h_105 : (0 : Int) ≤ (t_95.1 0 68).toInt ∧ (t_95.1 0 68).toInt ≤ 81 := hok.1 0 68
        have h_106 : (0 : Int) ≤ (t_95.1 0 69).toInt ∧ (t_95.1 0 69).toInt ≤ 81 := hok.1 0 69
        have h_107 : (0 : Int) ≤ (t_95.1 0 70).toInt ∧ (t_95.1 0 70).toInt ≤ 8 := hok.1 0 70
        have h_108 : (-1 : Int) ≤ (t_95.1 0 71).toInt ∧ (t_95.1 0 71).toInt ≤ 2 := hok.1 0 71
        replace p_98 : (t_77.1 0 68).toInt ≤ (t_95.1 0 68).toInt := p_98
        replace p_99 : (t_95.1 0 68).toInt ≤ (t_77.1 0 69).toInt ∨ (t_95.1 0 68).toInt = (t_77.1 0 68).toInt := p_99
        replace p_100 : (t_95.1 0 70).toInt = 0 → (t_77.1 0 70).toInt = 0 := p_100
        exact L_123 t_95 w86_2 w86_3 r_78 _ _ _ hok hfr ⟨by omega, (i_rng _).2⟩ (show (t_95.1 0 71).toInt = -1 ∨ (t.1 0 68).toInt < (t.1 0 69).toInt from by omega) (show (t.1 0 52).toInt ≤ (t_95.1 0 52).toInt from by omega) (show (t_95.1 0 52).toInt = (t.1 0 52).toInt ∨ ((t_95.1 0 52).toInt = (t.1 0 52).toInt + 1 ∧ (t.1 0 68).toInt < (t.1 0 69).toInt) from by omega) (show (t.1 0 68).toInt ≤ (t_95.1 0 68).toInt from by omega) (show (t_95.1 0 70).toInt = 0 → (t.1 0 70).toInt = 0 from by omega) hP hD hS (lv_sub hl [0, 1, 2, 3, 4] rfl)
  have L_56 : ∀ (t1 : tSt) (w56_2 : Int32) (k56_0 : Int32) (H : Heap) (locs : List Loc) (ls : Array Slot), okM t1 → frA [(0, 52), (0, 68), (0, 70), (0, 71), (0, 72), (0, 73)] [] [25, 26, 27] [23] t t1 → (0 : Int) ≤ w56_2.toInt ∧ w56_2.toInt ≤ 2147483647 → ((t1.1 0 71).toInt = -1 ∨ (t.1 0 68).toInt < (t.1 0 69).toInt) → ((t.1 0 52).toInt ≤ (t1.1 0 52).toInt) → ((t1.1 0 52).toInt = (t.1 0 52).toInt ∨ ((t1.1 0 52).toInt = (t.1 0 52).toInt + 1 ∧ (t.1 0 68).toInt < (t.1 0 69).toInt)) → ((t.1 0 68).toInt ≤ (t1.1 0 68).toInt) → ((t1.1 0 70).toInt = 0 → (t.1 0 70).toInt = 0) → va_P D vwCl (WM K ad t1) H → va_D A (WM K ad t1) → va_S A s.heap H locs → lv_has ls 5 [(0, .ref (ad 0)), (1, .int x1), (2, .int w56_2)] → W p l e (rmD 15 0 0) s m [.ref (ad 0), .int x1].toArray below meth c H locs 0 0 (MQ below (QI D K (fun (r : Int32) (u : tSt) => okM u ∧ frA [(0, 52), (0, 68), (0, 70), (0, 71), (0, 72), (0, 73)] [] [25, 26, 27] [23] t u ∧ (-2147483648 : Int) ≤ r.toInt ∧ r.toInt ≤ 2147483647 ∧ ((u.1 0 71).toInt = -1 ∨ (t.1 0 68).toInt < (t.1 0 69).toInt) ∧ ((t.1 0 52).toInt ≤ (u.1 0 52).toInt) ∧ ((u.1 0 52).toInt = (t.1 0 52).toInt ∨ ((u.1 0 52).toInt = (t.1 0 52).toInt + 1 ∧ (t.1 0 68).toInt < (t.1 0 69).toInt)) ∧ ((u.1 0 70).toInt = 0 → (t.1 0 70).toInt = 0)) (fun (u : tSt) => WM K ad u) A) [.ref (ad 0), .int x1].toArray s 0 0 A) (F0 m 56 ls [.int k56_0]) := by
    intro t1 w56_2 k56_0 H locs ls hok hfr hw56_2 hi56_0 hi56_1 hi56_2 hi56_3 hi56_4 hP hD hS hl
    have h_109 : (t1.1 0 69).toInt = (t.1 0 69).toInt := ti_eq (hfr.1 0 69 rfl)
    have h_110 : (0 : Int) ≤ (t1.1 0 52).toInt ∧ (t1.1 0 52).toInt ≤ 1200 := hok.1 0 52
    have h_111 : (0 : Int) ≤ (t1.1 0 68).toInt ∧ (t1.1 0 68).toInt ≤ 81 := hok.1 0 68
    have h_112 : (0 : Int) ≤ (t1.1 0 69).toInt ∧ (t1.1 0 69).toInt ≤ 81 := hok.1 0 69
    have h_113 : (0 : Int) ≤ (t1.1 0 70).toInt ∧ (t1.1 0 70).toInt ≤ 8 := hok.1 0 70
    have h_114 : (-1 : Int) ≤ (t1.1 0 71).toInt ∧ (t1.1 0 71).toInt ≤ 2 := hok.1 0 71
    refine lv_istore_n (lv' := [(3, .int k56_0), (0, .ref (ad 0)), (1, .int x1), (2, .int w56_2)]) C.1 C.2.1 dX12_instruction_56 rfl hl (by decide) rfl (fun ls hl => ?_)
    have hl : lv_has ls 5 [(0, .ref (ad 0)), (1, .int x1), (2, .int w56_2), (3, .int k56_0)] := lv_sub hl [1, 2, 3, 0] rfl
    refine lv_aload_n C.1 C.2.1 dX12_instruction_57 rfl (lv_at hl 0 rfl) ?_
    refine k_get (v := .int (t1.1 0 70)) C hP 0 rfl rfl inlX12 70 (by decide) m_29_13 rfl dX12_instruction_58 ?_
    refine lv_if_ne (tgt := 86) C.1 C.2.1 dX12_instruction_61 (by decide) (fun c_115 => ?_) (fun c_115 => ?_)
    · replace c_115 : ¬ (t1.1 0 70).toInt = 0 := i_ne c_115
      exact L_86 t1 w56_2 k56_0 _ _ _ hok hfr ⟨by omega, (i_rng _).2⟩ (show (t1.1 0 71).toInt = -1 ∨ (t.1 0 68).toInt < (t.1 0 69).toInt from by omega) (show (t.1 0 52).toInt ≤ (t1.1 0 52).toInt from by omega) (show (t1.1 0 52).toInt = (t.1 0 52).toInt ∨ ((t1.1 0 52).toInt = (t.1 0 52).toInt + 1 ∧ (t.1 0 68).toInt < (t.1 0 69).toInt) from by omega) (show (t.1 0 68).toInt ≤ (t1.1 0 68).toInt from by omega) (show (t1.1 0 70).toInt = 0 → (t.1 0 70).toInt = 0 from by omega) hP hD hS (lv_sub hl [0, 1, 2, 3] rfl)
    · replace c_115 : (t1.1 0 70).toInt = 0 := i_eq c_115
      refine lv_aload_n C.1 C.2.1 dX12_instruction_64 rfl (lv_at hl 0 rfl) ?_
      refine g_Vi (As := []) (rest := []) C hP hD hS hA (T_X12_now l D K Z Y ad t1 hok (show 1 ≤ (t1.1 0 68).toInt from by omega)) hE hZ (uwV m_34_20 m_34_21 m_34_22 m_1_5 m_34_23) (hdV 0 (by decide +kernel) rfl) ⟨Nat.le_of_ble_eq_true rfl, Nat.le_of_ble_eq_true rfl⟩ rfl rfl (ci := 11) (q0 := 0) rfl rfl rfl hl.1 (Nat.le_of_ble_eq_true rfl) dX12_instruction_65 ⟨Nat.le_of_ble_eq_true rfl, Nat.le_of_ble_eq_true rfl⟩ (fun r_117 t_116 H locs hw hP hD hS => ?_)
      obtain ⟨h_119, h_120, p_121⟩ := hw
      replace p_121 : r_117.toInt = -1 ∨ (t1.1 0 68).toInt < (t1.1 0 69).toInt := p_121
      refine lv_iconst (v := (-1)) C.1 C.2.1 dX12_instruction_68 (by decide) ?_
      refine lv_icmp_eq (tgt := 86) C.1 C.2.1 dX12_instruction_69 (by decide) (fun c_122 => ?_) (fun c_122 => ?_)
      · replace c_122 : r_117.toInt = (-1) := i_eq c_122
        exact L_86 t1 w56_2 k56_0 _ _ _ hok hfr ⟨by omega, (i_rng _).2⟩ (show (t1.1 0 71).toInt = -1 ∨ (t.1 0 68).toInt < (t.1 0 69).toInt from by omega) (show (t.1 0 52).toInt ≤ (t1.1 0 52).toInt from by omega) (show (t1.1 0 52).toInt = (t.1 0 52).toInt ∨ ((t1.1 0 52).toInt = (t.1 0 52).toInt + 1 ∧ (t.1 0 68).toInt < (t.1 0 69).toInt) from by omega) (show (t.1 0 68).toInt ≤ (t1.1 0 68).toInt from by omega) (show (t1.1 0 70).toInt = 0 → (t.1 0 70).toInt = 0 from by omega) hP hD hS (lv_sub hl [0, 1, 2, 3] rfl)
      · replace c_122 : ¬ r_117.toInt = (-1) := i_ne c_122
        refine lv_aload_n C.1 C.2.1 dX12_instruction_72 rfl (lv_at hl 0 rfl) ?_
        refine g_Vi (As := []) (rest := []) C hP hD hS hA (T_X12_now l D K Z Y ad t1 hok (show 1 ≤ (t1.1 0 68).toInt from by omega)) hE hZ (uwV m_34_20 m_34_21 m_34_22 m_1_5 m_34_23) (hdV 0 (by decide +kernel) rfl) ⟨Nat.le_of_ble_eq_true rfl, Nat.le_of_ble_eq_true rfl⟩ rfl rfl (ci := 11) (q0 := 0) rfl rfl rfl hl.1 (Nat.le_of_ble_eq_true rfl) dX12_instruction_73 ⟨Nat.le_of_ble_eq_true rfl, Nat.le_of_ble_eq_true rfl⟩ (fun r_124 t_123 H locs hw hP hD hS => ?_)
        obtain ⟨h_126, h_127, p_128⟩ := hw
        replace p_128 : r_124.toInt = -1 ∨ (t1.1 0 68).toInt < (t1.1 0 69).toInt := p_128
        refine lv_bipush (v := 40) C.1 C.2.1 dX12_instruction_76 (by decide) ?_
        refine lv_icmp_eq (tgt := 86) C.1 C.2.1 dX12_instruction_78 (by decide) (fun c_129 => ?_) (fun c_129 => ?_)
        · replace c_129 : r_124.toInt = 40 := i_eq c_129
          exact L_86 t1 w56_2 k56_0 _ _ _ hok hfr ⟨by omega, (i_rng _).2⟩ (show (t1.1 0 71).toInt = -1 ∨ (t.1 0 68).toInt < (t.1 0 69).toInt from by omega) (show (t.1 0 52).toInt ≤ (t1.1 0 52).toInt from by omega) (show (t1.1 0 52).toInt = (t.1 0 52).toInt ∨ ((t1.1 0 52).toInt = (t.1 0 52).toInt + 1 ∧ (t.1 0 68).toInt < (t.1 0 69).toInt) from by omega) (show (t.1 0 68).toInt ≤ (t1.1 0 68).toInt from by omega) (show (t1.1 0 70).toInt = 0 → (t.1 0 70).toInt = 0 from by omega) hP hD hS (lv_sub hl [0, 1, 2, 3] rfl)
        · replace c_129 : ¬ r_124.toInt = 40 := i_ne c_129
          refine lv_aload_n C.1 C.2.1 dX12_instruction_81 rfl (lv_at hl 0 rfl) ?_
          refine lv_iconst (v := 1) C.1 C.2.1 dX12_instruction_82 (by decide) ?_
          have h_130 : (1 : Int32).toInt = 1 := rfl
          refine g_Vv (As := [.int 1]) (rest := []) C hP hD hS hA (T_X12_fail l D K Z Y ad t1 hok 1 (show (1 : Int) ≤ (1 : Int32).toInt ∧ (1 : Int32).toInt ≤ 8 from ⟨by decide, by decide⟩) (show 1 ≤ (1 : Int32).toInt from by omega)) hE hZ (uwV m_32_22 m_32_23 m_33_0 m_1_5 m_33_1) (hdV 1 (by decide +kernel) rfl) ⟨Nat.le_of_ble_eq_true rfl, Nat.le_of_ble_eq_true rfl⟩ rfl rfl (ci := 11) (q0 := 0) rfl rfl rfl hl.1 (Nat.le_of_ble_eq_true rfl) dX12_instruction_83 ⟨Nat.le_of_ble_eq_true rfl, Nat.le_of_ble_eq_true rfl⟩ (fun t_131 H locs hw hP hD hS => ?_)
          obtain ⟨hok, f_133, p_134⟩ := hw
          have hfr : frA [(0, 52), (0, 68), (0, 70), (0, 71), (0, 72), (0, 73)] [] [25, 26, 27] [23] t t_131 := frA_tr hfr f_133 rfl
          have h_135 : (t_131.1 0 52).toInt = (t1.1 0 52).toInt := ti_eq (f_133.1 0 52 rfl)
          have h_136 : (t_131.1 0 68).toInt = (t1.1 0 68).toInt := ti_eq (f_133.1 0 68 rfl)
          have h_137 : (t_131.1 0 69).toInt = (t1.1 0 69).toInt := ti_eq (f_133.1 0 69 rfl)
          have h_138 : (t_131.1 0 71).toInt = (t1.1 0 71).toInt := ti_eq (f_133.1 0 71 rfl)
          have h_139 : (0 : Int) ≤ (t_131.1 0 52).toInt ∧ (t_131.1 0 52).toInt ≤ 1200 := hok.1 0 52
          have h_140 : (0 : Int) ≤ (t_131.1 0 68).toInt ∧ (t_131.1 0 68).toInt ≤ 81 := hok.1 0 68
          have h_141 : (0 : Int) ≤ (t_131.1 0 69).toInt ∧ (t_131.1 0 69).toInt ≤ 81 := hok.1 0 69
          have h_142 : (0 : Int) ≤ (t_131.1 0 70).toInt ∧ (t_131.1 0 70).toInt ≤ 8 := hok.1 0 70
          have h_143 : (-1 : Int) ≤ (t_131.1 0 71).toInt ∧ (t_131.1 0 71).toInt ≤ 2 := hok.1 0 71
          replace p_134 : 1 ≤ (t_131.1 0 70).toInt := p_134
          exact L_86 t_131 w56_2 k56_0 _ _ _ hok hfr ⟨by omega, (i_rng _).2⟩ (show (t_131.1 0 71).toInt = -1 ∨ (t.1 0 68).toInt < (t.1 0 69).toInt from by omega) (show (t.1 0 52).toInt ≤ (t_131.1 0 52).toInt from by omega) (show (t_131.1 0 52).toInt = (t.1 0 52).toInt ∨ ((t_131.1 0 52).toInt = (t.1 0 52).toInt + 1 ∧ (t.1 0 68).toInt < (t.1 0 69).toInt) from by omega) (show (t.1 0 68).toInt ≤ (t_131.1 0 68).toInt from by omega) (show (t_131.1 0 70).toInt = 0 → (t.1 0 70).toInt = 0 from by omega) hP hD hS (lv_sub hl [0, 1, 2, 3] rfl)
  have L_29 : ∀ (t1 : tSt) (w29_2 : Int32) (H : Heap) (locs : List Loc) (ls : Array Slot), okM t1 → frA [(0, 52), (0, 68), (0, 70), (0, 71), (0, 72), (0, 73)] [] [25, 26, 27] [23] t t1 → (0 : Int) ≤ w29_2.toInt ∧ w29_2.toInt ≤ 2147483647 → ((t1.1 0 71).toInt = -1 ∨ (t.1 0 68).toInt < (t.1 0 69).toInt) → ((t.1 0 52).toInt ≤ (t1.1 0 52).toInt) → ((t1.1 0 52).toInt = (t.1 0 52).toInt ∨ ((t1.1 0 52).toInt = (t.1 0 52).toInt + 1 ∧ (t.1 0 68).toInt < (t.1 0 69).toInt)) → ((t.1 0 68).toInt ≤ (t1.1 0 68).toInt) → ((t1.1 0 70).toInt = 0 → (t.1 0 70).toInt = 0) → va_P D vwCl (WM K ad t1) H → va_D A (WM K ad t1) → va_S A s.heap H locs → lv_has ls 5 [(0, .ref (ad 0)), (1, .int x1), (2, .int w29_2)] → W p l e (rmD 15 0 0) s m [.ref (ad 0), .int x1].toArray below meth c H locs 0 0 (MQ below (QI D K (fun (r : Int32) (u : tSt) => okM u ∧ frA [(0, 52), (0, 68), (0, 70), (0, 71), (0, 72), (0, 73)] [] [25, 26, 27] [23] t u ∧ (-2147483648 : Int) ≤ r.toInt ∧ r.toInt ≤ 2147483647 ∧ ((u.1 0 71).toInt = -1 ∨ (t.1 0 68).toInt < (t.1 0 69).toInt) ∧ ((t.1 0 52).toInt ≤ (u.1 0 52).toInt) ∧ ((u.1 0 52).toInt = (t.1 0 52).toInt ∨ ((u.1 0 52).toInt = (t.1 0 52).toInt + 1 ∧ (t.1 0 68).toInt < (t.1 0 69).toInt)) ∧ ((u.1 0 70).toInt = 0 → (t.1 0 70).toInt = 0)) (fun (u : tSt) => WM K ad u) A) [.ref (ad 0), .int x1].toArray s 0 0 A) (F0 m 29 ls []) := by
    intro t1 w29_2 H locs ls hok hfr hw29_2 hi29_0 hi29_1 hi29_2 hi29_3 hi29_4 hP hD hS hl
    have h_144 : (t1.1 0 69).toInt = (t.1 0 69).toInt := ti_eq (hfr.1 0 69 rfl)
    have h_145 : (0 : Int) ≤ (t1.1 0 52).toInt ∧ (t1.1 0 52).toInt ≤ 1200 := hok.1 0 52
    have h_146 : (0 : Int) ≤ (t1.1 0 68).toInt ∧ (t1.1 0 68).toInt ≤ 81 := hok.1 0 68
    have h_147 : (0 : Int) ≤ (t1.1 0 69).toInt ∧ (t1.1 0 69).toInt ≤ 81 := hok.1 0 69
    have h_148 : (0 : Int) ≤ (t1.1 0 70).toInt ∧ (t1.1 0 70).toInt ≤ 8 := hok.1 0 70
    have h_149 : (-1 : Int) ≤ (t1.1 0 71).toInt ∧ (t1.1 0 71).toInt ≤ 2 := hok.1 0 71
    refine lv_aload_n C.1 C.2.1 dX12_instruction_29 rfl (lv_at hl 0 rfl) ?_
    refine k_get (v := .int (t1.1 0 70)) C hP 0 rfl rfl inlX12 70 (by decide) m_29_13 rfl dX12_instruction_30 ?_
    refine lv_if_ne (tgt := 55) C.1 C.2.1 dX12_instruction_33 (by decide) (fun c_150 => ?_) (fun c_150 => ?_)
    · replace c_150 : ¬ (t1.1 0 70).toInt = 0 := i_ne c_150
      refine lv_iconst (v := 0) C.1 C.2.1 dX12_instruction_55 (by decide) ?_
      exact L_56 t1 w29_2 0 _ _ _ hok hfr ⟨by omega, (i_rng _).2⟩ (show (t1.1 0 71).toInt = -1 ∨ (t.1 0 68).toInt < (t.1 0 69).toInt from by omega) (show (t.1 0 52).toInt ≤ (t1.1 0 52).toInt from by omega) (show (t1.1 0 52).toInt = (t.1 0 52).toInt ∨ ((t1.1 0 52).toInt = (t.1 0 52).toInt + 1 ∧ (t.1 0 68).toInt < (t.1 0 69).toInt) from by omega) (show (t.1 0 68).toInt ≤ (t1.1 0 68).toInt from by omega) (show (t1.1 0 70).toInt = 0 → (t.1 0 70).toInt = 0 from by omega) hP hD hS (lv_sub hl [0, 1, 2] rfl)
    · replace c_150 : (t1.1 0 70).toInt = 0 := i_eq c_150
      refine lv_aload_n C.1 C.2.1 dX12_instruction_36 rfl (lv_at hl 0 rfl) ?_
      refine g_Vi (As := []) (rest := []) C hP hD hS hA (T_X12_now l D K Z Y ad t1 hok (show 1 ≤ (t1.1 0 68).toInt from by omega)) hE hZ (uwV m_34_20 m_34_21 m_34_22 m_1_5 m_34_23) (hdV 0 (by decide +kernel) rfl) ⟨Nat.le_of_ble_eq_true rfl, Nat.le_of_ble_eq_true rfl⟩ rfl rfl (ci := 11) (q0 := 0) rfl rfl rfl hl.1 (Nat.le_of_ble_eq_true rfl) dX12_instruction_37 ⟨Nat.le_of_ble_eq_true rfl, Nat.le_of_ble_eq_true rfl⟩ (fun r_152 t_151 H locs hw hP hD hS => ?_)
      obtain ⟨h_154, h_155, p_156⟩ := hw
      replace p_156 : r_152.toInt = -1 ∨ (t1.1 0 68).toInt < (t1.1 0 69).toInt := p_156
      refine lv_bipush (v := 44) C.1 C.2.1 dX12_instruction_40 (by decide) ?_
      refine lv_icmp_ne (tgt := 55) C.1 C.2.1 dX12_instruction_42 (by decide) (fun c_157 => ?_) (fun c_157 => ?_)
      · replace c_157 : ¬ r_152.toInt = 44 := i_ne c_157
        refine lv_iconst (v := 0) C.1 C.2.1 dX12_instruction_55 (by decide) ?_
        exact L_56 t1 w29_2 0 _ _ _ hok hfr ⟨by omega, (i_rng _).2⟩ (show (t1.1 0 71).toInt = -1 ∨ (t.1 0 68).toInt < (t.1 0 69).toInt from by omega) (show (t.1 0 52).toInt ≤ (t1.1 0 52).toInt from by omega) (show (t1.1 0 52).toInt = (t.1 0 52).toInt ∨ ((t1.1 0 52).toInt = (t.1 0 52).toInt + 1 ∧ (t.1 0 68).toInt < (t.1 0 69).toInt) from by omega) (show (t.1 0 68).toInt ≤ (t1.1 0 68).toInt from by omega) (show (t1.1 0 70).toInt = 0 → (t.1 0 70).toInt = 0 from by omega) hP hD hS (lv_sub hl [0, 1, 2] rfl)
      · replace c_157 : r_152.toInt = 44 := i_eq c_157
        refine lv_aload_n C.1 C.2.1 dX12_instruction_45 rfl (lv_at hl 0 rfl) ?_
        refine lv_iconst (v := 0) C.1 C.2.1 dX12_instruction_46 (by decide) ?_
        refine lv_bipush (v := 6) C.1 C.2.1 dX12_instruction_47 (by decide) ?_
        have h_158 : (0 : Int32).toInt = 0 := rfl
        have h_159 : (6 : Int32).toInt = 6 := rfl
        refine g_Vi (As := [.int 0, .int 6]) (rest := []) C hP hD hS hA (T_X12_inside l D K Z Y ad t1 hok 0 (show (0 : Int) ≤ (0 : Int32).toInt ∧ (0 : Int32).toInt ≤ 0 from ⟨by decide, by decide⟩) 6 (show (6 : Int) ≤ (6 : Int32).toInt ∧ (6 : Int32).toInt ≤ 63 from ⟨by decide, by decide⟩) (show 1 ≤ (t1.1 0 68).toInt from by omega) (show (t1.1 0 68).toInt < (t1.1 0 69).toInt from by omega)) hE hZ (uwV m_36_20 m_36_21 m_36_22 m_1_5 m_36_23) (hdV 2 (by decide +kernel) rfl) ⟨Nat.le_of_ble_eq_true rfl, Nat.le_of_ble_eq_true rfl⟩ rfl rfl (ci := 11) (q0 := 0) rfl rfl rfl hl.1 (Nat.le_of_ble_eq_true rfl) dX12_instruction_49 ⟨Nat.le_of_ble_eq_true rfl, Nat.le_of_ble_eq_true rfl⟩ (fun r_161 t_160 H locs hw hP hD hS => ?_)
        obtain ⟨hok, f_162, h_163, h_164, p_165, p_166, p_167, p_168⟩ := hw
        have hfr : frA [(0, 52), (0, 68), (0, 70), (0, 71), (0, 72), (0, 73)] [] [25, 26, 27] [23] t t_160 := frA_tr hfr f_162 rfl
        have h_169 : (t_160.1 0 52).toInt = (t1.1 0 52).toInt := ti_eq (f_162.1 0 52 rfl)
        have h_170 : (t_160.1 0 69).toInt = (t1.1 0 69).toInt := ti_eq (f_162.1 0 69 rfl)
        have h_171 : (t_160.1 0 71).toInt = (t1.1 0 71).toInt := ti_eq (f_162.1 0 71 rfl)
        have h_172 : (0 : Int) ≤ (t_160.1 0 52).toInt ∧ (t_160.1 0 52).toInt ≤ 1200 := hok.1 0 52
        have h_173 : (0 : Int) ≤ (t_160.1 0 68).toInt ∧ (t_160.1 0 68).toInt ≤ 81 := hok.1 0 68
        have h_174 : (0 : Int) ≤ (t_160.1 0 69).toInt ∧ (t_160.1 0 69).toInt ≤ 81 := hok.1 0 69
        have h_175 : (0 : Int) ≤ (t_160.1 0 70).toInt ∧ (t_160.1 0 70).toInt ≤ 8 := hok.1 0 70
        have h_176 : (-1 : Int) ≤ (t_160.1 0 71).toInt ∧ (t_160.1 0 71).toInt ≤ 2 := hok.1 0 71
        replace p_165 : (t1.1 0 68).toInt < (t_160.1 0 68).toInt := p_165
        replace p_166 : (t_160.1 0 68).toInt ≤ (t1.1 0 69).toInt := p_166
        replace p_167 : (t_160.1 0 70).toInt = 0 → (0 : Int32).toInt ≤ r_161.toInt ∧ r_161.toInt ≤ (6 : Int32).toInt := p_167
        replace p_168 : (t_160.1 0 70).toInt = 0 → (t1.1 0 70).toInt = 0 := p_168
        refine lv_goto (tgt := 56) C.1 C.2.1 dX12_instruction_52 (by decide) ?_
        exact L_56 t_160 w29_2 r_161 _ _ _ hok hfr ⟨by omega, (i_rng _).2⟩ (show (t_160.1 0 71).toInt = -1 ∨ (t.1 0 68).toInt < (t.1 0 69).toInt from by omega) (show (t.1 0 52).toInt ≤ (t_160.1 0 52).toInt from by omega) (show (t_160.1 0 52).toInt = (t.1 0 52).toInt ∨ ((t_160.1 0 52).toInt = (t.1 0 52).toInt + 1 ∧ (t.1 0 68).toInt < (t.1 0 69).toInt) from by omega) (show (t.1 0 68).toInt ≤ (t_160.1 0 68).toInt from by omega) (show (t_160.1 0 70).toInt = 0 → (t.1 0 70).toInt = 0 from by omega) hP hD hS (lv_sub hl [0, 1, 2] rfl)
  refine lv_aload_n C.1 C.2.1 dX12_instruction_0 rfl (lv_at hl 0 rfl) ?_
  refine lv_iconst (v := (-1)) C.1 C.2.1 dX12_instruction_1 (by decide) ?_
  refine k_put (ws' := WM K ad (uI t 0 71 (-1))) (v := .int (-1)) C hP hD hS 0 rfl rfl inlX12 tyX12_ok nmX12 71 (by decide) m_34_6 rfl rfl rfl rfl rfl dX12_instruction_2 (fun H locs hP hD hS => ?_)
  have hok : okM (uI t 0 71 (-1)) := ⟨okI_I hok.1 0 71 (-1) (show (-1 : Int) ≤ ((-1) : Int32).toInt ∧ ((-1) : Int32).toInt ≤ 2 from ⟨by decide, by decide⟩), hok.2.1, hok.2.2.1, hok.2.2.2.1, hok.2.2.2.2.1, hok.2.2.2.2.2.1, hok.2.2.2.2.2.2.1, trivial⟩
  have hfr : frA [(0, 52), (0, 68), (0, 70), (0, 71), (0, 72), (0, 73)] [] [25, 26, 27] [23] t (uI t 0 71 (-1)) := frA_I hfr 0 71 _ rfl
  refine lv_aload_n C.1 C.2.1 dX12_instruction_5 rfl (lv_at hl 0 rfl) ?_
  refine g_Vi (As := []) (rest := []) C hP hD hS hA (T_X12_partA l D K Z Y ad (uI t 0 71 (-1)) hok (show 1 ≤ (t.1 0 68).toInt from by omega) (show (t.1 0 52).toInt ≤ 1199 from by omega)) hE hZ (uwV m_39_7 m_39_8 m_39_9 m_1_5 m_39_10) (hdV 0 (by decide +kernel) rfl) ⟨Nat.le_of_ble_eq_true rfl, Nat.le_of_ble_eq_true rfl⟩ rfl rfl (ci := 11) (q0 := 0) rfl rfl rfl hl.1 (Nat.le_of_ble_eq_true rfl) dX12_instruction_6 ⟨Nat.le_of_ble_eq_true rfl, Nat.le_of_ble_eq_true rfl⟩ (fun r_178 t_177 H locs hw hP hD hS => ?_)
  obtain ⟨hok, f_179, h_180, h_181, p_182, p_183, p_184, p_185, p_186, p_187⟩ := hw
  have hfr : frA [(0, 52), (0, 68), (0, 70), (0, 71), (0, 72), (0, 73)] [] [25, 26, 27] [23] t t_177 := frA_tr hfr f_179 rfl
  have h_188 : (t_177.1 0 69).toInt = (t.1 0 69).toInt := ti_eq (f_179.1 0 69 rfl)
  have h_189 : (0 : Int) ≤ (t_177.1 0 52).toInt ∧ (t_177.1 0 52).toInt ≤ 1200 := hok.1 0 52
  have h_190 : (0 : Int) ≤ (t_177.1 0 68).toInt ∧ (t_177.1 0 68).toInt ≤ 81 := hok.1 0 68
  have h_191 : (0 : Int) ≤ (t_177.1 0 69).toInt ∧ (t_177.1 0 69).toInt ≤ 81 := hok.1 0 69
  have h_192 : (0 : Int) ≤ (t_177.1 0 70).toInt ∧ (t_177.1 0 70).toInt ≤ 8 := hok.1 0 70
  have h_193 : (-1 : Int) ≤ (t_177.1 0 71).toInt ∧ (t_177.1 0 71).toInt ≤ 2 := hok.1 0 71
  replace p_182 : (t.1 0 68).toInt ≤ (t_177.1 0 68).toInt := p_182
  replace p_183 : (t_177.1 0 68).toInt ≤ (t.1 0 69).toInt ∨ (t_177.1 0 68).toInt = (t.1 0 68).toInt := p_183
  replace p_184 : (t_177.1 0 71).toInt = (-1) ∨ (t.1 0 68).toInt < (t.1 0 69).toInt := p_184
  replace p_185 : (t.1 0 52).toInt ≤ (t_177.1 0 52).toInt := p_185
  replace p_186 : (t_177.1 0 52).toInt = (t.1 0 52).toInt ∨ ((t_177.1 0 52).toInt = (t.1 0 52).toInt + 1 ∧ (t.1 0 68).toInt < (t.1 0 69).toInt) := p_186
  replace p_187 : (t_177.1 0 70).toInt = 0 → (t.1 0 70).toInt = 0 := p_187
  refine lv_istore_n (lv' := [(2, .int r_178), (0, .ref (ad 0)), (1, .int x1)]) C.1 C.2.1 dX12_instruction_9 rfl hl (by decide) rfl (fun ls hl => ?_)
  have hl : lv_has ls 5 [(0, .ref (ad 0)), (1, .int x1), (2, .int r_178)] := lv_sub hl [1, 2, 0] rfl
  refine lv_aload_n C.1 C.2.1 dX12_instruction_10 rfl (lv_at hl 0 rfl) ?_
  refine k_get (v := .int (t_177.1 0 70)) C hP 0 rfl rfl inlX12 70 (by decide) m_29_13 rfl dX12_instruction_11 ?_
  refine lv_if_ne (tgt := 29) C.1 C.2.1 dX12_instruction_14 (by decide) (fun c_194 => ?_) (fun c_194 => ?_)
  · replace c_194 : ¬ (t_177.1 0 70).toInt = 0 := i_ne c_194
    exact L_29 t_177 r_178 _ _ _ hok hfr ⟨by omega, (i_rng _).2⟩ (show (t_177.1 0 71).toInt = -1 ∨ (t.1 0 68).toInt < (t.1 0 69).toInt from by omega) (show (t.1 0 52).toInt ≤ (t_177.1 0 52).toInt from by omega) (show (t_177.1 0 52).toInt = (t.1 0 52).toInt ∨ ((t_177.1 0 52).toInt = (t.1 0 52).toInt + 1 ∧ (t.1 0 68).toInt < (t.1 0 69).toInt) from by omega) (show (t.1 0 68).toInt ≤ (t_177.1 0 68).toInt from by omega) (show (t_177.1 0 70).toInt = 0 → (t.1 0 70).toInt = 0 from by omega) hP hD hS (lv_sub hl [0, 1, 2] rfl)
  · replace c_194 : (t_177.1 0 70).toInt = 0 := i_eq c_194
    refine lv_aload_n C.1 C.2.1 dX12_instruction_17 rfl (lv_at hl 0 rfl) ?_
    refine g_Vi (As := []) (rest := []) C hP hD hS hA (T_X12_endsPart l D K Z Y ad t_177 hok (show 1 ≤ (t_177.1 0 68).toInt from by omega)) hE hZ (uwV m_39_13 m_39_14 m_39_15 m_1_5 m_39_16) (hdV 0 (by decide +kernel) rfl) ⟨Nat.le_of_ble_eq_true rfl, Nat.le_of_ble_eq_true rfl⟩ rfl rfl (ci := 11) (q0 := 0) rfl rfl rfl hl.1 (Nat.le_of_ble_eq_true rfl) dX12_instruction_18 ⟨Nat.le_of_ble_eq_true rfl, Nat.le_of_ble_eq_true rfl⟩ (fun r_196 t_195 H locs hw hP hD hS => ?_)
    obtain ⟨h_198, h_199⟩ := hw
    refine lv_if_ne (tgt := 29) C.1 C.2.1 dX12_instruction_21 (by decide) (fun c_200 => ?_) (fun c_200 => ?_)
    · replace c_200 : ¬ r_196.toInt = 0 := i_ne c_200
      exact L_29 t_177 r_178 _ _ _ hok hfr ⟨by omega, (i_rng _).2⟩ (show (t_177.1 0 71).toInt = -1 ∨ (t.1 0 68).toInt < (t.1 0 69).toInt from by omega) (show (t.1 0 52).toInt ≤ (t_177.1 0 52).toInt from by omega) (show (t_177.1 0 52).toInt = (t.1 0 52).toInt ∨ ((t_177.1 0 52).toInt = (t.1 0 52).toInt + 1 ∧ (t.1 0 68).toInt < (t.1 0 69).toInt) from by omega) (show (t.1 0 68).toInt ≤ (t_177.1 0 68).toInt from by omega) (show (t_177.1 0 70).toInt = 0 → (t.1 0 70).toInt = 0 from by omega) hP hD hS (lv_sub hl [0, 1, 2] rfl)
    · replace c_200 : r_196.toInt = 0 := i_eq c_200
      refine lv_aload_n C.1 C.2.1 dX12_instruction_24 rfl (lv_at hl 0 rfl) ?_
      refine lv_iconst (v := 1) C.1 C.2.1 dX12_instruction_25 (by decide) ?_
      have h_201 : (1 : Int32).toInt = 1 := rfl
      refine g_Vv (As := [.int 1]) (rest := []) C hP hD hS hA (T_X12_fail l D K Z Y ad t_177 hok 1 (show (1 : Int) ≤ (1 : Int32).toInt ∧ (1 : Int32).toInt ≤ 8 from ⟨by decide, by decide⟩) (show 1 ≤ (1 : Int32).toInt from by omega)) hE hZ (uwV m_32_22 m_32_23 m_33_0 m_1_5 m_33_1) (hdV 1 (by decide +kernel) rfl) ⟨Nat.le_of_ble_eq_true rfl, Nat.le_of_ble_eq_true rfl⟩ rfl rfl (ci := 11) (q0 := 0) rfl rfl rfl hl.1 (Nat.le_of_ble_eq_true rfl) dX12_instruction_26 ⟨Nat.le_of_ble_eq_true rfl, Nat.le_of_ble_eq_true rfl⟩ (fun t_202 H locs hw hP hD hS => ?_)
      obtain ⟨hok, f_204, p_205⟩ := hw
      have hfr : frA [(0, 52), (0, 68), (0, 70), (0, 71), (0, 72), (0, 73)] [] [25, 26, 27] [23] t t_202 := frA_tr hfr f_204 rfl
      have h_206 : (t_202.1 0 52).toInt = (t_177.1 0 52).toInt := ti_eq (f_204.1 0 52 rfl)
      have h_207 : (t_202.1 0 68).toInt = (t_177.1 0 68).toInt := ti_eq (f_204.1 0 68 rfl)
      have h_208 : (t_202.1 0 69).toInt = (t_177.1 0 69).toInt := ti_eq (f_204.1 0 69 rfl)
      have h_209 : (t_202.1 0 71).toInt = (t_177.1 0 71).toInt := ti_eq (f_204.1 0 71 rfl)
      have h_210 : (0 : Int) ≤ (t_202.1 0 52).toInt ∧ (t_202.1 0 52).toInt ≤ 1200 := hok.1 0 52
      have h_211 : (0 : Int) ≤ (t_202.1 0 68).toInt ∧ (t_202.1 0 68).toInt ≤ 81 := hok.1 0 68
      have h_212 : (0 : Int) ≤ (t_202.1 0 69).toInt ∧ (t_202.1 0 69).toInt ≤ 81 := hok.1 0 69
      have h_213 : (0 : Int) ≤ (t_202.1 0 70).toInt ∧ (t_202.1 0 70).toInt ≤ 8 := hok.1 0 70
      have h_214 : (-1 : Int) ≤ (t_202.1 0 71).toInt ∧ (t_202.1 0 71).toInt ≤ 2 := hok.1 0 71
      replace p_205 : 1 ≤ (t_202.1 0 70).toInt := p_205
      exact L_29 t_202 r_178 _ _ _ hok hfr ⟨by omega, (i_rng _).2⟩ (show (t_202.1 0 71).toInt = -1 ∨ (t.1 0 68).toInt < (t.1 0 69).toInt from by omega) (show (t.1 0 52).toInt ≤ (t_202.1 0 52).toInt from by omega) (show (t_202.1 0 52).toInt = (t.1 0 52).toInt ∨ ((t_202.1 0 52).toInt = (t.1 0 52).toInt + 1 ∧ (t.1 0 68).toInt < (t.1 0 69).toInt) from by omega) (show (t.1 0 68).toInt ≤ (t_202.1 0 68).toInt from by omega) (show (t_202.1 0 70).toInt = 0 → (t.1 0 70).toInt = 0 from by omega) hP hD hS (lv_sub hl [0, 1, 2] rfl)

theorem dX12_workAddress_0 : decode cX12_workAddress 0 = .ok (.aload_n 0, 1) := by decide +kernel
theorem dX12_workAddress_1 : decode cX12_workAddress 1 = .ok (.getfield 494, 3) := by decide +kernel
theorem dX12_workAddress_100 : decode cX12_workAddress 100 = .ok (.aload_n 0, 1) := by decide +kernel
theorem dX12_workAddress_101 : decode cX12_workAddress 101 = .ok (.getfield 596, 3) := by decide +kernel
theorem dX12_workAddress_104 : decode cX12_workAddress 104 = .ok (.ifCond .eq 7, 3) := by decide +kernel
theorem dX12_workAddress_107 : decode cX12_workAddress 107 = .ok (.iconst 0, 1) := by decide +kernel
theorem dX12_workAddress_108 : decode cX12_workAddress 108 = .ok (.goto 6, 3) := by decide +kernel
theorem dX12_workAddress_111 : decode cX12_workAddress 111 = .ok (.sipush (-3999), 3) := by decide +kernel
theorem dX12_workAddress_114 : decode cX12_workAddress 114 = .ok (.sipush 3999, 3) := by decide +kernel
theorem dX12_workAddress_117 : decode cX12_workAddress 117 = .ok (.invokevirtual 599, 3) := by decide +kernel
theorem dX12_workAddress_12 : decode cX12_workAddress 12 = .ok (.aload_n 0, 1) := by decide +kernel
theorem dX12_workAddress_120 : decode cX12_workAddress 120 = .ok (.istore_n 3, 1) := by decide +kernel
theorem dX12_workAddress_121 : decode cX12_workAddress 121 = .ok (.aload_n 0, 1) := by decide +kernel
theorem dX12_workAddress_122 : decode cX12_workAddress 122 = .ok (.getfield 469, 3) := by decide +kernel
theorem dX12_workAddress_125 : decode cX12_workAddress 125 = .ok (.ifCond .le 5, 3) := by decide +kernel
theorem dX12_workAddress_128 : decode cX12_workAddress 128 = .ok (.iconst 0, 1) := by decide +kernel
theorem dX12_workAddress_129 : decode cX12_workAddress 129 = .ok (.ireturn, 1) := by decide +kernel
theorem dX12_workAddress_13 : decode cX12_workAddress 13 = .ok (.invokevirtual 578, 3) := by decide +kernel
theorem dX12_workAddress_130 : decode cX12_workAddress 130 = .ok (.aload_n 0, 1) := by decide +kernel
theorem dX12_workAddress_131 : decode cX12_workAddress 131 = .ok (.iload_n 2, 1) := by decide +kernel
theorem dX12_workAddress_132 : decode cX12_workAddress 132 = .ok (.i2l, 1) := by decide +kernel
theorem dX12_workAddress_133 : decode cX12_workAddress 133 = .ok (.invokestatic 342, 3) := by decide +kernel
theorem dX12_workAddress_136 : decode cX12_workAddress 136 = .ok (.invokevirtual 593, 3) := by decide +kernel
theorem dX12_workAddress_139 : decode cX12_workAddress 139 = .ok (.aload_n 0, 1) := by decide +kernel
theorem dX12_workAddress_140 : decode cX12_workAddress 140 = .ok (.iload_n 3, 1) := by decide +kernel
theorem dX12_workAddress_141 : decode cX12_workAddress 141 = .ok (.putfield 602, 3) := by decide +kernel
theorem dX12_workAddress_144 : decode cX12_workAddress 144 = .ok (.aload_n 0, 1) := by decide +kernel
theorem dX12_workAddress_145 : decode cX12_workAddress 145 = .ok (.invokevirtual 605, 3) := by decide +kernel
theorem dX12_workAddress_148 : decode cX12_workAddress 148 = .ok (.iconst 1, 1) := by decide +kernel
theorem dX12_workAddress_149 : decode cX12_workAddress 149 = .ok (.ireturn, 1) := by decide +kernel
theorem dX12_workAddress_150 : decode cX12_workAddress 150 = .ok (.iload_n 1, 1) := by decide +kernel
theorem dX12_workAddress_151 : decode cX12_workAddress 151 = .ok (.sipush 5002, 3) := by decide +kernel
theorem dX12_workAddress_154 : decode cX12_workAddress 154 = .ok (.if_icmp .ne 10, 3) := by decide +kernel
theorem dX12_workAddress_157 : decode cX12_workAddress 157 = .ok (.aload_n 0, 1) := by decide +kernel
theorem dX12_workAddress_158 : decode cX12_workAddress 158 = .ok (.invokevirtual 578, 3) := by decide +kernel
theorem dX12_workAddress_16 : decode cX12_workAddress 16 = .ok (.istore_n 3, 1) := by decide +kernel
theorem dX12_workAddress_161 : decode cX12_workAddress 161 = .ok (.goto 22, 3) := by decide +kernel
theorem dX12_workAddress_164 : decode cX12_workAddress 164 = .ok (.iload_n 1, 1) := by decide +kernel
theorem dX12_workAddress_165 : decode cX12_workAddress 165 = .ok (.sipush 5003, 3) := by decide +kernel
theorem dX12_workAddress_168 : decode cX12_workAddress 168 = .ok (.if_icmp .ne 10, 3) := by decide +kernel
theorem dX12_workAddress_17 : decode cX12_workAddress 17 = .ok (.aload_n 0, 1) := by decide +kernel
theorem dX12_workAddress_171 : decode cX12_workAddress 171 = .ok (.aload_n 0, 1) := by decide +kernel
theorem dX12_workAddress_172 : decode cX12_workAddress 172 = .ok (.invokevirtual 608, 3) := by decide +kernel
theorem dX12_workAddress_175 : decode cX12_workAddress 175 = .ok (.goto 8, 3) := by decide +kernel
theorem dX12_workAddress_178 : decode cX12_workAddress 178 = .ok (.aload_n 0, 1) := by decide +kernel
theorem dX12_workAddress_179 : decode cX12_workAddress 179 = .ok (.iload_n 1, 1) := by decide +kernel
theorem dX12_workAddress_18 : decode cX12_workAddress 18 = .ok (.getfield 469, 3) := by decide +kernel
theorem dX12_workAddress_180 : decode cX12_workAddress 180 = .ok (.invokevirtual 611, 3) := by decide +kernel
theorem dX12_workAddress_183 : decode cX12_workAddress 183 = .ok (.istore_n 3, 1) := by decide +kernel
theorem dX12_workAddress_184 : decode cX12_workAddress 184 = .ok (.aload_n 0, 1) := by decide +kernel
theorem dX12_workAddress_185 : decode cX12_workAddress 185 = .ok (.getfield 469, 3) := by decide +kernel
theorem dX12_workAddress_188 : decode cX12_workAddress 188 = .ok (.ifCond .ne 8, 3) := by decide +kernel
theorem dX12_workAddress_191 : decode cX12_workAddress 191 = .ok (.aload_n 0, 1) := by decide +kernel
theorem dX12_workAddress_192 : decode cX12_workAddress 192 = .ok (.iload_n 3, 1) := by decide +kernel
theorem dX12_workAddress_193 : decode cX12_workAddress 193 = .ok (.invokevirtual 614, 3) := by decide +kernel
theorem dX12_workAddress_196 : decode cX12_workAddress 196 = .ok (.aload_n 0, 1) := by decide +kernel
theorem dX12_workAddress_197 : decode cX12_workAddress 197 = .ok (.getfield 469, 3) := by decide +kernel
theorem dX12_workAddress_200 : decode cX12_workAddress 200 = .ok (.ifCond .le 5, 3) := by decide +kernel
theorem dX12_workAddress_203 : decode cX12_workAddress 203 = .ok (.iconst 0, 1) := by decide +kernel
theorem dX12_workAddress_204 : decode cX12_workAddress 204 = .ok (.ireturn, 1) := by decide +kernel
theorem dX12_workAddress_205 : decode cX12_workAddress 205 = .ok (.iload_n 1, 1) := by decide +kernel
theorem dX12_workAddress_206 : decode cX12_workAddress 206 = .ok (.sipush 5000, 3) := by decide +kernel
theorem dX12_workAddress_209 : decode cX12_workAddress 209 = .ok (.if_icmp .ge 16, 3) := by decide +kernel
theorem dX12_workAddress_21 : decode cX12_workAddress 21 = .ok (.ifCond .ne 8, 3) := by decide +kernel
theorem dX12_workAddress_212 : decode cX12_workAddress 212 = .ok (.aload_n 0, 1) := by decide +kernel
theorem dX12_workAddress_213 : decode cX12_workAddress 213 = .ok (.getfield 546, 3) := by decide +kernel
theorem dX12_workAddress_216 : decode cX12_workAddress 216 = .ok (.iconst (-1), 1) := by decide +kernel
theorem dX12_workAddress_217 : decode cX12_workAddress 217 = .ok (.if_icmp .eq 8, 3) := by decide +kernel
theorem dX12_workAddress_220 : decode cX12_workAddress 220 = .ok (.aload_n 0, 1) := by decide +kernel
theorem dX12_workAddress_221 : decode cX12_workAddress 221 = .ok (.iload_n 2, 1) := by decide +kernel
theorem dX12_workAddress_222 : decode cX12_workAddress 222 = .ok (.invokevirtual 617, 3) := by decide +kernel
theorem dX12_workAddress_225 : decode cX12_workAddress 225 = .ok (.aload_n 0, 1) := by decide +kernel
theorem dX12_workAddress_226 : decode cX12_workAddress 226 = .ok (.iload_n 2, 1) := by decide +kernel
theorem dX12_workAddress_227 : decode cX12_workAddress 227 = .ok (.i2l, 1) := by decide +kernel
theorem dX12_workAddress_228 : decode cX12_workAddress 228 = .ok (.invokestatic 342, 3) := by decide +kernel
theorem dX12_workAddress_231 : decode cX12_workAddress 231 = .ok (.invokevirtual 593, 3) := by decide +kernel
theorem dX12_workAddress_234 : decode cX12_workAddress 234 = .ok (.iconst 0, 1) := by decide +kernel
theorem dX12_workAddress_235 : decode cX12_workAddress 235 = .ok (.ireturn, 1) := by decide +kernel
theorem dX12_workAddress_24 : decode cX12_workAddress 24 = .ok (.aload_n 0, 1) := by decide +kernel
theorem dX12_workAddress_25 : decode cX12_workAddress 25 = .ok (.iload_n 3, 1) := by decide +kernel
theorem dX12_workAddress_26 : decode cX12_workAddress 26 = .ok (.invokevirtual 593, 3) := by decide +kernel
theorem dX12_workAddress_29 : decode cX12_workAddress 29 = .ok (.goto 205, 3) := by decide +kernel
theorem dX12_workAddress_32 : decode cX12_workAddress 32 = .ok (.iload_n 1, 1) := by decide +kernel
theorem dX12_workAddress_33 : decode cX12_workAddress 33 = .ok (.sipush 5001, 3) := by decide +kernel
theorem dX12_workAddress_36 : decode cX12_workAddress 36 = .ok (.if_icmp .ne 56, 3) := by decide +kernel
theorem dX12_workAddress_39 : decode cX12_workAddress 39 = .ok (.aload_n 0, 1) := by decide +kernel
theorem dX12_workAddress_4 : decode cX12_workAddress 4 = .ok (.istore_n 2, 1) := by decide +kernel
theorem dX12_workAddress_40 : decode cX12_workAddress 40 = .ok (.aload_n 0, 1) := by decide +kernel
theorem dX12_workAddress_41 : decode cX12_workAddress 41 = .ok (.getfield 596, 3) := by decide +kernel
theorem dX12_workAddress_44 : decode cX12_workAddress 44 = .ok (.ifCond .eq 7, 3) := by decide +kernel
theorem dX12_workAddress_47 : decode cX12_workAddress 47 = .ok (.iconst 0, 1) := by decide +kernel
theorem dX12_workAddress_48 : decode cX12_workAddress 48 = .ok (.goto 6, 3) := by decide +kernel
theorem dX12_workAddress_5 : decode cX12_workAddress 5 = .ok (.iload_n 1, 1) := by decide +kernel
theorem dX12_workAddress_51 : decode cX12_workAddress 51 = .ok (.sipush (-3999), 3) := by decide +kernel
theorem dX12_workAddress_54 : decode cX12_workAddress 54 = .ok (.sipush 4000, 3) := by decide +kernel
theorem dX12_workAddress_57 : decode cX12_workAddress 57 = .ok (.invokevirtual 599, 3) := by decide +kernel
theorem dX12_workAddress_6 : decode cX12_workAddress 6 = .ok (.sipush 5000, 3) := by decide +kernel
theorem dX12_workAddress_60 : decode cX12_workAddress 60 = .ok (.istore_n 3, 1) := by decide +kernel
theorem dX12_workAddress_61 : decode cX12_workAddress 61 = .ok (.aload_n 0, 1) := by decide +kernel
theorem dX12_workAddress_62 : decode cX12_workAddress 62 = .ok (.getfield 469, 3) := by decide +kernel
theorem dX12_workAddress_65 : decode cX12_workAddress 65 = .ok (.ifCond .ne 12, 3) := by decide +kernel
theorem dX12_workAddress_68 : decode cX12_workAddress 68 = .ok (.aload_n 0, 1) := by decide +kernel
theorem dX12_workAddress_69 : decode cX12_workAddress 69 = .ok (.iload_n 2, 1) := by decide +kernel
theorem dX12_workAddress_70 : decode cX12_workAddress 70 = .ok (.i2l, 1) := by decide +kernel
theorem dX12_workAddress_71 : decode cX12_workAddress 71 = .ok (.invokestatic 342, 3) := by decide +kernel
theorem dX12_workAddress_74 : decode cX12_workAddress 74 = .ok (.invokevirtual 593, 3) := by decide +kernel
theorem dX12_workAddress_77 : decode cX12_workAddress 77 = .ok (.aload_n 0, 1) := by decide +kernel
theorem dX12_workAddress_78 : decode cX12_workAddress 78 = .ok (.getfield 469, 3) := by decide +kernel
theorem dX12_workAddress_81 : decode cX12_workAddress 81 = .ok (.ifCond .ne 8, 3) := by decide +kernel
theorem dX12_workAddress_84 : decode cX12_workAddress 84 = .ok (.aload_n 0, 1) := by decide +kernel
theorem dX12_workAddress_85 : decode cX12_workAddress 85 = .ok (.iload_n 3, 1) := by decide +kernel
theorem dX12_workAddress_86 : decode cX12_workAddress 86 = .ok (.putfield 494, 3) := by decide +kernel
theorem dX12_workAddress_89 : decode cX12_workAddress 89 = .ok (.goto 145, 3) := by decide +kernel
theorem dX12_workAddress_9 : decode cX12_workAddress 9 = .ok (.if_icmp .ne 23, 3) := by decide +kernel
theorem dX12_workAddress_92 : decode cX12_workAddress 92 = .ok (.iload_n 1, 1) := by decide +kernel
theorem dX12_workAddress_93 : decode cX12_workAddress 93 = .ok (.sipush 5004, 3) := by decide +kernel
theorem dX12_workAddress_96 : decode cX12_workAddress 96 = .ok (.if_icmp .ne 54, 3) := by decide +kernel
theorem dX12_workAddress_99 : decode cX12_workAddress 99 = .ok (.aload_n 0, 1) := by decide +kernel
set_option maxHeartbeats 4000000 in
set_option maxRecDepth 100000 in
theorem T_X12_workAddress (l : Launch) (D : va_G) (K : Nat → ClassId) (Z Y : Nat → Nat) (ad : Nat → Nat) (t : tSt) (hok : okM t) (x1 : Int32) (hx1 : (-1 : Int) ≤ x1.toInt ∧ x1.toInt ≤ 6399) (hs0 : (t.1 0 68).toInt = 17) (hs1 : (t.2.2.1 19 ((t.1 0 67) : Int32).toNatClampNeg).toInt + 12 ≤ (t.2.2.1 20 ((t.1 0 67) : Int32).toNatClampNeg).toInt) (hs2 : (t.1 0 69).toInt ≤ 17 ∨ (t.2.2.1 19 ((t.1 0 67) : Int32).toNatClampNeg).toInt + 17 ≤ (t.2.2.1 20 ((t.1 0 67) : Int32).toNatClampNeg).toInt) (hs3 : (t.1 0 52).toInt ≤ 1190) (hs4 : (t.1 0 60).toInt ≤ 1190) : tMet l yX12_workAddress cX12_workAddress 4 (some .boolean) (rmD 16 0 0) D K Z Y [.ref (ad 0), .int x1] (WM K ad t) (QI D K (fun (r : Int32) (u : tSt) => okM u ∧ frA [(0, 45), (0, 47), (0, 48), (0, 52), (0, 60), (0, 68), (0, 70), (0, 71), (0, 72), (0, 73)] [] [2, 21, 22, 24, 25, 26, 27, 28, 29, 30, 31, 32, 33, 34, 35, 44] [23] t u ∧ (0 : Int) ≤ r.toInt ∧ r.toInt ≤ 1 ∧ ((t.1 0 52).toInt ≤ (u.1 0 52).toInt) ∧ (9 * ((u.1 0 52).toInt - (t.1 0 52).toInt) ≤ (t.2.2.1 20 ((t.1 0 67) : Int32).toNatClampNeg).toInt + 1 - (t.2.2.1 19 ((t.1 0 67) : Int32).toNatClampNeg).toInt) ∧ ((t.1 0 60).toInt ≤ (u.1 0 60).toInt) ∧ (13 * ((u.1 0 60).toInt - (t.1 0 60).toInt) ≤ (t.2.2.1 20 ((t.1 0 67) : Int32).toNatClampNeg).toInt + 1 - (t.2.2.1 19 ((t.1 0 67) : Int32).toNatClampNeg).toInt)) (fun (u : tSt) => WM K ad u)) 0 0 := by
  refine t_met RX12 ⟨rfl, by decide +kernel⟩ (Nat.le_of_ble_eq_true rfl) ?_
  intro p e s m below meth c A ls C hE hZ hr hlocks hA hP hD hS hl
  have hl : lv_has ls 4 [(0, .ref (ad 0)), (1, .int x1)] := hl
  have hokt := hok
  have hfr : frA [(0, 45), (0, 47), (0, 48), (0, 52), (0, 60), (0, 68), (0, 70), (0, 71), (0, 72), (0, 73)] [] [2, 21, 22, 24, 25, 26, 27, 28, 29, 30, 31, 32, 33, 34, 35, 44] [23] t t := frA_rf
  have h_1 : (-3999 : Int) ≤ (t.1 0 47).toInt ∧ (t.1 0 47).toInt ≤ 4000 := hok.1 0 47
  have h_2 : (0 : Int) ≤ (t.1 0 52).toInt ∧ (t.1 0 52).toInt ≤ 1200 := hok.1 0 52
  have h_3 : (0 : Int) ≤ (t.1 0 60).toInt ∧ (t.1 0 60).toInt ≤ 1200 := hok.1 0 60
  have h_4 : (0 : Int) ≤ (t.1 0 67).toInt ∧ (t.1 0 67).toInt ≤ 1281 := hok.1 0 67
  have h_5 : (0 : Int) ≤ (t.1 0 68).toInt ∧ (t.1 0 68).toInt ≤ 81 := hok.1 0 68
  have h_6 : (0 : Int) ≤ (t.1 0 69).toInt ∧ (t.1 0 69).toInt ≤ 81 := hok.1 0 69
  have h_7 : (0 : Int) ≤ (t.1 0 70).toInt ∧ (t.1 0 70).toInt ≤ 8 := hok.1 0 70
  have h_8 : (-1 : Int) ≤ (t.1 0 71).toInt ∧ (t.1 0 71).toInt ≤ 2 := hok.1 0 71
  have L_234 : ∀ (t1 : tSt) (w234_2 : Int32) (w234_3 : Int32) (H : Heap) (locs : List Loc) (ls : Array Slot), okM t1 → frA [(0, 45), (0, 47), (0, 48), (0, 52), (0, 60), (0, 68), (0, 70), (0, 71), (0, 72), (0, 73)] [] [2, 21, 22, 24, 25, 26, 27, 28, 29, 30, 31, 32, 33, 34, 35, 44] [23] t t1 → (-3999 : Int) ≤ w234_2.toInt ∧ w234_2.toInt ≤ 4000 → ((t.1 0 52).toInt ≤ (t1.1 0 52).toInt) → (9 * ((t1.1 0 52).toInt - (t.1 0 52).toInt) ≤ (t.2.2.1 20 ((t.1 0 67) : Int32).toNatClampNeg).toInt + 1 - (t.2.2.1 19 ((t.1 0 67) : Int32).toNatClampNeg).toInt) → ((t1.1 0 60).toInt = (t.1 0 60).toInt ∨ (t1.1 0 60).toInt = (t.1 0 60).toInt + 1) → va_P D vwCl (WM K ad t1) H → va_D A (WM K ad t1) → va_S A s.heap H locs → lv_has ls 4 [(0, .ref (ad 0)), (1, .int x1), (2, .int w234_2), (3, .int w234_3)] → W p l e (rmD 16 0 0) s m [.ref (ad 0), .int x1].toArray below meth c H locs 0 0 (MQ below (QI D K (fun (r : Int32) (u : tSt) => okM u ∧ frA [(0, 45), (0, 47), (0, 48), (0, 52), (0, 60), (0, 68), (0, 70), (0, 71), (0, 72), (0, 73)] [] [2, 21, 22, 24, 25, 26, 27, 28, 29, 30, 31, 32, 33, 34, 35, 44] [23] t u ∧ (0 : Int) ≤ r.toInt ∧ r.toInt ≤ 1 ∧ ((t.1 0 52).toInt ≤ (u.1 0 52).toInt) ∧ (9 * ((u.1 0 52).toInt - (t.1 0 52).toInt) ≤ (t.2.2.1 20 ((t.1 0 67) : Int32).toNatClampNeg).toInt + 1 - (t.2.2.1 19 ((t.1 0 67) : Int32).toNatClampNeg).toInt) ∧ ((t.1 0 60).toInt ≤ (u.1 0 60).toInt) ∧ (13 * ((u.1 0 60).toInt - (t.1 0 60).toInt) ≤ (t.2.2.1 20 ((t.1 0 67) : Int32).toNatClampNeg).toInt + 1 - (t.2.2.1 19 ((t.1 0 67) : Int32).toNatClampNeg).toInt)) (fun (u : tSt) => WM K ad u) A) [.ref (ad 0), .int x1].toArray s 0 0 A) (F0 m 234 ls []) := by
    intro t1 w234_2 w234_3 H locs ls hok hfr hw234_2 hi234_0 hi234_1 hi234_2 hP hD hS hl
    have h_9 : (t1.1 0 67).toInt = (t.1 0 67).toInt := ti_eq (hfr.1 0 67 rfl)
    have h_10 : (t1.1 0 69).toInt = (t.1 0 69).toInt := ti_eq (hfr.1 0 69 rfl)
    have e_11 : t1.2.2.1 19 = t.2.2.1 19 := hfr.2.2.1 19 rfl
    have e_12 : t1.2.2.1 20 = t.2.2.1 20 := hfr.2.2.1 20 rfl
    have h_13 : (-3999 : Int) ≤ (t1.1 0 47).toInt ∧ (t1.1 0 47).toInt ≤ 4000 := hok.1 0 47
    have h_14 : (0 : Int) ≤ (t1.1 0 52).toInt ∧ (t1.1 0 52).toInt ≤ 1200 := hok.1 0 52
    have h_15 : (0 : Int) ≤ (t1.1 0 60).toInt ∧ (t1.1 0 60).toInt ≤ 1200 := hok.1 0 60
    have h_16 : (0 : Int) ≤ (t1.1 0 67).toInt ∧ (t1.1 0 67).toInt ≤ 1281 := hok.1 0 67
    have h_17 : (0 : Int) ≤ (t1.1 0 68).toInt ∧ (t1.1 0 68).toInt ≤ 81 := hok.1 0 68
    have h_18 : (0 : Int) ≤ (t1.1 0 69).toInt ∧ (t1.1 0 69).toInt ≤ 81 := hok.1 0 69
    have h_19 : (0 : Int) ≤ (t1.1 0 70).toInt ∧ (t1.1 0 70).toInt ≤ 8 := hok.1 0 70
    have h_20 : (-1 : Int) ≤ (t1.1 0 71).toInt ∧ (t1.1 0 71).toInt ≤ 2 := hok.1 0 71
    have h_21 : (t.2.2.1 19 (t1.1 0 67 : Int32).toNatClampNeg).toInt = (t.2.2.1 19 (t.1 0 67 : Int32).toNatClampNeg).toInt := by rw [hfr.1 0 67 rfl]
    have h_22 : (t.2.2.1 20 (t1.1 0 67 : Int32).toNatClampNeg).toInt = (t.2.2.1 20 (t.1 0 67 : Int32).toNatClampNeg).toInt := by rw [hfr.1 0 67 rfl]
    refine lv_iconst (v := 0) C.1 C.2.1 dX12_workAddress_234 (by decide) ?_
    exact g_iret C hr hlocks hP hD hS (by decide) t1 rfl ⟨hok, hfr, by decide, by decide, (show (t.1 0 52).toInt ≤ (t1.1 0 52).toInt from by omega), (show 9 * ((t1.1 0 52).toInt - (t.1 0 52).toInt) ≤ (t.2.2.1 20 ((t.1 0 67) : Int32).toNatClampNeg).toInt + 1 - (t.2.2.1 19 ((t.1 0 67) : Int32).toNatClampNeg).toInt from by omega), (show (t.1 0 60).toInt ≤ (t1.1 0 60).toInt from by omega), (show 13 * ((t1.1 0 60).toInt - (t.1 0 60).toInt) ≤ (t.2.2.1 20 ((t.1 0 67) : Int32).toNatClampNeg).toInt + 1 - (t.2.2.1 19 ((t.1 0 67) : Int32).toNatClampNeg).toInt from by omega)⟩ (Nat.le_of_ble_eq_true rfl) (Nat.le_of_ble_eq_true rfl) dX12_workAddress_235
  have L_225 : ∀ (t1 : tSt) (w225_2 : Int32) (w225_3 : Int32) (H : Heap) (locs : List Loc) (ls : Array Slot), okM t1 → frA [(0, 45), (0, 47), (0, 48), (0, 52), (0, 60), (0, 68), (0, 70), (0, 71), (0, 72), (0, 73)] [] [2, 21, 22, 24, 25, 26, 27, 28, 29, 30, 31, 32, 33, 34, 35, 44] [23] t t1 → (-3999 : Int) ≤ w225_2.toInt ∧ w225_2.toInt ≤ 4000 → (0 : Int) ≤ (t1.1 0 70).toInt ∧ (t1.1 0 70).toInt ≤ 0 → ((t1.1 0 60).toInt = (t.1 0 60).toInt ∨ ((t1.1 0 60).toInt = (t.1 0 60).toInt + 1)) → ((t.1 0 52).toInt ≤ (t1.1 0 52).toInt) → ((t1.1 0 52).toInt = (t.1 0 52).toInt ∨ ((t1.1 0 52).toInt = (t.1 0 52).toInt + 1 ∧ (t.1 0 68).toInt < (t.1 0 69).toInt)) → va_P D vwCl (WM K ad t1) H → va_D A (WM K ad t1) → va_S A s.heap H locs → lv_has ls 4 [(0, .ref (ad 0)), (1, .int x1), (2, .int w225_2), (3, .int w225_3)] → W p l e (rmD 16 0 0) s m [.ref (ad 0), .int x1].toArray below meth c H locs 0 0 (MQ below (QI D K (fun (r : Int32) (u : tSt) => okM u ∧ frA [(0, 45), (0, 47), (0, 48), (0, 52), (0, 60), (0, 68), (0, 70), (0, 71), (0, 72), (0, 73)] [] [2, 21, 22, 24, 25, 26, 27, 28, 29, 30, 31, 32, 33, 34, 35, 44] [23] t u ∧ (0 : Int) ≤ r.toInt ∧ r.toInt ≤ 1 ∧ ((t.1 0 52).toInt ≤ (u.1 0 52).toInt) ∧ (9 * ((u.1 0 52).toInt - (t.1 0 52).toInt) ≤ (t.2.2.1 20 ((t.1 0 67) : Int32).toNatClampNeg).toInt + 1 - (t.2.2.1 19 ((t.1 0 67) : Int32).toNatClampNeg).toInt) ∧ ((t.1 0 60).toInt ≤ (u.1 0 60).toInt) ∧ (13 * ((u.1 0 60).toInt - (t.1 0 60).toInt) ≤ (t.2.2.1 20 ((t.1 0 67) : Int32).toNatClampNeg).toInt + 1 - (t.2.2.1 19 ((t.1 0 67) : Int32).toNatClampNeg).toInt)) (fun (u : tSt) => WM K ad u) A) [.ref (ad 0), .int x1].toArray s 0 0 A) (F0 m 225 ls []) := by
    intro t1 w225_2 w225_3 H locs ls hok hfr hw225_2 hf225_70 hi225_0 hi225_1 hi225_2 hP hD hS hl
    have h_23 : (t1.1 0 67).toInt = (t.1 0 67).toInt := ti_eq (hfr.1 0 67 rfl)
    have h_24 : (t1.1 0 69).toInt = (t.1 0 69).toInt := ti_eq (hfr.1 0 69 rfl)
    have e_25 : t1.2.2.1 19 = t.2.2.1 19 := hfr.2.2.1 19 rfl
    have e_26 : t1.2.2.1 20 = t.2.2.1 20 := hfr.2.2.1 20 rfl
    have h_27 : (-3999 : Int) ≤ (t1.1 0 47).toInt ∧ (t1.1 0 47).toInt ≤ 4000 := hok.1 0 47
    have h_28 : (0 : Int) ≤ (t1.1 0 52).toInt ∧ (t1.1 0 52).toInt ≤ 1200 := hok.1 0 52
    have h_29 : (0 : Int) ≤ (t1.1 0 60).toInt ∧ (t1.1 0 60).toInt ≤ 1200 := hok.1 0 60
    have h_30 : (0 : Int) ≤ (t1.1 0 67).toInt ∧ (t1.1 0 67).toInt ≤ 1281 := hok.1 0 67
    have h_31 : (0 : Int) ≤ (t1.1 0 68).toInt ∧ (t1.1 0 68).toInt ≤ 81 := hok.1 0 68
    have h_32 : (0 : Int) ≤ (t1.1 0 69).toInt ∧ (t1.1 0 69).toInt ≤ 81 := hok.1 0 69
    have h_33 : (-1 : Int) ≤ (t1.1 0 71).toInt ∧ (t1.1 0 71).toInt ≤ 2 := hok.1 0 71
    have h_34 : (t.2.2.1 19 (t1.1 0 67 : Int32).toNatClampNeg).toInt = (t.2.2.1 19 (t.1 0 67 : Int32).toNatClampNeg).toInt := by rw [hfr.1 0 67 rfl]
    have h_35 : (t.2.2.1 20 (t1.1 0 67 : Int32).toNatClampNeg).toInt = (t.2.2.1 20 (t.1 0 67 : Int32).toNatClampNeg).toInt := by rw [hfr.1 0 67 rfl]
    refine lv_aload_n C.1 C.2.1 dX12_workAddress_225 rfl (lv_at hl 0 rfl) ?_
    refine lv_iload_n C.1 C.2.1 dX12_workAddress_226 rfl (lv_at hl 2 rfl) ?_
    obtain ⟨v_36, e_37⟩ : ∃ z, z = (w225_2 : Int32).toInt64 := ⟨_, rfl⟩
    have h_38 : v_36.toInt = w225_2.toInt := by rw [e_37]; exact Jvm.Kit.i64_of_i32 _
    refine lv_i2l (v := v_36) C.1 C.2.1 dX12_workAddress_227 e_37.symm ?_
    refine g_Si (As := [.long v_36]) (rest := [.ref (ad 0)]) C hP hD hS hA (T_X12_wordOf l D K Z Y ad t1 hok (v_36)) hE hZ (uwS m_35_4 m_35_5 m_1_5 m_35_6) (hdS 1 (by decide +kernel) rfl) ⟨Nat.le_of_ble_eq_true rfl, Nat.le_of_ble_eq_true rfl⟩ rfl rfl rfl hl.1 (Nat.le_of_ble_eq_true rfl) dX12_workAddress_228 ⟨Nat.le_of_ble_eq_true rfl, Nat.le_of_ble_eq_true rfl⟩ (fun r_40 t_39 H locs hw hP hD hS => ?_)
    obtain ⟨h_42, h_43⟩ := hw
    refine g_Vv (As := [.int r_40]) (rest := []) C hP hD hS hA (T_X12_define l D K Z Y ad t1 hok (r_40) (show (t1.1 0 52).toInt ≤ 1199 from by omega)) hE hZ (uwV m_37_10 m_37_11 m_37_12 m_1_5 m_37_13) (hdV 1 (by decide +kernel) rfl) ⟨Nat.le_of_ble_eq_true rfl, Nat.le_of_ble_eq_true rfl⟩ rfl rfl (ci := 11) (q0 := 0) rfl rfl rfl hl.1 (Nat.le_of_ble_eq_true rfl) dX12_workAddress_231 ⟨Nat.le_of_ble_eq_true rfl, Nat.le_of_ble_eq_true rfl⟩ (fun t_44 H locs hw hP hD hS => ?_)
    obtain ⟨hok, f_46, p_47, p_48⟩ := hw
    have hfr : frA [(0, 45), (0, 47), (0, 48), (0, 52), (0, 60), (0, 68), (0, 70), (0, 71), (0, 72), (0, 73)] [] [2, 21, 22, 24, 25, 26, 27, 28, 29, 30, 31, 32, 33, 34, 35, 44] [23] t t_44 := frA_tr hfr f_46 rfl
    have h_49 : (t_44.1 0 70).toInt = (t1.1 0 70).toInt := ti_eq (f_46.1 0 70 rfl)
    have h_50 : (t_44.1 0 47).toInt = (t1.1 0 47).toInt := ti_eq (f_46.1 0 47 rfl)
    have h_51 : (t_44.1 0 60).toInt = (t1.1 0 60).toInt := ti_eq (f_46.1 0 60 rfl)
    have h_52 : (t_44.1 0 67).toInt = (t1.1 0 67).toInt := ti_eq (f_46.1 0 67 rfl)
    have h_53 : (t_44.1 0 68).toInt = (t1.1 0 68).toInt := ti_eq (f_46.1 0 68 rfl)
    have h_54 : (t_44.1 0 69).toInt = (t1.1 0 69).toInt := ti_eq (f_46.1 0 69 rfl)
    have h_55 : (t_44.1 0 71).toInt = (t1.1 0 71).toInt := ti_eq (f_46.1 0 71 rfl)
    have e_56 : t_44.2.2.1 19 = t.2.2.1 19 := (f_46.2.2.1 19 rfl).trans (e_25)
    have e_57 : t_44.2.2.1 20 = t.2.2.1 20 := (f_46.2.2.1 20 rfl).trans (e_26)
    have h_58 : (t.2.2.1 19 (t_44.1 0 67 : Int32).toNatClampNeg).toInt = (t.2.2.1 19 (t1.1 0 67 : Int32).toNatClampNeg).toInt := by rw [show t_44.1 0 67 = t1.1 0 67 from f_46.1 0 67 rfl]
    have h_59 : (t.2.2.1 20 (t_44.1 0 67 : Int32).toNatClampNeg).toInt = (t.2.2.1 20 (t1.1 0 67 : Int32).toNatClampNeg).toInt := by rw [show t_44.1 0 67 = t1.1 0 67 from f_46.1 0 67 rfl]
    have h_60 : (-3999 : Int) ≤ (t_44.1 0 47).toInt ∧ (t_44.1 0 47).toInt ≤ 4000 := hok.1 0 47
    have h_61 : (0 : Int) ≤ (t_44.1 0 52).toInt ∧ (t_44.1 0 52).toInt ≤ 1200 := hok.1 0 52
    have h_62 : (0 : Int) ≤ (t_44.1 0 60).toInt ∧ (t_44.1 0 60).toInt ≤ 1200 := hok.1 0 60
    have h_63 : (0 : Int) ≤ (t_44.1 0 67).toInt ∧ (t_44.1 0 67).toInt ≤ 1281 := hok.1 0 67
    have h_64 : (0 : Int) ≤ (t_44.1 0 68).toInt ∧ (t_44.1 0 68).toInt ≤ 81 := hok.1 0 68
    have h_65 : (0 : Int) ≤ (t_44.1 0 69).toInt ∧ (t_44.1 0 69).toInt ≤ 81 := hok.1 0 69
    have h_66 : (-1 : Int) ≤ (t_44.1 0 71).toInt ∧ (t_44.1 0 71).toInt ≤ 2 := hok.1 0 71
    replace p_47 : (t1.1 0 52).toInt ≤ (t_44.1 0 52).toInt := p_47
    replace p_48 : (t_44.1 0 52).toInt ≤ (t1.1 0 52).toInt + 1 := p_48
    exact L_234 t_44 w225_2 w225_3 _ _ _ hok hfr ⟨by omega, by omega⟩ (show (t.1 0 52).toInt ≤ (t_44.1 0 52).toInt from by omega) (show 9 * ((t_44.1 0 52).toInt - (t.1 0 52).toInt) ≤ (t.2.2.1 20 ((t.1 0 67) : Int32).toNatClampNeg).toInt + 1 - (t.2.2.1 19 ((t.1 0 67) : Int32).toNatClampNeg).toInt from by omega) (show (t_44.1 0 60).toInt = (t.1 0 60).toInt ∨ (t_44.1 0 60).toInt = (t.1 0 60).toInt + 1 from by omega) hP hD hS (lv_sub hl [0, 1, 2, 3] rfl)
  have L_196 : ∀ (t1 : tSt) (w196_2 : Int32) (w196_3 : Int32) (H : Heap) (locs : List Loc) (ls : Array Slot), okM t1 → frA [(0, 45), (0, 47), (0, 48), (0, 52), (0, 60), (0, 68), (0, 70), (0, 71), (0, 72), (0, 73)] [] [2, 21, 22, 24, 25, 26, 27, 28, 29, 30, 31, 32, 33, 34, 35, 44] [23] t t1 → (-3999 : Int) ≤ w196_2.toInt ∧ w196_2.toInt ≤ 4000 → ((t1.1 0 60).toInt = (t.1 0 60).toInt) → ((t.1 0 52).toInt ≤ (t1.1 0 52).toInt) → ((t1.1 0 52).toInt = (t.1 0 52).toInt ∨ ((t1.1 0 52).toInt = (t.1 0 52).toInt + 1 ∧ (t.1 0 68).toInt < (t.1 0 69).toInt)) → (x1.toInt ≥ 5000 ∨ (t1.1 0 71).toInt = -1 ∨ (t.1 0 68).toInt < (t.1 0 69).toInt) → ((t1.1 0 70).toInt = 0 → -3999 ≤ w196_2.toInt ∧ w196_2.toInt ≤ 3999) → va_P D vwCl (WM K ad t1) H → va_D A (WM K ad t1) → va_S A s.heap H locs → lv_has ls 4 [(0, .ref (ad 0)), (1, .int x1), (2, .int w196_2), (3, .int w196_3)] → W p l e (rmD 16 0 0) s m [.ref (ad 0), .int x1].toArray below meth c H locs 0 0 (MQ below (QI D K (fun (r : Int32) (u : tSt) => okM u ∧ frA [(0, 45), (0, 47), (0, 48), (0, 52), (0, 60), (0, 68), (0, 70), (0, 71), (0, 72), (0, 73)] [] [2, 21, 22, 24, 25, 26, 27, 28, 29, 30, 31, 32, 33, 34, 35, 44] [23] t u ∧ (0 : Int) ≤ r.toInt ∧ r.toInt ≤ 1 ∧ ((t.1 0 52).toInt ≤ (u.1 0 52).toInt) ∧ (9 * ((u.1 0 52).toInt - (t.1 0 52).toInt) ≤ (t.2.2.1 20 ((t.1 0 67) : Int32).toNatClampNeg).toInt + 1 - (t.2.2.1 19 ((t.1 0 67) : Int32).toNatClampNeg).toInt) ∧ ((t.1 0 60).toInt ≤ (u.1 0 60).toInt) ∧ (13 * ((u.1 0 60).toInt - (t.1 0 60).toInt) ≤ (t.2.2.1 20 ((t.1 0 67) : Int32).toNatClampNeg).toInt + 1 - (t.2.2.1 19 ((t.1 0 67) : Int32).toNatClampNeg).toInt)) (fun (u : tSt) => WM K ad u) A) [.ref (ad 0), .int x1].toArray s 0 0 A) (F0 m 196 ls []) := by
    intro t1 w196_2 w196_3 H locs ls hok hfr hw196_2 hi196_0 hi196_1 hi196_2 hi196_3 hi196_4 hP hD hS hl
    have h_67 : (t1.1 0 67).toInt = (t.1 0 67).toInt := ti_eq (hfr.1 0 67 rfl)
    have h_68 : (t1.1 0 69).toInt = (t.1 0 69).toInt := ti_eq (hfr.1 0 69 rfl)
    have e_69 : t1.2.2.1 19 = t.2.2.1 19 := hfr.2.2.1 19 rfl
    have e_70 : t1.2.2.1 20 = t.2.2.1 20 := hfr.2.2.1 20 rfl
    have h_71 : (-3999 : Int) ≤ (t1.1 0 47).toInt ∧ (t1.1 0 47).toInt ≤ 4000 := hok.1 0 47
    have h_72 : (0 : Int) ≤ (t1.1 0 52).toInt ∧ (t1.1 0 52).toInt ≤ 1200 := hok.1 0 52
    have h_73 : (0 : Int) ≤ (t1.1 0 60).toInt ∧ (t1.1 0 60).toInt ≤ 1200 := hok.1 0 60
    have h_74 : (0 : Int) ≤ (t1.1 0 67).toInt ∧ (t1.1 0 67).toInt ≤ 1281 := hok.1 0 67
    have h_75 : (0 : Int) ≤ (t1.1 0 68).toInt ∧ (t1.1 0 68).toInt ≤ 81 := hok.1 0 68
    have h_76 : (0 : Int) ≤ (t1.1 0 69).toInt ∧ (t1.1 0 69).toInt ≤ 81 := hok.1 0 69
    have h_77 : (0 : Int) ≤ (t1.1 0 70).toInt ∧ (t1.1 0 70).toInt ≤ 8 := hok.1 0 70
    have h_78 : (-1 : Int) ≤ (t1.1 0 71).toInt ∧ (t1.1 0 71).toInt ≤ 2 := hok.1 0 71
    have h_79 : (t.2.2.1 19 (t1.1 0 67 : Int32).toNatClampNeg).toInt = (t.2.2.1 19 (t.1 0 67 : Int32).toNatClampNeg).toInt := by rw [hfr.1 0 67 rfl]
    have h_80 : (t.2.2.1 20 (t1.1 0 67 : Int32).toNatClampNeg).toInt = (t.2.2.1 20 (t.1 0 67 : Int32).toNatClampNeg).toInt := by rw [hfr.1 0 67 rfl]
    refine lv_aload_n C.1 C.2.1 dX12_workAddress_196 rfl (lv_at hl 0 rfl) ?_
    refine k_get (v := .int (t1.1 0 70)) C hP 0 rfl rfl inlX12 70 (by decide) m_29_13 rfl dX12_workAddress_197 ?_
    refine lv_if_le (tgt := 205) C.1 C.2.1 dX12_workAddress_200 (by decide) (fun c_81 => ?_) (fun c_81 => ?_)
    · replace c_81 : (t1.1 0 70).toInt ≤ 0 := i_le c_81
      refine lv_iload_n C.1 C.2.1 dX12_workAddress_205 rfl (lv_at hl 1 rfl) ?_
      refine lv_sipush (v := 5000) C.1 C.2.1 dX12_workAddress_206 (by decide) ?_
      refine lv_icmp_ge (tgt := 225) C.1 C.2.1 dX12_workAddress_209 (by decide) (fun c_82 => ?_) (fun c_82 => ?_)
      · replace c_82 : 5000 ≤ x1.toInt := i_le c_82
        exact L_225 t1 w196_2 w196_3 _ _ _ hok hfr ⟨by omega, by omega⟩ (show (0 : Int) ≤ ((t1.1 0 70) : Int32).toInt ∧ ((t1.1 0 70) : Int32).toInt ≤ 0 from ⟨by omega, by omega⟩) (show (t1.1 0 60).toInt = (t.1 0 60).toInt ∨ ((t1.1 0 60).toInt = (t.1 0 60).toInt + 1) from by omega) (show (t.1 0 52).toInt ≤ (t1.1 0 52).toInt from by omega) (show (t1.1 0 52).toInt = (t.1 0 52).toInt ∨ ((t1.1 0 52).toInt = (t.1 0 52).toInt + 1 ∧ (t.1 0 68).toInt < (t.1 0 69).toInt) from by omega) hP hD hS (lv_sub hl [0, 1, 2, 3] rfl)
      · replace c_82 : x1.toInt < 5000 := i_nle c_82
        refine lv_aload_n C.1 C.2.1 dX12_workAddress_212 rfl (lv_at hl 0 rfl) ?_
        refine k_get (v := .int (t1.1 0 71)) C hP 0 rfl rfl inlX12 71 (by decide) m_34_6 rfl dX12_workAddress_213 ?_
        refine lv_iconst (v := (-1)) C.1 C.2.1 dX12_workAddress_216 (by decide) ?_
        refine lv_icmp_eq (tgt := 225) C.1 C.2.1 dX12_workAddress_217 (by decide) (fun c_83 => ?_) (fun c_83 => ?_)
        · replace c_83 : (t1.1 0 71).toInt = (-1) := i_eq c_83
          exact L_225 t1 w196_2 w196_3 _ _ _ hok hfr ⟨by omega, by omega⟩ (show (0 : Int) ≤ ((t1.1 0 70) : Int32).toInt ∧ ((t1.1 0 70) : Int32).toInt ≤ 0 from ⟨by omega, by omega⟩) (show (t1.1 0 60).toInt = (t.1 0 60).toInt ∨ ((t1.1 0 60).toInt = (t.1 0 60).toInt + 1) from by omega) (show (t.1 0 52).toInt ≤ (t1.1 0 52).toInt from by omega) (show (t1.1 0 52).toInt = (t.1 0 52).toInt ∨ ((t1.1 0 52).toInt = (t.1 0 52).toInt + 1 ∧ (t.1 0 68).toInt < (t.1 0 69).toInt) from by omega) hP hD hS (lv_sub hl [0, 1, 2, 3] rfl)
        · replace c_83 : ¬ (t1.1 0 71).toInt = (-1) := i_ne c_83
          refine lv_aload_n C.1 C.2.1 dX12_workAddress_220 rfl (lv_at hl 0 rfl) ?_
          refine lv_iload_n C.1 C.2.1 dX12_workAddress_221 rfl (lv_at hl 2 rfl) ?_
          refine g_Vv (As := [.int w196_2]) (rest := []) C hP hD hS hA (T_X12_addFuture l D K Z Y ad t1 hok (w196_2) (show (-3999 : Int) ≤ (w196_2 : Int32).toInt ∧ (w196_2 : Int32).toInt ≤ 4000 from ⟨by omega, by omega⟩) (show (t1.1 0 60).toInt ≤ 1199 from by omega) (show -3999 ≤ w196_2.toInt from by omega) (show w196_2.toInt ≤ 3999 from by omega)) hE hZ (uwV m_39_21 m_39_22 m_39_23 m_1_5 m_40_0) (hdV 1 (by decide +kernel) rfl) ⟨Nat.le_of_ble_eq_true rfl, Nat.le_of_ble_eq_true rfl⟩ rfl rfl (ci := 11) (q0 := 0) rfl rfl rfl hl.1 (Nat.le_of_ble_eq_true rfl) dX12_workAddress_222 ⟨Nat.le_of_ble_eq_true rfl, Nat.le_of_ble_eq_true rfl⟩ (fun t_84 H locs hw hP hD hS => ?_)
          obtain ⟨hok, f_86, p_87⟩ := hw
          have hfr : frA [(0, 45), (0, 47), (0, 48), (0, 52), (0, 60), (0, 68), (0, 70), (0, 71), (0, 72), (0, 73)] [] [2, 21, 22, 24, 25, 26, 27, 28, 29, 30, 31, 32, 33, 34, 35, 44] [23] t t_84 := frA_tr hfr f_86 rfl
          have h_88 : (t_84.1 0 70).toInt = (t1.1 0 70).toInt := ti_eq (f_86.1 0 70 rfl)
          have h_89 : (t_84.1 0 71).toInt = (t1.1 0 71).toInt := ti_eq (f_86.1 0 71 rfl)
          have h_90 : (t_84.1 0 47).toInt = (t1.1 0 47).toInt := ti_eq (f_86.1 0 47 rfl)
          have h_91 : (t_84.1 0 52).toInt = (t1.1 0 52).toInt := ti_eq (f_86.1 0 52 rfl)
          have h_92 : (t_84.1 0 67).toInt = (t1.1 0 67).toInt := ti_eq (f_86.1 0 67 rfl)
          have h_93 : (t_84.1 0 68).toInt = (t1.1 0 68).toInt := ti_eq (f_86.1 0 68 rfl)
          have h_94 : (t_84.1 0 69).toInt = (t1.1 0 69).toInt := ti_eq (f_86.1 0 69 rfl)
          have e_95 : t_84.2.2.1 19 = t.2.2.1 19 := (f_86.2.2.1 19 rfl).trans (e_69)
          have e_96 : t_84.2.2.1 20 = t.2.2.1 20 := (f_86.2.2.1 20 rfl).trans (e_70)
          have h_97 : (t.2.2.1 19 (t_84.1 0 67 : Int32).toNatClampNeg).toInt = (t.2.2.1 19 (t1.1 0 67 : Int32).toNatClampNeg).toInt := by rw [show t_84.1 0 67 = t1.1 0 67 from f_86.1 0 67 rfl]
          have h_98 : (t.2.2.1 20 (t_84.1 0 67 : Int32).toNatClampNeg).toInt = (t.2.2.1 20 (t1.1 0 67 : Int32).toNatClampNeg).toInt := by rw [show t_84.1 0 67 = t1.1 0 67 from f_86.1 0 67 rfl]
          have h_99 : (-3999 : Int) ≤ (t_84.1 0 47).toInt ∧ (t_84.1 0 47).toInt ≤ 4000 := hok.1 0 47
          have h_100 : (0 : Int) ≤ (t_84.1 0 52).toInt ∧ (t_84.1 0 52).toInt ≤ 1200 := hok.1 0 52
          have h_101 : (0 : Int) ≤ (t_84.1 0 60).toInt ∧ (t_84.1 0 60).toInt ≤ 1200 := hok.1 0 60
          have h_102 : (0 : Int) ≤ (t_84.1 0 67).toInt ∧ (t_84.1 0 67).toInt ≤ 1281 := hok.1 0 67
          have h_103 : (0 : Int) ≤ (t_84.1 0 68).toInt ∧ (t_84.1 0 68).toInt ≤ 81 := hok.1 0 68
          have h_104 : (0 : Int) ≤ (t_84.1 0 69).toInt ∧ (t_84.1 0 69).toInt ≤ 81 := hok.1 0 69
          replace p_87 : (t_84.1 0 60).toInt = (t1.1 0 60).toInt + 1 := p_87
          exact L_225 t_84 w196_2 w196_3 _ _ _ hok hfr ⟨by omega, by omega⟩ (show (0 : Int) ≤ ((t_84.1 0 70) : Int32).toInt ∧ ((t_84.1 0 70) : Int32).toInt ≤ 0 from ⟨by omega, by omega⟩) (show (t_84.1 0 60).toInt = (t.1 0 60).toInt ∨ ((t_84.1 0 60).toInt = (t.1 0 60).toInt + 1) from by omega) (show (t.1 0 52).toInt ≤ (t_84.1 0 52).toInt from by omega) (show (t_84.1 0 52).toInt = (t.1 0 52).toInt ∨ ((t_84.1 0 52).toInt = (t.1 0 52).toInt + 1 ∧ (t.1 0 68).toInt < (t.1 0 69).toInt) from by omega) hP hD hS (lv_sub hl [0, 1, 2, 3] rfl)
    · replace c_81 : 0 < (t1.1 0 70).toInt := i_nle c_81
      refine lv_iconst (v := 0) C.1 C.2.1 dX12_workAddress_203 (by decide) ?_
      exact g_iret C hr hlocks hP hD hS (by decide) t1 rfl ⟨hok, hfr, by decide, by decide, (show (t.1 0 52).toInt ≤ (t1.1 0 52).toInt from by omega), (show 9 * ((t1.1 0 52).toInt - (t.1 0 52).toInt) ≤ (t.2.2.1 20 ((t.1 0 67) : Int32).toNatClampNeg).toInt + 1 - (t.2.2.1 19 ((t.1 0 67) : Int32).toNatClampNeg).toInt from by omega), (show (t.1 0 60).toInt ≤ (t1.1 0 60).toInt from by omega), (show 13 * ((t1.1 0 60).toInt - (t.1 0 60).toInt) ≤ (t.2.2.1 20 ((t.1 0 67) : Int32).toNatClampNeg).toInt + 1 - (t.2.2.1 19 ((t.1 0 67) : Int32).toNatClampNeg).toInt from by omega)⟩ (Nat.le_of_ble_eq_true rfl) (Nat.le_of_ble_eq_true rfl) dX12_workAddress_204
  have L_183 : ∀ (t1 : tSt) (w183_2 : Int32) (k183_0 : Int32) (H : Heap) (locs : List Loc) (ls : Array Slot), okM t1 → frA [(0, 45), (0, 47), (0, 48), (0, 52), (0, 60), (0, 68), (0, 70), (0, 71), (0, 72), (0, 73)] [] [2, 21, 22, 24, 25, 26, 27, 28, 29, 30, 31, 32, 33, 34, 35, 44] [23] t t1 → (-3999 : Int) ≤ w183_2.toInt ∧ w183_2.toInt ≤ 4000 → ((t1.1 0 60).toInt = (t.1 0 60).toInt) → ((t.1 0 52).toInt ≤ (t1.1 0 52).toInt) → ((t1.1 0 52).toInt = (t.1 0 52).toInt ∨ ((t1.1 0 52).toInt = (t.1 0 52).toInt + 1 ∧ (t.1 0 68).toInt < (t.1 0 69).toInt)) → (x1.toInt ≥ 5000 ∨ (t1.1 0 71).toInt = -1 ∨ (t.1 0 68).toInt < (t.1 0 69).toInt) → (w183_2.toInt = (t1.1 0 47).toInt) → va_P D vwCl (WM K ad t1) H → va_D A (WM K ad t1) → va_S A s.heap H locs → lv_has ls 4 [(0, .ref (ad 0)), (1, .int x1), (2, .int w183_2)] → W p l e (rmD 16 0 0) s m [.ref (ad 0), .int x1].toArray below meth c H locs 0 0 (MQ below (QI D K (fun (r : Int32) (u : tSt) => okM u ∧ frA [(0, 45), (0, 47), (0, 48), (0, 52), (0, 60), (0, 68), (0, 70), (0, 71), (0, 72), (0, 73)] [] [2, 21, 22, 24, 25, 26, 27, 28, 29, 30, 31, 32, 33, 34, 35, 44] [23] t u ∧ (0 : Int) ≤ r.toInt ∧ r.toInt ≤ 1 ∧ ((t.1 0 52).toInt ≤ (u.1 0 52).toInt) ∧ (9 * ((u.1 0 52).toInt - (t.1 0 52).toInt) ≤ (t.2.2.1 20 ((t.1 0 67) : Int32).toNatClampNeg).toInt + 1 - (t.2.2.1 19 ((t.1 0 67) : Int32).toNatClampNeg).toInt) ∧ ((t.1 0 60).toInt ≤ (u.1 0 60).toInt) ∧ (13 * ((u.1 0 60).toInt - (t.1 0 60).toInt) ≤ (t.2.2.1 20 ((t.1 0 67) : Int32).toNatClampNeg).toInt + 1 - (t.2.2.1 19 ((t.1 0 67) : Int32).toNatClampNeg).toInt)) (fun (u : tSt) => WM K ad u) A) [.ref (ad 0), .int x1].toArray s 0 0 A) (F0 m 183 ls [.int k183_0]) := by
    intro t1 w183_2 k183_0 H locs ls hok hfr hw183_2 hi183_0 hi183_1 hi183_2 hi183_3 hi183_4 hP hD hS hl
    have h_105 : (t1.1 0 67).toInt = (t.1 0 67).toInt := ti_eq (hfr.1 0 67 rfl)
    have h_106 : (t1.1 0 69).toInt = (t.1 0 69).toInt := ti_eq (hfr.1 0 69 rfl)
    have e_107 : t1.2.2.1 19 = t.2.2.1 19 := hfr.2.2.1 19 rfl
    have e_108 : t1.2.2.1 20 = t.2.2.1 20 := hfr.2.2.1 20 rfl
    have h_109 : (-3999 : Int) ≤ (t1.1 0 47).toInt ∧ (t1.1 0 47).toInt ≤ 4000 := hok.1 0 47
    have h_110 : (0 : Int) ≤ (t1.1 0 52).toInt ∧ (t1.1 0 52).toInt ≤ 1200 := hok.1 0 52
    have h_111 : (0 : Int) ≤ (t1.1 0 60).toInt ∧ (t1.1 0 60).toInt ≤ 1200 := hok.1 0 60
    have h_112 : (0 : Int) ≤ (t1.1 0 67).toInt ∧ (t1.1 0 67).toInt ≤ 1281 := hok.1 0 67
    have h_113 : (0 : Int) ≤ (t1.1 0 68).toInt ∧ (t1.1 0 68).toInt ≤ 81 := hok.1 0 68
    have h_114 : (0 : Int) ≤ (t1.1 0 69).toInt ∧ (t1.1 0 69).toInt ≤ 81 := hok.1 0 69
    have h_115 : (0 : Int) ≤ (t1.1 0 70).toInt ∧ (t1.1 0 70).toInt ≤ 8 := hok.1 0 70
    have h_116 : (-1 : Int) ≤ (t1.1 0 71).toInt ∧ (t1.1 0 71).toInt ≤ 2 := hok.1 0 71
    have h_117 : (t.2.2.1 19 (t1.1 0 67 : Int32).toNatClampNeg).toInt = (t.2.2.1 19 (t.1 0 67 : Int32).toNatClampNeg).toInt := by rw [hfr.1 0 67 rfl]
    have h_118 : (t.2.2.1 20 (t1.1 0 67 : Int32).toNatClampNeg).toInt = (t.2.2.1 20 (t.1 0 67 : Int32).toNatClampNeg).toInt := by rw [hfr.1 0 67 rfl]
    refine lv_istore_n (lv' := [(3, .int k183_0), (0, .ref (ad 0)), (1, .int x1), (2, .int w183_2)]) C.1 C.2.1 dX12_workAddress_183 rfl hl (by decide) rfl (fun ls hl => ?_)
    have hl : lv_has ls 4 [(0, .ref (ad 0)), (1, .int x1), (2, .int w183_2), (3, .int k183_0)] := lv_sub hl [1, 2, 3, 0] rfl
    refine lv_aload_n C.1 C.2.1 dX12_workAddress_184 rfl (lv_at hl 0 rfl) ?_
    refine k_get (v := .int (t1.1 0 70)) C hP 0 rfl rfl inlX12 70 (by decide) m_29_13 rfl dX12_workAddress_185 ?_
    refine lv_if_ne (tgt := 196) C.1 C.2.1 dX12_workAddress_188 (by decide) (fun c_119 => ?_) (fun c_119 => ?_)
    · replace c_119 : ¬ (t1.1 0 70).toInt = 0 := i_ne c_119
      exact L_196 t1 w183_2 k183_0 _ _ _ hok hfr ⟨by omega, by omega⟩ (show (t1.1 0 60).toInt = (t.1 0 60).toInt from by omega) (show (t.1 0 52).toInt ≤ (t1.1 0 52).toInt from by omega) (show (t1.1 0 52).toInt = (t.1 0 52).toInt ∨ ((t1.1 0 52).toInt = (t.1 0 52).toInt + 1 ∧ (t.1 0 68).toInt < (t.1 0 69).toInt) from by omega) (show x1.toInt ≥ 5000 ∨ (t1.1 0 71).toInt = -1 ∨ (t.1 0 68).toInt < (t.1 0 69).toInt from by omega) (show (t1.1 0 70).toInt = 0 → -3999 ≤ w183_2.toInt ∧ w183_2.toInt ≤ 3999 from by omega) hP hD hS (lv_sub hl [0, 1, 2, 3] rfl)
    · replace c_119 : (t1.1 0 70).toInt = 0 := i_eq c_119
      refine lv_aload_n C.1 C.2.1 dX12_workAddress_191 rfl (lv_at hl 0 rfl) ?_
      refine lv_iload_n C.1 C.2.1 dX12_workAddress_192 rfl (lv_at hl 3 rfl) ?_
      refine g_Vv (As := [.int k183_0]) (rest := []) C hP hD hS hA (T_X12_putWord l D K Z Y ad t1 hok (k183_0)) hE hZ (uwV m_38_11 m_38_12 m_38_13 m_1_5 m_38_14) (hdV 1 (by decide +kernel) rfl) ⟨Nat.le_of_ble_eq_true rfl, Nat.le_of_ble_eq_true rfl⟩ rfl rfl (ci := 11) (q0 := 0) rfl rfl rfl hl.1 (Nat.le_of_ble_eq_true rfl) dX12_workAddress_193 ⟨Nat.le_of_ble_eq_true rfl, Nat.le_of_ble_eq_true rfl⟩ (fun t_120 H locs hw hP hD hS => ?_)
      obtain ⟨hok, f_122, p_123, p_124⟩ := hw
      have hfr : frA [(0, 45), (0, 47), (0, 48), (0, 52), (0, 60), (0, 68), (0, 70), (0, 71), (0, 72), (0, 73)] [] [2, 21, 22, 24, 25, 26, 27, 28, 29, 30, 31, 32, 33, 34, 35, 44] [23] t t_120 := frA_tr hfr f_122 rfl
      have h_125 : (t_120.1 0 52).toInt = (t1.1 0 52).toInt := ti_eq (f_122.1 0 52 rfl)
      have h_126 : (t_120.1 0 60).toInt = (t1.1 0 60).toInt := ti_eq (f_122.1 0 60 rfl)
      have h_127 : (t_120.1 0 67).toInt = (t1.1 0 67).toInt := ti_eq (f_122.1 0 67 rfl)
      have h_128 : (t_120.1 0 68).toInt = (t1.1 0 68).toInt := ti_eq (f_122.1 0 68 rfl)
      have h_129 : (t_120.1 0 69).toInt = (t1.1 0 69).toInt := ti_eq (f_122.1 0 69 rfl)
      have h_130 : (t_120.1 0 71).toInt = (t1.1 0 71).toInt := ti_eq (f_122.1 0 71 rfl)
      have e_131 : t_120.2.2.1 19 = t.2.2.1 19 := (f_122.2.2.1 19 rfl).trans (e_107)
      have e_132 : t_120.2.2.1 20 = t.2.2.1 20 := (f_122.2.2.1 20 rfl).trans (e_108)
      have h_133 : (t.2.2.1 19 (t_120.1 0 67 : Int32).toNatClampNeg).toInt = (t.2.2.1 19 (t1.1 0 67 : Int32).toNatClampNeg).toInt := by rw [show t_120.1 0 67 = t1.1 0 67 from f_122.1 0 67 rfl]
      have h_134 : (t.2.2.1 20 (t_120.1 0 67 : Int32).toNatClampNeg).toInt = (t.2.2.1 20 (t1.1 0 67 : Int32).toNatClampNeg).toInt := by rw [show t_120.1 0 67 = t1.1 0 67 from f_122.1 0 67 rfl]
      have h_135 : (-3999 : Int) ≤ (t_120.1 0 47).toInt ∧ (t_120.1 0 47).toInt ≤ 4000 := hok.1 0 47
      have h_136 : (0 : Int) ≤ (t_120.1 0 52).toInt ∧ (t_120.1 0 52).toInt ≤ 1200 := hok.1 0 52
      have h_137 : (0 : Int) ≤ (t_120.1 0 60).toInt ∧ (t_120.1 0 60).toInt ≤ 1200 := hok.1 0 60
      have h_138 : (0 : Int) ≤ (t_120.1 0 67).toInt ∧ (t_120.1 0 67).toInt ≤ 1281 := hok.1 0 67
      have h_139 : (0 : Int) ≤ (t_120.1 0 68).toInt ∧ (t_120.1 0 68).toInt ≤ 81 := hok.1 0 68
      have h_140 : (0 : Int) ≤ (t_120.1 0 69).toInt ∧ (t_120.1 0 69).toInt ≤ 81 := hok.1 0 69
      have h_141 : (0 : Int) ≤ (t_120.1 0 70).toInt ∧ (t_120.1 0 70).toInt ≤ 8 := hok.1 0 70
      have h_142 : (-1 : Int) ≤ (t_120.1 0 71).toInt ∧ (t_120.1 0 71).toInt ≤ 2 := hok.1 0 71
      replace p_123 : (t_120.1 0 70).toInt = 0 → (t1.1 0 47).toInt ≤ 3999 := p_123
      replace p_124 : (t_120.1 0 70).toInt = 0 → (t1.1 0 70).toInt = 0 := p_124
      exact L_196 t_120 w183_2 k183_0 _ _ _ hok hfr ⟨by omega, by omega⟩ (show (t_120.1 0 60).toInt = (t.1 0 60).toInt from by omega) (show (t.1 0 52).toInt ≤ (t_120.1 0 52).toInt from by omega) (show (t_120.1 0 52).toInt = (t.1 0 52).toInt ∨ ((t_120.1 0 52).toInt = (t.1 0 52).toInt + 1 ∧ (t.1 0 68).toInt < (t.1 0 69).toInt) from by omega) (show x1.toInt ≥ 5000 ∨ (t_120.1 0 71).toInt = -1 ∨ (t.1 0 68).toInt < (t.1 0 69).toInt from by omega) (show (t_120.1 0 70).toInt = 0 → -3999 ≤ w183_2.toInt ∧ w183_2.toInt ≤ 3999 from by omega) hP hD hS (lv_sub hl [0, 1, 2, 3] rfl)
  have L_77 : ∀ (t1 : tSt) (w77_2 : Int32) (w77_3 : Int32) (H : Heap) (locs : List Loc) (ls : Array Slot), okM t1 → frA [(0, 45), (0, 47), (0, 48), (0, 52), (0, 60), (0, 68), (0, 70), (0, 71), (0, 72), (0, 73)] [] [2, 21, 22, 24, 25, 26, 27, 28, 29, 30, 31, 32, 33, 34, 35, 44] [23] t t1 → (5001 : Int) ≤ x1.toInt ∧ x1.toInt ≤ 5001 → (-3999 : Int) ≤ w77_2.toInt ∧ w77_2.toInt ≤ 4000 → ((t1.1 0 70).toInt = 0 → -3999 ≤ w77_3.toInt ∧ w77_3.toInt ≤ 4000) → ((t.1 0 52).toInt ≤ (t1.1 0 52).toInt) → ((t1.1 0 52).toInt ≤ (t.1 0 52).toInt + 1) → ((t1.1 0 60).toInt = (t.1 0 60).toInt) → va_P D vwCl (WM K ad t1) H → va_D A (WM K ad t1) → va_S A s.heap H locs → lv_has ls 4 [(0, .ref (ad 0)), (1, .int x1), (2, .int w77_2), (3, .int w77_3)] → W p l e (rmD 16 0 0) s m [.ref (ad 0), .int x1].toArray below meth c H locs 0 0 (MQ below (QI D K (fun (r : Int32) (u : tSt) => okM u ∧ frA [(0, 45), (0, 47), (0, 48), (0, 52), (0, 60), (0, 68), (0, 70), (0, 71), (0, 72), (0, 73)] [] [2, 21, 22, 24, 25, 26, 27, 28, 29, 30, 31, 32, 33, 34, 35, 44] [23] t u ∧ (0 : Int) ≤ r.toInt ∧ r.toInt ≤ 1 ∧ ((t.1 0 52).toInt ≤ (u.1 0 52).toInt) ∧ (9 * ((u.1 0 52).toInt - (t.1 0 52).toInt) ≤ (t.2.2.1 20 ((t.1 0 67) : Int32).toNatClampNeg).toInt + 1 - (t.2.2.1 19 ((t.1 0 67) : Int32).toNatClampNeg).toInt) ∧ ((t.1 0 60).toInt ≤ (u.1 0 60).toInt) ∧ (13 * ((u.1 0 60).toInt - (t.1 0 60).toInt) ≤ (t.2.2.1 20 ((t.1 0 67) : Int32).toNatClampNeg).toInt + 1 - (t.2.2.1 19 ((t.1 0 67) : Int32).toNatClampNeg).toInt)) (fun (u : tSt) => WM K ad u) A) [.ref (ad 0), .int x1].toArray s 0 0 A) (F0 m 77 ls []) := by
    intro t1 w77_2 w77_3 H locs ls hok hfr hx77_1 hw77_2 hi77_0 hi77_1 hi77_2 hi77_3 hP hD hS hl
    have h_143 : (t1.1 0 67).toInt = (t.1 0 67).toInt := ti_eq (hfr.1 0 67 rfl)
    have h_144 : (t1.1 0 69).toInt = (t.1 0 69).toInt := ti_eq (hfr.1 0 69 rfl)
    have e_145 : t1.2.2.1 19 = t.2.2.1 19 := hfr.2.2.1 19 rfl
    have e_146 : t1.2.2.1 20 = t.2.2.1 20 := hfr.2.2.1 20 rfl
    have h_147 : (-3999 : Int) ≤ (t1.1 0 47).toInt ∧ (t1.1 0 47).toInt ≤ 4000 := hok.1 0 47
    have h_148 : (0 : Int) ≤ (t1.1 0 52).toInt ∧ (t1.1 0 52).toInt ≤ 1200 := hok.1 0 52
    have h_149 : (0 : Int) ≤ (t1.1 0 60).toInt ∧ (t1.1 0 60).toInt ≤ 1200 := hok.1 0 60
    have h_150 : (0 : Int) ≤ (t1.1 0 67).toInt ∧ (t1.1 0 67).toInt ≤ 1281 := hok.1 0 67
    have h_151 : (0 : Int) ≤ (t1.1 0 68).toInt ∧ (t1.1 0 68).toInt ≤ 81 := hok.1 0 68
    have h_152 : (0 : Int) ≤ (t1.1 0 69).toInt ∧ (t1.1 0 69).toInt ≤ 81 := hok.1 0 69
    have h_153 : (0 : Int) ≤ (t1.1 0 70).toInt ∧ (t1.1 0 70).toInt ≤ 8 := hok.1 0 70
    have h_154 : (-1 : Int) ≤ (t1.1 0 71).toInt ∧ (t1.1 0 71).toInt ≤ 2 := hok.1 0 71
    have h_155 : (t.2.2.1 19 (t1.1 0 67 : Int32).toNatClampNeg).toInt = (t.2.2.1 19 (t.1 0 67 : Int32).toNatClampNeg).toInt := by rw [hfr.1 0 67 rfl]
    have h_156 : (t.2.2.1 20 (t1.1 0 67 : Int32).toNatClampNeg).toInt = (t.2.2.1 20 (t.1 0 67 : Int32).toNatClampNeg).toInt := by rw [hfr.1 0 67 rfl]
    refine lv_aload_n C.1 C.2.1 dX12_workAddress_77 rfl (lv_at hl 0 rfl) ?_
    refine k_get (v := .int (t1.1 0 70)) C hP 0 rfl rfl inlX12 70 (by decide) m_29_13 rfl dX12_workAddress_78 ?_
    refine lv_if_ne (tgt := 89) C.1 C.2.1 dX12_workAddress_81 (by decide) (fun c_157 => ?_) (fun c_157 => ?_)
    · replace c_157 : ¬ (t1.1 0 70).toInt = 0 := i_ne c_157
      refine lv_goto (tgt := 234) C.1 C.2.1 dX12_workAddress_89 (by decide) ?_
      exact L_234 t1 w77_2 w77_3 _ _ _ hok hfr ⟨by omega, by omega⟩ (show (t.1 0 52).toInt ≤ (t1.1 0 52).toInt from by omega) (show 9 * ((t1.1 0 52).toInt - (t.1 0 52).toInt) ≤ (t.2.2.1 20 ((t.1 0 67) : Int32).toNatClampNeg).toInt + 1 - (t.2.2.1 19 ((t.1 0 67) : Int32).toNatClampNeg).toInt from by omega) (show (t1.1 0 60).toInt = (t.1 0 60).toInt ∨ (t1.1 0 60).toInt = (t.1 0 60).toInt + 1 from by omega) hP hD hS (lv_sub hl [0, 1, 2, 3] rfl)
    · replace c_157 : (t1.1 0 70).toInt = 0 := i_eq c_157
      refine lv_aload_n C.1 C.2.1 dX12_workAddress_84 rfl (lv_at hl 0 rfl) ?_
      refine lv_iload_n C.1 C.2.1 dX12_workAddress_85 rfl (lv_at hl 3 rfl) ?_
      refine k_put (ws' := WM K ad (uI t1 0 47 w77_3)) (v := .int w77_3) C hP hD hS 0 rfl rfl inlX12 tyX12_ok nmX12 47 (by decide) m_30_16 rfl rfl rfl rfl rfl dX12_workAddress_86 (fun H locs hP hD hS => ?_)
      have hok : okM (uI t1 0 47 w77_3) := ⟨okI_I hok.1 0 47 w77_3 (show (-3999 : Int) ≤ (w77_3 : Int32).toInt ∧ (w77_3 : Int32).toInt ≤ 4000 from ⟨by omega, by omega⟩), hok.2.1, hok.2.2.1, hok.2.2.2.1, hok.2.2.2.2.1, hok.2.2.2.2.2.1, hok.2.2.2.2.2.2.1, trivial⟩
      have hfr : frA [(0, 45), (0, 47), (0, 48), (0, 52), (0, 60), (0, 68), (0, 70), (0, 71), (0, 72), (0, 73)] [] [2, 21, 22, 24, 25, 26, 27, 28, 29, 30, 31, 32, 33, 34, 35, 44] [23] t (uI t1 0 47 w77_3) := frA_I hfr 0 47 _ rfl
      refine lv_goto (tgt := 234) C.1 C.2.1 dX12_workAddress_89 (by decide) ?_
      exact L_234 (uI t1 0 47 w77_3) w77_2 w77_3 _ _ _ hok hfr ⟨by omega, by omega⟩ (show (t.1 0 52).toInt ≤ (t1.1 0 52).toInt from by omega) (show 9 * ((t1.1 0 52).toInt - (t.1 0 52).toInt) ≤ (t.2.2.1 20 ((t.1 0 67) : Int32).toNatClampNeg).toInt + 1 - (t.2.2.1 19 ((t.1 0 67) : Int32).toNatClampNeg).toInt from by omega) (show (t1.1 0 60).toInt = (t.1 0 60).toInt ∨ (t1.1 0 60).toInt = (t.1 0 60).toInt + 1 from by omega) hP hD hS (lv_sub hl [0, 1, 2, 3] rfl)
  refine lv_aload_n C.1 C.2.1 dX12_workAddress_0 rfl (lv_at hl 0 rfl) ?_
  refine k_get (v := .int (t.1 0 47)) C hP 0 rfl rfl inlX12 47 (by decide) m_30_16 rfl dX12_workAddress_1 ?_
  refine lv_istore_n (lv' := [(2, .int (t.1 0 47)), (0, .ref (ad 0)), (1, .int x1)]) C.1 C.2.1 dX12_workAddress_4 rfl hl (by decide) rfl (fun ls hl => ?_)
  have hl : lv_has ls 4 [(0, .ref (ad 0)), (1, .int x1), (2, .int (t.1 0 47))] := lv_sub hl [1, 2, 0] rfl
  refine lv_iload_n C.1 C.2.1 dX12_workAddress_5 rfl (lv_at hl 1 rfl) ?_
  refine lv_sipush (v := 5000) C.1 C.2.1 dX12_workAddress_6 (by decide) ?_
  refine lv_icmp_ne (tgt := 32) C.1 C.2.1 dX12_workAddress_9 (by decide) (fun c_158 => ?_) (fun c_158 => ?_)
  · replace c_158 : ¬ x1.toInt = 5000 := i_ne c_158
    refine lv_iload_n C.1 C.2.1 dX12_workAddress_32 rfl (lv_at hl 1 rfl) ?_
    refine lv_sipush (v := 5001) C.1 C.2.1 dX12_workAddress_33 (by decide) ?_
    refine lv_icmp_ne (tgt := 92) C.1 C.2.1 dX12_workAddress_36 (by decide) (fun c_159 => ?_) (fun c_159 => ?_)
    · replace c_159 : ¬ x1.toInt = 5001 := i_ne c_159
      refine lv_iload_n C.1 C.2.1 dX12_workAddress_92 rfl (lv_at hl 1 rfl) ?_
      refine lv_sipush (v := 5004) C.1 C.2.1 dX12_workAddress_93 (by decide) ?_
      refine lv_icmp_ne (tgt := 150) C.1 C.2.1 dX12_workAddress_96 (by decide) (fun c_160 => ?_) (fun c_160 => ?_)
      · replace c_160 : ¬ x1.toInt = 5004 := i_ne c_160
        refine lv_iload_n C.1 C.2.1 dX12_workAddress_150 rfl (lv_at hl 1 rfl) ?_
        refine lv_sipush (v := 5002) C.1 C.2.1 dX12_workAddress_151 (by decide) ?_
        refine lv_icmp_ne (tgt := 164) C.1 C.2.1 dX12_workAddress_154 (by decide) (fun c_161 => ?_) (fun c_161 => ?_)
        · replace c_161 : ¬ x1.toInt = 5002 := i_ne c_161
          refine lv_iload_n C.1 C.2.1 dX12_workAddress_164 rfl (lv_at hl 1 rfl) ?_
          refine lv_sipush (v := 5003) C.1 C.2.1 dX12_workAddress_165 (by decide) ?_
          refine lv_icmp_ne (tgt := 178) C.1 C.2.1 dX12_workAddress_168 (by decide) (fun c_162 => ?_) (fun c_162 => ?_)
          · replace c_162 : ¬ x1.toInt = 5003 := i_ne c_162
            refine lv_aload_n C.1 C.2.1 dX12_workAddress_178 rfl (lv_at hl 0 rfl) ?_
            refine lv_iload_n C.1 C.2.1 dX12_workAddress_179 rfl (lv_at hl 1 rfl) ?_
            refine g_Vi (As := [.int x1]) (rest := []) C hP hD hS hA (T_X12_instruction l D K Z Y ad t hok (x1) (show (-1 : Int) ≤ (x1 : Int32).toInt ∧ (x1 : Int32).toInt ≤ 6399 from ⟨by omega, by omega⟩) (show 1 ≤ (t.1 0 68).toInt from by omega) (show (t.1 0 52).toInt ≤ 1199 from by omega)) hE hZ (uwV m_39_3 m_39_4 m_39_5 m_1_5 m_39_6) (hdV 1 (by decide +kernel) rfl) ⟨Nat.le_of_ble_eq_true rfl, Nat.le_of_ble_eq_true rfl⟩ rfl rfl (ci := 11) (q0 := 0) rfl rfl rfl hl.1 (Nat.le_of_ble_eq_true rfl) dX12_workAddress_180 ⟨Nat.le_of_ble_eq_true rfl, Nat.le_of_ble_eq_true rfl⟩ (fun r_164 t_163 H locs hw hP hD hS => ?_)
            obtain ⟨hok, f_165, h_166, h_167, p_168, p_169, p_170, p_171⟩ := hw
            have hfr : frA [(0, 45), (0, 47), (0, 48), (0, 52), (0, 60), (0, 68), (0, 70), (0, 71), (0, 72), (0, 73)] [] [2, 21, 22, 24, 25, 26, 27, 28, 29, 30, 31, 32, 33, 34, 35, 44] [23] t t_163 := frA_tr hfr f_165 rfl
            have h_172 : (t_163.1 0 47).toInt = (t.1 0 47).toInt := ti_eq (f_165.1 0 47 rfl)
            have h_173 : (t_163.1 0 60).toInt = (t.1 0 60).toInt := ti_eq (f_165.1 0 60 rfl)
            have h_174 : (t_163.1 0 67).toInt = (t.1 0 67).toInt := ti_eq (f_165.1 0 67 rfl)
            have h_175 : (t_163.1 0 69).toInt = (t.1 0 69).toInt := ti_eq (f_165.1 0 69 rfl)
            have e_176 : t_163.2.2.1 19 = t.2.2.1 19 := f_165.2.2.1 19 rfl
            have e_177 : t_163.2.2.1 20 = t.2.2.1 20 := f_165.2.2.1 20 rfl
            have h_178 : (t.2.2.1 19 (t_163.1 0 67 : Int32).toNatClampNeg).toInt = (t.2.2.1 19 (t.1 0 67 : Int32).toNatClampNeg).toInt := by rw [show t_163.1 0 67 = t.1 0 67 from f_165.1 0 67 rfl]
            have h_179 : (t.2.2.1 20 (t_163.1 0 67 : Int32).toNatClampNeg).toInt = (t.2.2.1 20 (t.1 0 67 : Int32).toNatClampNeg).toInt := by rw [show t_163.1 0 67 = t.1 0 67 from f_165.1 0 67 rfl]
            have h_180 : (0 : Int) ≤ (t_163.1 0 52).toInt ∧ (t_163.1 0 52).toInt ≤ 1200 := hok.1 0 52
            have h_181 : (0 : Int) ≤ (t_163.1 0 60).toInt ∧ (t_163.1 0 60).toInt ≤ 1200 := hok.1 0 60
            have h_182 : (0 : Int) ≤ (t_163.1 0 67).toInt ∧ (t_163.1 0 67).toInt ≤ 1281 := hok.1 0 67
            have h_183 : (0 : Int) ≤ (t_163.1 0 68).toInt ∧ (t_163.1 0 68).toInt ≤ 81 := hok.1 0 68
            have h_184 : (0 : Int) ≤ (t_163.1 0 69).toInt ∧ (t_163.1 0 69).toInt ≤ 81 := hok.1 0 69
            have h_185 : (0 : Int) ≤ (t_163.1 0 70).toInt ∧ (t_163.1 0 70).toInt ≤ 8 := hok.1 0 70
            have h_186 : (-1 : Int) ≤ (t_163.1 0 71).toInt ∧ (t_163.1 0 71).toInt ≤ 2 := hok.1 0 71
            replace p_168 : (t_163.1 0 71).toInt = -1 ∨ (t.1 0 68).toInt < (t.1 0 69).toInt := p_168
            replace p_169 : (t.1 0 52).toInt ≤ (t_163.1 0 52).toInt := p_169
            replace p_170 : (t_163.1 0 52).toInt = (t.1 0 52).toInt ∨ ((t_163.1 0 52).toInt = (t.1 0 52).toInt + 1 ∧ (t.1 0 68).toInt < (t.1 0 69).toInt) := p_170
            replace p_171 : (t_163.1 0 70).toInt = 0 → (t.1 0 70).toInt = 0 := p_171
            exact L_183 t_163 (t.1 0 47) r_164 _ _ _ hok hfr ⟨by omega, by omega⟩ (show (t_163.1 0 60).toInt = (t.1 0 60).toInt from by omega) (show (t.1 0 52).toInt ≤ (t_163.1 0 52).toInt from by omega) (show (t_163.1 0 52).toInt = (t.1 0 52).toInt ∨ ((t_163.1 0 52).toInt = (t.1 0 52).toInt + 1 ∧ (t.1 0 68).toInt < (t.1 0 69).toInt) from by omega) (show x1.toInt ≥ 5000 ∨ (t_163.1 0 71).toInt = -1 ∨ (t.1 0 68).toInt < (t.1 0 69).toInt from by omega) (show (t.1 0 47).toInt = (t_163.1 0 47).toInt from by omega) hP hD hS (lv_sub hl [0, 1, 2] rfl)
          · replace c_162 : x1.toInt = 5003 := i_eq c_162
            refine lv_aload_n C.1 C.2.1 dX12_workAddress_171 rfl (lv_at hl 0 rfl) ?_
            refine g_Vi (As := []) (rest := []) C hP hD hS hA (T_X12_fiveLetters l D K Z Y ad t hok ) hE hZ (uwV m_38_23 m_39_0 m_39_1 m_1_5 m_39_2) (hdV 0 (by decide +kernel) rfl) ⟨Nat.le_of_ble_eq_true rfl, Nat.le_of_ble_eq_true rfl⟩ rfl rfl (ci := 11) (q0 := 0) rfl rfl rfl hl.1 (Nat.le_of_ble_eq_true rfl) dX12_workAddress_172 ⟨Nat.le_of_ble_eq_true rfl, Nat.le_of_ble_eq_true rfl⟩ (fun r_188 t_187 H locs hw hP hD hS => ?_)
            obtain ⟨h_190, h_191⟩ := hw
            refine lv_goto (tgt := 183) C.1 C.2.1 dX12_workAddress_175 (by decide) ?_
            exact L_183 t (t.1 0 47) r_188 _ _ _ hok hfr ⟨by omega, by omega⟩ (show (t.1 0 60).toInt = (t.1 0 60).toInt from by omega) (show (t.1 0 52).toInt ≤ (t.1 0 52).toInt from by omega) (show (t.1 0 52).toInt = (t.1 0 52).toInt ∨ ((t.1 0 52).toInt = (t.1 0 52).toInt + 1 ∧ (t.1 0 68).toInt < (t.1 0 69).toInt) from by omega) (show x1.toInt ≥ 5000 ∨ (t.1 0 71).toInt = -1 ∨ (t.1 0 68).toInt < (t.1 0 69).toInt from by omega) (show (t.1 0 47).toInt = (t.1 0 47).toInt from by omega) hP hD hS (lv_sub hl [0, 1, 2] rfl)
        · replace c_161 : x1.toInt = 5002 := i_eq c_161
          refine lv_aload_n C.1 C.2.1 dX12_workAddress_157 rfl (lv_at hl 0 rfl) ?_
          refine g_Vi (As := []) (rest := []) C hP hD hS hA (T_X12_wholeValue l D K Z Y ad t hok (show 1 ≤ (t.1 0 68).toInt from by omega)) hE hZ (uwV m_34_7 m_34_8 m_34_9 m_1_5 m_34_10) (hdV 0 (by decide +kernel) rfl) ⟨Nat.le_of_ble_eq_true rfl, Nat.le_of_ble_eq_true rfl⟩ rfl rfl (ci := 11) (q0 := 0) rfl rfl rfl hl.1 (Nat.le_of_ble_eq_true rfl) dX12_workAddress_158 ⟨Nat.le_of_ble_eq_true rfl, Nat.le_of_ble_eq_true rfl⟩ (fun r_193 t_192 H locs hw hP hD hS => ?_)
          obtain ⟨hok, f_194, h_195, h_196, p_197, p_198, p_199⟩ := hw
          have hfr : frA [(0, 45), (0, 47), (0, 48), (0, 52), (0, 60), (0, 68), (0, 70), (0, 71), (0, 72), (0, 73)] [] [2, 21, 22, 24, 25, 26, 27, 28, 29, 30, 31, 32, 33, 34, 35, 44] [23] t t_192 := frA_tr hfr f_194 rfl
          have h_200 : (t_192.1 0 47).toInt = (t.1 0 47).toInt := ti_eq (f_194.1 0 47 rfl)
          have h_201 : (t_192.1 0 52).toInt = (t.1 0 52).toInt := ti_eq (f_194.1 0 52 rfl)
          have h_202 : (t_192.1 0 60).toInt = (t.1 0 60).toInt := ti_eq (f_194.1 0 60 rfl)
          have h_203 : (t_192.1 0 67).toInt = (t.1 0 67).toInt := ti_eq (f_194.1 0 67 rfl)
          have h_204 : (t_192.1 0 69).toInt = (t.1 0 69).toInt := ti_eq (f_194.1 0 69 rfl)
          have h_205 : (t_192.1 0 71).toInt = (t.1 0 71).toInt := ti_eq (f_194.1 0 71 rfl)
          have e_206 : t_192.2.2.1 19 = t.2.2.1 19 := f_194.2.2.1 19 rfl
          have e_207 : t_192.2.2.1 20 = t.2.2.1 20 := f_194.2.2.1 20 rfl
          have h_208 : (t.2.2.1 19 (t_192.1 0 67 : Int32).toNatClampNeg).toInt = (t.2.2.1 19 (t.1 0 67 : Int32).toNatClampNeg).toInt := by rw [show t_192.1 0 67 = t.1 0 67 from f_194.1 0 67 rfl]
          have h_209 : (t.2.2.1 20 (t_192.1 0 67 : Int32).toNatClampNeg).toInt = (t.2.2.1 20 (t.1 0 67 : Int32).toNatClampNeg).toInt := by rw [show t_192.1 0 67 = t.1 0 67 from f_194.1 0 67 rfl]
          have h_210 : (0 : Int) ≤ (t_192.1 0 52).toInt ∧ (t_192.1 0 52).toInt ≤ 1200 := hok.1 0 52
          have h_211 : (0 : Int) ≤ (t_192.1 0 60).toInt ∧ (t_192.1 0 60).toInt ≤ 1200 := hok.1 0 60
          have h_212 : (0 : Int) ≤ (t_192.1 0 67).toInt ∧ (t_192.1 0 67).toInt ≤ 1281 := hok.1 0 67
          have h_213 : (0 : Int) ≤ (t_192.1 0 68).toInt ∧ (t_192.1 0 68).toInt ≤ 81 := hok.1 0 68
          have h_214 : (0 : Int) ≤ (t_192.1 0 69).toInt ∧ (t_192.1 0 69).toInt ≤ 81 := hok.1 0 69
          have h_215 : (0 : Int) ≤ (t_192.1 0 70).toInt ∧ (t_192.1 0 70).toInt ≤ 8 := hok.1 0 70
          have h_216 : (-1 : Int) ≤ (t_192.1 0 71).toInt ∧ (t_192.1 0 71).toInt ≤ 2 := hok.1 0 71
          replace p_197 : (t.1 0 68).toInt ≤ (t_192.1 0 68).toInt := p_197
          replace p_198 : (t_192.1 0 68).toInt ≤ (t.1 0 69).toInt ∨ (t_192.1 0 68).toInt = (t.1 0 68).toInt := p_198
          replace p_199 : (t_192.1 0 70).toInt = 0 → (t.1 0 70).toInt = 0 := p_199
          refine lv_goto (tgt := 183) C.1 C.2.1 dX12_workAddress_161 (by decide) ?_
          exact L_183 t_192 (t.1 0 47) r_193 _ _ _ hok hfr ⟨by omega, by omega⟩ (show (t_192.1 0 60).toInt = (t.1 0 60).toInt from by omega) (show (t.1 0 52).toInt ≤ (t_192.1 0 52).toInt from by omega) (show (t_192.1 0 52).toInt = (t.1 0 52).toInt ∨ ((t_192.1 0 52).toInt = (t.1 0 52).toInt + 1 ∧ (t.1 0 68).toInt < (t.1 0 69).toInt) from by omega) (show x1.toInt ≥ 5000 ∨ (t_192.1 0 71).toInt = -1 ∨ (t.1 0 68).toInt < (t.1 0 69).toInt from by omega) (show (t.1 0 47).toInt = (t_192.1 0 47).toInt from by omega) hP hD hS (lv_sub hl [0, 1, 2] rfl)
      · replace c_160 : x1.toInt = 5004 := i_eq c_160
        refine lv_aload_n C.1 C.2.1 dX12_workAddress_99 rfl (lv_at hl 0 rfl) ?_
        refine lv_aload_n C.1 C.2.1 dX12_workAddress_100 rfl (lv_at hl 0 rfl) ?_
        have h_217 : (0 : Int) ≤ (t.1 0 46).toInt ∧ (t.1 0 46).toInt ≤ 1 := hok.1 0 46
        refine k_get (v := .int (t.1 0 46)) C hP 0 rfl rfl inlX12 46 (by decide) m_28_22 rfl dX12_workAddress_101 ?_
        refine lv_if_eq (tgt := 111) C.1 C.2.1 dX12_workAddress_104 (by decide) (fun c_218 => ?_) (fun c_218 => ?_)
        · replace c_218 : (t.1 0 46).toInt = 0 := i_eq c_218
          refine lv_sipush (v := (-3999)) C.1 C.2.1 dX12_workAddress_111 (by decide) ?_
          refine lv_sipush (v := 3999) C.1 C.2.1 dX12_workAddress_114 (by decide) ?_
          have h_219 : ((-3999) : Int32).toInt = -3999 := rfl
          have h_220 : (3999 : Int32).toInt = 3999 := rfl
          refine g_Vi (As := [.int (-3999), .int 3999]) (rest := []) C hP hD hS hA (T_X12_bounded l D K Z Y ad t hok (-3999) (show (-3999 : Int) ≤ ((-3999) : Int32).toInt ∧ ((-3999) : Int32).toInt ≤ 0 from ⟨by decide, by decide⟩) 3999 (show (3999 : Int) ≤ (3999 : Int32).toInt ∧ (3999 : Int32).toInt ≤ 4000 from ⟨by decide, by decide⟩) (show 1 ≤ (t.1 0 68).toInt from by omega)) hE hZ (uwV m_37_18 m_37_19 m_37_20 m_1_5 m_37_21) (hdV 2 (by decide +kernel) rfl) ⟨Nat.le_of_ble_eq_true rfl, Nat.le_of_ble_eq_true rfl⟩ rfl rfl (ci := 11) (q0 := 0) rfl rfl rfl hl.1 (Nat.le_of_ble_eq_true rfl) dX12_workAddress_117 ⟨Nat.le_of_ble_eq_true rfl, Nat.le_of_ble_eq_true rfl⟩ (fun r_222 t_221 H locs hw hP hD hS => ?_)
          obtain ⟨hok, f_223, h_224, h_225, p_226, p_227⟩ := hw
          have hfr : frA [(0, 45), (0, 47), (0, 48), (0, 52), (0, 60), (0, 68), (0, 70), (0, 71), (0, 72), (0, 73)] [] [2, 21, 22, 24, 25, 26, 27, 28, 29, 30, 31, 32, 33, 34, 35, 44] [23] t t_221 := frA_tr hfr f_223 rfl
          have h_228 : (t_221.1 0 47).toInt = (t.1 0 47).toInt := ti_eq (f_223.1 0 47 rfl)
          have h_229 : (t_221.1 0 46).toInt = (t.1 0 46).toInt := ti_eq (f_223.1 0 46 rfl)
          have h_230 : (t_221.1 0 52).toInt = (t.1 0 52).toInt := ti_eq (f_223.1 0 52 rfl)
          have h_231 : (t_221.1 0 60).toInt = (t.1 0 60).toInt := ti_eq (f_223.1 0 60 rfl)
          have h_232 : (t_221.1 0 67).toInt = (t.1 0 67).toInt := ti_eq (f_223.1 0 67 rfl)
          have h_233 : (t_221.1 0 69).toInt = (t.1 0 69).toInt := ti_eq (f_223.1 0 69 rfl)
          have h_234 : (t_221.1 0 71).toInt = (t.1 0 71).toInt := ti_eq (f_223.1 0 71 rfl)
          have e_235 : t_221.2.2.1 19 = t.2.2.1 19 := f_223.2.2.1 19 rfl
          have e_236 : t_221.2.2.1 20 = t.2.2.1 20 := f_223.2.2.1 20 rfl
          have h_237 : (t.2.2.1 19 (t_221.1 0 67 : Int32).toNatClampNeg).toInt = (t.2.2.1 19 (t.1 0 67 : Int32).toNatClampNeg).toInt := by rw [show t_221.1 0 67 = t.1 0 67 from f_223.1 0 67 rfl]
          have h_238 : (t.2.2.1 20 (t_221.1 0 67 : Int32).toNatClampNeg).toInt = (t.2.2.1 20 (t.1 0 67 : Int32).toNatClampNeg).toInt := by rw [show t_221.1 0 67 = t.1 0 67 from f_223.1 0 67 rfl]
          have h_239 : (0 : Int) ≤ (t_221.1 0 52).toInt ∧ (t_221.1 0 52).toInt ≤ 1200 := hok.1 0 52
          have h_240 : (0 : Int) ≤ (t_221.1 0 60).toInt ∧ (t_221.1 0 60).toInt ≤ 1200 := hok.1 0 60
          have h_241 : (0 : Int) ≤ (t_221.1 0 67).toInt ∧ (t_221.1 0 67).toInt ≤ 1281 := hok.1 0 67
          have h_242 : (0 : Int) ≤ (t_221.1 0 68).toInt ∧ (t_221.1 0 68).toInt ≤ 81 := hok.1 0 68
          have h_243 : (0 : Int) ≤ (t_221.1 0 69).toInt ∧ (t_221.1 0 69).toInt ≤ 81 := hok.1 0 69
          have h_244 : (0 : Int) ≤ (t_221.1 0 70).toInt ∧ (t_221.1 0 70).toInt ≤ 8 := hok.1 0 70
          have h_245 : (-1 : Int) ≤ (t_221.1 0 71).toInt ∧ (t_221.1 0 71).toInt ≤ 2 := hok.1 0 71
          replace p_226 : (t_221.1 0 70).toInt = 0 → ((-3999) : Int32).toInt ≤ r_222.toInt ∧ r_222.toInt ≤ (3999 : Int32).toInt := p_226
          replace p_227 : (t_221.1 0 70).toInt = 0 → (t.1 0 70).toInt = 0 := p_227
          refine lv_istore_n (lv' := [(3, .int r_222), (0, .ref (ad 0)), (1, .int x1), (2, .int (t.1 0 47))]) C.1 C.2.1 dX12_workAddress_120 rfl hl (by decide) rfl (fun ls hl => ?_)
          have hl : lv_has ls 4 [(0, .ref (ad 0)), (1, .int x1), (2, .int (t.1 0 47)), (3, .int r_222)] := lv_sub hl [1, 2, 3, 0] rfl
          refine lv_aload_n C.1 C.2.1 dX12_workAddress_121 rfl (lv_at hl 0 rfl) ?_
          refine k_get (v := .int (t_221.1 0 70)) C hP 0 rfl rfl inlX12 70 (by decide) m_29_13 rfl dX12_workAddress_122 ?_
          refine lv_if_le (tgt := 130) C.1 C.2.1 dX12_workAddress_125 (by decide) (fun c_246 => ?_) (fun c_246 => ?_)
          · replace c_246 : (t_221.1 0 70).toInt ≤ 0 := i_le c_246
            refine lv_aload_n C.1 C.2.1 dX12_workAddress_130 rfl (lv_at hl 0 rfl) ?_
            refine lv_iload_n C.1 C.2.1 dX12_workAddress_131 rfl (lv_at hl 2 rfl) ?_
            obtain ⟨v_247, e_248⟩ : ∃ z, z = ((t.1 0 47) : Int32).toInt64 := ⟨_, rfl⟩
            have h_249 : v_247.toInt = (t.1 0 47).toInt := by rw [e_248]; exact Jvm.Kit.i64_of_i32 _
            refine lv_i2l (v := v_247) C.1 C.2.1 dX12_workAddress_132 e_248.symm ?_
            refine g_Si (As := [.long v_247]) (rest := [.ref (ad 0)]) C hP hD hS hA (T_X12_wordOf l D K Z Y ad t_221 hok (v_247)) hE hZ (uwS m_35_4 m_35_5 m_1_5 m_35_6) (hdS 1 (by decide +kernel) rfl) ⟨Nat.le_of_ble_eq_true rfl, Nat.le_of_ble_eq_true rfl⟩ rfl rfl rfl hl.1 (Nat.le_of_ble_eq_true rfl) dX12_workAddress_133 ⟨Nat.le_of_ble_eq_true rfl, Nat.le_of_ble_eq_true rfl⟩ (fun r_251 t_250 H locs hw hP hD hS => ?_)
            obtain ⟨h_253, h_254⟩ := hw
            refine g_Vv (As := [.int r_251]) (rest := []) C hP hD hS hA (T_X12_define l D K Z Y ad t_221 hok (r_251) (show (t_221.1 0 52).toInt ≤ 1199 from by omega)) hE hZ (uwV m_37_10 m_37_11 m_37_12 m_1_5 m_37_13) (hdV 1 (by decide +kernel) rfl) ⟨Nat.le_of_ble_eq_true rfl, Nat.le_of_ble_eq_true rfl⟩ rfl rfl (ci := 11) (q0 := 0) rfl rfl rfl hl.1 (Nat.le_of_ble_eq_true rfl) dX12_workAddress_136 ⟨Nat.le_of_ble_eq_true rfl, Nat.le_of_ble_eq_true rfl⟩ (fun t_255 H locs hw hP hD hS => ?_)
            obtain ⟨hok, f_257, p_258, p_259⟩ := hw
            have hfr : frA [(0, 45), (0, 47), (0, 48), (0, 52), (0, 60), (0, 68), (0, 70), (0, 71), (0, 72), (0, 73)] [] [2, 21, 22, 24, 25, 26, 27, 28, 29, 30, 31, 32, 33, 34, 35, 44] [23] t t_255 := frA_tr hfr f_257 rfl
            have h_260 : (t_255.1 0 47).toInt = (t_221.1 0 47).toInt := ti_eq (f_257.1 0 47 rfl)
            have h_261 : (t_255.1 0 46).toInt = (t_221.1 0 46).toInt := ti_eq (f_257.1 0 46 rfl)
            have h_262 : (t_255.1 0 70).toInt = (t_221.1 0 70).toInt := ti_eq (f_257.1 0 70 rfl)
            have h_263 : (t_255.1 0 60).toInt = (t_221.1 0 60).toInt := ti_eq (f_257.1 0 60 rfl)
            have h_264 : (t_255.1 0 67).toInt = (t_221.1 0 67).toInt := ti_eq (f_257.1 0 67 rfl)
            have h_265 : (t_255.1 0 68).toInt = (t_221.1 0 68).toInt := ti_eq (f_257.1 0 68 rfl)
            have h_266 : (t_255.1 0 69).toInt = (t_221.1 0 69).toInt := ti_eq (f_257.1 0 69 rfl)
            have h_267 : (t_255.1 0 71).toInt = (t_221.1 0 71).toInt := ti_eq (f_257.1 0 71 rfl)
            have e_268 : t_255.2.2.1 19 = t.2.2.1 19 := (f_257.2.2.1 19 rfl).trans (e_235)
            have e_269 : t_255.2.2.1 20 = t.2.2.1 20 := (f_257.2.2.1 20 rfl).trans (e_236)
            have h_270 : (t.2.2.1 19 (t_255.1 0 67 : Int32).toNatClampNeg).toInt = (t.2.2.1 19 (t_221.1 0 67 : Int32).toNatClampNeg).toInt := by rw [show t_255.1 0 67 = t_221.1 0 67 from f_257.1 0 67 rfl]
            have h_271 : (t.2.2.1 20 (t_255.1 0 67 : Int32).toNatClampNeg).toInt = (t.2.2.1 20 (t_221.1 0 67 : Int32).toNatClampNeg).toInt := by rw [show t_255.1 0 67 = t_221.1 0 67 from f_257.1 0 67 rfl]
            have h_272 : (0 : Int) ≤ (t_255.1 0 52).toInt ∧ (t_255.1 0 52).toInt ≤ 1200 := hok.1 0 52
            have h_273 : (0 : Int) ≤ (t_255.1 0 60).toInt ∧ (t_255.1 0 60).toInt ≤ 1200 := hok.1 0 60
            have h_274 : (0 : Int) ≤ (t_255.1 0 67).toInt ∧ (t_255.1 0 67).toInt ≤ 1281 := hok.1 0 67
            have h_275 : (0 : Int) ≤ (t_255.1 0 68).toInt ∧ (t_255.1 0 68).toInt ≤ 81 := hok.1 0 68
            have h_276 : (0 : Int) ≤ (t_255.1 0 69).toInt ∧ (t_255.1 0 69).toInt ≤ 81 := hok.1 0 69
            have h_277 : (-1 : Int) ≤ (t_255.1 0 71).toInt ∧ (t_255.1 0 71).toInt ≤ 2 := hok.1 0 71
            replace p_258 : (t_221.1 0 52).toInt ≤ (t_255.1 0 52).toInt := p_258
            replace p_259 : (t_255.1 0 52).toInt ≤ (t_221.1 0 52).toInt + 1 := p_259
            refine lv_aload_n C.1 C.2.1 dX12_workAddress_139 rfl (lv_at hl 0 rfl) ?_
            refine lv_iload_n C.1 C.2.1 dX12_workAddress_140 rfl (lv_at hl 3 rfl) ?_
            refine k_put (ws' := WM K ad (uI t_255 0 45 r_222)) (v := .int r_222) C hP hD hS 0 rfl rfl inlX12 tyX12_ok nmX12 45 (by decide) m_29_0 rfl rfl rfl rfl rfl dX12_workAddress_141 (fun H locs hP hD hS => ?_)
            have hok : okM (uI t_255 0 45 r_222) := ⟨okI_I hok.1 0 45 r_222 (show (-3999 : Int) ≤ (r_222 : Int32).toInt ∧ (r_222 : Int32).toInt ≤ 3999 from ⟨by omega, by omega⟩), hok.2.1, hok.2.2.1, hok.2.2.2.1, hok.2.2.2.2.1, hok.2.2.2.2.2.1, hok.2.2.2.2.2.2.1, trivial⟩
            have hfr : frA [(0, 45), (0, 47), (0, 48), (0, 52), (0, 60), (0, 68), (0, 70), (0, 71), (0, 72), (0, 73)] [] [2, 21, 22, 24, 25, 26, 27, 28, 29, 30, 31, 32, 33, 34, 35, 44] [23] t (uI t_255 0 45 r_222) := frA_I hfr 0 45 _ rfl
            refine lv_aload_n C.1 C.2.1 dX12_workAddress_144 rfl (lv_at hl 0 rfl) ?_
            refine g_Vv (As := []) (rest := []) C hP hD hS hA (T_X12_finish l D K Z Y ad (uI t_255 0 45 r_222) hok ) hE hZ (uwV m_37_22 m_37_23 m_38_0 m_1_5 m_38_1) (hdV 0 (by decide +kernel) rfl) ⟨Nat.le_of_ble_eq_true rfl, Nat.le_of_ble_eq_true rfl⟩ rfl rfl (ci := 11) (q0 := 0) rfl rfl rfl hl.1 (Nat.le_of_ble_eq_true rfl) dX12_workAddress_145 ⟨Nat.le_of_ble_eq_true rfl, Nat.le_of_ble_eq_true rfl⟩ (fun t_278 H locs hw hP hD hS => ?_)
            obtain ⟨hok, f_280⟩ := hw
            have hfr : frA [(0, 45), (0, 47), (0, 48), (0, 52), (0, 60), (0, 68), (0, 70), (0, 71), (0, 72), (0, 73)] [] [2, 21, 22, 24, 25, 26, 27, 28, 29, 30, 31, 32, 33, 34, 35, 44] [23] t t_278 := frA_tr hfr f_280 rfl
            have h_281 : (t_278.1 0 46).toInt = (t_255.1 0 46).toInt := ti_eq (f_280.1 0 46 rfl)
            have h_282 : (t_278.1 0 45).toInt = r_222.toInt := ti_eq (f_280.1 0 45 rfl)
            have h_283 : (t_278.1 0 52).toInt = (t_255.1 0 52).toInt := ti_eq (f_280.1 0 52 rfl)
            have h_284 : (t_278.1 0 60).toInt = (t_255.1 0 60).toInt := ti_eq (f_280.1 0 60 rfl)
            have h_285 : (t_278.1 0 67).toInt = (t_255.1 0 67).toInt := ti_eq (f_280.1 0 67 rfl)
            have h_286 : (t_278.1 0 68).toInt = (t_255.1 0 68).toInt := ti_eq (f_280.1 0 68 rfl)
            have h_287 : (t_278.1 0 69).toInt = (t_255.1 0 69).toInt := ti_eq (f_280.1 0 69 rfl)
            have h_288 : (t_278.1 0 71).toInt = (t_255.1 0 71).toInt := ti_eq (f_280.1 0 71 rfl)
            have e_289 : t_278.2.2.1 19 = t.2.2.1 19 := (f_280.2.2.1 19 rfl).trans (e_268)
            have e_290 : t_278.2.2.1 20 = t.2.2.1 20 := (f_280.2.2.1 20 rfl).trans (e_269)
            have h_291 : (t.2.2.1 19 (t_278.1 0 67 : Int32).toNatClampNeg).toInt = (t.2.2.1 19 (t_255.1 0 67 : Int32).toNatClampNeg).toInt := by rw [show t_278.1 0 67 = t_255.1 0 67 from f_280.1 0 67 rfl]
            have h_292 : (t.2.2.1 20 (t_278.1 0 67 : Int32).toNatClampNeg).toInt = (t.2.2.1 20 (t_255.1 0 67 : Int32).toNatClampNeg).toInt := by rw [show t_278.1 0 67 = t_255.1 0 67 from f_280.1 0 67 rfl]
            have h_293 : (-3999 : Int) ≤ (t_278.1 0 47).toInt ∧ (t_278.1 0 47).toInt ≤ 4000 := hok.1 0 47
            have h_294 : (0 : Int) ≤ (t_278.1 0 52).toInt ∧ (t_278.1 0 52).toInt ≤ 1200 := hok.1 0 52
            have h_295 : (0 : Int) ≤ (t_278.1 0 60).toInt ∧ (t_278.1 0 60).toInt ≤ 1200 := hok.1 0 60
            have h_296 : (0 : Int) ≤ (t_278.1 0 67).toInt ∧ (t_278.1 0 67).toInt ≤ 1281 := hok.1 0 67
            have h_297 : (0 : Int) ≤ (t_278.1 0 68).toInt ∧ (t_278.1 0 68).toInt ≤ 81 := hok.1 0 68
            have h_298 : (0 : Int) ≤ (t_278.1 0 69).toInt ∧ (t_278.1 0 69).toInt ≤ 81 := hok.1 0 69
            have h_299 : (0 : Int) ≤ (t_278.1 0 70).toInt ∧ (t_278.1 0 70).toInt ≤ 8 := hok.1 0 70
            have h_300 : (-1 : Int) ≤ (t_278.1 0 71).toInt ∧ (t_278.1 0 71).toInt ≤ 2 := hok.1 0 71
            refine lv_iconst (v := 1) C.1 C.2.1 dX12_workAddress_148 (by decide) ?_
            exact g_iret C hr hlocks hP hD hS (by decide) t_278 rfl ⟨hok, hfr, by decide, by decide, (show (t.1 0 52).toInt ≤ (t_278.1 0 52).toInt from by omega), (show 9 * ((t_278.1 0 52).toInt - (t.1 0 52).toInt) ≤ (t.2.2.1 20 ((t.1 0 67) : Int32).toNatClampNeg).toInt + 1 - (t.2.2.1 19 ((t.1 0 67) : Int32).toNatClampNeg).toInt from by omega), (show (t.1 0 60).toInt ≤ (t_278.1 0 60).toInt from by omega), (show 13 * ((t_278.1 0 60).toInt - (t.1 0 60).toInt) ≤ (t.2.2.1 20 ((t.1 0 67) : Int32).toNatClampNeg).toInt + 1 - (t.2.2.1 19 ((t.1 0 67) : Int32).toNatClampNeg).toInt from by omega)⟩ (Nat.le_of_ble_eq_true rfl) (Nat.le_of_ble_eq_true rfl) dX12_workAddress_149
          · replace c_246 : 0 < (t_221.1 0 70).toInt := i_nle c_246
            refine lv_iconst (v := 0) C.1 C.2.1 dX12_workAddress_128 (by decide) ?_
            exact g_iret C hr hlocks hP hD hS (by decide) t_221 rfl ⟨hok, hfr, by decide, by decide, (show (t.1 0 52).toInt ≤ (t_221.1 0 52).toInt from by omega), (show 9 * ((t_221.1 0 52).toInt - (t.1 0 52).toInt) ≤ (t.2.2.1 20 ((t.1 0 67) : Int32).toNatClampNeg).toInt + 1 - (t.2.2.1 19 ((t.1 0 67) : Int32).toNatClampNeg).toInt from by omega), (show (t.1 0 60).toInt ≤ (t_221.1 0 60).toInt from by omega), (show 13 * ((t_221.1 0 60).toInt - (t.1 0 60).toInt) ≤ (t.2.2.1 20 ((t.1 0 67) : Int32).toNatClampNeg).toInt + 1 - (t.2.2.1 19 ((t.1 0 67) : Int32).toNatClampNeg).toInt from by omega)⟩ (Nat.le_of_ble_eq_true rfl) (Nat.le_of_ble_eq_true rfl) dX12_workAddress_129
        · replace c_218 : ¬ (t.1 0 46).toInt = 0 := i_ne c_218
          refine lv_iconst (v := 0) C.1 C.2.1 dX12_workAddress_107 (by decide) ?_
          refine lv_goto (tgt := 114) C.1 C.2.1 dX12_workAddress_108 (by decide) ?_
          refine lv_sipush (v := 3999) C.1 C.2.1 dX12_workAddress_114 (by decide) ?_
          have h_301 : (0 : Int32).toInt = 0 := rfl
          have h_302 : (3999 : Int32).toInt = 3999 := rfl
          refine g_Vi (As := [.int 0, .int 3999]) (rest := []) C hP hD hS hA (T_X12_bounded l D K Z Y ad t hok 0 (show (-3999 : Int) ≤ (0 : Int32).toInt ∧ (0 : Int32).toInt ≤ 0 from ⟨by decide, by decide⟩) 3999 (show (3999 : Int) ≤ (3999 : Int32).toInt ∧ (3999 : Int32).toInt ≤ 4000 from ⟨by decide, by decide⟩) (show 1 ≤ (t.1 0 68).toInt from by omega)) hE hZ (uwV m_37_18 m_37_19 m_37_20 m_1_5 m_37_21) (hdV 2 (by decide +kernel) rfl) ⟨Nat.le_of_ble_eq_true rfl, Nat.le_of_ble_eq_true rfl⟩ rfl rfl (ci := 11) (q0 := 0) rfl rfl rfl hl.1 (Nat.le_of_ble_eq_true rfl) dX12_workAddress_117 ⟨Nat.le_of_ble_eq_true rfl, Nat.le_of_ble_eq_true rfl⟩ (fun r_304 t_303 H locs hw hP hD hS => ?_)
          obtain ⟨hok, f_305, h_306, h_307, p_308, p_309⟩ := hw
          have hfr : frA [(0, 45), (0, 47), (0, 48), (0, 52), (0, 60), (0, 68), (0, 70), (0, 71), (0, 72), (0, 73)] [] [2, 21, 22, 24, 25, 26, 27, 28, 29, 30, 31, 32, 33, 34, 35, 44] [23] t t_303 := frA_tr hfr f_305 rfl
          have h_310 : (t_303.1 0 47).toInt = (t.1 0 47).toInt := ti_eq (f_305.1 0 47 rfl)
          have h_311 : (t_303.1 0 46).toInt = (t.1 0 46).toInt := ti_eq (f_305.1 0 46 rfl)
          have h_312 : (t_303.1 0 52).toInt = (t.1 0 52).toInt := ti_eq (f_305.1 0 52 rfl)
          have h_313 : (t_303.1 0 60).toInt = (t.1 0 60).toInt := ti_eq (f_305.1 0 60 rfl)
          have h_314 : (t_303.1 0 67).toInt = (t.1 0 67).toInt := ti_eq (f_305.1 0 67 rfl)
          have h_315 : (t_303.1 0 69).toInt = (t.1 0 69).toInt := ti_eq (f_305.1 0 69 rfl)
          have h_316 : (t_303.1 0 71).toInt = (t.1 0 71).toInt := ti_eq (f_305.1 0 71 rfl)
          have e_317 : t_303.2.2.1 19 = t.2.2.1 19 := f_305.2.2.1 19 rfl
          have e_318 : t_303.2.2.1 20 = t.2.2.1 20 := f_305.2.2.1 20 rfl
          have h_319 : (t.2.2.1 19 (t_303.1 0 67 : Int32).toNatClampNeg).toInt = (t.2.2.1 19 (t.1 0 67 : Int32).toNatClampNeg).toInt := by rw [show t_303.1 0 67 = t.1 0 67 from f_305.1 0 67 rfl]
          have h_320 : (t.2.2.1 20 (t_303.1 0 67 : Int32).toNatClampNeg).toInt = (t.2.2.1 20 (t.1 0 67 : Int32).toNatClampNeg).toInt := by rw [show t_303.1 0 67 = t.1 0 67 from f_305.1 0 67 rfl]
          have h_321 : (0 : Int) ≤ (t_303.1 0 52).toInt ∧ (t_303.1 0 52).toInt ≤ 1200 := hok.1 0 52
          have h_322 : (0 : Int) ≤ (t_303.1 0 60).toInt ∧ (t_303.1 0 60).toInt ≤ 1200 := hok.1 0 60
          have h_323 : (0 : Int) ≤ (t_303.1 0 67).toInt ∧ (t_303.1 0 67).toInt ≤ 1281 := hok.1 0 67
          have h_324 : (0 : Int) ≤ (t_303.1 0 68).toInt ∧ (t_303.1 0 68).toInt ≤ 81 := hok.1 0 68
          have h_325 : (0 : Int) ≤ (t_303.1 0 69).toInt ∧ (t_303.1 0 69).toInt ≤ 81 := hok.1 0 69
          have h_326 : (0 : Int) ≤ (t_303.1 0 70).toInt ∧ (t_303.1 0 70).toInt ≤ 8 := hok.1 0 70
          have h_327 : (-1 : Int) ≤ (t_303.1 0 71).toInt ∧ (t_303.1 0 71).toInt ≤ 2 := hok.1 0 71
          replace p_308 : (t_303.1 0 70).toInt = 0 → (0 : Int32).toInt ≤ r_304.toInt ∧ r_304.toInt ≤ (3999 : Int32).toInt := p_308
          replace p_309 : (t_303.1 0 70).toInt = 0 → (t.1 0 70).toInt = 0 := p_309
          refine lv_istore_n (lv' := [(3, .int r_304), (0, .ref (ad 0)), (1, .int x1), (2, .int (t.1 0 47))]) C.1 C.2.1 dX12_workAddress_120 rfl hl (by decide) rfl (fun ls hl => ?_)
          have hl : lv_has ls 4 [(0, .ref (ad 0)), (1, .int x1), (2, .int (t.1 0 47)), (3, .int r_304)] := lv_sub hl [1, 2, 3, 0] rfl
          refine lv_aload_n C.1 C.2.1 dX12_workAddress_121 rfl (lv_at hl 0 rfl) ?_
          refine k_get (v := .int (t_303.1 0 70)) C hP 0 rfl rfl inlX12 70 (by decide) m_29_13 rfl dX12_workAddress_122 ?_
          refine lv_if_le (tgt := 130) C.1 C.2.1 dX12_workAddress_125 (by decide) (fun c_328 => ?_) (fun c_328 => ?_)
          · replace c_328 : (t_303.1 0 70).toInt ≤ 0 := i_le c_328
            refine lv_aload_n C.1 C.2.1 dX12_workAddress_130 rfl (lv_at hl 0 rfl) ?_
            refine lv_iload_n C.1 C.2.1 dX12_workAddress_131 rfl (lv_at hl 2 rfl) ?_
            obtain ⟨v_329, e_330⟩ : ∃ z, z = ((t.1 0 47) : Int32).toInt64 := ⟨_, rfl⟩
            have h_331 : v_329.toInt = (t.1 0 47).toInt := by rw [e_330]; exact Jvm.Kit.i64_of_i32 _
            refine lv_i2l (v := v_329) C.1 C.2.1 dX12_workAddress_132 e_330.symm ?_
            refine g_Si (As := [.long v_329]) (rest := [.ref (ad 0)]) C hP hD hS hA (T_X12_wordOf l D K Z Y ad t_303 hok (v_329)) hE hZ (uwS m_35_4 m_35_5 m_1_5 m_35_6) (hdS 1 (by decide +kernel) rfl) ⟨Nat.le_of_ble_eq_true rfl, Nat.le_of_ble_eq_true rfl⟩ rfl rfl rfl hl.1 (Nat.le_of_ble_eq_true rfl) dX12_workAddress_133 ⟨Nat.le_of_ble_eq_true rfl, Nat.le_of_ble_eq_true rfl⟩ (fun r_333 t_332 H locs hw hP hD hS => ?_)
            obtain ⟨h_335, h_336⟩ := hw
            refine g_Vv (As := [.int r_333]) (rest := []) C hP hD hS hA (T_X12_define l D K Z Y ad t_303 hok (r_333) (show (t_303.1 0 52).toInt ≤ 1199 from by omega)) hE hZ (uwV m_37_10 m_37_11 m_37_12 m_1_5 m_37_13) (hdV 1 (by decide +kernel) rfl) ⟨Nat.le_of_ble_eq_true rfl, Nat.le_of_ble_eq_true rfl⟩ rfl rfl (ci := 11) (q0 := 0) rfl rfl rfl hl.1 (Nat.le_of_ble_eq_true rfl) dX12_workAddress_136 ⟨Nat.le_of_ble_eq_true rfl, Nat.le_of_ble_eq_true rfl⟩ (fun t_337 H locs hw hP hD hS => ?_)
            obtain ⟨hok, f_339, p_340, p_341⟩ := hw
            have hfr : frA [(0, 45), (0, 47), (0, 48), (0, 52), (0, 60), (0, 68), (0, 70), (0, 71), (0, 72), (0, 73)] [] [2, 21, 22, 24, 25, 26, 27, 28, 29, 30, 31, 32, 33, 34, 35, 44] [23] t t_337 := frA_tr hfr f_339 rfl
            have h_342 : (t_337.1 0 47).toInt = (t_303.1 0 47).toInt := ti_eq (f_339.1 0 47 rfl)
            have h_343 : (t_337.1 0 46).toInt = (t_303.1 0 46).toInt := ti_eq (f_339.1 0 46 rfl)
            have h_344 : (t_337.1 0 70).toInt = (t_303.1 0 70).toInt := ti_eq (f_339.1 0 70 rfl)
            have h_345 : (t_337.1 0 60).toInt = (t_303.1 0 60).toInt := ti_eq (f_339.1 0 60 rfl)
            have h_346 : (t_337.1 0 67).toInt = (t_303.1 0 67).toInt := ti_eq (f_339.1 0 67 rfl)
            have h_347 : (t_337.1 0 68).toInt = (t_303.1 0 68).toInt := ti_eq (f_339.1 0 68 rfl)
            have h_348 : (t_337.1 0 69).toInt = (t_303.1 0 69).toInt := ti_eq (f_339.1 0 69 rfl)
            have h_349 : (t_337.1 0 71).toInt = (t_303.1 0 71).toInt := ti_eq (f_339.1 0 71 rfl)
            have e_350 : t_337.2.2.1 19 = t.2.2.1 19 := (f_339.2.2.1 19 rfl).trans (e_317)
            have e_351 : t_337.2.2.1 20 = t.2.2.1 20 := (f_339.2.2.1 20 rfl).trans (e_318)
            have h_352 : (t.2.2.1 19 (t_337.1 0 67 : Int32).toNatClampNeg).toInt = (t.2.2.1 19 (t_303.1 0 67 : Int32).toNatClampNeg).toInt := by rw [show t_337.1 0 67 = t_303.1 0 67 from f_339.1 0 67 rfl]
            have h_353 : (t.2.2.1 20 (t_337.1 0 67 : Int32).toNatClampNeg).toInt = (t.2.2.1 20 (t_303.1 0 67 : Int32).toNatClampNeg).toInt := by rw [show t_337.1 0 67 = t_303.1 0 67 from f_339.1 0 67 rfl]
            have h_354 : (0 : Int) ≤ (t_337.1 0 52).toInt ∧ (t_337.1 0 52).toInt ≤ 1200 := hok.1 0 52
            have h_355 : (0 : Int) ≤ (t_337.1 0 60).toInt ∧ (t_337.1 0 60).toInt ≤ 1200 := hok.1 0 60
            have h_356 : (0 : Int) ≤ (t_337.1 0 67).toInt ∧ (t_337.1 0 67).toInt ≤ 1281 := hok.1 0 67
            have h_357 : (0 : Int) ≤ (t_337.1 0 68).toInt ∧ (t_337.1 0 68).toInt ≤ 81 := hok.1 0 68
            have h_358 : (0 : Int) ≤ (t_337.1 0 69).toInt ∧ (t_337.1 0 69).toInt ≤ 81 := hok.1 0 69
            have h_359 : (-1 : Int) ≤ (t_337.1 0 71).toInt ∧ (t_337.1 0 71).toInt ≤ 2 := hok.1 0 71
            replace p_340 : (t_303.1 0 52).toInt ≤ (t_337.1 0 52).toInt := p_340
            replace p_341 : (t_337.1 0 52).toInt ≤ (t_303.1 0 52).toInt + 1 := p_341
            refine lv_aload_n C.1 C.2.1 dX12_workAddress_139 rfl (lv_at hl 0 rfl) ?_
            refine lv_iload_n C.1 C.2.1 dX12_workAddress_140 rfl (lv_at hl 3 rfl) ?_
            refine k_put (ws' := WM K ad (uI t_337 0 45 r_304)) (v := .int r_304) C hP hD hS 0 rfl rfl inlX12 tyX12_ok nmX12 45 (by decide) m_29_0 rfl rfl rfl rfl rfl dX12_workAddress_141 (fun H locs hP hD hS => ?_)
            have hok : okM (uI t_337 0 45 r_304) := ⟨okI_I hok.1 0 45 r_304 (show (-3999 : Int) ≤ (r_304 : Int32).toInt ∧ (r_304 : Int32).toInt ≤ 3999 from ⟨by omega, by omega⟩), hok.2.1, hok.2.2.1, hok.2.2.2.1, hok.2.2.2.2.1, hok.2.2.2.2.2.1, hok.2.2.2.2.2.2.1, trivial⟩
            have hfr : frA [(0, 45), (0, 47), (0, 48), (0, 52), (0, 60), (0, 68), (0, 70), (0, 71), (0, 72), (0, 73)] [] [2, 21, 22, 24, 25, 26, 27, 28, 29, 30, 31, 32, 33, 34, 35, 44] [23] t (uI t_337 0 45 r_304) := frA_I hfr 0 45 _ rfl
            refine lv_aload_n C.1 C.2.1 dX12_workAddress_144 rfl (lv_at hl 0 rfl) ?_
            refine g_Vv (As := []) (rest := []) C hP hD hS hA (T_X12_finish l D K Z Y ad (uI t_337 0 45 r_304) hok ) hE hZ (uwV m_37_22 m_37_23 m_38_0 m_1_5 m_38_1) (hdV 0 (by decide +kernel) rfl) ⟨Nat.le_of_ble_eq_true rfl, Nat.le_of_ble_eq_true rfl⟩ rfl rfl (ci := 11) (q0 := 0) rfl rfl rfl hl.1 (Nat.le_of_ble_eq_true rfl) dX12_workAddress_145 ⟨Nat.le_of_ble_eq_true rfl, Nat.le_of_ble_eq_true rfl⟩ (fun t_360 H locs hw hP hD hS => ?_)
            obtain ⟨hok, f_362⟩ := hw
            have hfr : frA [(0, 45), (0, 47), (0, 48), (0, 52), (0, 60), (0, 68), (0, 70), (0, 71), (0, 72), (0, 73)] [] [2, 21, 22, 24, 25, 26, 27, 28, 29, 30, 31, 32, 33, 34, 35, 44] [23] t t_360 := frA_tr hfr f_362 rfl
            have h_363 : (t_360.1 0 46).toInt = (t_337.1 0 46).toInt := ti_eq (f_362.1 0 46 rfl)
            have h_364 : (t_360.1 0 45).toInt = r_304.toInt := ti_eq (f_362.1 0 45 rfl)
            have h_365 : (t_360.1 0 52).toInt = (t_337.1 0 52).toInt := ti_eq (f_362.1 0 52 rfl)
            have h_366 : (t_360.1 0 60).toInt = (t_337.1 0 60).toInt := ti_eq (f_362.1 0 60 rfl)
            have h_367 : (t_360.1 0 67).toInt = (t_337.1 0 67).toInt := ti_eq (f_362.1 0 67 rfl)
            have h_368 : (t_360.1 0 68).toInt = (t_337.1 0 68).toInt := ti_eq (f_362.1 0 68 rfl)
            have h_369 : (t_360.1 0 69).toInt = (t_337.1 0 69).toInt := ti_eq (f_362.1 0 69 rfl)
            have h_370 : (t_360.1 0 71).toInt = (t_337.1 0 71).toInt := ti_eq (f_362.1 0 71 rfl)
            have e_371 : t_360.2.2.1 19 = t.2.2.1 19 := (f_362.2.2.1 19 rfl).trans (e_350)
            have e_372 : t_360.2.2.1 20 = t.2.2.1 20 := (f_362.2.2.1 20 rfl).trans (e_351)
            have h_373 : (t.2.2.1 19 (t_360.1 0 67 : Int32).toNatClampNeg).toInt = (t.2.2.1 19 (t_337.1 0 67 : Int32).toNatClampNeg).toInt := by rw [show t_360.1 0 67 = t_337.1 0 67 from f_362.1 0 67 rfl]
            have h_374 : (t.2.2.1 20 (t_360.1 0 67 : Int32).toNatClampNeg).toInt = (t.2.2.1 20 (t_337.1 0 67 : Int32).toNatClampNeg).toInt := by rw [show t_360.1 0 67 = t_337.1 0 67 from f_362.1 0 67 rfl]
            have h_375 : (-3999 : Int) ≤ (t_360.1 0 47).toInt ∧ (t_360.1 0 47).toInt ≤ 4000 := hok.1 0 47
            have h_376 : (0 : Int) ≤ (t_360.1 0 52).toInt ∧ (t_360.1 0 52).toInt ≤ 1200 := hok.1 0 52
            have h_377 : (0 : Int) ≤ (t_360.1 0 60).toInt ∧ (t_360.1 0 60).toInt ≤ 1200 := hok.1 0 60
            have h_378 : (0 : Int) ≤ (t_360.1 0 67).toInt ∧ (t_360.1 0 67).toInt ≤ 1281 := hok.1 0 67
            have h_379 : (0 : Int) ≤ (t_360.1 0 68).toInt ∧ (t_360.1 0 68).toInt ≤ 81 := hok.1 0 68
            have h_380 : (0 : Int) ≤ (t_360.1 0 69).toInt ∧ (t_360.1 0 69).toInt ≤ 81 := hok.1 0 69
            have h_381 : (0 : Int) ≤ (t_360.1 0 70).toInt ∧ (t_360.1 0 70).toInt ≤ 8 := hok.1 0 70
            have h_382 : (-1 : Int) ≤ (t_360.1 0 71).toInt ∧ (t_360.1 0 71).toInt ≤ 2 := hok.1 0 71
            refine lv_iconst (v := 1) C.1 C.2.1 dX12_workAddress_148 (by decide) ?_
            exact g_iret C hr hlocks hP hD hS (by decide) t_360 rfl ⟨hok, hfr, by decide, by decide, (show (t.1 0 52).toInt ≤ (t_360.1 0 52).toInt from by omega), (show 9 * ((t_360.1 0 52).toInt - (t.1 0 52).toInt) ≤ (t.2.2.1 20 ((t.1 0 67) : Int32).toNatClampNeg).toInt + 1 - (t.2.2.1 19 ((t.1 0 67) : Int32).toNatClampNeg).toInt from by omega), (show (t.1 0 60).toInt ≤ (t_360.1 0 60).toInt from by omega), (show 13 * ((t_360.1 0 60).toInt - (t.1 0 60).toInt) ≤ (t.2.2.1 20 ((t.1 0 67) : Int32).toNatClampNeg).toInt + 1 - (t.2.2.1 19 ((t.1 0 67) : Int32).toNatClampNeg).toInt from by omega)⟩ (Nat.le_of_ble_eq_true rfl) (Nat.le_of_ble_eq_true rfl) dX12_workAddress_149
          · replace c_328 : 0 < (t_303.1 0 70).toInt := i_nle c_328
            refine lv_iconst (v := 0) C.1 C.2.1 dX12_workAddress_128 (by decide) ?_
            exact g_iret C hr hlocks hP hD hS (by decide) t_303 rfl ⟨hok, hfr, by decide, by decide, (show (t.1 0 52).toInt ≤ (t_303.1 0 52).toInt from by omega), (show 9 * ((t_303.1 0 52).toInt - (t.1 0 52).toInt) ≤ (t.2.2.1 20 ((t.1 0 67) : Int32).toNatClampNeg).toInt + 1 - (t.2.2.1 19 ((t.1 0 67) : Int32).toNatClampNeg).toInt from by omega), (show (t.1 0 60).toInt ≤ (t_303.1 0 60).toInt from by omega), (show 13 * ((t_303.1 0 60).toInt - (t.1 0 60).toInt) ≤ (t.2.2.1 20 ((t.1 0 67) : Int32).toNatClampNeg).toInt + 1 - (t.2.2.1 19 ((t.1 0 67) : Int32).toNatClampNeg).toInt from by omega)⟩ (Nat.le_of_ble_eq_true rfl) (Nat.le_of_ble_eq_true rfl) dX12_workAddress_129
    · replace c_159 : x1.toInt = 5001 := i_eq c_159
      refine lv_aload_n C.1 C.2.1 dX12_workAddress_39 rfl (lv_at hl 0 rfl) ?_
      refine lv_aload_n C.1 C.2.1 dX12_workAddress_40 rfl (lv_at hl 0 rfl) ?_
      have h_383 : (0 : Int) ≤ (t.1 0 46).toInt ∧ (t.1 0 46).toInt ≤ 1 := hok.1 0 46
      refine k_get (v := .int (t.1 0 46)) C hP 0 rfl rfl inlX12 46 (by decide) m_28_22 rfl dX12_workAddress_41 ?_
      refine lv_if_eq (tgt := 51) C.1 C.2.1 dX12_workAddress_44 (by decide) (fun c_384 => ?_) (fun c_384 => ?_)
      · replace c_384 : (t.1 0 46).toInt = 0 := i_eq c_384
        refine lv_sipush (v := (-3999)) C.1 C.2.1 dX12_workAddress_51 (by decide) ?_
        refine lv_sipush (v := 4000) C.1 C.2.1 dX12_workAddress_54 (by decide) ?_
        have h_385 : ((-3999) : Int32).toInt = -3999 := rfl
        have h_386 : (4000 : Int32).toInt = 4000 := rfl
        refine g_Vi (As := [.int (-3999), .int 4000]) (rest := []) C hP hD hS hA (T_X12_bounded l D K Z Y ad t hok (-3999) (show (-3999 : Int) ≤ ((-3999) : Int32).toInt ∧ ((-3999) : Int32).toInt ≤ 0 from ⟨by decide, by decide⟩) 4000 (show (3999 : Int) ≤ (4000 : Int32).toInt ∧ (4000 : Int32).toInt ≤ 4000 from ⟨by decide, by decide⟩) (show 1 ≤ (t.1 0 68).toInt from by omega)) hE hZ (uwV m_37_18 m_37_19 m_37_20 m_1_5 m_37_21) (hdV 2 (by decide +kernel) rfl) ⟨Nat.le_of_ble_eq_true rfl, Nat.le_of_ble_eq_true rfl⟩ rfl rfl (ci := 11) (q0 := 0) rfl rfl rfl hl.1 (Nat.le_of_ble_eq_true rfl) dX12_workAddress_57 ⟨Nat.le_of_ble_eq_true rfl, Nat.le_of_ble_eq_true rfl⟩ (fun r_388 t_387 H locs hw hP hD hS => ?_)
        obtain ⟨hok, f_389, h_390, h_391, p_392, p_393⟩ := hw
        have hfr : frA [(0, 45), (0, 47), (0, 48), (0, 52), (0, 60), (0, 68), (0, 70), (0, 71), (0, 72), (0, 73)] [] [2, 21, 22, 24, 25, 26, 27, 28, 29, 30, 31, 32, 33, 34, 35, 44] [23] t t_387 := frA_tr hfr f_389 rfl
        have h_394 : (t_387.1 0 47).toInt = (t.1 0 47).toInt := ti_eq (f_389.1 0 47 rfl)
        have h_395 : (t_387.1 0 46).toInt = (t.1 0 46).toInt := ti_eq (f_389.1 0 46 rfl)
        have h_396 : (t_387.1 0 52).toInt = (t.1 0 52).toInt := ti_eq (f_389.1 0 52 rfl)
        have h_397 : (t_387.1 0 60).toInt = (t.1 0 60).toInt := ti_eq (f_389.1 0 60 rfl)
        have h_398 : (t_387.1 0 67).toInt = (t.1 0 67).toInt := ti_eq (f_389.1 0 67 rfl)
        have h_399 : (t_387.1 0 69).toInt = (t.1 0 69).toInt := ti_eq (f_389.1 0 69 rfl)
        have h_400 : (t_387.1 0 71).toInt = (t.1 0 71).toInt := ti_eq (f_389.1 0 71 rfl)
        have e_401 : t_387.2.2.1 19 = t.2.2.1 19 := f_389.2.2.1 19 rfl
        have e_402 : t_387.2.2.1 20 = t.2.2.1 20 := f_389.2.2.1 20 rfl
        have h_403 : (t.2.2.1 19 (t_387.1 0 67 : Int32).toNatClampNeg).toInt = (t.2.2.1 19 (t.1 0 67 : Int32).toNatClampNeg).toInt := by rw [show t_387.1 0 67 = t.1 0 67 from f_389.1 0 67 rfl]
        have h_404 : (t.2.2.1 20 (t_387.1 0 67 : Int32).toNatClampNeg).toInt = (t.2.2.1 20 (t.1 0 67 : Int32).toNatClampNeg).toInt := by rw [show t_387.1 0 67 = t.1 0 67 from f_389.1 0 67 rfl]
        have h_405 : (0 : Int) ≤ (t_387.1 0 52).toInt ∧ (t_387.1 0 52).toInt ≤ 1200 := hok.1 0 52
        have h_406 : (0 : Int) ≤ (t_387.1 0 60).toInt ∧ (t_387.1 0 60).toInt ≤ 1200 := hok.1 0 60
        have h_407 : (0 : Int) ≤ (t_387.1 0 67).toInt ∧ (t_387.1 0 67).toInt ≤ 1281 := hok.1 0 67
        have h_408 : (0 : Int) ≤ (t_387.1 0 68).toInt ∧ (t_387.1 0 68).toInt ≤ 81 := hok.1 0 68
        have h_409 : (0 : Int) ≤ (t_387.1 0 69).toInt ∧ (t_387.1 0 69).toInt ≤ 81 := hok.1 0 69
        have h_410 : (0 : Int) ≤ (t_387.1 0 70).toInt ∧ (t_387.1 0 70).toInt ≤ 8 := hok.1 0 70
        have h_411 : (-1 : Int) ≤ (t_387.1 0 71).toInt ∧ (t_387.1 0 71).toInt ≤ 2 := hok.1 0 71
        replace p_392 : (t_387.1 0 70).toInt = 0 → ((-3999) : Int32).toInt ≤ r_388.toInt ∧ r_388.toInt ≤ (4000 : Int32).toInt := p_392
        replace p_393 : (t_387.1 0 70).toInt = 0 → (t.1 0 70).toInt = 0 := p_393
        refine lv_istore_n (lv' := [(3, .int r_388), (0, .ref (ad 0)), (1, .int x1), (2, .int (t.1 0 47))]) C.1 C.2.1 dX12_workAddress_60 rfl hl (by decide) rfl (fun ls hl => ?_)
        have hl : lv_has ls 4 [(0, .ref (ad 0)), (1, .int x1), (2, .int (t.1 0 47)), (3, .int r_388)] := lv_sub hl [1, 2, 3, 0] rfl
        refine lv_aload_n C.1 C.2.1 dX12_workAddress_61 rfl (lv_at hl 0 rfl) ?_
        refine k_get (v := .int (t_387.1 0 70)) C hP 0 rfl rfl inlX12 70 (by decide) m_29_13 rfl dX12_workAddress_62 ?_
        refine lv_if_ne (tgt := 77) C.1 C.2.1 dX12_workAddress_65 (by decide) (fun c_412 => ?_) (fun c_412 => ?_)
        · replace c_412 : ¬ (t_387.1 0 70).toInt = 0 := i_ne c_412
          exact L_77 t_387 (t.1 0 47) r_388 _ _ _ hok hfr ⟨by omega, by omega⟩ ⟨by omega, by omega⟩ (show (t_387.1 0 70).toInt = 0 → -3999 ≤ r_388.toInt ∧ r_388.toInt ≤ 4000 from by omega) (show (t.1 0 52).toInt ≤ (t_387.1 0 52).toInt from by omega) (show (t_387.1 0 52).toInt ≤ (t.1 0 52).toInt + 1 from by omega) (show (t_387.1 0 60).toInt = (t.1 0 60).toInt from by omega) hP hD hS (lv_sub hl [0, 1, 2, 3] rfl)
        · replace c_412 : (t_387.1 0 70).toInt = 0 := i_eq c_412
          refine lv_aload_n C.1 C.2.1 dX12_workAddress_68 rfl (lv_at hl 0 rfl) ?_
          refine lv_iload_n C.1 C.2.1 dX12_workAddress_69 rfl (lv_at hl 2 rfl) ?_
          obtain ⟨v_413, e_414⟩ : ∃ z, z = ((t.1 0 47) : Int32).toInt64 := ⟨_, rfl⟩
          have h_415 : v_413.toInt = (t.1 0 47).toInt := by rw [e_414]; exact Jvm.Kit.i64_of_i32 _
          refine lv_i2l (v := v_413) C.1 C.2.1 dX12_workAddress_70 e_414.symm ?_
          refine g_Si (As := [.long v_413]) (rest := [.ref (ad 0)]) C hP hD hS hA (T_X12_wordOf l D K Z Y ad t_387 hok (v_413)) hE hZ (uwS m_35_4 m_35_5 m_1_5 m_35_6) (hdS 1 (by decide +kernel) rfl) ⟨Nat.le_of_ble_eq_true rfl, Nat.le_of_ble_eq_true rfl⟩ rfl rfl rfl hl.1 (Nat.le_of_ble_eq_true rfl) dX12_workAddress_71 ⟨Nat.le_of_ble_eq_true rfl, Nat.le_of_ble_eq_true rfl⟩ (fun r_417 t_416 H locs hw hP hD hS => ?_)
          obtain ⟨h_419, h_420⟩ := hw
          refine g_Vv (As := [.int r_417]) (rest := []) C hP hD hS hA (T_X12_define l D K Z Y ad t_387 hok (r_417) (show (t_387.1 0 52).toInt ≤ 1199 from by omega)) hE hZ (uwV m_37_10 m_37_11 m_37_12 m_1_5 m_37_13) (hdV 1 (by decide +kernel) rfl) ⟨Nat.le_of_ble_eq_true rfl, Nat.le_of_ble_eq_true rfl⟩ rfl rfl (ci := 11) (q0 := 0) rfl rfl rfl hl.1 (Nat.le_of_ble_eq_true rfl) dX12_workAddress_74 ⟨Nat.le_of_ble_eq_true rfl, Nat.le_of_ble_eq_true rfl⟩ (fun t_421 H locs hw hP hD hS => ?_)
          obtain ⟨hok, f_423, p_424, p_425⟩ := hw
          have hfr : frA [(0, 45), (0, 47), (0, 48), (0, 52), (0, 60), (0, 68), (0, 70), (0, 71), (0, 72), (0, 73)] [] [2, 21, 22, 24, 25, 26, 27, 28, 29, 30, 31, 32, 33, 34, 35, 44] [23] t t_421 := frA_tr hfr f_423 rfl
          have h_426 : (t_421.1 0 47).toInt = (t_387.1 0 47).toInt := ti_eq (f_423.1 0 47 rfl)
          have h_427 : (t_421.1 0 46).toInt = (t_387.1 0 46).toInt := ti_eq (f_423.1 0 46 rfl)
          have h_428 : (t_421.1 0 70).toInt = (t_387.1 0 70).toInt := ti_eq (f_423.1 0 70 rfl)
          have h_429 : (t_421.1 0 60).toInt = (t_387.1 0 60).toInt := ti_eq (f_423.1 0 60 rfl)
          have h_430 : (t_421.1 0 67).toInt = (t_387.1 0 67).toInt := ti_eq (f_423.1 0 67 rfl)
          have h_431 : (t_421.1 0 68).toInt = (t_387.1 0 68).toInt := ti_eq (f_423.1 0 68 rfl)
          have h_432 : (t_421.1 0 69).toInt = (t_387.1 0 69).toInt := ti_eq (f_423.1 0 69 rfl)
          have h_433 : (t_421.1 0 71).toInt = (t_387.1 0 71).toInt := ti_eq (f_423.1 0 71 rfl)
          have e_434 : t_421.2.2.1 19 = t.2.2.1 19 := (f_423.2.2.1 19 rfl).trans (e_401)
          have e_435 : t_421.2.2.1 20 = t.2.2.1 20 := (f_423.2.2.1 20 rfl).trans (e_402)
          have h_436 : (t.2.2.1 19 (t_421.1 0 67 : Int32).toNatClampNeg).toInt = (t.2.2.1 19 (t_387.1 0 67 : Int32).toNatClampNeg).toInt := by rw [show t_421.1 0 67 = t_387.1 0 67 from f_423.1 0 67 rfl]
          have h_437 : (t.2.2.1 20 (t_421.1 0 67 : Int32).toNatClampNeg).toInt = (t.2.2.1 20 (t_387.1 0 67 : Int32).toNatClampNeg).toInt := by rw [show t_421.1 0 67 = t_387.1 0 67 from f_423.1 0 67 rfl]
          have h_438 : (0 : Int) ≤ (t_421.1 0 52).toInt ∧ (t_421.1 0 52).toInt ≤ 1200 := hok.1 0 52
          have h_439 : (0 : Int) ≤ (t_421.1 0 60).toInt ∧ (t_421.1 0 60).toInt ≤ 1200 := hok.1 0 60
          have h_440 : (0 : Int) ≤ (t_421.1 0 67).toInt ∧ (t_421.1 0 67).toInt ≤ 1281 := hok.1 0 67
          have h_441 : (0 : Int) ≤ (t_421.1 0 68).toInt ∧ (t_421.1 0 68).toInt ≤ 81 := hok.1 0 68
          have h_442 : (0 : Int) ≤ (t_421.1 0 69).toInt ∧ (t_421.1 0 69).toInt ≤ 81 := hok.1 0 69
          have h_443 : (-1 : Int) ≤ (t_421.1 0 71).toInt ∧ (t_421.1 0 71).toInt ≤ 2 := hok.1 0 71
          replace p_424 : (t_387.1 0 52).toInt ≤ (t_421.1 0 52).toInt := p_424
          replace p_425 : (t_421.1 0 52).toInt ≤ (t_387.1 0 52).toInt + 1 := p_425
          exact L_77 t_421 (t.1 0 47) r_388 _ _ _ hok hfr ⟨by omega, by omega⟩ ⟨by omega, by omega⟩ (show (t_421.1 0 70).toInt = 0 → -3999 ≤ r_388.toInt ∧ r_388.toInt ≤ 4000 from by omega) (show (t.1 0 52).toInt ≤ (t_421.1 0 52).toInt from by omega) (show (t_421.1 0 52).toInt ≤ (t.1 0 52).toInt + 1 from by omega) (show (t_421.1 0 60).toInt = (t.1 0 60).toInt from by omega) hP hD hS (lv_sub hl [0, 1, 2, 3] rfl)
      · replace c_384 : ¬ (t.1 0 46).toInt = 0 := i_ne c_384
        refine lv_iconst (v := 0) C.1 C.2.1 dX12_workAddress_47 (by decide) ?_
        refine lv_goto (tgt := 54) C.1 C.2.1 dX12_workAddress_48 (by decide) ?_
        refine lv_sipush (v := 4000) C.1 C.2.1 dX12_workAddress_54 (by decide) ?_
        have h_444 : (0 : Int32).toInt = 0 := rfl
        have h_445 : (4000 : Int32).toInt = 4000 := rfl
        refine g_Vi (As := [.int 0, .int 4000]) (rest := []) C hP hD hS hA (T_X12_bounded l D K Z Y ad t hok 0 (show (-3999 : Int) ≤ (0 : Int32).toInt ∧ (0 : Int32).toInt ≤ 0 from ⟨by decide, by decide⟩) 4000 (show (3999 : Int) ≤ (4000 : Int32).toInt ∧ (4000 : Int32).toInt ≤ 4000 from ⟨by decide, by decide⟩) (show 1 ≤ (t.1 0 68).toInt from by omega)) hE hZ (uwV m_37_18 m_37_19 m_37_20 m_1_5 m_37_21) (hdV 2 (by decide +kernel) rfl) ⟨Nat.le_of_ble_eq_true rfl, Nat.le_of_ble_eq_true rfl⟩ rfl rfl (ci := 11) (q0 := 0) rfl rfl rfl hl.1 (Nat.le_of_ble_eq_true rfl) dX12_workAddress_57 ⟨Nat.le_of_ble_eq_true rfl, Nat.le_of_ble_eq_true rfl⟩ (fun r_447 t_446 H locs hw hP hD hS => ?_)
        obtain ⟨hok, f_448, h_449, h_450, p_451, p_452⟩ := hw
        have hfr : frA [(0, 45), (0, 47), (0, 48), (0, 52), (0, 60), (0, 68), (0, 70), (0, 71), (0, 72), (0, 73)] [] [2, 21, 22, 24, 25, 26, 27, 28, 29, 30, 31, 32, 33, 34, 35, 44] [23] t t_446 := frA_tr hfr f_448 rfl
        have h_453 : (t_446.1 0 47).toInt = (t.1 0 47).toInt := ti_eq (f_448.1 0 47 rfl)
        have h_454 : (t_446.1 0 46).toInt = (t.1 0 46).toInt := ti_eq (f_448.1 0 46 rfl)
        have h_455 : (t_446.1 0 52).toInt = (t.1 0 52).toInt := ti_eq (f_448.1 0 52 rfl)
        have h_456 : (t_446.1 0 60).toInt = (t.1 0 60).toInt := ti_eq (f_448.1 0 60 rfl)
        have h_457 : (t_446.1 0 67).toInt = (t.1 0 67).toInt := ti_eq (f_448.1 0 67 rfl)
        have h_458 : (t_446.1 0 69).toInt = (t.1 0 69).toInt := ti_eq (f_448.1 0 69 rfl)
        have h_459 : (t_446.1 0 71).toInt = (t.1 0 71).toInt := ti_eq (f_448.1 0 71 rfl)
        have e_460 : t_446.2.2.1 19 = t.2.2.1 19 := f_448.2.2.1 19 rfl
        have e_461 : t_446.2.2.1 20 = t.2.2.1 20 := f_448.2.2.1 20 rfl
        have h_462 : (t.2.2.1 19 (t_446.1 0 67 : Int32).toNatClampNeg).toInt = (t.2.2.1 19 (t.1 0 67 : Int32).toNatClampNeg).toInt := by rw [show t_446.1 0 67 = t.1 0 67 from f_448.1 0 67 rfl]
        have h_463 : (t.2.2.1 20 (t_446.1 0 67 : Int32).toNatClampNeg).toInt = (t.2.2.1 20 (t.1 0 67 : Int32).toNatClampNeg).toInt := by rw [show t_446.1 0 67 = t.1 0 67 from f_448.1 0 67 rfl]
        have h_464 : (0 : Int) ≤ (t_446.1 0 52).toInt ∧ (t_446.1 0 52).toInt ≤ 1200 := hok.1 0 52
        have h_465 : (0 : Int) ≤ (t_446.1 0 60).toInt ∧ (t_446.1 0 60).toInt ≤ 1200 := hok.1 0 60
        have h_466 : (0 : Int) ≤ (t_446.1 0 67).toInt ∧ (t_446.1 0 67).toInt ≤ 1281 := hok.1 0 67
        have h_467 : (0 : Int) ≤ (t_446.1 0 68).toInt ∧ (t_446.1 0 68).toInt ≤ 81 := hok.1 0 68
        have h_468 : (0 : Int) ≤ (t_446.1 0 69).toInt ∧ (t_446.1 0 69).toInt ≤ 81 := hok.1 0 69
        have h_469 : (0 : Int) ≤ (t_446.1 0 70).toInt ∧ (t_446.1 0 70).toInt ≤ 8 := hok.1 0 70
        have h_470 : (-1 : Int) ≤ (t_446.1 0 71).toInt ∧ (t_446.1 0 71).toInt ≤ 2 := hok.1 0 71
        replace p_451 : (t_446.1 0 70).toInt = 0 → (0 : Int32).toInt ≤ r_447.toInt ∧ r_447.toInt ≤ (4000 : Int32).toInt := p_451
        replace p_452 : (t_446.1 0 70).toInt = 0 → (t.1 0 70).toInt = 0 := p_452
        refine lv_istore_n (lv' := [(3, .int r_447), (0, .ref (ad 0)), (1, .int x1), (2, .int (t.1 0 47))]) C.1 C.2.1 dX12_workAddress_60 rfl hl (by decide) rfl (fun ls hl => ?_)
        have hl : lv_has ls 4 [(0, .ref (ad 0)), (1, .int x1), (2, .int (t.1 0 47)), (3, .int r_447)] := lv_sub hl [1, 2, 3, 0] rfl
        refine lv_aload_n C.1 C.2.1 dX12_workAddress_61 rfl (lv_at hl 0 rfl) ?_
        refine k_get (v := .int (t_446.1 0 70)) C hP 0 rfl rfl inlX12 70 (by decide) m_29_13 rfl dX12_workAddress_62 ?_
        refine lv_if_ne (tgt := 77) C.1 C.2.1 dX12_workAddress_65 (by decide) (fun c_471 => ?_) (fun c_471 => ?_)
        · replace c_471 : ¬ (t_446.1 0 70).toInt = 0 := i_ne c_471
          exact L_77 t_446 (t.1 0 47) r_447 _ _ _ hok hfr ⟨by omega, by omega⟩ ⟨by omega, by omega⟩ (show (t_446.1 0 70).toInt = 0 → -3999 ≤ r_447.toInt ∧ r_447.toInt ≤ 4000 from by omega) (show (t.1 0 52).toInt ≤ (t_446.1 0 52).toInt from by omega) (show (t_446.1 0 52).toInt ≤ (t.1 0 52).toInt + 1 from by omega) (show (t_446.1 0 60).toInt = (t.1 0 60).toInt from by omega) hP hD hS (lv_sub hl [0, 1, 2, 3] rfl)
        · replace c_471 : (t_446.1 0 70).toInt = 0 := i_eq c_471
          refine lv_aload_n C.1 C.2.1 dX12_workAddress_68 rfl (lv_at hl 0 rfl) ?_
          refine lv_iload_n C.1 C.2.1 dX12_workAddress_69 rfl (lv_at hl 2 rfl) ?_
          obtain ⟨v_472, e_473⟩ : ∃ z, z = ((t.1 0 47) : Int32).toInt64 := ⟨_, rfl⟩
          have h_474 : v_472.toInt = (t.1 0 47).toInt := by rw [e_473]; exact Jvm.Kit.i64_of_i32 _
          refine lv_i2l (v := v_472) C.1 C.2.1 dX12_workAddress_70 e_473.symm ?_
          refine g_Si (As := [.long v_472]) (rest := [.ref (ad 0)]) C hP hD hS hA (T_X12_wordOf l D K Z Y ad t_446 hok (v_472)) hE hZ (uwS m_35_4 m_35_5 m_1_5 m_35_6) (hdS 1 (by decide +kernel) rfl) ⟨Nat.le_of_ble_eq_true rfl, Nat.le_of_ble_eq_true rfl⟩ rfl rfl rfl hl.1 (Nat.le_of_ble_eq_true rfl) dX12_workAddress_71 ⟨Nat.le_of_ble_eq_true rfl, Nat.le_of_ble_eq_true rfl⟩ (fun r_476 t_475 H locs hw hP hD hS => ?_)
          obtain ⟨h_478, h_479⟩ := hw
          refine g_Vv (As := [.int r_476]) (rest := []) C hP hD hS hA (T_X12_define l D K Z Y ad t_446 hok (r_476) (show (t_446.1 0 52).toInt ≤ 1199 from by omega)) hE hZ (uwV m_37_10 m_37_11 m_37_12 m_1_5 m_37_13) (hdV 1 (by decide +kernel) rfl) ⟨Nat.le_of_ble_eq_true rfl, Nat.le_of_ble_eq_true rfl⟩ rfl rfl (ci := 11) (q0 := 0) rfl rfl rfl hl.1 (Nat.le_of_ble_eq_true rfl) dX12_workAddress_74 ⟨Nat.le_of_ble_eq_true rfl, Nat.le_of_ble_eq_true rfl⟩ (fun t_480 H locs hw hP hD hS => ?_)
          obtain ⟨hok, f_482, p_483, p_484⟩ := hw
          have hfr : frA [(0, 45), (0, 47), (0, 48), (0, 52), (0, 60), (0, 68), (0, 70), (0, 71), (0, 72), (0, 73)] [] [2, 21, 22, 24, 25, 26, 27, 28, 29, 30, 31, 32, 33, 34, 35, 44] [23] t t_480 := frA_tr hfr f_482 rfl
          have h_485 : (t_480.1 0 47).toInt = (t_446.1 0 47).toInt := ti_eq (f_482.1 0 47 rfl)
          have h_486 : (t_480.1 0 46).toInt = (t_446.1 0 46).toInt := ti_eq (f_482.1 0 46 rfl)
          have h_487 : (t_480.1 0 70).toInt = (t_446.1 0 70).toInt := ti_eq (f_482.1 0 70 rfl)
          have h_488 : (t_480.1 0 60).toInt = (t_446.1 0 60).toInt := ti_eq (f_482.1 0 60 rfl)
          have h_489 : (t_480.1 0 67).toInt = (t_446.1 0 67).toInt := ti_eq (f_482.1 0 67 rfl)
          have h_490 : (t_480.1 0 68).toInt = (t_446.1 0 68).toInt := ti_eq (f_482.1 0 68 rfl)
          have h_491 : (t_480.1 0 69).toInt = (t_446.1 0 69).toInt := ti_eq (f_482.1 0 69 rfl)
          have h_492 : (t_480.1 0 71).toInt = (t_446.1 0 71).toInt := ti_eq (f_482.1 0 71 rfl)
          have e_493 : t_480.2.2.1 19 = t.2.2.1 19 := (f_482.2.2.1 19 rfl).trans (e_460)
          have e_494 : t_480.2.2.1 20 = t.2.2.1 20 := (f_482.2.2.1 20 rfl).trans (e_461)
          have h_495 : (t.2.2.1 19 (t_480.1 0 67 : Int32).toNatClampNeg).toInt = (t.2.2.1 19 (t_446.1 0 67 : Int32).toNatClampNeg).toInt := by rw [show t_480.1 0 67 = t_446.1 0 67 from f_482.1 0 67 rfl]
          have h_496 : (t.2.2.1 20 (t_480.1 0 67 : Int32).toNatClampNeg).toInt = (t.2.2.1 20 (t_446.1 0 67 : Int32).toNatClampNeg).toInt := by rw [show t_480.1 0 67 = t_446.1 0 67 from f_482.1 0 67 rfl]
          have h_497 : (0 : Int) ≤ (t_480.1 0 52).toInt ∧ (t_480.1 0 52).toInt ≤ 1200 := hok.1 0 52
          have h_498 : (0 : Int) ≤ (t_480.1 0 60).toInt ∧ (t_480.1 0 60).toInt ≤ 1200 := hok.1 0 60
          have h_499 : (0 : Int) ≤ (t_480.1 0 67).toInt ∧ (t_480.1 0 67).toInt ≤ 1281 := hok.1 0 67
          have h_500 : (0 : Int) ≤ (t_480.1 0 68).toInt ∧ (t_480.1 0 68).toInt ≤ 81 := hok.1 0 68
          have h_501 : (0 : Int) ≤ (t_480.1 0 69).toInt ∧ (t_480.1 0 69).toInt ≤ 81 := hok.1 0 69
          have h_502 : (-1 : Int) ≤ (t_480.1 0 71).toInt ∧ (t_480.1 0 71).toInt ≤ 2 := hok.1 0 71
          replace p_483 : (t_446.1 0 52).toInt ≤ (t_480.1 0 52).toInt := p_483
          replace p_484 : (t_480.1 0 52).toInt ≤ (t_446.1 0 52).toInt + 1 := p_484
          exact L_77 t_480 (t.1 0 47) r_447 _ _ _ hok hfr ⟨by omega, by omega⟩ ⟨by omega, by omega⟩ (show (t_480.1 0 70).toInt = 0 → -3999 ≤ r_447.toInt ∧ r_447.toInt ≤ 4000 from by omega) (show (t.1 0 52).toInt ≤ (t_480.1 0 52).toInt from by omega) (show (t_480.1 0 52).toInt ≤ (t.1 0 52).toInt + 1 from by omega) (show (t_480.1 0 60).toInt = (t.1 0 60).toInt from by omega) hP hD hS (lv_sub hl [0, 1, 2, 3] rfl)
  · replace c_158 : x1.toInt = 5000 := i_eq c_158
    refine lv_aload_n C.1 C.2.1 dX12_workAddress_12 rfl (lv_at hl 0 rfl) ?_
    refine g_Vi (As := []) (rest := []) C hP hD hS hA (T_X12_wholeValue l D K Z Y ad t hok (show 1 ≤ (t.1 0 68).toInt from by omega)) hE hZ (uwV m_34_7 m_34_8 m_34_9 m_1_5 m_34_10) (hdV 0 (by decide +kernel) rfl) ⟨Nat.le_of_ble_eq_true rfl, Nat.le_of_ble_eq_true rfl⟩ rfl rfl (ci := 11) (q0 := 0) rfl rfl rfl hl.1 (Nat.le_of_ble_eq_true rfl) dX12_workAddress_13 ⟨Nat.le_of_ble_eq_true rfl, Nat.le_of_ble_eq_true rfl⟩ (fun r_504 t_503 H locs hw hP hD hS => ?_)
    obtain ⟨hok, f_505, h_506, h_507, p_508, p_509, p_510⟩ := hw
    have hfr : frA [(0, 45), (0, 47), (0, 48), (0, 52), (0, 60), (0, 68), (0, 70), (0, 71), (0, 72), (0, 73)] [] [2, 21, 22, 24, 25, 26, 27, 28, 29, 30, 31, 32, 33, 34, 35, 44] [23] t t_503 := frA_tr hfr f_505 rfl
    have h_511 : (t_503.1 0 47).toInt = (t.1 0 47).toInt := ti_eq (f_505.1 0 47 rfl)
    have h_512 : (t_503.1 0 52).toInt = (t.1 0 52).toInt := ti_eq (f_505.1 0 52 rfl)
    have h_513 : (t_503.1 0 60).toInt = (t.1 0 60).toInt := ti_eq (f_505.1 0 60 rfl)
    have h_514 : (t_503.1 0 67).toInt = (t.1 0 67).toInt := ti_eq (f_505.1 0 67 rfl)
    have h_515 : (t_503.1 0 69).toInt = (t.1 0 69).toInt := ti_eq (f_505.1 0 69 rfl)
    have h_516 : (t_503.1 0 71).toInt = (t.1 0 71).toInt := ti_eq (f_505.1 0 71 rfl)
    have e_517 : t_503.2.2.1 19 = t.2.2.1 19 := f_505.2.2.1 19 rfl
    have e_518 : t_503.2.2.1 20 = t.2.2.1 20 := f_505.2.2.1 20 rfl
    have h_519 : (t.2.2.1 19 (t_503.1 0 67 : Int32).toNatClampNeg).toInt = (t.2.2.1 19 (t.1 0 67 : Int32).toNatClampNeg).toInt := by rw [show t_503.1 0 67 = t.1 0 67 from f_505.1 0 67 rfl]
    have h_520 : (t.2.2.1 20 (t_503.1 0 67 : Int32).toNatClampNeg).toInt = (t.2.2.1 20 (t.1 0 67 : Int32).toNatClampNeg).toInt := by rw [show t_503.1 0 67 = t.1 0 67 from f_505.1 0 67 rfl]
    have h_521 : (0 : Int) ≤ (t_503.1 0 52).toInt ∧ (t_503.1 0 52).toInt ≤ 1200 := hok.1 0 52
    have h_522 : (0 : Int) ≤ (t_503.1 0 60).toInt ∧ (t_503.1 0 60).toInt ≤ 1200 := hok.1 0 60
    have h_523 : (0 : Int) ≤ (t_503.1 0 67).toInt ∧ (t_503.1 0 67).toInt ≤ 1281 := hok.1 0 67
    have h_524 : (0 : Int) ≤ (t_503.1 0 68).toInt ∧ (t_503.1 0 68).toInt ≤ 81 := hok.1 0 68
    have h_525 : (0 : Int) ≤ (t_503.1 0 69).toInt ∧ (t_503.1 0 69).toInt ≤ 81 := hok.1 0 69
    have h_526 : (0 : Int) ≤ (t_503.1 0 70).toInt ∧ (t_503.1 0 70).toInt ≤ 8 := hok.1 0 70
    have h_527 : (-1 : Int) ≤ (t_503.1 0 71).toInt ∧ (t_503.1 0 71).toInt ≤ 2 := hok.1 0 71
    replace p_508 : (t.1 0 68).toInt ≤ (t_503.1 0 68).toInt := p_508
    replace p_509 : (t_503.1 0 68).toInt ≤ (t.1 0 69).toInt ∨ (t_503.1 0 68).toInt = (t.1 0 68).toInt := p_509
    replace p_510 : (t_503.1 0 70).toInt = 0 → (t.1 0 70).toInt = 0 := p_510
    refine lv_istore_n (lv' := [(3, .int r_504), (0, .ref (ad 0)), (1, .int x1), (2, .int (t.1 0 47))]) C.1 C.2.1 dX12_workAddress_16 rfl hl (by decide) rfl (fun ls hl => ?_)
    have hl : lv_has ls 4 [(0, .ref (ad 0)), (1, .int x1), (2, .int (t.1 0 47)), (3, .int r_504)] := lv_sub hl [1, 2, 3, 0] rfl
    refine lv_aload_n C.1 C.2.1 dX12_workAddress_17 rfl (lv_at hl 0 rfl) ?_
    refine k_get (v := .int (t_503.1 0 70)) C hP 0 rfl rfl inlX12 70 (by decide) m_29_13 rfl dX12_workAddress_18 ?_
    refine lv_if_ne (tgt := 29) C.1 C.2.1 dX12_workAddress_21 (by decide) (fun c_528 => ?_) (fun c_528 => ?_)
    · replace c_528 : ¬ (t_503.1 0 70).toInt = 0 := i_ne c_528
      refine lv_goto (tgt := 234) C.1 C.2.1 dX12_workAddress_29 (by decide) ?_
      exact L_234 t_503 (t.1 0 47) r_504 _ _ _ hok hfr ⟨by omega, by omega⟩ (show (t.1 0 52).toInt ≤ (t_503.1 0 52).toInt from by omega) (show 9 * ((t_503.1 0 52).toInt - (t.1 0 52).toInt) ≤ (t.2.2.1 20 ((t.1 0 67) : Int32).toNatClampNeg).toInt + 1 - (t.2.2.1 19 ((t.1 0 67) : Int32).toNatClampNeg).toInt from by omega) (show (t_503.1 0 60).toInt = (t.1 0 60).toInt ∨ (t_503.1 0 60).toInt = (t.1 0 60).toInt + 1 from by omega) hP hD hS (lv_sub hl [0, 1, 2, 3] rfl)
    · replace c_528 : (t_503.1 0 70).toInt = 0 := i_eq c_528
      refine lv_aload_n C.1 C.2.1 dX12_workAddress_24 rfl (lv_at hl 0 rfl) ?_
      refine lv_iload_n C.1 C.2.1 dX12_workAddress_25 rfl (lv_at hl 3 rfl) ?_
      refine g_Vv (As := [.int r_504]) (rest := []) C hP hD hS hA (T_X12_define l D K Z Y ad t_503 hok (r_504) (show (t_503.1 0 52).toInt ≤ 1199 from by omega)) hE hZ (uwV m_37_10 m_37_11 m_37_12 m_1_5 m_37_13) (hdV 1 (by decide +kernel) rfl) ⟨Nat.le_of_ble_eq_true rfl, Nat.le_of_ble_eq_true rfl⟩ rfl rfl (ci := 11) (q0 := 0) rfl rfl rfl hl.1 (Nat.le_of_ble_eq_true rfl) dX12_workAddress_26 ⟨Nat.le_of_ble_eq_true rfl, Nat.le_of_ble_eq_true rfl⟩ (fun t_529 H locs hw hP hD hS => ?_)
      obtain ⟨hok, f_531, p_532, p_533⟩ := hw
      have hfr : frA [(0, 45), (0, 47), (0, 48), (0, 52), (0, 60), (0, 68), (0, 70), (0, 71), (0, 72), (0, 73)] [] [2, 21, 22, 24, 25, 26, 27, 28, 29, 30, 31, 32, 33, 34, 35, 44] [23] t t_529 := frA_tr hfr f_531 rfl
      have h_534 : (t_529.1 0 47).toInt = (t_503.1 0 47).toInt := ti_eq (f_531.1 0 47 rfl)
      have h_535 : (t_529.1 0 70).toInt = (t_503.1 0 70).toInt := ti_eq (f_531.1 0 70 rfl)
      have h_536 : (t_529.1 0 60).toInt = (t_503.1 0 60).toInt := ti_eq (f_531.1 0 60 rfl)
      have h_537 : (t_529.1 0 67).toInt = (t_503.1 0 67).toInt := ti_eq (f_531.1 0 67 rfl)
      have h_538 : (t_529.1 0 68).toInt = (t_503.1 0 68).toInt := ti_eq (f_531.1 0 68 rfl)
      have h_539 : (t_529.1 0 69).toInt = (t_503.1 0 69).toInt := ti_eq (f_531.1 0 69 rfl)
      have h_540 : (t_529.1 0 71).toInt = (t_503.1 0 71).toInt := ti_eq (f_531.1 0 71 rfl)
      have e_541 : t_529.2.2.1 19 = t.2.2.1 19 := (f_531.2.2.1 19 rfl).trans (e_517)
      have e_542 : t_529.2.2.1 20 = t.2.2.1 20 := (f_531.2.2.1 20 rfl).trans (e_518)
      have h_543 : (t.2.2.1 19 (t_529.1 0 67 : Int32).toNatClampNeg).toInt = (t.2.2.1 19 (t_503.1 0 67 : Int32).toNatClampNeg).toInt := by rw [show t_529.1 0 67 = t_503.1 0 67 from f_531.1 0 67 rfl]
      have h_544 : (t.2.2.1 20 (t_529.1 0 67 : Int32).toNatClampNeg).toInt = (t.2.2.1 20 (t_503.1 0 67 : Int32).toNatClampNeg).toInt := by rw [show t_529.1 0 67 = t_503.1 0 67 from f_531.1 0 67 rfl]
      have h_545 : (0 : Int) ≤ (t_529.1 0 52).toInt ∧ (t_529.1 0 52).toInt ≤ 1200 := hok.1 0 52
      have h_546 : (0 : Int) ≤ (t_529.1 0 60).toInt ∧ (t_529.1 0 60).toInt ≤ 1200 := hok.1 0 60
      have h_547 : (0 : Int) ≤ (t_529.1 0 67).toInt ∧ (t_529.1 0 67).toInt ≤ 1281 := hok.1 0 67
      have h_548 : (0 : Int) ≤ (t_529.1 0 68).toInt ∧ (t_529.1 0 68).toInt ≤ 81 := hok.1 0 68
      have h_549 : (0 : Int) ≤ (t_529.1 0 69).toInt ∧ (t_529.1 0 69).toInt ≤ 81 := hok.1 0 69
      have h_550 : (-1 : Int) ≤ (t_529.1 0 71).toInt ∧ (t_529.1 0 71).toInt ≤ 2 := hok.1 0 71
      replace p_532 : (t_503.1 0 52).toInt ≤ (t_529.1 0 52).toInt := p_532
      replace p_533 : (t_529.1 0 52).toInt ≤ (t_503.1 0 52).toInt + 1 := p_533
      refine lv_goto (tgt := 234) C.1 C.2.1 dX12_workAddress_29 (by decide) ?_
      exact L_234 t_529 (t.1 0 47) r_504 _ _ _ hok hfr ⟨by omega, by omega⟩ (show (t.1 0 52).toInt ≤ (t_529.1 0 52).toInt from by omega) (show 9 * ((t_529.1 0 52).toInt - (t.1 0 52).toInt) ≤ (t.2.2.1 20 ((t.1 0 67) : Int32).toNatClampNeg).toInt + 1 - (t.2.2.1 19 ((t.1 0 67) : Int32).toNatClampNeg).toInt from by omega) (show (t_529.1 0 60).toInt = (t.1 0 60).toInt ∨ (t_529.1 0 60).toInt = (t.1 0 60).toInt + 1 from by omega) hP hD hS (lv_sub hl [0, 1, 2, 3] rfl)
