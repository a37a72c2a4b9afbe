theorem dX12_fails_0 : decode cX12_fails 0 = .ok (.aload_n 0, 1) := by decide +kernel
theorem dX12_fails_1 : decode cX12_fails 1 = .ok (.getfield 238, 3) := by decide +kernel
theorem dX12_fails_11 : decode cX12_fails 11 = .ok (.ifCond .ne 11, 3) := by decide +kernel
theorem dX12_fails_14 : decode cX12_fails 14 = .ok (.aload_n 0, 1) := by decide +kernel
theorem dX12_fails_15 : decode cX12_fails 15 = .ok (.iload_n 1, 1) := by decide +kernel
theorem dX12_fails_16 : decode cX12_fails 16 = .ok (.invokevirtual 381, 3) := by decide +kernel
theorem dX12_fails_19 : decode cX12_fails 19 = .ok (.goto 10, 3) := by decide +kernel
theorem dX12_fails_22 : decode cX12_fails 22 = .ok (.aload_n 0, 1) := by decide +kernel
theorem dX12_fails_23 : decode cX12_fails 23 = .ok (.iconst 1, 1) := by decide +kernel
theorem dX12_fails_24 : decode cX12_fails 24 = .ok (.iload_n 1, 1) := by decide +kernel
theorem dX12_fails_25 : decode cX12_fails 25 = .ok (.iadd, 1) := by decide +kernel
theorem dX12_fails_26 : decode cX12_fails 26 = .ok (.invokevirtual 384, 3) := by decide +kernel
theorem dX12_fails_29 : decode cX12_fails 29 = .ok (.return_, 1) := by decide +kernel
theorem dX12_fails_4 : decode cX12_fails 4 = .ok (.ifCond .eq 18, 3) := by decide +kernel
theorem dX12_fails_7 : decode cX12_fails 7 = .ok (.aload_n 0, 1) := by decide +kernel
theorem dX12_fails_8 : decode cX12_fails 8 = .ok (.getfield 241, 3) := by decide +kernel
set_option maxHeartbeats 4000000 in
set_option maxRecDepth 100000 in
theorem T_X12_fails (l : Launch) (D : va_G) (K : Nat → ClassId) (Z Y : Nat → Nat) (ad : Nat → Nat) (t : tSt) (hok : okM t) (x1 : Int32) (hx1 : (1 : Int) ≤ x1.toInt ∧ x1.toInt ≤ 9) (hs0 : 1 ≤ x1.toInt) : tMet l yX12_fails cX12_fails 2 none (rmD 3 0 0) D K Z Y [.ref (ad 0), .int x1] (WM K ad t) (QV D K (fun (u : tSt) => okM u ∧ frA [(0, 7), (0, 9), (0, 10)] [] [2, 5] [] t u ∧ (((t.1 0 10).toInt = 0 ∧ (u.1 0 10).toInt = 1 ∧ (u.1 0 9).toInt = (t.1 0 9).toInt) ∨ (¬ (u.1 0 9).toInt = 0 ∧ (u.1 0 10).toInt = (t.1 0 10).toInt))) (fun (u : tSt) => WM K ad u)) 0 0 := by
  refine t_met RX12 ⟨rfl, by decide +kernel⟩ (Nat.le_of_ble_eq_true rfl) ?_
  intro p e s m below meth c A ls C hE hZ hr hlocks hA hP hD hS hl
  have hl : lv_has ls 2 [(0, .ref (ad 0)), (1, .int x1)] := hl
  have hokt := hok
  have hfr : frA [(0, 7), (0, 9), (0, 10)] [] [2, 5] [] t t := frA_rf
  have h_1 : (0 : Int) ≤ (t.1 0 9).toInt ∧ (t.1 0 9).toInt ≤ 10 := hok.1 0 9
  have h_2 : (0 : Int) ≤ (t.1 0 10).toInt ∧ (t.1 0 10).toInt ≤ 1 := hok.1 0 10
  refine lv_aload_n C.1 C.2.1 dX12_fails_0 rfl (lv_at hl 0 rfl) ?_
  have h_3 : (0 : Int) ≤ (t.1 0 11).toInt ∧ (t.1 0 11).toInt ≤ 1 := hok.1 0 11
  refine k_get (v := .int (t.1 0 11)) C hP 0 rfl rfl inlX12 11 (by decide) m_30_1 rfl dX12_fails_1 ?_
  refine lv_if_eq (tgt := 22) C.1 C.2.1 dX12_fails_4 (by decide) (fun c_4 => ?_) (fun c_4 => ?_)
  · replace c_4 : (t.1 0 11).toInt = 0 := i_eq c_4
    refine lv_aload_n C.1 C.2.1 dX12_fails_22 rfl (lv_at hl 0 rfl) ?_
    refine lv_iconst (v := 1) C.1 C.2.1 dX12_fails_23 (by decide) ?_
    refine lv_iload_n C.1 C.2.1 dX12_fails_24 rfl (lv_at hl 1 rfl) ?_
    obtain ⟨v_5, e_6⟩ : ∃ z, z = (1 : Int32) + (x1 : Int32) := ⟨_, rfl⟩
    have h_7 : v_5.toInt = 1 + x1.toInt := by rw [e_6]; exact ti_iadd (by show (_ : Int) ≤ 1 + x1.toInt; omega) (by show 1 + x1.toInt < (_ : Int); omega)
    refine k_iadd (v := v_5) C e_6.symm dX12_fails_25 ?_
    refine g_Vv (As := [.int v_5]) (rest := []) C hP hD hS hA (T_X12_stop l D K Z Y ad t hok (v_5) (show (1 : Int) ≤ (v_5 : Int32).toInt ∧ (v_5 : Int32).toInt ≤ 10 from ⟨by omega, by omega⟩)) hE hZ (uwV m_59_11 m_59_12 m_59_13 m_1_5 m_59_14) (hdV 1 (by decide +kernel) rfl) ⟨Nat.le_of_ble_eq_true rfl, Nat.le_of_ble_eq_true rfl⟩ rfl rfl (ci := 11) (q0 := 0) rfl rfl rfl hl.1 (Nat.le_of_ble_eq_true rfl) dX12_fails_26 ⟨Nat.le_of_ble_eq_true rfl, Nat.le_of_ble_eq_true rfl⟩ (fun t_8 H locs hw hP hD hS => ?_)
    obtain ⟨hok, f_10, p_11⟩ := hw
    have hfr : frA [(0, 7), (0, 9), (0, 10)] [] [2, 5] [] t t_8 := frA_tr hfr f_10 rfl
    have h_12 : (t_8.1 0 11).toInt = (t.1 0 11).toInt := ti_eq (f_10.1 0 11 rfl)
    have h_13 : (t_8.1 0 10).toInt = (t.1 0 10).toInt := ti_eq (f_10.1 0 10 rfl)
    have h_14 : (0 : Int) ≤ (t_8.1 0 9).toInt ∧ (t_8.1 0 9).toInt ≤ 10 := hok.1 0 9
    have h_15 : (0 : Int) ≤ (t_8.1 0 10).toInt ∧ (t_8.1 0 10).toInt ≤ 1 := hok.1 0 10
    replace p_11 : (t_8.1 0 9).toInt = v_5.toInt := p_11
    exact g_vret C hr hlocks hP hD hS t_8 rfl ⟨hok, hfr, (show ((t.1 0 10).toInt = 0 ∧ (t_8.1 0 10).toInt = 1 ∧ (t_8.1 0 9).toInt = (t.1 0 9).toInt) ∨ (¬ (t_8.1 0 9).toInt = 0 ∧ (t_8.1 0 10).toInt = (t.1 0 10).toInt) from by omega)⟩ (Nat.le_of_ble_eq_true rfl) (Nat.le_of_ble_eq_true rfl) dX12_fails_29
  · replace c_4 : ¬ (t.1 0 11).toInt = 0 := i_ne c_4
    refine lv_aload_n C.1 C.2.1 dX12_fails_7 rfl (lv_at hl 0 rfl) ?_
    refine k_get (v := .int (t.1 0 10)) C hP 0 rfl rfl inlX12 10 (by decide) m_30_0 rfl dX12_fails_8 ?_
    refine lv_if_ne (tgt := 22) C.1 C.2.1 dX12_fails_11 (by decide) (fun c_16 => ?_) (fun c_16 => ?_)
    · replace c_16 : ¬ (t.1 0 10).toInt = 0 := i_ne c_16
      refine lv_aload_n C.1 C.2.1 dX12_fails_22 rfl (lv_at hl 0 rfl) ?_
      refine lv_iconst (v := 1) C.1 C.2.1 dX12_fails_23 (by decide) ?_
      refine lv_iload_n C.1 C.2.1 dX12_fails_24 rfl (lv_at hl 1 rfl) ?_
      obtain ⟨v_17, e_18⟩ : ∃ z, z = (1 : Int32) + (x1 : Int32) := ⟨_, rfl⟩
      have h_19 : v_17.toInt = 1 + x1.toInt := by rw [e_18]; exact ti_iadd (by show (_ : Int) ≤ 1 + x1.toInt; omega) (by show 1 + x1.toInt < (_ : Int); omega)
      refine k_iadd (v := v_17) C e_18.symm dX12_fails_25 ?_
      refine g_Vv (As := [.int v_17]) (rest := []) C hP hD hS hA (T_X12_stop l D K Z Y ad t hok (v_17) (show (1 : Int) ≤ (v_17 : Int32).toInt ∧ (v_17 : Int32).toInt ≤ 10 from ⟨by omega, by omega⟩)) hE hZ (uwV m_59_11 m_59_12 m_59_13 m_1_5 m_59_14) (hdV 1 (by decide +kernel) rfl) ⟨Nat.le_of_ble_eq_true rfl, Nat.le_of_ble_eq_true rfl⟩ rfl rfl (ci := 11) (q0 := 0) rfl rfl rfl hl.1 (Nat.le_of_ble_eq_true rfl) dX12_fails_26 ⟨Nat.le_of_ble_eq_true rfl, Nat.le_of_ble_eq_true rfl⟩ (fun t_20 H locs hw hP hD hS => ?_)
      obtain ⟨hok, f_22, p_23⟩ := hw
      have hfr : frA [(0, 7), (0, 9), (0, 10)] [] [2, 5] [] t t_20 := frA_tr hfr f_22 rfl
      have h_24 : (t_20.1 0 11).toInt = (t.1 0 11).toInt := ti_eq (f_22.1 0 11 rfl)
      have h_25 : (t_20.1 0 10).toInt = (t.1 0 10).toInt := ti_eq (f_22.1 0 10 rfl)
      have h_26 : (0 : Int) ≤ (t_20.1 0 9).toInt ∧ (t_20.1 0 9).toInt ≤ 10 := hok.1 0 9
      replace p_23 : (t_20.1 0 9).toInt = v_17.toInt := p_23
      exact g_vret C hr hlocks hP hD hS t_20 rfl ⟨hok, hfr, (show ((t.1 0 10).toInt = 0 ∧ (t_20.1 0 10).toInt = 1 ∧ (t_20.1 0 9).toInt = (t.1 0 9).toInt) ∨ (¬ (t_20.1 0 9).toInt = 0 ∧ (t_20.1 0 10).toInt = (t.1 0 10).toInt) from by omega)⟩ (Nat.le_of_ble_eq_true rfl) (Nat.le_of_ble_eq_true rfl) dX12_fails_29
    · replace c_16 : (t.1 0 10).toInt = 0 := i_eq c_16
      refine lv_aload_n C.1 C.2.1 dX12_fails_14 rfl (lv_at hl 0 rfl) ?_
      refine lv_iload_n C.1 C.2.1 dX12_fails_15 rfl (lv_at hl 1 rfl) ?_
      refine g_Vv (As := [.int x1]) (rest := []) C hP hD hS hA (T_X12_interrupt l D K Z Y ad t hok (x1) (show (0 : Int) ≤ (x1 : Int32).toInt ∧ (x1 : Int32).toInt ≤ 9 from ⟨by omega, by omega⟩)) hE hZ (uwV m_59_20 m_59_21 m_59_22 m_1_5 m_59_23) (hdV 1 (by decide +kernel) rfl) ⟨Nat.le_of_ble_eq_true rfl, Nat.le_of_ble_eq_true rfl⟩ rfl rfl (ci := 11) (q0 := 0) rfl rfl rfl hl.1 (Nat.le_of_ble_eq_true rfl) dX12_fails_16 ⟨Nat.le_of_ble_eq_true rfl, Nat.le_of_ble_eq_true rfl⟩ (fun t_27 H locs hw hP hD hS => ?_)
      obtain ⟨hok, f_29, p_30⟩ := hw
      have hfr : frA [(0, 7), (0, 9), (0, 10)] [] [2, 5] [] t t_27 := frA_tr hfr f_29 rfl
      have h_31 : (t_27.1 0 11).toInt = (t.1 0 11).toInt := ti_eq (f_29.1 0 11 rfl)
      have h_32 : (t_27.1 0 9).toInt = (t.1 0 9).toInt := ti_eq (f_29.1 0 9 rfl)
      have h_33 : (0 : Int) ≤ (t_27.1 0 9).toInt ∧ (t_27.1 0 9).toInt ≤ 10 := hok.1 0 9
      have h_34 : (0 : Int) ≤ (t_27.1 0 10).toInt ∧ (t_27.1 0 10).toInt ≤ 1 := hok.1 0 10
      replace p_30 : (t_27.1 0 10).toInt = 1 := p_30
      refine lv_goto (tgt := 29) C.1 C.2.1 dX12_fails_19 (by decide) ?_
      exact g_vret C hr hlocks hP hD hS t_27 rfl ⟨hok, hfr, (show ((t.1 0 10).toInt = 0 ∧ (t_27.1 0 10).toInt = 1 ∧ (t_27.1 0 9).toInt = (t.1 0 9).toInt) ∨ (¬ (t_27.1 0 9).toInt = 0 ∧ (t_27.1 0 10).toInt = (t.1 0 10).toInt) from by omega)⟩ (Nat.le_of_ble_eq_true rfl) (Nat.le_of_ble_eq_true rfl) dX12_fails_29

theorem dX12_endsPart_0 : decode cX12_endsPart 0 = .ok (.aload_n 0, 1) := by decide +kernel
theorem dX12_endsPart_1 : decode cX12_endsPart 1 = .ok (.invokevirtual 491, 3) := by decide +kernel
theorem dX12_endsPart_12 : decode cX12_endsPart 12 = .ok (.bipush 44, 2) := by decide +kernel
theorem dX12_endsPart_14 : decode cX12_endsPart 14 = .ok (.if_icmp .eq 12, 3) := by decide +kernel
theorem dX12_endsPart_17 : decode cX12_endsPart 17 = .ok (.aload_n 0, 1) := by decide +kernel
theorem dX12_endsPart_18 : decode cX12_endsPart 18 = .ok (.invokevirtual 491, 3) := by decide +kernel
theorem dX12_endsPart_21 : decode cX12_endsPart 21 = .ok (.bipush 40, 2) := by decide +kernel
theorem dX12_endsPart_23 : decode cX12_endsPart 23 = .ok (.if_icmp .ne 7, 3) := by decide +kernel
theorem dX12_endsPart_26 : decode cX12_endsPart 26 = .ok (.iconst 1, 1) := by decide +kernel
theorem dX12_endsPart_27 : decode cX12_endsPart 27 = .ok (.goto 4, 3) := by decide +kernel
theorem dX12_endsPart_30 : decode cX12_endsPart 30 = .ok (.iconst 0, 1) := by decide +kernel
theorem dX12_endsPart_31 : decode cX12_endsPart 31 = .ok (.ireturn, 1) := by decide +kernel
theorem dX12_endsPart_4 : decode cX12_endsPart 4 = .ok (.iconst (-1), 1) := by decide +kernel
theorem dX12_endsPart_5 : decode cX12_endsPart 5 = .ok (.if_icmp .eq 21, 3) := by decide +kernel
theorem dX12_endsPart_8 : decode cX12_endsPart 8 = .ok (.aload_n 0, 1) := by decide +kernel
theorem dX12_endsPart_9 : decode cX12_endsPart 9 = .ok (.invokevirtual 491, 3) := by decide +kernel
set_option maxHeartbeats 4000000 in
set_option maxRecDepth 100000 in
theorem T_X12_endsPart (l : Launch) (D : va_G) (K : Nat → ClassId) (Z Y : Nat → Nat) (ad : Nat → Nat) (t : tSt) (hok : okM t) (hs0 : 1 ≤ (t.1 0 68).toInt) : tMet l yX12_endsPart cX12_endsPart 1 (some .boolean) (rmD 9 0 0) D K Z Y [.ref (ad 0)] (WM K ad t) (QI D K (fun (r : Int32) (u : Unit) => (0 : Int) ≤ r.toInt ∧ r.toInt ≤ 1) (fun (_ : Unit) => WM K ad t)) 0 0 := by
  refine t_met RX12 ⟨rfl, by decide +kernel⟩ (Nat.le_of_ble_eq_true rfl) ?_
  intro p e s m below meth c A ls C hE hZ hr hlocks hA hP hD hS hl
  have hl : lv_has ls 1 [(0, .ref (ad 0))] := hl
  have h_1 : (0 : Int) ≤ (t.1 0 68).toInt ∧ (t.1 0 68).toInt ≤ 81 := hok.1 0 68
  have h_2 : (0 : Int) ≤ (t.1 0 69).toInt ∧ (t.1 0 69).toInt ≤ 81 := hok.1 0 69
  refine lv_aload_n C.1 C.2.1 dX12_endsPart_0 rfl (lv_at hl 0 rfl) ?_
  refine g_Vi (As := []) (rest := []) C hP hD hS hA (T_X12_now l D K Z Y ad t hok (show 1 ≤ (t.1 0 68).toInt from by omega)) hE hZ (uwV m_34_20 m_34_21 m_34_22 m_1_5 m_34_23) (hdV 0 (by decide +kernel) rfl) ⟨Nat.le_of_ble_eq_true rfl, Nat.le_of_ble_eq_true rfl⟩ rfl rfl (ci := 11) (q0 := 0) rfl rfl rfl hl.1 (Nat.le_of_ble_eq_true rfl) dX12_endsPart_1 ⟨Nat.le_of_ble_eq_true rfl, Nat.le_of_ble_eq_true rfl⟩ (fun r_4 t_3 H locs hw hP hD hS => ?_)
  obtain ⟨h_6, h_7, p_8⟩ := hw
  replace p_8 : r_4.toInt = -1 ∨ (t.1 0 68).toInt < (t.1 0 69).toInt := p_8
  refine lv_iconst (v := (-1)) C.1 C.2.1 dX12_endsPart_4 (by decide) ?_
  refine lv_icmp_eq (tgt := 26) C.1 C.2.1 dX12_endsPart_5 (by decide) (fun c_9 => ?_) (fun c_9 => ?_)
  · replace c_9 : r_4.toInt = (-1) := i_eq c_9
    refine lv_iconst (v := 1) C.1 C.2.1 dX12_endsPart_26 (by decide) ?_
    refine lv_goto (tgt := 31) C.1 C.2.1 dX12_endsPart_27 (by decide) ?_
    exact g_iret C hr hlocks hP hD hS (by decide) () rfl ⟨by decide, by decide⟩ (Nat.le_of_ble_eq_true rfl) (Nat.le_of_ble_eq_true rfl) dX12_endsPart_31
  · replace c_9 : ¬ r_4.toInt = (-1) := i_ne c_9
    refine lv_aload_n C.1 C.2.1 dX12_endsPart_8 rfl (lv_at hl 0 rfl) ?_
    refine g_Vi (As := []) (rest := []) C hP hD hS hA (T_X12_now l D K Z Y ad t hok (show 1 ≤ (t.1 0 68).toInt from by omega)) hE hZ (uwV m_34_20 m_34_21 m_34_22 m_1_5 m_34_23) (hdV 0 (by decide +kernel) rfl) ⟨Nat.le_of_ble_eq_true rfl, Nat.le_of_ble_eq_true rfl⟩ rfl rfl (ci := 11) (q0 := 0) rfl rfl rfl hl.1 (Nat.le_of_ble_eq_true rfl) dX12_endsPart_9 ⟨Nat.le_of_ble_eq_true rfl, Nat.le_of_ble_eq_true rfl⟩ (fun r_11 t_10 H locs hw hP hD hS => ?_)
    obtain ⟨h_13, h_14, p_15⟩ := hw
    replace p_15 : r_11.toInt = -1 ∨ (t.1 0 68).toInt < (t.1 0 69).toInt := p_15
    refine lv_bipush (v := 44) C.1 C.2.1 dX12_endsPart_12 (by decide) ?_
    refine lv_icmp_eq (tgt := 26) C.1 C.2.1 dX12_endsPart_14 (by decide) (fun c_16 => ?_) (fun c_16 => ?_)
    · replace c_16 : r_11.toInt = 44 := i_eq c_16
      refine lv_iconst (v := 1) C.1 C.2.1 dX12_endsPart_26 (by decide) ?_
      refine lv_goto (tgt := 31) C.1 C.2.1 dX12_endsPart_27 (by decide) ?_
      exact g_iret C hr hlocks hP hD hS (by decide) () rfl ⟨by decide, by decide⟩ (Nat.le_of_ble_eq_true rfl) (Nat.le_of_ble_eq_true rfl) dX12_endsPart_31
    · replace c_16 : ¬ r_11.toInt = 44 := i_ne c_16
      refine lv_aload_n C.1 C.2.1 dX12_endsPart_17 rfl (lv_at hl 0 rfl) ?_
      refine g_Vi (As := []) (rest := []) C hP hD hS hA (T_X12_now l D K Z Y ad t hok (show 1 ≤ (t.1 0 68).toInt from by omega)) hE hZ (uwV m_34_20 m_34_21 m_34_22 m_1_5 m_34_23) (hdV 0 (by decide +kernel) rfl) ⟨Nat.le_of_ble_eq_true rfl, Nat.le_of_ble_eq_true rfl⟩ rfl rfl (ci := 11) (q0 := 0) rfl rfl rfl hl.1 (Nat.le_of_ble_eq_true rfl) dX12_endsPart_18 ⟨Nat.le_of_ble_eq_true rfl, Nat.le_of_ble_eq_true rfl⟩ (fun r_18 t_17 H locs hw hP hD hS => ?_)
      obtain ⟨h_20, h_21, p_22⟩ := hw
      replace p_22 : r_18.toInt = -1 ∨ (t.1 0 68).toInt < (t.1 0 69).toInt := p_22
      refine lv_bipush (v := 40) C.1 C.2.1 dX12_endsPart_21 (by decide) ?_
      refine lv_icmp_ne (tgt := 30) C.1 C.2.1 dX12_endsPart_23 (by decide) (fun c_23 => ?_) (fun c_23 => ?_)
      · replace c_23 : ¬ r_18.toInt = 40 := i_ne c_23
        refine lv_iconst (v := 0) C.1 C.2.1 dX12_endsPart_30 (by decide) ?_
        exact g_iret C hr hlocks hP hD hS (by decide) () rfl ⟨by decide, by decide⟩ (Nat.le_of_ble_eq_true rfl) (Nat.le_of_ble_eq_true rfl) dX12_endsPart_31
      · replace c_23 : r_18.toInt = 40 := i_eq c_23
        refine lv_iconst (v := 1) C.1 C.2.1 dX12_endsPart_26 (by decide) ?_
        refine lv_goto (tgt := 31) C.1 C.2.1 dX12_endsPart_27 (by decide) ?_
        exact g_iret C hr hlocks hP hD hS (by decide) () rfl ⟨by decide, by decide⟩ (Nat.le_of_ble_eq_true rfl) (Nat.le_of_ble_eq_true rfl) dX12_endsPart_31

theorem dX12_atom_0 : decode cX12_atom 0 = .ok (.aload_n 0, 1) := by decide +kernel
theorem dX12_atom_1 : decode cX12_atom 1 = .ok (.invokevirtual 491, 3) := by decide +kernel
theorem dX12_atom_10 : decode cX12_atom 10 = .ok (.dup, 1) := by decide +kernel
theorem dX12_atom_11 : decode cX12_atom 11 = .ok (.getfield 472, 3) := by decide +kernel
theorem dX12_atom_14 : decode cX12_atom 14 = .ok (.iconst 1, 1) := by decide +kernel
theorem dX12_atom_15 : decode cX12_atom 15 = .ok (.iadd, 1) := by decide +kernel
theorem dX12_atom_16 : decode cX12_atom 16 = .ok (.putfield 472, 3) := by decide +kernel
theorem dX12_atom_19 : decode cX12_atom 19 = .ok (.aload_n 0, 1) := by decide +kernel
theorem dX12_atom_20 : decode cX12_atom 20 = .ok (.getfield 494, 3) := by decide +kernel
theorem dX12_atom_23 : decode cX12_atom 23 = .ok (.i2l, 1) := by decide +kernel
theorem dX12_atom_24 : decode cX12_atom 24 = .ok (.invokestatic 342, 3) := by decide +kernel
theorem dX12_atom_27 : decode cX12_atom 27 = .ok (.ireturn, 1) := by decide +kernel
theorem dX12_atom_28 : decode cX12_atom 28 = .ok (.aload_n 0, 1) := by decide +kernel
theorem dX12_atom_29 : decode cX12_atom 29 = .ok (.invokevirtual 497, 3) := by decide +kernel
theorem dX12_atom_32 : decode cX12_atom 32 = .ok (.istore_n 1, 1) := by decide +kernel
theorem dX12_atom_33 : decode cX12_atom 33 = .ok (.iload_n 1, 1) := by decide +kernel
theorem dX12_atom_34 : decode cX12_atom 34 = .ok (.aload_n 0, 1) := by decide +kernel
theorem dX12_atom_35 : decode cX12_atom 35 = .ok (.getfield 472, 3) := by decide +kernel
theorem dX12_atom_38 : decode cX12_atom 38 = .ok (.if_icmp .ne 10, 3) := by decide +kernel
theorem dX12_atom_4 : decode cX12_atom 4 = .ok (.bipush 42, 2) := by decide +kernel
theorem dX12_atom_41 : decode cX12_atom 41 = .ok (.aload_n 0, 1) := by decide +kernel
theorem dX12_atom_42 : decode cX12_atom 42 = .ok (.iconst 1, 1) := by decide +kernel
theorem dX12_atom_43 : decode cX12_atom 43 = .ok (.invokevirtual 478, 3) := by decide +kernel
theorem dX12_atom_46 : decode cX12_atom 46 = .ok (.iconst 0, 1) := by decide +kernel
theorem dX12_atom_47 : decode cX12_atom 47 = .ok (.ireturn, 1) := by decide +kernel
theorem dX12_atom_48 : decode cX12_atom 48 = .ok (.aload_n 0, 1) := by decide +kernel
theorem dX12_atom_49 : decode cX12_atom 49 = .ok (.aload_n 0, 1) := by decide +kernel
theorem dX12_atom_50 : decode cX12_atom 50 = .ok (.getfield 472, 3) := by decide +kernel
theorem dX12_atom_53 : decode cX12_atom 53 = .ok (.iload_n 1, 1) := by decide +kernel
theorem dX12_atom_54 : decode cX12_atom 54 = .ok (.invokevirtual 500, 3) := by decide +kernel
theorem dX12_atom_57 : decode cX12_atom 57 = .ok (.ifCond .ne 22, 3) := by decide +kernel
theorem dX12_atom_6 : decode cX12_atom 6 = .ok (.if_icmp .ne 22, 3) := by decide +kernel
theorem dX12_atom_60 : decode cX12_atom 60 = .ok (.iload_n 1, 1) := by decide +kernel
theorem dX12_atom_61 : decode cX12_atom 61 = .ok (.aload_n 0, 1) := by decide +kernel
theorem dX12_atom_62 : decode cX12_atom 62 = .ok (.getfield 472, 3) := by decide +kernel
theorem dX12_atom_65 : decode cX12_atom 65 = .ok (.isub, 1) := by decide +kernel
theorem dX12_atom_66 : decode cX12_atom 66 = .ok (.bipush 10, 2) := by decide +kernel
theorem dX12_atom_68 : decode cX12_atom 68 = .ok (.if_icmp .le 19, 3) := by decide +kernel
theorem dX12_atom_71 : decode cX12_atom 71 = .ok (.aload_n 0, 1) := by decide +kernel
theorem dX12_atom_72 : decode cX12_atom 72 = .ok (.iload_n 1, 1) := by decide +kernel
theorem dX12_atom_73 : decode cX12_atom 73 = .ok (.invokevirtual 503, 3) := by decide +kernel
theorem dX12_atom_76 : decode cX12_atom 76 = .ok (.ifCond .eq 11, 3) := by decide +kernel
theorem dX12_atom_79 : decode cX12_atom 79 = .ok (.aload_n 0, 1) := by decide +kernel
theorem dX12_atom_80 : decode cX12_atom 80 = .ok (.iload_n 1, 1) := by decide +kernel
theorem dX12_atom_81 : decode cX12_atom 81 = .ok (.invokevirtual 506, 3) := by decide +kernel
theorem dX12_atom_84 : decode cX12_atom 84 = .ok (.goto 8, 3) := by decide +kernel
theorem dX12_atom_87 : decode cX12_atom 87 = .ok (.aload_n 0, 1) := by decide +kernel
theorem dX12_atom_88 : decode cX12_atom 88 = .ok (.iload_n 1, 1) := by decide +kernel
theorem dX12_atom_89 : decode cX12_atom 89 = .ok (.invokevirtual 509, 3) := by decide +kernel
theorem dX12_atom_9 : decode cX12_atom 9 = .ok (.aload_n 0, 1) := by decide +kernel
theorem dX12_atom_92 : decode cX12_atom 92 = .ok (.istore_n 2, 1) := by decide +kernel
theorem dX12_atom_93 : decode cX12_atom 93 = .ok (.aload_n 0, 1) := by decide +kernel
theorem dX12_atom_94 : decode cX12_atom 94 = .ok (.iload_n 1, 1) := by decide +kernel
theorem dX12_atom_95 : decode cX12_atom 95 = .ok (.putfield 472, 3) := by decide +kernel
theorem dX12_atom_98 : decode cX12_atom 98 = .ok (.iload_n 2, 1) := by decide +kernel
theorem dX12_atom_99 : decode cX12_atom 99 = .ok (.ireturn, 1) := by decide +kernel
set_option maxHeartbeats 4000000 in
set_option maxRecDepth 100000 in
theorem T_X12_atom (l : Launch) (D : va_G) (K : Nat → ClassId) (Z Y : Nat → Nat) (ad : Nat → Nat) (t : tSt) (hok : okM t) (hs0 : 1 ≤ (t.1 0 68).toInt) : tMet l yX12_atom cX12_atom 3 (some .int) (rmD 10 0 0) D K Z Y [.ref (ad 0)] (WM K ad t) (QI D K (fun (r : Int32) (u : tSt) => okM u ∧ frA [(0, 68), (0, 70)] [] [26, 27] [] t u ∧ (-2147483648 : Int) ≤ r.toInt ∧ r.toInt ≤ 2147483647 ∧ ((t.1 0 68).toInt ≤ (u.1 0 68).toInt) ∧ ((u.1 0 68).toInt ≤ (t.1 0 69).toInt ∨ (u.1 0 68).toInt = (t.1 0 68).toInt) ∧ (1 ≤ (u.1 0 70).toInt ∨ (t.1 0 68).toInt < (u.1 0 68).toInt) ∧ ((u.1 0 70).toInt = 0 → (t.1 0 70).toInt = 0)) (fun (u : tSt) => WM K ad u)) 0 0 := by
  refine t_met RX12 ⟨rfl, by decide +kernel⟩ (Nat.le_of_ble_eq_true rfl) ?_
  intro p e s m below meth c A ls C hE hZ hr hlocks hA hP hD hS hl
  have hl : lv_has ls 3 [(0, .ref (ad 0))] := hl
  have hokt := hok
  have hfr : frA [(0, 68), (0, 70)] [] [26, 27] [] t t := frA_rf
  have h_1 : (0 : Int) ≤ (t.1 0 68).toInt ∧ (t.1 0 68).toInt ≤ 81 := hok.1 0 68
  have h_2 : (0 : Int) ≤ (t.1 0 69).toInt ∧ (t.1 0 69).toInt ≤ 81 := hok.1 0 69
  have h_3 : (0 : Int) ≤ (t.1 0 70).toInt ∧ (t.1 0 70).toInt ≤ 8 := hok.1 0 70
  refine lv_aload_n C.1 C.2.1 dX12_atom_0 rfl (lv_at hl 0 rfl) ?_
  refine g_Vi (As := []) (rest := []) C hP hD hS hA (T_X12_now l D K Z Y ad t hok (show 1 ≤ (t.1 0 68).toInt from by omega)) hE hZ (uwV m_34_20 m_34_21 m_34_22 m_1_5 m_34_23) (hdV 0 (by decide +kernel) rfl) ⟨Nat.le_of_ble_eq_true rfl, Nat.le_of_ble_eq_true rfl⟩ rfl rfl (ci := 11) (q0 := 0) rfl rfl rfl hl.1 (Nat.le_of_ble_eq_true rfl) dX12_atom_1 ⟨Nat.le_of_ble_eq_true rfl, Nat.le_of_ble_eq_true rfl⟩ (fun r_5 t_4 H locs hw hP hD hS => ?_)
  obtain ⟨h_7, h_8, p_9⟩ := hw
  replace p_9 : r_5.toInt = -1 ∨ (t.1 0 68).toInt < (t.1 0 69).toInt := p_9
  refine lv_bipush (v := 42) C.1 C.2.1 dX12_atom_4 (by decide) ?_
  refine lv_icmp_ne (tgt := 28) C.1 C.2.1 dX12_atom_6 (by decide) (fun c_10 => ?_) (fun c_10 => ?_)
  · replace c_10 : ¬ r_5.toInt = 42 := i_ne c_10
    refine lv_aload_n C.1 C.2.1 dX12_atom_28 rfl (lv_at hl 0 rfl) ?_
    refine g_Vi (As := []) (rest := []) C hP hD hS hA (T_X12_nameEnd l D K Z Y ad t hok (show 1 ≤ (t.1 0 68).toInt from by omega)) hE hZ (uwV m_35_7 m_35_8 m_35_9 m_1_5 m_35_10) (hdV 0 (by decide +kernel) rfl) ⟨Nat.le_of_ble_eq_true rfl, Nat.le_of_ble_eq_true rfl⟩ rfl rfl (ci := 11) (q0 := 0) rfl rfl rfl hl.1 (Nat.le_of_ble_eq_true rfl) dX12_atom_29 ⟨Nat.le_of_ble_eq_true rfl, Nat.le_of_ble_eq_true rfl⟩ (fun r_12 t_11 H locs hw hP hD hS => ?_)
    obtain ⟨h_14, h_15, p_16, p_17⟩ := hw
    replace p_16 : (t.1 0 68).toInt ≤ r_12.toInt := p_16
    replace p_17 : r_12.toInt ≤ (t.1 0 69).toInt ∨ r_12.toInt = (t.1 0 68).toInt := p_17
    refine lv_istore_n (lv' := [(1, .int r_12), (0, .ref (ad 0))]) C.1 C.2.1 dX12_atom_32 rfl hl (by decide) rfl (fun ls hl => ?_)
    have hl : lv_has ls 3 [(0, .ref (ad 0)), (1, .int r_12)] := lv_sub hl [1, 0] rfl
    refine lv_iload_n C.1 C.2.1 dX12_atom_33 rfl (lv_at hl 1 rfl) ?_
    refine lv_aload_n C.1 C.2.1 dX12_atom_34 rfl (lv_at hl 0 rfl) ?_
    refine k_get (v := .int (t.1 0 68)) C hP 0 rfl rfl inlX12 68 (by decide) m_31_6 rfl dX12_atom_35 ?_
    refine lv_icmp_ne (tgt := 48) C.1 C.2.1 dX12_atom_38 (by decide) (fun c_18 => ?_) (fun c_18 => ?_)
    · replace c_18 : ¬ r_12.toInt = (t.1 0 68).toInt := i_ne c_18
      refine lv_aload_n C.1 C.2.1 dX12_atom_48 rfl (lv_at hl 0 rfl) ?_
      refine lv_aload_n C.1 C.2.1 dX12_atom_49 rfl (lv_at hl 0 rfl) ?_
      refine k_get (v := .int (t.1 0 68)) C hP 0 rfl rfl inlX12 68 (by decide) m_31_6 rfl dX12_atom_50 ?_
      refine lv_iload_n C.1 C.2.1 dX12_atom_53 rfl (lv_at hl 1 rfl) ?_
      refine g_Vi (As := [.int (t.1 0 68), .int r_12]) (rest := []) C hP hD hS hA (T_X12_isName l D K Z Y ad t hok ((t.1 0 68)) (show (1 : Int) ≤ ((t.1 0 68) : Int32).toInt ∧ ((t.1 0 68) : Int32).toInt ≤ 81 from ⟨by omega, by omega⟩) (r_12) (show (0 : Int) ≤ (r_12 : Int32).toInt ∧ (r_12 : Int32).toInt ≤ 81 from ⟨by omega, by omega⟩)) hE hZ (uwV m_32_8 m_32_9 m_32_10 m_1_5 m_32_11) (hdV 2 (by decide +kernel) rfl) ⟨Nat.le_of_ble_eq_true rfl, Nat.le_of_ble_eq_true rfl⟩ rfl rfl (ci := 11) (q0 := 0) rfl rfl rfl hl.1 (Nat.le_of_ble_eq_true rfl) dX12_atom_54 ⟨Nat.le_of_ble_eq_true rfl, Nat.le_of_ble_eq_true rfl⟩ (fun r_20 t_19 H locs hw hP hD hS => ?_)
      obtain ⟨h_22, h_23⟩ := hw
      refine lv_if_ne (tgt := 79) C.1 C.2.1 dX12_atom_57 (by decide) (fun c_24 => ?_) (fun c_24 => ?_)
      · replace c_24 : ¬ r_20.toInt = 0 := i_ne c_24
        refine lv_aload_n C.1 C.2.1 dX12_atom_79 rfl (lv_at hl 0 rfl) ?_
        refine lv_iload_n C.1 C.2.1 dX12_atom_80 rfl (lv_at hl 1 rfl) ?_
        refine g_Vi (As := [.int r_12]) (rest := []) C hP hD hS hA (T_X12_symbolAtom l D K Z Y ad t hok (r_12) (show (0 : Int) ≤ (r_12 : Int32).toInt ∧ (r_12 : Int32).toInt ≤ 81 from ⟨by omega, by omega⟩) (show 1 ≤ (t.1 0 68).toInt from by omega)) hE hZ (uwV m_35_15 m_35_16 m_35_17 m_1_5 m_35_18) (hdV 1 (by decide +kernel) rfl) ⟨Nat.le_of_ble_eq_true rfl, Nat.le_of_ble_eq_true rfl⟩ rfl rfl (ci := 11) (q0 := 0) rfl rfl rfl hl.1 (Nat.le_of_ble_eq_true rfl) dX12_atom_81 ⟨Nat.le_of_ble_eq_true rfl, Nat.le_of_ble_eq_true rfl⟩ (fun r_26 t_25 H locs hw hP hD hS => ?_)
        obtain ⟨hok, f_27, h_28, h_29, p_30⟩ := hw
        have hfr : frA [(0, 68), (0, 70)] [] [26, 27] [] t t_25 := frA_tr hfr f_27 rfl
        have h_31 : (t_25.1 0 68).toInt = (t.1 0 68).toInt := ti_eq (f_27.1 0 68 rfl)
        have h_32 : (t_25.1 0 69).toInt = (t.1 0 69).toInt := ti_eq (f_27.1 0 69 rfl)
        have h_33 : (0 : Int) ≤ (t_25.1 0 69).toInt ∧ (t_25.1 0 69).toInt ≤ 81 := hok.1 0 69
        have h_34 : (0 : Int) ≤ (t_25.1 0 70).toInt ∧ (t_25.1 0 70).toInt ≤ 8 := hok.1 0 70
        replace p_30 : (t_25.1 0 70).toInt = 0 → (t.1 0 70).toInt = 0 := p_30
        refine lv_goto (tgt := 92) C.1 C.2.1 dX12_atom_84 (by decide) ?_
        refine lv_istore_n (lv' := [(2, .int r_26), (0, .ref (ad 0)), (1, .int r_12)]) C.1 C.2.1 dX12_atom_92 rfl hl (by decide) rfl (fun ls hl => ?_)
        have hl : lv_has ls 3 [(0, .ref (ad 0)), (1, .int r_12), (2, .int r_26)] := lv_sub hl [1, 2, 0] rfl
        refine lv_aload_n C.1 C.2.1 dX12_atom_93 rfl (lv_at hl 0 rfl) ?_
        refine lv_iload_n C.1 C.2.1 dX12_atom_94 rfl (lv_at hl 1 rfl) ?_
        refine k_put (ws' := WM K ad (uI t_25 0 68 r_12)) (v := .int r_12) C hP hD hS 0 rfl rfl inlX12 tyX12_ok nmX12 68 (by decide) m_31_6 rfl rfl rfl rfl rfl dX12_atom_95 (fun H locs hP hD hS => ?_)
        have hok : okM (uI t_25 0 68 r_12) := ⟨okI_I hok.1 0 68 r_12 (show (0 : Int) ≤ (r_12 : Int32).toInt ∧ (r_12 : Int32).toInt ≤ 81 from ⟨by omega, by omega⟩), hok.2.1, hok.2.2.1, hok.2.2.2.1, hok.2.2.2.2.1, hok.2.2.2.2.2.1, hok.2.2.2.2.2.2.1, trivial⟩
        have hfr : frA [(0, 68), (0, 70)] [] [26, 27] [] t (uI t_25 0 68 r_12) := frA_I hfr 0 68 _ rfl
        refine lv_iload_n C.1 C.2.1 dX12_atom_98 rfl (lv_at hl 2 rfl) ?_
        exact g_iret C hr hlocks hP hD hS rfl (uI t_25 0 68 r_12) rfl ⟨hok, hfr, (i_rng _).1, (i_rng _).2, (show (t.1 0 68).toInt ≤ r_12.toInt from by omega), (show r_12.toInt ≤ (t.1 0 69).toInt ∨ r_12.toInt = (t.1 0 68).toInt from by omega), (show 1 ≤ (t_25.1 0 70).toInt ∨ (t.1 0 68).toInt < r_12.toInt from by omega), (show (t_25.1 0 70).toInt = 0 → (t.1 0 70).toInt = 0 from by omega)⟩ (Nat.le_of_ble_eq_true rfl) (Nat.le_of_ble_eq_true rfl) dX12_atom_99
      · replace c_24 : r_20.toInt = 0 := i_eq c_24
        refine lv_iload_n C.1 C.2.1 dX12_atom_60 rfl (lv_at hl 1 rfl) ?_
        refine lv_aload_n C.1 C.2.1 dX12_atom_61 rfl (lv_at hl 0 rfl) ?_
        refine k_get (v := .int (t.1 0 68)) C hP 0 rfl rfl inlX12 68 (by decide) m_31_6 rfl dX12_atom_62 ?_
        obtain ⟨v_35, e_36⟩ : ∃ z, z = (r_12 : Int32) - ((t.1 0 68) : Int32) := ⟨_, rfl⟩
        have h_37 : v_35.toInt = r_12.toInt - (t.1 0 68).toInt := by rw [e_36]; exact ti_isub (by show (_ : Int) ≤ r_12.toInt - (t.1 0 68).toInt; omega) (by show r_12.toInt - (t.1 0 68).toInt < (_ : Int); omega)
        refine k_isub (v := v_35) C e_36.symm dX12_atom_65 ?_
        refine lv_bipush (v := 10) C.1 C.2.1 dX12_atom_66 (by decide) ?_
        refine lv_icmp_le (tgt := 87) C.1 C.2.1 dX12_atom_68 (by decide) (fun c_38 => ?_) (fun c_38 => ?_)
        · replace c_38 : v_35.toInt ≤ 10 := i_le c_38
          refine lv_aload_n C.1 C.2.1 dX12_atom_87 rfl (lv_at hl 0 rfl) ?_
          refine lv_iload_n C.1 C.2.1 dX12_atom_88 rfl (lv_at hl 1 rfl) ?_
          refine g_Vi (As := [.int r_12]) (rest := []) C hP hD hS hA (T_X12_number l D K Z Y ad t hok (r_12) (show (0 : Int) ≤ (r_12 : Int32).toInt ∧ (r_12 : Int32).toInt ≤ 81 from ⟨by omega, by omega⟩) (show 1 ≤ (t.1 0 68).toInt from by omega)) hE hZ (uwV m_35_23 m_36_0 m_36_1 m_1_5 m_36_2) (hdV 1 (by decide +kernel) rfl) ⟨Nat.le_of_ble_eq_true rfl, Nat.le_of_ble_eq_true rfl⟩ rfl rfl (ci := 11) (q0 := 0) rfl rfl rfl hl.1 (Nat.le_of_ble_eq_true rfl) dX12_atom_89 ⟨Nat.le_of_ble_eq_true rfl, Nat.le_of_ble_eq_true rfl⟩ (fun r_40 t_39 H locs hw hP hD hS => ?_)
          obtain ⟨hok, f_41, h_42, h_43, p_44⟩ := hw
          have hfr : frA [(0, 68), (0, 70)] [] [26, 27] [] t t_39 := frA_tr hfr f_41 rfl
          have h_45 : (t_39.1 0 68).toInt = (t.1 0 68).toInt := ti_eq (f_41.1 0 68 rfl)
          have h_46 : (t_39.1 0 69).toInt = (t.1 0 69).toInt := ti_eq (f_41.1 0 69 rfl)
          have h_47 : (0 : Int) ≤ (t_39.1 0 69).toInt ∧ (t_39.1 0 69).toInt ≤ 81 := hok.1 0 69
          have h_48 : (0 : Int) ≤ (t_39.1 0 70).toInt ∧ (t_39.1 0 70).toInt ≤ 8 := hok.1 0 70
          replace p_44 : (t_39.1 0 70).toInt = 0 → (t.1 0 70).toInt = 0 := p_44
          refine lv_istore_n (lv' := [(2, .int r_40), (0, .ref (ad 0)), (1, .int r_12)]) C.1 C.2.1 dX12_atom_92 rfl hl (by decide) rfl (fun ls hl => ?_)
          have hl : lv_has ls 3 [(0, .ref (ad 0)), (1, .int r_12), (2, .int r_40)] := lv_sub hl [1, 2, 0] rfl
          refine lv_aload_n C.1 C.2.1 dX12_atom_93 rfl (lv_at hl 0 rfl) ?_
          refine lv_iload_n C.1 C.2.1 dX12_atom_94 rfl (lv_at hl 1 rfl) ?_
          refine k_put (ws' := WM K ad (uI t_39 0 68 r_12)) (v := .int r_12) C hP hD hS 0 rfl rfl inlX12 tyX12_ok nmX12 68 (by decide) m_31_6 rfl rfl rfl rfl rfl dX12_atom_95 (fun H locs hP hD hS => ?_)
          have hok : okM (uI t_39 0 68 r_12) := ⟨okI_I hok.1 0 68 r_12 (show (0 : Int) ≤ (r_12 : Int32).toInt ∧ (r_12 : Int32).toInt ≤ 81 from ⟨by omega, by omega⟩), hok.2.1, hok.2.2.1, hok.2.2.2.1, hok.2.2.2.2.1, hok.2.2.2.2.2.1, hok.2.2.2.2.2.2.1, trivial⟩
          have hfr : frA [(0, 68), (0, 70)] [] [26, 27] [] t (uI t_39 0 68 r_12) := frA_I hfr 0 68 _ rfl
          refine lv_iload_n C.1 C.2.1 dX12_atom_98 rfl (lv_at hl 2 rfl) ?_
          exact g_iret C hr hlocks hP hD hS rfl (uI t_39 0 68 r_12) rfl ⟨hok, hfr, (i_rng _).1, (i_rng _).2, (show (t.1 0 68).toInt ≤ r_12.toInt from by omega), (show r_12.toInt ≤ (t.1 0 69).toInt ∨ r_12.toInt = (t.1 0 68).toInt from by omega), (show 1 ≤ (t_39.1 0 70).toInt ∨ (t.1 0 68).toInt < r_12.toInt from by omega), (show (t_39.1 0 70).toInt = 0 → (t.1 0 70).toInt = 0 from by omega)⟩ (Nat.le_of_ble_eq_true rfl) (Nat.le_of_ble_eq_true rfl) dX12_atom_99
        · replace c_38 : 10 < v_35.toInt := i_nle c_38
          refine lv_aload_n C.1 C.2.1 dX12_atom_71 rfl (lv_at hl 0 rfl) ?_
          refine lv_iload_n C.1 C.2.1 dX12_atom_72 rfl (lv_at hl 1 rfl) ?_
          refine g_Vi (As := [.int r_12]) (rest := []) C hP hD hS hA (T_X12_hasLetter l D K Z Y ad t hok (r_12) (show (0 : Int) ≤ (r_12 : Int32).toInt ∧ (r_12 : Int32).toInt ≤ 81 from ⟨by omega, by omega⟩) (show 1 ≤ (t.1 0 68).toInt from by omega)) hE hZ (uwV m_35_11 m_35_12 m_35_13 m_1_5 m_35_14) (hdV 1 (by decide +kernel) rfl) ⟨Nat.le_of_ble_eq_true rfl, Nat.le_of_ble_eq_true rfl⟩ rfl rfl (ci := 11) (q0 := 0) rfl rfl rfl hl.1 (Nat.le_of_ble_eq_true rfl) dX12_atom_73 ⟨Nat.le_of_ble_eq_true rfl, Nat.le_of_ble_eq_true rfl⟩ (fun r_50 t_49 H locs hw hP hD hS => ?_)
          obtain ⟨h_52, h_53⟩ := hw
          refine lv_if_eq (tgt := 87) C.1 C.2.1 dX12_atom_76 (by decide) (fun c_54 => ?_) (fun c_54 => ?_)
          · replace c_54 : r_50.toInt = 0 := i_eq c_54
            refine lv_aload_n C.1 C.2.1 dX12_atom_87 rfl (lv_at hl 0 rfl) ?_
            refine lv_iload_n C.1 C.2.1 dX12_atom_88 rfl (lv_at hl 1 rfl) ?_
            refine g_Vi (As := [.int r_12]) (rest := []) C hP hD hS hA (T_X12_number l D K Z Y ad t hok (r_12) (show (0 : Int) ≤ (r_12 : Int32).toInt ∧ (r_12 : Int32).toInt ≤ 81 from ⟨by omega, by omega⟩) (show 1 ≤ (t.1 0 68).toInt from by omega)) hE hZ (uwV m_35_23 m_36_0 m_36_1 m_1_5 m_36_2) (hdV 1 (by decide +kernel) rfl) ⟨Nat.le_of_ble_eq_true rfl, Nat.le_of_ble_eq_true rfl⟩ rfl rfl (ci := 11) (q0 := 0) rfl rfl rfl hl.1 (Nat.le_of_ble_eq_true rfl) dX12_atom_89 ⟨Nat.le_of_ble_eq_true rfl, Nat.le_of_ble_eq_true rfl⟩ (fun r_56 t_55 H locs hw hP hD hS => ?_)
            obtain ⟨hok, f_57, h_58, h_59, p_60⟩ := hw
            have hfr : frA [(0, 68), (0, 70)] [] [26, 27] [] t t_55 := frA_tr hfr f_57 rfl
            have h_61 : (t_55.1 0 68).toInt = (t.1 0 68).toInt := ti_eq (f_57.1 0 68 rfl)
            have h_62 : (t_55.1 0 69).toInt = (t.1 0 69).toInt := ti_eq (f_57.1 0 69 rfl)
            have h_63 : (0 : Int) ≤ (t_55.1 0 69).toInt ∧ (t_55.1 0 69).toInt ≤ 81 := hok.1 0 69
            have h_64 : (0 : Int) ≤ (t_55.1 0 70).toInt ∧ (t_55.1 0 70).toInt ≤ 8 := hok.1 0 70
            replace p_60 : (t_55.1 0 70).toInt = 0 → (t.1 0 70).toInt = 0 := p_60
            refine lv_istore_n (lv' := [(2, .int r_56), (0, .ref (ad 0)), (1, .int r_12)]) C.1 C.2.1 dX12_atom_92 rfl hl (by decide) rfl (fun ls hl => ?_)
            have hl : lv_has ls 3 [(0, .ref (ad 0)), (1, .int r_12), (2, .int r_56)] := lv_sub hl [1, 2, 0] rfl
            refine lv_aload_n C.1 C.2.1 dX12_atom_93 rfl (lv_at hl 0 rfl) ?_
            refine lv_iload_n C.1 C.2.1 dX12_atom_94 rfl (lv_at hl 1 rfl) ?_
            refine k_put (ws' := WM K ad (uI t_55 0 68 r_12)) (v := .int r_12) C hP hD hS 0 rfl rfl inlX12 tyX12_ok nmX12 68 (by decide) m_31_6 rfl rfl rfl rfl rfl dX12_atom_95 (fun H locs hP hD hS => ?_)
            have hok : okM (uI t_55 0 68 r_12) := ⟨okI_I hok.1 0 68 r_12 (show (0 : Int) ≤ (r_12 : Int32).toInt ∧ (r_12 : Int32).toInt ≤ 81 from ⟨by omega, by omega⟩), hok.2.1, hok.2.2.1, hok.2.2.2.1, hok.2.2.2.2.1, hok.2.2.2.2.2.1, hok.2.2.2.2.2.2.1, trivial⟩
            have hfr : frA [(0, 68), (0, 70)] [] [26, 27] [] t (uI t_55 0 68 r_12) := frA_I hfr 0 68 _ rfl
            refine lv_iload_n C.1 C.2.1 dX12_atom_98 rfl (lv_at hl 2 rfl) ?_
            exact g_iret C hr hlocks hP hD hS rfl (uI t_55 0 68 r_12) rfl ⟨hok, hfr, (i_rng _).1, (i_rng _).2, (show (t.1 0 68).toInt ≤ r_12.toInt from by omega), (show r_12.toInt ≤ (t.1 0 69).toInt ∨ r_12.toInt = (t.1 0 68).toInt from by omega), (show 1 ≤ (t_55.1 0 70).toInt ∨ (t.1 0 68).toInt < r_12.toInt from by omega), (show (t_55.1 0 70).toInt = 0 → (t.1 0 70).toInt = 0 from by omega)⟩ (Nat.le_of_ble_eq_true rfl) (Nat.le_of_ble_eq_true rfl) dX12_atom_99
          · replace c_54 : ¬ r_50.toInt = 0 := i_ne c_54
            refine lv_aload_n C.1 C.2.1 dX12_atom_79 rfl (lv_at hl 0 rfl) ?_
            refine lv_iload_n C.1 C.2.1 dX12_atom_80 rfl (lv_at hl 1 rfl) ?_
            refine g_Vi (As := [.int r_12]) (rest := []) C hP hD hS hA (T_X12_symbolAtom l D K Z Y ad t hok (r_12) (show (0 : Int) ≤ (r_12 : Int32).toInt ∧ (r_12 : Int32).toInt ≤ 81 from ⟨by omega, by omega⟩) (show 1 ≤ (t.1 0 68).toInt from by omega)) hE hZ (uwV m_35_15 m_35_16 m_35_17 m_1_5 m_35_18) (hdV 1 (by decide +kernel) rfl) ⟨Nat.le_of_ble_eq_true rfl, Nat.le_of_ble_eq_true rfl⟩ rfl rfl (ci := 11) (q0 := 0) rfl rfl rfl hl.1 (Nat.le_of_ble_eq_true rfl) dX12_atom_81 ⟨Nat.le_of_ble_eq_true rfl, Nat.le_of_ble_eq_true rfl⟩ (fun r_66 t_65 H locs hw hP hD hS => ?_)
            obtain ⟨hok, f_67, h_68, h_69, p_70⟩ := hw
            have hfr : frA [(0, 68), (0, 70)] [] [26, 27] [] t t_65 := frA_tr hfr f_67 rfl
            have h_71 : (t_65.1 0 68).toInt = (t.1 0 68).toInt := ti_eq (f_67.1 0 68 rfl)
            have h_72 : (t_65.1 0 69).toInt = (t.1 0 69).toInt := ti_eq (f_67.1 0 69 rfl)
            have h_73 : (0 : Int) ≤ (t_65.1 0 69).toInt ∧ (t_65.1 0 69).toInt ≤ 81 := hok.1 0 69
            have h_74 : (0 : Int) ≤ (t_65.1 0 70).toInt ∧ (t_65.1 0 70).toInt ≤ 8 := hok.1 0 70
            replace p_70 : (t_65.1 0 70).toInt = 0 → (t.1 0 70).toInt = 0 := p_70
            refine lv_goto (tgt := 92) C.1 C.2.1 dX12_atom_84 (by decide) ?_
            refine lv_istore_n (lv' := [(2, .int r_66), (0, .ref (ad 0)), (1, .int r_12)]) C.1 C.2.1 dX12_atom_92 rfl hl (by decide) rfl (fun ls hl => ?_)
            have hl : lv_has ls 3 [(0, .ref (ad 0)), (1, .int r_12), (2, .int r_66)] := lv_sub hl [1, 2, 0] rfl
            refine lv_aload_n C.1 C.2.1 dX12_atom_93 rfl (lv_at hl 0 rfl) ?_
            refine lv_iload_n C.1 C.2.1 dX12_atom_94 rfl (lv_at hl 1 rfl) ?_
            refine k_put (ws' := WM K ad (uI t_65 0 68 r_12)) (v := .int r_12) C hP hD hS 0 rfl rfl inlX12 tyX12_ok nmX12 68 (by decide) m_31_6 rfl rfl rfl rfl rfl dX12_atom_95 (fun H locs hP hD hS => ?_)
            have hok : okM (uI t_65 0 68 r_12) := ⟨okI_I hok.1 0 68 r_12 (show (0 : Int) ≤ (r_12 : Int32).toInt ∧ (r_12 : Int32).toInt ≤ 81 from ⟨by omega, by omega⟩), hok.2.1, hok.2.2.1, hok.2.2.2.1, hok.2.2.2.2.1, hok.2.2.2.2.2.1, hok.2.2.2.2.2.2.1, trivial⟩
            have hfr : frA [(0, 68), (0, 70)] [] [26, 27] [] t (uI t_65 0 68 r_12) := frA_I hfr 0 68 _ rfl
            refine lv_iload_n C.1 C.2.1 dX12_atom_98 rfl (lv_at hl 2 rfl) ?_
            exact g_iret C hr hlocks hP hD hS rfl (uI t_65 0 68 r_12) rfl ⟨hok, hfr, (i_rng _).1, (i_rng _).2, (show (t.1 0 68).toInt ≤ r_12.toInt from by omega), (show r_12.toInt ≤ (t.1 0 69).toInt ∨ r_12.toInt = (t.1 0 68).toInt from by omega), (show 1 ≤ (t_65.1 0 70).toInt ∨ (t.1 0 68).toInt < r_12.toInt from by omega), (show (t_65.1 0 70).toInt = 0 → (t.1 0 70).toInt = 0 from by omega)⟩ (Nat.le_of_ble_eq_true rfl) (Nat.le_of_ble_eq_true rfl) dX12_atom_99
    · replace c_18 : r_12.toInt = (t.1 0 68).toInt := i_eq c_18
      refine lv_aload_n C.1 C.2.1 dX12_atom_41 rfl (lv_at hl 0 rfl) ?_
      refine lv_iconst (v := 1) C.1 C.2.1 dX12_atom_42 (by decide) ?_
      have h_75 : (1 : Int32).toInt = 1 := rfl
      refine g_Vv (As := [.int 1]) (rest := []) C hP hD hS hA (T_X12_fail l D K Z Y ad t hok 1 (show (1 : Int) ≤ (1 : Int32).toInt ∧ (1 : Int32).toInt ≤ 8 from ⟨by decide, by decide⟩) (show 1 ≤ (1 : Int32).toInt from by omega)) hE hZ (uwV m_32_22 m_32_23 m_33_0 m_1_5 m_33_1) (hdV 1 (by decide +kernel) rfl) ⟨Nat.le_of_ble_eq_true rfl, Nat.le_of_ble_eq_true rfl⟩ rfl rfl (ci := 11) (q0 := 0) rfl rfl rfl hl.1 (Nat.le_of_ble_eq_true rfl) dX12_atom_43 ⟨Nat.le_of_ble_eq_true rfl, Nat.le_of_ble_eq_true rfl⟩ (fun t_76 H locs hw hP hD hS => ?_)
      obtain ⟨hok, f_78, p_79⟩ := hw
      have hfr : frA [(0, 68), (0, 70)] [] [26, 27] [] t t_76 := frA_tr hfr f_78 rfl
      have h_80 : (t_76.1 0 68).toInt = (t.1 0 68).toInt := ti_eq (f_78.1 0 68 rfl)
      have h_81 : (t_76.1 0 69).toInt = (t.1 0 69).toInt := ti_eq (f_78.1 0 69 rfl)
      have h_82 : (0 : Int) ≤ (t_76.1 0 69).toInt ∧ (t_76.1 0 69).toInt ≤ 81 := hok.1 0 69
      have h_83 : (0 : Int) ≤ (t_76.1 0 70).toInt ∧ (t_76.1 0 70).toInt ≤ 8 := hok.1 0 70
      replace p_79 : 1 ≤ (t_76.1 0 70).toInt := p_79
      refine lv_iconst (v := 0) C.1 C.2.1 dX12_atom_46 (by decide) ?_
      exact g_iret C hr hlocks hP hD hS rfl t_76 rfl ⟨hok, hfr, (i_rng _).1, (i_rng _).2, (show (t.1 0 68).toInt ≤ (t_76.1 0 68).toInt from by omega), (show (t_76.1 0 68).toInt ≤ (t.1 0 69).toInt ∨ (t_76.1 0 68).toInt = (t.1 0 68).toInt from by omega), (show 1 ≤ (t_76.1 0 70).toInt ∨ (t.1 0 68).toInt < (t_76.1 0 68).toInt from by omega), (show (t_76.1 0 70).toInt = 0 → (t.1 0 70).toInt = 0 from by omega)⟩ (Nat.le_of_ble_eq_true rfl) (Nat.le_of_ble_eq_true rfl) dX12_atom_47
  · replace c_10 : r_5.toInt = 42 := i_eq c_10
    refine lv_aload_n C.1 C.2.1 dX12_atom_9 rfl (lv_at hl 0 rfl) ?_
    refine lv_dup C.1 C.2.1 dX12_atom_10 rfl ?_
    refine k_get (v := .int (t.1 0 68)) C hP 0 rfl rfl inlX12 68 (by decide) m_31_6 rfl dX12_atom_11 ?_
    refine lv_iconst (v := 1) C.1 C.2.1 dX12_atom_14 (by decide) ?_
    obtain ⟨v_84, e_85⟩ : ∃ z, z = ((t.1 0 68) : Int32) + (1 : Int32) := ⟨_, rfl⟩
    have h_86 : v_84.toInt = (t.1 0 68).toInt + 1 := by rw [e_85]; exact ti_iadd (by show (_ : Int) ≤ (t.1 0 68).toInt + 1; omega) (by show (t.1 0 68).toInt + 1 < (_ : Int); omega)
    refine k_iadd (v := v_84) C e_85.symm dX12_atom_15 ?_
    refine k_put (ws' := WM K ad (uI t 0 68 v_84)) (v := .int v_84) C hP hD hS 0 rfl rfl inlX12 tyX12_ok nmX12 68 (by decide) m_31_6 rfl rfl rfl rfl rfl dX12_atom_16 (fun H locs hP hD hS => ?_)
    have hok : okM (uI t 0 68 v_84) := ⟨okI_I hok.1 0 68 v_84 (show (0 : Int) ≤ (v_84 : Int32).toInt ∧ (v_84 : Int32).toInt ≤ 81 from ⟨by omega, by omega⟩), hok.2.1, hok.2.2.1, hok.2.2.2.1, hok.2.2.2.2.1, hok.2.2.2.2.2.1, hok.2.2.2.2.2.2.1, trivial⟩
    have hfr : frA [(0, 68), (0, 70)] [] [26, 27] [] t (uI t 0 68 v_84) := frA_I hfr 0 68 _ rfl
    refine lv_aload_n C.1 C.2.1 dX12_atom_19 rfl (lv_at hl 0 rfl) ?_
    have h_87 : (-3999 : Int) ≤ (t.1 0 47).toInt ∧ (t.1 0 47).toInt ≤ 4000 := hok.1 0 47
    refine k_get (v := .int (t.1 0 47)) C hP 0 rfl rfl inlX12 47 (by decide) m_30_16 rfl dX12_atom_20 ?_
    obtain ⟨v_88, e_89⟩ : ∃ z, z = ((t.1 0 47) : Int32).toInt64 := ⟨_, rfl⟩
    have h_90 : v_88.toInt = (t.1 0 47).toInt := by rw [e_89]; exact Jvm.Kit.i64_of_i32 _
    refine lv_i2l (v := v_88) C.1 C.2.1 dX12_atom_23 e_89.symm ?_
    refine g_Si (As := [.long v_88]) (rest := []) C hP hD hS hA (T_X12_wordOf l D K Z Y ad (uI t 0 68 v_84) hok (v_88)) hE hZ (uwS m_35_4 m_35_5 m_1_5 m_35_6) (hdS 1 (by decide +kernel) rfl) ⟨Nat.le_of_ble_eq_true rfl, Nat.le_of_ble_eq_true rfl⟩ rfl rfl rfl hl.1 (Nat.le_of_ble_eq_true rfl) dX12_atom_24 ⟨Nat.le_of_ble_eq_true rfl, Nat.le_of_ble_eq_true rfl⟩ (fun r_92 t_91 H locs hw hP hD hS => ?_)
    obtain ⟨h_94, h_95⟩ := hw
    exact g_iret C hr hlocks hP hD hS rfl (uI t 0 68 v_84) rfl ⟨hok, hfr, (i_rng _).1, (i_rng _).2, (show (t.1 0 68).toInt ≤ v_84.toInt from by omega), (show v_84.toInt ≤ (t.1 0 69).toInt ∨ v_84.toInt = (t.1 0 68).toInt from by omega), (show 1 ≤ (t.1 0 70).toInt ∨ (t.1 0 68).toInt < v_84.toInt from by omega), (show (t.1 0 70).toInt = 0 → (t.1 0 70).toInt = 0 from by omega)⟩ (Nat.le_of_ble_eq_true rfl) (Nat.le_of_ble_eq_true rfl) dX12_atom_27

theorem dX12_isToCome_0 : decode cX12_isToCome 0 = .ok (.aload_n 0, 1) := by decide +kernel
theorem dX12_isToCome_1 : decode cX12_isToCome 1 = .ok (.invokevirtual 497, 3) := by decide +kernel
theorem dX12_isToCome_10 : decode cX12_isToCome 10 = .ok (.if_icmp .eq 15, 3) := by decide +kernel
theorem dX12_isToCome_100 : decode cX12_isToCome 100 = .ok (.goto 4, 3) := by decide +kernel
theorem dX12_isToCome_103 : decode cX12_isToCome 103 = .ok (.iconst (-1), 1) := by decide +kernel
theorem dX12_isToCome_104 : decode cX12_isToCome 104 = .ok (.istore 4, 2) := by decide +kernel
theorem dX12_isToCome_106 : decode cX12_isToCome 106 = .ok (.iload 4, 2) := by decide +kernel
theorem dX12_isToCome_108 : decode cX12_isToCome 108 = .ok (.iconst (-1), 1) := by decide +kernel
theorem dX12_isToCome_109 : decode cX12_isToCome 109 = .ok (.if_icmp .eq 17, 3) := by decide +kernel
theorem dX12_isToCome_112 : decode cX12_isToCome 112 = .ok (.iload 4, 2) := by decide +kernel
theorem dX12_isToCome_114 : decode cX12_isToCome 114 = .ok (.bipush 44, 2) := by decide +kernel
theorem dX12_isToCome_116 : decode cX12_isToCome 116 = .ok (.if_icmp .eq 10, 3) := by decide +kernel
theorem dX12_isToCome_119 : decode cX12_isToCome 119 = .ok (.iload 4, 2) := by decide +kernel
theorem dX12_isToCome_121 : decode cX12_isToCome 121 = .ok (.bipush 40, 2) := by decide +kernel
theorem dX12_isToCome_123 : decode cX12_isToCome 123 = .ok (.if_icmp .ne 7, 3) := by decide +kernel
theorem dX12_isToCome_126 : decode cX12_isToCome 126 = .ok (.iconst 1, 1) := by decide +kernel
theorem dX12_isToCome_127 : decode cX12_isToCome 127 = .ok (.goto 4, 3) := by decide +kernel
theorem dX12_isToCome_13 : decode cX12_isToCome 13 = .ok (.aload_n 0, 1) := by decide +kernel
theorem dX12_isToCome_130 : decode cX12_isToCome 130 = .ok (.iconst 0, 1) := by decide +kernel
theorem dX12_isToCome_131 : decode cX12_isToCome 131 = .ok (.ireturn, 1) := by decide +kernel
theorem dX12_isToCome_14 : decode cX12_isToCome 14 = .ok (.aload_n 0, 1) := by decide +kernel
theorem dX12_isToCome_15 : decode cX12_isToCome 15 = .ok (.getfield 472, 3) := by decide +kernel
theorem dX12_isToCome_18 : decode cX12_isToCome 18 = .ok (.iload_n 1, 1) := by decide +kernel
theorem dX12_isToCome_19 : decode cX12_isToCome 19 = .ok (.invokevirtual 500, 3) := by decide +kernel
theorem dX12_isToCome_22 : decode cX12_isToCome 22 = .ok (.ifCond .ne 5, 3) := by decide +kernel
theorem dX12_isToCome_25 : decode cX12_isToCome 25 = .ok (.iconst 0, 1) := by decide +kernel
theorem dX12_isToCome_26 : decode cX12_isToCome 26 = .ok (.ireturn, 1) := by decide +kernel
theorem dX12_isToCome_27 : decode cX12_isToCome 27 = .ok (.aload_n 0, 1) := by decide +kernel
theorem dX12_isToCome_28 : decode cX12_isToCome 28 = .ok (.aload_n 0, 1) := by decide +kernel
theorem dX12_isToCome_29 : decode cX12_isToCome 29 = .ok (.getfield 472, 3) := by decide +kernel
theorem dX12_isToCome_32 : decode cX12_isToCome 32 = .ok (.iload_n 1, 1) := by decide +kernel
theorem dX12_isToCome_33 : decode cX12_isToCome 33 = .ok (.invokevirtual 481, 3) := by decide +kernel
theorem dX12_isToCome_36 : decode cX12_isToCome 36 = .ok (.istore_n 2, 1) := by decide +kernel
theorem dX12_isToCome_37 : decode cX12_isToCome 37 = .ok (.iload_n 2, 1) := by decide +kernel
theorem dX12_isToCome_38 : decode cX12_isToCome 38 = .ok (.ifCond .eq 11, 3) := by decide +kernel
theorem dX12_isToCome_4 : decode cX12_isToCome 4 = .ok (.istore_n 1, 1) := by decide +kernel
theorem dX12_isToCome_41 : decode cX12_isToCome 41 = .ok (.iload_n 2, 1) := by decide +kernel
theorem dX12_isToCome_42 : decode cX12_isToCome 42 = .ok (.bipush 70, 2) := by decide +kernel
theorem dX12_isToCome_44 : decode cX12_isToCome 44 = .ok (.if_icmp .eq 5, 3) := by decide +kernel
theorem dX12_isToCome_47 : decode cX12_isToCome 47 = .ok (.iconst 0, 1) := by decide +kernel
theorem dX12_isToCome_48 : decode cX12_isToCome 48 = .ok (.ireturn, 1) := by decide +kernel
theorem dX12_isToCome_49 : decode cX12_isToCome 49 = .ok (.iload_n 2, 1) := by decide +kernel
theorem dX12_isToCome_5 : decode cX12_isToCome 5 = .ok (.iload_n 1, 1) := by decide +kernel
theorem dX12_isToCome_50 : decode cX12_isToCome 50 = .ok (.ifCond .ne 19, 3) := by decide +kernel
theorem dX12_isToCome_53 : decode cX12_isToCome 53 = .ok (.aload_n 0, 1) := by decide +kernel
theorem dX12_isToCome_54 : decode cX12_isToCome 54 = .ok (.aload_n 0, 1) := by decide +kernel
theorem dX12_isToCome_55 : decode cX12_isToCome 55 = .ok (.aload_n 0, 1) := by decide +kernel
theorem dX12_isToCome_56 : decode cX12_isToCome 56 = .ok (.getfield 472, 3) := by decide +kernel
theorem dX12_isToCome_59 : decode cX12_isToCome 59 = .ok (.iload_n 1, 1) := by decide +kernel
theorem dX12_isToCome_6 : decode cX12_isToCome 6 = .ok (.aload_n 0, 1) := by decide +kernel
theorem dX12_isToCome_60 : decode cX12_isToCome 60 = .ok (.invokevirtual 484, 3) := by decide +kernel
theorem dX12_isToCome_63 : decode cX12_isToCome 63 = .ok (.invokevirtual 466, 3) := by decide +kernel
theorem dX12_isToCome_66 : decode cX12_isToCome 66 = .ok (.goto 4, 3) := by decide +kernel
theorem dX12_isToCome_69 : decode cX12_isToCome 69 = .ok (.iconst (-1), 1) := by decide +kernel
theorem dX12_isToCome_7 : decode cX12_isToCome 7 = .ok (.getfield 472, 3) := by decide +kernel
theorem dX12_isToCome_70 : decode cX12_isToCome 70 = .ok (.istore_n 3, 1) := by decide +kernel
theorem dX12_isToCome_71 : decode cX12_isToCome 71 = .ok (.iload_n 3, 1) := by decide +kernel
theorem dX12_isToCome_72 : decode cX12_isToCome 72 = .ok (.iconst (-1), 1) := by decide +kernel
theorem dX12_isToCome_73 : decode cX12_isToCome 73 = .ok (.if_icmp .eq 14, 3) := by decide +kernel
theorem dX12_isToCome_76 : decode cX12_isToCome 76 = .ok (.aload_n 0, 1) := by decide +kernel
theorem dX12_isToCome_77 : decode cX12_isToCome 77 = .ok (.getfield 95, 3) := by decide +kernel
theorem dX12_isToCome_80 : decode cX12_isToCome 80 = .ok (.iload_n 3, 1) := by decide +kernel
theorem dX12_isToCome_81 : decode cX12_isToCome 81 = .ok (.baload, 1) := by decide +kernel
theorem dX12_isToCome_82 : decode cX12_isToCome 82 = .ok (.ifCond .eq 5, 3) := by decide +kernel
theorem dX12_isToCome_85 : decode cX12_isToCome 85 = .ok (.iconst 0, 1) := by decide +kernel
theorem dX12_isToCome_86 : decode cX12_isToCome 86 = .ok (.ireturn, 1) := by decide +kernel
theorem dX12_isToCome_87 : decode cX12_isToCome 87 = .ok (.iload_n 1, 1) := by decide +kernel
theorem dX12_isToCome_88 : decode cX12_isToCome 88 = .ok (.aload_n 0, 1) := by decide +kernel
theorem dX12_isToCome_89 : decode cX12_isToCome 89 = .ok (.getfield 475, 3) := by decide +kernel
theorem dX12_isToCome_92 : decode cX12_isToCome 92 = .ok (.if_icmp .ge 11, 3) := by decide +kernel
theorem dX12_isToCome_95 : decode cX12_isToCome 95 = .ok (.aload_n 0, 1) := by decide +kernel
theorem dX12_isToCome_96 : decode cX12_isToCome 96 = .ok (.iload_n 1, 1) := by decide +kernel
theorem dX12_isToCome_97 : decode cX12_isToCome 97 = .ok (.invokevirtual 446, 3) := by decide +kernel
set_option maxHeartbeats 4000000 in
set_option maxRecDepth 100000 in
theorem T_X12_isToCome (l : Launch) (D : va_G) (K : Nat → ClassId) (Z Y : Nat → Nat) (ad : Nat → Nat) (t : tSt) (hok : okM t) (hs0 : 1 ≤ (t.1 0 68).toInt) : tMet l yX12_isToCome cX12_isToCome 5 (some .boolean) (rmD 9 0 0) D K Z Y [.ref (ad 0)] (WM K ad t) (QI D K (fun (r : Int32) (u : Unit) => (0 : Int) ≤ r.toInt ∧ r.toInt ≤ 1 ∧ (r.toInt = 1 → (t.1 0 68).toInt < (t.1 0 69).toInt)) (fun (_ : Unit) => WM K ad t)) 0 0 := by
  refine t_met RX12 ⟨rfl, by decide +kernel⟩ (Nat.le_of_ble_eq_true rfl) ?_
  intro p e s m below meth c A ls C hE hZ hr hlocks hA hP hD hS hl
  have hl : lv_has ls 5 [(0, .ref (ad 0))] := hl
  have h_1 : (0 : Int) ≤ (t.1 0 52).toInt ∧ (t.1 0 52).toInt ≤ 1200 := hok.1 0 52
  have h_2 : (0 : Int) ≤ (t.1 0 67).toInt ∧ (t.1 0 67).toInt ≤ 1281 := hok.1 0 67
  have h_3 : (0 : Int) ≤ (t.1 0 68).toInt ∧ (t.1 0 68).toInt ≤ 81 := hok.1 0 68
  have h_4 : (0 : Int) ≤ (t.1 0 69).toInt ∧ (t.1 0 69).toInt ≤ 81 := hok.1 0 69
  refine lv_aload_n C.1 C.2.1 dX12_isToCome_0 rfl (lv_at hl 0 rfl) ?_
  refine g_Vi (As := []) (rest := []) C hP hD hS hA (T_X12_nameEnd l D K Z Y ad t hok (show 1 ≤ (t.1 0 68).toInt from by omega)) hE hZ (uwV m_35_7 m_35_8 m_35_9 m_1_5 m_35_10) (hdV 0 (by decide +kernel) rfl) ⟨Nat.le_of_ble_eq_true rfl, Nat.le_of_ble_eq_true rfl⟩ rfl rfl (ci := 11) (q0 := 0) rfl rfl rfl hl.1 (Nat.le_of_ble_eq_true rfl) dX12_isToCome_1 ⟨Nat.le_of_ble_eq_true rfl, Nat.le_of_ble_eq_true rfl⟩ (fun r_6 t_5 H locs hw hP hD hS => ?_)
  obtain ⟨h_8, h_9, p_10, p_11⟩ := hw
  replace p_10 : (t.1 0 68).toInt ≤ r_6.toInt := p_10
  replace p_11 : r_6.toInt ≤ (t.1 0 69).toInt ∨ r_6.toInt = (t.1 0 68).toInt := p_11
  refine lv_istore_n (lv' := [(1, .int r_6), (0, .ref (ad 0))]) C.1 C.2.1 dX12_isToCome_4 rfl hl (by decide) rfl (fun ls hl => ?_)
  have hl : lv_has ls 5 [(0, .ref (ad 0)), (1, .int r_6)] := lv_sub hl [1, 0] rfl
  refine lv_iload_n C.1 C.2.1 dX12_isToCome_5 rfl (lv_at hl 1 rfl) ?_
  refine lv_aload_n C.1 C.2.1 dX12_isToCome_6 rfl (lv_at hl 0 rfl) ?_
  refine k_get (v := .int (t.1 0 68)) C hP 0 rfl rfl inlX12 68 (by decide) m_31_6 rfl dX12_isToCome_7 ?_
  refine lv_icmp_eq (tgt := 25) C.1 C.2.1 dX12_isToCome_10 (by decide) (fun c_12 => ?_) (fun c_12 => ?_)
  · replace c_12 : r_6.toInt = (t.1 0 68).toInt := i_eq c_12
    refine lv_iconst (v := 0) C.1 C.2.1 dX12_isToCome_25 (by decide) ?_
    exact g_iret C hr hlocks hP hD hS (by decide) () rfl ⟨by decide, by decide, (show 0 = 1 → (t.1 0 68).toInt < (t.1 0 69).toInt from by omega)⟩ (Nat.le_of_ble_eq_true rfl) (Nat.le_of_ble_eq_true rfl) dX12_isToCome_26
  · replace c_12 : ¬ r_6.toInt = (t.1 0 68).toInt := i_ne c_12
    refine lv_aload_n C.1 C.2.1 dX12_isToCome_13 rfl (lv_at hl 0 rfl) ?_
    refine lv_aload_n C.1 C.2.1 dX12_isToCome_14 rfl (lv_at hl 0 rfl) ?_
    refine k_get (v := .int (t.1 0 68)) C hP 0 rfl rfl inlX12 68 (by decide) m_31_6 rfl dX12_isToCome_15 ?_
    refine lv_iload_n C.1 C.2.1 dX12_isToCome_18 rfl (lv_at hl 1 rfl) ?_
    refine g_Vi (As := [.int (t.1 0 68), .int r_6]) (rest := []) C hP hD hS hA (T_X12_isName l D K Z Y ad t hok ((t.1 0 68)) (show (1 : Int) ≤ ((t.1 0 68) : Int32).toInt ∧ ((t.1 0 68) : Int32).toInt ≤ 81 from ⟨by omega, by omega⟩) (r_6) (show (0 : Int) ≤ (r_6 : Int32).toInt ∧ (r_6 : Int32).toInt ≤ 81 from ⟨by omega, by omega⟩)) hE hZ (uwV m_32_8 m_32_9 m_32_10 m_1_5 m_32_11) (hdV 2 (by decide +kernel) rfl) ⟨Nat.le_of_ble_eq_true rfl, Nat.le_of_ble_eq_true rfl⟩ rfl rfl (ci := 11) (q0 := 0) rfl rfl rfl hl.1 (Nat.le_of_ble_eq_true rfl) dX12_isToCome_19 ⟨Nat.le_of_ble_eq_true rfl, Nat.le_of_ble_eq_true rfl⟩ (fun r_14 t_13 H locs hw hP hD hS => ?_)
    obtain ⟨h_16, h_17⟩ := hw
    refine lv_if_ne (tgt := 27) C.1 C.2.1 dX12_isToCome_22 (by decide) (fun c_18 => ?_) (fun c_18 => ?_)
    · replace c_18 : ¬ r_14.toInt = 0 := i_ne c_18
      refine lv_aload_n C.1 C.2.1 dX12_isToCome_27 rfl (lv_at hl 0 rfl) ?_
      refine lv_aload_n C.1 C.2.1 dX12_isToCome_28 rfl (lv_at hl 0 rfl) ?_
      refine k_get (v := .int (t.1 0 68)) C hP 0 rfl rfl inlX12 68 (by decide) m_31_6 rfl dX12_isToCome_29 ?_
      refine lv_iload_n C.1 C.2.1 dX12_isToCome_32 rfl (lv_at hl 1 rfl) ?_
      refine g_Vi (As := [.int (t.1 0 68), .int r_6]) (rest := []) C hP hD hS hA (T_X12_localKind l D K Z Y ad t hok ((t.1 0 68)) (show (1 : Int) ≤ ((t.1 0 68) : Int32).toInt ∧ ((t.1 0 68) : Int32).toInt ≤ 81 from ⟨by omega, by omega⟩) (r_6) (show (0 : Int) ≤ (r_6 : Int32).toInt ∧ (r_6 : Int32).toInt ≤ 81 from ⟨by omega, by omega⟩)) hE hZ (uwV m_32_18 m_32_19 m_32_20 m_1_5 m_32_21) (hdV 2 (by decide +kernel) rfl) ⟨Nat.le_of_ble_eq_true rfl, Nat.le_of_ble_eq_true rfl⟩ rfl rfl (ci := 11) (q0 := 0) rfl rfl rfl hl.1 (Nat.le_of_ble_eq_true rfl) dX12_isToCome_33 ⟨Nat.le_of_ble_eq_true rfl, Nat.le_of_ble_eq_true rfl⟩ (fun r_20 t_19 H locs hw hP hD hS => ?_)
      obtain ⟨h_22, h_23, p_24⟩ := hw
      replace p_24 : ¬ r_20.toInt = 0 → 48 ≤ (fLet t (t.1 0 68)).toInt ∧ (fLet t (t.1 0 68)).toInt ≤ 57 := p_24
      refine lv_istore_n (lv' := [(2, .int r_20), (0, .ref (ad 0)), (1, .int r_6)]) C.1 C.2.1 dX12_isToCome_36 rfl hl (by decide) rfl (fun ls hl => ?_)
      have hl : lv_has ls 5 [(0, .ref (ad 0)), (1, .int r_6), (2, .int r_20)] := lv_sub hl [1, 2, 0] rfl
      refine lv_iload_n C.1 C.2.1 dX12_isToCome_37 rfl (lv_at hl 2 rfl) ?_
      refine lv_if_eq (tgt := 49) C.1 C.2.1 dX12_isToCome_38 (by decide) (fun c_25 => ?_) (fun c_25 => ?_)
      · replace c_25 : r_20.toInt = 0 := i_eq c_25
        refine lv_iload_n C.1 C.2.1 dX12_isToCome_49 rfl (lv_at hl 2 rfl) ?_
        refine lv_if_ne (tgt := 69) C.1 C.2.1 dX12_isToCome_50 (by decide) (fun c_26 => False.elim (by have c_26 : ¬ r_20.toInt = 0 := i_ne c_26; omega)) (fun c_26 => ?_)
        replace c_26 : r_20.toInt = 0 := i_eq c_26
        refine lv_aload_n C.1 C.2.1 dX12_isToCome_53 rfl (lv_at hl 0 rfl) ?_
        refine lv_aload_n C.1 C.2.1 dX12_isToCome_54 rfl (lv_at hl 0 rfl) ?_
        refine lv_aload_n C.1 C.2.1 dX12_isToCome_55 rfl (lv_at hl 0 rfl) ?_
        refine k_get (v := .int (t.1 0 68)) C hP 0 rfl rfl inlX12 68 (by decide) m_31_6 rfl dX12_isToCome_56 ?_
        refine lv_iload_n C.1 C.2.1 dX12_isToCome_59 rfl (lv_at hl 1 rfl) ?_
        refine g_Vl (As := [.int (t.1 0 68), .int r_6]) (rest := [.ref (ad 0)]) C hP hD hS hA (T_X12_keyOf l D K Z Y ad t hok ((t.1 0 68)) (show (1 : Int) ≤ ((t.1 0 68) : Int32).toInt ∧ ((t.1 0 68) : Int32).toInt ≤ 81 from ⟨by omega, by omega⟩) (r_6) (show (0 : Int) ≤ (r_6 : Int32).toInt ∧ (r_6 : Int32).toInt ≤ 81 from ⟨by omega, by omega⟩)) hE hZ (uwV m_33_14 m_33_15 m_33_16 m_1_5 m_33_17) (hdV 2 (by decide +kernel) rfl) ⟨Nat.le_of_ble_eq_true rfl, Nat.le_of_ble_eq_true rfl⟩ rfl rfl (ci := 11) (q0 := 0) rfl rfl rfl hl.1 (Nat.le_of_ble_eq_true rfl) dX12_isToCome_60 ⟨Nat.le_of_ble_eq_true rfl, Nat.le_of_ble_eq_true rfl⟩ (fun r_28 t_27 H locs hw hP hD hS => ?_)
        refine g_Vi (As := [.long r_28]) (rest := []) C hP hD hS hA (T_X12_find l D K Z Y ad t hok (r_28)) hE hZ (uwV m_33_22 m_33_23 m_34_0 m_1_5 m_34_1) (hdV 1 (by decide +kernel) rfl) ⟨Nat.le_of_ble_eq_true rfl, Nat.le_of_ble_eq_true rfl⟩ rfl rfl (ci := 11) (q0 := 0) rfl rfl rfl hl.1 (Nat.le_of_ble_eq_true rfl) dX12_isToCome_63 ⟨Nat.le_of_ble_eq_true rfl, Nat.le_of_ble_eq_true rfl⟩ (fun r_31 t_30 H locs hw hP hD hS => ?_)
        obtain ⟨h_33, h_34, p_35⟩ := hw
        replace p_35 : r_31.toInt < (t.1 0 52).toInt ∨ r_31.toInt = -1 := p_35
        refine lv_goto (tgt := 70) C.1 C.2.1 dX12_isToCome_66 (by decide) ?_
        refine lv_istore_n (lv' := [(3, .int r_31), (0, .ref (ad 0)), (1, .int r_6), (2, .int r_20)]) C.1 C.2.1 dX12_isToCome_70 rfl hl (by decide) rfl (fun ls hl => ?_)
        have hl : lv_has ls 5 [(0, .ref (ad 0)), (1, .int r_6), (2, .int r_20), (3, .int r_31)] := lv_sub hl [1, 2, 3, 0] rfl
        refine lv_iload_n C.1 C.2.1 dX12_isToCome_71 rfl (lv_at hl 3 rfl) ?_
        refine lv_iconst (v := (-1)) C.1 C.2.1 dX12_isToCome_72 (by decide) ?_
        refine lv_icmp_eq (tgt := 87) C.1 C.2.1 dX12_isToCome_73 (by decide) (fun c_36 => ?_) (fun c_36 => ?_)
        · replace c_36 : r_31.toInt = (-1) := i_eq c_36
          refine lv_iload_n C.1 C.2.1 dX12_isToCome_87 rfl (lv_at hl 1 rfl) ?_
          refine lv_aload_n C.1 C.2.1 dX12_isToCome_88 rfl (lv_at hl 0 rfl) ?_
          refine k_get (v := .int (t.1 0 69)) C hP 0 rfl rfl inlX12 69 (by decide) m_31_7 rfl dX12_isToCome_89 ?_
          refine lv_icmp_ge (tgt := 103) C.1 C.2.1 dX12_isToCome_92 (by decide) (fun c_37 => ?_) (fun c_37 => ?_)
          · replace c_37 : (t.1 0 69).toInt ≤ r_6.toInt := i_le c_37
            refine lv_iconst (v := (-1)) C.1 C.2.1 dX12_isToCome_103 (by decide) ?_
            refine lv_istore (lv' := [(4, .int (-1)), (0, .ref (ad 0)), (1, .int r_6), (2, .int r_20), (3, .int r_31)]) C.1 C.2.1 dX12_isToCome_104 hl (by decide) rfl (fun ls hl => ?_)
            have hl : lv_has ls 5 [(0, .ref (ad 0)), (1, .int r_6), (2, .int r_20), (3, .int r_31), (4, .int (-1))] := lv_sub hl [1, 2, 3, 4, 0] rfl
            refine lv_iload C.1 C.2.1 dX12_isToCome_106 (lv_at hl 4 rfl) ?_
            refine lv_iconst (v := (-1)) C.1 C.2.1 dX12_isToCome_108 (by decide) ?_
            refine lv_icmp_eq (tgt := 126) C.1 C.2.1 dX12_isToCome_109 (by decide) (fun _ => ?_) (fun h => absurd (by decide) h)
            refine lv_iconst (v := 1) C.1 C.2.1 dX12_isToCome_126 (by decide) ?_
            refine lv_goto (tgt := 131) C.1 C.2.1 dX12_isToCome_127 (by decide) ?_
            exact g_iret C hr hlocks hP hD hS (by decide) () rfl ⟨by decide, by decide, (show 1 = 1 → (t.1 0 68).toInt < (t.1 0 69).toInt from by omega)⟩ (Nat.le_of_ble_eq_true rfl) (Nat.le_of_ble_eq_true rfl) dX12_isToCome_131
          · replace c_37 : r_6.toInt < (t.1 0 69).toInt := i_nle c_37
            refine lv_aload_n C.1 C.2.1 dX12_isToCome_95 rfl (lv_at hl 0 rfl) ?_
            refine lv_iload_n C.1 C.2.1 dX12_isToCome_96 rfl (lv_at hl 1 rfl) ?_
            refine g_Vi (As := [.int r_6]) (rest := []) C hP hD hS hA (T_X12_letterAt l D K Z Y ad t hok (r_6) (show (1 : Int) ≤ (r_6 : Int32).toInt ∧ (r_6 : Int32).toInt ≤ 100 from ⟨by omega, by omega⟩)) hE hZ (uwV m_31_8 m_31_9 m_31_10 m_1_5 m_31_11) (hdV 1 (by decide +kernel) rfl) ⟨Nat.le_of_ble_eq_true rfl, Nat.le_of_ble_eq_true rfl⟩ rfl rfl (ci := 11) (q0 := 0) rfl rfl rfl hl.1 (Nat.le_of_ble_eq_true rfl) dX12_isToCome_97 ⟨Nat.le_of_ble_eq_true rfl, Nat.le_of_ble_eq_true rfl⟩ (fun r_39 t_38 H locs hw hP hD hS => ?_)
            obtain ⟨h_41, h_42, p_43, p_44, p_45, p_46⟩ := hw
            replace p_43 : r_39 = fLet t r_6 := p_43
            replace p_44 : r_39.toInt = (fLet t r_6).toInt := p_44
            replace p_45 : ¬ r_39.toInt = 32 → (t.2.2.1 19 ((t.1 0 67) : Int32).toNatClampNeg).toInt + r_6.toInt ≤ (t.2.2.1 20 ((t.1 0 67) : Int32).toNatClampNeg).toInt := p_45
            replace p_46 : 81 ≤ r_6.toInt → r_39.toInt = 32 := p_46
            refine lv_goto (tgt := 104) C.1 C.2.1 dX12_isToCome_100 (by decide) ?_
            refine lv_istore (lv' := [(4, .int r_39), (0, .ref (ad 0)), (1, .int r_6), (2, .int r_20), (3, .int r_31)]) C.1 C.2.1 dX12_isToCome_104 hl (by decide) rfl (fun ls hl => ?_)
            have hl : lv_has ls 5 [(0, .ref (ad 0)), (1, .int r_6), (2, .int r_20), (3, .int r_31), (4, .int r_39)] := lv_sub hl [1, 2, 3, 4, 0] rfl
            refine lv_iload C.1 C.2.1 dX12_isToCome_106 (lv_at hl 4 rfl) ?_
            refine lv_iconst (v := (-1)) C.1 C.2.1 dX12_isToCome_108 (by decide) ?_
            refine lv_icmp_eq (tgt := 126) C.1 C.2.1 dX12_isToCome_109 (by decide) (fun c_47 => False.elim (by have c_47 : r_39.toInt = (-1) := i_eq c_47; omega)) (fun c_47 => ?_)
            replace c_47 : ¬ r_39.toInt = (-1) := i_ne c_47
            refine lv_iload C.1 C.2.1 dX12_isToCome_112 (lv_at hl 4 rfl) ?_
            refine lv_bipush (v := 44) C.1 C.2.1 dX12_isToCome_114 (by decide) ?_
            refine lv_icmp_eq (tgt := 126) C.1 C.2.1 dX12_isToCome_116 (by decide) (fun c_48 => ?_) (fun c_48 => ?_)
            · replace c_48 : r_39.toInt = 44 := i_eq c_48
              refine lv_iconst (v := 1) C.1 C.2.1 dX12_isToCome_126 (by decide) ?_
              refine lv_goto (tgt := 131) C.1 C.2.1 dX12_isToCome_127 (by decide) ?_
              exact g_iret C hr hlocks hP hD hS (by decide) () rfl ⟨by decide, by decide, (show 1 = 1 → (t.1 0 68).toInt < (t.1 0 69).toInt from by omega)⟩ (Nat.le_of_ble_eq_true rfl) (Nat.le_of_ble_eq_true rfl) dX12_isToCome_131
            · replace c_48 : ¬ r_39.toInt = 44 := i_ne c_48
              refine lv_iload C.1 C.2.1 dX12_isToCome_119 (lv_at hl 4 rfl) ?_
              refine lv_bipush (v := 40) C.1 C.2.1 dX12_isToCome_121 (by decide) ?_
              refine lv_icmp_ne (tgt := 130) C.1 C.2.1 dX12_isToCome_123 (by decide) (fun c_49 => ?_) (fun c_49 => ?_)
              · replace c_49 : ¬ r_39.toInt = 40 := i_ne c_49
                refine lv_iconst (v := 0) C.1 C.2.1 dX12_isToCome_130 (by decide) ?_
                exact g_iret C hr hlocks hP hD hS (by decide) () rfl ⟨by decide, by decide, (show 0 = 1 → (t.1 0 68).toInt < (t.1 0 69).toInt from by omega)⟩ (Nat.le_of_ble_eq_true rfl) (Nat.le_of_ble_eq_true rfl) dX12_isToCome_131
              · replace c_49 : r_39.toInt = 40 := i_eq c_49
                refine lv_iconst (v := 1) C.1 C.2.1 dX12_isToCome_126 (by decide) ?_
                refine lv_goto (tgt := 131) C.1 C.2.1 dX12_isToCome_127 (by decide) ?_
                exact g_iret C hr hlocks hP hD hS (by decide) () rfl ⟨by decide, by decide, (show 1 = 1 → (t.1 0 68).toInt < (t.1 0 69).toInt from by omega)⟩ (Nat.le_of_ble_eq_true rfl) (Nat.le_of_ble_eq_true rfl) dX12_isToCome_131
        · replace c_36 : ¬ r_31.toInt = (-1) := i_ne c_36
          refine lv_aload_n C.1 C.2.1 dX12_isToCome_76 rfl (lv_at hl 0 rfl) ?_
          refine k_get (v := .ref (ad 25)) C hP 0 rfl rfl inlX12 55 (by decide) m_8_9 rfl dX12_isToCome_77 ?_
          refine lv_iload_n C.1 C.2.1 dX12_isToCome_80 rfl (lv_at hl 3 rfl) ?_
          obtain ⟨v_50, e_51⟩ : ∃ z, z = (t.2.2.1 25 (r_31 : Int32).toNatClampNeg) := ⟨_, rfl⟩
          have h_52 : (0 : Int) ≤ v_50.toInt ∧ v_50.toInt ≤ 1 := by rw [e_51]; exact hok.2.1 25 _
          refine k_zld (v := v_50) C hP 25 rfl (vp_in_iff.mpr ⟨by omega, by omega⟩) e_51.symm dX12_isToCome_81 ?_
          refine lv_if_eq (tgt := 87) C.1 C.2.1 dX12_isToCome_82 (by decide) (fun c_53 => ?_) (fun c_53 => ?_)
          · replace c_53 : v_50.toInt = 0 := i_eq c_53
            refine lv_iload_n C.1 C.2.1 dX12_isToCome_87 rfl (lv_at hl 1 rfl) ?_
            refine lv_aload_n C.1 C.2.1 dX12_isToCome_88 rfl (lv_at hl 0 rfl) ?_
            refine k_get (v := .int (t.1 0 69)) C hP 0 rfl rfl inlX12 69 (by decide) m_31_7 rfl dX12_isToCome_89 ?_
            refine lv_icmp_ge (tgt := 103) C.1 C.2.1 dX12_isToCome_92 (by decide) (fun c_54 => ?_) (fun c_54 => ?_)
            · replace c_54 : (t.1 0 69).toInt ≤ r_6.toInt := i_le c_54
              refine lv_iconst (v := (-1)) C.1 C.2.1 dX12_isToCome_103 (by decide) ?_
              refine lv_istore (lv' := [(4, .int (-1)), (0, .ref (ad 0)), (1, .int r_6), (2, .int r_20), (3, .int r_31)]) C.1 C.2.1 dX12_isToCome_104 hl (by decide) rfl (fun ls hl => ?_)
              have hl : lv_has ls 5 [(0, .ref (ad 0)), (1, .int r_6), (2, .int r_20), (3, .int r_31), (4, .int (-1))] := lv_sub hl [1, 2, 3, 4, 0] rfl
              refine lv_iload C.1 C.2.1 dX12_isToCome_106 (lv_at hl 4 rfl) ?_
              refine lv_iconst (v := (-1)) C.1 C.2.1 dX12_isToCome_108 (by decide) ?_
              refine lv_icmp_eq (tgt := 126) C.1 C.2.1 dX12_isToCome_109 (by decide) (fun _ => ?_) (fun h => absurd (by decide) h)
              refine lv_iconst (v := 1) C.1 C.2.1 dX12_isToCome_126 (by decide) ?_
              refine lv_goto (tgt := 131) C.1 C.2.1 dX12_isToCome_127 (by decide) ?_
              exact g_iret C hr hlocks hP hD hS (by decide) () rfl ⟨by decide, by decide, (show 1 = 1 → (t.1 0 68).toInt < (t.1 0 69).toInt from by omega)⟩ (Nat.le_of_ble_eq_true rfl) (Nat.le_of_ble_eq_true rfl) dX12_isToCome_131
            · replace c_54 : r_6.toInt < (t.1 0 69).toInt := i_nle c_54
              refine lv_aload_n C.1 C.2.1 dX12_isToCome_95 rfl (lv_at hl 0 rfl) ?_
              refine lv_iload_n C.1 C.2.1 dX12_isToCome_96 rfl (lv_at hl 1 rfl) ?_
              refine g_Vi (As := [.int r_6]) (rest := []) C hP hD hS hA (T_X12_letterAt l D K Z Y ad t hok (r_6) (show (1 : Int) ≤ (r_6 : Int32).toInt ∧ (r_6 : Int32).toInt ≤ 100 from ⟨by omega, by omega⟩)) hE hZ (uwV m_31_8 m_31_9 m_31_10 m_1_5 m_31_11) (hdV 1 (by decide +kernel) rfl) ⟨Nat.le_of_ble_eq_true rfl, Nat.le_of_ble_eq_true rfl⟩ rfl rfl (ci := 11) (q0 := 0) rfl rfl rfl hl.1 (Nat.le_of_ble_eq_true rfl) dX12_isToCome_97 ⟨Nat.le_of_ble_eq_true rfl, Nat.le_of_ble_eq_true rfl⟩ (fun r_56 t_55 H locs hw hP hD hS => ?_)
              obtain ⟨h_58, h_59, p_60, p_61, p_62, p_63⟩ := hw
              replace p_60 : r_56 = fLet t r_6 := p_60
              replace p_61 : r_56.toInt = (fLet t r_6).toInt := p_61
              replace p_62 : ¬ r_56.toInt = 32 → (t.2.2.1 19 ((t.1 0 67) : Int32).toNatClampNeg).toInt + r_6.toInt ≤ (t.2.2.1 20 ((t.1 0 67) : Int32).toNatClampNeg).toInt := p_62
              replace p_63 : 81 ≤ r_6.toInt → r_56.toInt = 32 := p_63
              refine lv_goto (tgt := 104) C.1 C.2.1 dX12_isToCome_100 (by decide) ?_
              refine lv_istore (lv' := [(4, .int r_56), (0, .ref (ad 0)), (1, .int r_6), (2, .int r_20), (3, .int r_31)]) C.1 C.2.1 dX12_isToCome_104 hl (by decide) rfl (fun ls hl => ?_)
              have hl : lv_has ls 5 [(0, .ref (ad 0)), (1, .int r_6), (2, .int r_20), (3, .int r_31), (4, .int r_56)] := lv_sub hl [1, 2, 3, 4, 0] rfl
              refine lv_iload C.1 C.2.1 dX12_isToCome_106 (lv_at hl 4 rfl) ?_
              refine lv_iconst (v := (-1)) C.1 C.2.1 dX12_isToCome_108 (by decide) ?_
              refine lv_icmp_eq (tgt := 126) C.1 C.2.1 dX12_isToCome_109 (by decide) (fun c_64 => False.elim (by have c_64 : r_56.toInt = (-1) := i_eq c_64; omega)) (fun c_64 => ?_)
              replace c_64 : ¬ r_56.toInt = (-1) := i_ne c_64
              refine lv_iload C.1 C.2.1 dX12_isToCome_112 (lv_at hl 4 rfl) ?_
              refine lv_bipush (v := 44) C.1 C.2.1 dX12_isToCome_114 (by decide) ?_
              refine lv_icmp_eq (tgt := 126) C.1 C.2.1 dX12_isToCome_116 (by decide) (fun c_65 => ?_) (fun c_65 => ?_)
              · replace c_65 : r_56.toInt = 44 := i_eq c_65
                refine lv_iconst (v := 1) C.1 C.2.1 dX12_isToCome_126 (by decide) ?_
                refine lv_goto (tgt := 131) C.1 C.2.1 dX12_isToCome_127 (by decide) ?_
                exact g_iret C hr hlocks hP hD hS (by decide) () rfl ⟨by decide, by decide, (show 1 = 1 → (t.1 0 68).toInt < (t.1 0 69).toInt from by omega)⟩ (Nat.le_of_ble_eq_true rfl) (Nat.le_of_ble_eq_true rfl) dX12_isToCome_131
              · replace c_65 : ¬ r_56.toInt = 44 := i_ne c_65
                refine lv_iload C.1 C.2.1 dX12_isToCome_119 (lv_at hl 4 rfl) ?_
                refine lv_bipush (v := 40) C.1 C.2.1 dX12_isToCome_121 (by decide) ?_
                refine lv_icmp_ne (tgt := 130) C.1 C.2.1 dX12_isToCome_123 (by decide) (fun c_66 => ?_) (fun c_66 => ?_)
                · replace c_66 : ¬ r_56.toInt = 40 := i_ne c_66
                  refine lv_iconst (v := 0) C.1 C.2.1 dX12_isToCome_130 (by decide) ?_
                  exact g_iret C hr hlocks hP hD hS (by decide) () rfl ⟨by decide, by decide, (show 0 = 1 → (t.1 0 68).toInt < (t.1 0 69).toInt from by omega)⟩ (Nat.le_of_ble_eq_true rfl) (Nat.le_of_ble_eq_true rfl) dX12_isToCome_131
                · replace c_66 : r_56.toInt = 40 := i_eq c_66
                  refine lv_iconst (v := 1) C.1 C.2.1 dX12_isToCome_126 (by decide) ?_
                  refine lv_goto (tgt := 131) C.1 C.2.1 dX12_isToCome_127 (by decide) ?_
                  exact g_iret C hr hlocks hP hD hS (by decide) () rfl ⟨by decide, by decide, (show 1 = 1 → (t.1 0 68).toInt < (t.1 0 69).toInt from by omega)⟩ (Nat.le_of_ble_eq_true rfl) (Nat.le_of_ble_eq_true rfl) dX12_isToCome_131
          · replace c_53 : ¬ v_50.toInt = 0 := i_ne c_53
            refine lv_iconst (v := 0) C.1 C.2.1 dX12_isToCome_85 (by decide) ?_
            exact g_iret C hr hlocks hP hD hS (by decide) () rfl ⟨by decide, by decide, (show 0 = 1 → (t.1 0 68).toInt < (t.1 0 69).toInt from by omega)⟩ (Nat.le_of_ble_eq_true rfl) (Nat.le_of_ble_eq_true rfl) dX12_isToCome_86
      · replace c_25 : ¬ r_20.toInt = 0 := i_ne c_25
        refine lv_iload_n C.1 C.2.1 dX12_isToCome_41 rfl (lv_at hl 2 rfl) ?_
        refine lv_bipush (v := 70) C.1 C.2.1 dX12_isToCome_42 (by decide) ?_
        refine lv_icmp_eq (tgt := 49) C.1 C.2.1 dX12_isToCome_44 (by decide) (fun c_67 => ?_) (fun c_67 => ?_)
        · replace c_67 : r_20.toInt = 70 := i_eq c_67
          refine lv_iload_n C.1 C.2.1 dX12_isToCome_49 rfl (lv_at hl 2 rfl) ?_
          refine lv_if_ne (tgt := 69) C.1 C.2.1 dX12_isToCome_50 (by decide) (fun c_68 => ?_) (fun c_68 => False.elim (by have c_68 : r_20.toInt = 0 := i_eq c_68; omega))
          replace c_68 : ¬ r_20.toInt = 0 := i_ne c_68
          refine lv_iconst (v := (-1)) C.1 C.2.1 dX12_isToCome_69 (by decide) ?_
          refine lv_istore_n (lv' := [(3, .int (-1)), (0, .ref (ad 0)), (1, .int r_6), (2, .int r_20)]) C.1 C.2.1 dX12_isToCome_70 rfl hl (by decide) rfl (fun ls hl => ?_)
          have hl : lv_has ls 5 [(0, .ref (ad 0)), (1, .int r_6), (2, .int r_20), (3, .int (-1))] := lv_sub hl [1, 2, 3, 0] rfl
          refine lv_iload_n C.1 C.2.1 dX12_isToCome_71 rfl (lv_at hl 3 rfl) ?_
          refine lv_iconst (v := (-1)) C.1 C.2.1 dX12_isToCome_72 (by decide) ?_
          refine lv_icmp_eq (tgt := 87) C.1 C.2.1 dX12_isToCome_73 (by decide) (fun _ => ?_) (fun h => absurd (by decide) h)
          refine lv_iload_n C.1 C.2.1 dX12_isToCome_87 rfl (lv_at hl 1 rfl) ?_
          refine lv_aload_n C.1 C.2.1 dX12_isToCome_88 rfl (lv_at hl 0 rfl) ?_
          refine k_get (v := .int (t.1 0 69)) C hP 0 rfl rfl inlX12 69 (by decide) m_31_7 rfl dX12_isToCome_89 ?_
          refine lv_icmp_ge (tgt := 103) C.1 C.2.1 dX12_isToCome_92 (by decide) (fun c_69 => ?_) (fun c_69 => ?_)
          · replace c_69 : (t.1 0 69).toInt ≤ r_6.toInt := i_le c_69
            refine lv_iconst (v := (-1)) C.1 C.2.1 dX12_isToCome_103 (by decide) ?_
            refine lv_istore (lv' := [(4, .int (-1)), (0, .ref (ad 0)), (1, .int r_6), (2, .int r_20), (3, .int (-1))]) C.1 C.2.1 dX12_isToCome_104 hl (by decide) rfl (fun ls hl => ?_)
            have hl : lv_has ls 5 [(0, .ref (ad 0)), (1, .int r_6), (2, .int r_20), (3, .int (-1)), (4, .int (-1))] := lv_sub hl [1, 2, 3, 4, 0] rfl
            refine lv_iload C.1 C.2.1 dX12_isToCome_106 (lv_at hl 4 rfl) ?_
            refine lv_iconst (v := (-1)) C.1 C.2.1 dX12_isToCome_108 (by decide) ?_
            refine lv_icmp_eq (tgt := 126) C.1 C.2.1 dX12_isToCome_109 (by decide) (fun _ => ?_) (fun h => absurd (by decide) h)
            refine lv_iconst (v := 1) C.1 C.2.1 dX12_isToCome_126 (by decide) ?_
            refine lv_goto (tgt := 131) C.1 C.2.1 dX12_isToCome_127 (by decide) ?_
            exact g_iret C hr hlocks hP hD hS (by decide) () rfl ⟨by decide, by decide, (show 1 = 1 → (t.1 0 68).toInt < (t.1 0 69).toInt from by omega)⟩ (Nat.le_of_ble_eq_true rfl) (Nat.le_of_ble_eq_true rfl) dX12_isToCome_131
          · replace c_69 : r_6.toInt < (t.1 0 69).toInt := i_nle c_69
            refine lv_aload_n C.1 C.2.1 dX12_isToCome_95 rfl (lv_at hl 0 rfl) ?_
            refine lv_iload_n C.1 C.2.1 dX12_isToCome_96 rfl (lv_at hl 1 rfl) ?_
            refine g_Vi (As := [.int r_6]) (rest := []) C hP hD hS hA (T_X12_letterAt l D K Z Y ad t hok (r_6) (show (1 : Int) ≤ (r_6 : Int32).toInt ∧ (r_6 : Int32).toInt ≤ 100 from ⟨by omega, by omega⟩)) hE hZ (uwV m_31_8 m_31_9 m_31_10 m_1_5 m_31_11) (hdV 1 (by decide +kernel) rfl) ⟨Nat.le_of_ble_eq_true rfl, Nat.le_of_ble_eq_true rfl⟩ rfl rfl (ci := 11) (q0 := 0) rfl rfl rfl hl.1 (Nat.le_of_ble_eq_true rfl) dX12_isToCome_97 ⟨Nat.le_of_ble_eq_true rfl, Nat.le_of_ble_eq_true rfl⟩ (fun r_71 t_70 H locs hw hP hD hS => ?_)
            obtain ⟨h_73, h_74, p_75, p_76, p_77, p_78⟩ := hw
            replace p_75 : r_71 = fLet t r_6 := p_75
            replace p_76 : r_71.toInt = (fLet t r_6).toInt := p_76
            replace p_77 : ¬ r_71.toInt = 32 → (t.2.2.1 19 ((t.1 0 67) : Int32).toNatClampNeg).toInt + r_6.toInt ≤ (t.2.2.1 20 ((t.1 0 67) : Int32).toNatClampNeg).toInt := p_77
            replace p_78 : 81 ≤ r_6.toInt → r_71.toInt = 32 := p_78
            refine lv_goto (tgt := 104) C.1 C.2.1 dX12_isToCome_100 (by decide) ?_
            refine lv_istore (lv' := [(4, .int r_71), (0, .ref (ad 0)), (1, .int r_6), (2, .int r_20), (3, .int (-1))]) C.1 C.2.1 dX12_isToCome_104 hl (by decide) rfl (fun ls hl => ?_)
            have hl : lv_has ls 5 [(0, .ref (ad 0)), (1, .int r_6), (2, .int r_20), (3, .int (-1)), (4, .int r_71)] := lv_sub hl [1, 2, 3, 4, 0] rfl
            refine lv_iload C.1 C.2.1 dX12_isToCome_106 (lv_at hl 4 rfl) ?_
            refine lv_iconst (v := (-1)) C.1 C.2.1 dX12_isToCome_108 (by decide) ?_
            refine lv_icmp_eq (tgt := 126) C.1 C.2.1 dX12_isToCome_109 (by decide) (fun c_79 => False.elim (by have c_79 : r_71.toInt = (-1) := i_eq c_79; omega)) (fun c_79 => ?_)
            replace c_79 : ¬ r_71.toInt = (-1) := i_ne c_79
            refine lv_iload C.1 C.2.1 dX12_isToCome_112 (lv_at hl 4 rfl) ?_
            refine lv_bipush (v := 44) C.1 C.2.1 dX12_isToCome_114 (by decide) ?_
            refine lv_icmp_eq (tgt := 126) C.1 C.2.1 dX12_isToCome_116 (by decide) (fun c_80 => ?_) (fun c_80 => ?_)
            · replace c_80 : r_71.toInt = 44 := i_eq c_80
              refine lv_iconst (v := 1) C.1 C.2.1 dX12_isToCome_126 (by decide) ?_
              refine lv_goto (tgt := 131) C.1 C.2.1 dX12_isToCome_127 (by decide) ?_
              exact g_iret C hr hlocks hP hD hS (by decide) () rfl ⟨by decide, by decide, (show 1 = 1 → (t.1 0 68).toInt < (t.1 0 69).toInt from by omega)⟩ (Nat.le_of_ble_eq_true rfl) (Nat.le_of_ble_eq_true rfl) dX12_isToCome_131
            · replace c_80 : ¬ r_71.toInt = 44 := i_ne c_80
              refine lv_iload C.1 C.2.1 dX12_isToCome_119 (lv_at hl 4 rfl) ?_
              refine lv_bipush (v := 40) C.1 C.2.1 dX12_isToCome_121 (by decide) ?_
              refine lv_icmp_ne (tgt := 130) C.1 C.2.1 dX12_isToCome_123 (by decide) (fun c_81 => ?_) (fun c_81 => ?_)
              · replace c_81 : ¬ r_71.toInt = 40 := i_ne c_81
                refine lv_iconst (v := 0) C.1 C.2.1 dX12_isToCome_130 (by decide) ?_
                exact g_iret C hr hlocks hP hD hS (by decide) () rfl ⟨by decide, by decide, (show 0 = 1 → (t.1 0 68).toInt < (t.1 0 69).toInt from by omega)⟩ (Nat.le_of_ble_eq_true rfl) (Nat.le_of_ble_eq_true rfl) dX12_isToCome_131
              · replace c_81 : r_71.toInt = 40 := i_eq c_81
                refine lv_iconst (v := 1) C.1 C.2.1 dX12_isToCome_126 (by decide) ?_
                refine lv_goto (tgt := 131) C.1 C.2.1 dX12_isToCome_127 (by decide) ?_
                exact g_iret C hr hlocks hP hD hS (by decide) () rfl ⟨by decide, by decide, (show 1 = 1 → (t.1 0 68).toInt < (t.1 0 69).toInt from by omega)⟩ (Nat.le_of_ble_eq_true rfl) (Nat.le_of_ble_eq_true rfl) dX12_isToCome_131
        · replace c_67 : ¬ r_20.toInt = 70 := i_ne c_67
          refine lv_iconst (v := 0) C.1 C.2.1 dX12_isToCome_47 (by decide) ?_
          exact g_iret C hr hlocks hP hD hS (by decide) () rfl ⟨by decide, by decide, (show 0 = 1 → (t.1 0 68).toInt < (t.1 0 69).toInt from by omega)⟩ (Nat.le_of_ble_eq_true rfl) (Nat.le_of_ble_eq_true rfl) dX12_isToCome_48
    · replace c_18 : r_14.toInt = 0 := i_eq c_18
      refine lv_iconst (v := 0) C.1 C.2.1 dX12_isToCome_25 (by decide) ?_
      exact g_iret C hr hlocks hP hD hS (by decide) () rfl ⟨by decide, by decide, (show 0 = 1 → (t.1 0 68).toInt < (t.1 0 69).toInt from by omega)⟩ (Nat.le_of_ble_eq_true rfl) (Nat.le_of_ble_eq_true rfl) dX12_isToCome_26

theorem dX12_begins_0 : decode cX12_begins 0 = .ok (.aload_n 0, 1) := by decide +kernel
theorem dX12_begins_1 : decode cX12_begins 1 = .ok (.getfield 27, 3) := by decide +kernel
theorem dX12_begins_10 : decode cX12_begins 10 = .ok (.lcmp, 1) := by decide +kernel
theorem dX12_begins_11 : decode cX12_begins 11 = .ok (.ifCond .le 12, 3) := by decide +kernel
theorem dX12_begins_14 : decode cX12_begins 14 = .ok (.aload_n 0, 1) := by decide +kernel
theorem dX12_begins_15 : decode cX12_begins 15 = .ok (.getfield 27, 3) := by decide +kernel
theorem dX12_begins_18 : decode cX12_begins 18 = .ok (.iload_n 2, 1) := by decide +kernel
theorem dX12_begins_19 : decode cX12_begins 19 = .ok (.laload, 1) := by decide +kernel
theorem dX12_begins_20 : decode cX12_begins 20 = .ok (.goto 7, 3) := by decide +kernel
theorem dX12_begins_23 : decode cX12_begins 23 = .ok (.aload_n 0, 1) := by decide +kernel
theorem dX12_begins_24 : decode cX12_begins 24 = .ok (.getfield 272, 3) := by decide +kernel
theorem dX12_begins_27 : decode cX12_begins 27 = .ok (.lstore_n 3, 1) := by decide +kernel
theorem dX12_begins_28 : decode cX12_begins 28 = .ok (.aload_n 0, 1) := by decide +kernel
theorem dX12_begins_29 : decode cX12_begins 29 = .ok (.lload_n 3, 1) := by decide +kernel
theorem dX12_begins_30 : decode cX12_begins 30 = .ok (.invokevirtual 222, 3) := by decide +kernel
theorem dX12_begins_33 : decode cX12_begins 33 = .ok (.aload_n 0, 1) := by decide +kernel
theorem dX12_begins_34 : decode cX12_begins 34 = .ok (.iload_n 1, 1) := by decide +kernel
theorem dX12_begins_35 : decode cX12_begins 35 = .ok (.iload_n 2, 1) := by decide +kernel
theorem dX12_begins_36 : decode cX12_begins 36 = .ok (.invokevirtual 276, 3) := by decide +kernel
theorem dX12_begins_39 : decode cX12_begins 39 = .ok (.aload_n 0, 1) := by decide +kernel
theorem dX12_begins_4 : decode cX12_begins 4 = .ok (.iload_n 2, 1) := by decide +kernel
theorem dX12_begins_40 : decode cX12_begins 40 = .ok (.getfield 35, 3) := by decide +kernel
theorem dX12_begins_43 : decode cX12_begins 43 = .ok (.iload_n 2, 1) := by decide +kernel
theorem dX12_begins_44 : decode cX12_begins 44 = .ok (.lload_n 3, 1) := by decide +kernel
theorem dX12_begins_45 : decode cX12_begins 45 = .ok (.lastore, 1) := by decide +kernel
theorem dX12_begins_46 : decode cX12_begins 46 = .ok (.aload_n 0, 1) := by decide +kernel
theorem dX12_begins_47 : decode cX12_begins 47 = .ok (.getfield 27, 3) := by decide +kernel
theorem dX12_begins_5 : decode cX12_begins 5 = .ok (.laload, 1) := by decide +kernel
theorem dX12_begins_50 : decode cX12_begins 50 = .ok (.iload_n 2, 1) := by decide +kernel
theorem dX12_begins_51 : decode cX12_begins 51 = .ok (.lload_n 3, 1) := by decide +kernel
theorem dX12_begins_52 : decode cX12_begins 52 = .ok (.iload_n 2, 1) := by decide +kernel
theorem dX12_begins_53 : decode cX12_begins 53 = .ok (.invokestatic 279, 3) := by decide +kernel
theorem dX12_begins_56 : decode cX12_begins 56 = .ok (.i2l, 1) := by decide +kernel
theorem dX12_begins_57 : decode cX12_begins 57 = .ok (.ladd, 1) := by decide +kernel
theorem dX12_begins_58 : decode cX12_begins 58 = .ok (.lastore, 1) := by decide +kernel
theorem dX12_begins_59 : decode cX12_begins 59 = .ok (.return_, 1) := by decide +kernel
theorem dX12_begins_6 : decode cX12_begins 6 = .ok (.aload_n 0, 1) := by decide +kernel
theorem dX12_begins_7 : decode cX12_begins 7 = .ok (.getfield 272, 3) := by decide +kernel
set_option maxHeartbeats 4000000 in
set_option maxRecDepth 100000 in
theorem T_X12_begins (l : Launch) (D : va_G) (K : Nat → ClassId) (Z Y : Nat → Nat) (ad : Nat → Nat) (t : tSt) (hok : okM t) (x1 : Int32) (hx1 : (35 : Int) ≤ x1.toInt ∧ x1.toInt ≤ 37) (x2 : Int32) (hx2 : (0 : Int) ≤ x2.toInt ∧ x2.toInt ≤ 19) (hs0 : gdA x1 x2 (t.1 0 18) (t.2.2.1 3)) (hs1 : gdU x1 x2 (t.2.2.1 3) (t.2.2.1 9) (t.1 0 35) (t.1 0 36)) (hs2 : (t.1 0 12).toInt = 1 → (t.2.1 0 8).toInt + 1 ≤ (t.2.1 0 13).toInt ∧ (t.2.2.2 4 (x2 : Int32).toNatClampNeg).toInt + 1 ≤ (t.2.1 0 13).toInt) : tMet l yX12_begins cX12_begins 5 none (rmD 9 0 0) D K Z Y [.ref (ad 0), .int x1, .int x2] (WM K ad t) (QV D K (fun (u : tSt) => okM u ∧ frA [(0, 30), (0, 35)] [] [2, 5, 7, 8, 9, 10, 11, 12, 13, 14] [4, 6] t u) (fun (u : tSt) => WM K ad u)) 0 0 := by
  refine t_met RX12 ⟨rfl, by decide +kernel⟩ (Nat.le_of_ble_eq_true rfl) ?_
  intro p e s m below meth c A ls C hE hZ hr hlocks hA hP hD hS hl
  have hl : lv_has ls 5 [(0, .ref (ad 0)), (1, .int x1), (2, .int x2)] := hl
  have hokt := hok
  have hfr : frA [(0, 30), (0, 35)] [] [2, 5, 7, 8, 9, 10, 11, 12, 13, 14] [4, 6] t t := frA_rf
  have h_1 : (0 : Int) ≤ (t.1 0 12).toInt ∧ (t.1 0 12).toInt ≤ 1 := hok.1 0 12
  have h_2 : (0 : Int) ≤ (t.1 0 35).toInt ∧ (t.1 0 35).toInt ≤ 1700 := hok.1 0 35
  have h_3 : (0 : Int) ≤ (t.1 0 36).toInt ∧ (t.1 0 36).toInt ≤ 1700 := hok.1 0 36
  have hj0 : (-2147483648 ≤ (t.2.1 0 13).toInt ∧ (t.2.1 0 13).toInt ≤ 2147483647) ∧ ((t.1 0 12).toInt = 1 → 0 ≤ (t.2.1 0 8).toInt ∧ ((t.2.1 0 8).toInt ≤ (t.2.1 0 13).toInt ∨ (t.2.1 0 8).toInt = 0)) := jM_n hok.2.2.2.2.2.2.1
  refine lv_aload_n C.1 C.2.1 dX12_begins_0 rfl (lv_at hl 0 rfl) ?_
  refine k_get (v := .ref (ad 4)) C hP 0 rfl rfl inlX12 19 (by decide) m_7_9 rfl dX12_begins_1 ?_
  refine lv_iload_n C.1 C.2.1 dX12_begins_4 rfl (lv_at hl 2 rfl) ?_
  refine k_lld (v := (t.2.2.2 4 (x2 : Int32).toNatClampNeg)) C hP 4 rfl (vp_in_iff.mpr ⟨by omega, by omega⟩) rfl dX12_begins_5 ?_
  refine lv_aload_n C.1 C.2.1 dX12_begins_6 rfl (lv_at hl 0 rfl) ?_
  refine k_get (v := .long (t.2.1 0 8)) C hP 0 rfl rfl inlX12 8 (by decide) m_29_23 rfl dX12_begins_7 ?_
  obtain ⟨v_4, e_5⟩ : ∃ z, z = lg_cmp ((t.2.2.2 4 (x2 : Int32).toNatClampNeg) : Int64) (t.2.1 0 8) := ⟨_, rfl⟩
  have h_6 : (-1 : Int) ≤ v_4.toInt ∧ v_4.toInt ≤ 1 := by rw [e_5]; exact cmp_rng _ _
  have h_7 : (v_4.toInt < 0 ↔ (t.2.2.2 4 (x2 : Int32).toNatClampNeg).toInt < (t.2.1 0 8).toInt) ∧ (v_4.toInt = 0 ↔ (t.2.2.2 4 (x2 : Int32).toNatClampNeg).toInt = (t.2.1 0 8).toInt) := by rw [e_5]; exact cmp_iff _ _
  refine k_lcmp (v := v_4) C e_5.symm dX12_begins_10 ?_
  refine lv_if_le (tgt := 23) C.1 C.2.1 dX12_begins_11 (by decide) (fun c_8 => ?_) (fun c_8 => ?_)
  · replace c_8 : v_4.toInt ≤ 0 := i_le c_8
    refine lv_aload_n C.1 C.2.1 dX12_begins_23 rfl (lv_at hl 0 rfl) ?_
    refine k_get (v := .long (t.2.1 0 8)) C hP 0 rfl rfl inlX12 8 (by decide) m_29_23 rfl dX12_begins_24 ?_
    refine lv_lstore_n (lv' := [(3, .long (t.2.1 0 8)), (0, .ref (ad 0)), (1, .int x1), (2, .int x2)]) C.1 C.2.1 dX12_begins_27 rfl hl (by decide) rfl (fun ls hl => ?_)
    have hl : lv_has ls 5 [(0, .ref (ad 0)), (1, .int x1), (2, .int x2), (3, .long (t.2.1 0 8))] := lv_sub hl [1, 2, 3, 0] rfl
    refine lv_aload_n C.1 C.2.1 dX12_begins_28 rfl (lv_at hl 0 rfl) ?_
    refine lv_lload_n C.1 C.2.1 dX12_begins_29 rfl (lv_at hl 3 rfl) ?_
    refine g_Vv (As := [.long (t.2.1 0 8)]) (rest := []) C hP hD hS hA (T_X12_settle l D K Z Y ad t hok ((t.2.1 0 8))) hE hZ (uwV m_56_15 m_56_16 m_56_17 m_1_5 m_56_18) (hdV 1 (by decide +kernel) rfl) ⟨Nat.le_of_ble_eq_true rfl, Nat.le_of_ble_eq_true rfl⟩ rfl rfl (ci := 11) (q0 := 0) rfl rfl rfl hl.1 (Nat.le_of_ble_eq_true rfl) dX12_begins_30 ⟨Nat.le_of_ble_eq_true rfl, Nat.le_of_ble_eq_true rfl⟩ (fun t_9 H locs hw hP hD hS => ?_)
    obtain ⟨hok, f_11⟩ := hw
    have hfr : frA [(0, 30), (0, 35)] [] [2, 5, 7, 8, 9, 10, 11, 12, 13, 14] [4, 6] t t_9 := frA_tr hfr f_11 rfl
    have h_12 : (t_9.2.1 0 8).toInt = (t.2.1 0 8).toInt := tl_eq (f_11.2.1 0 8 rfl)
    have h_13 : (t_9.1 0 12).toInt = (t.1 0 12).toInt := ti_eq (f_11.1 0 12 rfl)
    have h_14 : (t_9.2.1 0 13).toInt = (t.2.1 0 13).toInt := tl_eq (f_11.2.1 0 13 rfl)
    have h_15 : (t_9.1 0 18).toInt = (t.1 0 18).toInt := ti_eq (f_11.1 0 18 rfl)
    have h_16 : (t_9.1 0 35).toInt = (t.1 0 35).toInt := ti_eq (f_11.1 0 35 rfl)
    have h_17 : (t_9.1 0 36).toInt = (t.1 0 36).toInt := ti_eq (f_11.1 0 36 rfl)
    have e_18 : t_9.2.2.1 3 = t.2.2.1 3 := f_11.2.2.1 3 rfl
    have e_19 : t_9.2.2.2 4 = t.2.2.2 4 := f_11.2.2.2 4 rfl
    have e_20 : t_9.2.2.1 9 = t.2.2.1 9 := f_11.2.2.1 9 rfl
    have h_21 : (0 : Int) ≤ (t_9.1 0 12).toInt ∧ (t_9.1 0 12).toInt ≤ 1 := hok.1 0 12
    have h_22 : (0 : Int) ≤ (t_9.1 0 35).toInt ∧ (t_9.1 0 35).toInt ≤ 1700 := hok.1 0 35
    have h_23 : (0 : Int) ≤ (t_9.1 0 36).toInt ∧ (t_9.1 0 36).toInt ≤ 1700 := hok.1 0 36
    refine lv_aload_n C.1 C.2.1 dX12_begins_33 rfl (lv_at hl 0 rfl) ?_
    refine lv_iload_n C.1 C.2.1 dX12_begins_34 rfl (lv_at hl 1 rfl) ?_
    refine lv_iload_n C.1 C.2.1 dX12_begins_35 rfl (lv_at hl 2 rfl) ?_
    refine g_Vv (As := [.int x1, .int x2]) (rest := []) C hP hD hS hA (T_X12_operate l D K Z Y ad t_9 hok (x1) (show (35 : Int) ≤ (x1 : Int32).toInt ∧ (x1 : Int32).toInt ≤ 37 from ⟨by omega, by omega⟩) (x2) (show (0 : Int) ≤ (x2 : Int32).toInt ∧ (x2 : Int32).toInt ≤ 19 from ⟨by omega, by omega⟩) (show gdA x1 x2 (t_9.1 0 18) (t_9.2.2.1 3) from by rw [f_11.1 0 18 rfl, f_11.2.2.1 3 rfl]; exact hs0) (show gdU x1 x2 (t_9.2.2.1 3) (t_9.2.2.1 9) (t_9.1 0 35) (t_9.1 0 36) from by rw [f_11.1 0 35 rfl, f_11.1 0 36 rfl, f_11.2.2.1 3 rfl, f_11.2.2.1 9 rfl]; exact hs1)) hE hZ (uwV m_60_12 m_60_13 m_60_14 m_1_5 m_60_15) (hdV 2 (by decide +kernel) rfl) ⟨Nat.le_of_ble_eq_true rfl, Nat.le_of_ble_eq_true rfl⟩ rfl rfl (ci := 11) (q0 := 0) rfl rfl rfl hl.1 (Nat.le_of_ble_eq_true rfl) dX12_begins_36 ⟨Nat.le_of_ble_eq_true rfl, Nat.le_of_ble_eq_true rfl⟩ (fun t_24 H locs hw hP hD hS => ?_)
    obtain ⟨hok, f_26⟩ := hw
    have hfr : frA [(0, 30), (0, 35)] [] [2, 5, 7, 8, 9, 10, 11, 12, 13, 14] [4, 6] t t_24 := frA_tr hfr f_26 rfl
    have h_27 : (t_24.2.1 0 8).toInt = (t_9.2.1 0 8).toInt := tl_eq (f_26.2.1 0 8 rfl)
    have h_28 : (t_24.1 0 12).toInt = (t_9.1 0 12).toInt := ti_eq (f_26.1 0 12 rfl)
    have h_29 : (t_24.2.1 0 13).toInt = (t_9.2.1 0 13).toInt := tl_eq (f_26.2.1 0 13 rfl)
    have h_30 : (t_24.1 0 18).toInt = (t_9.1 0 18).toInt := ti_eq (f_26.1 0 18 rfl)
    have h_31 : (t_24.1 0 36).toInt = (t_9.1 0 36).toInt := ti_eq (f_26.1 0 36 rfl)
    have e_32 : t_24.2.2.1 3 = t.2.2.1 3 := (f_26.2.2.1 3 rfl).trans (e_18)
    have e_33 : t_24.2.2.2 4 = t.2.2.2 4 := (f_26.2.2.2 4 rfl).trans (e_19)
    have h_34 : (0 : Int) ≤ (t_24.1 0 12).toInt ∧ (t_24.1 0 12).toInt ≤ 1 := hok.1 0 12
    have h_35 : (0 : Int) ≤ (t_24.1 0 35).toInt ∧ (t_24.1 0 35).toInt ≤ 1700 := hok.1 0 35
    have h_36 : (0 : Int) ≤ (t_24.1 0 36).toInt ∧ (t_24.1 0 36).toInt ≤ 1700 := hok.1 0 36
    refine lv_aload_n C.1 C.2.1 dX12_begins_39 rfl (lv_at hl 0 rfl) ?_
    refine k_get (v := .ref (ad 6)) C hP 0 rfl rfl inlX12 21 (by decide) m_7_11 rfl dX12_begins_40 ?_
    refine lv_iload_n C.1 C.2.1 dX12_begins_43 rfl (lv_at hl 2 rfl) ?_
    refine lv_lload_n C.1 C.2.1 dX12_begins_44 rfl (lv_at hl 3 rfl) ?_
    refine k_lst (ws' := WM K ad (uG t_24 6 (x2 : Int32).toNatClampNeg (t.2.1 0 8))) (x' := (t.2.1 0 8)) C hP hD hS 6 rfl (vp_in_iff.mpr ⟨by omega, by omega⟩) rfl rfl rfl dX12_begins_45 (fun H locs hP hD hS => ?_)
    have hok : okM (uG t_24 6 (x2 : Int32).toNatClampNeg (t.2.1 0 8)) := ⟨hok.1, hok.2.1, hok.2.2.1, hok.2.2.2.1, hok.2.2.2.2.1, hok.2.2.2.2.2.1, hok.2.2.2.2.2.2.1, trivial⟩
    have hfr : frA [(0, 30), (0, 35)] [] [2, 5, 7, 8, 9, 10, 11, 12, 13, 14] [4, 6] t (uG t_24 6 (x2 : Int32).toNatClampNeg (t.2.1 0 8)) := frA_G hfr 6 _ _ rfl
    refine lv_aload_n C.1 C.2.1 dX12_begins_46 rfl (lv_at hl 0 rfl) ?_
    refine k_get (v := .ref (ad 4)) C hP 0 rfl rfl inlX12 19 (by decide) m_7_9 rfl dX12_begins_47 ?_
    refine lv_iload_n C.1 C.2.1 dX12_begins_50 rfl (lv_at hl 2 rfl) ?_
    refine lv_lload_n C.1 C.2.1 dX12_begins_51 rfl (lv_at hl 3 rfl) ?_
    refine lv_iload_n C.1 C.2.1 dX12_begins_52 rfl (lv_at hl 2 rfl) ?_
    refine g_Si (As := [.int x2]) (rest := [.long (t.2.1 0 8), .int x2, .ref (ad 4)]) C hP hD hS hA (T_X12_takes l D K Z Y ad (uG t_24 6 (x2 : Int32).toNatClampNeg (t.2.1 0 8)) hok (x2) (show (0 : Int) ≤ (x2 : Int32).toInt ∧ (x2 : Int32).toInt ≤ 19 from ⟨by omega, by omega⟩)) hE hZ (uwS m_61_7 m_61_8 m_1_5 m_61_9) (hdS 1 (by decide +kernel) rfl) ⟨Nat.le_of_ble_eq_true rfl, Nat.le_of_ble_eq_true rfl⟩ rfl rfl rfl hl.1 (Nat.le_of_ble_eq_true rfl) dX12_begins_53 ⟨Nat.le_of_ble_eq_true rfl, Nat.le_of_ble_eq_true rfl⟩ (fun r_38 t_37 H locs hw hP hD hS => ?_)
    obtain ⟨h_40, h_41, p_42⟩ := hw
    replace p_42 : r_38.toInt ≤ 1500 := p_42
    obtain ⟨v_43, e_44⟩ : ∃ z, z = (r_38 : Int32).toInt64 := ⟨_, rfl⟩
    have h_45 : v_43.toInt = r_38.toInt := by rw [e_44]; exact Jvm.Kit.i64_of_i32 _
    refine lv_i2l (v := v_43) C.1 C.2.1 dX12_begins_56 e_44.symm ?_
    obtain ⟨v_46, e_47⟩ : ∃ z, z = ((t.2.1 0 8) : Int64) + (v_43 : Int64) := ⟨_, rfl⟩
    have h_48 : -9223372036854775808 ≤ (t.2.1 0 8).toInt + v_43.toInt → (t.2.1 0 8).toInt + v_43.toInt < 9223372036854775808 → v_46.toInt = (t.2.1 0 8).toInt + v_43.toInt := by rw [e_47]; exact fun h1 h2 => Jvm.Kit.i64_add h1 h2
    refine k_ladd (v := v_46) C e_47.symm dX12_begins_57 ?_
    obtain ⟨t_49, e_50⟩ : ∃ z, z = (uG t_24 6 (x2 : Int32).toNatClampNeg (t.2.1 0 8)) := ⟨_, rfl⟩
    rw [← e_50] at hP hD hok hfr
    have h_51 : (t_49.2.1 0 8).toInt = ((t_24.2.1 0 8) : Int64).toInt := by rw [e_50]; rfl
    have h_52 : (t_49.1 0 12).toInt = (t_24.1 0 12).toInt := by rw [e_50]; rfl
    have h_53 : (t_49.2.1 0 13).toInt = (t_24.2.1 0 13).toInt := by rw [e_50]; rfl
    have h_54 : (t_49.1 0 18).toInt = (t_24.1 0 18).toInt := by rw [e_50]; rfl
    have h_55 : (t_49.1 0 35).toInt = (t_24.1 0 35).toInt := by rw [e_50]; rfl
    have h_56 : (t_49.1 0 36).toInt = (t_24.1 0 36).toInt := by rw [e_50]; rfl
    have e_57 : t_49.2.2.1 3 = t.2.2.1 3 := by rw [e_50]; exact e_32
    have e_58 : t_49.2.2.2 4 = t.2.2.2 4 := by rw [e_50]; exact (uG_ne rfl).trans e_33
    have e_59 : t_49.2.2.1 9 = t_24.2.2.1 9 := by rw [e_50]; exact rfl
    refine k_lst (ws' := WM K ad (uG t_49 4 (x2 : Int32).toNatClampNeg v_46)) (x' := v_46) C hP hD hS 4 rfl (vp_in_iff.mpr ⟨by omega, by omega⟩) rfl rfl rfl dX12_begins_58 (fun H locs hP hD hS => ?_)
    have hok : okM (uG t_49 4 (x2 : Int32).toNatClampNeg v_46) := ⟨hok.1, hok.2.1, hok.2.2.1, hok.2.2.2.1, hok.2.2.2.2.1, hok.2.2.2.2.2.1, (jM_b (j := (t_49.1 0 12)) (t := (t_49.2.1 0 8)) (m := (t_49.2.1 0 13)) hok.2.2.2.2.2.2.1 _ (fun hj => by omega)), trivial⟩
    have hfr : frA [(0, 30), (0, 35)] [] [2, 5, 7, 8, 9, 10, 11, 12, 13, 14] [4, 6] t (uG t_49 4 (x2 : Int32).toNatClampNeg v_46) := frA_G hfr 4 _ _ rfl
    exact g_vret C hr hlocks hP hD hS (uG t_49 4 (x2 : Int32).toNatClampNeg v_46) rfl ⟨hok, hfr⟩ (Nat.le_of_ble_eq_true rfl) (Nat.le_of_ble_eq_true rfl) dX12_begins_59
  · replace c_8 : 0 < v_4.toInt := i_nle c_8
    refine lv_aload_n C.1 C.2.1 dX12_begins_14 rfl (lv_at hl 0 rfl) ?_
    refine k_get (v := .ref (ad 4)) C hP 0 rfl rfl inlX12 19 (by decide) m_7_9 rfl dX12_begins_15 ?_
    refine lv_iload_n C.1 C.2.1 dX12_begins_18 rfl (lv_at hl 2 rfl) ?_
    refine k_lld (v := (t.2.2.2 4 (x2 : Int32).toNatClampNeg)) C hP 4 rfl (vp_in_iff.mpr ⟨by omega, by omega⟩) rfl dX12_begins_19 ?_
    refine lv_goto (tgt := 27) C.1 C.2.1 dX12_begins_20 (by decide) ?_
    refine lv_lstore_n (lv' := [(3, .long (t.2.2.2 4 (x2 : Int32).toNatClampNeg)), (0, .ref (ad 0)), (1, .int x1), (2, .int x2)]) C.1 C.2.1 dX12_begins_27 rfl hl (by decide) rfl (fun ls hl => ?_)
    have hl : lv_has ls 5 [(0, .ref (ad 0)), (1, .int x1), (2, .int x2), (3, .long (t.2.2.2 4 (x2 : Int32).toNatClampNeg))] := lv_sub hl [1, 2, 3, 0] rfl
    refine lv_aload_n C.1 C.2.1 dX12_begins_28 rfl (lv_at hl 0 rfl) ?_
    refine lv_lload_n C.1 C.2.1 dX12_begins_29 rfl (lv_at hl 3 rfl) ?_
    refine g_Vv (As := [.long (t.2.2.2 4 (x2 : Int32).toNatClampNeg)]) (rest := []) C hP hD hS hA (T_X12_settle l D K Z Y ad t hok ((t.2.2.2 4 (x2 : Int32).toNatClampNeg))) hE hZ (uwV m_56_15 m_56_16 m_56_17 m_1_5 m_56_18) (hdV 1 (by decide +kernel) rfl) ⟨Nat.le_of_ble_eq_true rfl, Nat.le_of_ble_eq_true rfl⟩ rfl rfl (ci := 11) (q0 := 0) rfl rfl rfl hl.1 (Nat.le_of_ble_eq_true rfl) dX12_begins_30 ⟨Nat.le_of_ble_eq_true rfl, Nat.le_of_ble_eq_true rfl⟩ (fun t_60 H locs hw hP hD hS => ?_)
    obtain ⟨hok, f_62⟩ := hw
    have hfr : frA [(0, 30), (0, 35)] [] [2, 5, 7, 8, 9, 10, 11, 12, 13, 14] [4, 6] t t_60 := frA_tr hfr f_62 rfl
    have h_63 : (t_60.2.1 0 8).toInt = (t.2.1 0 8).toInt := tl_eq (f_62.2.1 0 8 rfl)
    have h_64 : (t_60.1 0 12).toInt = (t.1 0 12).toInt := ti_eq (f_62.1 0 12 rfl)
    have h_65 : (t_60.2.1 0 13).toInt = (t.2.1 0 13).toInt := tl_eq (f_62.2.1 0 13 rfl)
    have h_66 : (t_60.1 0 18).toInt = (t.1 0 18).toInt := ti_eq (f_62.1 0 18 rfl)
    have h_67 : (t_60.1 0 35).toInt = (t.1 0 35).toInt := ti_eq (f_62.1 0 35 rfl)
    have h_68 : (t_60.1 0 36).toInt = (t.1 0 36).toInt := ti_eq (f_62.1 0 36 rfl)
    have e_69 : t_60.2.2.1 3 = t.2.2.1 3 := f_62.2.2.1 3 rfl
    have e_70 : t_60.2.2.2 4 = t.2.2.2 4 := f_62.2.2.2 4 rfl
    have e_71 : t_60.2.2.1 9 = t.2.2.1 9 := f_62.2.2.1 9 rfl
    have h_72 : (0 : Int) ≤ (t_60.1 0 12).toInt ∧ (t_60.1 0 12).toInt ≤ 1 := hok.1 0 12
    have h_73 : (0 : Int) ≤ (t_60.1 0 35).toInt ∧ (t_60.1 0 35).toInt ≤ 1700 := hok.1 0 35
    have h_74 : (0 : Int) ≤ (t_60.1 0 36).toInt ∧ (t_60.1 0 36).toInt ≤ 1700 := hok.1 0 36
    refine lv_aload_n C.1 C.2.1 dX12_begins_33 rfl (lv_at hl 0 rfl) ?_
    refine lv_iload_n C.1 C.2.1 dX12_begins_34 rfl (lv_at hl 1 rfl) ?_
    refine lv_iload_n C.1 C.2.1 dX12_begins_35 rfl (lv_at hl 2 rfl) ?_
    refine g_Vv (As := [.int x1, .int x2]) (rest := []) C hP hD hS hA (T_X12_operate l D K Z Y ad t_60 hok (x1) (show (35 : Int) ≤ (x1 : Int32).toInt ∧ (x1 : Int32).toInt ≤ 37 from ⟨by omega, by omega⟩) (x2) (show (0 : Int) ≤ (x2 : Int32).toInt ∧ (x2 : Int32).toInt ≤ 19 from ⟨by omega, by omega⟩) (show gdA x1 x2 (t_60.1 0 18) (t_60.2.2.1 3) from by rw [f_62.1 0 18 rfl, f_62.2.2.1 3 rfl]; exact hs0) (show gdU x1 x2 (t_60.2.2.1 3) (t_60.2.2.1 9) (t_60.1 0 35) (t_60.1 0 36) from by rw [f_62.1 0 35 rfl, f_62.1 0 36 rfl, f_62.2.2.1 3 rfl, f_62.2.2.1 9 rfl]; exact hs1)) hE hZ (uwV m_60_12 m_60_13 m_60_14 m_1_5 m_60_15) (hdV 2 (by decide +kernel) rfl) ⟨Nat.le_of_ble_eq_true rfl, Nat.le_of_ble_eq_true rfl⟩ rfl rfl (ci := 11) (q0 := 0) rfl rfl rfl hl.1 (Nat.le_of_ble_eq_true rfl) dX12_begins_36 ⟨Nat.le_of_ble_eq_true rfl, Nat.le_of_ble_eq_true rfl⟩ (fun t_75 H locs hw hP hD hS => ?_)
    obtain ⟨hok, f_77⟩ := hw
    have hfr : frA [(0, 30), (0, 35)] [] [2, 5, 7, 8, 9, 10, 11, 12, 13, 14] [4, 6] t t_75 := frA_tr hfr f_77 rfl
    have h_78 : (t_75.2.1 0 8).toInt = (t_60.2.1 0 8).toInt := tl_eq (f_77.2.1 0 8 rfl)
    have h_79 : (t_75.1 0 12).toInt = (t_60.1 0 12).toInt := ti_eq (f_77.1 0 12 rfl)
    have h_80 : (t_75.2.1 0 13).toInt = (t_60.2.1 0 13).toInt := tl_eq (f_77.2.1 0 13 rfl)
    have h_81 : (t_75.1 0 18).toInt = (t_60.1 0 18).toInt := ti_eq (f_77.1 0 18 rfl)
    have h_82 : (t_75.1 0 36).toInt = (t_60.1 0 36).toInt := ti_eq (f_77.1 0 36 rfl)
    have e_83 : t_75.2.2.1 3 = t.2.2.1 3 := (f_77.2.2.1 3 rfl).trans (e_69)
    have e_84 : t_75.2.2.2 4 = t.2.2.2 4 := (f_77.2.2.2 4 rfl).trans (e_70)
    have h_85 : (0 : Int) ≤ (t_75.1 0 12).toInt ∧ (t_75.1 0 12).toInt ≤ 1 := hok.1 0 12
    have h_86 : (0 : Int) ≤ (t_75.1 0 35).toInt ∧ (t_75.1 0 35).toInt ≤ 1700 := hok.1 0 35
    have h_87 : (0 : Int) ≤ (t_75.1 0 36).toInt ∧ (t_75.1 0 36).toInt ≤ 1700 := hok.1 0 36
    refine lv_aload_n C.1 C.2.1 dX12_begins_39 rfl (lv_at hl 0 rfl) ?_
    refine k_get (v := .ref (ad 6)) C hP 0 rfl rfl inlX12 21 (by decide) m_7_11 rfl dX12_begins_40 ?_
    refine lv_iload_n C.1 C.2.1 dX12_begins_43 rfl (lv_at hl 2 rfl) ?_
    refine lv_lload_n C.1 C.2.1 dX12_begins_44 rfl (lv_at hl 3 rfl) ?_
    refine k_lst (ws' := WM K ad (uG t_75 6 (x2 : Int32).toNatClampNeg (t.2.2.2 4 (x2 : Int32).toNatClampNeg))) (x' := (t.2.2.2 4 (x2 : Int32).toNatClampNeg)) C hP hD hS 6 rfl (vp_in_iff.mpr ⟨by omega, by omega⟩) rfl rfl rfl dX12_begins_45 (fun H locs hP hD hS => ?_)
    have hok : okM (uG t_75 6 (x2 : Int32).toNatClampNeg (t.2.2.2 4 (x2 : Int32).toNatClampNeg)) := ⟨hok.1, hok.2.1, hok.2.2.1, hok.2.2.2.1, hok.2.2.2.2.1, hok.2.2.2.2.2.1, hok.2.2.2.2.2.2.1, trivial⟩
    have hfr : frA [(0, 30), (0, 35)] [] [2, 5, 7, 8, 9, 10, 11, 12, 13, 14] [4, 6] t (uG t_75 6 (x2 : Int32).toNatClampNeg (t.2.2.2 4 (x2 : Int32).toNatClampNeg)) := frA_G hfr 6 _ _ rfl
    refine lv_aload_n C.1 C.2.1 dX12_begins_46 rfl (lv_at hl 0 rfl) ?_
    refine k_get (v := .ref (ad 4)) C hP 0 rfl rfl inlX12 19 (by decide) m_7_9 rfl dX12_begins_47 ?_
    refine lv_iload_n C.1 C.2.1 dX12_begins_50 rfl (lv_at hl 2 rfl) ?_
    refine lv_lload_n C.1 C.2.1 dX12_begins_51 rfl (lv_at hl 3 rfl) ?_
    refine lv_iload_n C.1 C.2.1 dX12_begins_52 rfl (lv_at hl 2 rfl) ?_
    refine g_Si (As := [.int x2]) (rest := [.long (t.2.2.2 4 (x2 : Int32).toNatClampNeg), .int x2, .ref (ad 4)]) C hP hD hS hA (T_X12_takes l D K Z Y ad (uG t_75 6 (x2 : Int32).toNatClampNeg (t.2.2.2 4 (x2 : Int32).toNatClampNeg)) hok (x2) (show (0 : Int) ≤ (x2 : Int32).toInt ∧ (x2 : Int32).toInt ≤ 19 from ⟨by omega, by omega⟩)) hE hZ (uwS m_61_7 m_61_8 m_1_5 m_61_9) (hdS 1 (by decide +kernel) rfl) ⟨Nat.le_of_ble_eq_true rfl, Nat.le_of_ble_eq_true rfl⟩ rfl rfl rfl hl.1 (Nat.le_of_ble_eq_true rfl) dX12_begins_53 ⟨Nat.le_of_ble_eq_true rfl, Nat.le_of_ble_eq_true rfl⟩ (fun r_89 t_88 H locs hw hP hD hS => ?_)
    obtain ⟨h_91, h_92, p_93⟩ := hw
    replace p_93 : r_89.toInt ≤ 1500 := p_93
    obtain ⟨v_94, e_95⟩ : ∃ z, z = (r_89 : Int32).toInt64 := ⟨_, rfl⟩
    have h_96 : v_94.toInt = r_89.toInt := by rw [e_95]; exact Jvm.Kit.i64_of_i32 _
    refine lv_i2l (v := v_94) C.1 C.2.1 dX12_begins_56 e_95.symm ?_
    obtain ⟨v_97, e_98⟩ : ∃ z, z = ((t.2.2.2 4 (x2 : Int32).toNatClampNeg) : Int64) + (v_94 : Int64) := ⟨_, rfl⟩
    have h_99 : -9223372036854775808 ≤ (t.2.2.2 4 (x2 : Int32).toNatClampNeg).toInt + v_94.toInt → (t.2.2.2 4 (x2 : Int32).toNatClampNeg).toInt + v_94.toInt < 9223372036854775808 → v_97.toInt = (t.2.2.2 4 (x2 : Int32).toNatClampNeg).toInt + v_94.toInt := by rw [e_98]; exact fun h1 h2 => Jvm.Kit.i64_add h1 h2
    refine k_ladd (v := v_97) C e_98.symm dX12_begins_57 ?_
    obtain ⟨t_100, e_101⟩ : ∃ z, z = (uG t_75 6 (x2 : Int32).toNatClampNeg (t.2.2.2 4 (x2 : Int32).toNatClampNeg)) := ⟨_, rfl⟩
    rw [← e_101] at hP hD hok hfr
    have h_102 : (t_100.2.1 0 8).toInt = ((t_75.2.1 0 8) : Int64).toInt := by rw [e_101]; rfl
    have h_103 : (t_100.1 0 12).toInt = (t_75.1 0 12).toInt := by rw [e_101]; rfl
    have h_104 : (t_100.2.1 0 13).toInt = (t_75.2.1 0 13).toInt := by rw [e_101]; rfl
    have h_105 : (t_100.1 0 18).toInt = (t_75.1 0 18).toInt := by rw [e_101]; rfl
    have h_106 : (t_100.1 0 35).toInt = (t_75.1 0 35).toInt := by rw [e_101]; rfl
    have h_107 : (t_100.1 0 36).toInt = (t_75.1 0 36).toInt := by rw [e_101]; rfl
    have e_108 : t_100.2.2.1 3 = t.2.2.1 3 := by rw [e_101]; exact e_83
    have e_109 : t_100.2.2.2 4 = t.2.2.2 4 := by rw [e_101]; exact (uG_ne rfl).trans e_84
    have e_110 : t_100.2.2.1 9 = t_75.2.2.1 9 := by rw [e_101]; exact rfl
    refine k_lst (ws' := WM K ad (uG t_100 4 (x2 : Int32).toNatClampNeg v_97)) (x' := v_97) C hP hD hS 4 rfl (vp_in_iff.mpr ⟨by omega, by omega⟩) rfl rfl rfl dX12_begins_58 (fun H locs hP hD hS => ?_)
    have hok : okM (uG t_100 4 (x2 : Int32).toNatClampNeg v_97) := ⟨hok.1, hok.2.1, hok.2.2.1, hok.2.2.2.1, hok.2.2.2.2.1, hok.2.2.2.2.2.1, (jM_b (j := (t_100.1 0 12)) (t := (t_100.2.1 0 8)) (m := (t_100.2.1 0 13)) hok.2.2.2.2.2.2.1 _ (fun hj => by omega)), trivial⟩
    have hfr : frA [(0, 30), (0, 35)] [] [2, 5, 7, 8, 9, 10, 11, 12, 13, 14] [4, 6] t (uG t_100 4 (x2 : Int32).toNatClampNeg v_97) := frA_G hfr 4 _ _ rfl
    exact g_vret C hr hlocks hP hD hS (uG t_100 4 (x2 : Int32).toNatClampNeg v_97) rfl ⟨hok, hfr⟩ (Nat.le_of_ble_eq_true rfl) (Nat.le_of_ble_eq_true rfl) dX12_begins_59

theorem dX12_work_0 : decode cX12_work 0 = .ok (.aload_n 0, 1) := by decide +kernel
theorem dX12_work_1 : decode cX12_work 1 = .ok (.getfield 282, 3) := by decide +kernel
theorem dX12_work_10 : decode cX12_work 10 = .ok (.aload_n 0, 1) := by decide +kernel
theorem dX12_work_101 : decode cX12_work 101 = .ok (.aload_n 0, 1) := by decide +kernel
theorem dX12_work_102 : decode cX12_work 102 = .ok (.getfield 282, 3) := by decide +kernel
theorem dX12_work_105 : decode cX12_work 105 = .ok (.iconst 4, 1) := by decide +kernel
theorem dX12_work_106 : decode cX12_work 106 = .ok (.if_icmp .ne 25, 3) := by decide +kernel
theorem dX12_work_109 : decode cX12_work 109 = .ok (.aload_n 0, 1) := by decide +kernel
theorem dX12_work_11 : decode cX12_work 11 = .ok (.aload_n 0, 1) := by decide +kernel
theorem dX12_work_110 : decode cX12_work 110 = .ok (.aload_n 0, 1) := by decide +kernel
theorem dX12_work_111 : decode cX12_work 111 = .ok (.aload_n 0, 1) := by decide +kernel
theorem dX12_work_112 : decode cX12_work 112 = .ok (.getfield 251, 3) := by decide +kernel
theorem dX12_work_115 : decode cX12_work 115 = .ok (.invokevirtual 260, 3) := by decide +kernel
theorem dX12_work_118 : decode cX12_work 118 = .ok (.aload_n 0, 1) := by decide +kernel
theorem dX12_work_119 : decode cX12_work 119 = .ok (.getfield 289, 3) := by decide +kernel
theorem dX12_work_12 : decode cX12_work 12 = .ok (.getfield 251, 3) := by decide +kernel
theorem dX12_work_122 : decode cX12_work 122 = .ok (.invokestatic 303, 3) := by decide +kernel
theorem dX12_work_125 : decode cX12_work 125 = .ok (.invokevirtual 357, 3) := by decide +kernel
theorem dX12_work_128 : decode cX12_work 128 = .ok (.goto 234, 3) := by decide +kernel
theorem dX12_work_131 : decode cX12_work 131 = .ok (.aload_n 0, 1) := by decide +kernel
theorem dX12_work_132 : decode cX12_work 132 = .ok (.getfield 282, 3) := by decide +kernel
theorem dX12_work_135 : decode cX12_work 135 = .ok (.iconst 5, 1) := by decide +kernel
theorem dX12_work_136 : decode cX12_work 136 = .ok (.if_icmp .ne 18, 3) := by decide +kernel
theorem dX12_work_139 : decode cX12_work 139 = .ok (.aload_n 0, 1) := by decide +kernel
theorem dX12_work_140 : decode cX12_work 140 = .ok (.getfield 289, 3) := by decide +kernel
theorem dX12_work_143 : decode cX12_work 143 = .ok (.iconst 2, 1) := by decide +kernel
theorem dX12_work_144 : decode cX12_work 144 = .ok (.if_icmp .ge 10, 3) := by decide +kernel
theorem dX12_work_147 : decode cX12_work 147 = .ok (.aload_n 0, 1) := by decide +kernel
theorem dX12_work_148 : decode cX12_work 148 = .ok (.invokevirtual 360, 3) := by decide +kernel
theorem dX12_work_15 : decode cX12_work 15 = .ok (.invokevirtual 260, 3) := by decide +kernel
theorem dX12_work_151 : decode cX12_work 151 = .ok (.goto 211, 3) := by decide +kernel
theorem dX12_work_154 : decode cX12_work 154 = .ok (.aload_n 0, 1) := by decide +kernel
theorem dX12_work_155 : decode cX12_work 155 = .ok (.getfield 282, 3) := by decide +kernel
theorem dX12_work_158 : decode cX12_work 158 = .ok (.bipush 6, 2) := by decide +kernel
theorem dX12_work_160 : decode cX12_work 160 = .ok (.if_icmp .ne 10, 3) := by decide +kernel
theorem dX12_work_163 : decode cX12_work 163 = .ok (.aload_n 0, 1) := by decide +kernel
theorem dX12_work_164 : decode cX12_work 164 = .ok (.invokevirtual 363, 3) := by decide +kernel
theorem dX12_work_167 : decode cX12_work 167 = .ok (.goto 195, 3) := by decide +kernel
theorem dX12_work_170 : decode cX12_work 170 = .ok (.aload_n 0, 1) := by decide +kernel
theorem dX12_work_171 : decode cX12_work 171 = .ok (.getfield 282, 3) := by decide +kernel
theorem dX12_work_174 : decode cX12_work 174 = .ok (.bipush 7, 2) := by decide +kernel
theorem dX12_work_176 : decode cX12_work 176 = .ok (.if_icmp .ne 10, 3) := by decide +kernel
theorem dX12_work_179 : decode cX12_work 179 = .ok (.aload_n 0, 1) := by decide +kernel
theorem dX12_work_18 : decode cX12_work 18 = .ok (.aload_n 0, 1) := by decide +kernel
theorem dX12_work_180 : decode cX12_work 180 = .ok (.invokevirtual 366, 3) := by decide +kernel
theorem dX12_work_183 : decode cX12_work 183 = .ok (.goto 179, 3) := by decide +kernel
theorem dX12_work_186 : decode cX12_work 186 = .ok (.aload_n 0, 1) := by decide +kernel
theorem dX12_work_187 : decode cX12_work 187 = .ok (.getfield 282, 3) := by decide +kernel
theorem dX12_work_19 : decode cX12_work 19 = .ok (.getfield 289, 3) := by decide +kernel
theorem dX12_work_190 : decode cX12_work 190 = .ok (.bipush 7, 2) := by decide +kernel
theorem dX12_work_192 : decode cX12_work 192 = .ok (.if_icmp .le 42, 3) := by decide +kernel
theorem dX12_work_195 : decode cX12_work 195 = .ok (.aload_n 0, 1) := by decide +kernel
theorem dX12_work_196 : decode cX12_work 196 = .ok (.getfield 282, 3) := by decide +kernel
theorem dX12_work_199 : decode cX12_work 199 = .ok (.bipush 16, 2) := by decide +kernel
theorem dX12_work_201 : decode cX12_work 201 = .ok (.if_icmp .ge 33, 3) := by decide +kernel
theorem dX12_work_204 : decode cX12_work 204 = .ok (.aload_n 0, 1) := by decide +kernel
theorem dX12_work_205 : decode cX12_work 205 = .ok (.getfield 17, 3) := by decide +kernel
theorem dX12_work_208 : decode cX12_work 208 = .ok (.aload_n 0, 1) := by decide +kernel
theorem dX12_work_209 : decode cX12_work 209 = .ok (.getfield 282, 3) := by decide +kernel
theorem dX12_work_212 : decode cX12_work 212 = .ok (.bipush 8, 2) := by decide +kernel
theorem dX12_work_214 : decode cX12_work 214 = .ok (.isub, 1) := by decide +kernel
theorem dX12_work_215 : decode cX12_work 215 = .ok (.aload_n 0, 1) := by decide +kernel
theorem dX12_work_216 : decode cX12_work 216 = .ok (.aload_n 0, 1) := by decide +kernel
theorem dX12_work_217 : decode cX12_work 217 = .ok (.getfield 251, 3) := by decide +kernel
theorem dX12_work_22 : decode cX12_work 22 = .ok (.invokestatic 303, 3) := by decide +kernel
theorem dX12_work_220 : decode cX12_work 220 = .ok (.invokevirtual 260, 3) := by decide +kernel
theorem dX12_work_223 : decode cX12_work 223 = .ok (.aload_n 0, 1) := by decide +kernel
theorem dX12_work_224 : decode cX12_work 224 = .ok (.getfield 289, 3) := by decide +kernel
theorem dX12_work_227 : decode cX12_work 227 = .ok (.invokestatic 303, 3) := by decide +kernel
theorem dX12_work_230 : decode cX12_work 230 = .ok (.iastore, 1) := by decide +kernel
theorem dX12_work_231 : decode cX12_work 231 = .ok (.goto 131, 3) := by decide +kernel
theorem dX12_work_234 : decode cX12_work 234 = .ok (.aload_n 0, 1) := by decide +kernel
theorem dX12_work_235 : decode cX12_work 235 = .ok (.getfield 282, 3) := by decide +kernel
theorem dX12_work_238 : decode cX12_work 238 = .ok (.bipush 15, 2) := by decide +kernel
theorem dX12_work_240 : decode cX12_work 240 = .ok (.if_icmp .le 45, 3) := by decide +kernel
theorem dX12_work_243 : decode cX12_work 243 = .ok (.aload_n 0, 1) := by decide +kernel
theorem dX12_work_244 : decode cX12_work 244 = .ok (.getfield 282, 3) := by decide +kernel
theorem dX12_work_247 : decode cX12_work 247 = .ok (.bipush 24, 2) := by decide +kernel
theorem dX12_work_249 : decode cX12_work 249 = .ok (.if_icmp .ge 36, 3) := by decide +kernel
theorem dX12_work_25 : decode cX12_work 25 = .ok (.invokestatic 161, 3) := by decide +kernel
theorem dX12_work_252 : decode cX12_work 252 = .ok (.aload_n 0, 1) := by decide +kernel
theorem dX12_work_253 : decode cX12_work 253 = .ok (.getfield 17, 3) := by decide +kernel
theorem dX12_work_256 : decode cX12_work 256 = .ok (.aload_n 0, 1) := by decide +kernel
theorem dX12_work_257 : decode cX12_work 257 = .ok (.getfield 282, 3) := by decide +kernel
theorem dX12_work_260 : decode cX12_work 260 = .ok (.bipush 16, 2) := by decide +kernel
theorem dX12_work_262 : decode cX12_work 262 = .ok (.isub, 1) := by decide +kernel
theorem dX12_work_263 : decode cX12_work 263 = .ok (.aload_n 0, 1) := by decide +kernel
theorem dX12_work_264 : decode cX12_work 264 = .ok (.aload_n 0, 1) := by decide +kernel
theorem dX12_work_265 : decode cX12_work 265 = .ok (.getfield 251, 3) := by decide +kernel
theorem dX12_work_268 : decode cX12_work 268 = .ok (.invokevirtual 260, 3) := by decide +kernel
theorem dX12_work_271 : decode cX12_work 271 = .ok (.aload_n 0, 1) := by decide +kernel
theorem dX12_work_272 : decode cX12_work 272 = .ok (.getfield 289, 3) := by decide +kernel
theorem dX12_work_275 : decode cX12_work 275 = .ok (.invokestatic 303, 3) := by decide +kernel
theorem dX12_work_278 : decode cX12_work 278 = .ok (.ldc 158, 2) := by decide +kernel
theorem dX12_work_28 : decode cX12_work 28 = .ok (.i2l, 1) := by decide +kernel
theorem dX12_work_280 : decode cX12_work 280 = .ok (.ixor, 1) := by decide +kernel
theorem dX12_work_281 : decode cX12_work 281 = .ok (.iastore, 1) := by decide +kernel
theorem dX12_work_282 : decode cX12_work 282 = .ok (.goto 80, 3) := by decide +kernel
theorem dX12_work_285 : decode cX12_work 285 = .ok (.aload_n 0, 1) := by decide +kernel
theorem dX12_work_286 : decode cX12_work 286 = .ok (.getfield 282, 3) := by decide +kernel
theorem dX12_work_289 : decode cX12_work 289 = .ok (.bipush 23, 2) := by decide +kernel
theorem dX12_work_29 : decode cX12_work 29 = .ok (.invokevirtual 346, 3) := by decide +kernel
theorem dX12_work_291 : decode cX12_work 291 = .ok (.if_icmp .le 19, 3) := by decide +kernel
theorem dX12_work_294 : decode cX12_work 294 = .ok (.aload_n 0, 1) := by decide +kernel
theorem dX12_work_295 : decode cX12_work 295 = .ok (.getfield 282, 3) := by decide +kernel
theorem dX12_work_298 : decode cX12_work 298 = .ok (.bipush 34, 2) := by decide +kernel
theorem dX12_work_300 : decode cX12_work 300 = .ok (.if_icmp .ge 10, 3) := by decide +kernel
theorem dX12_work_303 : decode cX12_work 303 = .ok (.aload_n 0, 1) := by decide +kernel
theorem dX12_work_304 : decode cX12_work 304 = .ok (.invokevirtual 369, 3) := by decide +kernel
theorem dX12_work_307 : decode cX12_work 307 = .ok (.goto 55, 3) := by decide +kernel
theorem dX12_work_310 : decode cX12_work 310 = .ok (.aload_n 0, 1) := by decide +kernel
theorem dX12_work_311 : decode cX12_work 311 = .ok (.getfield 282, 3) := by decide +kernel
theorem dX12_work_314 : decode cX12_work 314 = .ok (.bipush 47, 2) := by decide +kernel
theorem dX12_work_316 : decode cX12_work 316 = .ok (.if_icmp .le 26, 3) := by decide +kernel
theorem dX12_work_319 : decode cX12_work 319 = .ok (.aload_n 0, 1) := by decide +kernel
theorem dX12_work_32 : decode cX12_work 32 = .ok (.goto 330, 3) := by decide +kernel
theorem dX12_work_320 : decode cX12_work 320 = .ok (.getfield 282, 3) := by decide +kernel
theorem dX12_work_323 : decode cX12_work 323 = .ok (.bipush 56, 2) := by decide +kernel
theorem dX12_work_325 : decode cX12_work 325 = .ok (.if_icmp .ge 17, 3) := by decide +kernel
theorem dX12_work_328 : decode cX12_work 328 = .ok (.aload_n 0, 1) := by decide +kernel
theorem dX12_work_329 : decode cX12_work 329 = .ok (.aload_n 0, 1) := by decide +kernel
theorem dX12_work_330 : decode cX12_work 330 = .ok (.getfield 282, 3) := by decide +kernel
theorem dX12_work_333 : decode cX12_work 333 = .ok (.bipush 48, 2) := by decide +kernel
theorem dX12_work_335 : decode cX12_work 335 = .ok (.isub, 1) := by decide +kernel
theorem dX12_work_336 : decode cX12_work 336 = .ok (.invokevirtual 372, 3) := by decide +kernel
theorem dX12_work_339 : decode cX12_work 339 = .ok (.goto 23, 3) := by decide +kernel
theorem dX12_work_342 : decode cX12_work 342 = .ok (.aload_n 0, 1) := by decide +kernel
theorem dX12_work_343 : decode cX12_work 343 = .ok (.getfield 282, 3) := by decide +kernel
theorem dX12_work_346 : decode cX12_work 346 = .ok (.bipush 55, 2) := by decide +kernel
theorem dX12_work_348 : decode cX12_work 348 = .ok (.if_icmp .le 14, 3) := by decide +kernel
theorem dX12_work_35 : decode cX12_work 35 = .ok (.aload_n 0, 1) := by decide +kernel
theorem dX12_work_351 : decode cX12_work 351 = .ok (.aload_n 0, 1) := by decide +kernel
theorem dX12_work_352 : decode cX12_work 352 = .ok (.aload_n 0, 1) := by decide +kernel
theorem dX12_work_353 : decode cX12_work 353 = .ok (.getfield 282, 3) := by decide +kernel
theorem dX12_work_356 : decode cX12_work 356 = .ok (.bipush 56, 2) := by decide +kernel
theorem dX12_work_358 : decode cX12_work 358 = .ok (.isub, 1) := by decide +kernel
theorem dX12_work_359 : decode cX12_work 359 = .ok (.invokevirtual 375, 3) := by decide +kernel
theorem dX12_work_36 : decode cX12_work 36 = .ok (.getfield 282, 3) := by decide +kernel
theorem dX12_work_362 : decode cX12_work 362 = .ok (.return_, 1) := by decide +kernel
theorem dX12_work_39 : decode cX12_work 39 = .ok (.iconst 2, 1) := by decide +kernel
theorem dX12_work_4 : decode cX12_work 4 = .ok (.iconst 1, 1) := by decide +kernel
theorem dX12_work_40 : decode cX12_work 40 = .ok (.if_icmp .ne 31, 3) := by decide +kernel
theorem dX12_work_43 : decode cX12_work 43 = .ok (.aload_n 0, 1) := by decide +kernel
theorem dX12_work_44 : decode cX12_work 44 = .ok (.iconst 0, 1) := by decide +kernel
theorem dX12_work_45 : decode cX12_work 45 = .ok (.aload_n 0, 1) := by decide +kernel
theorem dX12_work_46 : decode cX12_work 46 = .ok (.aload_n 0, 1) := by decide +kernel
theorem dX12_work_47 : decode cX12_work 47 = .ok (.getfield 251, 3) := by decide +kernel
theorem dX12_work_5 : decode cX12_work 5 = .ok (.if_icmp .ne 30, 3) := by decide +kernel
theorem dX12_work_50 : decode cX12_work 50 = .ok (.invokevirtual 260, 3) := by decide +kernel
theorem dX12_work_53 : decode cX12_work 53 = .ok (.aload_n 0, 1) := by decide +kernel
theorem dX12_work_54 : decode cX12_work 54 = .ok (.getfield 289, 3) := by decide +kernel
theorem dX12_work_57 : decode cX12_work 57 = .ok (.invokestatic 303, 3) := by decide +kernel
theorem dX12_work_60 : decode cX12_work 60 = .ok (.invokestatic 161, 3) := by decide +kernel
theorem dX12_work_63 : decode cX12_work 63 = .ok (.i2l, 1) := by decide +kernel
theorem dX12_work_64 : decode cX12_work 64 = .ok (.lneg, 1) := by decide +kernel
theorem dX12_work_65 : decode cX12_work 65 = .ok (.invokevirtual 346, 3) := by decide +kernel
theorem dX12_work_68 : decode cX12_work 68 = .ok (.goto 294, 3) := by decide +kernel
theorem dX12_work_71 : decode cX12_work 71 = .ok (.aload_n 0, 1) := by decide +kernel
theorem dX12_work_72 : decode cX12_work 72 = .ok (.getfield 282, 3) := by decide +kernel
theorem dX12_work_75 : decode cX12_work 75 = .ok (.iconst 3, 1) := by decide +kernel
theorem dX12_work_76 : decode cX12_work 76 = .ok (.if_icmp .ne 25, 3) := by decide +kernel
theorem dX12_work_79 : decode cX12_work 79 = .ok (.aload_n 0, 1) := by decide +kernel
theorem dX12_work_8 : decode cX12_work 8 = .ok (.aload_n 0, 1) := by decide +kernel
theorem dX12_work_80 : decode cX12_work 80 = .ok (.aload_n 0, 1) := by decide +kernel
theorem dX12_work_81 : decode cX12_work 81 = .ok (.aload_n 0, 1) := by decide +kernel
theorem dX12_work_82 : decode cX12_work 82 = .ok (.getfield 251, 3) := by decide +kernel
theorem dX12_work_85 : decode cX12_work 85 = .ok (.invokevirtual 260, 3) := by decide +kernel
theorem dX12_work_88 : decode cX12_work 88 = .ok (.aload_n 0, 1) := by decide +kernel
theorem dX12_work_89 : decode cX12_work 89 = .ok (.getfield 289, 3) := by decide +kernel
theorem dX12_work_9 : decode cX12_work 9 = .ok (.iconst 0, 1) := by decide +kernel
theorem dX12_work_92 : decode cX12_work 92 = .ok (.invokestatic 303, 3) := by decide +kernel
theorem dX12_work_95 : decode cX12_work 95 = .ok (.invokevirtual 354, 3) := by decide +kernel
theorem dX12_work_98 : decode cX12_work 98 = .ok (.goto 264, 3) := by decide +kernel
set_option maxHeartbeats 4000000 in
set_option maxRecDepth 100000 in
theorem T_X12_work (l : Launch) (D : va_G) (K : Nat → ClassId) (Z Y : Nat → Nat) (ad : Nat → Nat) (t : tSt) (hok : okM t) (hs0 : gdA (t.1 0 16) (t.1 0 17) (t.1 0 18) (t.2.2.1 3)) : tMet l yX12_work cX12_work 1 none (rmD 3 0 0) D K Z Y [.ref (ad 0)] (WM K ad t) (QV D K (fun (u : tSt) => okM u ∧ frA [(0, 5), (0, 6)] [] [2, 3] [] t u) (fun (u : tSt) => WM K ad u)) 0 0 := by
  refine t_met RX12 ⟨rfl, by decide +kernel⟩ (Nat.le_of_ble_eq_true rfl) ?_
  intro p e s m below meth c A ls C hE hZ hr hlocks hA hP hD hS hl
  have hl : lv_has ls 1 [(0, .ref (ad 0))] := hl
  have hokt := hok
  have hfr : frA [(0, 5), (0, 6)] [] [2, 3] [] t t := frA_rf
  have h_1 : (0 : Int) ≤ (t.1 0 16).toInt ∧ (t.1 0 16).toInt ≤ 63 := hok.1 0 16
  have h_2 : (0 : Int) ≤ (t.1 0 17).toInt ∧ (t.1 0 17).toInt ≤ 63 := hok.1 0 17
  have hA1 := hs0.1
  refine lv_aload_n C.1 C.2.1 dX12_work_0 rfl (lv_at hl 0 rfl) ?_
  refine k_get (v := .int (t.1 0 16)) C hP 0 rfl rfl inlX12 16 (by decide) m_57_3 rfl dX12_work_1 ?_
  refine lv_iconst (v := 1) C.1 C.2.1 dX12_work_4 (by decide) ?_
  refine lv_icmp_ne (tgt := 35) C.1 C.2.1 dX12_work_5 (by decide) (fun c_3 => ?_) (fun c_3 => ?_)
  · replace c_3 : ¬ (t.1 0 16).toInt = 1 := i_ne c_3
    refine lv_aload_n C.1 C.2.1 dX12_work_35 rfl (lv_at hl 0 rfl) ?_
    refine k_get (v := .int (t.1 0 16)) C hP 0 rfl rfl inlX12 16 (by decide) m_57_3 rfl dX12_work_36 ?_
    refine lv_iconst (v := 2) C.1 C.2.1 dX12_work_39 (by decide) ?_
    refine lv_icmp_ne (tgt := 71) C.1 C.2.1 dX12_work_40 (by decide) (fun c_4 => ?_) (fun c_4 => ?_)
    · replace c_4 : ¬ (t.1 0 16).toInt = 2 := i_ne c_4
      refine lv_aload_n C.1 C.2.1 dX12_work_71 rfl (lv_at hl 0 rfl) ?_
      refine k_get (v := .int (t.1 0 16)) C hP 0 rfl rfl inlX12 16 (by decide) m_57_3 rfl dX12_work_72 ?_
      refine lv_iconst (v := 3) C.1 C.2.1 dX12_work_75 (by decide) ?_
      refine lv_icmp_ne (tgt := 101) C.1 C.2.1 dX12_work_76 (by decide) (fun c_5 => ?_) (fun c_5 => ?_)
      · replace c_5 : ¬ (t.1 0 16).toInt = 3 := i_ne c_5
        refine lv_aload_n C.1 C.2.1 dX12_work_101 rfl (lv_at hl 0 rfl) ?_
        refine k_get (v := .int (t.1 0 16)) C hP 0 rfl rfl inlX12 16 (by decide) m_57_3 rfl dX12_work_102 ?_
        refine lv_iconst (v := 4) C.1 C.2.1 dX12_work_105 (by decide) ?_
        refine lv_icmp_ne (tgt := 131) C.1 C.2.1 dX12_work_106 (by decide) (fun c_6 => ?_) (fun c_6 => ?_)
        · replace c_6 : ¬ (t.1 0 16).toInt = 4 := i_ne c_6
          refine lv_aload_n C.1 C.2.1 dX12_work_131 rfl (lv_at hl 0 rfl) ?_
          refine k_get (v := .int (t.1 0 16)) C hP 0 rfl rfl inlX12 16 (by decide) m_57_3 rfl dX12_work_132 ?_
          refine lv_iconst (v := 5) C.1 C.2.1 dX12_work_135 (by decide) ?_
          refine lv_icmp_ne (tgt := 154) C.1 C.2.1 dX12_work_136 (by decide) (fun c_7 => ?_) (fun c_7 => ?_)
          · replace c_7 : ¬ (t.1 0 16).toInt = 5 := i_ne c_7
            refine lv_aload_n C.1 C.2.1 dX12_work_154 rfl (lv_at hl 0 rfl) ?_
            refine k_get (v := .int (t.1 0 16)) C hP 0 rfl rfl inlX12 16 (by decide) m_57_3 rfl dX12_work_155 ?_
            refine lv_bipush (v := 6) C.1 C.2.1 dX12_work_158 (by decide) ?_
            refine lv_icmp_ne (tgt := 170) C.1 C.2.1 dX12_work_160 (by decide) (fun c_8 => ?_) (fun c_8 => ?_)
            · replace c_8 : ¬ (t.1 0 16).toInt = 6 := i_ne c_8
              refine lv_aload_n C.1 C.2.1 dX12_work_170 rfl (lv_at hl 0 rfl) ?_
              refine k_get (v := .int (t.1 0 16)) C hP 0 rfl rfl inlX12 16 (by decide) m_57_3 rfl dX12_work_171 ?_
              refine lv_bipush (v := 7) C.1 C.2.1 dX12_work_174 (by decide) ?_
              refine lv_icmp_ne (tgt := 186) C.1 C.2.1 dX12_work_176 (by decide) (fun c_9 => ?_) (fun c_9 => ?_)
              · replace c_9 : ¬ (t.1 0 16).toInt = 7 := i_ne c_9
                refine lv_aload_n C.1 C.2.1 dX12_work_186 rfl (lv_at hl 0 rfl) ?_
                refine k_get (v := .int (t.1 0 16)) C hP 0 rfl rfl inlX12 16 (by decide) m_57_3 rfl dX12_work_187 ?_
                refine lv_bipush (v := 7) C.1 C.2.1 dX12_work_190 (by decide) ?_
                refine lv_icmp_le (tgt := 234) C.1 C.2.1 dX12_work_192 (by decide) (fun c_10 => ?_) (fun c_10 => ?_)
                · replace c_10 : (t.1 0 16).toInt ≤ 7 := i_le c_10
                  refine lv_aload_n C.1 C.2.1 dX12_work_234 rfl (lv_at hl 0 rfl) ?_
                  refine k_get (v := .int (t.1 0 16)) C hP 0 rfl rfl inlX12 16 (by decide) m_57_3 rfl dX12_work_235 ?_
                  refine lv_bipush (v := 15) C.1 C.2.1 dX12_work_238 (by decide) ?_
                  refine lv_icmp_le (tgt := 285) C.1 C.2.1 dX12_work_240 (by decide) (fun c_11 => ?_) (fun c_11 => False.elim (by have c_11 : 15 < (t.1 0 16).toInt := i_nle c_11; omega))
                  replace c_11 : (t.1 0 16).toInt ≤ 15 := i_le c_11
                  refine lv_aload_n C.1 C.2.1 dX12_work_285 rfl (lv_at hl 0 rfl) ?_
                  refine k_get (v := .int (t.1 0 16)) C hP 0 rfl rfl inlX12 16 (by decide) m_57_3 rfl dX12_work_286 ?_
                  refine lv_bipush (v := 23) C.1 C.2.1 dX12_work_289 (by decide) ?_
                  refine lv_icmp_le (tgt := 310) C.1 C.2.1 dX12_work_291 (by decide) (fun c_12 => ?_) (fun c_12 => False.elim (by have c_12 : 23 < (t.1 0 16).toInt := i_nle c_12; omega))
                  replace c_12 : (t.1 0 16).toInt ≤ 23 := i_le c_12
                  refine lv_aload_n C.1 C.2.1 dX12_work_310 rfl (lv_at hl 0 rfl) ?_
                  refine k_get (v := .int (t.1 0 16)) C hP 0 rfl rfl inlX12 16 (by decide) m_57_3 rfl dX12_work_311 ?_
                  refine lv_bipush (v := 47) C.1 C.2.1 dX12_work_314 (by decide) ?_
                  refine lv_icmp_le (tgt := 342) C.1 C.2.1 dX12_work_316 (by decide) (fun c_13 => ?_) (fun c_13 => False.elim (by have c_13 : 47 < (t.1 0 16).toInt := i_nle c_13; omega))
                  replace c_13 : (t.1 0 16).toInt ≤ 47 := i_le c_13
                  refine lv_aload_n C.1 C.2.1 dX12_work_342 rfl (lv_at hl 0 rfl) ?_
                  refine k_get (v := .int (t.1 0 16)) C hP 0 rfl rfl inlX12 16 (by decide) m_57_3 rfl dX12_work_343 ?_
                  refine lv_bipush (v := 55) C.1 C.2.1 dX12_work_346 (by decide) ?_
                  refine lv_icmp_le (tgt := 362) C.1 C.2.1 dX12_work_348 (by decide) (fun c_14 => ?_) (fun c_14 => False.elim (by have c_14 : 55 < (t.1 0 16).toInt := i_nle c_14; omega))
                  replace c_14 : (t.1 0 16).toInt ≤ 55 := i_le c_14
                  exact g_vret C hr hlocks hP hD hS t rfl ⟨hok, hfr⟩ (Nat.le_of_ble_eq_true rfl) (Nat.le_of_ble_eq_true rfl) dX12_work_362
                · replace c_10 : 7 < (t.1 0 16).toInt := i_nle c_10
                  refine lv_aload_n C.1 C.2.1 dX12_work_195 rfl (lv_at hl 0 rfl) ?_
                  refine k_get (v := .int (t.1 0 16)) C hP 0 rfl rfl inlX12 16 (by decide) m_57_3 rfl dX12_work_196 ?_
                  refine lv_bipush (v := 16) C.1 C.2.1 dX12_work_199 (by decide) ?_
                  refine lv_icmp_ge (tgt := 234) C.1 C.2.1 dX12_work_201 (by decide) (fun c_15 => ?_) (fun c_15 => ?_)
                  · replace c_15 : 16 ≤ (t.1 0 16).toInt := i_le c_15
                    refine lv_aload_n C.1 C.2.1 dX12_work_234 rfl (lv_at hl 0 rfl) ?_
                    refine k_get (v := .int (t.1 0 16)) C hP 0 rfl rfl inlX12 16 (by decide) m_57_3 rfl dX12_work_235 ?_
                    refine lv_bipush (v := 15) C.1 C.2.1 dX12_work_238 (by decide) ?_
                    refine lv_icmp_le (tgt := 285) C.1 C.2.1 dX12_work_240 (by decide) (fun c_16 => False.elim (by have c_16 : (t.1 0 16).toInt ≤ 15 := i_le c_16; omega)) (fun c_16 => ?_)
                    replace c_16 : 15 < (t.1 0 16).toInt := i_nle c_16
                    refine lv_aload_n C.1 C.2.1 dX12_work_243 rfl (lv_at hl 0 rfl) ?_
                    refine k_get (v := .int (t.1 0 16)) C hP 0 rfl rfl inlX12 16 (by decide) m_57_3 rfl dX12_work_244 ?_
                    refine lv_bipush (v := 24) C.1 C.2.1 dX12_work_247 (by decide) ?_
                    refine lv_icmp_ge (tgt := 285) C.1 C.2.1 dX12_work_249 (by decide) (fun c_17 => ?_) (fun c_17 => ?_)
                    · replace c_17 : 24 ≤ (t.1 0 16).toInt := i_le c_17
                      refine lv_aload_n C.1 C.2.1 dX12_work_285 rfl (lv_at hl 0 rfl) ?_
                      refine k_get (v := .int (t.1 0 16)) C hP 0 rfl rfl inlX12 16 (by decide) m_57_3 rfl dX12_work_286 ?_
                      refine lv_bipush (v := 23) C.1 C.2.1 dX12_work_289 (by decide) ?_
                      refine lv_icmp_le (tgt := 310) C.1 C.2.1 dX12_work_291 (by decide) (fun c_18 => False.elim (by have c_18 : (t.1 0 16).toInt ≤ 23 := i_le c_18; omega)) (fun c_18 => ?_)
                      replace c_18 : 23 < (t.1 0 16).toInt := i_nle c_18
                      refine lv_aload_n C.1 C.2.1 dX12_work_294 rfl (lv_at hl 0 rfl) ?_
                      refine k_get (v := .int (t.1 0 16)) C hP 0 rfl rfl inlX12 16 (by decide) m_57_3 rfl dX12_work_295 ?_
                      refine lv_bipush (v := 34) C.1 C.2.1 dX12_work_298 (by decide) ?_
                      refine lv_icmp_ge (tgt := 310) C.1 C.2.1 dX12_work_300 (by decide) (fun c_19 => ?_) (fun c_19 => ?_)
                      · replace c_19 : 34 ≤ (t.1 0 16).toInt := i_le c_19
                        refine lv_aload_n C.1 C.2.1 dX12_work_310 rfl (lv_at hl 0 rfl) ?_
                        refine k_get (v := .int (t.1 0 16)) C hP 0 rfl rfl inlX12 16 (by decide) m_57_3 rfl dX12_work_311 ?_
                        refine lv_bipush (v := 47) C.1 C.2.1 dX12_work_314 (by decide) ?_
                        refine lv_icmp_le (tgt := 342) C.1 C.2.1 dX12_work_316 (by decide) (fun c_20 => ?_) (fun c_20 => ?_)
                        · replace c_20 : (t.1 0 16).toInt ≤ 47 := i_le c_20
                          refine lv_aload_n C.1 C.2.1 dX12_work_342 rfl (lv_at hl 0 rfl) ?_
                          refine k_get (v := .int (t.1 0 16)) C hP 0 rfl rfl inlX12 16 (by decide) m_57_3 rfl dX12_work_343 ?_
                          refine lv_bipush (v := 55) C.1 C.2.1 dX12_work_346 (by decide) ?_
                          refine lv_icmp_le (tgt := 362) C.1 C.2.1 dX12_work_348 (by decide) (fun c_21 => ?_) (fun c_21 => False.elim (by have c_21 : 55 < (t.1 0 16).toInt := i_nle c_21; omega))
                          replace c_21 : (t.1 0 16).toInt ≤ 55 := i_le c_21
                          exact g_vret C hr hlocks hP hD hS t rfl ⟨hok, hfr⟩ (Nat.le_of_ble_eq_true rfl) (Nat.le_of_ble_eq_true rfl) dX12_work_362
                        · replace c_20 : 47 < (t.1 0 16).toInt := i_nle c_20
                          refine lv_aload_n C.1 C.2.1 dX12_work_319 rfl (lv_at hl 0 rfl) ?_
                          refine k_get (v := .int (t.1 0 16)) C hP 0 rfl rfl inlX12 16 (by decide) m_57_3 rfl dX12_work_320 ?_
                          refine lv_bipush (v := 56) C.1 C.2.1 dX12_work_323 (by decide) ?_
                          refine lv_icmp_ge (tgt := 342) C.1 C.2.1 dX12_work_325 (by decide) (fun c_22 => ?_) (fun c_22 => ?_)
                          · replace c_22 : 56 ≤ (t.1 0 16).toInt := i_le c_22
                            refine lv_aload_n C.1 C.2.1 dX12_work_342 rfl (lv_at hl 0 rfl) ?_
                            refine k_get (v := .int (t.1 0 16)) C hP 0 rfl rfl inlX12 16 (by decide) m_57_3 rfl dX12_work_343 ?_
                            refine lv_bipush (v := 55) C.1 C.2.1 dX12_work_346 (by decide) ?_
                            refine lv_icmp_le (tgt := 362) C.1 C.2.1 dX12_work_348 (by decide) (fun c_23 => False.elim (by have c_23 : (t.1 0 16).toInt ≤ 55 := i_le c_23; omega)) (fun c_23 => ?_)
                            replace c_23 : 55 < (t.1 0 16).toInt := i_nle c_23
                            refine lv_aload_n C.1 C.2.1 dX12_work_351 rfl (lv_at hl 0 rfl) ?_
                            refine lv_aload_n C.1 C.2.1 dX12_work_352 rfl (lv_at hl 0 rfl) ?_
                            refine k_get (v := .int (t.1 0 16)) C hP 0 rfl rfl inlX12 16 (by decide) m_57_3 rfl dX12_work_353 ?_
                            refine lv_bipush (v := 56) C.1 C.2.1 dX12_work_356 (by decide) ?_
                            obtain ⟨v_24, e_25⟩ : ∃ z, z = ((t.1 0 16) : Int32) - (56 : Int32) := ⟨_, rfl⟩
                            have h_26 : v_24.toInt = (t.1 0 16).toInt - 56 := by rw [e_25]; exact ti_isub (by show (_ : Int) ≤ (t.1 0 16).toInt - 56; omega) (by show (t.1 0 16).toInt - 56 < (_ : Int); omega)
                            refine k_isub (v := v_24) C e_25.symm dX12_work_358 ?_
                            refine g_Vv (As := [.int v_24]) (rest := []) C hP hD hS hA (T_X12_compare l D K Z Y ad t hok (v_24) (show (0 : Int) ≤ (v_24 : Int32).toInt ∧ (v_24 : Int32).toInt ≤ 7 from ⟨by omega, by omega⟩) (show -3999 ≤ (t.1 0 18).toInt ∧ (t.1 0 18).toInt ≤ 3999 from by omega)) hE hZ (uwV m_63_3 m_63_4 m_63_5 m_1_5 m_63_6) (hdV 1 (by decide +kernel) rfl) ⟨Nat.le_of_ble_eq_true rfl, Nat.le_of_ble_eq_true rfl⟩ rfl rfl (ci := 11) (q0 := 0) rfl rfl rfl hl.1 (Nat.le_of_ble_eq_true rfl) dX12_work_359 ⟨Nat.le_of_ble_eq_true rfl, Nat.le_of_ble_eq_true rfl⟩ (fun t_27 H locs hw hP hD hS => ?_)
                            obtain ⟨hok, f_29⟩ := hw
                            have hfr : frA [(0, 5), (0, 6)] [] [2, 3] [] t t_27 := frA_tr hfr f_29 rfl
                            have h_30 : (t_27.1 0 16).toInt = (t.1 0 16).toInt := ti_eq (f_29.1 0 16 rfl)
                            have h_31 : (t_27.1 0 17).toInt = (t.1 0 17).toInt := ti_eq (f_29.1 0 17 rfl)
                            have h_32 : (t_27.1 0 18).toInt = (t.1 0 18).toInt := ti_eq (f_29.1 0 18 rfl)
                            have h_33 : (0 : Int) ≤ (t_27.1 0 17).toInt ∧ (t_27.1 0 17).toInt ≤ 63 := hok.1 0 17
                            exact g_vret C hr hlocks hP hD hS t_27 rfl ⟨hok, hfr⟩ (Nat.le_of_ble_eq_true rfl) (Nat.le_of_ble_eq_true rfl) dX12_work_362
                          · replace c_22 : (t.1 0 16).toInt < 56 := i_nle c_22
                            refine lv_aload_n C.1 C.2.1 dX12_work_328 rfl (lv_at hl 0 rfl) ?_
                            refine lv_aload_n C.1 C.2.1 dX12_work_329 rfl (lv_at hl 0 rfl) ?_
                            refine k_get (v := .int (t.1 0 16)) C hP 0 rfl rfl inlX12 16 (by decide) m_57_3 rfl dX12_work_330 ?_
                            refine lv_bipush (v := 48) C.1 C.2.1 dX12_work_333 (by decide) ?_
                            obtain ⟨v_34, e_35⟩ : ∃ z, z = ((t.1 0 16) : Int32) - (48 : Int32) := ⟨_, rfl⟩
                            have h_36 : v_34.toInt = (t.1 0 16).toInt - 48 := by rw [e_35]; exact ti_isub (by show (_ : Int) ≤ (t.1 0 16).toInt - 48; omega) (by show (t.1 0 16).toInt - 48 < (_ : Int); omega)
                            refine k_isub (v := v_34) C e_35.symm dX12_work_335 ?_
                            refine g_Vv (As := [.int v_34]) (rest := []) C hP hD hS hA (T_X12_change l D K Z Y ad t hok (v_34) (show (0 : Int) ≤ (v_34 : Int32).toInt ∧ (v_34 : Int32).toInt ≤ 7 from ⟨by omega, by omega⟩)) hE hZ (uwV m_62_23 m_63_0 m_63_1 m_1_5 m_63_2) (hdV 1 (by decide +kernel) rfl) ⟨Nat.le_of_ble_eq_true rfl, Nat.le_of_ble_eq_true rfl⟩ rfl rfl (ci := 11) (q0 := 0) rfl rfl rfl hl.1 (Nat.le_of_ble_eq_true rfl) dX12_work_336 ⟨Nat.le_of_ble_eq_true rfl, Nat.le_of_ble_eq_true rfl⟩ (fun t_37 H locs hw hP hD hS => ?_)
                            obtain ⟨hok, f_39⟩ := hw
                            have hfr : frA [(0, 5), (0, 6)] [] [2, 3] [] t t_37 := frA_tr hfr f_39 rfl
                            have h_40 : (t_37.1 0 16).toInt = (t.1 0 16).toInt := ti_eq (f_39.1 0 16 rfl)
                            have h_41 : (t_37.1 0 17).toInt = (t.1 0 17).toInt := ti_eq (f_39.1 0 17 rfl)
                            have h_42 : (t_37.1 0 18).toInt = (t.1 0 18).toInt := ti_eq (f_39.1 0 18 rfl)
                            have h_43 : (0 : Int) ≤ (t_37.1 0 17).toInt ∧ (t_37.1 0 17).toInt ≤ 63 := hok.1 0 17
                            refine lv_goto (tgt := 362) C.1 C.2.1 dX12_work_339 (by decide) ?_
                            exact g_vret C hr hlocks hP hD hS t_37 rfl ⟨hok, hfr⟩ (Nat.le_of_ble_eq_true rfl) (Nat.le_of_ble_eq_true rfl) dX12_work_362
                      · replace c_19 : (t.1 0 16).toInt < 34 := i_nle c_19
                        refine lv_aload_n C.1 C.2.1 dX12_work_303 rfl (lv_at hl 0 rfl) ?_
                        refine g_Vv (As := []) (rest := []) C hP hD hS hA (T_X12_store l D K Z Y ad t hok (show -3999 ≤ (t.1 0 18).toInt ∧ (t.1 0 18).toInt ≤ 3999 from by omega) (show 24 ≤ (t.1 0 16).toInt from by omega) (show (t.1 0 16).toInt ≤ 33 from by omega)) hE hZ (uwV m_62_19 m_62_20 m_62_21 m_1_5 m_62_22) (hdV 0 (by decide +kernel) rfl) ⟨Nat.le_of_ble_eq_true rfl, Nat.le_of_ble_eq_true rfl⟩ rfl rfl (ci := 11) (q0 := 0) rfl rfl rfl hl.1 (Nat.le_of_ble_eq_true rfl) dX12_work_304 ⟨Nat.le_of_ble_eq_true rfl, Nat.le_of_ble_eq_true rfl⟩ (fun t_44 H locs hw hP hD hS => ?_)
                        obtain ⟨hok, f_46⟩ := hw
                        have hfr : frA [(0, 5), (0, 6)] [] [2, 3] [] t t_44 := frA_tr hfr f_46 rfl
                        have h_47 : (t_44.1 0 16).toInt = (t.1 0 16).toInt := ti_eq (f_46.1 0 16 rfl)
                        have h_48 : (t_44.1 0 17).toInt = (t.1 0 17).toInt := ti_eq (f_46.1 0 17 rfl)
                        have h_49 : (t_44.1 0 18).toInt = (t.1 0 18).toInt := ti_eq (f_46.1 0 18 rfl)
                        have h_50 : (0 : Int) ≤ (t_44.1 0 17).toInt ∧ (t_44.1 0 17).toInt ≤ 63 := hok.1 0 17
                        refine lv_goto (tgt := 362) C.1 C.2.1 dX12_work_307 (by decide) ?_
                        exact g_vret C hr hlocks hP hD hS t_44 rfl ⟨hok, hfr⟩ (Nat.le_of_ble_eq_true rfl) (Nat.le_of_ble_eq_true rfl) dX12_work_362
                    · replace c_17 : (t.1 0 16).toInt < 24 := i_nle c_17
                      refine lv_aload_n C.1 C.2.1 dX12_work_252 rfl (lv_at hl 0 rfl) ?_
                      refine k_get (v := .ref (ad 3)) C hP 0 rfl rfl inlX12 4 (by decide) m_7_6 rfl dX12_work_253 ?_
                      refine lv_aload_n C.1 C.2.1 dX12_work_256 rfl (lv_at hl 0 rfl) ?_
                      refine k_get (v := .int (t.1 0 16)) C hP 0 rfl rfl inlX12 16 (by decide) m_57_3 rfl dX12_work_257 ?_
                      refine lv_bipush (v := 16) C.1 C.2.1 dX12_work_260 (by decide) ?_
                      obtain ⟨v_51, e_52⟩ : ∃ z, z = ((t.1 0 16) : Int32) - (16 : Int32) := ⟨_, rfl⟩
                      have h_53 : v_51.toInt = (t.1 0 16).toInt - 16 := by rw [e_52]; exact ti_isub (by show (_ : Int) ≤ (t.1 0 16).toInt - 16; omega) (by show (t.1 0 16).toInt - 16 < (_ : Int); omega)
                      refine k_isub (v := v_51) C e_52.symm dX12_work_262 ?_
                      refine lv_aload_n C.1 C.2.1 dX12_work_263 rfl (lv_at hl 0 rfl) ?_
                      refine lv_aload_n C.1 C.2.1 dX12_work_264 rfl (lv_at hl 0 rfl) ?_
                      refine k_get (v := .int (t.1 0 18)) C hP 0 rfl rfl inlX12 18 (by decide) m_57_5 rfl dX12_work_265 ?_
                      refine g_Vi (As := [.int (t.1 0 18)]) (rest := [.int v_51, .ref (ad 3)]) C hP hD hS hA (T_X12_memoryAt l D K Z Y ad t hok ((t.1 0 18)) (show (-3999 : Int) ≤ ((t.1 0 18) : Int32).toInt ∧ ((t.1 0 18) : Int32).toInt ≤ 3999 from ⟨by omega, by omega⟩)) hE hZ (uwV m_38_19 m_38_20 m_38_21 m_1_5 m_38_22) (hdV 1 (by decide +kernel) rfl) ⟨Nat.le_of_ble_eq_true rfl, Nat.le_of_ble_eq_true rfl⟩ rfl rfl (ci := 11) (q0 := 0) rfl rfl rfl hl.1 (Nat.le_of_ble_eq_true rfl) dX12_work_268 ⟨Nat.le_of_ble_eq_true rfl, Nat.le_of_ble_eq_true rfl⟩ (fun r_55 t_54 H locs hw hP hD hS => ?_)
                      obtain ⟨h_57, h_58⟩ := hw
                      refine lv_aload_n C.1 C.2.1 dX12_work_271 rfl (lv_at hl 0 rfl) ?_
                      refine k_get (v := .int (t.1 0 17)) C hP 0 rfl rfl inlX12 17 (by decide) m_57_4 rfl dX12_work_272 ?_
                      refine g_Si (As := [.int r_55, .int (t.1 0 17)]) (rest := [.int v_51, .ref (ad 3)]) C hP hD hS hA (T_X12_fieldOf l D K Z Y ad t hok (r_55) ((t.1 0 17)) (show (0 : Int) ≤ ((t.1 0 17) : Int32).toInt ∧ ((t.1 0 17) : Int32).toInt ≤ 63 from ⟨by omega, by omega⟩)) hE hZ (uwS m_58_17 m_58_18 m_1_5 m_58_19) (hdS 2 (by decide +kernel) rfl) ⟨Nat.le_of_ble_eq_true rfl, Nat.le_of_ble_eq_true rfl⟩ rfl rfl rfl hl.1 (Nat.le_of_ble_eq_true rfl) dX12_work_275 ⟨Nat.le_of_ble_eq_true rfl, Nat.le_of_ble_eq_true rfl⟩ (fun r_60 t_59 H locs hw hP hD hS => ?_)
                      obtain ⟨h_62, h_63⟩ := hw
                      refine lv_ldc (v := 1073741824) C.1 C.2.1 C.2.2.2.1 (C.2.2.2.2.1 _ m_34_19) dX12_work_278 ?_
                      obtain ⟨v_64, e_65⟩ : ∃ z, z = (r_60 : Int32) ^^^ (1073741824 : Int32) := ⟨_, rfl⟩
                      have h_66 : (0 : Int) ≤ v_64.toInt ∧ v_64.toInt ≤ 2147483647 := by rw [e_65]; exact z_xor (k := 31) (by decide) (by show (0 : Int) ≤ r_60.toInt; omega) (by show r_60.toInt < (_ : Int); omega) (by show (0 : Int) ≤ 1073741824; omega) (by show 1073741824 < (_ : Int); omega)
                      refine k_ixor (v := v_64) C e_65.symm dX12_work_280 ?_
                      refine k_ist (ws' := WM K ad (uB t 3 (v_51 : Int32).toNatClampNeg v_64)) (x' := v_64) C hP hD hS 3 rfl (vp_in_iff.mpr ⟨by omega, by omega⟩) rfl rfl rfl dX12_work_281 (fun H locs hP hD hS => ?_)
                      have hok : okM (uB t 3 (v_51 : Int32).toNatClampNeg v_64) := ⟨hok.1, okB_B hok.2.1 3 _ v_64 (show (-2147483648 : Int) ≤ (v_64 : Int32).toInt ∧ (v_64 : Int32).toInt ≤ 2147483647 from (i_rng _)), hok.2.2.1, hok.2.2.2.1, hok.2.2.2.2.1, hok.2.2.2.2.2.1, hok.2.2.2.2.2.2.1, trivial⟩
                      have hfr : frA [(0, 5), (0, 6)] [] [2, 3] [] t (uB t 3 (v_51 : Int32).toNatClampNeg v_64) := frA_B hfr 3 _ _ rfl
                      refine lv_goto (tgt := 362) C.1 C.2.1 dX12_work_282 (by decide) ?_
                      exact g_vret C hr hlocks hP hD hS (uB t 3 (v_51 : Int32).toNatClampNeg v_64) rfl ⟨hok, hfr⟩ (Nat.le_of_ble_eq_true rfl) (Nat.le_of_ble_eq_true rfl) dX12_work_362
                  · replace c_15 : (t.1 0 16).toInt < 16 := i_nle c_15
                    refine lv_aload_n C.1 C.2.1 dX12_work_204 rfl (lv_at hl 0 rfl) ?_
                    refine k_get (v := .ref (ad 3)) C hP 0 rfl rfl inlX12 4 (by decide) m_7_6 rfl dX12_work_205 ?_
                    refine lv_aload_n C.1 C.2.1 dX12_work_208 rfl (lv_at hl 0 rfl) ?_
                    refine k_get (v := .int (t.1 0 16)) C hP 0 rfl rfl inlX12 16 (by decide) m_57_3 rfl dX12_work_209 ?_
                    refine lv_bipush (v := 8) C.1 C.2.1 dX12_work_212 (by decide) ?_
                    obtain ⟨v_67, e_68⟩ : ∃ z, z = ((t.1 0 16) : Int32) - (8 : Int32) := ⟨_, rfl⟩
                    have h_69 : v_67.toInt = (t.1 0 16).toInt - 8 := by rw [e_68]; exact ti_isub (by show (_ : Int) ≤ (t.1 0 16).toInt - 8; omega) (by show (t.1 0 16).toInt - 8 < (_ : Int); omega)
                    refine k_isub (v := v_67) C e_68.symm dX12_work_214 ?_
                    refine lv_aload_n C.1 C.2.1 dX12_work_215 rfl (lv_at hl 0 rfl) ?_
                    refine lv_aload_n C.1 C.2.1 dX12_work_216 rfl (lv_at hl 0 rfl) ?_
                    refine k_get (v := .int (t.1 0 18)) C hP 0 rfl rfl inlX12 18 (by decide) m_57_5 rfl dX12_work_217 ?_
                    refine g_Vi (As := [.int (t.1 0 18)]) (rest := [.int v_67, .ref (ad 3)]) C hP hD hS hA (T_X12_memoryAt l D K Z Y ad t hok ((t.1 0 18)) (show (-3999 : Int) ≤ ((t.1 0 18) : Int32).toInt ∧ ((t.1 0 18) : Int32).toInt ≤ 3999 from ⟨by omega, by omega⟩)) hE hZ (uwV m_38_19 m_38_20 m_38_21 m_1_5 m_38_22) (hdV 1 (by decide +kernel) rfl) ⟨Nat.le_of_ble_eq_true rfl, Nat.le_of_ble_eq_true rfl⟩ rfl rfl (ci := 11) (q0 := 0) rfl rfl rfl hl.1 (Nat.le_of_ble_eq_true rfl) dX12_work_220 ⟨Nat.le_of_ble_eq_true rfl, Nat.le_of_ble_eq_true rfl⟩ (fun r_71 t_70 H locs hw hP hD hS => ?_)
                    obtain ⟨h_73, h_74⟩ := hw
                    refine lv_aload_n C.1 C.2.1 dX12_work_223 rfl (lv_at hl 0 rfl) ?_
                    refine k_get (v := .int (t.1 0 17)) C hP 0 rfl rfl inlX12 17 (by decide) m_57_4 rfl dX12_work_224 ?_
                    refine g_Si (As := [.int r_71, .int (t.1 0 17)]) (rest := [.int v_67, .ref (ad 3)]) C hP hD hS hA (T_X12_fieldOf l D K Z Y ad t hok (r_71) ((t.1 0 17)) (show (0 : Int) ≤ ((t.1 0 17) : Int32).toInt ∧ ((t.1 0 17) : Int32).toInt ≤ 63 from ⟨by omega, by omega⟩)) hE hZ (uwS m_58_17 m_58_18 m_1_5 m_58_19) (hdS 2 (by decide +kernel) rfl) ⟨Nat.le_of_ble_eq_true rfl, Nat.le_of_ble_eq_true rfl⟩ rfl rfl rfl hl.1 (Nat.le_of_ble_eq_true rfl) dX12_work_227 ⟨Nat.le_of_ble_eq_true rfl, Nat.le_of_ble_eq_true rfl⟩ (fun r_76 t_75 H locs hw hP hD hS => ?_)
                    obtain ⟨h_78, h_79⟩ := hw
                    refine k_ist (ws' := WM K ad (uB t 3 (v_67 : Int32).toNatClampNeg r_76)) (x' := r_76) C hP hD hS 3 rfl (vp_in_iff.mpr ⟨by omega, by omega⟩) rfl rfl rfl dX12_work_230 (fun H locs hP hD hS => ?_)
                    have hok : okM (uB t 3 (v_67 : Int32).toNatClampNeg r_76) := ⟨hok.1, okB_B hok.2.1 3 _ r_76 (show (-2147483648 : Int) ≤ (r_76 : Int32).toInt ∧ (r_76 : Int32).toInt ≤ 2147483647 from (i_rng _)), hok.2.2.1, hok.2.2.2.1, hok.2.2.2.2.1, hok.2.2.2.2.2.1, hok.2.2.2.2.2.2.1, trivial⟩
                    have hfr : frA [(0, 5), (0, 6)] [] [2, 3] [] t (uB t 3 (v_67 : Int32).toNatClampNeg r_76) := frA_B hfr 3 _ _ rfl
                    refine lv_goto (tgt := 362) C.1 C.2.1 dX12_work_231 (by decide) ?_
                    exact g_vret C hr hlocks hP hD hS (uB t 3 (v_67 : Int32).toNatClampNeg r_76) rfl ⟨hok, hfr⟩ (Nat.le_of_ble_eq_true rfl) (Nat.le_of_ble_eq_true rfl) dX12_work_362
              · replace c_9 : (t.1 0 16).toInt = 7 := i_eq c_9
                refine lv_aload_n C.1 C.2.1 dX12_work_179 rfl (lv_at hl 0 rfl) ?_
                refine g_Vv (As := []) (rest := []) C hP hD hS hA (T_X12_moveWords l D K Z Y ad t hok (show gdA (t.1 0 16) (t.1 0 17) (t.1 0 18) (t.2.2.1 3) from hs0) (show (t.1 0 16).toInt = 7 from by omega)) hE hZ (uwV m_62_15 m_62_16 m_62_17 m_1_5 m_62_18) (hdV 0 (by decide +kernel) rfl) ⟨Nat.le_of_ble_eq_true rfl, Nat.le_of_ble_eq_true rfl⟩ rfl rfl (ci := 11) (q0 := 0) rfl rfl rfl hl.1 (Nat.le_of_ble_eq_true rfl) dX12_work_180 ⟨Nat.le_of_ble_eq_true rfl, Nat.le_of_ble_eq_true rfl⟩ (fun t_80 H locs hw hP hD hS => ?_)
                obtain ⟨hok, f_82⟩ := hw
                have hfr : frA [(0, 5), (0, 6)] [] [2, 3] [] t t_80 := frA_tr hfr f_82 rfl
                have h_83 : (t_80.1 0 16).toInt = (t.1 0 16).toInt := ti_eq (f_82.1 0 16 rfl)
                have h_84 : (t_80.1 0 17).toInt = (t.1 0 17).toInt := ti_eq (f_82.1 0 17 rfl)
                have h_85 : (t_80.1 0 18).toInt = (t.1 0 18).toInt := ti_eq (f_82.1 0 18 rfl)
                have h_86 : (0 : Int) ≤ (t_80.1 0 17).toInt ∧ (t_80.1 0 17).toInt ≤ 63 := hok.1 0 17
                refine lv_goto (tgt := 362) C.1 C.2.1 dX12_work_183 (by decide) ?_
                exact g_vret C hr hlocks hP hD hS t_80 rfl ⟨hok, hfr⟩ (Nat.le_of_ble_eq_true rfl) (Nat.le_of_ble_eq_true rfl) dX12_work_362
            · replace c_8 : (t.1 0 16).toInt = 6 := i_eq c_8
              refine lv_aload_n C.1 C.2.1 dX12_work_163 rfl (lv_at hl 0 rfl) ?_
              refine g_Vv (As := []) (rest := []) C hP hD hS hA (T_X12_shift l D K Z Y ad t hok ) hE hZ (uwV m_62_10 m_62_11 m_62_12 m_1_5 m_62_13) (hdV 0 (by decide +kernel) rfl) ⟨Nat.le_of_ble_eq_true rfl, Nat.le_of_ble_eq_true rfl⟩ rfl rfl (ci := 11) (q0 := 0) rfl rfl rfl hl.1 (Nat.le_of_ble_eq_true rfl) dX12_work_164 ⟨Nat.le_of_ble_eq_true rfl, Nat.le_of_ble_eq_true rfl⟩ (fun t_87 H locs hw hP hD hS => ?_)
              obtain ⟨hok, f_89⟩ := hw
              have hfr : frA [(0, 5), (0, 6)] [] [2, 3] [] t t_87 := frA_tr hfr f_89 rfl
              have h_90 : (t_87.1 0 16).toInt = (t.1 0 16).toInt := ti_eq (f_89.1 0 16 rfl)
              have h_91 : (t_87.1 0 17).toInt = (t.1 0 17).toInt := ti_eq (f_89.1 0 17 rfl)
              have h_92 : (t_87.1 0 18).toInt = (t.1 0 18).toInt := ti_eq (f_89.1 0 18 rfl)
              have h_93 : (0 : Int) ≤ (t_87.1 0 17).toInt ∧ (t_87.1 0 17).toInt ≤ 63 := hok.1 0 17
              refine lv_goto (tgt := 362) C.1 C.2.1 dX12_work_167 (by decide) ?_
              exact g_vret C hr hlocks hP hD hS t_87 rfl ⟨hok, hfr⟩ (Nat.le_of_ble_eq_true rfl) (Nat.le_of_ble_eq_true rfl) dX12_work_362
          · replace c_7 : (t.1 0 16).toInt = 5 := i_eq c_7
            refine lv_aload_n C.1 C.2.1 dX12_work_139 rfl (lv_at hl 0 rfl) ?_
            refine k_get (v := .int (t.1 0 17)) C hP 0 rfl rfl inlX12 17 (by decide) m_57_4 rfl dX12_work_140 ?_
            refine lv_iconst (v := 2) C.1 C.2.1 dX12_work_143 (by decide) ?_
            refine lv_icmp_ge (tgt := 154) C.1 C.2.1 dX12_work_144 (by decide) (fun c_94 => ?_) (fun c_94 => ?_)
            · replace c_94 : 2 ≤ (t.1 0 17).toInt := i_le c_94
              refine lv_aload_n C.1 C.2.1 dX12_work_154 rfl (lv_at hl 0 rfl) ?_
              refine k_get (v := .int (t.1 0 16)) C hP 0 rfl rfl inlX12 16 (by decide) m_57_3 rfl dX12_work_155 ?_
              refine lv_bipush (v := 6) C.1 C.2.1 dX12_work_158 (by decide) ?_
              refine lv_icmp_ne (tgt := 170) C.1 C.2.1 dX12_work_160 (by decide) (fun c_95 => ?_) (fun c_95 => False.elim (by have c_95 : (t.1 0 16).toInt = 6 := i_eq c_95; omega))
              replace c_95 : ¬ (t.1 0 16).toInt = 6 := i_ne c_95
              refine lv_aload_n C.1 C.2.1 dX12_work_170 rfl (lv_at hl 0 rfl) ?_
              refine k_get (v := .int (t.1 0 16)) C hP 0 rfl rfl inlX12 16 (by decide) m_57_3 rfl dX12_work_171 ?_
              refine lv_bipush (v := 7) C.1 C.2.1 dX12_work_174 (by decide) ?_
              refine lv_icmp_ne (tgt := 186) C.1 C.2.1 dX12_work_176 (by decide) (fun c_96 => ?_) (fun c_96 => False.elim (by have c_96 : (t.1 0 16).toInt = 7 := i_eq c_96; omega))
              replace c_96 : ¬ (t.1 0 16).toInt = 7 := i_ne c_96
              refine lv_aload_n C.1 C.2.1 dX12_work_186 rfl (lv_at hl 0 rfl) ?_
              refine k_get (v := .int (t.1 0 16)) C hP 0 rfl rfl inlX12 16 (by decide) m_57_3 rfl dX12_work_187 ?_
              refine lv_bipush (v := 7) C.1 C.2.1 dX12_work_190 (by decide) ?_
              refine lv_icmp_le (tgt := 234) C.1 C.2.1 dX12_work_192 (by decide) (fun c_97 => ?_) (fun c_97 => False.elim (by have c_97 : 7 < (t.1 0 16).toInt := i_nle c_97; omega))
              replace c_97 : (t.1 0 16).toInt ≤ 7 := i_le c_97
              refine lv_aload_n C.1 C.2.1 dX12_work_234 rfl (lv_at hl 0 rfl) ?_
              refine k_get (v := .int (t.1 0 16)) C hP 0 rfl rfl inlX12 16 (by decide) m_57_3 rfl dX12_work_235 ?_
              refine lv_bipush (v := 15) C.1 C.2.1 dX12_work_238 (by decide) ?_
              refine lv_icmp_le (tgt := 285) C.1 C.2.1 dX12_work_240 (by decide) (fun c_98 => ?_) (fun c_98 => False.elim (by have c_98 : 15 < (t.1 0 16).toInt := i_nle c_98; omega))
              replace c_98 : (t.1 0 16).toInt ≤ 15 := i_le c_98
              refine lv_aload_n C.1 C.2.1 dX12_work_285 rfl (lv_at hl 0 rfl) ?_
              refine k_get (v := .int (t.1 0 16)) C hP 0 rfl rfl inlX12 16 (by decide) m_57_3 rfl dX12_work_286 ?_
              refine lv_bipush (v := 23) C.1 C.2.1 dX12_work_289 (by decide) ?_
              refine lv_icmp_le (tgt := 310) C.1 C.2.1 dX12_work_291 (by decide) (fun c_99 => ?_) (fun c_99 => False.elim (by have c_99 : 23 < (t.1 0 16).toInt := i_nle c_99; omega))
              replace c_99 : (t.1 0 16).toInt ≤ 23 := i_le c_99
              refine lv_aload_n C.1 C.2.1 dX12_work_310 rfl (lv_at hl 0 rfl) ?_
              refine k_get (v := .int (t.1 0 16)) C hP 0 rfl rfl inlX12 16 (by decide) m_57_3 rfl dX12_work_311 ?_
              refine lv_bipush (v := 47) C.1 C.2.1 dX12_work_314 (by decide) ?_
              refine lv_icmp_le (tgt := 342) C.1 C.2.1 dX12_work_316 (by decide) (fun c_100 => ?_) (fun c_100 => False.elim (by have c_100 : 47 < (t.1 0 16).toInt := i_nle c_100; omega))
              replace c_100 : (t.1 0 16).toInt ≤ 47 := i_le c_100
              refine lv_aload_n C.1 C.2.1 dX12_work_342 rfl (lv_at hl 0 rfl) ?_
              refine k_get (v := .int (t.1 0 16)) C hP 0 rfl rfl inlX12 16 (by decide) m_57_3 rfl dX12_work_343 ?_
              refine lv_bipush (v := 55) C.1 C.2.1 dX12_work_346 (by decide) ?_
              refine lv_icmp_le (tgt := 362) C.1 C.2.1 dX12_work_348 (by decide) (fun c_101 => ?_) (fun c_101 => False.elim (by have c_101 : 55 < (t.1 0 16).toInt := i_nle c_101; omega))
              replace c_101 : (t.1 0 16).toInt ≤ 55 := i_le c_101
              exact g_vret C hr hlocks hP hD hS t rfl ⟨hok, hfr⟩ (Nat.le_of_ble_eq_true rfl) (Nat.le_of_ble_eq_true rfl) dX12_work_362
            · replace c_94 : (t.1 0 17).toInt < 2 := i_nle c_94
              refine lv_aload_n C.1 C.2.1 dX12_work_147 rfl (lv_at hl 0 rfl) ?_
              refine g_Vv (As := []) (rest := []) C hP hD hS hA (T_X12_convert l D K Z Y ad t hok ) hE hZ (uwV m_62_2 m_62_3 m_62_4 m_1_5 m_62_5) (hdV 0 (by decide +kernel) rfl) ⟨Nat.le_of_ble_eq_true rfl, Nat.le_of_ble_eq_true rfl⟩ rfl rfl (ci := 11) (q0 := 0) rfl rfl rfl hl.1 (Nat.le_of_ble_eq_true rfl) dX12_work_148 ⟨Nat.le_of_ble_eq_true rfl, Nat.le_of_ble_eq_true rfl⟩ (fun t_102 H locs hw hP hD hS => ?_)
              obtain ⟨hok, f_104⟩ := hw
              have hfr : frA [(0, 5), (0, 6)] [] [2, 3] [] t t_102 := frA_tr hfr f_104 rfl
              have h_105 : (t_102.1 0 16).toInt = (t.1 0 16).toInt := ti_eq (f_104.1 0 16 rfl)
              have h_106 : (t_102.1 0 17).toInt = (t.1 0 17).toInt := ti_eq (f_104.1 0 17 rfl)
              have h_107 : (t_102.1 0 18).toInt = (t.1 0 18).toInt := ti_eq (f_104.1 0 18 rfl)
              refine lv_goto (tgt := 362) C.1 C.2.1 dX12_work_151 (by decide) ?_
              exact g_vret C hr hlocks hP hD hS t_102 rfl ⟨hok, hfr⟩ (Nat.le_of_ble_eq_true rfl) (Nat.le_of_ble_eq_true rfl) dX12_work_362
        · replace c_6 : (t.1 0 16).toInt = 4 := i_eq c_6
          refine lv_aload_n C.1 C.2.1 dX12_work_109 rfl (lv_at hl 0 rfl) ?_
          refine lv_aload_n C.1 C.2.1 dX12_work_110 rfl (lv_at hl 0 rfl) ?_
          refine lv_aload_n C.1 C.2.1 dX12_work_111 rfl (lv_at hl 0 rfl) ?_
          refine k_get (v := .int (t.1 0 18)) C hP 0 rfl rfl inlX12 18 (by decide) m_57_5 rfl dX12_work_112 ?_
          refine g_Vi (As := [.int (t.1 0 18)]) (rest := [.ref (ad 0)]) C hP hD hS hA (T_X12_memoryAt l D K Z Y ad t hok ((t.1 0 18)) (show (-3999 : Int) ≤ ((t.1 0 18) : Int32).toInt ∧ ((t.1 0 18) : Int32).toInt ≤ 3999 from ⟨by omega, by omega⟩)) hE hZ (uwV m_38_19 m_38_20 m_38_21 m_1_5 m_38_22) (hdV 1 (by decide +kernel) rfl) ⟨Nat.le_of_ble_eq_true rfl, Nat.le_of_ble_eq_true rfl⟩ rfl rfl (ci := 11) (q0 := 0) rfl rfl rfl hl.1 (Nat.le_of_ble_eq_true rfl) dX12_work_115 ⟨Nat.le_of_ble_eq_true rfl, Nat.le_of_ble_eq_true rfl⟩ (fun r_109 t_108 H locs hw hP hD hS => ?_)
          obtain ⟨h_111, h_112⟩ := hw
          refine lv_aload_n C.1 C.2.1 dX12_work_118 rfl (lv_at hl 0 rfl) ?_
          refine k_get (v := .int (t.1 0 17)) C hP 0 rfl rfl inlX12 17 (by decide) m_57_4 rfl dX12_work_119 ?_
          refine g_Si (As := [.int r_109, .int (t.1 0 17)]) (rest := [.ref (ad 0)]) C hP hD hS hA (T_X12_fieldOf l D K Z Y ad t hok (r_109) ((t.1 0 17)) (show (0 : Int) ≤ ((t.1 0 17) : Int32).toInt ∧ ((t.1 0 17) : Int32).toInt ≤ 63 from ⟨by omega, by omega⟩)) hE hZ (uwS m_58_17 m_58_18 m_1_5 m_58_19) (hdS 2 (by decide +kernel) rfl) ⟨Nat.le_of_ble_eq_true rfl, Nat.le_of_ble_eq_true rfl⟩ rfl rfl rfl hl.1 (Nat.le_of_ble_eq_true rfl) dX12_work_122 ⟨Nat.le_of_ble_eq_true rfl, Nat.le_of_ble_eq_true rfl⟩ (fun r_114 t_113 H locs hw hP hD hS => ?_)
          obtain ⟨h_116, h_117⟩ := hw
          refine g_Vv (As := [.int r_114]) (rest := []) C hP hD hS hA (T_X12_divide l D K Z Y ad t hok (r_114) (show (0 : Int) ≤ (r_114 : Int32).toInt ∧ (r_114 : Int32).toInt ≤ 2147483647 from ⟨by omega, (i_rng _).2⟩)) hE hZ (uwV m_61_22 m_61_23 m_62_0 m_1_5 m_62_1) (hdV 1 (by decide +kernel) rfl) ⟨Nat.le_of_ble_eq_true rfl, Nat.le_of_ble_eq_true rfl⟩ rfl rfl (ci := 11) (q0 := 0) rfl rfl rfl hl.1 (Nat.le_of_ble_eq_true rfl) dX12_work_125 ⟨Nat.le_of_ble_eq_true rfl, Nat.le_of_ble_eq_true rfl⟩ (fun t_118 H locs hw hP hD hS => ?_)
          obtain ⟨hok, f_120⟩ := hw
          have hfr : frA [(0, 5), (0, 6)] [] [2, 3] [] t t_118 := frA_tr hfr f_120 rfl
          have h_121 : (t_118.1 0 16).toInt = (t.1 0 16).toInt := ti_eq (f_120.1 0 16 rfl)
          have h_122 : (t_118.1 0 18).toInt = (t.1 0 18).toInt := ti_eq (f_120.1 0 18 rfl)
          have h_123 : (t_118.1 0 17).toInt = (t.1 0 17).toInt := ti_eq (f_120.1 0 17 rfl)
          refine lv_goto (tgt := 362) C.1 C.2.1 dX12_work_128 (by decide) ?_
          exact g_vret C hr hlocks hP hD hS t_118 rfl ⟨hok, hfr⟩ (Nat.le_of_ble_eq_true rfl) (Nat.le_of_ble_eq_true rfl) dX12_work_362
      · replace c_5 : (t.1 0 16).toInt = 3 := i_eq c_5
        refine lv_aload_n C.1 C.2.1 dX12_work_79 rfl (lv_at hl 0 rfl) ?_
        refine lv_aload_n C.1 C.2.1 dX12_work_80 rfl (lv_at hl 0 rfl) ?_
        refine lv_aload_n C.1 C.2.1 dX12_work_81 rfl (lv_at hl 0 rfl) ?_
        refine k_get (v := .int (t.1 0 18)) C hP 0 rfl rfl inlX12 18 (by decide) m_57_5 rfl dX12_work_82 ?_
        refine g_Vi (As := [.int (t.1 0 18)]) (rest := [.ref (ad 0)]) C hP hD hS hA (T_X12_memoryAt l D K Z Y ad t hok ((t.1 0 18)) (show (-3999 : Int) ≤ ((t.1 0 18) : Int32).toInt ∧ ((t.1 0 18) : Int32).toInt ≤ 3999 from ⟨by omega, by omega⟩)) hE hZ (uwV m_38_19 m_38_20 m_38_21 m_1_5 m_38_22) (hdV 1 (by decide +kernel) rfl) ⟨Nat.le_of_ble_eq_true rfl, Nat.le_of_ble_eq_true rfl⟩ rfl rfl (ci := 11) (q0 := 0) rfl rfl rfl hl.1 (Nat.le_of_ble_eq_true rfl) dX12_work_85 ⟨Nat.le_of_ble_eq_true rfl, Nat.le_of_ble_eq_true rfl⟩ (fun r_125 t_124 H locs hw hP hD hS => ?_)
        obtain ⟨h_127, h_128⟩ := hw
        refine lv_aload_n C.1 C.2.1 dX12_work_88 rfl (lv_at hl 0 rfl) ?_
        refine k_get (v := .int (t.1 0 17)) C hP 0 rfl rfl inlX12 17 (by decide) m_57_4 rfl dX12_work_89 ?_
        refine g_Si (As := [.int r_125, .int (t.1 0 17)]) (rest := [.ref (ad 0)]) C hP hD hS hA (T_X12_fieldOf l D K Z Y ad t hok (r_125) ((t.1 0 17)) (show (0 : Int) ≤ ((t.1 0 17) : Int32).toInt ∧ ((t.1 0 17) : Int32).toInt ≤ 63 from ⟨by omega, by omega⟩)) hE hZ (uwS m_58_17 m_58_18 m_1_5 m_58_19) (hdS 2 (by decide +kernel) rfl) ⟨Nat.le_of_ble_eq_true rfl, Nat.le_of_ble_eq_true rfl⟩ rfl rfl rfl hl.1 (Nat.le_of_ble_eq_true rfl) dX12_work_92 ⟨Nat.le_of_ble_eq_true rfl, Nat.le_of_ble_eq_true rfl⟩ (fun r_130 t_129 H locs hw hP hD hS => ?_)
        obtain ⟨h_132, h_133⟩ := hw
        refine g_Vv (As := [.int r_130]) (rest := []) C hP hD hS hA (T_X12_multiply l D K Z Y ad t hok (r_130) (show (0 : Int) ≤ (r_130 : Int32).toInt ∧ (r_130 : Int32).toInt ≤ 2147483647 from ⟨by omega, (i_rng _).2⟩)) hE hZ (uwV m_61_18 m_61_19 m_61_20 m_1_5 m_61_21) (hdV 1 (by decide +kernel) rfl) ⟨Nat.le_of_ble_eq_true rfl, Nat.le_of_ble_eq_true rfl⟩ rfl rfl (ci := 11) (q0 := 0) rfl rfl rfl hl.1 (Nat.le_of_ble_eq_true rfl) dX12_work_95 ⟨Nat.le_of_ble_eq_true rfl, Nat.le_of_ble_eq_true rfl⟩ (fun t_134 H locs hw hP hD hS => ?_)
        obtain ⟨hok, f_136⟩ := hw
        have hfr : frA [(0, 5), (0, 6)] [] [2, 3] [] t t_134 := frA_tr hfr f_136 rfl
        have h_137 : (t_134.1 0 16).toInt = (t.1 0 16).toInt := ti_eq (f_136.1 0 16 rfl)
        have h_138 : (t_134.1 0 18).toInt = (t.1 0 18).toInt := ti_eq (f_136.1 0 18 rfl)
        have h_139 : (t_134.1 0 17).toInt = (t.1 0 17).toInt := ti_eq (f_136.1 0 17 rfl)
        refine lv_goto (tgt := 362) C.1 C.2.1 dX12_work_98 (by decide) ?_
        exact g_vret C hr hlocks hP hD hS t_134 rfl ⟨hok, hfr⟩ (Nat.le_of_ble_eq_true rfl) (Nat.le_of_ble_eq_true rfl) dX12_work_362
    · replace c_4 : (t.1 0 16).toInt = 2 := i_eq c_4
      refine lv_aload_n C.1 C.2.1 dX12_work_43 rfl (lv_at hl 0 rfl) ?_
      refine lv_iconst (v := 0) C.1 C.2.1 dX12_work_44 (by decide) ?_
      refine lv_aload_n C.1 C.2.1 dX12_work_45 rfl (lv_at hl 0 rfl) ?_
      refine lv_aload_n C.1 C.2.1 dX12_work_46 rfl (lv_at hl 0 rfl) ?_
      refine k_get (v := .int (t.1 0 18)) C hP 0 rfl rfl inlX12 18 (by decide) m_57_5 rfl dX12_work_47 ?_
      refine g_Vi (As := [.int (t.1 0 18)]) (rest := [.int 0, .ref (ad 0)]) C hP hD hS hA (T_X12_memoryAt l D K Z Y ad t hok ((t.1 0 18)) (show (-3999 : Int) ≤ ((t.1 0 18) : Int32).toInt ∧ ((t.1 0 18) : Int32).toInt ≤ 3999 from ⟨by omega, by omega⟩)) hE hZ (uwV m_38_19 m_38_20 m_38_21 m_1_5 m_38_22) (hdV 1 (by decide +kernel) rfl) ⟨Nat.le_of_ble_eq_true rfl, Nat.le_of_ble_eq_true rfl⟩ rfl rfl (ci := 11) (q0 := 0) rfl rfl rfl hl.1 (Nat.le_of_ble_eq_true rfl) dX12_work_50 ⟨Nat.le_of_ble_eq_true rfl, Nat.le_of_ble_eq_true rfl⟩ (fun r_141 t_140 H locs hw hP hD hS => ?_)
      obtain ⟨h_143, h_144⟩ := hw
      refine lv_aload_n C.1 C.2.1 dX12_work_53 rfl (lv_at hl 0 rfl) ?_
      refine k_get (v := .int (t.1 0 17)) C hP 0 rfl rfl inlX12 17 (by decide) m_57_4 rfl dX12_work_54 ?_
      refine g_Si (As := [.int r_141, .int (t.1 0 17)]) (rest := [.int 0, .ref (ad 0)]) C hP hD hS hA (T_X12_fieldOf l D K Z Y ad t hok (r_141) ((t.1 0 17)) (show (0 : Int) ≤ ((t.1 0 17) : Int32).toInt ∧ ((t.1 0 17) : Int32).toInt ≤ 63 from ⟨by omega, by omega⟩)) hE hZ (uwS m_58_17 m_58_18 m_1_5 m_58_19) (hdS 2 (by decide +kernel) rfl) ⟨Nat.le_of_ble_eq_true rfl, Nat.le_of_ble_eq_true rfl⟩ rfl rfl rfl hl.1 (Nat.le_of_ble_eq_true rfl) dX12_work_57 ⟨Nat.le_of_ble_eq_true rfl, Nat.le_of_ble_eq_true rfl⟩ (fun r_146 t_145 H locs hw hP hD hS => ?_)
      obtain ⟨h_148, h_149⟩ := hw
      refine g_Si (As := [.int r_146]) (rest := [.int 0, .ref (ad 0)]) C hP hD hS hA (T_X12_value l D K Z Y ad t hok (r_146)) hE hZ (uwS m_36_9 m_36_10 m_1_5 m_36_11) (hdS 1 (by decide +kernel) rfl) ⟨Nat.le_of_ble_eq_true rfl, Nat.le_of_ble_eq_true rfl⟩ rfl rfl rfl hl.1 (Nat.le_of_ble_eq_true rfl) dX12_work_60 ⟨Nat.le_of_ble_eq_true rfl, Nat.le_of_ble_eq_true rfl⟩ (fun r_151 t_150 H locs hw hP hD hS => ?_)
      obtain ⟨h_153, h_154, p_155⟩ := hw
      replace p_155 : r_151.toInt = (vO r_146).toInt := p_155
      obtain ⟨v_156, e_157⟩ : ∃ z, z = (r_151 : Int32).toInt64 := ⟨_, rfl⟩
      have h_158 : v_156.toInt = r_151.toInt := by rw [e_157]; exact Jvm.Kit.i64_of_i32 _
      have h_159 := i_rng r_151
      refine lv_i2l (v := v_156) C.1 C.2.1 dX12_work_63 e_157.symm ?_
      have h_160 : (-v_156).toInt = -v_156.toInt := Jvm.Kit.i64_neg (by show ¬ v_156.toInt = (_ : Int); omega)
      refine lv_lneg C.1 C.2.1 dX12_work_64 ?_
      refine g_Vv (As := [.int 0, .long (-v_156)]) (rest := []) C hP hD hS hA (T_X12_addTo l D K Z Y ad t hok 0 (show (0 : Int) ≤ (0 : Int32).toInt ∧ (0 : Int32).toInt ≤ 7 from ⟨by decide, by decide⟩) ((-v_156)) (show (-2147483648 : Int) ≤ ((-v_156) : Int64).toInt ∧ ((-v_156) : Int64).toInt ≤ 2147483648 from ⟨by omega, by omega⟩)) hE hZ (uwV m_61_14 m_61_15 m_61_16 m_1_5 m_61_17) (hdV 2 (by decide +kernel) rfl) ⟨Nat.le_of_ble_eq_true rfl, Nat.le_of_ble_eq_true rfl⟩ rfl rfl (ci := 11) (q0 := 0) rfl rfl rfl hl.1 (Nat.le_of_ble_eq_true rfl) dX12_work_65 ⟨Nat.le_of_ble_eq_true rfl, Nat.le_of_ble_eq_true rfl⟩ (fun t_161 H locs hw hP hD hS => ?_)
      obtain ⟨hok, f_163⟩ := hw
      have hfr : frA [(0, 5), (0, 6)] [] [2, 3] [] t t_161 := frA_tr hfr f_163 rfl
      have h_164 : (t_161.1 0 16).toInt = (t.1 0 16).toInt := ti_eq (f_163.1 0 16 rfl)
      have h_165 : (t_161.1 0 18).toInt = (t.1 0 18).toInt := ti_eq (f_163.1 0 18 rfl)
      have h_166 : (t_161.1 0 17).toInt = (t.1 0 17).toInt := ti_eq (f_163.1 0 17 rfl)
      refine lv_goto (tgt := 362) C.1 C.2.1 dX12_work_68 (by decide) ?_
      exact g_vret C hr hlocks hP hD hS t_161 rfl ⟨hok, hfr⟩ (Nat.le_of_ble_eq_true rfl) (Nat.le_of_ble_eq_true rfl) dX12_work_362
  · replace c_3 : (t.1 0 16).toInt = 1 := i_eq c_3
    refine lv_aload_n C.1 C.2.1 dX12_work_8 rfl (lv_at hl 0 rfl) ?_
    refine lv_iconst (v := 0) C.1 C.2.1 dX12_work_9 (by decide) ?_
    refine lv_aload_n C.1 C.2.1 dX12_work_10 rfl (lv_at hl 0 rfl) ?_
    refine lv_aload_n C.1 C.2.1 dX12_work_11 rfl (lv_at hl 0 rfl) ?_
    refine k_get (v := .int (t.1 0 18)) C hP 0 rfl rfl inlX12 18 (by decide) m_57_5 rfl dX12_work_12 ?_
    refine g_Vi (As := [.int (t.1 0 18)]) (rest := [.int 0, .ref (ad 0)]) C hP hD hS hA (T_X12_memoryAt l D K Z Y ad t hok ((t.1 0 18)) (show (-3999 : Int) ≤ ((t.1 0 18) : Int32).toInt ∧ ((t.1 0 18) : Int32).toInt ≤ 3999 from ⟨by omega, by omega⟩)) hE hZ (uwV m_38_19 m_38_20 m_38_21 m_1_5 m_38_22) (hdV 1 (by decide +kernel) rfl) ⟨Nat.le_of_ble_eq_true rfl, Nat.le_of_ble_eq_true rfl⟩ rfl rfl (ci := 11) (q0 := 0) rfl rfl rfl hl.1 (Nat.le_of_ble_eq_true rfl) dX12_work_15 ⟨Nat.le_of_ble_eq_true rfl, Nat.le_of_ble_eq_true rfl⟩ (fun r_168 t_167 H locs hw hP hD hS => ?_)
    obtain ⟨h_170, h_171⟩ := hw
    refine lv_aload_n C.1 C.2.1 dX12_work_18 rfl (lv_at hl 0 rfl) ?_
    refine k_get (v := .int (t.1 0 17)) C hP 0 rfl rfl inlX12 17 (by decide) m_57_4 rfl dX12_work_19 ?_
    refine g_Si (As := [.int r_168, .int (t.1 0 17)]) (rest := [.int 0, .ref (ad 0)]) C hP hD hS hA (T_X12_fieldOf l D K Z Y ad t hok (r_168) ((t.1 0 17)) (show (0 : Int) ≤ ((t.1 0 17) : Int32).toInt ∧ ((t.1 0 17) : Int32).toInt ≤ 63 from ⟨by omega, by omega⟩)) hE hZ (uwS m_58_17 m_58_18 m_1_5 m_58_19) (hdS 2 (by decide +kernel) rfl) ⟨Nat.le_of_ble_eq_true rfl, Nat.le_of_ble_eq_true rfl⟩ rfl rfl rfl hl.1 (Nat.le_of_ble_eq_true rfl) dX12_work_22 ⟨Nat.le_of_ble_eq_true rfl, Nat.le_of_ble_eq_true rfl⟩ (fun r_173 t_172 H locs hw hP hD hS => ?_)
    obtain ⟨h_175, h_176⟩ := hw
    refine g_Si (As := [.int r_173]) (rest := [.int 0, .ref (ad 0)]) C hP hD hS hA (T_X12_value l D K Z Y ad t hok (r_173)) hE hZ (uwS m_36_9 m_36_10 m_1_5 m_36_11) (hdS 1 (by decide +kernel) rfl) ⟨Nat.le_of_ble_eq_true rfl, Nat.le_of_ble_eq_true rfl⟩ rfl rfl rfl hl.1 (Nat.le_of_ble_eq_true rfl) dX12_work_25 ⟨Nat.le_of_ble_eq_true rfl, Nat.le_of_ble_eq_true rfl⟩ (fun r_178 t_177 H locs hw hP hD hS => ?_)
    obtain ⟨h_180, h_181, p_182⟩ := hw
    replace p_182 : r_178.toInt = (vO r_173).toInt := p_182
    obtain ⟨v_183, e_184⟩ : ∃ z, z = (r_178 : Int32).toInt64 := ⟨_, rfl⟩
    have h_185 : v_183.toInt = r_178.toInt := by rw [e_184]; exact Jvm.Kit.i64_of_i32 _
    have h_186 := i_rng r_178
    refine lv_i2l (v := v_183) C.1 C.2.1 dX12_work_28 e_184.symm ?_
    refine g_Vv (As := [.int 0, .long v_183]) (rest := []) C hP hD hS hA (T_X12_addTo l D K Z Y ad t hok 0 (show (0 : Int) ≤ (0 : Int32).toInt ∧ (0 : Int32).toInt ≤ 7 from ⟨by decide, by decide⟩) (v_183) (show (-2147483648 : Int) ≤ (v_183 : Int64).toInt ∧ (v_183 : Int64).toInt ≤ 2147483648 from ⟨by omega, by omega⟩)) hE hZ (uwV m_61_14 m_61_15 m_61_16 m_1_5 m_61_17) (hdV 2 (by decide +kernel) rfl) ⟨Nat.le_of_ble_eq_true rfl, Nat.le_of_ble_eq_true rfl⟩ rfl rfl (ci := 11) (q0 := 0) rfl rfl rfl hl.1 (Nat.le_of_ble_eq_true rfl) dX12_work_29 ⟨Nat.le_of_ble_eq_true rfl, Nat.le_of_ble_eq_true rfl⟩ (fun t_187 H locs hw hP hD hS => ?_)
    obtain ⟨hok, f_189⟩ := hw
    have hfr : frA [(0, 5), (0, 6)] [] [2, 3] [] t t_187 := frA_tr hfr f_189 rfl
    have h_190 : (t_187.1 0 16).toInt = (t.1 0 16).toInt := ti_eq (f_189.1 0 16 rfl)
    have h_191 : (t_187.1 0 18).toInt = (t.1 0 18).toInt := ti_eq (f_189.1 0 18 rfl)
    have h_192 : (t_187.1 0 17).toInt = (t.1 0 17).toInt := ti_eq (f_189.1 0 17 rfl)
    refine lv_goto (tgt := 362) C.1 C.2.1 dX12_work_32 (by decide) ?_
    exact g_vret C hr hlocks hP hD hS t_187 rfl ⟨hok, hfr⟩ (Nat.le_of_ble_eq_true rfl) (Nat.le_of_ble_eq_true rfl) dX12_work_362

theorem dX12_deck_0 : decode cX12_deck 0 = .ok (.aload_n 0, 1) := by decide +kernel
theorem dX12_deck_1 : decode cX12_deck 1 = .ok (.iconst 0, 1) := by decide +kernel
theorem dX12_deck_12 : decode cX12_deck 12 = .ok (.aload_n 0, 1) := by decide +kernel
theorem dX12_deck_13 : decode cX12_deck 13 = .ok (.invokevirtual 685, 3) := by decide +kernel
theorem dX12_deck_16 : decode cX12_deck 16 = .ok (.goto 4, 3) := by decide +kernel
theorem dX12_deck_19 : decode cX12_deck 19 = .ok (.iconst (-1), 1) := by decide +kernel
theorem dX12_deck_2 : decode cX12_deck 2 = .ok (.putfield 155, 3) := by decide +kernel
theorem dX12_deck_20 : decode cX12_deck 20 = .ok (.ireturn, 1) := by decide +kernel
theorem dX12_deck_5 : decode cX12_deck 5 = .ok (.aload_n 0, 1) := by decide +kernel
theorem dX12_deck_6 : decode cX12_deck 6 = .ok (.getfield 633, 3) := by decide +kernel
theorem dX12_deck_9 : decode cX12_deck 9 = .ok (.ifCond .eq 10, 3) := by decide +kernel
set_option maxHeartbeats 4000000 in
set_option maxRecDepth 100000 in
theorem T_X12_deck (l : Launch) (D : va_G) (K : Nat → ClassId) (Z Y : Nat → Nat) (ad : Nat → Nat) (t : tSt) (hok : okM t)  : tMet l yX12_deck cX12_deck 1 (some .int) (rmD 4 0 0) D K Z Y [.ref (ad 0)] (WM K ad t) (QI D K (fun (r : Int32) (u : tSt) => okM u ∧ frA [(0, 0), (0, 30)] [] [11, 12, 13, 14] [] t u ∧ (-2147483648 : Int) ≤ r.toInt ∧ r.toInt ≤ 2147483647) (fun (u : tSt) => WM K ad u)) 0 0 := by
  refine t_met RX12 ⟨rfl, by decide +kernel⟩ (Nat.le_of_ble_eq_true rfl) ?_
  intro p e s m below meth c A ls C hE hZ hr hlocks hA hP hD hS hl
  have hl : lv_has ls 1 [(0, .ref (ad 0))] := hl
  have hokt := hok
  have hfr : frA [(0, 0), (0, 30)] [] [11, 12, 13, 14] [] t t := frA_rf
  refine lv_aload_n C.1 C.2.1 dX12_deck_0 rfl (lv_at hl 0 rfl) ?_
  refine lv_iconst (v := 0) C.1 C.2.1 dX12_deck_1 (by decide) ?_
  refine k_put (ws' := WM K ad (uI t 0 0 0)) (v := .int 0) C hP hD hS 0 rfl rfl inlX12 tyX12_ok nmX12 0 (by decide) m_9_18 rfl rfl rfl rfl rfl dX12_deck_2 (fun H locs hP hD hS => ?_)
  have hok : okM (uI t 0 0 0) := ⟨okI_I hok.1 0 0 0 (show (0 : Int) ≤ (0 : Int32).toInt ∧ (0 : Int32).toInt ≤ 1 from ⟨by decide, by decide⟩), hok.2.1, hok.2.2.1, hok.2.2.2.1, hok.2.2.2.2.1, hok.2.2.2.2.2.1, hok.2.2.2.2.2.2.1, trivial⟩
  have hfr : frA [(0, 0), (0, 30)] [] [11, 12, 13, 14] [] t (uI t 0 0 0) := frA_I hfr 0 0 _ rfl
  refine lv_aload_n C.1 C.2.1 dX12_deck_5 rfl (lv_at hl 0 rfl) ?_
  have h_1 : (0 : Int) ≤ (t.1 0 42).toInt ∧ (t.1 0 42).toInt ≤ 1 := hok.1 0 42
  refine k_get (v := .int (t.1 0 42)) C hP 0 rfl rfl inlX12 42 (by decide) m_29_16 rfl dX12_deck_6 ?_
  refine lv_if_eq (tgt := 19) C.1 C.2.1 dX12_deck_9 (by decide) (fun c_2 => ?_) (fun c_2 => ?_)
  · replace c_2 : (t.1 0 42).toInt = 0 := i_eq c_2
    refine lv_iconst (v := (-1)) C.1 C.2.1 dX12_deck_19 (by decide) ?_
    exact g_iret C hr hlocks hP hD hS rfl (uI t 0 0 0) rfl ⟨hok, hfr, (i_rng _).1, (i_rng _).2⟩ (Nat.le_of_ble_eq_true rfl) (Nat.le_of_ble_eq_true rfl) dX12_deck_20
  · replace c_2 : ¬ (t.1 0 42).toInt = 0 := i_ne c_2
    refine lv_aload_n C.1 C.2.1 dX12_deck_12 rfl (lv_at hl 0 rfl) ?_
    refine g_Vi (As := []) (rest := []) C hP hD hS hA (T_X12_punchCards l D K Z Y ad (uI t 0 0 0) hok ) hE hZ (uwV m_66_4 m_66_5 m_66_6 m_1_5 m_66_7) (hdV 0 (by decide +kernel) rfl) ⟨Nat.le_of_ble_eq_true rfl, Nat.le_of_ble_eq_true rfl⟩ rfl rfl (ci := 11) (q0 := 0) rfl rfl rfl hl.1 (Nat.le_of_ble_eq_true rfl) dX12_deck_13 ⟨Nat.le_of_ble_eq_true rfl, Nat.le_of_ble_eq_true rfl⟩ (fun r_4 t_3 H locs hw hP hD hS => ?_)
    obtain ⟨hok, f_5, h_6, h_7⟩ := hw
    have hfr : frA [(0, 0), (0, 30)] [] [11, 12, 13, 14] [] t t_3 := frA_tr hfr f_5 rfl
    have h_8 : (t_3.1 0 0).toInt = 0 := by rw [show (t_3.1 0 0) = (0 : Int32) from f_5.1 0 0 rfl]; rfl
    have h_9 : (t_3.1 0 42).toInt = (t.1 0 42).toInt := ti_eq (f_5.1 0 42 rfl)
    refine lv_goto (tgt := 20) C.1 C.2.1 dX12_deck_16 (by decide) ?_
    exact g_iret C hr hlocks hP hD hS rfl t_3 rfl ⟨hok, hfr, (i_rng _).1, (i_rng _).2⟩ (Nat.le_of_ble_eq_true rfl) (Nat.le_of_ble_eq_true rfl) dX12_deck_20

theorem dX12_list_0 : decode cX12_list 0 = .ok (.aload_n 0, 1) := by decide +kernel
theorem dX12_list_1 : decode cX12_list 1 = .ok (.iconst 0, 1) := by decide +kernel
theorem dX12_list_12 : decode cX12_list 12 = .ok (.aload_n 0, 1) := by decide +kernel
theorem dX12_list_13 : decode cX12_list 13 = .ok (.invokevirtual 694, 3) := by decide +kernel
theorem dX12_list_16 : decode cX12_list 16 = .ok (.goto 4, 3) := by decide +kernel
theorem dX12_list_19 : decode cX12_list 19 = .ok (.iconst (-1), 1) := by decide +kernel
theorem dX12_list_2 : decode cX12_list 2 = .ok (.putfield 155, 3) := by decide +kernel
theorem dX12_list_20 : decode cX12_list 20 = .ok (.ireturn, 1) := by decide +kernel
theorem dX12_list_5 : decode cX12_list 5 = .ok (.aload_n 0, 1) := by decide +kernel
theorem dX12_list_6 : decode cX12_list 6 = .ok (.getfield 633, 3) := by decide +kernel
theorem dX12_list_9 : decode cX12_list 9 = .ok (.ifCond .eq 10, 3) := by decide +kernel
set_option maxHeartbeats 4000000 in
set_option maxRecDepth 100000 in
theorem T_X12_list (l : Launch) (D : va_G) (K : Nat → ClassId) (Z Y : Nat → Nat) (ad : Nat → Nat) (t : tSt) (hok : okM t)  : tMet l yX12_list cX12_list 1 (some .int) (rmD 7 0 0) D K Z Y [.ref (ad 0)] (WM K ad t) (QI D K (fun (r : Int32) (u : tSt) => okM u ∧ frA [(0, 0), (0, 30)] [] [11, 12, 13, 14] [] t u ∧ (-2147483648 : Int) ≤ r.toInt ∧ r.toInt ≤ 2147483647) (fun (u : tSt) => WM K ad u)) 0 0 := by
  refine t_met RX12 ⟨rfl, by decide +kernel⟩ (Nat.le_of_ble_eq_true rfl) ?_
  intro p e s m below meth c A ls C hE hZ hr hlocks hA hP hD hS hl
  have hl : lv_has ls 1 [(0, .ref (ad 0))] := hl
  have hokt := hok
  have hfr : frA [(0, 0), (0, 30)] [] [11, 12, 13, 14] [] t t := frA_rf
  refine lv_aload_n C.1 C.2.1 dX12_list_0 rfl (lv_at hl 0 rfl) ?_
  refine lv_iconst (v := 0) C.1 C.2.1 dX12_list_1 (by decide) ?_
  refine k_put (ws' := WM K ad (uI t 0 0 0)) (v := .int 0) C hP hD hS 0 rfl rfl inlX12 tyX12_ok nmX12 0 (by decide) m_9_18 rfl rfl rfl rfl rfl dX12_list_2 (fun H locs hP hD hS => ?_)
  have hok : okM (uI t 0 0 0) := ⟨okI_I hok.1 0 0 0 (show (0 : Int) ≤ (0 : Int32).toInt ∧ (0 : Int32).toInt ≤ 1 from ⟨by decide, by decide⟩), hok.2.1, hok.2.2.1, hok.2.2.2.1, hok.2.2.2.2.1, hok.2.2.2.2.2.1, hok.2.2.2.2.2.2.1, trivial⟩
  have hfr : frA [(0, 0), (0, 30)] [] [11, 12, 13, 14] [] t (uI t 0 0 0) := frA_I hfr 0 0 _ rfl
  refine lv_aload_n C.1 C.2.1 dX12_list_5 rfl (lv_at hl 0 rfl) ?_
  have h_1 : (0 : Int) ≤ (t.1 0 42).toInt ∧ (t.1 0 42).toInt ≤ 1 := hok.1 0 42
  refine k_get (v := .int (t.1 0 42)) C hP 0 rfl rfl inlX12 42 (by decide) m_29_16 rfl dX12_list_6 ?_
  refine lv_if_eq (tgt := 19) C.1 C.2.1 dX12_list_9 (by decide) (fun c_2 => ?_) (fun c_2 => ?_)
  · replace c_2 : (t.1 0 42).toInt = 0 := i_eq c_2
    refine lv_iconst (v := (-1)) C.1 C.2.1 dX12_list_19 (by decide) ?_
    exact g_iret C hr hlocks hP hD hS rfl (uI t 0 0 0) rfl ⟨hok, hfr, (i_rng _).1, (i_rng _).2⟩ (Nat.le_of_ble_eq_true rfl) (Nat.le_of_ble_eq_true rfl) dX12_list_20
  · replace c_2 : ¬ (t.1 0 42).toInt = 0 := i_ne c_2
    refine lv_aload_n C.1 C.2.1 dX12_list_12 rfl (lv_at hl 0 rfl) ?_
    refine g_Vi (As := []) (rest := []) C hP hD hS hA (T_X12_listWords l D K Z Y ad (uI t 0 0 0) hok ) hE hZ (uwV m_67_8 m_67_9 m_67_10 m_1_5 m_67_11) (hdV 0 (by decide +kernel) rfl) ⟨Nat.le_of_ble_eq_true rfl, Nat.le_of_ble_eq_true rfl⟩ rfl rfl (ci := 11) (q0 := 0) rfl rfl rfl hl.1 (Nat.le_of_ble_eq_true rfl) dX12_list_13 ⟨Nat.le_of_ble_eq_true rfl, Nat.le_of_ble_eq_true rfl⟩ (fun r_4 t_3 H locs hw hP hD hS => ?_)
    obtain ⟨hok, f_5, h_6, h_7⟩ := hw
    have hfr : frA [(0, 0), (0, 30)] [] [11, 12, 13, 14] [] t t_3 := frA_tr hfr f_5 rfl
    have h_8 : (t_3.1 0 0).toInt = 0 := by rw [show (t_3.1 0 0) = (0 : Int32) from f_5.1 0 0 rfl]; rfl
    have h_9 : (t_3.1 0 42).toInt = (t.1 0 42).toInt := ti_eq (f_5.1 0 42 rfl)
    refine lv_goto (tgt := 20) C.1 C.2.1 dX12_list_16 (by decide) ?_
    exact g_iret C hr hlocks hP hD hS rfl t_3 rfl ⟨hok, hfr, (i_rng _).1, (i_rng _).2⟩ (Nat.le_of_ble_eq_true rfl) (Nat.le_of_ble_eq_true rfl) dX12_list_20

theorem dX12_names_0 : decode cX12_names 0 = .ok (.aload_n 0, 1) := by decide +kernel
theorem dX12_names_1 : decode cX12_names 1 = .ok (.iconst 0, 1) := by decide +kernel
theorem dX12_names_12 : decode cX12_names 12 = .ok (.aload_n 0, 1) := by decide +kernel
theorem dX12_names_13 : decode cX12_names 13 = .ok (.bipush 16, 2) := by decide +kernel
theorem dX12_names_15 : decode cX12_names 15 = .ok (.invokevirtual 706, 3) := by decide +kernel
theorem dX12_names_18 : decode cX12_names 18 = .ok (.goto 4, 3) := by decide +kernel
theorem dX12_names_2 : decode cX12_names 2 = .ok (.putfield 155, 3) := by decide +kernel
theorem dX12_names_21 : decode cX12_names 21 = .ok (.iconst (-1), 1) := by decide +kernel
theorem dX12_names_22 : decode cX12_names 22 = .ok (.ireturn, 1) := by decide +kernel
theorem dX12_names_5 : decode cX12_names 5 = .ok (.aload_n 0, 1) := by decide +kernel
theorem dX12_names_6 : decode cX12_names 6 = .ok (.getfield 633, 3) := by decide +kernel
theorem dX12_names_9 : decode cX12_names 9 = .ok (.ifCond .eq 12, 3) := by decide +kernel
set_option maxHeartbeats 4000000 in
set_option maxRecDepth 100000 in
theorem T_X12_names (l : Launch) (D : va_G) (K : Nat → ClassId) (Z Y : Nat → Nat) (ad : Nat → Nat) (t : tSt) (hok : okM t)  : tMet l yX12_names cX12_names 1 (some .int) (rmD 4 0 0) D K Z Y [.ref (ad 0)] (WM K ad t) (QI D K (fun (r : Int32) (u : tSt) => okM u ∧ frA [(0, 0), (0, 30)] [] [11, 12, 13, 14] [] t u ∧ (-2147483648 : Int) ≤ r.toInt ∧ r.toInt ≤ 2147483647) (fun (u : tSt) => WM K ad u)) 0 0 := by
  refine t_met RX12 ⟨rfl, by decide +kernel⟩ (Nat.le_of_ble_eq_true rfl) ?_
  intro p e s m below meth c A ls C hE hZ hr hlocks hA hP hD hS hl
  have hl : lv_has ls 1 [(0, .ref (ad 0))] := hl
  have hokt := hok
  have hfr : frA [(0, 0), (0, 30)] [] [11, 12, 13, 14] [] t t := frA_rf
  refine lv_aload_n C.1 C.2.1 dX12_names_0 rfl (lv_at hl 0 rfl) ?_
  refine lv_iconst (v := 0) C.1 C.2.1 dX12_names_1 (by decide) ?_
  refine k_put (ws' := WM K ad (uI t 0 0 0)) (v := .int 0) C hP hD hS 0 rfl rfl inlX12 tyX12_ok nmX12 0 (by decide) m_9_18 rfl rfl rfl rfl rfl dX12_names_2 (fun H locs hP hD hS => ?_)
  have hok : okM (uI t 0 0 0) := ⟨okI_I hok.1 0 0 0 (show (0 : Int) ≤ (0 : Int32).toInt ∧ (0 : Int32).toInt ≤ 1 from ⟨by decide, by decide⟩), hok.2.1, hok.2.2.1, hok.2.2.2.1, hok.2.2.2.2.1, hok.2.2.2.2.2.1, hok.2.2.2.2.2.2.1, trivial⟩
  have hfr : frA [(0, 0), (0, 30)] [] [11, 12, 13, 14] [] t (uI t 0 0 0) := frA_I hfr 0 0 _ rfl
  refine lv_aload_n C.1 C.2.1 dX12_names_5 rfl (lv_at hl 0 rfl) ?_
  have h_1 : (0 : Int) ≤ (t.1 0 42).toInt ∧ (t.1 0 42).toInt ≤ 1 := hok.1 0 42
  refine k_get (v := .int (t.1 0 42)) C hP 0 rfl rfl inlX12 42 (by decide) m_29_16 rfl dX12_names_6 ?_
  refine lv_if_eq (tgt := 21) C.1 C.2.1 dX12_names_9 (by decide) (fun c_2 => ?_) (fun c_2 => ?_)
  · replace c_2 : (t.1 0 42).toInt = 0 := i_eq c_2
    refine lv_iconst (v := (-1)) C.1 C.2.1 dX12_names_21 (by decide) ?_
    exact g_iret C hr hlocks hP hD hS rfl (uI t 0 0 0) rfl ⟨hok, hfr, (i_rng _).1, (i_rng _).2⟩ (Nat.le_of_ble_eq_true rfl) (Nat.le_of_ble_eq_true rfl) dX12_names_22
  · replace c_2 : ¬ (t.1 0 42).toInt = 0 := i_ne c_2
    refine lv_aload_n C.1 C.2.1 dX12_names_12 rfl (lv_at hl 0 rfl) ?_
    refine lv_bipush (v := 16) C.1 C.2.1 dX12_names_13 (by decide) ?_
    refine g_Vi (As := [.int 16]) (rest := []) C hP hD hS hA (T_X12_sayNames l D K Z Y ad (uI t 0 0 0) hok 16 (show (10 : Int) ≤ (16 : Int32).toInt ∧ (16 : Int32).toInt ≤ 16 from ⟨by decide, by decide⟩)) hE hZ (uwV m_69_20 m_69_21 m_69_22 m_1_5 m_69_23) (hdV 1 (by decide +kernel) rfl) ⟨Nat.le_of_ble_eq_true rfl, Nat.le_of_ble_eq_true rfl⟩ rfl rfl (ci := 11) (q0 := 0) rfl rfl rfl hl.1 (Nat.le_of_ble_eq_true rfl) dX12_names_15 ⟨Nat.le_of_ble_eq_true rfl, Nat.le_of_ble_eq_true rfl⟩ (fun r_4 t_3 H locs hw hP hD hS => ?_)
    obtain ⟨hok, f_5, h_6, h_7⟩ := hw
    have hfr : frA [(0, 0), (0, 30)] [] [11, 12, 13, 14] [] t t_3 := frA_tr hfr f_5 rfl
    have h_8 : (t_3.1 0 0).toInt = 0 := by rw [show (t_3.1 0 0) = (0 : Int32) from f_5.1 0 0 rfl]; rfl
    have h_9 : (t_3.1 0 42).toInt = (t.1 0 42).toInt := ti_eq (f_5.1 0 42 rfl)
    refine lv_goto (tgt := 22) C.1 C.2.1 dX12_names_18 (by decide) ?_
    exact g_iret C hr hlocks hP hD hS rfl t_3 rfl ⟨hok, hfr, (i_rng _).1, (i_rng _).2⟩ (Nat.le_of_ble_eq_true rfl) (Nat.le_of_ble_eq_true rfl) dX12_names_22

theorem dX12_isJob_0 : decode cX12_isJob 0 = .ok (.aload_n 0, 1) := by decide +kernel
theorem dX12_isJob_1 : decode cX12_isJob 1 = .ok (.iload_n 1, 1) := by decide +kernel
theorem dX12_isJob_101 : decode cX12_isJob 101 = .ok (.ifCond .eq 37, 3) := by decide +kernel
theorem dX12_isJob_104 : decode cX12_isJob 104 = .ok (.iload_n 2, 1) := by decide +kernel
theorem dX12_isJob_105 : decode cX12_isJob 105 = .ok (.iload_n 3, 1) := by decide +kernel
theorem dX12_isJob_106 : decode cX12_isJob 106 = .ok (.iconst 5, 1) := by decide +kernel
theorem dX12_isJob_107 : decode cX12_isJob 107 = .ok (.iadd, 1) := by decide +kernel
theorem dX12_isJob_108 : decode cX12_isJob 108 = .ok (.if_icmp .ge 30, 3) := by decide +kernel
theorem dX12_isJob_11 : decode cX12_isJob 11 = .ok (.iconst 0, 1) := by decide +kernel
theorem dX12_isJob_111 : decode cX12_isJob 111 = .ok (.aload_n 0, 1) := by decide +kernel
theorem dX12_isJob_112 : decode cX12_isJob 112 = .ok (.bipush 10, 2) := by decide +kernel
theorem dX12_isJob_114 : decode cX12_isJob 114 = .ok (.aload_n 0, 1) := by decide +kernel
theorem dX12_isJob_115 : decode cX12_isJob 115 = .ok (.getfield 740, 3) := by decide +kernel
theorem dX12_isJob_118 : decode cX12_isJob 118 = .ok (.imul, 1) := by decide +kernel
theorem dX12_isJob_119 : decode cX12_isJob 119 = .ok (.aload_n 0, 1) := by decide +kernel
theorem dX12_isJob_12 : decode cX12_isJob 12 = .ok (.ireturn, 1) := by decide +kernel
theorem dX12_isJob_120 : decode cX12_isJob 120 = .ok (.iload_n 1, 1) := by decide +kernel
theorem dX12_isJob_121 : decode cX12_isJob 121 = .ok (.iload_n 2, 1) := by decide +kernel
theorem dX12_isJob_122 : decode cX12_isJob 122 = .ok (.invokevirtual 725, 3) := by decide +kernel
theorem dX12_isJob_125 : decode cX12_isJob 125 = .ok (.iadd, 1) := by decide +kernel
theorem dX12_isJob_126 : decode cX12_isJob 126 = .ok (.bipush 48, 2) := by decide +kernel
theorem dX12_isJob_128 : decode cX12_isJob 128 = .ok (.isub, 1) := by decide +kernel
theorem dX12_isJob_129 : decode cX12_isJob 129 = .ok (.putfield 740, 3) := by decide +kernel
theorem dX12_isJob_13 : decode cX12_isJob 13 = .ok (.bipush 6, 2) := by decide +kernel
theorem dX12_isJob_132 : decode cX12_isJob 132 = .ok (.iinc 2 1, 3) := by decide +kernel
theorem dX12_isJob_135 : decode cX12_isJob 135 = .ok (.goto (-43), 3) := by decide +kernel
theorem dX12_isJob_138 : decode cX12_isJob 138 = .ok (.iload_n 2, 1) := by decide +kernel
theorem dX12_isJob_139 : decode cX12_isJob 139 = .ok (.iload_n 3, 1) := by decide +kernel
theorem dX12_isJob_140 : decode cX12_isJob 140 = .ok (.if_icmp .eq 14, 3) := by decide +kernel
theorem dX12_isJob_143 : decode cX12_isJob 143 = .ok (.aload_n 0, 1) := by decide +kernel
theorem dX12_isJob_144 : decode cX12_isJob 144 = .ok (.iload_n 1, 1) := by decide +kernel
theorem dX12_isJob_145 : decode cX12_isJob 145 = .ok (.iload_n 2, 1) := by decide +kernel
theorem dX12_isJob_146 : decode cX12_isJob 146 = .ok (.invokevirtual 725, 3) := by decide +kernel
theorem dX12_isJob_149 : decode cX12_isJob 149 = .ok (.bipush 32, 2) := by decide +kernel
theorem dX12_isJob_15 : decode cX12_isJob 15 = .ok (.istore_n 2, 1) := by decide +kernel
theorem dX12_isJob_151 : decode cX12_isJob 151 = .ok (.if_icmp .eq 5, 3) := by decide +kernel
theorem dX12_isJob_154 : decode cX12_isJob 154 = .ok (.iconst 0, 1) := by decide +kernel
theorem dX12_isJob_155 : decode cX12_isJob 155 = .ok (.ireturn, 1) := by decide +kernel
theorem dX12_isJob_156 : decode cX12_isJob 156 = .ok (.aload_n 0, 1) := by decide +kernel
theorem dX12_isJob_157 : decode cX12_isJob 157 = .ok (.iconst 0, 1) := by decide +kernel
theorem dX12_isJob_158 : decode cX12_isJob 158 = .ok (.putfield 743, 3) := by decide +kernel
theorem dX12_isJob_16 : decode cX12_isJob 16 = .ok (.aload_n 0, 1) := by decide +kernel
theorem dX12_isJob_161 : decode cX12_isJob 161 = .ok (.iconst 0, 1) := by decide +kernel
theorem dX12_isJob_162 : decode cX12_isJob 162 = .ok (.istore 4, 2) := by decide +kernel
theorem dX12_isJob_164 : decode cX12_isJob 164 = .ok (.iload 4, 2) := by decide +kernel
theorem dX12_isJob_166 : decode cX12_isJob 166 = .ok (.iconst 5, 1) := by decide +kernel
theorem dX12_isJob_167 : decode cX12_isJob 167 = .ok (.if_icmp .ge 55, 3) := by decide +kernel
theorem dX12_isJob_17 : decode cX12_isJob 17 = .ok (.iload_n 1, 1) := by decide +kernel
theorem dX12_isJob_170 : decode cX12_isJob 170 = .ok (.iload 4, 2) := by decide +kernel
theorem dX12_isJob_172 : decode cX12_isJob 172 = .ok (.invokestatic 746, 3) := by decide +kernel
theorem dX12_isJob_175 : decode cX12_isJob 175 = .ok (.astore 5, 2) := by decide +kernel
theorem dX12_isJob_177 : decode cX12_isJob 177 = .ok (.aload_n 0, 1) := by decide +kernel
theorem dX12_isJob_178 : decode cX12_isJob 178 = .ok (.iload_n 1, 1) := by decide +kernel
theorem dX12_isJob_179 : decode cX12_isJob 179 = .ok (.iload_n 2, 1) := by decide +kernel
theorem dX12_isJob_18 : decode cX12_isJob 18 = .ok (.iload_n 2, 1) := by decide +kernel
theorem dX12_isJob_180 : decode cX12_isJob 180 = .ok (.iconst 1, 1) := by decide +kernel
theorem dX12_isJob_181 : decode cX12_isJob 181 = .ok (.iadd, 1) := by decide +kernel
theorem dX12_isJob_182 : decode cX12_isJob 182 = .ok (.aload 5, 2) := by decide +kernel
theorem dX12_isJob_184 : decode cX12_isJob 184 = .ok (.invokevirtual 750, 3) := by decide +kernel
theorem dX12_isJob_187 : decode cX12_isJob 187 = .ok (.ifCond .ne 6, 3) := by decide +kernel
theorem dX12_isJob_19 : decode cX12_isJob 19 = .ok (.invokevirtual 725, 3) := by decide +kernel
theorem dX12_isJob_190 : decode cX12_isJob 190 = .ok (.goto 26, 3) := by decide +kernel
theorem dX12_isJob_193 : decode cX12_isJob 193 = .ok (.aload_n 0, 1) := by decide +kernel
theorem dX12_isJob_194 : decode cX12_isJob 194 = .ok (.aload_n 0, 1) := by decide +kernel
theorem dX12_isJob_195 : decode cX12_isJob 195 = .ok (.getfield 743, 3) := by decide +kernel
theorem dX12_isJob_198 : decode cX12_isJob 198 = .ok (.iconst 1, 1) := by decide +kernel
theorem dX12_isJob_199 : decode cX12_isJob 199 = .ok (.iload 4, 2) := by decide +kernel
theorem dX12_isJob_2 : decode cX12_isJob 2 = .ok (.ldc_w 728, 3) := by decide +kernel
theorem dX12_isJob_201 : decode cX12_isJob 201 = .ok (.ishl, 1) := by decide +kernel
theorem dX12_isJob_202 : decode cX12_isJob 202 = .ok (.ior, 1) := by decide +kernel
theorem dX12_isJob_203 : decode cX12_isJob 203 = .ok (.putfield 743, 3) := by decide +kernel
theorem dX12_isJob_206 : decode cX12_isJob 206 = .ok (.iload_n 2, 1) := by decide +kernel
theorem dX12_isJob_207 : decode cX12_isJob 207 = .ok (.iconst 1, 1) := by decide +kernel
theorem dX12_isJob_208 : decode cX12_isJob 208 = .ok (.aload 5, 2) := by decide +kernel
theorem dX12_isJob_210 : decode cX12_isJob 210 = .ok (.invokevirtual 203, 3) := by decide +kernel
theorem dX12_isJob_213 : decode cX12_isJob 213 = .ok (.iadd, 1) := by decide +kernel
theorem dX12_isJob_214 : decode cX12_isJob 214 = .ok (.iadd, 1) := by decide +kernel
theorem dX12_isJob_215 : decode cX12_isJob 215 = .ok (.istore_n 2, 1) := by decide +kernel
theorem dX12_isJob_216 : decode cX12_isJob 216 = .ok (.iinc 4 1, 3) := by decide +kernel
theorem dX12_isJob_219 : decode cX12_isJob 219 = .ok (.goto (-55), 3) := by decide +kernel
theorem dX12_isJob_22 : decode cX12_isJob 22 = .ok (.invokestatic 452, 3) := by decide +kernel
theorem dX12_isJob_222 : decode cX12_isJob 222 = .ok (.iload_n 2, 1) := by decide +kernel
theorem dX12_isJob_223 : decode cX12_isJob 223 = .ok (.istore 4, 2) := by decide +kernel
theorem dX12_isJob_225 : decode cX12_isJob 225 = .ok (.iload 4, 2) := by decide +kernel
theorem dX12_isJob_227 : decode cX12_isJob 227 = .ok (.bipush 81, 2) := by decide +kernel
theorem dX12_isJob_229 : decode cX12_isJob 229 = .ok (.if_icmp .ge 23, 3) := by decide +kernel
theorem dX12_isJob_232 : decode cX12_isJob 232 = .ok (.aload_n 0, 1) := by decide +kernel
theorem dX12_isJob_233 : decode cX12_isJob 233 = .ok (.iload_n 1, 1) := by decide +kernel
theorem dX12_isJob_234 : decode cX12_isJob 234 = .ok (.iload 4, 2) := by decide +kernel
theorem dX12_isJob_236 : decode cX12_isJob 236 = .ok (.invokevirtual 725, 3) := by decide +kernel
theorem dX12_isJob_239 : decode cX12_isJob 239 = .ok (.bipush 32, 2) := by decide +kernel
theorem dX12_isJob_241 : decode cX12_isJob 241 = .ok (.if_icmp .eq 5, 3) := by decide +kernel
theorem dX12_isJob_244 : decode cX12_isJob 244 = .ok (.iconst 0, 1) := by decide +kernel
theorem dX12_isJob_245 : decode cX12_isJob 245 = .ok (.ireturn, 1) := by decide +kernel
theorem dX12_isJob_246 : decode cX12_isJob 246 = .ok (.iinc 4 1, 3) := by decide +kernel
theorem dX12_isJob_249 : decode cX12_isJob 249 = .ok (.goto (-24), 3) := by decide +kernel
theorem dX12_isJob_25 : decode cX12_isJob 25 = .ok (.ifCond .ne 15, 3) := by decide +kernel
theorem dX12_isJob_252 : decode cX12_isJob 252 = .ok (.iconst 1, 1) := by decide +kernel
theorem dX12_isJob_253 : decode cX12_isJob 253 = .ok (.ireturn, 1) := by decide +kernel
theorem dX12_isJob_28 : decode cX12_isJob 28 = .ok (.aload_n 0, 1) := by decide +kernel
theorem dX12_isJob_29 : decode cX12_isJob 29 = .ok (.iload_n 1, 1) := by decide +kernel
theorem dX12_isJob_30 : decode cX12_isJob 30 = .ok (.iload_n 2, 1) := by decide +kernel
theorem dX12_isJob_31 : decode cX12_isJob 31 = .ok (.invokevirtual 725, 3) := by decide +kernel
theorem dX12_isJob_34 : decode cX12_isJob 34 = .ok (.invokestatic 455, 3) := by decide +kernel
theorem dX12_isJob_37 : decode cX12_isJob 37 = .ok (.ifCond .eq 9, 3) := by decide +kernel
theorem dX12_isJob_40 : decode cX12_isJob 40 = .ok (.iinc 2 1, 3) := by decide +kernel
theorem dX12_isJob_43 : decode cX12_isJob 43 = .ok (.goto (-27), 3) := by decide +kernel
theorem dX12_isJob_46 : decode cX12_isJob 46 = .ok (.aload_n 0, 1) := by decide +kernel
theorem dX12_isJob_47 : decode cX12_isJob 47 = .ok (.bipush 6, 2) := by decide +kernel
theorem dX12_isJob_49 : decode cX12_isJob 49 = .ok (.putfield 734, 3) := by decide +kernel
theorem dX12_isJob_5 : decode cX12_isJob 5 = .ok (.invokevirtual 730, 3) := by decide +kernel
theorem dX12_isJob_52 : decode cX12_isJob 52 = .ok (.aload_n 0, 1) := by decide +kernel
theorem dX12_isJob_53 : decode cX12_isJob 53 = .ok (.iload_n 2, 1) := by decide +kernel
theorem dX12_isJob_54 : decode cX12_isJob 54 = .ok (.putfield 737, 3) := by decide +kernel
theorem dX12_isJob_57 : decode cX12_isJob 57 = .ok (.iload_n 2, 1) := by decide +kernel
theorem dX12_isJob_58 : decode cX12_isJob 58 = .ok (.bipush 6, 2) := by decide +kernel
theorem dX12_isJob_60 : decode cX12_isJob 60 = .ok (.if_icmp .eq 20, 3) := by decide +kernel
theorem dX12_isJob_63 : decode cX12_isJob 63 = .ok (.iload_n 2, 1) := by decide +kernel
theorem dX12_isJob_64 : decode cX12_isJob 64 = .ok (.bipush 16, 2) := by decide +kernel
theorem dX12_isJob_66 : decode cX12_isJob 66 = .ok (.if_icmp .gt 14, 3) := by decide +kernel
theorem dX12_isJob_69 : decode cX12_isJob 69 = .ok (.aload_n 0, 1) := by decide +kernel
theorem dX12_isJob_70 : decode cX12_isJob 70 = .ok (.iload_n 1, 1) := by decide +kernel
theorem dX12_isJob_71 : decode cX12_isJob 71 = .ok (.iload_n 2, 1) := by decide +kernel
theorem dX12_isJob_72 : decode cX12_isJob 72 = .ok (.invokevirtual 725, 3) := by decide +kernel
theorem dX12_isJob_75 : decode cX12_isJob 75 = .ok (.bipush 32, 2) := by decide +kernel
theorem dX12_isJob_77 : decode cX12_isJob 77 = .ok (.if_icmp .eq 5, 3) := by decide +kernel
theorem dX12_isJob_8 : decode cX12_isJob 8 = .ok (.ifCond .ne 5, 3) := by decide +kernel
theorem dX12_isJob_80 : decode cX12_isJob 80 = .ok (.iconst 0, 1) := by decide +kernel
theorem dX12_isJob_81 : decode cX12_isJob 81 = .ok (.ireturn, 1) := by decide +kernel
theorem dX12_isJob_82 : decode cX12_isJob 82 = .ok (.iinc 2 1, 3) := by decide +kernel
theorem dX12_isJob_85 : decode cX12_isJob 85 = .ok (.iload_n 2, 1) := by decide +kernel
theorem dX12_isJob_86 : decode cX12_isJob 86 = .ok (.istore_n 3, 1) := by decide +kernel
theorem dX12_isJob_87 : decode cX12_isJob 87 = .ok (.aload_n 0, 1) := by decide +kernel
theorem dX12_isJob_88 : decode cX12_isJob 88 = .ok (.iconst 0, 1) := by decide +kernel
theorem dX12_isJob_89 : decode cX12_isJob 89 = .ok (.putfield 740, 3) := by decide +kernel
theorem dX12_isJob_92 : decode cX12_isJob 92 = .ok (.aload_n 0, 1) := by decide +kernel
theorem dX12_isJob_93 : decode cX12_isJob 93 = .ok (.iload_n 1, 1) := by decide +kernel
theorem dX12_isJob_94 : decode cX12_isJob 94 = .ok (.iload_n 2, 1) := by decide +kernel
theorem dX12_isJob_95 : decode cX12_isJob 95 = .ok (.invokevirtual 725, 3) := by decide +kernel
theorem dX12_isJob_98 : decode cX12_isJob 98 = .ok (.invokestatic 455, 3) := by decide +kernel
set_option maxHeartbeats 4000000 in
set_option maxRecDepth 100000 in
theorem T_X12_isJob (l : Launch) (D : va_G) (K : Nat → ClassId) (Z Y : Nat → Nat) (ad : Nat → Nat) (t : tSt) (hok : okM t) (x1 : Int32) (hx1 : (0 : Int) ≤ x1.toInt ∧ x1.toInt ≤ 1280) : tMet l yX12_isJob cX12_isJob 6 (some .boolean) (rmD 9 0 0) D K Z Y [.ref (ad 0), .int x1] (WM K ad t) (QI D K (fun (r : Int32) (u : tSt) => okM u ∧ frA [(0, 78), (0, 79), (0, 80), (0, 81)] [] [] [] t u ∧ (0 : Int) ≤ r.toInt ∧ r.toInt ≤ 1 ∧ (r.toInt = 1 → (u.1 0 78).toInt = 6) ∧ ((t.1 0 78).toInt = 6 → (u.1 0 78).toInt = 6)) (fun (u : tSt) => WM K ad u)) 0 0 := by
  refine t_met RX12 ⟨rfl, by decide +kernel⟩ (Nat.le_of_ble_eq_true rfl) ?_
  intro p e s m below meth c A ls C hE hZ hr hlocks hA hP hD hS hl
  have hl : lv_has ls 6 [(0, .ref (ad 0)), (1, .int x1)] := hl
  have hokt := hok
  have hfr : frA [(0, 78), (0, 79), (0, 80), (0, 81)] [] [] [] t t := frA_rf
  have h_1 : (0 : Int) ≤ (t.1 0 78).toInt ∧ (t.1 0 78).toInt ≤ 6 := hok.1 0 78
  have L_225 : ∀ (fuel_225 : Nat) (t1 : tSt) (w225_2 : Int32) (w225_3 : Int32) (w225_4 : Int32) (H : Heap) (locs : List Loc) (ls : Array Slot), okM t1 → frA [(0, 78), (0, 79), (0, 80), (0, 81)] [] [] [] t t1 → (-2147483647 : Int) ≤ w225_3.toInt ∧ w225_3.toInt ≤ 17 → (6 : Int) ≤ (t1.1 0 78).toInt ∧ (t1.1 0 78).toInt ≤ 6 → (7 ≤ w225_4.toInt) → (w225_4.toInt ≤ 81) → ((t1.1 0 78).toInt = 6) → (81 - w225_4.toInt) < (fuel_225 : Int) → va_P D vwCl (WM K ad t1) H → va_D A (WM K ad t1) → va_S A s.heap H locs → lv_has ls 6 [(0, .ref (ad 0)), (1, .int x1), (2, .int w225_2), (3, .int w225_3), (4, .int w225_4)] → W p l e (rmD 9 0 0) s m [.ref (ad 0), .int x1].toArray below meth c H locs 0 0 (MQ below (QI D K (fun (r : Int32) (u : tSt) => okM u ∧ frA [(0, 78), (0, 79), (0, 80), (0, 81)] [] [] [] t u ∧ (0 : Int) ≤ r.toInt ∧ r.toInt ≤ 1 ∧ (r.toInt = 1 → (u.1 0 78).toInt = 6) ∧ ((t.1 0 78).toInt = 6 → (u.1 0 78).toInt = 6)) (fun (u : tSt) => WM K ad u) A) [.ref (ad 0), .int x1].toArray s 0 0 A) (F0 m 225 ls []) := by
    intro fuel_225
    induction fuel_225 with
    | zero =>
      intro t1 w225_2 w225_3 w225_4 H locs ls hok hfr hw225_3 hf225_78 hi225_0 hi225_1 hi225_2 hm225_225 hP hD hS hl
      have e_2 : t1.2.2.1 37 = t.2.2.1 37 := hfr.2.2.1 37 rfl
      have e_3 : t1.2.2.1 38 = t.2.2.1 38 := hfr.2.2.1 38 rfl
      exact absurd hm225_225 (by omega)
    | succ fuel_225 ih_225 =>
      intro t1 w225_2 w225_3 w225_4 H locs ls hok hfr hw225_3 hf225_78 hi225_0 hi225_1 hi225_2 hm225_225 hP hD hS hl
      have hm225_225 : (81 - w225_4.toInt) < (fuel_225 : Int) + 1 := by omega
      have e_4 : t1.2.2.1 37 = t.2.2.1 37 := hfr.2.2.1 37 rfl
      have e_5 : t1.2.2.1 38 = t.2.2.1 38 := hfr.2.2.1 38 rfl
      refine lv_iload C.1 C.2.1 dX12_isJob_225 (lv_at hl 4 rfl) ?_
      refine lv_bipush (v := 81) C.1 C.2.1 dX12_isJob_227 (by decide) ?_
      refine lv_icmp_ge (tgt := 252) C.1 C.2.1 dX12_isJob_229 (by decide) (fun c_6 => ?_) (fun c_6 => ?_)
      · replace c_6 : 81 ≤ w225_4.toInt := i_le c_6
        refine lv_iconst (v := 1) C.1 C.2.1 dX12_isJob_252 (by decide) ?_
        exact g_iret C hr hlocks hP hD hS (by decide) t1 rfl ⟨hok, hfr, by decide, by decide, (show 1 = 1 → (t1.1 0 78).toInt = 6 from by omega), (show (t.1 0 78).toInt = 6 → (t1.1 0 78).toInt = 6 from by omega)⟩ (Nat.le_of_ble_eq_true rfl) (Nat.le_of_ble_eq_true rfl) dX12_isJob_253
      · replace c_6 : w225_4.toInt < 81 := i_nle c_6
        refine lv_aload_n C.1 C.2.1 dX12_isJob_232 rfl (lv_at hl 0 rfl) ?_
        refine lv_iload_n C.1 C.2.1 dX12_isJob_233 rfl (lv_at hl 1 rfl) ?_
        refine lv_iload C.1 C.2.1 dX12_isJob_234 (lv_at hl 4 rfl) ?_
        refine g_Vi (As := [.int x1, .int w225_4]) (rest := []) C hP hD hS hA (T_X12_deckLetter l D K Z Y ad t1 hok (x1) (show (0 : Int) ≤ (x1 : Int32).toInt ∧ (x1 : Int32).toInt ≤ 1280 from ⟨by omega, by omega⟩) (w225_4) (show (1 : Int) ≤ (w225_4 : Int32).toInt ∧ (w225_4 : Int32).toInt ≤ 200 from ⟨by omega, by omega⟩)) hE hZ (uwV m_79_6 m_79_7 m_79_8 m_1_5 m_79_9) (hdV 2 (by decide +kernel) rfl) ⟨Nat.le_of_ble_eq_true rfl, Nat.le_of_ble_eq_true rfl⟩ rfl rfl (ci := 11) (q0 := 0) rfl rfl rfl hl.1 (Nat.le_of_ble_eq_true rfl) dX12_isJob_236 ⟨Nat.le_of_ble_eq_true rfl, Nat.le_of_ble_eq_true rfl⟩ (fun r_8 t_7 H locs hw hP hD hS => ?_)
        obtain ⟨h_10, h_11, p_12, p_13, p_14, p_15⟩ := hw
        replace p_12 : r_8 = fDeck t1 x1 w225_4 := p_12
        replace p_13 : r_8.toInt = (fDeck t1 x1 w225_4).toInt := p_13
        replace p_14 : ¬ r_8.toInt = 32 → (t1.2.2.1 37 (x1 : Int32).toNatClampNeg).toInt + w225_4.toInt ≤ (t1.2.2.1 38 (x1 : Int32).toNatClampNeg).toInt := p_14
        have h_16 : (t1.2.2.1 37 (x1 : Int32).toNatClampNeg).toInt = (t.2.2.1 37 (x1 : Int32).toNatClampNeg).toInt := tb_eq e_4 _
        have h_17 : (t1.2.2.1 38 (x1 : Int32).toNatClampNeg).toInt = (t.2.2.1 38 (x1 : Int32).toNatClampNeg).toInt := tb_eq e_5 _
        replace p_15 : 81 ≤ w225_4.toInt → r_8.toInt = 32 := p_15
        refine lv_bipush (v := 32) C.1 C.2.1 dX12_isJob_239 (by decide) ?_
        refine lv_icmp_eq (tgt := 246) C.1 C.2.1 dX12_isJob_241 (by decide) (fun c_18 => ?_) (fun c_18 => ?_)
        · replace c_18 : r_8.toInt = 32 := i_eq c_18
          obtain ⟨v_19, e_20⟩ : ∃ z, z = w225_4 + 1 := ⟨_, rfl⟩
          have h_21 : v_19.toInt = w225_4.toInt + 1 := by rw [e_20]; exact ti_iadd (by show (_ : Int) ≤ w225_4.toInt + 1; omega) (by show w225_4.toInt + 1 < (_ : Int); omega)
          refine lv_iinc (v := v_19) (lv' := [(4, .int v_19), (0, .ref (ad 0)), (1, .int x1), (2, .int w225_2), (3, .int w225_3)]) C.1 C.2.1 dX12_isJob_246 hl (k := 4) rfl e_20.symm (by decide) rfl (fun ls hl => ?_)
          have hl : lv_has ls 6 [(0, .ref (ad 0)), (1, .int x1), (2, .int w225_2), (3, .int w225_3), (4, .int v_19)] := lv_sub hl [1, 2, 3, 4, 0] rfl
          refine lv_goto (tgt := 225) C.1 C.2.1 dX12_isJob_249 (by decide) ?_
          exact ih_225 t1 w225_2 w225_3 v_19 _ _ _ hok hfr ⟨by omega, by omega⟩ (show (6 : Int) ≤ ((t1.1 0 78) : Int32).toInt ∧ ((t1.1 0 78) : Int32).toInt ≤ 6 from ⟨by omega, by omega⟩) (show 7 ≤ v_19.toInt from by omega) (show v_19.toInt ≤ 81 from by omega) (show (t1.1 0 78).toInt = 6 from by omega) (show (81 - v_19.toInt) < (fuel_225 : Int) from by omega) hP hD hS (lv_sub hl [0, 1, 2, 3, 4] rfl)
        · replace c_18 : ¬ r_8.toInt = 32 := i_ne c_18
          refine lv_iconst (v := 0) C.1 C.2.1 dX12_isJob_244 (by decide) ?_
          exact g_iret C hr hlocks hP hD hS (by decide) t1 rfl ⟨hok, hfr, by decide, by decide, (show 0 = 1 → (t1.1 0 78).toInt = 6 from by omega), (show (t.1 0 78).toInt = 6 → (t1.1 0 78).toInt = 6 from by omega)⟩ (Nat.le_of_ble_eq_true rfl) (Nat.le_of_ble_eq_true rfl) dX12_isJob_245
  have L_164 : ∀ (fuel_164 : Nat) (t1 : tSt) (w164_2 : Int32) (w164_3 : Int32) (w164_4 : Int32) (H : Heap) (locs : List Loc) (ls : Array Slot), okM t1 → frA [(0, 78), (0, 79), (0, 80), (0, 81)] [] [] [] t t1 → (-2147483647 : Int) ≤ w164_3.toInt ∧ w164_3.toInt ≤ 17 → (0 : Int) ≤ w164_4.toInt ∧ w164_4.toInt ≤ 5 → (6 : Int) ≤ (t1.1 0 78).toInt ∧ (t1.1 0 78).toInt ≤ 6 → (7 ≤ w164_2.toInt) → (w164_2.toInt ≤ 22 + 6 * w164_4.toInt) → (0 ≤ w164_4.toInt) → (w164_4.toInt ≤ 5) → ((t1.1 0 78).toInt = 6) → (5 : Int) - w164_4.toInt < (fuel_164 : Int) → va_P D vwCl (WM K ad t1) H → va_D A (WM K ad t1) → va_S A s.heap H locs → lv_has ls 6 [(0, .ref (ad 0)), (1, .int x1), (2, .int w164_2), (3, .int w164_3), (4, .int w164_4)] → W p l e (rmD 9 0 0) s m [.ref (ad 0), .int x1].toArray below meth c H locs 0 0 (MQ below (QI D K (fun (r : Int32) (u : tSt) => okM u ∧ frA [(0, 78), (0, 79), (0, 80), (0, 81)] [] [] [] t u ∧ (0 : Int) ≤ r.toInt ∧ r.toInt ≤ 1 ∧ (r.toInt = 1 → (u.1 0 78).toInt = 6) ∧ ((t.1 0 78).toInt = 6 → (u.1 0 78).toInt = 6)) (fun (u : tSt) => WM K ad u) A) [.ref (ad 0), .int x1].toArray s 0 0 A) (F0 m 164 ls []) := by
    intro fuel_164
    induction fuel_164 with
    | zero =>
      intro t1 w164_2 w164_3 w164_4 H locs ls hok hfr hw164_3 hw164_4 hf164_78 hi164_0 hi164_1 hi164_2 hi164_3 hi164_4 hm164_164 hP hD hS hl
      have e_22 : t1.2.2.1 37 = t.2.2.1 37 := hfr.2.2.1 37 rfl
      have e_23 : t1.2.2.1 38 = t.2.2.1 38 := hfr.2.2.1 38 rfl
      exact absurd hm164_164 (by omega)
    | succ fuel_164 ih_164 =>
      intro t1 w164_2 w164_3 w164_4 H locs ls hok hfr hw164_3 hw164_4 hf164_78 hi164_0 hi164_1 hi164_2 hi164_3 hi164_4 hm164_164 hP hD hS hl
      have hm164_164 : (5 : Int) - w164_4.toInt < (fuel_164 : Int) + 1 := by omega
      have e_24 : t1.2.2.1 37 = t.2.2.1 37 := hfr.2.2.1 37 rfl
      have e_25 : t1.2.2.1 38 = t.2.2.1 38 := hfr.2.2.1 38 rfl
      have L_216 : ∀ (t1 : tSt) (w216_2 : Int32) (w216_3 : Int32) (w216_4 : Int32) (w216_5 : Nat) (H : Heap) (locs : List Loc) (ls : Array Slot), okM t1 → frA [(0, 78), (0, 79), (0, 80), (0, 81)] [] [] [] t t1 → (-2147483647 : Int) ≤ w216_3.toInt ∧ w216_3.toInt ≤ 17 → (0 : Int) ≤ w216_4.toInt ∧ w216_4.toInt ≤ 4 → sS w216_5 → (6 : Int) ≤ (t1.1 0 78).toInt ∧ (t1.1 0 78).toInt ≤ 6 → (7 ≤ w216_2.toInt) → (w216_2.toInt ≤ 28 + 6 * w216_4.toInt) → (0 ≤ w216_4.toInt) → (w216_4.toInt ≤ 4) → ((t1.1 0 78).toInt = 6) → (5 : Int) - w216_4.toInt < (fuel_164 : Int) + 1 → va_P D vwCl (WM K ad t1) H → va_D A (WM K ad t1) → va_S A s.heap H locs → lv_has ls 6 [(0, .ref (ad 0)), (1, .int x1), (2, .int w216_2), (3, .int w216_3), (4, .int w216_4), (5, .ref (Z w216_5))] → W p l e (rmD 9 0 0) s m [.ref (ad 0), .int x1].toArray below meth c H locs 0 0 (MQ below (QI D K (fun (r : Int32) (u : tSt) => okM u ∧ frA [(0, 78), (0, 79), (0, 80), (0, 81)] [] [] [] t u ∧ (0 : Int) ≤ r.toInt ∧ r.toInt ≤ 1 ∧ (r.toInt = 1 → (u.1 0 78).toInt = 6) ∧ ((t.1 0 78).toInt = 6 → (u.1 0 78).toInt = 6)) (fun (u : tSt) => WM K ad u) A) [.ref (ad 0), .int x1].toArray s 0 0 A) (F0 m 216 ls []) := by
        intro t1 w216_2 w216_3 w216_4 w216_5 H locs ls hok hfr hw216_3 hw216_4 hw216_5 hf216_78 hi216_0 hi216_1 hi216_2 hi216_3 hi216_4 hm216_164 hP hD hS hl
        have e_26 : t1.2.2.1 37 = t.2.2.1 37 := hfr.2.2.1 37 rfl
        have e_27 : t1.2.2.1 38 = t.2.2.1 38 := hfr.2.2.1 38 rfl
        obtain ⟨v_28, e_29⟩ : ∃ z, z = w216_4 + 1 := ⟨_, rfl⟩
        have h_30 : v_28.toInt = w216_4.toInt + 1 := by rw [e_29]; exact ti_iadd (by show (_ : Int) ≤ w216_4.toInt + 1; omega) (by show w216_4.toInt + 1 < (_ : Int); omega)
        refine lv_iinc (v := v_28) (lv' := [(4, .int v_28), (0, .ref (ad 0)), (1, .int x1), (2, .int w216_2), (3, .int w216_3), (5, .ref (Z w216_5))]) C.1 C.2.1 dX12_isJob_216 hl (k := 4) rfl e_29.symm (by decide) rfl (fun ls hl => ?_)
        have hl : lv_has ls 6 [(0, .ref (ad 0)), (1, .int x1), (2, .int w216_2), (3, .int w216_3), (4, .int v_28), (5, .ref (Z w216_5))] := lv_sub hl [1, 2, 3, 4, 0, 5] rfl
        refine lv_goto (tgt := 164) C.1 C.2.1 dX12_isJob_219 (by decide) ?_
        exact ih_164 t1 w216_2 w216_3 v_28 _ _ _ hok hfr ⟨by omega, by omega⟩ ⟨by omega, by omega⟩ (show (6 : Int) ≤ ((t1.1 0 78) : Int32).toInt ∧ ((t1.1 0 78) : Int32).toInt ≤ 6 from ⟨by omega, by omega⟩) (show 7 ≤ w216_2.toInt from by omega) (show w216_2.toInt ≤ 22 + 6 * v_28.toInt from by omega) (show 0 ≤ v_28.toInt from by omega) (show v_28.toInt ≤ 5 from by omega) (show (t1.1 0 78).toInt = 6 from by omega) (show (5 : Int) - v_28.toInt < (fuel_164 : Int) from by omega) hP hD hS (lv_sub hl [0, 1, 2, 3, 4] rfl)
      refine lv_iload C.1 C.2.1 dX12_isJob_164 (lv_at hl 4 rfl) ?_
      refine lv_iconst (v := 5) C.1 C.2.1 dX12_isJob_166 (by decide) ?_
      refine lv_icmp_ge (tgt := 222) C.1 C.2.1 dX12_isJob_167 (by decide) (fun c_31 => ?_) (fun c_31 => ?_)
      · replace c_31 : 5 ≤ w164_4.toInt := i_le c_31
        refine lv_iload_n C.1 C.2.1 dX12_isJob_222 rfl (lv_at hl 2 rfl) ?_
        refine lv_istore (lv' := [(4, .int w164_2), (0, .ref (ad 0)), (1, .int x1), (2, .int w164_2), (3, .int w164_3)]) C.1 C.2.1 dX12_isJob_223 hl (by decide) rfl (fun ls hl => ?_)
        have hl : lv_has ls 6 [(0, .ref (ad 0)), (1, .int x1), (2, .int w164_2), (3, .int w164_3), (4, .int w164_2)] := lv_sub hl [1, 2, 3, 4, 0] rfl
        exact L_225 200 t1 w164_2 w164_3 w164_2 _ _ _ hok hfr ⟨by omega, by omega⟩ (show (6 : Int) ≤ ((t1.1 0 78) : Int32).toInt ∧ ((t1.1 0 78) : Int32).toInt ≤ 6 from ⟨by omega, by omega⟩) (show 7 ≤ w164_2.toInt from by omega) (show w164_2.toInt ≤ 81 from by omega) (show (t1.1 0 78).toInt = 6 from by omega) (show (81 - w164_2.toInt) < ((200 : Nat) : Int) from by omega) hP hD hS (lv_sub hl [0, 1, 2, 3, 4] rfl)
      · replace c_31 : w164_4.toInt < 5 := i_nle c_31
        refine lv_iload C.1 C.2.1 dX12_isJob_170 (lv_at hl 4 rfl) ?_
        refine g_Sr (As := [.int w164_4]) (rest := []) C hP hD hS hA (T_X12_optionOf l D K Z Y ad t1 hok (w164_4) (show (0 : Int) ≤ (w164_4 : Int32).toInt ∧ (w164_4 : Int32).toInt ≤ 4 from ⟨by omega, by omega⟩)) hE hZ (uwS m_79_10 m_79_11 m_1_5 m_79_12) (hdS 1 (by decide +kernel) rfl) ⟨Nat.le_of_ble_eq_true rfl, Nat.le_of_ble_eq_true rfl⟩ rfl rfl rfl hl.1 (Nat.le_of_ble_eq_true rfl) dX12_isJob_172 ⟨Nat.le_of_ble_eq_true rfl, Nat.le_of_ble_eq_true rfl⟩ (fun t_32 H locs hw hP hD hS => ?_)
        have ht_32 := hw
        have hsq := sS_len ht_32
        refine lv_astore (lv' := [(5, .ref (Z t_32)), (0, .ref (ad 0)), (1, .int x1), (2, .int w164_2), (3, .int w164_3), (4, .int w164_4)]) C.1 C.2.1 dX12_isJob_175 hl (by decide) rfl (fun ls hl => ?_)
        have hl : lv_has ls 6 [(0, .ref (ad 0)), (1, .int x1), (2, .int w164_2), (3, .int w164_3), (4, .int w164_4), (5, .ref (Z t_32))] := lv_sub hl [1, 2, 3, 4, 5, 0] rfl
        refine lv_aload_n C.1 C.2.1 dX12_isJob_177 rfl (lv_at hl 0 rfl) ?_
        refine lv_iload_n C.1 C.2.1 dX12_isJob_178 rfl (lv_at hl 1 rfl) ?_
        refine lv_iload_n C.1 C.2.1 dX12_isJob_179 rfl (lv_at hl 2 rfl) ?_
        refine lv_iconst (v := 1) C.1 C.2.1 dX12_isJob_180 (by decide) ?_
        obtain ⟨v_35, e_36⟩ : ∃ z, z = (w164_2 : Int32) + (1 : Int32) := ⟨_, rfl⟩
        have h_37 : v_35.toInt = w164_2.toInt + 1 := by rw [e_36]; exact ti_iadd (by show (_ : Int) ≤ w164_2.toInt + 1; omega) (by show w164_2.toInt + 1 < (_ : Int); omega)
        refine k_iadd (v := v_35) C e_36.symm dX12_isJob_181 ?_
        refine lv_aload C.1 C.2.1 dX12_isJob_182 (lv_at hl 5 rfl) ?_
        refine g_Vi (As := [.int x1, .int v_35, .ref (Z t_32)]) (rest := []) C hP hD hS hA (T_X12_hasWordAt l D K Z Y ad t1 hok (x1) (show (0 : Int) ≤ (x1 : Int32).toInt ∧ (x1 : Int32).toInt ≤ 1280 from ⟨by omega, by omega⟩) (v_35) (show (1 : Int) ≤ (v_35 : Int32).toInt ∧ (v_35 : Int32).toInt ≤ 150 from ⟨by omega, by omega⟩) (t_32) ht_32) hE hZ (uwV m_79_13 m_79_14 m_79_15 m_1_5 m_79_16) (hdV 3 (by decide +kernel) rfl) ⟨Nat.le_of_ble_eq_true rfl, Nat.le_of_ble_eq_true rfl⟩ rfl rfl (ci := 11) (q0 := 0) rfl rfl rfl hl.1 (Nat.le_of_ble_eq_true rfl) dX12_isJob_184 ⟨Nat.le_of_ble_eq_true rfl, Nat.le_of_ble_eq_true rfl⟩ (fun r_39 t_38 H locs hw hP hD hS => ?_)
        obtain ⟨h_41, h_42⟩ := hw
        refine lv_if_ne (tgt := 193) C.1 C.2.1 dX12_isJob_187 (by decide) (fun c_43 => ?_) (fun c_43 => ?_)
        · replace c_43 : ¬ r_39.toInt = 0 := i_ne c_43
          refine lv_aload_n C.1 C.2.1 dX12_isJob_193 rfl (lv_at hl 0 rfl) ?_
          refine lv_aload_n C.1 C.2.1 dX12_isJob_194 rfl (lv_at hl 0 rfl) ?_
          refine k_get (v := .int (t1.1 0 80)) C hP 0 rfl rfl inlX12 80 (by decide) m_79_0 rfl dX12_isJob_195 ?_
          refine lv_iconst (v := 1) C.1 C.2.1 dX12_isJob_198 (by decide) ?_
          refine lv_iload C.1 C.2.1 dX12_isJob_199 (lv_at hl 4 rfl) ?_
          obtain ⟨v_44, e_45⟩ : ∃ z, z = (1 : Int32) <<< ((w164_4 : Int32) &&& 31) := ⟨_, rfl⟩
          refine k_ishl (v := v_44) C e_45.symm dX12_isJob_201 ?_
          obtain ⟨v_47, e_48⟩ : ∃ z, z = ((t1.1 0 80) : Int32) ||| (v_44 : Int32) := ⟨_, rfl⟩
          refine k_ior (v := v_47) C e_48.symm dX12_isJob_202 ?_
          refine k_put (ws' := WM K ad (uI t1 0 80 v_47)) (v := .int v_47) C hP hD hS 0 rfl rfl inlX12 tyX12_ok nmX12 80 (by decide) m_79_0 rfl rfl rfl rfl rfl dX12_isJob_203 (fun H locs hP hD hS => ?_)
          have hok : okM (uI t1 0 80 v_47) := ⟨okI_I hok.1 0 80 v_47 (show (-2147483648 : Int) ≤ (v_47 : Int32).toInt ∧ (v_47 : Int32).toInt ≤ 2147483647 from (i_rng _)), hok.2.1, hok.2.2.1, hok.2.2.2.1, hok.2.2.2.2.1, hok.2.2.2.2.2.1, hok.2.2.2.2.2.2.1, trivial⟩
          have hfr : frA [(0, 78), (0, 79), (0, 80), (0, 81)] [] [] [] t (uI t1 0 80 v_47) := frA_I hfr 0 80 _ rfl
          refine lv_iload_n C.1 C.2.1 dX12_isJob_206 rfl (lv_at hl 2 rfl) ?_
          refine lv_iconst (v := 1) C.1 C.2.1 dX12_isJob_207 (by decide) ?_
          refine lv_aload C.1 C.2.1 dX12_isJob_208 (lv_at hl 5 rfl) ?_
          refine g_Ti (As := []) (rest := [.int 1, .int w164_2]) C hP hD hS hA (TJ_length l D K Z Y (WM K ad (uI t1 0 80 v_47)) t_32 (sS_lt ht_32)) hE hZ (uwV m_79_5 m_14_22 m_14_23 m_14_8 m_15_0) (hdV 0 (by decide +kernel) rfl) ⟨Nat.le_of_ble_eq_true rfl, Nat.le_of_ble_eq_true rfl⟩ rfl rfl (i0 := t_32) (sS_lt ht_32) rfl rfl hl.1 (Nat.le_of_ble_eq_true rfl) dX12_isJob_210 ⟨Nat.le_of_ble_eq_true rfl, Nat.le_of_ble_eq_true rfl⟩ (fun r_50 u_r_50 H locs hw hP hD hS => ?_)
          have h_51 : r_50.toInt = sL t_32 := hw
          have h_52 := sS_len ht_32
          obtain ⟨v_53, e_54⟩ : ∃ z, z = (1 : Int32) + (r_50 : Int32) := ⟨_, rfl⟩
          have h_55 : v_53.toInt = 1 + r_50.toInt := by rw [e_54]; exact ti_iadd (by show (_ : Int) ≤ 1 + r_50.toInt; omega) (by show 1 + r_50.toInt < (_ : Int); omega)
          refine k_iadd (v := v_53) C e_54.symm dX12_isJob_213 ?_
          obtain ⟨v_56, e_57⟩ : ∃ z, z = (w164_2 : Int32) + (v_53 : Int32) := ⟨_, rfl⟩
          have h_58 : v_56.toInt = w164_2.toInt + v_53.toInt := by rw [e_57]; exact ti_iadd (by show (_ : Int) ≤ w164_2.toInt + v_53.toInt; omega) (by show w164_2.toInt + v_53.toInt < (_ : Int); omega)
          refine k_iadd (v := v_56) C e_57.symm dX12_isJob_214 ?_
          refine lv_istore_n (lv' := [(2, .int v_56), (0, .ref (ad 0)), (1, .int x1), (3, .int w164_3), (4, .int w164_4), (5, .ref (Z t_32))]) C.1 C.2.1 dX12_isJob_215 rfl hl (by decide) rfl (fun ls hl => ?_)
          have hl : lv_has ls 6 [(0, .ref (ad 0)), (1, .int x1), (2, .int v_56), (3, .int w164_3), (4, .int w164_4), (5, .ref (Z t_32))] := lv_sub hl [1, 2, 0, 3, 4, 5] rfl
          exact L_216 (uI t1 0 80 v_47) v_56 w164_3 w164_4 (t_32) _ _ _ hok hfr ⟨by omega, by omega⟩ ⟨by omega, by omega⟩ ht_32 (show (6 : Int) ≤ ((t1.1 0 78) : Int32).toInt ∧ ((t1.1 0 78) : Int32).toInt ≤ 6 from ⟨by omega, by omega⟩) (show 7 ≤ v_56.toInt from by omega) (show v_56.toInt ≤ 28 + 6 * w164_4.toInt from by omega) (show 0 ≤ w164_4.toInt from by omega) (show w164_4.toInt ≤ 4 from by omega) (show (t1.1 0 78).toInt = 6 from by omega) (show (5 : Int) - w164_4.toInt < (fuel_164 : Int) + 1 from by omega) hP hD hS (lv_sub hl [0, 1, 2, 3, 4, 5] rfl)
        · replace c_43 : r_39.toInt = 0 := i_eq c_43
          refine lv_goto (tgt := 216) C.1 C.2.1 dX12_isJob_190 (by decide) ?_
          exact L_216 t1 w164_2 w164_3 w164_4 (t_32) _ _ _ hok hfr ⟨by omega, by omega⟩ ⟨by omega, by omega⟩ ht_32 (show (6 : Int) ≤ ((t1.1 0 78) : Int32).toInt ∧ ((t1.1 0 78) : Int32).toInt ≤ 6 from ⟨by omega, by omega⟩) (show 7 ≤ w164_2.toInt from by omega) (show w164_2.toInt ≤ 28 + 6 * w164_4.toInt from by omega) (show 0 ≤ w164_4.toInt from by omega) (show w164_4.toInt ≤ 4 from by omega) (show (t1.1 0 78).toInt = 6 from by omega) (show (5 : Int) - w164_4.toInt < (fuel_164 : Int) + 1 from by omega) hP hD hS (lv_sub hl [0, 1, 2, 3, 4, 5] rfl)
  have L_92 : ∀ (fuel_92 : Nat) (t1 : tSt) (w92_2 : Int32) (w92_3 : Int32) (H : Heap) (locs : List Loc) (ls : Array Slot), okM t1 → frA [(0, 78), (0, 79), (0, 80), (0, 81)] [] [] [] t t1 → (-2147483647 : Int) ≤ w92_2.toInt ∧ w92_2.toInt ≤ 31 → (-2147483647 : Int) ≤ w92_3.toInt ∧ w92_3.toInt ≤ 17 → (6 : Int) ≤ (t1.1 0 78).toInt ∧ (t1.1 0 78).toInt ≤ 6 → (w92_3.toInt ≤ w92_2.toInt) → (w92_2.toInt ≤ w92_3.toInt + 5) → (7 ≤ w92_3.toInt) → (w92_3.toInt ≤ 17) → ((t1.1 0 78).toInt = 6) → (w92_3.toInt + 6 - w92_2.toInt) < (fuel_92 : Int) → va_P D vwCl (WM K ad t1) H → va_D A (WM K ad t1) → va_S A s.heap H locs → lv_has ls 6 [(0, .ref (ad 0)), (1, .int x1), (2, .int w92_2), (3, .int w92_3)] → W p l e (rmD 9 0 0) s m [.ref (ad 0), .int x1].toArray below meth c H locs 0 0 (MQ below (QI D K (fun (r : Int32) (u : tSt) => okM u ∧ frA [(0, 78), (0, 79), (0, 80), (0, 81)] [] [] [] t u ∧ (0 : Int) ≤ r.toInt ∧ r.toInt ≤ 1 ∧ (r.toInt = 1 → (u.1 0 78).toInt = 6) ∧ ((t.1 0 78).toInt = 6 → (u.1 0 78).toInt = 6)) (fun (u : tSt) => WM K ad u) A) [.ref (ad 0), .int x1].toArray s 0 0 A) (F0 m 92 ls []) := by
    intro fuel_92
    induction fuel_92 with
    | zero =>
      intro t1 w92_2 w92_3 H locs ls hok hfr hw92_2 hw92_3 hf92_78 hi92_0 hi92_1 hi92_2 hi92_3 hi92_4 hm92_92 hP hD hS hl
      have e_59 : t1.2.2.1 37 = t.2.2.1 37 := hfr.2.2.1 37 rfl
      have e_60 : t1.2.2.1 38 = t.2.2.1 38 := hfr.2.2.1 38 rfl
      exact absurd hm92_92 (by omega)
    | succ fuel_92 ih_92 =>
      intro t1 w92_2 w92_3 H locs ls hok hfr hw92_2 hw92_3 hf92_78 hi92_0 hi92_1 hi92_2 hi92_3 hi92_4 hm92_92 hP hD hS hl
      have hm92_92 : (w92_3.toInt + 6 - w92_2.toInt) < (fuel_92 : Int) + 1 := by omega
      have e_61 : t1.2.2.1 37 = t.2.2.1 37 := hfr.2.2.1 37 rfl
      have e_62 : t1.2.2.1 38 = t.2.2.1 38 := hfr.2.2.1 38 rfl
      refine lv_aload_n C.1 C.2.1 dX12_isJob_92 rfl (lv_at hl 0 rfl) ?_
      refine lv_iload_n C.1 C.2.1 dX12_isJob_93 rfl (lv_at hl 1 rfl) ?_
      refine lv_iload_n C.1 C.2.1 dX12_isJob_94 rfl (lv_at hl 2 rfl) ?_
      refine g_Vi (As := [.int x1, .int w92_2]) (rest := []) C hP hD hS hA (T_X12_deckLetter l D K Z Y ad t1 hok (x1) (show (0 : Int) ≤ (x1 : Int32).toInt ∧ (x1 : Int32).toInt ≤ 1280 from ⟨by omega, by omega⟩) (w92_2) (show (1 : Int) ≤ (w92_2 : Int32).toInt ∧ (w92_2 : Int32).toInt ≤ 200 from ⟨by omega, by omega⟩)) hE hZ (uwV m_79_6 m_79_7 m_79_8 m_1_5 m_79_9) (hdV 2 (by decide +kernel) rfl) ⟨Nat.le_of_ble_eq_true rfl, Nat.le_of_ble_eq_true rfl⟩ rfl rfl (ci := 11) (q0 := 0) rfl rfl rfl hl.1 (Nat.le_of_ble_eq_true rfl) dX12_isJob_95 ⟨Nat.le_of_ble_eq_true rfl, Nat.le_of_ble_eq_true rfl⟩ (fun r_64 t_63 H locs hw hP hD hS => ?_)
      obtain ⟨h_66, h_67, p_68, p_69, p_70, p_71⟩ := hw
      replace p_68 : r_64 = fDeck t1 x1 w92_2 := p_68
      replace p_69 : r_64.toInt = (fDeck t1 x1 w92_2).toInt := p_69
      replace p_70 : ¬ r_64.toInt = 32 → (t1.2.2.1 37 (x1 : Int32).toNatClampNeg).toInt + w92_2.toInt ≤ (t1.2.2.1 38 (x1 : Int32).toNatClampNeg).toInt := p_70
      have h_72 : (t1.2.2.1 37 (x1 : Int32).toNatClampNeg).toInt = (t.2.2.1 37 (x1 : Int32).toNatClampNeg).toInt := tb_eq e_61 _
      have h_73 : (t1.2.2.1 38 (x1 : Int32).toNatClampNeg).toInt = (t.2.2.1 38 (x1 : Int32).toNatClampNeg).toInt := tb_eq e_62 _
      replace p_71 : 81 ≤ w92_2.toInt → r_64.toInt = 32 := p_71
      refine g_Si (As := [.int r_64]) (rest := []) C hP hD hS hA (T_X12_isDigit l D K Z Y ad t1 hok (r_64) (show (0 : Int) ≤ (r_64 : Int32).toInt ∧ (r_64 : Int32).toInt ≤ 255 from ⟨by omega, by omega⟩)) hE hZ (uwS m_32_15 m_32_16 m_1_5 m_32_17) (hdS 1 (by decide +kernel) rfl) ⟨Nat.le_of_ble_eq_true rfl, Nat.le_of_ble_eq_true rfl⟩ rfl rfl rfl hl.1 (Nat.le_of_ble_eq_true rfl) dX12_isJob_98 ⟨Nat.le_of_ble_eq_true rfl, Nat.le_of_ble_eq_true rfl⟩ (fun r_75 t_74 H locs hw hP hD hS => ?_)
      obtain ⟨h_77, h_78, p_79⟩ := hw
      replace p_79 : r_75.toInt = 1 → 48 ≤ r_64.toInt ∧ r_64.toInt ≤ 57 := p_79
      refine lv_if_eq (tgt := 138) C.1 C.2.1 dX12_isJob_101 (by decide) (fun c_80 => ?_) (fun c_80 => ?_)
      · replace c_80 : r_75.toInt = 0 := i_eq c_80
        refine lv_iload_n C.1 C.2.1 dX12_isJob_138 rfl (lv_at hl 2 rfl) ?_
        refine lv_iload_n C.1 C.2.1 dX12_isJob_139 rfl (lv_at hl 3 rfl) ?_
        refine lv_icmp_eq (tgt := 154) C.1 C.2.1 dX12_isJob_140 (by decide) (fun c_81 => ?_) (fun c_81 => ?_)
        · replace c_81 : w92_2.toInt = w92_3.toInt := i_eq c_81
          refine lv_iconst (v := 0) C.1 C.2.1 dX12_isJob_154 (by decide) ?_
          exact g_iret C hr hlocks hP hD hS (by decide) t1 rfl ⟨hok, hfr, by decide, by decide, (show 0 = 1 → (t1.1 0 78).toInt = 6 from by omega), (show (t.1 0 78).toInt = 6 → (t1.1 0 78).toInt = 6 from by omega)⟩ (Nat.le_of_ble_eq_true rfl) (Nat.le_of_ble_eq_true rfl) dX12_isJob_155
        · replace c_81 : ¬ w92_2.toInt = w92_3.toInt := i_ne c_81
          refine lv_aload_n C.1 C.2.1 dX12_isJob_143 rfl (lv_at hl 0 rfl) ?_
          refine lv_iload_n C.1 C.2.1 dX12_isJob_144 rfl (lv_at hl 1 rfl) ?_
          refine lv_iload_n C.1 C.2.1 dX12_isJob_145 rfl (lv_at hl 2 rfl) ?_
          refine g_Vi (As := [.int x1, .int w92_2]) (rest := []) C hP hD hS hA (T_X12_deckLetter l D K Z Y ad t1 hok (x1) (show (0 : Int) ≤ (x1 : Int32).toInt ∧ (x1 : Int32).toInt ≤ 1280 from ⟨by omega, by omega⟩) (w92_2) (show (1 : Int) ≤ (w92_2 : Int32).toInt ∧ (w92_2 : Int32).toInt ≤ 200 from ⟨by omega, by omega⟩)) hE hZ (uwV m_79_6 m_79_7 m_79_8 m_1_5 m_79_9) (hdV 2 (by decide +kernel) rfl) ⟨Nat.le_of_ble_eq_true rfl, Nat.le_of_ble_eq_true rfl⟩ rfl rfl (ci := 11) (q0 := 0) rfl rfl rfl hl.1 (Nat.le_of_ble_eq_true rfl) dX12_isJob_146 ⟨Nat.le_of_ble_eq_true rfl, Nat.le_of_ble_eq_true rfl⟩ (fun r_83 t_82 H locs hw hP hD hS => ?_)
          obtain ⟨h_85, h_86, p_87, p_88, p_89, p_90⟩ := hw
          replace p_87 : r_83 = fDeck t1 x1 w92_2 := p_87
          replace p_88 : r_83.toInt = (fDeck t1 x1 w92_2).toInt := p_88
          replace p_89 : ¬ r_83.toInt = 32 → (t1.2.2.1 37 (x1 : Int32).toNatClampNeg).toInt + w92_2.toInt ≤ (t1.2.2.1 38 (x1 : Int32).toNatClampNeg).toInt := p_89
          replace p_90 : 81 ≤ w92_2.toInt → r_83.toInt = 32 := p_90
          refine lv_bipush (v := 32) C.1 C.2.1 dX12_isJob_149 (by decide) ?_
          refine lv_icmp_eq (tgt := 156) C.1 C.2.1 dX12_isJob_151 (by decide) (fun c_91 => ?_) (fun c_91 => ?_)
          · replace c_91 : r_83.toInt = 32 := i_eq c_91
            refine lv_aload_n C.1 C.2.1 dX12_isJob_156 rfl (lv_at hl 0 rfl) ?_
            refine lv_iconst (v := 0) C.1 C.2.1 dX12_isJob_157 (by decide) ?_
            refine k_put (ws' := WM K ad (uI t1 0 80 0)) (v := .int 0) C hP hD hS 0 rfl rfl inlX12 tyX12_ok nmX12 80 (by decide) m_79_0 rfl rfl rfl rfl rfl dX12_isJob_158 (fun H locs hP hD hS => ?_)
            have hok : okM (uI t1 0 80 0) := ⟨okI_I hok.1 0 80 0 (show (-2147483648 : Int) ≤ (0 : Int32).toInt ∧ (0 : Int32).toInt ≤ 2147483647 from (i_rng _)), hok.2.1, hok.2.2.1, hok.2.2.2.1, hok.2.2.2.2.1, hok.2.2.2.2.2.1, hok.2.2.2.2.2.2.1, trivial⟩
            have hfr : frA [(0, 78), (0, 79), (0, 80), (0, 81)] [] [] [] t (uI t1 0 80 0) := frA_I hfr 0 80 _ rfl
            refine lv_iconst (v := 0) C.1 C.2.1 dX12_isJob_161 (by decide) ?_
            refine lv_istore (lv' := [(4, .int 0), (0, .ref (ad 0)), (1, .int x1), (2, .int w92_2), (3, .int w92_3)]) C.1 C.2.1 dX12_isJob_162 hl (by decide) rfl (fun ls hl => ?_)
            have hl : lv_has ls 6 [(0, .ref (ad 0)), (1, .int x1), (2, .int w92_2), (3, .int w92_3), (4, .int 0)] := lv_sub hl [1, 2, 3, 4, 0] rfl
            exact L_164 6 (uI t1 0 80 0) w92_2 w92_3 0 _ _ _ hok hfr ⟨by omega, by omega⟩ ⟨by decide, by decide⟩ (show (6 : Int) ≤ ((t1.1 0 78) : Int32).toInt ∧ ((t1.1 0 78) : Int32).toInt ≤ 6 from ⟨by omega, by omega⟩) (show 7 ≤ w92_2.toInt from by omega) (show w92_2.toInt ≤ 22 + 6 * 0 from by omega) (show 0 ≤ 0 from by omega) (show 0 ≤ 5 from by omega) (show (t1.1 0 78).toInt = 6 from by omega) (show (5 : Int) - 0 < ((6 : Nat) : Int) from by omega) hP hD hS (lv_sub hl [0, 1, 2, 3, 4] rfl)
          · replace c_91 : ¬ r_83.toInt = 32 := i_ne c_91
            refine lv_iconst (v := 0) C.1 C.2.1 dX12_isJob_154 (by decide) ?_
            exact g_iret C hr hlocks hP hD hS (by decide) t1 rfl ⟨hok, hfr, by decide, by decide, (show 0 = 1 → (t1.1 0 78).toInt = 6 from by omega), (show (t.1 0 78).toInt = 6 → (t1.1 0 78).toInt = 6 from by omega)⟩ (Nat.le_of_ble_eq_true rfl) (Nat.le_of_ble_eq_true rfl) dX12_isJob_155
      · replace c_80 : ¬ r_75.toInt = 0 := i_ne c_80
        refine lv_iload_n C.1 C.2.1 dX12_isJob_104 rfl (lv_at hl 2 rfl) ?_
        refine lv_iload_n C.1 C.2.1 dX12_isJob_105 rfl (lv_at hl 3 rfl) ?_
        refine lv_iconst (v := 5) C.1 C.2.1 dX12_isJob_106 (by decide) ?_
        obtain ⟨v_92, e_93⟩ : ∃ z, z = (w92_3 : Int32) + (5 : Int32) := ⟨_, rfl⟩
        have h_94 : v_92.toInt = w92_3.toInt + 5 := by rw [e_93]; exact ti_iadd (by show (_ : Int) ≤ w92_3.toInt + 5; omega) (by show w92_3.toInt + 5 < (_ : Int); omega)
        refine k_iadd (v := v_92) C e_93.symm dX12_isJob_107 ?_
        refine lv_icmp_ge (tgt := 138) C.1 C.2.1 dX12_isJob_108 (by decide) (fun c_95 => ?_) (fun c_95 => ?_)
        · replace c_95 : v_92.toInt ≤ w92_2.toInt := i_le c_95
          refine lv_iload_n C.1 C.2.1 dX12_isJob_138 rfl (lv_at hl 2 rfl) ?_
          refine lv_iload_n C.1 C.2.1 dX12_isJob_139 rfl (lv_at hl 3 rfl) ?_
          refine lv_icmp_eq (tgt := 154) C.1 C.2.1 dX12_isJob_140 (by decide) (fun c_96 => ?_) (fun c_96 => ?_)
          · replace c_96 : w92_2.toInt = w92_3.toInt := i_eq c_96
            refine lv_iconst (v := 0) C.1 C.2.1 dX12_isJob_154 (by decide) ?_
            exact g_iret C hr hlocks hP hD hS (by decide) t1 rfl ⟨hok, hfr, by decide, by decide, (show 0 = 1 → (t1.1 0 78).toInt = 6 from by omega), (show (t.1 0 78).toInt = 6 → (t1.1 0 78).toInt = 6 from by omega)⟩ (Nat.le_of_ble_eq_true rfl) (Nat.le_of_ble_eq_true rfl) dX12_isJob_155
          · replace c_96 : ¬ w92_2.toInt = w92_3.toInt := i_ne c_96
            refine lv_aload_n C.1 C.2.1 dX12_isJob_143 rfl (lv_at hl 0 rfl) ?_
            refine lv_iload_n C.1 C.2.1 dX12_isJob_144 rfl (lv_at hl 1 rfl) ?_
            refine lv_iload_n C.1 C.2.1 dX12_isJob_145 rfl (lv_at hl 2 rfl) ?_
            refine g_Vi (As := [.int x1, .int w92_2]) (rest := []) C hP hD hS hA (T_X12_deckLetter l D K Z Y ad t1 hok (x1) (show (0 : Int) ≤ (x1 : Int32).toInt ∧ (x1 : Int32).toInt ≤ 1280 from ⟨by omega, by omega⟩) (w92_2) (show (1 : Int) ≤ (w92_2 : Int32).toInt ∧ (w92_2 : Int32).toInt ≤ 200 from ⟨by omega, by omega⟩)) hE hZ (uwV m_79_6 m_79_7 m_79_8 m_1_5 m_79_9) (hdV 2 (by decide +kernel) rfl) ⟨Nat.le_of_ble_eq_true rfl, Nat.le_of_ble_eq_true rfl⟩ rfl rfl (ci := 11) (q0 := 0) rfl rfl rfl hl.1 (Nat.le_of_ble_eq_true rfl) dX12_isJob_146 ⟨Nat.le_of_ble_eq_true rfl, Nat.le_of_ble_eq_true rfl⟩ (fun r_98 t_97 H locs hw hP hD hS => ?_)
            obtain ⟨h_100, h_101, p_102, p_103, p_104, p_105⟩ := hw
            replace p_102 : r_98 = fDeck t1 x1 w92_2 := p_102
            replace p_103 : r_98.toInt = (fDeck t1 x1 w92_2).toInt := p_103
            replace p_104 : ¬ r_98.toInt = 32 → (t1.2.2.1 37 (x1 : Int32).toNatClampNeg).toInt + w92_2.toInt ≤ (t1.2.2.1 38 (x1 : Int32).toNatClampNeg).toInt := p_104
            replace p_105 : 81 ≤ w92_2.toInt → r_98.toInt = 32 := p_105
            refine lv_bipush (v := 32) C.1 C.2.1 dX12_isJob_149 (by decide) ?_
            refine lv_icmp_eq (tgt := 156) C.1 C.2.1 dX12_isJob_151 (by decide) (fun c_106 => ?_) (fun c_106 => ?_)
            · replace c_106 : r_98.toInt = 32 := i_eq c_106
              refine lv_aload_n C.1 C.2.1 dX12_isJob_156 rfl (lv_at hl 0 rfl) ?_
              refine lv_iconst (v := 0) C.1 C.2.1 dX12_isJob_157 (by decide) ?_
              refine k_put (ws' := WM K ad (uI t1 0 80 0)) (v := .int 0) C hP hD hS 0 rfl rfl inlX12 tyX12_ok nmX12 80 (by decide) m_79_0 rfl rfl rfl rfl rfl dX12_isJob_158 (fun H locs hP hD hS => ?_)
              have hok : okM (uI t1 0 80 0) := ⟨okI_I hok.1 0 80 0 (show (-2147483648 : Int) ≤ (0 : Int32).toInt ∧ (0 : Int32).toInt ≤ 2147483647 from (i_rng _)), hok.2.1, hok.2.2.1, hok.2.2.2.1, hok.2.2.2.2.1, hok.2.2.2.2.2.1, hok.2.2.2.2.2.2.1, trivial⟩
              have hfr : frA [(0, 78), (0, 79), (0, 80), (0, 81)] [] [] [] t (uI t1 0 80 0) := frA_I hfr 0 80 _ rfl
              refine lv_iconst (v := 0) C.1 C.2.1 dX12_isJob_161 (by decide) ?_
              refine lv_istore (lv' := [(4, .int 0), (0, .ref (ad 0)), (1, .int x1), (2, .int w92_2), (3, .int w92_3)]) C.1 C.2.1 dX12_isJob_162 hl (by decide) rfl (fun ls hl => ?_)
              have hl : lv_has ls 6 [(0, .ref (ad 0)), (1, .int x1), (2, .int w92_2), (3, .int w92_3), (4, .int 0)] := lv_sub hl [1, 2, 3, 4, 0] rfl
              exact L_164 6 (uI t1 0 80 0) w92_2 w92_3 0 _ _ _ hok hfr ⟨by omega, by omega⟩ ⟨by decide, by decide⟩ (show (6 : Int) ≤ ((t1.1 0 78) : Int32).toInt ∧ ((t1.1 0 78) : Int32).toInt ≤ 6 from ⟨by omega, by omega⟩) (show 7 ≤ w92_2.toInt from by omega) (show w92_2.toInt ≤ 22 + 6 * 0 from by omega) (show 0 ≤ 0 from by omega) (show 0 ≤ 5 from by omega) (show (t1.1 0 78).toInt = 6 from by omega) (show (5 : Int) - 0 < ((6 : Nat) : Int) from by omega) hP hD hS (lv_sub hl [0, 1, 2, 3, 4] rfl)
            · replace c_106 : ¬ r_98.toInt = 32 := i_ne c_106
              refine lv_iconst (v := 0) C.1 C.2.1 dX12_isJob_154 (by decide) ?_
              exact g_iret C hr hlocks hP hD hS (by decide) t1 rfl ⟨hok, hfr, by decide, by decide, (show 0 = 1 → (t1.1 0 78).toInt = 6 from by omega), (show (t.1 0 78).toInt = 6 → (t1.1 0 78).toInt = 6 from by omega)⟩ (Nat.le_of_ble_eq_true rfl) (Nat.le_of_ble_eq_true rfl) dX12_isJob_155
        · replace c_95 : w92_2.toInt < v_92.toInt := i_nle c_95
          refine lv_aload_n C.1 C.2.1 dX12_isJob_111 rfl (lv_at hl 0 rfl) ?_
          refine lv_bipush (v := 10) C.1 C.2.1 dX12_isJob_112 (by decide) ?_
          refine lv_aload_n C.1 C.2.1 dX12_isJob_114 rfl (lv_at hl 0 rfl) ?_
          refine k_get (v := .int (t1.1 0 81)) C hP 0 rfl rfl inlX12 81 (by decide) m_78_23 rfl dX12_isJob_115 ?_
          obtain ⟨v_107, e_108⟩ : ∃ z, z = (10 : Int32) * ((t1.1 0 81) : Int32) := ⟨_, rfl⟩
          refine k_imul (v := v_107) C e_108.symm dX12_isJob_118 ?_
          refine lv_aload_n C.1 C.2.1 dX12_isJob_119 rfl (lv_at hl 0 rfl) ?_
          refine lv_iload_n C.1 C.2.1 dX12_isJob_120 rfl (lv_at hl 1 rfl) ?_
          refine lv_iload_n C.1 C.2.1 dX12_isJob_121 rfl (lv_at hl 2 rfl) ?_
          refine g_Vi (As := [.int x1, .int w92_2]) (rest := [.int v_107, .ref (ad 0)]) C hP hD hS hA (T_X12_deckLetter l D K Z Y ad t1 hok (x1) (show (0 : Int) ≤ (x1 : Int32).toInt ∧ (x1 : Int32).toInt ≤ 1280 from ⟨by omega, by omega⟩) (w92_2) (show (1 : Int) ≤ (w92_2 : Int32).toInt ∧ (w92_2 : Int32).toInt ≤ 200 from ⟨by omega, by omega⟩)) hE hZ (uwV m_79_6 m_79_7 m_79_8 m_1_5 m_79_9) (hdV 2 (by decide +kernel) rfl) ⟨Nat.le_of_ble_eq_true rfl, Nat.le_of_ble_eq_true rfl⟩ rfl rfl (ci := 11) (q0 := 0) rfl rfl rfl hl.1 (Nat.le_of_ble_eq_true rfl) dX12_isJob_122 ⟨Nat.le_of_ble_eq_true rfl, Nat.le_of_ble_eq_true rfl⟩ (fun r_111 t_110 H locs hw hP hD hS => ?_)
          obtain ⟨h_113, h_114, p_115, p_116, p_117, p_118⟩ := hw
          replace p_115 : r_111 = fDeck t1 x1 w92_2 := p_115
          replace p_116 : r_111.toInt = (fDeck t1 x1 w92_2).toInt := p_116
          replace p_117 : ¬ r_111.toInt = 32 → (t1.2.2.1 37 (x1 : Int32).toNatClampNeg).toInt + w92_2.toInt ≤ (t1.2.2.1 38 (x1 : Int32).toNatClampNeg).toInt := p_117
          replace p_118 : 81 ≤ w92_2.toInt → r_111.toInt = 32 := p_118
          obtain ⟨v_119, e_120⟩ : ∃ z, z = (v_107 : Int32) + (r_111 : Int32) := ⟨_, rfl⟩
          refine k_iadd (v := v_119) C e_120.symm dX12_isJob_125 ?_
          refine lv_bipush (v := 48) C.1 C.2.1 dX12_isJob_126 (by decide) ?_
          obtain ⟨v_122, e_123⟩ : ∃ z, z = (v_119 : Int32) - (48 : Int32) := ⟨_, rfl⟩
          refine k_isub (v := v_122) C e_123.symm dX12_isJob_128 ?_
          refine k_put (ws' := WM K ad (uI t1 0 81 v_122)) (v := .int v_122) C hP hD hS 0 rfl rfl inlX12 tyX12_ok nmX12 81 (by decide) m_78_23 rfl rfl rfl rfl rfl dX12_isJob_129 (fun H locs hP hD hS => ?_)
          have hok : okM (uI t1 0 81 v_122) := ⟨okI_I hok.1 0 81 v_122 (show (-2147483648 : Int) ≤ (v_122 : Int32).toInt ∧ (v_122 : Int32).toInt ≤ 2147483647 from (i_rng _)), hok.2.1, hok.2.2.1, hok.2.2.2.1, hok.2.2.2.2.1, hok.2.2.2.2.2.1, hok.2.2.2.2.2.2.1, trivial⟩
          have hfr : frA [(0, 78), (0, 79), (0, 80), (0, 81)] [] [] [] t (uI t1 0 81 v_122) := frA_I hfr 0 81 _ rfl
          obtain ⟨v_125, e_126⟩ : ∃ z, z = w92_2 + 1 := ⟨_, rfl⟩
          have h_127 : v_125.toInt = w92_2.toInt + 1 := by rw [e_126]; exact ti_iadd (by show (_ : Int) ≤ w92_2.toInt + 1; omega) (by show w92_2.toInt + 1 < (_ : Int); omega)
          refine lv_iinc (v := v_125) (lv' := [(2, .int v_125), (0, .ref (ad 0)), (1, .int x1), (3, .int w92_3)]) C.1 C.2.1 dX12_isJob_132 hl (k := 2) rfl e_126.symm (by decide) rfl (fun ls hl => ?_)
          have hl : lv_has ls 6 [(0, .ref (ad 0)), (1, .int x1), (2, .int v_125), (3, .int w92_3)] := lv_sub hl [1, 2, 0, 3] rfl
          refine lv_goto (tgt := 92) C.1 C.2.1 dX12_isJob_135 (by decide) ?_
          exact ih_92 (uI t1 0 81 v_122) v_125 w92_3 _ _ _ hok hfr ⟨by omega, by omega⟩ ⟨by omega, by omega⟩ (show (6 : Int) ≤ ((t1.1 0 78) : Int32).toInt ∧ ((t1.1 0 78) : Int32).toInt ≤ 6 from ⟨by omega, by omega⟩) (show w92_3.toInt ≤ v_125.toInt from by omega) (show v_125.toInt ≤ w92_3.toInt + 5 from by omega) (show 7 ≤ w92_3.toInt from by omega) (show w92_3.toInt ≤ 17 from by omega) (show (t1.1 0 78).toInt = 6 from by omega) (show (w92_3.toInt + 6 - v_125.toInt) < (fuel_92 : Int) from by omega) hP hD hS (lv_sub hl [0, 1, 2, 3] rfl)
  have L_16 : ∀ (fuel_16 : Nat) (t1 : tSt) (w16_2 : Int32) (H : Heap) (locs : List Loc) (ls : Array Slot), okM t1 → frA [(0, 78), (0, 79), (0, 80), (0, 81)] [] [] [] t t1 → (6 ≤ w16_2.toInt) → (w16_2.toInt ≤ 81) → ((t1.1 0 78).toInt = (t.1 0 78).toInt) → (82 - w16_2.toInt) < (fuel_16 : Int) → va_P D vwCl (WM K ad t1) H → va_D A (WM K ad t1) → va_S A s.heap H locs → lv_has ls 6 [(0, .ref (ad 0)), (1, .int x1), (2, .int w16_2)] → W p l e (rmD 9 0 0) s m [.ref (ad 0), .int x1].toArray below meth c H locs 0 0 (MQ below (QI D K (fun (r : Int32) (u : tSt) => okM u ∧ frA [(0, 78), (0, 79), (0, 80), (0, 81)] [] [] [] t u ∧ (0 : Int) ≤ r.toInt ∧ r.toInt ≤ 1 ∧ (r.toInt = 1 → (u.1 0 78).toInt = 6) ∧ ((t.1 0 78).toInt = 6 → (u.1 0 78).toInt = 6)) (fun (u : tSt) => WM K ad u) A) [.ref (ad 0), .int x1].toArray s 0 0 A) (F0 m 16 ls []) := by
    intro fuel_16
    induction fuel_16 with
    | zero =>
      intro t1 w16_2 H locs ls hok hfr hi16_0 hi16_1 hi16_2 hm16_16 hP hD hS hl
      have e_128 : t1.2.2.1 37 = t.2.2.1 37 := hfr.2.2.1 37 rfl
      have e_129 : t1.2.2.1 38 = t.2.2.1 38 := hfr.2.2.1 38 rfl
      have h_130 : (0 : Int) ≤ (t1.1 0 78).toInt ∧ (t1.1 0 78).toInt ≤ 6 := hok.1 0 78
      exact absurd hm16_16 (by omega)
    | succ fuel_16 ih_16 =>
      intro t1 w16_2 H locs ls hok hfr hi16_0 hi16_1 hi16_2 hm16_16 hP hD hS hl
      have hm16_16 : (82 - w16_2.toInt) < (fuel_16 : Int) + 1 := by omega
      have e_131 : t1.2.2.1 37 = t.2.2.1 37 := hfr.2.2.1 37 rfl
      have e_132 : t1.2.2.1 38 = t.2.2.1 38 := hfr.2.2.1 38 rfl
      have h_133 : (0 : Int) ≤ (t1.1 0 78).toInt ∧ (t1.1 0 78).toInt ≤ 6 := hok.1 0 78
      have L_40 : ∀ (t1 : tSt) (w40_2 : Int32) (H : Heap) (locs : List Loc) (ls : Array Slot), okM t1 → frA [(0, 78), (0, 79), (0, 80), (0, 81)] [] [] [] t t1 → (6 ≤ w40_2.toInt) → (w40_2.toInt ≤ 80) → ((t1.1 0 78).toInt = (t.1 0 78).toInt) → (82 - w40_2.toInt) < (fuel_16 : Int) + 1 → va_P D vwCl (WM K ad t1) H → va_D A (WM K ad t1) → va_S A s.heap H locs → lv_has ls 6 [(0, .ref (ad 0)), (1, .int x1), (2, .int w40_2)] → W p l e (rmD 9 0 0) s m [.ref (ad 0), .int x1].toArray below meth c H locs 0 0 (MQ below (QI D K (fun (r : Int32) (u : tSt) => okM u ∧ frA [(0, 78), (0, 79), (0, 80), (0, 81)] [] [] [] t u ∧ (0 : Int) ≤ r.toInt ∧ r.toInt ≤ 1 ∧ (r.toInt = 1 → (u.1 0 78).toInt = 6) ∧ ((t.1 0 78).toInt = 6 → (u.1 0 78).toInt = 6)) (fun (u : tSt) => WM K ad u) A) [.ref (ad 0), .int x1].toArray s 0 0 A) (F0 m 40 ls []) := by
        intro t1 w40_2 H locs ls hok hfr hi40_0 hi40_1 hi40_2 hm40_16 hP hD hS hl
        have e_134 : t1.2.2.1 37 = t.2.2.1 37 := hfr.2.2.1 37 rfl
        have e_135 : t1.2.2.1 38 = t.2.2.1 38 := hfr.2.2.1 38 rfl
        have h_136 : (0 : Int) ≤ (t1.1 0 78).toInt ∧ (t1.1 0 78).toInt ≤ 6 := hok.1 0 78
        obtain ⟨v_137, e_138⟩ : ∃ z, z = w40_2 + 1 := ⟨_, rfl⟩
        have h_139 : v_137.toInt = w40_2.toInt + 1 := by rw [e_138]; exact ti_iadd (by show (_ : Int) ≤ w40_2.toInt + 1; omega) (by show w40_2.toInt + 1 < (_ : Int); omega)
        refine lv_iinc (v := v_137) (lv' := [(2, .int v_137), (0, .ref (ad 0)), (1, .int x1)]) C.1 C.2.1 dX12_isJob_40 hl (k := 2) rfl e_138.symm (by decide) rfl (fun ls hl => ?_)
        have hl : lv_has ls 6 [(0, .ref (ad 0)), (1, .int x1), (2, .int v_137)] := lv_sub hl [1, 2, 0] rfl
        refine lv_goto (tgt := 16) C.1 C.2.1 dX12_isJob_43 (by decide) ?_
        exact ih_16 t1 v_137 _ _ _ hok hfr (show 6 ≤ v_137.toInt from by omega) (show v_137.toInt ≤ 81 from by omega) (show (t1.1 0 78).toInt = (t.1 0 78).toInt from by omega) (show (82 - v_137.toInt) < (fuel_16 : Int) from by omega) hP hD hS (lv_sub hl [0, 1, 2] rfl)
      refine lv_aload_n C.1 C.2.1 dX12_isJob_16 rfl (lv_at hl 0 rfl) ?_
      refine lv_iload_n C.1 C.2.1 dX12_isJob_17 rfl (lv_at hl 1 rfl) ?_
      refine lv_iload_n C.1 C.2.1 dX12_isJob_18 rfl (lv_at hl 2 rfl) ?_
      refine g_Vi (As := [.int x1, .int w16_2]) (rest := []) C hP hD hS hA (T_X12_deckLetter l D K Z Y ad t1 hok (x1) (show (0 : Int) ≤ (x1 : Int32).toInt ∧ (x1 : Int32).toInt ≤ 1280 from ⟨by omega, by omega⟩) (w16_2) (show (1 : Int) ≤ (w16_2 : Int32).toInt ∧ (w16_2 : Int32).toInt ≤ 200 from ⟨by omega, by omega⟩)) hE hZ (uwV m_79_6 m_79_7 m_79_8 m_1_5 m_79_9) (hdV 2 (by decide +kernel) rfl) ⟨Nat.le_of_ble_eq_true rfl, Nat.le_of_ble_eq_true rfl⟩ rfl rfl (ci := 11) (q0 := 0) rfl rfl rfl hl.1 (Nat.le_of_ble_eq_true rfl) dX12_isJob_19 ⟨Nat.le_of_ble_eq_true rfl, Nat.le_of_ble_eq_true rfl⟩ (fun r_141 t_140 H locs hw hP hD hS => ?_)
      obtain ⟨h_143, h_144, p_145, p_146, p_147, p_148⟩ := hw
      replace p_145 : r_141 = fDeck t1 x1 w16_2 := p_145
      replace p_146 : r_141.toInt = (fDeck t1 x1 w16_2).toInt := p_146
      replace p_147 : ¬ r_141.toInt = 32 → (t1.2.2.1 37 (x1 : Int32).toNatClampNeg).toInt + w16_2.toInt ≤ (t1.2.2.1 38 (x1 : Int32).toNatClampNeg).toInt := p_147
      have h_149 : (t1.2.2.1 37 (x1 : Int32).toNatClampNeg).toInt = (t.2.2.1 37 (x1 : Int32).toNatClampNeg).toInt := tb_eq e_131 _
      have h_150 : (t1.2.2.1 38 (x1 : Int32).toNatClampNeg).toInt = (t.2.2.1 38 (x1 : Int32).toNatClampNeg).toInt := tb_eq e_132 _
      replace p_148 : 81 ≤ w16_2.toInt → r_141.toInt = 32 := p_148
      refine g_Si (As := [.int r_141]) (rest := []) C hP hD hS hA (T_X12_isGreat l D K Z Y ad t1 hok (r_141) (show (0 : Int) ≤ (r_141 : Int32).toInt ∧ (r_141 : Int32).toInt ≤ 255 from ⟨by omega, by omega⟩)) hE hZ (uwS m_32_12 m_32_13 m_1_5 m_32_14) (hdS 1 (by decide +kernel) rfl) ⟨Nat.le_of_ble_eq_true rfl, Nat.le_of_ble_eq_true rfl⟩ rfl rfl rfl hl.1 (Nat.le_of_ble_eq_true rfl) dX12_isJob_22 ⟨Nat.le_of_ble_eq_true rfl, Nat.le_of_ble_eq_true rfl⟩ (fun r_152 t_151 H locs hw hP hD hS => ?_)
      obtain ⟨h_154, h_155, p_156⟩ := hw
      replace p_156 : r_152.toInt = 1 → 65 ≤ r_141.toInt ∧ r_141.toInt ≤ 90 := p_156
      refine lv_if_ne (tgt := 40) C.1 C.2.1 dX12_isJob_25 (by decide) (fun c_157 => ?_) (fun c_157 => ?_)
      · replace c_157 : ¬ r_152.toInt = 0 := i_ne c_157
        exact L_40 t1 w16_2 _ _ _ hok hfr (show 6 ≤ w16_2.toInt from by omega) (show w16_2.toInt ≤ 80 from by omega) (show (t1.1 0 78).toInt = (t.1 0 78).toInt from by omega) (show (82 - w16_2.toInt) < (fuel_16 : Int) + 1 from by omega) hP hD hS (lv_sub hl [0, 1, 2] rfl)
      · replace c_157 : r_152.toInt = 0 := i_eq c_157
        refine lv_aload_n C.1 C.2.1 dX12_isJob_28 rfl (lv_at hl 0 rfl) ?_
        refine lv_iload_n C.1 C.2.1 dX12_isJob_29 rfl (lv_at hl 1 rfl) ?_
        refine lv_iload_n C.1 C.2.1 dX12_isJob_30 rfl (lv_at hl 2 rfl) ?_
        refine g_Vi (As := [.int x1, .int w16_2]) (rest := []) C hP hD hS hA (T_X12_deckLetter l D K Z Y ad t1 hok (x1) (show (0 : Int) ≤ (x1 : Int32).toInt ∧ (x1 : Int32).toInt ≤ 1280 from ⟨by omega, by omega⟩) (w16_2) (show (1 : Int) ≤ (w16_2 : Int32).toInt ∧ (w16_2 : Int32).toInt ≤ 200 from ⟨by omega, by omega⟩)) hE hZ (uwV m_79_6 m_79_7 m_79_8 m_1_5 m_79_9) (hdV 2 (by decide +kernel) rfl) ⟨Nat.le_of_ble_eq_true rfl, Nat.le_of_ble_eq_true rfl⟩ rfl rfl (ci := 11) (q0 := 0) rfl rfl rfl hl.1 (Nat.le_of_ble_eq_true rfl) dX12_isJob_31 ⟨Nat.le_of_ble_eq_true rfl, Nat.le_of_ble_eq_true rfl⟩ (fun r_159 t_158 H locs hw hP hD hS => ?_)
        obtain ⟨h_161, h_162, p_163, p_164, p_165, p_166⟩ := hw
        replace p_163 : r_159 = fDeck t1 x1 w16_2 := p_163
        replace p_164 : r_159.toInt = (fDeck t1 x1 w16_2).toInt := p_164
        replace p_165 : ¬ r_159.toInt = 32 → (t1.2.2.1 37 (x1 : Int32).toNatClampNeg).toInt + w16_2.toInt ≤ (t1.2.2.1 38 (x1 : Int32).toNatClampNeg).toInt := p_165
        replace p_166 : 81 ≤ w16_2.toInt → r_159.toInt = 32 := p_166
        refine g_Si (As := [.int r_159]) (rest := []) C hP hD hS hA (T_X12_isDigit l D K Z Y ad t1 hok (r_159) (show (0 : Int) ≤ (r_159 : Int32).toInt ∧ (r_159 : Int32).toInt ≤ 255 from ⟨by omega, by omega⟩)) hE hZ (uwS m_32_15 m_32_16 m_1_5 m_32_17) (hdS 1 (by decide +kernel) rfl) ⟨Nat.le_of_ble_eq_true rfl, Nat.le_of_ble_eq_true rfl⟩ rfl rfl rfl hl.1 (Nat.le_of_ble_eq_true rfl) dX12_isJob_34 ⟨Nat.le_of_ble_eq_true rfl, Nat.le_of_ble_eq_true rfl⟩ (fun r_168 t_167 H locs hw hP hD hS => ?_)
        obtain ⟨h_170, h_171, p_172⟩ := hw
        replace p_172 : r_168.toInt = 1 → 48 ≤ r_159.toInt ∧ r_159.toInt ≤ 57 := p_172
        refine lv_if_eq (tgt := 46) C.1 C.2.1 dX12_isJob_37 (by decide) (fun c_173 => ?_) (fun c_173 => ?_)
        · replace c_173 : r_168.toInt = 0 := i_eq c_173
          refine lv_aload_n C.1 C.2.1 dX12_isJob_46 rfl (lv_at hl 0 rfl) ?_
          refine lv_bipush (v := 6) C.1 C.2.1 dX12_isJob_47 (by decide) ?_
          refine k_put (ws' := WM K ad (uI t1 0 78 6)) (v := .int 6) C hP hD hS 0 rfl rfl inlX12 tyX12_ok nmX12 78 (by decide) m_78_21 rfl rfl rfl rfl rfl dX12_isJob_49 (fun H locs hP hD hS => ?_)
          have hok : okM (uI t1 0 78 6) := ⟨okI_I hok.1 0 78 6 (show (0 : Int) ≤ (6 : Int32).toInt ∧ (6 : Int32).toInt ≤ 6 from ⟨by decide, by decide⟩), hok.2.1, hok.2.2.1, hok.2.2.2.1, hok.2.2.2.2.1, hok.2.2.2.2.2.1, hok.2.2.2.2.2.2.1, trivial⟩
          have hfr : frA [(0, 78), (0, 79), (0, 80), (0, 81)] [] [] [] t (uI t1 0 78 6) := frA_I hfr 0 78 _ rfl
          refine lv_aload_n C.1 C.2.1 dX12_isJob_52 rfl (lv_at hl 0 rfl) ?_
          refine lv_iload_n C.1 C.2.1 dX12_isJob_53 rfl (lv_at hl 2 rfl) ?_
          refine k_put (ws' := WM K ad (uI (uI t1 0 78 6) 0 79 w16_2)) (v := .int w16_2) C hP hD hS 0 rfl rfl inlX12 tyX12_ok nmX12 79 (by decide) m_78_22 rfl rfl rfl rfl rfl dX12_isJob_54 (fun H locs hP hD hS => ?_)
          have hok : okM (uI (uI t1 0 78 6) 0 79 w16_2) := ⟨okI_I hok.1 0 79 w16_2 (show (0 : Int) ≤ (w16_2 : Int32).toInt ∧ (w16_2 : Int32).toInt ≤ 81 from ⟨by omega, by omega⟩), hok.2.1, hok.2.2.1, hok.2.2.2.1, hok.2.2.2.2.1, hok.2.2.2.2.2.1, hok.2.2.2.2.2.2.1, trivial⟩
          have hfr : frA [(0, 78), (0, 79), (0, 80), (0, 81)] [] [] [] t (uI (uI t1 0 78 6) 0 79 w16_2) := frA_I hfr 0 79 _ rfl
          refine lv_iload_n C.1 C.2.1 dX12_isJob_57 rfl (lv_at hl 2 rfl) ?_
          refine lv_bipush (v := 6) C.1 C.2.1 dX12_isJob_58 (by decide) ?_
          refine lv_icmp_eq (tgt := 80) C.1 C.2.1 dX12_isJob_60 (by decide) (fun c_174 => ?_) (fun c_174 => ?_)
          · replace c_174 : w16_2.toInt = 6 := i_eq c_174
            refine lv_iconst (v := 0) C.1 C.2.1 dX12_isJob_80 (by decide) ?_
            exact g_iret C hr hlocks hP hD hS (by decide) (uI (uI t1 0 78 6) 0 79 w16_2) rfl ⟨hok, hfr, by decide, by decide, (show 0 = 1 → 6 = 6 from by omega), (show (t.1 0 78).toInt = 6 → 6 = 6 from by omega)⟩ (Nat.le_of_ble_eq_true rfl) (Nat.le_of_ble_eq_true rfl) dX12_isJob_81
          · replace c_174 : ¬ w16_2.toInt = 6 := i_ne c_174
            refine lv_iload_n C.1 C.2.1 dX12_isJob_63 rfl (lv_at hl 2 rfl) ?_
            refine lv_bipush (v := 16) C.1 C.2.1 dX12_isJob_64 (by decide) ?_
            refine lv_icmp_gt (tgt := 80) C.1 C.2.1 dX12_isJob_66 (by decide) (fun c_175 => ?_) (fun c_175 => ?_)
            · replace c_175 : 16 < w16_2.toInt := i_lt c_175
              refine lv_iconst (v := 0) C.1 C.2.1 dX12_isJob_80 (by decide) ?_
              exact g_iret C hr hlocks hP hD hS (by decide) (uI (uI t1 0 78 6) 0 79 w16_2) rfl ⟨hok, hfr, by decide, by decide, (show 0 = 1 → 6 = 6 from by omega), (show (t.1 0 78).toInt = 6 → 6 = 6 from by omega)⟩ (Nat.le_of_ble_eq_true rfl) (Nat.le_of_ble_eq_true rfl) dX12_isJob_81
            · replace c_175 : w16_2.toInt ≤ 16 := i_nlt c_175
              refine lv_aload_n C.1 C.2.1 dX12_isJob_69 rfl (lv_at hl 0 rfl) ?_
              refine lv_iload_n C.1 C.2.1 dX12_isJob_70 rfl (lv_at hl 1 rfl) ?_
              refine lv_iload_n C.1 C.2.1 dX12_isJob_71 rfl (lv_at hl 2 rfl) ?_
              refine g_Vi (As := [.int x1, .int w16_2]) (rest := []) C hP hD hS hA (T_X12_deckLetter l D K Z Y ad (uI (uI t1 0 78 6) 0 79 w16_2) hok (x1) (show (0 : Int) ≤ (x1 : Int32).toInt ∧ (x1 : Int32).toInt ≤ 1280 from ⟨by omega, by omega⟩) (w16_2) (show (1 : Int) ≤ (w16_2 : Int32).toInt ∧ (w16_2 : Int32).toInt ≤ 200 from ⟨by omega, by omega⟩)) hE hZ (uwV m_79_6 m_79_7 m_79_8 m_1_5 m_79_9) (hdV 2 (by decide +kernel) rfl) ⟨Nat.le_of_ble_eq_true rfl, Nat.le_of_ble_eq_true rfl⟩ rfl rfl (ci := 11) (q0 := 0) rfl rfl rfl hl.1 (Nat.le_of_ble_eq_true rfl) dX12_isJob_72 ⟨Nat.le_of_ble_eq_true rfl, Nat.le_of_ble_eq_true rfl⟩ (fun r_177 t_176 H locs hw hP hD hS => ?_)
              obtain ⟨h_179, h_180, p_181, p_182, p_183, p_184⟩ := hw
              replace p_181 : r_177 = fDeck t1 x1 w16_2 := p_181
              replace p_182 : r_177.toInt = (fDeck t1 x1 w16_2).toInt := p_182
              replace p_183 : ¬ r_177.toInt = 32 → (t1.2.2.1 37 (x1 : Int32).toNatClampNeg).toInt + w16_2.toInt ≤ (t1.2.2.1 38 (x1 : Int32).toNatClampNeg).toInt := p_183
              replace p_184 : 81 ≤ w16_2.toInt → r_177.toInt = 32 := p_184
              refine lv_bipush (v := 32) C.1 C.2.1 dX12_isJob_75 (by decide) ?_
              refine lv_icmp_eq (tgt := 82) C.1 C.2.1 dX12_isJob_77 (by decide) (fun c_185 => ?_) (fun c_185 => ?_)
              · replace c_185 : r_177.toInt = 32 := i_eq c_185
                obtain ⟨v_186, e_187⟩ : ∃ z, z = w16_2 + 1 := ⟨_, rfl⟩
                have h_188 : v_186.toInt = w16_2.toInt + 1 := by rw [e_187]; exact ti_iadd (by show (_ : Int) ≤ w16_2.toInt + 1; omega) (by show w16_2.toInt + 1 < (_ : Int); omega)
                refine lv_iinc (v := v_186) (lv' := [(2, .int v_186), (0, .ref (ad 0)), (1, .int x1)]) C.1 C.2.1 dX12_isJob_82 hl (k := 2) rfl e_187.symm (by decide) rfl (fun ls hl => ?_)
                have hl : lv_has ls 6 [(0, .ref (ad 0)), (1, .int x1), (2, .int v_186)] := lv_sub hl [1, 2, 0] rfl
                refine lv_iload_n C.1 C.2.1 dX12_isJob_85 rfl (lv_at hl 2 rfl) ?_
                refine lv_istore_n (lv' := [(3, .int v_186), (0, .ref (ad 0)), (1, .int x1), (2, .int v_186)]) C.1 C.2.1 dX12_isJob_86 rfl hl (by decide) rfl (fun ls hl => ?_)
                have hl : lv_has ls 6 [(0, .ref (ad 0)), (1, .int x1), (2, .int v_186), (3, .int v_186)] := lv_sub hl [1, 2, 3, 0] rfl
                refine lv_aload_n C.1 C.2.1 dX12_isJob_87 rfl (lv_at hl 0 rfl) ?_
                refine lv_iconst (v := 0) C.1 C.2.1 dX12_isJob_88 (by decide) ?_
                refine k_put (ws' := WM K ad (uI (uI (uI t1 0 78 6) 0 79 w16_2) 0 81 0)) (v := .int 0) C hP hD hS 0 rfl rfl inlX12 tyX12_ok nmX12 81 (by decide) m_78_23 rfl rfl rfl rfl rfl dX12_isJob_89 (fun H locs hP hD hS => ?_)
                have hok : okM (uI (uI (uI t1 0 78 6) 0 79 w16_2) 0 81 0) := ⟨okI_I hok.1 0 81 0 (show (-2147483648 : Int) ≤ (0 : Int32).toInt ∧ (0 : Int32).toInt ≤ 2147483647 from (i_rng _)), hok.2.1, hok.2.2.1, hok.2.2.2.1, hok.2.2.2.2.1, hok.2.2.2.2.2.1, hok.2.2.2.2.2.2.1, trivial⟩
                have hfr : frA [(0, 78), (0, 79), (0, 80), (0, 81)] [] [] [] t (uI (uI (uI t1 0 78 6) 0 79 w16_2) 0 81 0) := frA_I hfr 0 81 _ rfl
                exact L_92 20 (uI (uI (uI t1 0 78 6) 0 79 w16_2) 0 81 0) v_186 v_186 _ _ _ hok hfr ⟨by omega, by omega⟩ ⟨by omega, by omega⟩ (show (6 : Int) ≤ (6 : Int32).toInt ∧ (6 : Int32).toInt ≤ 6 from ⟨by decide, by decide⟩) (show v_186.toInt ≤ v_186.toInt from by omega) (show v_186.toInt ≤ v_186.toInt + 5 from by omega) (show 7 ≤ v_186.toInt from by omega) (show v_186.toInt ≤ 17 from by omega) (show 6 = 6 from by omega) (show (v_186.toInt + 6 - v_186.toInt) < ((20 : Nat) : Int) from by omega) hP hD hS (lv_sub hl [0, 1, 2, 3] rfl)
              · replace c_185 : ¬ r_177.toInt = 32 := i_ne c_185
                refine lv_iconst (v := 0) C.1 C.2.1 dX12_isJob_80 (by decide) ?_
                exact g_iret C hr hlocks hP hD hS (by decide) (uI (uI t1 0 78 6) 0 79 w16_2) rfl ⟨hok, hfr, by decide, by decide, (show 0 = 1 → 6 = 6 from by omega), (show (t.1 0 78).toInt = 6 → 6 = 6 from by omega)⟩ (Nat.le_of_ble_eq_true rfl) (Nat.le_of_ble_eq_true rfl) dX12_isJob_81
        · replace c_173 : ¬ r_168.toInt = 0 := i_ne c_173
          exact L_40 t1 w16_2 _ _ _ hok hfr (show 6 ≤ w16_2.toInt from by omega) (show w16_2.toInt ≤ 80 from by omega) (show (t1.1 0 78).toInt = (t.1 0 78).toInt from by omega) (show (82 - w16_2.toInt) < (fuel_16 : Int) + 1 from by omega) hP hD hS (lv_sub hl [0, 1, 2] rfl)
  refine lv_aload_n C.1 C.2.1 dX12_isJob_0 rfl (lv_at hl 0 rfl) ?_
  refine lv_iload_n C.1 C.2.1 dX12_isJob_1 rfl (lv_at hl 1 rfl) ?_
  refine va_ldcwS C.1 C.2.1 C.2.2.2.1 (hE.2 25 (by decide)) dX12_isJob_2 ?_
  refine g_Vi (As := [.int x1, .ref (Z 25)]) (rest := []) C hP hD hS hA (T_X12_isWord l D K Z Y ad t hok (x1) (show (0 : Int) ≤ (x1 : Int32).toInt ∧ (x1 : Int32).toInt ≤ 1280 from ⟨by omega, by omega⟩) (25) (show sS 25 from ⟨by decide, by decide, by decide⟩)) hE hZ (uwV m_79_1 m_79_2 m_79_3 m_1_5 m_79_4) (hdV 2 (by decide +kernel) rfl) ⟨Nat.le_of_ble_eq_true rfl, Nat.le_of_ble_eq_true rfl⟩ rfl rfl (ci := 11) (q0 := 0) rfl rfl rfl hl.1 (Nat.le_of_ble_eq_true rfl) dX12_isJob_5 ⟨Nat.le_of_ble_eq_true rfl, Nat.le_of_ble_eq_true rfl⟩ (fun r_190 t_189 H locs hw hP hD hS => ?_)
  obtain ⟨h_192, h_193⟩ := hw
  refine lv_if_ne (tgt := 13) C.1 C.2.1 dX12_isJob_8 (by decide) (fun c_194 => ?_) (fun c_194 => ?_)
  · replace c_194 : ¬ r_190.toInt = 0 := i_ne c_194
    refine lv_bipush (v := 6) C.1 C.2.1 dX12_isJob_13 (by decide) ?_
    refine lv_istore_n (lv' := [(2, .int 6), (0, .ref (ad 0)), (1, .int x1)]) C.1 C.2.1 dX12_isJob_15 rfl hl (by decide) rfl (fun ls hl => ?_)
    have hl : lv_has ls 6 [(0, .ref (ad 0)), (1, .int x1), (2, .int 6)] := lv_sub hl [1, 2, 0] rfl
    exact L_16 100 t 6 _ _ _ hok hfr (show 6 ≤ 6 from by omega) (show 6 ≤ 81 from by omega) (show (t.1 0 78).toInt = (t.1 0 78).toInt from by omega) (show (82 - 6) < ((100 : Nat) : Int) from by omega) hP hD hS (lv_sub hl [0, 1, 2] rfl)
  · replace c_194 : r_190.toInt = 0 := i_eq c_194
    refine lv_iconst (v := 0) C.1 C.2.1 dX12_isJob_11 (by decide) ?_
    exact g_iret C hr hlocks hP hD hS (by decide) t rfl ⟨hok, hfr, by decide, by decide, (show 0 = 1 → (t.1 0 78).toInt = 6 from by omega), (show (t.1 0 78).toInt = 6 → (t.1 0 78).toInt = 6 from by omega)⟩ (Nat.le_of_ble_eq_true rfl) (Nat.le_of_ble_eq_true rfl) dX12_isJob_12

theorem dX12_search_0 : decode cX12_search 0 = .ok (.iload_n 1, 1) := by decide +kernel
theorem dX12_search_1 : decode cX12_search 1 = .ok (.istore_n 3, 1) := by decide +kernel
theorem dX12_search_10 : decode cX12_search 10 = .ok (.aload_n 0, 1) := by decide +kernel
theorem dX12_search_11 : decode cX12_search 11 = .ok (.iload_n 3, 1) := by decide +kernel
theorem dX12_search_12 : decode cX12_search 12 = .ok (.aload_n 2, 1) := by decide +kernel
theorem dX12_search_13 : decode cX12_search 13 = .ok (.invokevirtual 730, 3) := by decide +kernel
theorem dX12_search_16 : decode cX12_search 16 = .ok (.ifCond .ne 17, 3) := by decide +kernel
theorem dX12_search_19 : decode cX12_search 19 = .ok (.aload_n 0, 1) := by decide +kernel
theorem dX12_search_2 : decode cX12_search 2 = .ok (.iload_n 3, 1) := by decide +kernel
theorem dX12_search_20 : decode cX12_search 20 = .ok (.iload_n 3, 1) := by decide +kernel
theorem dX12_search_21 : decode cX12_search 21 = .ok (.invokevirtual 767, 3) := by decide +kernel
theorem dX12_search_24 : decode cX12_search 24 = .ok (.ifCond .ne 9, 3) := by decide +kernel
theorem dX12_search_27 : decode cX12_search 27 = .ok (.iinc 3 1, 3) := by decide +kernel
theorem dX12_search_3 : decode cX12_search 3 = .ok (.aload_n 0, 1) := by decide +kernel
theorem dX12_search_30 : decode cX12_search 30 = .ok (.goto (-28), 3) := by decide +kernel
theorem dX12_search_33 : decode cX12_search 33 = .ok (.iload_n 3, 1) := by decide +kernel
theorem dX12_search_34 : decode cX12_search 34 = .ok (.ireturn, 1) := by decide +kernel
theorem dX12_search_4 : decode cX12_search 4 = .ok (.getfield 764, 3) := by decide +kernel
theorem dX12_search_7 : decode cX12_search 7 = .ok (.if_icmp .ge 26, 3) := by decide +kernel
set_option maxHeartbeats 4000000 in
set_option maxRecDepth 100000 in
theorem T_X12_search (l : Launch) (D : va_G) (K : Nat → ClassId) (Z Y : Nat → Nat) (ad : Nat → Nat) (t : tSt) (hok : okM t) (x1 : Int32) (hx1 : (1 : Int) ≤ x1.toInt ∧ x1.toInt ≤ 1281) (i2 : Nat) (hi2 : sS i2) (hs0 : x1.toInt ≤ 1280) : tMet l yX12_search cX12_search 4 (some .int) (rmD 10 0 0) D K Z Y [.ref (ad 0), .int x1, .ref (Z i2)] (WM K ad t) (QI D K (fun (r : Int32) (u : tSt) => okM u ∧ frA [(0, 78), (0, 79), (0, 80), (0, 81)] [] [] [] t u ∧ (1 : Int) ≤ r.toInt ∧ r.toInt ≤ 1281 ∧ (x1.toInt ≤ r.toInt) ∧ (r.toInt ≤ (t.1 0 77).toInt ∨ r.toInt = x1.toInt) ∧ ((t.1 0 78).toInt = 6 → (u.1 0 78).toInt = 6)) (fun (u : tSt) => WM K ad u)) 0 0 := by
  refine t_met RX12 ⟨rfl, by decide +kernel⟩ (Nat.le_of_ble_eq_true rfl) ?_
  intro p e s m below meth c A ls C hE hZ hr hlocks hA hP hD hS hl
  have hl : lv_has ls 4 [(0, .ref (ad 0)), (1, .int x1), (2, .ref (Z i2))] := hl
  have hokt := hok
  have hfr : frA [(0, 78), (0, 79), (0, 80), (0, 81)] [] [] [] t t := frA_rf
  have h_1 : (0 : Int) ≤ (t.1 0 77).toInt ∧ (t.1 0 77).toInt ≤ 1280 := hok.1 0 77
  have h_2 : (0 : Int) ≤ (t.1 0 78).toInt ∧ (t.1 0 78).toInt ≤ 6 := hok.1 0 78
  have L_2 : ∀ (fuel_2 : Nat) (t1 : tSt) (w2_3 : Int32) (H : Heap) (locs : List Loc) (ls : Array Slot), okM t1 → frA [(0, 78), (0, 79), (0, 80), (0, 81)] [] [] [] t t1 → (1 : Int) ≤ w2_3.toInt ∧ w2_3.toInt ≤ 1281 → (x1.toInt ≤ w2_3.toInt) → (w2_3.toInt ≤ (t.1 0 77).toInt ∨ w2_3.toInt = x1.toInt) → ((t.1 0 78).toInt = 6 → (t1.1 0 78).toInt = 6) → (1300 - w2_3.toInt) < (fuel_2 : Int) → va_P D vwCl (WM K ad t1) H → va_D A (WM K ad t1) → va_S A s.heap H locs → lv_has ls 4 [(0, .ref (ad 0)), (1, .int x1), (2, .ref (Z i2)), (3, .int w2_3)] → W p l e (rmD 10 0 0) s m [.ref (ad 0), .int x1, .ref (Z i2)].toArray below meth c H locs 0 0 (MQ below (QI D K (fun (r : Int32) (u : tSt) => okM u ∧ frA [(0, 78), (0, 79), (0, 80), (0, 81)] [] [] [] t u ∧ (1 : Int) ≤ r.toInt ∧ r.toInt ≤ 1281 ∧ (x1.toInt ≤ r.toInt) ∧ (r.toInt ≤ (t.1 0 77).toInt ∨ r.toInt = x1.toInt) ∧ ((t.1 0 78).toInt = 6 → (u.1 0 78).toInt = 6)) (fun (u : tSt) => WM K ad u) A) [.ref (ad 0), .int x1, .ref (Z i2)].toArray s 0 0 A) (F0 m 2 ls []) := by
    intro fuel_2
    induction fuel_2 with
    | zero =>
      intro t1 w2_3 H locs ls hok hfr hw2_3 hi2_0 hi2_1 hi2_2 hm2_2 hP hD hS hl
      have h_3 : (t1.1 0 77).toInt = (t.1 0 77).toInt := ti_eq (hfr.1 0 77 rfl)
      have h_4 : (0 : Int) ≤ (t1.1 0 77).toInt ∧ (t1.1 0 77).toInt ≤ 1280 := hok.1 0 77
      have h_5 : (0 : Int) ≤ (t1.1 0 78).toInt ∧ (t1.1 0 78).toInt ≤ 6 := hok.1 0 78
      exact absurd hm2_2 (by omega)
    | succ fuel_2 ih_2 =>
      intro t1 w2_3 H locs ls hok hfr hw2_3 hi2_0 hi2_1 hi2_2 hm2_2 hP hD hS hl
      have hm2_2 : (1300 - w2_3.toInt) < (fuel_2 : Int) + 1 := by omega
      have h_6 : (t1.1 0 77).toInt = (t.1 0 77).toInt := ti_eq (hfr.1 0 77 rfl)
      have h_7 : (0 : Int) ≤ (t1.1 0 77).toInt ∧ (t1.1 0 77).toInt ≤ 1280 := hok.1 0 77
      have h_8 : (0 : Int) ≤ (t1.1 0 78).toInt ∧ (t1.1 0 78).toInt ≤ 6 := hok.1 0 78
      refine lv_iload_n C.1 C.2.1 dX12_search_2 rfl (lv_at hl 3 rfl) ?_
      refine lv_aload_n C.1 C.2.1 dX12_search_3 rfl (lv_at hl 0 rfl) ?_
      refine k_get (v := .int (t1.1 0 77)) C hP 0 rfl rfl inlX12 77 (by decide) m_78_14 rfl dX12_search_4 ?_
      refine lv_icmp_ge (tgt := 33) C.1 C.2.1 dX12_search_7 (by decide) (fun c_9 => ?_) (fun c_9 => ?_)
      · replace c_9 : (t1.1 0 77).toInt ≤ w2_3.toInt := i_le c_9
        refine lv_iload_n C.1 C.2.1 dX12_search_33 rfl (lv_at hl 3 rfl) ?_
        exact g_iret C hr hlocks hP hD hS rfl t1 rfl ⟨hok, hfr, by omega, by omega, (show x1.toInt ≤ w2_3.toInt from by omega), (show w2_3.toInt ≤ (t.1 0 77).toInt ∨ w2_3.toInt = x1.toInt from by omega), (show (t.1 0 78).toInt = 6 → (t1.1 0 78).toInt = 6 from by omega)⟩ (Nat.le_of_ble_eq_true rfl) (Nat.le_of_ble_eq_true rfl) dX12_search_34
      · replace c_9 : w2_3.toInt < (t1.1 0 77).toInt := i_nle c_9
        refine lv_aload_n C.1 C.2.1 dX12_search_10 rfl (lv_at hl 0 rfl) ?_
        refine lv_iload_n C.1 C.2.1 dX12_search_11 rfl (lv_at hl 3 rfl) ?_
        refine lv_aload_n C.1 C.2.1 dX12_search_12 rfl (lv_at hl 2 rfl) ?_
        refine g_Vi (As := [.int w2_3, .ref (Z i2)]) (rest := []) C hP hD hS hA (T_X12_isWord l D K Z Y ad t1 hok (w2_3) (show (0 : Int) ≤ (w2_3 : Int32).toInt ∧ (w2_3 : Int32).toInt ≤ 1280 from ⟨by omega, by omega⟩) (i2) hi2) hE hZ (uwV m_79_1 m_79_2 m_79_3 m_1_5 m_79_4) (hdV 2 (by decide +kernel) rfl) ⟨Nat.le_of_ble_eq_true rfl, Nat.le_of_ble_eq_true rfl⟩ rfl rfl (ci := 11) (q0 := 0) rfl rfl rfl hl.1 (Nat.le_of_ble_eq_true rfl) dX12_search_13 ⟨Nat.le_of_ble_eq_true rfl, Nat.le_of_ble_eq_true rfl⟩ (fun r_11 t_10 H locs hw hP hD hS => ?_)
        obtain ⟨h_13, h_14⟩ := hw
        refine lv_if_ne (tgt := 33) C.1 C.2.1 dX12_search_16 (by decide) (fun c_15 => ?_) (fun c_15 => ?_)
        · replace c_15 : ¬ r_11.toInt = 0 := i_ne c_15
          refine lv_iload_n C.1 C.2.1 dX12_search_33 rfl (lv_at hl 3 rfl) ?_
          exact g_iret C hr hlocks hP hD hS rfl t1 rfl ⟨hok, hfr, by omega, by omega, (show x1.toInt ≤ w2_3.toInt from by omega), (show w2_3.toInt ≤ (t.1 0 77).toInt ∨ w2_3.toInt = x1.toInt from by omega), (show (t.1 0 78).toInt = 6 → (t1.1 0 78).toInt = 6 from by omega)⟩ (Nat.le_of_ble_eq_true rfl) (Nat.le_of_ble_eq_true rfl) dX12_search_34
        · replace c_15 : r_11.toInt = 0 := i_eq c_15
          refine lv_aload_n C.1 C.2.1 dX12_search_19 rfl (lv_at hl 0 rfl) ?_
          refine lv_iload_n C.1 C.2.1 dX12_search_20 rfl (lv_at hl 3 rfl) ?_
          refine g_Vi (As := [.int w2_3]) (rest := []) C hP hD hS hA (T_X12_isJob l D K Z Y ad t1 hok (w2_3) (show (0 : Int) ≤ (w2_3 : Int32).toInt ∧ (w2_3 : Int32).toInt ≤ 1280 from ⟨by omega, by omega⟩)) hE hZ (uwV m_78_17 m_78_18 m_78_19 m_1_5 m_78_20) (hdV 1 (by decide +kernel) rfl) ⟨Nat.le_of_ble_eq_true rfl, Nat.le_of_ble_eq_true rfl⟩ rfl rfl (ci := 11) (q0 := 0) rfl rfl rfl hl.1 (Nat.le_of_ble_eq_true rfl) dX12_search_21 ⟨Nat.le_of_ble_eq_true rfl, Nat.le_of_ble_eq_true rfl⟩ (fun r_17 t_16 H locs hw hP hD hS => ?_)
          obtain ⟨hok, f_18, h_19, h_20, p_21, p_22⟩ := hw
          have hfr : frA [(0, 78), (0, 79), (0, 80), (0, 81)] [] [] [] t t_16 := frA_tr hfr f_18 rfl
          have h_23 : (t_16.1 0 77).toInt = (t1.1 0 77).toInt := ti_eq (f_18.1 0 77 rfl)
          have h_24 : (0 : Int) ≤ (t_16.1 0 78).toInt ∧ (t_16.1 0 78).toInt ≤ 6 := hok.1 0 78
          replace p_21 : r_17.toInt = 1 → (t_16.1 0 78).toInt = 6 := p_21
          replace p_22 : (t1.1 0 78).toInt = 6 → (t_16.1 0 78).toInt = 6 := p_22
          refine lv_if_ne (tgt := 33) C.1 C.2.1 dX12_search_24 (by decide) (fun c_25 => ?_) (fun c_25 => ?_)
          · replace c_25 : ¬ r_17.toInt = 0 := i_ne c_25
            refine lv_iload_n C.1 C.2.1 dX12_search_33 rfl (lv_at hl 3 rfl) ?_
            exact g_iret C hr hlocks hP hD hS rfl t_16 rfl ⟨hok, hfr, by omega, by omega, (show x1.toInt ≤ w2_3.toInt from by omega), (show w2_3.toInt ≤ (t.1 0 77).toInt ∨ w2_3.toInt = x1.toInt from by omega), (show (t.1 0 78).toInt = 6 → (t_16.1 0 78).toInt = 6 from by omega)⟩ (Nat.le_of_ble_eq_true rfl) (Nat.le_of_ble_eq_true rfl) dX12_search_34
          · replace c_25 : r_17.toInt = 0 := i_eq c_25
            obtain ⟨v_26, e_27⟩ : ∃ z, z = w2_3 + 1 := ⟨_, rfl⟩
            have h_28 : v_26.toInt = w2_3.toInt + 1 := by rw [e_27]; exact ti_iadd (by show (_ : Int) ≤ w2_3.toInt + 1; omega) (by show w2_3.toInt + 1 < (_ : Int); omega)
            refine lv_iinc (v := v_26) (lv' := [(3, .int v_26), (0, .ref (ad 0)), (1, .int x1), (2, .ref (Z i2))]) C.1 C.2.1 dX12_search_27 hl (k := 3) rfl e_27.symm (by decide) rfl (fun ls hl => ?_)
            have hl : lv_has ls 4 [(0, .ref (ad 0)), (1, .int x1), (2, .ref (Z i2)), (3, .int v_26)] := lv_sub hl [1, 2, 3, 0] rfl
            refine lv_goto (tgt := 2) C.1 C.2.1 dX12_search_30 (by decide) ?_
            exact ih_2 t_16 v_26 _ _ _ hok hfr ⟨by omega, by omega⟩ (show x1.toInt ≤ v_26.toInt from by omega) (show v_26.toInt ≤ (t.1 0 77).toInt ∨ v_26.toInt = x1.toInt from by omega) (show (t.1 0 78).toInt = 6 → (t_16.1 0 78).toInt = 6 from by omega) (show (1300 - v_26.toInt) < (fuel_2 : Int) from by omega) hP hD hS (lv_sub hl [0, 1, 2, 3] rfl)
  refine lv_iload_n C.1 C.2.1 dX12_search_0 rfl (lv_at hl 1 rfl) ?_
  refine lv_istore_n (lv' := [(3, .int x1), (0, .ref (ad 0)), (1, .int x1), (2, .ref (Z i2))]) C.1 C.2.1 dX12_search_1 rfl hl (by decide) rfl (fun ls hl => ?_)
  have hl : lv_has ls 4 [(0, .ref (ad 0)), (1, .int x1), (2, .ref (Z i2)), (3, .int x1)] := lv_sub hl [1, 2, 3, 0] rfl
  exact L_2 1400 t x1 _ _ _ hok hfr ⟨by omega, by omega⟩ (show x1.toInt ≤ x1.toInt from by omega) (show x1.toInt ≤ (t.1 0 77).toInt ∨ x1.toInt = x1.toInt from by omega) (show (t.1 0 78).toInt = 6 → (t.1 0 78).toInt = 6 from by omega) (show (1300 - x1.toInt) < ((1400 : Nat) : Int) from by omega) hP hD hS (lv_sub hl [0, 1, 2, 3] rfl)
