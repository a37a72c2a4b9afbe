
set_option maxHeartbeats 4000000 in
set_option maxRecDepth 100000 in
theorem T_X4_mark_1 (l : Launch) (D : va_G) (K : Nat → ClassId) (Z Y : Nat → Nat) (ad : Nat → Nat) (d : dSt) (t : tSt) (hok : okX t) (x1 : Int32) (hx1 : (1 : Int) ≤ x1.toInt ∧ x1.toInt ≤ 2147483647) (x2 : Int32) (hx2 : (0 : Int) ≤ x2.toInt ∧ x2.toInt ≤ 255) : tMet l yX4_mark cX4_mark 3 none (rmD 0 0 0) D K Z Y [.ref (ad 19), .int x1, .int x2] ((WX d) K ad t) (QV D K (fun (u : tSt) => okX u ∧ frA [] [] [34] [] t u) (fun (u : tSt) => (WX d) K ad u)) 0 0 := by
  refine t_met RX4 ⟨rfl, by decide +kernel⟩ (Nat.le_of_ble_eq_true rfl) ?_
  intro p e s m below meth c A ls C hE hZ hr hlocks hA hP hD hS hl
  have hl : lv_has ls 3 [(0, .ref (ad 19)), (1, .int x1), (2, .int x2)] := hl
  have hokt := hok
  have hfr : frA [] [] [34] [] t t := frA_rf
  refine lv_iload_n C.1 C.2.1 dX4_mark_0 rfl (lv_at hl 1 rfl) ?_
  refine lv_iconst (v := 1) C.1 C.2.1 dX4_mark_1 (by decide) ?_
  refine lv_icmp_lt (tgt := 21) C.1 C.2.1 dX4_mark_2 (by decide) (fun c_1 => False.elim (by have c_1 : x1.toInt < 1 := i_lt c_1; omega)) (fun c_1 => ?_)
  replace c_1 : 1 ≤ x1.toInt := i_nlt c_1
  refine lv_iload_n C.1 C.2.1 dX4_mark_5 rfl (lv_at hl 1 rfl) ?_
  refine lv_bipush (v := 120) C.1 C.2.1 dX4_mark_6 (by decide) ?_
  refine lv_icmp_gt (tgt := 21) C.1 C.2.1 dX4_mark_8 (by decide) (fun c_2 => ?_) (fun c_2 => ?_)
  · replace c_2 : 120 < x1.toInt := i_lt c_2
    exact g_vret C hr hlocks hP hD hS t rfl ⟨hok, hfr⟩ (Nat.le_of_ble_eq_true rfl) (Nat.le_of_ble_eq_true rfl) dX4_mark_21
  · replace c_2 : x1.toInt ≤ 120 := i_nlt c_2
    refine lv_aload_n C.1 C.2.1 dX4_mark_11 rfl (lv_at hl 0 rfl) ?_
    refine k_get (v := .ref (ad 34)) C hP 19 rfl rfl inlX4 2 (by decide) m_4_11 rfl dX4_mark_12 ?_
    refine lv_iload_n C.1 C.2.1 dX4_mark_15 rfl (lv_at hl 1 rfl) ?_
    refine lv_iconst (v := 1) C.1 C.2.1 dX4_mark_16 (by decide) ?_
    obtain ⟨v_3, e_4⟩ : ∃ z, z = (x1 : Int32) - (1 : Int32) := ⟨_, rfl⟩
    have h_5 : v_3.toInt = x1.toInt - 1 := by rw [e_4]; exact ti_isub (by show (_ : Int) ≤ x1.toInt - 1; omega) (by show x1.toInt - 1 < (_ : Int); omega)
    refine k_isub (v := v_3) C e_4.symm dX4_mark_17 ?_
    refine lv_iload_n C.1 C.2.1 dX4_mark_18 rfl (lv_at hl 2 rfl) ?_
    obtain ⟨v_6, e_7⟩ : ∃ z, z = (x2 : Int32).toInt8.toInt32 := ⟨_, rfl⟩
    have h_8 : (-128 : Int) ≤ v_6.toInt ∧ v_6.toInt ≤ 127 := by rw [e_7]; exact nar_byte _
    refine lv_i2b (v := v_6) C.1 C.2.1 dX4_mark_19 e_7.symm ?_
    obtain ⟨v_9, e_10⟩ : ∃ z, z = vp_nar .byte v_6 := ⟨_, rfl⟩
    have h_11 : (-128 : Int) ≤ v_9.toInt ∧ v_9.toInt ≤ 127 := by rw [e_10]; exact nar_byte _
    refine k_bst (ws' := (WX d) K ad (uB t 34 (v_3 : Int32).toNatClampNeg v_9)) (x' := v_9) C hP hD hS 34 rfl (vp_in_iff.mpr ⟨by omega, by omega⟩) rfl e_10.symm rfl dX4_mark_20 (fun H locs hP hD hS => ?_)
    have hok : okX (uB t 34 (v_3 : Int32).toNatClampNeg v_9) := ⟨hok.1, okB_B hok.2.1 34 _ v_9 (show (-128 : Int) ≤ (v_9 : Int32).toInt ∧ (v_9 : Int32).toInt ≤ 127 from ⟨by omega, by omega⟩), trivial⟩
    have hfr : frA [] [] [34] [] t (uB t 34 (v_3 : Int32).toNatClampNeg v_9) := frA_B hfr 34 _ _ rfl
    exact g_vret C hr hlocks hP hD hS (uB t 34 (v_3 : Int32).toNatClampNeg v_9) rfl ⟨hok, hfr⟩ (Nat.le_of_ble_eq_true rfl) (Nat.le_of_ble_eq_true rfl) dX4_mark_21

theorem dX5_letterHere_0 : decode cX5_letterHere 0 = .ok (.aload_n 0, 1) := by decide +kernel
theorem dX5_letterHere_1 : decode cX5_letterHere 1 = .ok (.getfield 19, 3) := by decide +kernel
theorem dX5_letterHere_11 : decode cX5_letterHere 11 = .ok (.aload_n 0, 1) := by decide +kernel
theorem dX5_letterHere_12 : decode cX5_letterHere 12 = .ok (.getfield 23, 3) := by decide +kernel
theorem dX5_letterHere_15 : decode cX5_letterHere 15 = .ok (.if_icmp .ge 27, 3) := by decide +kernel
theorem dX5_letterHere_18 : decode cX5_letterHere 18 = .ok (.aload_n 0, 1) := by decide +kernel
theorem dX5_letterHere_19 : decode cX5_letterHere 19 = .ok (.getfield 19, 3) := by decide +kernel
theorem dX5_letterHere_22 : decode cX5_letterHere 22 = .ok (.aload_n 0, 1) := by decide +kernel
theorem dX5_letterHere_23 : decode cX5_letterHere 23 = .ok (.getfield 9, 3) := by decide +kernel
theorem dX5_letterHere_26 : decode cX5_letterHere 26 = .ok (.arraylength, 1) := by decide +kernel
theorem dX5_letterHere_27 : decode cX5_letterHere 27 = .ok (.if_icmp .ge 15, 3) := by decide +kernel
theorem dX5_letterHere_30 : decode cX5_letterHere 30 = .ok (.aload_n 0, 1) := by decide +kernel
theorem dX5_letterHere_31 : decode cX5_letterHere 31 = .ok (.getfield 9, 3) := by decide +kernel
theorem dX5_letterHere_34 : decode cX5_letterHere 34 = .ok (.aload_n 0, 1) := by decide +kernel
theorem dX5_letterHere_35 : decode cX5_letterHere 35 = .ok (.getfield 19, 3) := by decide +kernel
theorem dX5_letterHere_38 : decode cX5_letterHere 38 = .ok (.baload, 1) := by decide +kernel
theorem dX5_letterHere_39 : decode cX5_letterHere 39 = .ok (.goto 5, 3) := by decide +kernel
theorem dX5_letterHere_4 : decode cX5_letterHere 4 = .ok (.ifCond .lt 38, 3) := by decide +kernel
theorem dX5_letterHere_42 : decode cX5_letterHere 42 = .ok (.bipush 32, 2) := by decide +kernel
theorem dX5_letterHere_44 : decode cX5_letterHere 44 = .ok (.ireturn, 1) := by decide +kernel
theorem dX5_letterHere_7 : decode cX5_letterHere 7 = .ok (.aload_n 0, 1) := by decide +kernel
theorem dX5_letterHere_8 : decode cX5_letterHere 8 = .ok (.getfield 19, 3) := by decide +kernel
set_option maxHeartbeats 4000000 in
set_option maxRecDepth 100000 in
theorem T_X5_letterHere (l : Launch) (D : va_G) (K : Nat → ClassId) (Z Y : Nat → Nat) (ad : Nat → Nat) (d : dSt) (t : tSt) (hok : okX t)  : tMet l yX5_letterHere cX5_letterHere 1 (some .int) (rmD 0 0 0) D K Z Y [.ref (ad 24)] ((WX d) K ad t) (QI D K (fun (r : Int32) (u : Unit) => (-128 : Int) ≤ r.toInt ∧ r.toInt ≤ 127 ∧ (¬ r.toInt = 32 → (t.1 24 2).toInt < (t.1 24 3).toInt)) (fun (_ : Unit) => (WX d) K ad t)) 0 0 := by
  refine t_met RX5 ⟨rfl, by decide +kernel⟩ (Nat.le_of_ble_eq_true rfl) ?_
  intro p e s m below meth c A ls C hE hZ hr hlocks hA hP hD hS hl
  have hl : lv_has ls 1 [(0, .ref (ad 24))] := hl
  have h_1 : (0 : Int) ≤ (t.1 24 2).toInt ∧ (t.1 24 2).toInt ≤ 81 := hok.1 24 2
  have h_2 : (-1 : Int) ≤ (t.1 24 3).toInt ∧ (t.1 24 3).toInt ≤ 80 := hok.1 24 3
  refine lv_aload_n C.1 C.2.1 dX5_letterHere_0 rfl (lv_at hl 0 rfl) ?_
  refine k_get (v := .int (t.1 24 2)) C hP 24 rfl rfl inlX5 2 (by decide) m_19_9 rfl dX5_letterHere_1 ?_
  refine lv_if_lt (tgt := 42) C.1 C.2.1 dX5_letterHere_4 (by decide) (fun c_3 => False.elim (by have c_3 : (t.1 24 2).toInt < 0 := i_lt c_3; omega)) (fun c_3 => ?_)
  replace c_3 : 0 ≤ (t.1 24 2).toInt := i_nlt c_3
  refine lv_aload_n C.1 C.2.1 dX5_letterHere_7 rfl (lv_at hl 0 rfl) ?_
  refine k_get (v := .int (t.1 24 2)) C hP 24 rfl rfl inlX5 2 (by decide) m_19_9 rfl dX5_letterHere_8 ?_
  refine lv_aload_n C.1 C.2.1 dX5_letterHere_11 rfl (lv_at hl 0 rfl) ?_
  refine k_get (v := .int (t.1 24 3)) C hP 24 rfl rfl inlX5 3 (by decide) m_19_10 rfl dX5_letterHere_12 ?_
  refine lv_icmp_ge (tgt := 42) C.1 C.2.1 dX5_letterHere_15 (by decide) (fun c_4 => ?_) (fun c_4 => ?_)
  · replace c_4 : (t.1 24 3).toInt ≤ (t.1 24 2).toInt := i_le c_4
    refine lv_bipush (v := 32) C.1 C.2.1 dX5_letterHere_42 (by decide) ?_
    exact g_iret C hr hlocks hP hD hS rfl () rfl ⟨by decide, by decide, (show ¬ 32 = 32 → (t.1 24 2).toInt < (t.1 24 3).toInt from by omega)⟩ (Nat.le_of_ble_eq_true rfl) (Nat.le_of_ble_eq_true rfl) dX5_letterHere_44
  · replace c_4 : (t.1 24 2).toInt < (t.1 24 3).toInt := i_nle c_4
    refine lv_aload_n C.1 C.2.1 dX5_letterHere_18 rfl (lv_at hl 0 rfl) ?_
    refine k_get (v := .int (t.1 24 2)) C hP 24 rfl rfl inlX5 2 (by decide) m_19_9 rfl dX5_letterHere_19 ?_
    refine lv_aload_n C.1 C.2.1 dX5_letterHere_22 rfl (lv_at hl 0 rfl) ?_
    refine k_get (v := .ref (ad 9)) C hP 24 rfl rfl inlX5 0 (by decide) m_6_5 rfl dX5_letterHere_23 ?_
    refine k_len (v := 80) C hP 9 2 rfl rfl rfl dX5_letterHere_26 ?_
    refine lv_icmp_ge (tgt := 42) C.1 C.2.1 dX5_letterHere_27 (by decide) (fun c_5 => False.elim (by have c_5 : 80 ≤ (t.1 24 2).toInt := i_le c_5; omega)) (fun c_5 => ?_)
    replace c_5 : (t.1 24 2).toInt < 80 := i_nle c_5
    refine lv_aload_n C.1 C.2.1 dX5_letterHere_30 rfl (lv_at hl 0 rfl) ?_
    refine k_get (v := .ref (ad 9)) C hP 24 rfl rfl inlX5 0 (by decide) m_6_5 rfl dX5_letterHere_31 ?_
    refine lv_aload_n C.1 C.2.1 dX5_letterHere_34 rfl (lv_at hl 0 rfl) ?_
    refine k_get (v := .int (t.1 24 2)) C hP 24 rfl rfl inlX5 2 (by decide) m_19_9 rfl dX5_letterHere_35 ?_
    obtain ⟨v_6, e_7⟩ : ∃ z, z = (t.2.2.1 9 ((t.1 24 2) : Int32).toNatClampNeg) := ⟨_, rfl⟩
    have h_8 : (-128 : Int) ≤ v_6.toInt ∧ v_6.toInt ≤ 127 := by rw [e_7]; exact hok.2.1 9 _
    refine k_bld (v := v_6) C hP 9 rfl (vp_in_iff.mpr ⟨by omega, by omega⟩) e_7.symm dX5_letterHere_38 ?_
    refine lv_goto (tgt := 44) C.1 C.2.1 dX5_letterHere_39 (by decide) ?_
    exact g_iret C hr hlocks hP hD hS rfl () rfl ⟨by omega, by omega, (show ¬ v_6.toInt = 32 → (t.1 24 2).toInt < (t.1 24 3).toInt from by omega)⟩ (Nat.le_of_ble_eq_true rfl) (Nat.le_of_ble_eq_true rfl) dX5_letterHere_44

theorem dX10_waiting_0 : decode cX10_waiting 0 = .ok (.iload_n 1, 1) := by decide +kernel
theorem dX10_waiting_1 : decode cX10_waiting 1 = .ok (.ifCond .lt 24, 3) := by decide +kernel
theorem dX10_waiting_10 : decode cX10_waiting 10 = .ok (.aload_n 0, 1) := by decide +kernel
theorem dX10_waiting_11 : decode cX10_waiting 11 = .ok (.getfield 20, 3) := by decide +kernel
theorem dX10_waiting_14 : decode cX10_waiting 14 = .ok (.iload_n 1, 1) := by decide +kernel
theorem dX10_waiting_15 : decode cX10_waiting 15 = .ok (.laload, 1) := by decide +kernel
theorem dX10_waiting_16 : decode cX10_waiting 16 = .ok (.lload_n 2, 1) := by decide +kernel
theorem dX10_waiting_17 : decode cX10_waiting 17 = .ok (.lsub, 1) := by decide +kernel
theorem dX10_waiting_18 : decode cX10_waiting 18 = .ok (.lconst 0, 1) := by decide +kernel
theorem dX10_waiting_19 : decode cX10_waiting 19 = .ok (.invokestatic 77, 3) := by decide +kernel
theorem dX10_waiting_22 : decode cX10_waiting 22 = .ok (.goto 4, 3) := by decide +kernel
theorem dX10_waiting_25 : decode cX10_waiting 25 = .ok (.lconst 0, 1) := by decide +kernel
theorem dX10_waiting_26 : decode cX10_waiting 26 = .ok (.lreturn, 1) := by decide +kernel
theorem dX10_waiting_4 : decode cX10_waiting 4 = .ok (.iload_n 1, 1) := by decide +kernel
theorem dX10_waiting_5 : decode cX10_waiting 5 = .ok (.bipush 20, 2) := by decide +kernel
theorem dX10_waiting_7 : decode cX10_waiting 7 = .ok (.if_icmp .ge 18, 3) := by decide +kernel
set_option maxHeartbeats 4000000 in
set_option maxRecDepth 100000 in
theorem T_X10_waiting (l : Launch) (D : va_G) (K : Nat → ClassId) (Z Y : Nat → Nat) (ad : Nat → Nat) (d : dSt) (t : tSt) (hok : okX t) (x1 : Int32) (hx1 : (0 : Int) ≤ x1.toInt ∧ x1.toInt ≤ 63) (x2 : Int64) : tMet l yX10_waiting cX10_waiting 4 (some .long) (rmD 1 0 0) D K Z Y [.ref (ad 3), .int x1, .long x2] ((WX d) K ad t) (QL D K (fun (r : Int64) (u : Unit) => True) (fun (_ : Unit) => (WX d) K ad t)) 0 0 := by
  refine t_met RX10 ⟨rfl, by decide +kernel⟩ (Nat.le_of_ble_eq_true rfl) ?_
  intro p e s m below meth c A ls C hE hZ hr hlocks hA hP hD hS hl
  have hl : lv_has ls 4 [(0, .ref (ad 3)), (1, .int x1), (2, .long x2)] := hl
  refine lv_iload_n C.1 C.2.1 dX10_waiting_0 rfl (lv_at hl 1 rfl) ?_
  refine lv_if_lt (tgt := 25) C.1 C.2.1 dX10_waiting_1 (by decide) (fun c_1 => False.elim (by have c_1 : x1.toInt < 0 := i_lt c_1; omega)) (fun c_1 => ?_)
  replace c_1 : 0 ≤ x1.toInt := i_nlt c_1
  refine lv_iload_n C.1 C.2.1 dX10_waiting_4 rfl (lv_at hl 1 rfl) ?_
  refine lv_bipush (v := 20) C.1 C.2.1 dX10_waiting_5 (by decide) ?_
  refine lv_icmp_ge (tgt := 25) C.1 C.2.1 dX10_waiting_7 (by decide) (fun c_2 => ?_) (fun c_2 => ?_)
  · replace c_2 : 20 ≤ x1.toInt := i_le c_2
    refine lv_lconst (v := 0) C.1 C.2.1 dX10_waiting_25 (by decide) ?_
    exact g_lret C hr hlocks hP hD hS () rfl trivial (Nat.le_of_ble_eq_true rfl) (Nat.le_of_ble_eq_true rfl) dX10_waiting_26
  · replace c_2 : x1.toInt < 20 := i_nle c_2
    refine lv_aload_n C.1 C.2.1 dX10_waiting_10 rfl (lv_at hl 0 rfl) ?_
    refine k_get (v := .ref (ad 13)) C hP 3 rfl rfl inlX10 3 (by decide) m_3_8 rfl dX10_waiting_11 ?_
    refine lv_iload_n C.1 C.2.1 dX10_waiting_14 rfl (lv_at hl 1 rfl) ?_
    refine k_lld (v := (t.2.2.2 13 (x1 : Int32).toNatClampNeg)) C hP 13 rfl (vp_in_iff.mpr ⟨by omega, by omega⟩) rfl dX10_waiting_15 ?_
    refine lv_lload_n C.1 C.2.1 dX10_waiting_16 rfl (lv_at hl 2 rfl) ?_
    obtain ⟨v_3, e_4⟩ : ∃ z, z = ((t.2.2.2 13 (x1 : Int32).toNatClampNeg) : Int64) - (x2 : Int64) := ⟨_, rfl⟩
    refine k_lsub (v := v_3) C e_4.symm dX10_waiting_17 ?_
    refine lv_lconst (v := 0) C.1 C.2.1 dX10_waiting_18 (by decide) ?_
    refine va_mmax_long C.1 C.2.1 (by rw [C.2.2.1, hl.1]) C.2.2.2.1 (C.2.2.2.2.1 _ m_48_0) (C.2.2.2.2.1 _ m_48_1) (C.2.2.2.2.1 _ m_12_15) (C.2.2.2.2.1 _ m_48_2) (Nat.le_of_ble_eq_true rfl) (Nat.le_of_ble_eq_true rfl) (Nat.le_of_ble_eq_true rfl) (Nat.le_of_ble_eq_true rfl) dX10_waiting_19 ?_
    refine lv_goto (tgt := 26) C.1 C.2.1 dX10_waiting_22 (by decide) ?_
    exact g_lret C hr hlocks hP hD hS () rfl trivial (Nat.le_of_ble_eq_true rfl) (Nat.le_of_ble_eq_true rfl) dX10_waiting_26

theorem dX2_cost_0 : decode cX2_cost 0 = .ok (.aload_n 0, 1) := by decide +kernel
theorem dX2_cost_1 : decode cX2_cost 1 = .ok (.getfield 84, 3) := by decide +kernel
theorem dX2_cost_12 : decode cX2_cost 12 = .ok (.iconst 5, 1) := by decide +kernel
theorem dX2_cost_13 : decode cX2_cost 13 = .ok (.if_icmp .ne 26, 3) := by decide +kernel
theorem dX2_cost_16 : decode cX2_cost 16 = .ok (.aload_n 0, 1) := by decide +kernel
theorem dX2_cost_17 : decode cX2_cost 17 = .ok (.getfield 84, 3) := by decide +kernel
theorem dX2_cost_20 : decode cX2_cost 20 = .ok (.iconst 5, 1) := by decide +kernel
theorem dX2_cost_21 : decode cX2_cost 21 = .ok (.if_icmp .ne 15, 3) := by decide +kernel
theorem dX2_cost_24 : decode cX2_cost 24 = .ok (.aload_n 0, 1) := by decide +kernel
theorem dX2_cost_25 : decode cX2_cost 25 = .ok (.getfield 87, 3) := by decide +kernel
theorem dX2_cost_28 : decode cX2_cost 28 = .ok (.iconst 3, 1) := by decide +kernel
theorem dX2_cost_29 : decode cX2_cost 29 = .ok (.if_icmp .ne 7, 3) := by decide +kernel
theorem dX2_cost_32 : decode cX2_cost 32 = .ok (.iconst 2, 1) := by decide +kernel
theorem dX2_cost_33 : decode cX2_cost 33 = .ok (.goto 5, 3) := by decide +kernel
theorem dX2_cost_36 : decode cX2_cost 36 = .ok (.bipush 10, 2) := by decide +kernel
theorem dX2_cost_38 : decode cX2_cost 38 = .ok (.ireturn, 1) := by decide +kernel
theorem dX2_cost_39 : decode cX2_cost 39 = .ok (.aload_n 0, 1) := by decide +kernel
theorem dX2_cost_4 : decode cX2_cost 4 = .ok (.iconst 3, 1) := by decide +kernel
theorem dX2_cost_40 : decode cX2_cost 40 = .ok (.getfield 84, 3) := by decide +kernel
theorem dX2_cost_43 : decode cX2_cost 43 = .ok (.iconst 4, 1) := by decide +kernel
theorem dX2_cost_44 : decode cX2_cost 44 = .ok (.if_icmp .ne 6, 3) := by decide +kernel
theorem dX2_cost_47 : decode cX2_cost 47 = .ok (.bipush 12, 2) := by decide +kernel
theorem dX2_cost_49 : decode cX2_cost 49 = .ok (.ireturn, 1) := by decide +kernel
theorem dX2_cost_5 : decode cX2_cost 5 = .ok (.if_icmp .eq 11, 3) := by decide +kernel
theorem dX2_cost_50 : decode cX2_cost 50 = .ok (.aload_n 0, 1) := by decide +kernel
theorem dX2_cost_51 : decode cX2_cost 51 = .ok (.getfield 84, 3) := by decide +kernel
theorem dX2_cost_54 : decode cX2_cost 54 = .ok (.bipush 7, 2) := by decide +kernel
theorem dX2_cost_56 : decode cX2_cost 56 = .ok (.if_icmp .ne 12, 3) := by decide +kernel
theorem dX2_cost_59 : decode cX2_cost 59 = .ok (.iconst 1, 1) := by decide +kernel
theorem dX2_cost_60 : decode cX2_cost 60 = .ok (.iconst 2, 1) := by decide +kernel
theorem dX2_cost_61 : decode cX2_cost 61 = .ok (.aload_n 0, 1) := by decide +kernel
theorem dX2_cost_62 : decode cX2_cost 62 = .ok (.getfield 87, 3) := by decide +kernel
theorem dX2_cost_65 : decode cX2_cost 65 = .ok (.imul, 1) := by decide +kernel
theorem dX2_cost_66 : decode cX2_cost 66 = .ok (.iadd, 1) := by decide +kernel
theorem dX2_cost_67 : decode cX2_cost 67 = .ok (.ireturn, 1) := by decide +kernel
theorem dX2_cost_68 : decode cX2_cost 68 = .ok (.aload_n 0, 1) := by decide +kernel
theorem dX2_cost_69 : decode cX2_cost 69 = .ok (.getfield 84, 3) := by decide +kernel
theorem dX2_cost_72 : decode cX2_cost 72 = .ok (.ifCond .eq 21, 3) := by decide +kernel
theorem dX2_cost_75 : decode cX2_cost 75 = .ok (.aload_n 0, 1) := by decide +kernel
theorem dX2_cost_76 : decode cX2_cost 76 = .ok (.getfield 84, 3) := by decide +kernel
theorem dX2_cost_79 : decode cX2_cost 79 = .ok (.bipush 34, 2) := by decide +kernel
theorem dX2_cost_8 : decode cX2_cost 8 = .ok (.aload_n 0, 1) := by decide +kernel
theorem dX2_cost_81 : decode cX2_cost 81 = .ok (.if_icmp .lt 16, 3) := by decide +kernel
theorem dX2_cost_84 : decode cX2_cost 84 = .ok (.aload_n 0, 1) := by decide +kernel
theorem dX2_cost_85 : decode cX2_cost 85 = .ok (.getfield 84, 3) := by decide +kernel
theorem dX2_cost_88 : decode cX2_cost 88 = .ok (.bipush 55, 2) := by decide +kernel
theorem dX2_cost_9 : decode cX2_cost 9 = .ok (.getfield 84, 3) := by decide +kernel
theorem dX2_cost_90 : decode cX2_cost 90 = .ok (.if_icmp .gt 7, 3) := by decide +kernel
theorem dX2_cost_93 : decode cX2_cost 93 = .ok (.iconst 1, 1) := by decide +kernel
theorem dX2_cost_94 : decode cX2_cost 94 = .ok (.goto 4, 3) := by decide +kernel
theorem dX2_cost_97 : decode cX2_cost 97 = .ok (.iconst 2, 1) := by decide +kernel
theorem dX2_cost_98 : decode cX2_cost 98 = .ok (.ireturn, 1) := by decide +kernel
set_option maxHeartbeats 4000000 in
set_option maxRecDepth 100000 in
theorem T_X2_cost (l : Launch) (D : va_G) (K : Nat → ClassId) (Z Y : Nat → Nat) (ad : Nat → Nat) (d : dSt) (t : tSt) (hok : okX t)  : tMet l yX2_cost cX2_cost 1 (some .int) (rmD 0 0 0) D K Z Y [.ref (ad 4)] ((WX d) K ad t) (QI D K (fun (r : Int32) (u : Unit) => (1 : Int) ≤ r.toInt ∧ r.toInt ≤ 127) (fun (_ : Unit) => (WX d) K ad t)) 0 0 := by
  refine t_met RX2 ⟨rfl, by decide +kernel⟩ (Nat.le_of_ble_eq_true rfl) ?_
  intro p e s m below meth c A ls C hE hZ hr hlocks hA hP hD hS hl
  have hl : lv_has ls 1 [(0, .ref (ad 4))] := hl
  have L_16 : ∀  (H : Heap) (locs : List Loc) (ls : Array Slot), (3 : Int) ≤ (t.1 4 13).toInt ∧ (t.1 4 13).toInt ≤ 5 → va_P D vwCl ((WX d) K ad t) H → va_D A ((WX d) K ad t) → va_S A s.heap H locs → lv_has ls 1 [(0, .ref (ad 4))] → W p l e (rmD 0 0 0) s m [.ref (ad 4)].toArray below meth c H locs 0 0 (MQ below (QI D K (fun (r : Int32) (u : Unit) => (1 : Int) ≤ r.toInt ∧ r.toInt ≤ 127) (fun (_ : Unit) => (WX d) K ad t) A) [.ref (ad 4)].toArray s 0 0 A) (F0 m 16 ls []) := by
    intro  H locs ls hf16_13 hP hD hS hl
    refine lv_aload_n C.1 C.2.1 dX2_cost_16 rfl (lv_at hl 0 rfl) ?_
    refine k_get (v := .int (t.1 4 13)) C hP 4 rfl rfl inlX2 13 (by decide) m_45_18 rfl dX2_cost_17 ?_
    refine lv_iconst (v := 5) C.1 C.2.1 dX2_cost_20 (by decide) ?_
    refine lv_icmp_ne (tgt := 36) C.1 C.2.1 dX2_cost_21 (by decide) (fun c_1 => ?_) (fun c_1 => ?_)
    · replace c_1 : ¬ (t.1 4 13).toInt = 5 := i_ne c_1
      refine lv_bipush (v := 10) C.1 C.2.1 dX2_cost_36 (by decide) ?_
      exact g_iret C hr hlocks hP hD hS rfl () rfl ⟨by decide, by decide⟩ (Nat.le_of_ble_eq_true rfl) (Nat.le_of_ble_eq_true rfl) dX2_cost_38
    · replace c_1 : (t.1 4 13).toInt = 5 := i_eq c_1
      refine lv_aload_n C.1 C.2.1 dX2_cost_24 rfl (lv_at hl 0 rfl) ?_
      have h_2 : (0 : Int) ≤ (t.1 4 14).toInt ∧ (t.1 4 14).toInt ≤ 63 := hok.1 4 14
      refine k_get (v := .int (t.1 4 14)) C hP 4 rfl rfl inlX2 14 (by decide) m_45_19 rfl dX2_cost_25 ?_
      refine lv_iconst (v := 3) C.1 C.2.1 dX2_cost_28 (by decide) ?_
      refine lv_icmp_ne (tgt := 36) C.1 C.2.1 dX2_cost_29 (by decide) (fun c_3 => ?_) (fun c_3 => ?_)
      · replace c_3 : ¬ (t.1 4 14).toInt = 3 := i_ne c_3
        refine lv_bipush (v := 10) C.1 C.2.1 dX2_cost_36 (by decide) ?_
        exact g_iret C hr hlocks hP hD hS rfl () rfl ⟨by decide, by decide⟩ (Nat.le_of_ble_eq_true rfl) (Nat.le_of_ble_eq_true rfl) dX2_cost_38
      · replace c_3 : (t.1 4 14).toInt = 3 := i_eq c_3
        refine lv_iconst (v := 2) C.1 C.2.1 dX2_cost_32 (by decide) ?_
        refine lv_goto (tgt := 38) C.1 C.2.1 dX2_cost_33 (by decide) ?_
        exact g_iret C hr hlocks hP hD hS rfl () rfl ⟨by decide, by decide⟩ (Nat.le_of_ble_eq_true rfl) (Nat.le_of_ble_eq_true rfl) dX2_cost_38
  refine lv_aload_n C.1 C.2.1 dX2_cost_0 rfl (lv_at hl 0 rfl) ?_
  have h_4 : (0 : Int) ≤ (t.1 4 13).toInt ∧ (t.1 4 13).toInt ≤ 63 := hok.1 4 13
  refine k_get (v := .int (t.1 4 13)) C hP 4 rfl rfl inlX2 13 (by decide) m_45_18 rfl dX2_cost_1 ?_
  refine lv_iconst (v := 3) C.1 C.2.1 dX2_cost_4 (by decide) ?_
  refine lv_icmp_eq (tgt := 16) C.1 C.2.1 dX2_cost_5 (by decide) (fun c_5 => ?_) (fun c_5 => ?_)
  · replace c_5 : (t.1 4 13).toInt = 3 := i_eq c_5
    exact L_16  _ _ _ (show (3 : Int) ≤ ((t.1 4 13) : Int32).toInt ∧ ((t.1 4 13) : Int32).toInt ≤ 5 from ⟨by omega, by omega⟩) hP hD hS (lv_sub hl [0] rfl)
  · replace c_5 : ¬ (t.1 4 13).toInt = 3 := i_ne c_5
    refine lv_aload_n C.1 C.2.1 dX2_cost_8 rfl (lv_at hl 0 rfl) ?_
    refine k_get (v := .int (t.1 4 13)) C hP 4 rfl rfl inlX2 13 (by decide) m_45_18 rfl dX2_cost_9 ?_
    refine lv_iconst (v := 5) C.1 C.2.1 dX2_cost_12 (by decide) ?_
    refine lv_icmp_ne (tgt := 39) C.1 C.2.1 dX2_cost_13 (by decide) (fun c_6 => ?_) (fun c_6 => ?_)
    · replace c_6 : ¬ (t.1 4 13).toInt = 5 := i_ne c_6
      refine lv_aload_n C.1 C.2.1 dX2_cost_39 rfl (lv_at hl 0 rfl) ?_
      refine k_get (v := .int (t.1 4 13)) C hP 4 rfl rfl inlX2 13 (by decide) m_45_18 rfl dX2_cost_40 ?_
      refine lv_iconst (v := 4) C.1 C.2.1 dX2_cost_43 (by decide) ?_
      refine lv_icmp_ne (tgt := 50) C.1 C.2.1 dX2_cost_44 (by decide) (fun c_7 => ?_) (fun c_7 => ?_)
      · replace c_7 : ¬ (t.1 4 13).toInt = 4 := i_ne c_7
        refine lv_aload_n C.1 C.2.1 dX2_cost_50 rfl (lv_at hl 0 rfl) ?_
        refine k_get (v := .int (t.1 4 13)) C hP 4 rfl rfl inlX2 13 (by decide) m_45_18 rfl dX2_cost_51 ?_
        refine lv_bipush (v := 7) C.1 C.2.1 dX2_cost_54 (by decide) ?_
        refine lv_icmp_ne (tgt := 68) C.1 C.2.1 dX2_cost_56 (by decide) (fun c_8 => ?_) (fun c_8 => ?_)
        · replace c_8 : ¬ (t.1 4 13).toInt = 7 := i_ne c_8
          refine lv_aload_n C.1 C.2.1 dX2_cost_68 rfl (lv_at hl 0 rfl) ?_
          refine k_get (v := .int (t.1 4 13)) C hP 4 rfl rfl inlX2 13 (by decide) m_45_18 rfl dX2_cost_69 ?_
          refine lv_if_eq (tgt := 93) C.1 C.2.1 dX2_cost_72 (by decide) (fun c_9 => ?_) (fun c_9 => ?_)
          · replace c_9 : (t.1 4 13).toInt = 0 := i_eq c_9
            refine lv_iconst (v := 1) C.1 C.2.1 dX2_cost_93 (by decide) ?_
            refine lv_goto (tgt := 98) C.1 C.2.1 dX2_cost_94 (by decide) ?_
            exact g_iret C hr hlocks hP hD hS rfl () rfl ⟨by decide, by decide⟩ (Nat.le_of_ble_eq_true rfl) (Nat.le_of_ble_eq_true rfl) dX2_cost_98
          · replace c_9 : ¬ (t.1 4 13).toInt = 0 := i_ne c_9
            refine lv_aload_n C.1 C.2.1 dX2_cost_75 rfl (lv_at hl 0 rfl) ?_
            refine k_get (v := .int (t.1 4 13)) C hP 4 rfl rfl inlX2 13 (by decide) m_45_18 rfl dX2_cost_76 ?_
            refine lv_bipush (v := 34) C.1 C.2.1 dX2_cost_79 (by decide) ?_
            refine lv_icmp_lt (tgt := 97) C.1 C.2.1 dX2_cost_81 (by decide) (fun c_10 => ?_) (fun c_10 => ?_)
            · replace c_10 : (t.1 4 13).toInt < 34 := i_lt c_10
              refine lv_iconst (v := 2) C.1 C.2.1 dX2_cost_97 (by decide) ?_
              exact g_iret C hr hlocks hP hD hS rfl () rfl ⟨by decide, by decide⟩ (Nat.le_of_ble_eq_true rfl) (Nat.le_of_ble_eq_true rfl) dX2_cost_98
            · replace c_10 : 34 ≤ (t.1 4 13).toInt := i_nlt c_10
              refine lv_aload_n C.1 C.2.1 dX2_cost_84 rfl (lv_at hl 0 rfl) ?_
              refine k_get (v := .int (t.1 4 13)) C hP 4 rfl rfl inlX2 13 (by decide) m_45_18 rfl dX2_cost_85 ?_
              refine lv_bipush (v := 55) C.1 C.2.1 dX2_cost_88 (by decide) ?_
              refine lv_icmp_gt (tgt := 97) C.1 C.2.1 dX2_cost_90 (by decide) (fun c_11 => ?_) (fun c_11 => ?_)
              · replace c_11 : 55 < (t.1 4 13).toInt := i_lt c_11
                refine lv_iconst (v := 2) C.1 C.2.1 dX2_cost_97 (by decide) ?_
                exact g_iret C hr hlocks hP hD hS rfl () rfl ⟨by decide, by decide⟩ (Nat.le_of_ble_eq_true rfl) (Nat.le_of_ble_eq_true rfl) dX2_cost_98
              · replace c_11 : (t.1 4 13).toInt ≤ 55 := i_nlt c_11
                refine lv_iconst (v := 1) C.1 C.2.1 dX2_cost_93 (by decide) ?_
                refine lv_goto (tgt := 98) C.1 C.2.1 dX2_cost_94 (by decide) ?_
                exact g_iret C hr hlocks hP hD hS rfl () rfl ⟨by decide, by decide⟩ (Nat.le_of_ble_eq_true rfl) (Nat.le_of_ble_eq_true rfl) dX2_cost_98
        · replace c_8 : (t.1 4 13).toInt = 7 := i_eq c_8
          refine lv_iconst (v := 1) C.1 C.2.1 dX2_cost_59 (by decide) ?_
          refine lv_iconst (v := 2) C.1 C.2.1 dX2_cost_60 (by decide) ?_
          refine lv_aload_n C.1 C.2.1 dX2_cost_61 rfl (lv_at hl 0 rfl) ?_
          have h_12 : (0 : Int) ≤ (t.1 4 14).toInt ∧ (t.1 4 14).toInt ≤ 63 := hok.1 4 14
          refine k_get (v := .int (t.1 4 14)) C hP 4 rfl rfl inlX2 14 (by decide) m_45_19 rfl dX2_cost_62 ?_
          obtain ⟨v_13, e_14⟩ : ∃ z, z = (2 : Int32) * ((t.1 4 14) : Int32) := ⟨_, rfl⟩
          have h_15 : v_13.toInt = 2 * (t.1 4 14).toInt := by rw [e_14]; exact ti_mull (k := 2) (by decide) (by omega) (by omega)
          refine k_imul (v := v_13) C e_14.symm dX2_cost_65 ?_
          obtain ⟨v_16, e_17⟩ : ∃ z, z = (1 : Int32) + (v_13 : Int32) := ⟨_, rfl⟩
          have h_18 : v_16.toInt = 1 + v_13.toInt := by rw [e_17]; exact ti_iadd (by show (_ : Int) ≤ 1 + v_13.toInt; omega) (by show 1 + v_13.toInt < (_ : Int); omega)
          refine k_iadd (v := v_16) C e_17.symm dX2_cost_66 ?_
          exact g_iret C hr hlocks hP hD hS rfl () rfl ⟨by omega, by omega⟩ (Nat.le_of_ble_eq_true rfl) (Nat.le_of_ble_eq_true rfl) dX2_cost_67
      · replace c_7 : (t.1 4 13).toInt = 4 := i_eq c_7
        refine lv_bipush (v := 12) C.1 C.2.1 dX2_cost_47 (by decide) ?_
        exact g_iret C hr hlocks hP hD hS rfl () rfl ⟨by decide, by decide⟩ (Nat.le_of_ble_eq_true rfl) (Nat.le_of_ble_eq_true rfl) dX2_cost_49
    · replace c_6 : (t.1 4 13).toInt = 5 := i_eq c_6
      exact L_16  _ _ _ (show (3 : Int) ≤ ((t.1 4 13) : Int32).toInt ∧ ((t.1 4 13) : Int32).toInt ≤ 5 from ⟨by omega, by omega⟩) hP hD hS (lv_sub hl [0] rfl)

theorem dX8_standing_0 : decode cX8_standing 0 = .ok (.iload_n 1, 1) := by decide +kernel
theorem dX8_standing_1 : decode cX8_standing 1 = .ok (.ifCond .lt 20, 3) := by decide +kernel
theorem dX8_standing_12 : decode cX8_standing 12 = .ok (.aload_n 0, 1) := by decide +kernel
theorem dX8_standing_13 : decode cX8_standing 13 = .ok (.getfield 19, 3) := by decide +kernel
theorem dX8_standing_16 : decode cX8_standing 16 = .ok (.iload_n 1, 1) := by decide +kernel
theorem dX8_standing_17 : decode cX8_standing 17 = .ok (.iaload, 1) := by decide +kernel
theorem dX8_standing_18 : decode cX8_standing 18 = .ok (.goto 4, 3) := by decide +kernel
theorem dX8_standing_21 : decode cX8_standing 21 = .ok (.iconst 0, 1) := by decide +kernel
theorem dX8_standing_22 : decode cX8_standing 22 = .ok (.ireturn, 1) := by decide +kernel
theorem dX8_standing_4 : decode cX8_standing 4 = .ok (.iload_n 1, 1) := by decide +kernel
theorem dX8_standing_5 : decode cX8_standing 5 = .ok (.aload_n 0, 1) := by decide +kernel
theorem dX8_standing_6 : decode cX8_standing 6 = .ok (.getfield 44, 3) := by decide +kernel
theorem dX8_standing_9 : decode cX8_standing 9 = .ok (.if_icmp .ge 12, 3) := by decide +kernel
set_option maxHeartbeats 4000000 in
set_option maxRecDepth 100000 in
theorem T_X8_standing (l : Launch) (D : va_G) (K : Nat → ClassId) (Z Y : Nat → Nat) (ad : Nat → Nat) (d : dSt) (t : tSt) (hok : okX t) (x1 : Int32) (hx1 : (-128 : Int) ≤ x1.toInt ∧ x1.toInt ≤ 2147483647) : tMet l yX8_standing cX8_standing 2 (some .int) (rmD 0 0 0) D K Z Y [.ref (ad 23), .int x1] ((WX d) K ad t) (QI D K (fun (r : Int32) (u : Unit) => (0 : Int) ≤ r.toInt ∧ r.toInt ≤ 2 ∧ (¬ r.toInt = 0 → 0 ≤ x1.toInt ∧ x1.toInt < (t.1 23 3).toInt)) (fun (_ : Unit) => (WX d) K ad t)) 0 0 := by
  refine t_met RX8 ⟨rfl, by decide +kernel⟩ (Nat.le_of_ble_eq_true rfl) ?_
  intro p e s m below meth c A ls C hE hZ hr hlocks hA hP hD hS hl
  have hl : lv_has ls 2 [(0, .ref (ad 23)), (1, .int x1)] := hl
  have h_1 : (0 : Int) ≤ (t.1 23 3).toInt ∧ (t.1 23 3).toInt ≤ 1024 := hok.1 23 3
  refine lv_iload_n C.1 C.2.1 dX8_standing_0 rfl (lv_at hl 1 rfl) ?_
  refine lv_if_lt (tgt := 21) C.1 C.2.1 dX8_standing_1 (by decide) (fun c_2 => ?_) (fun c_2 => ?_)
  · replace c_2 : x1.toInt < 0 := i_lt c_2
    refine lv_iconst (v := 0) C.1 C.2.1 dX8_standing_21 (by decide) ?_
    exact g_iret C hr hlocks hP hD hS rfl () rfl ⟨by decide, by decide, (show ¬ 0 = 0 → 0 ≤ x1.toInt ∧ x1.toInt < (t.1 23 3).toInt from by omega)⟩ (Nat.le_of_ble_eq_true rfl) (Nat.le_of_ble_eq_true rfl) dX8_standing_22
  · replace c_2 : 0 ≤ x1.toInt := i_nlt c_2
    refine lv_iload_n C.1 C.2.1 dX8_standing_4 rfl (lv_at hl 1 rfl) ?_
    refine lv_aload_n C.1 C.2.1 dX8_standing_5 rfl (lv_at hl 0 rfl) ?_
    refine k_get (v := .int (t.1 23 3)) C hP 23 rfl rfl inlX8 3 (by decide) m_13_8 rfl dX8_standing_6 ?_
    refine lv_icmp_ge (tgt := 21) C.1 C.2.1 dX8_standing_9 (by decide) (fun c_3 => ?_) (fun c_3 => ?_)
    · replace c_3 : (t.1 23 3).toInt ≤ x1.toInt := i_le c_3
      refine lv_iconst (v := 0) C.1 C.2.1 dX8_standing_21 (by decide) ?_
      exact g_iret C hr hlocks hP hD hS rfl () rfl ⟨by decide, by decide, (show ¬ 0 = 0 → 0 ≤ x1.toInt ∧ x1.toInt < (t.1 23 3).toInt from by omega)⟩ (Nat.le_of_ble_eq_true rfl) (Nat.le_of_ble_eq_true rfl) dX8_standing_22
    · replace c_3 : x1.toInt < (t.1 23 3).toInt := i_nle c_3
      refine lv_aload_n C.1 C.2.1 dX8_standing_12 rfl (lv_at hl 0 rfl) ?_
      refine k_get (v := .ref (ad 43)) C hP 23 rfl rfl inlX8 2 (by decide) m_5_1 rfl dX8_standing_13 ?_
      refine lv_iload_n C.1 C.2.1 dX8_standing_16 rfl (lv_at hl 1 rfl) ?_
      obtain ⟨v_4, e_5⟩ : ∃ z, z = (t.2.2.1 43 (x1 : Int32).toNatClampNeg) := ⟨_, rfl⟩
      have h_6 : (0 : Int) ≤ v_4.toInt ∧ v_4.toInt ≤ 2 := by rw [e_5]; exact hok.2.1 43 _
      refine k_ild (v := v_4) C hP 43 rfl (vp_in_iff.mpr ⟨by omega, by omega⟩) e_5.symm dX8_standing_17 ?_
      refine lv_goto (tgt := 22) C.1 C.2.1 dX8_standing_18 (by decide) ?_
      exact g_iret C hr hlocks hP hD hS rfl () rfl ⟨by omega, by omega, (show ¬ v_4.toInt = 0 → 0 ≤ x1.toInt ∧ x1.toInt < (t.1 23 3).toInt from by omega)⟩ (Nat.le_of_ble_eq_true rfl) (Nat.le_of_ble_eq_true rfl) dX8_standing_22

theorem dX5_open_0 : decode cX5_open 0 = .ok (.aload_n 0, 1) := by decide +kernel
theorem dX5_open_1 : decode cX5_open 1 = .ok (.bipush 16, 2) := by decide +kernel
theorem dX5_open_11 : decode cX5_open 11 = .ok (.putfield 23, 3) := by decide +kernel
theorem dX5_open_14 : decode cX5_open 14 = .ok (.aload_n 0, 1) := by decide +kernel
theorem dX5_open_15 : decode cX5_open 15 = .ok (.getfield 23, 3) := by decide +kernel
theorem dX5_open_18 : decode cX5_open 18 = .ok (.aload_n 0, 1) := by decide +kernel
theorem dX5_open_19 : decode cX5_open 19 = .ok (.getfield 9, 3) := by decide +kernel
theorem dX5_open_22 : decode cX5_open 22 = .ok (.arraylength, 1) := by decide +kernel
theorem dX5_open_23 : decode cX5_open 23 = .ok (.if_icmp .ge 30, 3) := by decide +kernel
theorem dX5_open_26 : decode cX5_open 26 = .ok (.aload_n 0, 1) := by decide +kernel
theorem dX5_open_27 : decode cX5_open 27 = .ok (.getfield 9, 3) := by decide +kernel
theorem dX5_open_3 : decode cX5_open 3 = .ok (.putfield 19, 3) := by decide +kernel
theorem dX5_open_30 : decode cX5_open 30 = .ok (.aload_n 0, 1) := by decide +kernel
theorem dX5_open_31 : decode cX5_open 31 = .ok (.getfield 23, 3) := by decide +kernel
theorem dX5_open_34 : decode cX5_open 34 = .ok (.baload, 1) := by decide +kernel
theorem dX5_open_35 : decode cX5_open 35 = .ok (.bipush 32, 2) := by decide +kernel
theorem dX5_open_37 : decode cX5_open 37 = .ok (.if_icmp .eq 16, 3) := by decide +kernel
theorem dX5_open_40 : decode cX5_open 40 = .ok (.aload_n 0, 1) := by decide +kernel
theorem dX5_open_41 : decode cX5_open 41 = .ok (.dup, 1) := by decide +kernel
theorem dX5_open_42 : decode cX5_open 42 = .ok (.getfield 23, 3) := by decide +kernel
theorem dX5_open_45 : decode cX5_open 45 = .ok (.iconst 1, 1) := by decide +kernel
theorem dX5_open_46 : decode cX5_open 46 = .ok (.iadd, 1) := by decide +kernel
theorem dX5_open_47 : decode cX5_open 47 = .ok (.putfield 23, 3) := by decide +kernel
theorem dX5_open_50 : decode cX5_open 50 = .ok (.goto (-36), 3) := by decide +kernel
theorem dX5_open_53 : decode cX5_open 53 = .ok (.aload_n 0, 1) := by decide +kernel
theorem dX5_open_54 : decode cX5_open 54 = .ok (.iconst 0, 1) := by decide +kernel
theorem dX5_open_55 : decode cX5_open 55 = .ok (.putfield 26, 3) := by decide +kernel
theorem dX5_open_58 : decode cX5_open 58 = .ok (.aload_n 0, 1) := by decide +kernel
theorem dX5_open_59 : decode cX5_open 59 = .ok (.iload_n 1, 1) := by decide +kernel
theorem dX5_open_6 : decode cX5_open 6 = .ok (.aload_n 0, 1) := by decide +kernel
theorem dX5_open_60 : decode cX5_open 60 = .ok (.putfield 29, 3) := by decide +kernel
theorem dX5_open_63 : decode cX5_open 63 = .ok (.aload_n 0, 1) := by decide +kernel
theorem dX5_open_64 : decode cX5_open 64 = .ok (.iload_n 2, 1) := by decide +kernel
theorem dX5_open_65 : decode cX5_open 65 = .ok (.putfield 32, 3) := by decide +kernel
theorem dX5_open_68 : decode cX5_open 68 = .ok (.return_, 1) := by decide +kernel
theorem dX5_open_7 : decode cX5_open 7 = .ok (.aload_n 0, 1) := by decide +kernel
theorem dX5_open_8 : decode cX5_open 8 = .ok (.getfield 19, 3) := by decide +kernel
set_option maxHeartbeats 4000000 in
set_option maxRecDepth 100000 in
theorem T_X5_open (l : Launch) (D : va_G) (K : Nat → ClassId) (Z Y : Nat → Nat) (ad : Nat → Nat) (d : dSt) (t : tSt) (hok : okX t) (x1 : Int32) (hx1 : (-1073741824 : Int) ≤ x1.toInt ∧ x1.toInt ≤ 1073741824) (x2 : Int32) : tMet l yX5_open cX5_open 3 none (rmD 0 0 0) D K Z Y [.ref (ad 24), .int x1, .int x2] ((WX d) K ad t) (QV D K (fun (u : tSt) => okX u ∧ frA [(24, 2), (24, 3), (24, 4), (24, 5), (24, 6)] [] [] [] t u) (fun (u : tSt) => (WX d) K ad u)) 0 0 := by
  refine t_met RX5 ⟨rfl, by decide +kernel⟩ (Nat.le_of_ble_eq_true rfl) ?_
  intro p e s m below meth c A ls C hE hZ hr hlocks hA hP hD hS hl
  have hl : lv_has ls 3 [(0, .ref (ad 24)), (1, .int x1), (2, .int x2)] := hl
  have hokt := hok
  have hfr : frA [(24, 2), (24, 3), (24, 4), (24, 5), (24, 6)] [] [] [] t t := frA_rf
  have h_1 : (-1 : Int) ≤ (t.1 24 3).toInt ∧ (t.1 24 3).toInt ≤ 80 := hok.1 24 3
  have L_53 : ∀ (t1 : tSt) (H : Heap) (locs : List Loc) (ls : Array Slot), okX t1 → frA [(24, 2), (24, 3), (24, 4), (24, 5), (24, 6)] [] [] [] t t1 → (16 : Int) ≤ (t1.1 24 2).toInt ∧ (t1.1 24 2).toInt ≤ 16 → (16 : Int) ≤ (t1.1 24 3).toInt ∧ (t1.1 24 3).toInt ≤ 80 → va_P D vwCl ((WX d) K ad t1) H → va_D A ((WX d) K ad t1) → va_S A s.heap H locs → lv_has ls 3 [(0, .ref (ad 24)), (1, .int x1), (2, .int x2)] → W p l e (rmD 0 0 0) s m [.ref (ad 24), .int x1, .int x2].toArray below meth c H locs 0 0 (MQ below (QV D K (fun (u : tSt) => okX u ∧ frA [(24, 2), (24, 3), (24, 4), (24, 5), (24, 6)] [] [] [] t u) (fun (u : tSt) => (WX d) K ad u) A) [.ref (ad 24), .int x1, .int x2].toArray s 0 0 A) (F0 m 53 ls []) := by
    intro t1 H locs ls hok hfr hf53_2 hf53_3 hP hD hS hl
    refine lv_aload_n C.1 C.2.1 dX5_open_53 rfl (lv_at hl 0 rfl) ?_
    refine lv_iconst (v := 0) C.1 C.2.1 dX5_open_54 (by decide) ?_
    refine k_put (ws' := (WX d) K ad (uI t1 24 4 0)) (v := .int 0) C hP hD hS 24 rfl rfl inlX5 tyX5_ok nmX5 4 (by decide) m_20_23 rfl rfl rfl rfl rfl dX5_open_55 (fun H locs hP hD hS => ?_)
    have hok : okX (uI t1 24 4 0) := ⟨okI_I hok.1 24 4 0 (show (0 : Int) ≤ (0 : Int32).toInt ∧ (0 : Int32).toInt ≤ 6 from ⟨by decide, by decide⟩), hok.2.1, trivial⟩
    have hfr : frA [(24, 2), (24, 3), (24, 4), (24, 5), (24, 6)] [] [] [] t (uI t1 24 4 0) := frA_I hfr 24 4 _ rfl
    refine lv_aload_n C.1 C.2.1 dX5_open_58 rfl (lv_at hl 0 rfl) ?_
    refine lv_iload_n C.1 C.2.1 dX5_open_59 rfl (lv_at hl 1 rfl) ?_
    refine k_put (ws' := (WX d) K ad (uI (uI t1 24 4 0) 24 5 x1)) (v := .int x1) C hP hD hS 24 rfl rfl inlX5 tyX5_ok nmX5 5 (by decide) m_21_0 rfl rfl rfl rfl rfl dX5_open_60 (fun H locs hP hD hS => ?_)
    have hok : okX (uI (uI t1 24 4 0) 24 5 x1) := ⟨okI_I hok.1 24 5 x1 (show (-2147483648 : Int) ≤ (x1 : Int32).toInt ∧ (x1 : Int32).toInt ≤ 2147483647 from (i_rng _)), hok.2.1, trivial⟩
    have hfr : frA [(24, 2), (24, 3), (24, 4), (24, 5), (24, 6)] [] [] [] t (uI (uI t1 24 4 0) 24 5 x1) := frA_I hfr 24 5 _ rfl
    refine lv_aload_n C.1 C.2.1 dX5_open_63 rfl (lv_at hl 0 rfl) ?_
    refine lv_iload_n C.1 C.2.1 dX5_open_64 rfl (lv_at hl 2 rfl) ?_
    refine k_put (ws' := (WX d) K ad (uI (uI (uI t1 24 4 0) 24 5 x1) 24 6 x2)) (v := .int x2) C hP hD hS 24 rfl rfl inlX5 tyX5_ok nmX5 6 (by decide) m_21_1 rfl rfl rfl rfl rfl dX5_open_65 (fun H locs hP hD hS => ?_)
    have hok : okX (uI (uI (uI t1 24 4 0) 24 5 x1) 24 6 x2) := ⟨okI_I hok.1 24 6 x2 (show (-2147483648 : Int) ≤ (x2 : Int32).toInt ∧ (x2 : Int32).toInt ≤ 2147483647 from (i_rng _)), hok.2.1, trivial⟩
    have hfr : frA [(24, 2), (24, 3), (24, 4), (24, 5), (24, 6)] [] [] [] t (uI (uI (uI t1 24 4 0) 24 5 x1) 24 6 x2) := frA_I hfr 24 6 _ rfl
    exact g_vret C hr hlocks hP hD hS (uI (uI (uI t1 24 4 0) 24 5 x1) 24 6 x2) rfl ⟨hok, hfr⟩ (Nat.le_of_ble_eq_true rfl) (Nat.le_of_ble_eq_true rfl) dX5_open_68
  have L_14 : ∀ (fuel_14 : Nat) (t1 : tSt) (H : Heap) (locs : List Loc) (ls : Array Slot), okX t1 → frA [(24, 2), (24, 3), (24, 4), (24, 5), (24, 6)] [] [] [] t t1 → (16 : Int) ≤ (t1.1 24 2).toInt ∧ (t1.1 24 2).toInt ≤ 16 → (16 : Int) ≤ (t1.1 24 3).toInt ∧ (t1.1 24 3).toInt ≤ 80 → ((t1.1 24 3).toInt ≤ 80) → (81 - (t1.1 24 3).toInt) < (fuel_14 : Int) → va_P D vwCl ((WX d) K ad t1) H → va_D A ((WX d) K ad t1) → va_S A s.heap H locs → lv_has ls 3 [(0, .ref (ad 24)), (1, .int x1), (2, .int x2)] → W p l e (rmD 0 0 0) s m [.ref (ad 24), .int x1, .int x2].toArray below meth c H locs 0 0 (MQ below (QV D K (fun (u : tSt) => okX u ∧ frA [(24, 2), (24, 3), (24, 4), (24, 5), (24, 6)] [] [] [] t u) (fun (u : tSt) => (WX d) K ad u) A) [.ref (ad 24), .int x1, .int x2].toArray s 0 0 A) (F0 m 14 ls []) := by
    intro fuel_14
    induction fuel_14 with
    | zero =>
      intro t1 H locs ls hok hfr hf14_2 hf14_3 hi14_0 hm14_14 hP hD hS hl
      exact absurd hm14_14 (by omega)
    | succ fuel_14 ih_14 =>
      intro t1 H locs ls hok hfr hf14_2 hf14_3 hi14_0 hm14_14 hP hD hS hl
      have hm14_14 : (81 - (t1.1 24 3).toInt) < (fuel_14 : Int) + 1 := by omega
      refine lv_aload_n C.1 C.2.1 dX5_open_14 rfl (lv_at hl 0 rfl) ?_
      refine k_get (v := .int (t1.1 24 3)) C hP 24 rfl rfl inlX5 3 (by decide) m_19_10 rfl dX5_open_15 ?_
      refine lv_aload_n C.1 C.2.1 dX5_open_18 rfl (lv_at hl 0 rfl) ?_
      refine k_get (v := .ref (ad 9)) C hP 24 rfl rfl inlX5 0 (by decide) m_6_5 rfl dX5_open_19 ?_
      refine k_len (v := 80) C hP 9 2 rfl rfl rfl dX5_open_22 ?_
      refine lv_icmp_ge (tgt := 53) C.1 C.2.1 dX5_open_23 (by decide) (fun c_2 => ?_) (fun c_2 => ?_)
      · replace c_2 : 80 ≤ (t1.1 24 3).toInt := i_le c_2
        exact L_53 t1 _ _ _ hok hfr (show (16 : Int) ≤ ((t1.1 24 2) : Int32).toInt ∧ ((t1.1 24 2) : Int32).toInt ≤ 16 from ⟨by omega, by omega⟩) (show (16 : Int) ≤ ((t1.1 24 3) : Int32).toInt ∧ ((t1.1 24 3) : Int32).toInt ≤ 80 from ⟨by omega, by omega⟩) hP hD hS (lv_sub hl [0, 1, 2] rfl)
      · replace c_2 : (t1.1 24 3).toInt < 80 := i_nle c_2
        refine lv_aload_n C.1 C.2.1 dX5_open_26 rfl (lv_at hl 0 rfl) ?_
        refine k_get (v := .ref (ad 9)) C hP 24 rfl rfl inlX5 0 (by decide) m_6_5 rfl dX5_open_27 ?_
        refine lv_aload_n C.1 C.2.1 dX5_open_30 rfl (lv_at hl 0 rfl) ?_
        refine k_get (v := .int (t1.1 24 3)) C hP 24 rfl rfl inlX5 3 (by decide) m_19_10 rfl dX5_open_31 ?_
        obtain ⟨v_3, e_4⟩ : ∃ z, z = (t1.2.2.1 9 ((t1.1 24 3) : Int32).toNatClampNeg) := ⟨_, rfl⟩
        have h_5 : (-128 : Int) ≤ v_3.toInt ∧ v_3.toInt ≤ 127 := by rw [e_4]; exact hok.2.1 9 _
        refine k_bld (v := v_3) C hP 9 rfl (vp_in_iff.mpr ⟨by omega, by omega⟩) e_4.symm dX5_open_34 ?_
        refine lv_bipush (v := 32) C.1 C.2.1 dX5_open_35 (by decide) ?_
        refine lv_icmp_eq (tgt := 53) C.1 C.2.1 dX5_open_37 (by decide) (fun c_6 => ?_) (fun c_6 => ?_)
        · replace c_6 : v_3.toInt = 32 := i_eq c_6
          exact L_53 t1 _ _ _ hok hfr (show (16 : Int) ≤ ((t1.1 24 2) : Int32).toInt ∧ ((t1.1 24 2) : Int32).toInt ≤ 16 from ⟨by omega, by omega⟩) (show (16 : Int) ≤ ((t1.1 24 3) : Int32).toInt ∧ ((t1.1 24 3) : Int32).toInt ≤ 80 from ⟨by omega, by omega⟩) hP hD hS (lv_sub hl [0, 1, 2] rfl)
        · replace c_6 : ¬ v_3.toInt = 32 := i_ne c_6
          refine lv_aload_n C.1 C.2.1 dX5_open_40 rfl (lv_at hl 0 rfl) ?_
          refine lv_dup C.1 C.2.1 dX5_open_41 rfl ?_
          refine k_get (v := .int (t1.1 24 3)) C hP 24 rfl rfl inlX5 3 (by decide) m_19_10 rfl dX5_open_42 ?_
          refine lv_iconst (v := 1) C.1 C.2.1 dX5_open_45 (by decide) ?_
          obtain ⟨v_7, e_8⟩ : ∃ z, z = ((t1.1 24 3) : Int32) + (1 : Int32) := ⟨_, rfl⟩
          have h_9 : v_7.toInt = (t1.1 24 3).toInt + 1 := by rw [e_8]; exact ti_iadd (by show (_ : Int) ≤ (t1.1 24 3).toInt + 1; omega) (by show (t1.1 24 3).toInt + 1 < (_ : Int); omega)
          refine k_iadd (v := v_7) C e_8.symm dX5_open_46 ?_
          refine k_put (ws' := (WX d) K ad (uI t1 24 3 v_7)) (v := .int v_7) C hP hD hS 24 rfl rfl inlX5 tyX5_ok nmX5 3 (by decide) m_19_10 rfl rfl rfl rfl rfl dX5_open_47 (fun H locs hP hD hS => ?_)
          have hok : okX (uI t1 24 3 v_7) := ⟨okI_I hok.1 24 3 v_7 (show (-1 : Int) ≤ (v_7 : Int32).toInt ∧ (v_7 : Int32).toInt ≤ 80 from ⟨by omega, by omega⟩), hok.2.1, trivial⟩
          have hfr : frA [(24, 2), (24, 3), (24, 4), (24, 5), (24, 6)] [] [] [] t (uI t1 24 3 v_7) := frA_I hfr 24 3 _ rfl
          refine lv_goto (tgt := 14) C.1 C.2.1 dX5_open_50 (by decide) ?_
          exact ih_14 (uI t1 24 3 v_7) _ _ _ hok hfr (show (16 : Int) ≤ ((t1.1 24 2) : Int32).toInt ∧ ((t1.1 24 2) : Int32).toInt ≤ 16 from ⟨by omega, by omega⟩) (show (16 : Int) ≤ (v_7 : Int32).toInt ∧ (v_7 : Int32).toInt ≤ 80 from ⟨by omega, by omega⟩) (show v_7.toInt ≤ 80 from by omega) (show (81 - v_7.toInt) < (fuel_14 : Int) from by omega) hP hD hS (lv_sub hl [0, 1, 2] rfl)
  refine lv_aload_n C.1 C.2.1 dX5_open_0 rfl (lv_at hl 0 rfl) ?_
  refine lv_bipush (v := 16) C.1 C.2.1 dX5_open_1 (by decide) ?_
  refine k_put (ws' := (WX d) K ad (uI t 24 2 16)) (v := .int 16) C hP hD hS 24 rfl rfl inlX5 tyX5_ok nmX5 2 (by decide) m_19_9 rfl rfl rfl rfl rfl dX5_open_3 (fun H locs hP hD hS => ?_)
  have hok : okX (uI t 24 2 16) := ⟨okI_I hok.1 24 2 16 (show (0 : Int) ≤ (16 : Int32).toInt ∧ (16 : Int32).toInt ≤ 81 from ⟨by decide, by decide⟩), hok.2.1, trivial⟩
  have hfr : frA [(24, 2), (24, 3), (24, 4), (24, 5), (24, 6)] [] [] [] t (uI t 24 2 16) := frA_I hfr 24 2 _ rfl
  refine lv_aload_n C.1 C.2.1 dX5_open_6 rfl (lv_at hl 0 rfl) ?_
  refine lv_aload_n C.1 C.2.1 dX5_open_7 rfl (lv_at hl 0 rfl) ?_
  refine k_get (v := .int 16) C hP 24 rfl rfl inlX5 2 (by decide) m_19_9 rfl dX5_open_8 ?_
  refine k_put (ws' := (WX d) K ad (uI (uI t 24 2 16) 24 3 16)) (v := .int 16) C hP hD hS 24 rfl rfl inlX5 tyX5_ok nmX5 3 (by decide) m_19_10 rfl rfl rfl rfl rfl dX5_open_11 (fun H locs hP hD hS => ?_)
  have hok : okX (uI (uI t 24 2 16) 24 3 16) := ⟨okI_I hok.1 24 3 16 (show (-1 : Int) ≤ (16 : Int32).toInt ∧ (16 : Int32).toInt ≤ 80 from ⟨by decide, by decide⟩), hok.2.1, trivial⟩
  have hfr : frA [(24, 2), (24, 3), (24, 4), (24, 5), (24, 6)] [] [] [] t (uI (uI t 24 2 16) 24 3 16) := frA_I hfr 24 3 _ rfl
  exact L_14 100 (uI (uI t 24 2 16) 24 3 16) _ _ _ hok hfr (show (16 : Int) ≤ (16 : Int32).toInt ∧ (16 : Int32).toInt ≤ 16 from ⟨by decide, by decide⟩) (show (16 : Int) ≤ (16 : Int32).toInt ∧ (16 : Int32).toInt ≤ 80 from ⟨by decide, by decide⟩) (show 16 ≤ 80 from by omega) (show (81 - 16) < ((100 : Nat) : Int) from by omega) hP hD hS (lv_sub hl [0, 1, 2] rfl)

theorem dX1_cOf_0 : decode cX1_cOf 0 = .ok (.iload_n 0, 1) := by decide +kernel
theorem dX1_cOf_1 : decode cX1_cOf 1 = .ok (.iconst 5, 1) := by decide +kernel
theorem dX1_cOf_10 : decode cX1_cOf 10 = .ok (.if_icmp .ge 16, 3) := by decide +kernel
theorem dX1_cOf_13 : decode cX1_cOf 13 = .ok (.iload_n 0, 1) := by decide +kernel
theorem dX1_cOf_14 : decode cX1_cOf 14 = .ok (.bipush 9, 2) := by decide +kernel
theorem dX1_cOf_16 : decode cX1_cOf 16 = .ok (.if_icmp .ge 7, 3) := by decide +kernel
theorem dX1_cOf_19 : decode cX1_cOf 19 = .ok (.iconst 5, 1) := by decide +kernel
theorem dX1_cOf_2 : decode cX1_cOf 2 = .ok (.if_icmp .ge 5, 3) := by decide +kernel
theorem dX1_cOf_20 : decode cX1_cOf 20 = .ok (.goto 5, 3) := by decide +kernel
theorem dX1_cOf_23 : decode cX1_cOf 23 = .ok (.bipush 6, 2) := by decide +kernel
theorem dX1_cOf_25 : decode cX1_cOf 25 = .ok (.ireturn, 1) := by decide +kernel
theorem dX1_cOf_26 : decode cX1_cOf 26 = .ok (.iload_n 0, 1) := by decide +kernel
theorem dX1_cOf_27 : decode cX1_cOf 27 = .ok (.bipush 47, 2) := by decide +kernel
theorem dX1_cOf_29 : decode cX1_cOf 29 = .ok (.if_icmp .ge 8, 3) := by decide +kernel
theorem dX1_cOf_32 : decode cX1_cOf 32 = .ok (.iload_n 0, 1) := by decide +kernel
theorem dX1_cOf_33 : decode cX1_cOf 33 = .ok (.bipush 8, 2) := by decide +kernel
theorem dX1_cOf_35 : decode cX1_cOf 35 = .ok (.isub, 1) := by decide +kernel
theorem dX1_cOf_36 : decode cX1_cOf 36 = .ok (.ireturn, 1) := by decide +kernel
theorem dX1_cOf_37 : decode cX1_cOf 37 = .ok (.iload_n 0, 1) := by decide +kernel
theorem dX1_cOf_38 : decode cX1_cOf 38 = .ok (.bipush 57, 2) := by decide +kernel
theorem dX1_cOf_40 : decode cX1_cOf 40 = .ok (.if_icmp .ge 6, 3) := by decide +kernel
theorem dX1_cOf_43 : decode cX1_cOf 43 = .ok (.bipush 39, 2) := by decide +kernel
theorem dX1_cOf_45 : decode cX1_cOf 45 = .ok (.ireturn, 1) := by decide +kernel
theorem dX1_cOf_46 : decode cX1_cOf 46 = .ok (.iload_n 0, 1) := by decide +kernel
theorem dX1_cOf_47 : decode cX1_cOf 47 = .ok (.bipush 105, 2) := by decide +kernel
theorem dX1_cOf_49 : decode cX1_cOf 49 = .ok (.if_icmp .ge 14, 3) := by decide +kernel
theorem dX1_cOf_5 : decode cX1_cOf 5 = .ok (.iload_n 0, 1) := by decide +kernel
theorem dX1_cOf_52 : decode cX1_cOf 52 = .ok (.bipush 40, 2) := by decide +kernel
theorem dX1_cOf_54 : decode cX1_cOf 54 = .ok (.iload_n 0, 1) := by decide +kernel
theorem dX1_cOf_55 : decode cX1_cOf 55 = .ok (.bipush 57, 2) := by decide +kernel
theorem dX1_cOf_57 : decode cX1_cOf 57 = .ok (.isub, 1) := by decide +kernel
theorem dX1_cOf_58 : decode cX1_cOf 58 = .ok (.bipush 6, 2) := by decide +kernel
theorem dX1_cOf_6 : decode cX1_cOf 6 = .ok (.ireturn, 1) := by decide +kernel
theorem dX1_cOf_60 : decode cX1_cOf 60 = .ok (.idiv, 1) := by decide +kernel
theorem dX1_cOf_61 : decode cX1_cOf 61 = .ok (.iadd, 1) := by decide +kernel
theorem dX1_cOf_62 : decode cX1_cOf 62 = .ok (.ireturn, 1) := by decide +kernel
theorem dX1_cOf_63 : decode cX1_cOf 63 = .ok (.iload_n 0, 1) := by decide +kernel
theorem dX1_cOf_64 : decode cX1_cOf 64 = .ok (.sipush 137, 3) := by decide +kernel
theorem dX1_cOf_67 : decode cX1_cOf 67 = .ok (.if_icmp .ge 15, 3) := by decide +kernel
theorem dX1_cOf_7 : decode cX1_cOf 7 = .ok (.iload_n 0, 1) := by decide +kernel
theorem dX1_cOf_70 : decode cX1_cOf 70 = .ok (.bipush 48, 2) := by decide +kernel
theorem dX1_cOf_72 : decode cX1_cOf 72 = .ok (.iload_n 0, 1) := by decide +kernel
theorem dX1_cOf_73 : decode cX1_cOf 73 = .ok (.bipush 105, 2) := by decide +kernel
theorem dX1_cOf_75 : decode cX1_cOf 75 = .ok (.isub, 1) := by decide +kernel
theorem dX1_cOf_76 : decode cX1_cOf 76 = .ok (.iconst 4, 1) := by decide +kernel
theorem dX1_cOf_77 : decode cX1_cOf 77 = .ok (.idiv, 1) := by decide +kernel
theorem dX1_cOf_78 : decode cX1_cOf 78 = .ok (.iadd, 1) := by decide +kernel
theorem dX1_cOf_79 : decode cX1_cOf 79 = .ok (.goto 7, 3) := by decide +kernel
theorem dX1_cOf_8 : decode cX1_cOf 8 = .ok (.bipush 15, 2) := by decide +kernel
theorem dX1_cOf_82 : decode cX1_cOf 82 = .ok (.iload_n 0, 1) := by decide +kernel
theorem dX1_cOf_83 : decode cX1_cOf 83 = .ok (.bipush 81, 2) := by decide +kernel
theorem dX1_cOf_85 : decode cX1_cOf 85 = .ok (.isub, 1) := by decide +kernel
theorem dX1_cOf_86 : decode cX1_cOf 86 = .ok (.ireturn, 1) := by decide +kernel
set_option maxHeartbeats 4000000 in
set_option maxRecDepth 100000 in
theorem T_X1_cOf (l : Launch) (D : va_G) (K : Nat → ClassId) (Z Y : Nat → Nat) (ad : Nat → Nat) (d : dSt) (t : tSt) (hok : okX t) (x0 : Int32) (hx0 : (-1 : Int) ≤ x0.toInt ∧ x0.toInt ≤ 255) : tMet l yX1_cOf cX1_cOf 1 (some .int) (rmD 0 0 0) D K Z Y [.int x0] ((WX d) K ad t) (QI D K (fun (r : Int32) (u : Unit) => (-1 : Int) ≤ r.toInt ∧ r.toInt ≤ 255) (fun (_ : Unit) => (WX d) K ad t)) 0 0 := by
  refine t_met RX1 ⟨rfl, by decide +kernel⟩ (Nat.le_of_ble_eq_true rfl) ?_
  intro p e s m below meth c A ls C hE hZ hr hlocks hA hP hD hS hl
  have hl : lv_has ls 1 [(0, .int x0)] := hl
  refine lv_iload_n C.1 C.2.1 dX1_cOf_0 rfl (lv_at hl 0 rfl) ?_
  refine lv_iconst (v := 5) C.1 C.2.1 dX1_cOf_1 (by decide) ?_
  refine lv_icmp_ge (tgt := 7) C.1 C.2.1 dX1_cOf_2 (by decide) (fun c_1 => ?_) (fun c_1 => ?_)
  · replace c_1 : 5 ≤ x0.toInt := i_le c_1
    refine lv_iload_n C.1 C.2.1 dX1_cOf_7 rfl (lv_at hl 0 rfl) ?_
    refine lv_bipush (v := 15) C.1 C.2.1 dX1_cOf_8 (by decide) ?_
    refine lv_icmp_ge (tgt := 26) C.1 C.2.1 dX1_cOf_10 (by decide) (fun c_2 => ?_) (fun c_2 => ?_)
    · replace c_2 : 15 ≤ x0.toInt := i_le c_2
      refine lv_iload_n C.1 C.2.1 dX1_cOf_26 rfl (lv_at hl 0 rfl) ?_
      refine lv_bipush (v := 47) C.1 C.2.1 dX1_cOf_27 (by decide) ?_
      refine lv_icmp_ge (tgt := 37) C.1 C.2.1 dX1_cOf_29 (by decide) (fun c_3 => ?_) (fun c_3 => ?_)
      · replace c_3 : 47 ≤ x0.toInt := i_le c_3
        refine lv_iload_n C.1 C.2.1 dX1_cOf_37 rfl (lv_at hl 0 rfl) ?_
        refine lv_bipush (v := 57) C.1 C.2.1 dX1_cOf_38 (by decide) ?_
        refine lv_icmp_ge (tgt := 46) C.1 C.2.1 dX1_cOf_40 (by decide) (fun c_4 => ?_) (fun c_4 => ?_)
        · replace c_4 : 57 ≤ x0.toInt := i_le c_4
          refine lv_iload_n C.1 C.2.1 dX1_cOf_46 rfl (lv_at hl 0 rfl) ?_
          refine lv_bipush (v := 105) C.1 C.2.1 dX1_cOf_47 (by decide) ?_
          refine lv_icmp_ge (tgt := 63) C.1 C.2.1 dX1_cOf_49 (by decide) (fun c_5 => ?_) (fun c_5 => ?_)
          · replace c_5 : 105 ≤ x0.toInt := i_le c_5
            refine lv_iload_n C.1 C.2.1 dX1_cOf_63 rfl (lv_at hl 0 rfl) ?_
            refine lv_sipush (v := 137) C.1 C.2.1 dX1_cOf_64 (by decide) ?_
            refine lv_icmp_ge (tgt := 82) C.1 C.2.1 dX1_cOf_67 (by decide) (fun c_6 => ?_) (fun c_6 => ?_)
            · replace c_6 : 137 ≤ x0.toInt := i_le c_6
              refine lv_iload_n C.1 C.2.1 dX1_cOf_82 rfl (lv_at hl 0 rfl) ?_
              refine lv_bipush (v := 81) C.1 C.2.1 dX1_cOf_83 (by decide) ?_
              obtain ⟨v_7, e_8⟩ : ∃ z, z = (x0 : Int32) - (81 : Int32) := ⟨_, rfl⟩
              have h_9 : v_7.toInt = x0.toInt - 81 := by rw [e_8]; exact ti_isub (by show (_ : Int) ≤ x0.toInt - 81; omega) (by show x0.toInt - 81 < (_ : Int); omega)
              refine k_isub (v := v_7) C e_8.symm dX1_cOf_85 ?_
              exact g_iret C hr hlocks hP hD hS rfl () rfl ⟨by omega, by omega⟩ (Nat.le_of_ble_eq_true rfl) (Nat.le_of_ble_eq_true rfl) dX1_cOf_86
            · replace c_6 : x0.toInt < 137 := i_nle c_6
              refine lv_bipush (v := 48) C.1 C.2.1 dX1_cOf_70 (by decide) ?_
              refine lv_iload_n C.1 C.2.1 dX1_cOf_72 rfl (lv_at hl 0 rfl) ?_
              refine lv_bipush (v := 105) C.1 C.2.1 dX1_cOf_73 (by decide) ?_
              obtain ⟨v_10, e_11⟩ : ∃ z, z = (x0 : Int32) - (105 : Int32) := ⟨_, rfl⟩
              have h_12 : v_10.toInt = x0.toInt - 105 := by rw [e_11]; exact ti_isub (by show (_ : Int) ≤ x0.toInt - 105; omega) (by show x0.toInt - 105 < (_ : Int); omega)
              refine k_isub (v := v_10) C e_11.symm dX1_cOf_75 ?_
              refine lv_iconst (v := 4) C.1 C.2.1 dX1_cOf_76 (by decide) ?_
              obtain ⟨v_13, e_14⟩ : ∃ z, z = (v_10 : Int32) / (4 : Int32) := ⟨_, rfl⟩
              have h_15 : v_13.toInt = v_10.toInt / 4 := by rw [e_14]; exact z_divp (k := 4) (by decide) (by decide) (by show (0 : Int) ≤ v_10.toInt; omega)
              refine k_idiv (v := v_13) C (by decide) e_14.symm dX1_cOf_77 ?_
              obtain ⟨v_16, e_17⟩ : ∃ z, z = (48 : Int32) + (v_13 : Int32) := ⟨_, rfl⟩
              have h_18 : v_16.toInt = 48 + v_13.toInt := by rw [e_17]; exact ti_iadd (by show (_ : Int) ≤ 48 + v_13.toInt; omega) (by show 48 + v_13.toInt < (_ : Int); omega)
              refine k_iadd (v := v_16) C e_17.symm dX1_cOf_78 ?_
              refine lv_goto (tgt := 86) C.1 C.2.1 dX1_cOf_79 (by decide) ?_
              exact g_iret C hr hlocks hP hD hS rfl () rfl ⟨by omega, by omega⟩ (Nat.le_of_ble_eq_true rfl) (Nat.le_of_ble_eq_true rfl) dX1_cOf_86
          · replace c_5 : x0.toInt < 105 := i_nle c_5
            refine lv_bipush (v := 40) C.1 C.2.1 dX1_cOf_52 (by decide) ?_
            refine lv_iload_n C.1 C.2.1 dX1_cOf_54 rfl (lv_at hl 0 rfl) ?_
            refine lv_bipush (v := 57) C.1 C.2.1 dX1_cOf_55 (by decide) ?_
            obtain ⟨v_19, e_20⟩ : ∃ z, z = (x0 : Int32) - (57 : Int32) := ⟨_, rfl⟩
            have h_21 : v_19.toInt = x0.toInt - 57 := by rw [e_20]; exact ti_isub (by show (_ : Int) ≤ x0.toInt - 57; omega) (by show x0.toInt - 57 < (_ : Int); omega)
            refine k_isub (v := v_19) C e_20.symm dX1_cOf_57 ?_
            refine lv_bipush (v := 6) C.1 C.2.1 dX1_cOf_58 (by decide) ?_
            obtain ⟨v_22, e_23⟩ : ∃ z, z = (v_19 : Int32) / (6 : Int32) := ⟨_, rfl⟩
            have h_24 : v_22.toInt = v_19.toInt / 6 := by rw [e_23]; exact z_divp (k := 6) (by decide) (by decide) (by show (0 : Int) ≤ v_19.toInt; omega)
            refine k_idiv (v := v_22) C (by decide) e_23.symm dX1_cOf_60 ?_
            obtain ⟨v_25, e_26⟩ : ∃ z, z = (40 : Int32) + (v_22 : Int32) := ⟨_, rfl⟩
            have h_27 : v_25.toInt = 40 + v_22.toInt := by rw [e_26]; exact ti_iadd (by show (_ : Int) ≤ 40 + v_22.toInt; omega) (by show 40 + v_22.toInt < (_ : Int); omega)
            refine k_iadd (v := v_25) C e_26.symm dX1_cOf_61 ?_
            exact g_iret C hr hlocks hP hD hS rfl () rfl ⟨by omega, by omega⟩ (Nat.le_of_ble_eq_true rfl) (Nat.le_of_ble_eq_true rfl) dX1_cOf_62
        · replace c_4 : x0.toInt < 57 := i_nle c_4
          refine lv_bipush (v := 39) C.1 C.2.1 dX1_cOf_43 (by decide) ?_
          exact g_iret C hr hlocks hP hD hS rfl () rfl ⟨by decide, by decide⟩ (Nat.le_of_ble_eq_true rfl) (Nat.le_of_ble_eq_true rfl) dX1_cOf_45
      · replace c_3 : x0.toInt < 47 := i_nle c_3
        refine lv_iload_n C.1 C.2.1 dX1_cOf_32 rfl (lv_at hl 0 rfl) ?_
        refine lv_bipush (v := 8) C.1 C.2.1 dX1_cOf_33 (by decide) ?_
        obtain ⟨v_28, e_29⟩ : ∃ z, z = (x0 : Int32) - (8 : Int32) := ⟨_, rfl⟩
        have h_30 : v_28.toInt = x0.toInt - 8 := by rw [e_29]; exact ti_isub (by show (_ : Int) ≤ x0.toInt - 8; omega) (by show x0.toInt - 8 < (_ : Int); omega)
        refine k_isub (v := v_28) C e_29.symm dX1_cOf_35 ?_
        exact g_iret C hr hlocks hP hD hS rfl () rfl ⟨by omega, by omega⟩ (Nat.le_of_ble_eq_true rfl) (Nat.le_of_ble_eq_true rfl) dX1_cOf_36
    · replace c_2 : x0.toInt < 15 := i_nle c_2
      refine lv_iload_n C.1 C.2.1 dX1_cOf_13 rfl (lv_at hl 0 rfl) ?_
      refine lv_bipush (v := 9) C.1 C.2.1 dX1_cOf_14 (by decide) ?_
      refine lv_icmp_ge (tgt := 23) C.1 C.2.1 dX1_cOf_16 (by decide) (fun c_31 => ?_) (fun c_31 => ?_)
      · replace c_31 : 9 ≤ x0.toInt := i_le c_31
        refine lv_bipush (v := 6) C.1 C.2.1 dX1_cOf_23 (by decide) ?_
        exact g_iret C hr hlocks hP hD hS rfl () rfl ⟨by decide, by decide⟩ (Nat.le_of_ble_eq_true rfl) (Nat.le_of_ble_eq_true rfl) dX1_cOf_25
      · replace c_31 : x0.toInt < 9 := i_nle c_31
        refine lv_iconst (v := 5) C.1 C.2.1 dX1_cOf_19 (by decide) ?_
        refine lv_goto (tgt := 25) C.1 C.2.1 dX1_cOf_20 (by decide) ?_
        exact g_iret C hr hlocks hP hD hS rfl () rfl ⟨by decide, by decide⟩ (Nat.le_of_ble_eq_true rfl) (Nat.le_of_ble_eq_true rfl) dX1_cOf_25
  · replace c_1 : x0.toInt < 5 := i_nle c_1
    refine lv_iload_n C.1 C.2.1 dX1_cOf_5 rfl (lv_at hl 0 rfl) ?_
    exact g_iret C hr hlocks hP hD hS rfl () rfl ⟨by omega, by omega⟩ (Nat.le_of_ble_eq_true rfl) (Nat.le_of_ble_eq_true rfl) dX1_cOf_6

theorem dX3_openAccounts_0 : decode cX3_openAccounts 0 = .ok (.aload_n 0, 1) := by decide +kernel
theorem dX3_openAccounts_1 : decode cX3_openAccounts 1 = .ok (.iconst 0, 1) := by decide +kernel
theorem dX3_openAccounts_10 : decode cX3_openAccounts 10 = .ok (.return_, 1) := by decide +kernel
theorem dX3_openAccounts_2 : decode cX3_openAccounts 2 = .ok (.putfield 25, 3) := by decide +kernel
theorem dX3_openAccounts_5 : decode cX3_openAccounts 5 = .ok (.aload_n 0, 1) := by decide +kernel
theorem dX3_openAccounts_6 : decode cX3_openAccounts 6 = .ok (.iconst 0, 1) := by decide +kernel
theorem dX3_openAccounts_7 : decode cX3_openAccounts 7 = .ok (.putfield 29, 3) := by decide +kernel
set_option maxHeartbeats 4000000 in
set_option maxRecDepth 100000 in
theorem T_X3_openAccounts (l : Launch) (D : va_G) (K : Nat → ClassId) (Z Y : Nat → Nat) (ad : Nat → Nat) (d : dSt) (t : tSt) (hok : okX t)  : tMet l yX3_openAccounts cX3_openAccounts 1 none (rmD 0 0 0) D K Z Y [.ref (ad 7)] ((WX d) K ad t) (QV D K (fun (u : tSt) => okX u ∧ frA [(7, 12), (7, 15)] [] [] [] t u) (fun (u : tSt) => (WX d) K ad u)) 0 0 := by
  refine t_met RX3 ⟨rfl, by decide +kernel⟩ (Nat.le_of_ble_eq_true rfl) ?_
  intro p e s m below meth c A ls C hE hZ hr hlocks hA hP hD hS hl
  have hl : lv_has ls 1 [(0, .ref (ad 7))] := hl
  have hokt := hok
  have hfr : frA [(7, 12), (7, 15)] [] [] [] t t := frA_rf
  refine lv_aload_n C.1 C.2.1 dX3_openAccounts_0 rfl (lv_at hl 0 rfl) ?_
  refine lv_iconst (v := 0) C.1 C.2.1 dX3_openAccounts_1 (by decide) ?_
  refine k_put (ws' := (WX d) K ad (uI t 7 12 0)) (v := .int 0) C hP hD hS 7 rfl rfl inlX3 tyX3_ok nmX3 12 (by decide) m_74_8 rfl rfl rfl rfl rfl dX3_openAccounts_2 (fun H locs hP hD hS => ?_)
  have hok : okX (uI t 7 12 0) := ⟨okI_I hok.1 7 12 0 (show (0 : Int) ≤ (0 : Int32).toInt ∧ (0 : Int32).toInt ≤ 512 from ⟨by decide, by decide⟩), hok.2.1, trivial⟩
  have hfr : frA [(7, 12), (7, 15)] [] [] [] t (uI t 7 12 0) := frA_I hfr 7 12 _ rfl
  refine lv_aload_n C.1 C.2.1 dX3_openAccounts_5 rfl (lv_at hl 0 rfl) ?_
  refine lv_iconst (v := 0) C.1 C.2.1 dX3_openAccounts_6 (by decide) ?_
  refine k_put (ws' := (WX d) K ad (uI (uI t 7 12 0) 7 15 0)) (v := .int 0) C hP hD hS 7 rfl rfl inlX3 tyX3_ok nmX3 15 (by decide) m_74_9 rfl (by decide) (by decide) rfl rfl dX3_openAccounts_7 (fun H locs hP hD hS => ?_)
  have hok : okX (uI (uI t 7 12 0) 7 15 0) := ⟨okI_I hok.1 7 15 0 (show (0 : Int) ≤ (0 : Int32).toInt ∧ (0 : Int32).toInt ≤ 1 from ⟨by decide, by decide⟩), hok.2.1, trivial⟩
  have hfr : frA [(7, 12), (7, 15)] [] [] [] t (uI (uI t 7 12 0) 7 15 0) := frA_I hfr 7 15 _ rfl
  exact g_vret C hr hlocks hP hD hS (uI (uI t 7 12 0) 7 15 0) rfl ⟨hok, hfr⟩ (Nat.le_of_ble_eq_true rfl) (Nat.le_of_ble_eq_true rfl) dX3_openAccounts_10

theorem dX1_wordOf_0 : decode cX1_wordOf 0 = .ok (.lload_n 0, 1) := by decide +kernel
theorem dX1_wordOf_1 : decode cX1_wordOf 1 = .ok (.invokestatic 18, 3) := by decide +kernel
theorem dX1_wordOf_10 : decode cX1_wordOf 10 = .ok (.lload_n 0, 1) := by decide +kernel
theorem dX1_wordOf_11 : decode cX1_wordOf 11 = .ok (.lconst 0, 1) := by decide +kernel
theorem dX1_wordOf_12 : decode cX1_wordOf 12 = .ok (.lcmp, 1) := by decide +kernel
theorem dX1_wordOf_13 : decode cX1_wordOf 13 = .ok (.ifCond .ge 10, 3) := by decide +kernel
theorem dX1_wordOf_16 : decode cX1_wordOf 16 = .ok (.ldc 11, 2) := by decide +kernel
theorem dX1_wordOf_18 : decode cX1_wordOf 18 = .ok (.iload_n 2, 1) := by decide +kernel
theorem dX1_wordOf_19 : decode cX1_wordOf 19 = .ok (.ior, 1) := by decide +kernel
theorem dX1_wordOf_20 : decode cX1_wordOf 20 = .ok (.goto 4, 3) := by decide +kernel
theorem dX1_wordOf_23 : decode cX1_wordOf 23 = .ok (.iload_n 2, 1) := by decide +kernel
theorem dX1_wordOf_24 : decode cX1_wordOf 24 = .ok (.ireturn, 1) := by decide +kernel
theorem dX1_wordOf_4 : decode cX1_wordOf 4 = .ok (.ldc2_w 24, 3) := by decide +kernel
theorem dX1_wordOf_7 : decode cX1_wordOf 7 = .ok (.land, 1) := by decide +kernel
theorem dX1_wordOf_8 : decode cX1_wordOf 8 = .ok (.l2i, 1) := by decide +kernel
theorem dX1_wordOf_9 : decode cX1_wordOf 9 = .ok (.istore_n 2, 1) := by decide +kernel
set_option maxHeartbeats 4000000 in
set_option maxRecDepth 100000 in
theorem T_X1_wordOf (l : Launch) (D : va_G) (K : Nat → ClassId) (Z Y : Nat → Nat) (ad : Nat → Nat) (d : dSt) (t : tSt) (hok : okX t) (x0 : Int64) : tMet l yX1_wordOf cX1_wordOf 3 (some .int) (rmD 1 0 0) D K Z Y [.long x0] ((WX d) K ad t) (QI D K (fun (r : Int32) (u : Unit) => (0 : Int) ≤ r.toInt ∧ r.toInt ≤ 2147483647) (fun (_ : Unit) => (WX d) K ad t)) 0 0 := by
  refine t_met RX1 ⟨rfl, by decide +kernel⟩ (Nat.le_of_ble_eq_true rfl) ?_
  intro p e s m below meth c A ls C hE hZ hr hlocks hA hP hD hS hl
  have hl : lv_has ls 3 [(0, .long x0)] := hl
  refine lv_lload_n C.1 C.2.1 dX1_wordOf_0 rfl (lv_at hl 0 rfl) ?_
  refine va_mabs_long C.1 C.2.1 (by rw [C.2.2.1, hl.1]) C.2.2.2.1 (C.2.2.2.2.1 _ m_22_13) (C.2.2.2.2.1 _ m_22_14) (C.2.2.2.2.1 _ m_12_15) (C.2.2.2.2.1 _ m_22_15) (Nat.le_of_ble_eq_true rfl) (Nat.le_of_ble_eq_true rfl) (Nat.le_of_ble_eq_true rfl) (Nat.le_of_ble_eq_true rfl) dX1_wordOf_1 ?_
  refine lv_ldc2 (v := 1073741823) C.1 C.2.1 C.2.2.2.1 (C.2.2.2.2.1 _ m_22_16) dX1_wordOf_4 ?_
  obtain ⟨v_2, e_3⟩ : ∃ z, z = ((if (0 : Int64) < x0 then x0 else -x0) : Int64) &&& 1073741823 := ⟨_, rfl⟩
  have h_4 : v_2.toInt = (if (0 : Int64) < x0 then x0 else -x0).toInt % 2 ^ 30 := by rw [e_3]; exact Jvm.Kit.i64_mask _ _ (k := 30) (by decide) (by decide)
  refine lw_land (v := v_2) C.1 C.2.1 dX1_wordOf_7 e_3.symm ?_
  obtain ⟨v_5, e_6⟩ : ∃ z, z = (v_2).toInt32 := ⟨_, rfl⟩
  have h_7 : v_5.toInt = v_2.toInt := by rw [e_6]; exact Jvm.Kit.i32_of_i64 (by show (_ : Int) ≤ v_2.toInt; omega) (by show v_2.toInt < (_ : Int); omega)
  refine lv_l2i (v := v_5) C.1 C.2.1 dX1_wordOf_8 e_6.symm ?_
  refine lv_istore_n (lv' := [(2, .int v_5), (0, .long x0)]) C.1 C.2.1 dX1_wordOf_9 rfl hl (by decide) rfl (fun ls hl => ?_)
  have hl : lv_has ls 3 [(0, .long x0), (2, .int v_5)] := lv_sub hl [1, 0] rfl
  refine lv_lload_n C.1 C.2.1 dX1_wordOf_10 rfl (lv_at hl 0 rfl) ?_
  refine lv_lconst (v := 0) C.1 C.2.1 dX1_wordOf_11 (by decide) ?_
  obtain ⟨v_8, e_9⟩ : ∃ z, z = lg_cmp (x0 : Int64) 0 := ⟨_, rfl⟩
  have h_10 : (-1 : Int) ≤ v_8.toInt ∧ v_8.toInt ≤ 1 := by rw [e_9]; exact cmp_rng _ _
  refine k_lcmp (v := v_8) C e_9.symm dX1_wordOf_12 ?_
  refine lv_if_ge (tgt := 23) C.1 C.2.1 dX1_wordOf_13 (by decide) (fun c_11 => ?_) (fun c_11 => ?_)
  · replace c_11 : 0 ≤ v_8.toInt := i_le c_11
    refine lv_iload_n C.1 C.2.1 dX1_wordOf_23 rfl (lv_at hl 1 rfl) ?_
    exact g_iret C hr hlocks hP hD hS rfl () rfl ⟨by omega, by omega⟩ (Nat.le_of_ble_eq_true rfl) (Nat.le_of_ble_eq_true rfl) dX1_wordOf_24
  · replace c_11 : v_8.toInt < 0 := i_nle c_11
    refine lv_ldc (v := 1073741824) C.1 C.2.1 C.2.2.2.1 (C.2.2.2.2.1 _ m_22_17) dX1_wordOf_16 ?_
    refine lv_iload_n C.1 C.2.1 dX1_wordOf_18 rfl (lv_at hl 1 rfl) ?_
    obtain ⟨v_12, e_13⟩ : ∃ z, z = (1073741824 : Int32) ||| (v_5 : Int32) := ⟨_, rfl⟩
    have h_14 : (0 : Int) ≤ v_12.toInt ∧ v_12.toInt ≤ 2147483647 := by rw [e_13]; exact z_or (k := 31) (by decide) (by show (0 : Int) ≤ 1073741824; omega) (by show 1073741824 < (_ : Int); omega) (by show (0 : Int) ≤ v_5.toInt; omega) (by show v_5.toInt < (_ : Int); omega)
    refine k_ior (v := v_12) C e_13.symm dX1_wordOf_19 ?_
    refine lv_goto (tgt := 24) C.1 C.2.1 dX1_wordOf_20 (by decide) ?_
    exact g_iret C hr hlocks hP hD hS rfl () rfl ⟨by omega, by omega⟩ (Nat.le_of_ble_eq_true rfl) (Nat.le_of_ble_eq_true rfl) dX1_wordOf_24

theorem dX5_fail_0 : decode cX5_fail 0 = .ok (.aload_n 0, 1) := by decide +kernel
theorem dX5_fail_1 : decode cX5_fail 1 = .ok (.getfield 26, 3) := by decide +kernel
theorem dX5_fail_12 : decode cX5_fail 12 = .ok (.return_, 1) := by decide +kernel
theorem dX5_fail_4 : decode cX5_fail 4 = .ok (.ifCond .ne 8, 3) := by decide +kernel
theorem dX5_fail_7 : decode cX5_fail 7 = .ok (.aload_n 0, 1) := by decide +kernel
theorem dX5_fail_8 : decode cX5_fail 8 = .ok (.iload_n 1, 1) := by decide +kernel
theorem dX5_fail_9 : decode cX5_fail 9 = .ok (.putfield 26, 3) := by decide +kernel
set_option maxHeartbeats 4000000 in
set_option maxRecDepth 100000 in
theorem T_X5_fail (l : Launch) (D : va_G) (K : Nat → ClassId) (Z Y : Nat → Nat) (ad : Nat → Nat) (d : dSt) (t : tSt) (hok : okX t) (x1 : Int32) (hx1 : (1 : Int) ≤ x1.toInt ∧ x1.toInt ≤ 6) : tMet l yX5_fail cX5_fail 2 none (rmD 0 0 0) D K Z Y [.ref (ad 24), .int x1] ((WX d) K ad t) (QV D K (fun (u : tSt) => okX u ∧ frA [(24, 4)] [] [] [] t u) (fun (u : tSt) => (WX d) K ad u)) 0 0 := by
  refine t_met RX5 ⟨rfl, by decide +kernel⟩ (Nat.le_of_ble_eq_true rfl) ?_
  intro p e s m below meth c A ls C hE hZ hr hlocks hA hP hD hS hl
  have hl : lv_has ls 2 [(0, .ref (ad 24)), (1, .int x1)] := hl
  have hokt := hok
  have hfr : frA [(24, 4)] [] [] [] t t := frA_rf
  refine lv_aload_n C.1 C.2.1 dX5_fail_0 rfl (lv_at hl 0 rfl) ?_
  have h_1 : (0 : Int) ≤ (t.1 24 4).toInt ∧ (t.1 24 4).toInt ≤ 6 := hok.1 24 4
  refine k_get (v := .int (t.1 24 4)) C hP 24 rfl rfl inlX5 4 (by decide) m_20_23 rfl dX5_fail_1 ?_
  refine lv_if_ne (tgt := 12) C.1 C.2.1 dX5_fail_4 (by decide) (fun c_2 => ?_) (fun c_2 => ?_)
  · replace c_2 : ¬ (t.1 24 4).toInt = 0 := i_ne c_2
    exact g_vret C hr hlocks hP hD hS t rfl ⟨hok, hfr⟩ (Nat.le_of_ble_eq_true rfl) (Nat.le_of_ble_eq_true rfl) dX5_fail_12
  · replace c_2 : (t.1 24 4).toInt = 0 := i_eq c_2
    refine lv_aload_n C.1 C.2.1 dX5_fail_7 rfl (lv_at hl 0 rfl) ?_
    refine lv_iload_n C.1 C.2.1 dX5_fail_8 rfl (lv_at hl 1 rfl) ?_
    refine k_put (ws' := (WX d) K ad (uI t 24 4 x1)) (v := .int x1) C hP hD hS 24 rfl rfl inlX5 tyX5_ok nmX5 4 (by decide) m_20_23 rfl rfl rfl rfl rfl dX5_fail_9 (fun H locs hP hD hS => ?_)
    have hok : okX (uI t 24 4 x1) := ⟨okI_I hok.1 24 4 x1 (show (0 : Int) ≤ (x1 : Int32).toInt ∧ (x1 : Int32).toInt ≤ 6 from ⟨by omega, by omega⟩), hok.2.1, trivial⟩
    have hfr : frA [(24, 4)] [] [] [] t (uI t 24 4 x1) := frA_I hfr 24 4 _ rfl
    exact g_vret C hr hlocks hP hD hS (uI t 24 4 x1) rfl ⟨hok, hfr⟩ (Nat.le_of_ble_eq_true rfl) (Nat.le_of_ble_eq_true rfl) dX5_fail_12

theorem dX5_operatorSize_0 : decode cX5_operatorSize 0 = .ok (.aload_n 0, 1) := by decide +kernel
theorem dX5_operatorSize_1 : decode cX5_operatorSize 1 = .ok (.invokevirtual 70, 3) := by decide +kernel
theorem dX5_operatorSize_11 : decode cX5_operatorSize 11 = .ok (.aload_n 0, 1) := by decide +kernel
theorem dX5_operatorSize_12 : decode cX5_operatorSize 12 = .ok (.getfield 19, 3) := by decide +kernel
theorem dX5_operatorSize_15 : decode cX5_operatorSize 15 = .ok (.iconst 1, 1) := by decide +kernel
theorem dX5_operatorSize_16 : decode cX5_operatorSize 16 = .ok (.iadd, 1) := by decide +kernel
theorem dX5_operatorSize_17 : decode cX5_operatorSize 17 = .ok (.aload_n 0, 1) := by decide +kernel
theorem dX5_operatorSize_18 : decode cX5_operatorSize 18 = .ok (.getfield 23, 3) := by decide +kernel
theorem dX5_operatorSize_21 : decode cX5_operatorSize 21 = .ok (.if_icmp .ge 35, 3) := by decide +kernel
theorem dX5_operatorSize_24 : decode cX5_operatorSize 24 = .ok (.aload_n 0, 1) := by decide +kernel
theorem dX5_operatorSize_25 : decode cX5_operatorSize 25 = .ok (.getfield 19, 3) := by decide +kernel
theorem dX5_operatorSize_28 : decode cX5_operatorSize 28 = .ok (.iconst 1, 1) := by decide +kernel
theorem dX5_operatorSize_29 : decode cX5_operatorSize 29 = .ok (.iadd, 1) := by decide +kernel
theorem dX5_operatorSize_30 : decode cX5_operatorSize 30 = .ok (.aload_n 0, 1) := by decide +kernel
theorem dX5_operatorSize_31 : decode cX5_operatorSize 31 = .ok (.getfield 9, 3) := by decide +kernel
theorem dX5_operatorSize_34 : decode cX5_operatorSize 34 = .ok (.arraylength, 1) := by decide +kernel
theorem dX5_operatorSize_35 : decode cX5_operatorSize 35 = .ok (.if_icmp .ge 21, 3) := by decide +kernel
theorem dX5_operatorSize_38 : decode cX5_operatorSize 38 = .ok (.aload_n 0, 1) := by decide +kernel
theorem dX5_operatorSize_39 : decode cX5_operatorSize 39 = .ok (.getfield 9, 3) := by decide +kernel
theorem dX5_operatorSize_4 : decode cX5_operatorSize 4 = .ok (.istore_n 1, 1) := by decide +kernel
theorem dX5_operatorSize_42 : decode cX5_operatorSize 42 = .ok (.aload_n 0, 1) := by decide +kernel
theorem dX5_operatorSize_43 : decode cX5_operatorSize 43 = .ok (.getfield 19, 3) := by decide +kernel
theorem dX5_operatorSize_46 : decode cX5_operatorSize 46 = .ok (.iconst 1, 1) := by decide +kernel
theorem dX5_operatorSize_47 : decode cX5_operatorSize 47 = .ok (.iadd, 1) := by decide +kernel
theorem dX5_operatorSize_48 : decode cX5_operatorSize 48 = .ok (.baload, 1) := by decide +kernel
theorem dX5_operatorSize_49 : decode cX5_operatorSize 49 = .ok (.bipush 47, 2) := by decide +kernel
theorem dX5_operatorSize_5 : decode cX5_operatorSize 5 = .ok (.iload_n 1, 1) := by decide +kernel
theorem dX5_operatorSize_51 : decode cX5_operatorSize 51 = .ok (.if_icmp .ne 5, 3) := by decide +kernel
theorem dX5_operatorSize_54 : decode cX5_operatorSize 54 = .ok (.iconst 2, 1) := by decide +kernel
theorem dX5_operatorSize_55 : decode cX5_operatorSize 55 = .ok (.ireturn, 1) := by decide +kernel
theorem dX5_operatorSize_56 : decode cX5_operatorSize 56 = .ok (.iload_n 1, 1) := by decide +kernel
theorem dX5_operatorSize_57 : decode cX5_operatorSize 57 = .ok (.bipush 43, 2) := by decide +kernel
theorem dX5_operatorSize_59 : decode cX5_operatorSize 59 = .ok (.if_icmp .eq 27, 3) := by decide +kernel
theorem dX5_operatorSize_6 : decode cX5_operatorSize 6 = .ok (.bipush 47, 2) := by decide +kernel
theorem dX5_operatorSize_62 : decode cX5_operatorSize 62 = .ok (.iload_n 1, 1) := by decide +kernel
theorem dX5_operatorSize_63 : decode cX5_operatorSize 63 = .ok (.bipush 45, 2) := by decide +kernel
theorem dX5_operatorSize_65 : decode cX5_operatorSize 65 = .ok (.if_icmp .eq 21, 3) := by decide +kernel
theorem dX5_operatorSize_68 : decode cX5_operatorSize 68 = .ok (.iload_n 1, 1) := by decide +kernel
theorem dX5_operatorSize_69 : decode cX5_operatorSize 69 = .ok (.bipush 42, 2) := by decide +kernel
theorem dX5_operatorSize_71 : decode cX5_operatorSize 71 = .ok (.if_icmp .eq 15, 3) := by decide +kernel
theorem dX5_operatorSize_74 : decode cX5_operatorSize 74 = .ok (.iload_n 1, 1) := by decide +kernel
theorem dX5_operatorSize_75 : decode cX5_operatorSize 75 = .ok (.bipush 47, 2) := by decide +kernel
theorem dX5_operatorSize_77 : decode cX5_operatorSize 77 = .ok (.if_icmp .eq 9, 3) := by decide +kernel
theorem dX5_operatorSize_8 : decode cX5_operatorSize 8 = .ok (.if_icmp .ne 48, 3) := by decide +kernel
theorem dX5_operatorSize_80 : decode cX5_operatorSize 80 = .ok (.iload_n 1, 1) := by decide +kernel
theorem dX5_operatorSize_81 : decode cX5_operatorSize 81 = .ok (.bipush 58, 2) := by decide +kernel
theorem dX5_operatorSize_83 : decode cX5_operatorSize 83 = .ok (.if_icmp .ne 7, 3) := by decide +kernel
theorem dX5_operatorSize_86 : decode cX5_operatorSize 86 = .ok (.iconst 1, 1) := by decide +kernel
theorem dX5_operatorSize_87 : decode cX5_operatorSize 87 = .ok (.goto 4, 3) := by decide +kernel
theorem dX5_operatorSize_90 : decode cX5_operatorSize 90 = .ok (.iconst 0, 1) := by decide +kernel
theorem dX5_operatorSize_91 : decode cX5_operatorSize 91 = .ok (.ireturn, 1) := by decide +kernel
set_option maxHeartbeats 4000000 in
set_option maxRecDepth 100000 in
theorem T_X5_operatorSize (l : Launch) (D : va_G) (K : Nat → ClassId) (Z Y : Nat → Nat) (ad : Nat → Nat) (d : dSt) (t : tSt) (hok : okX t)  : tMet l yX5_operatorSize cX5_operatorSize 2 (some .int) (rmD 1 0 0) D K Z Y [.ref (ad 24)] ((WX d) K ad t) (QI D K (fun (r : Int32) (u : Unit) => (0 : Int) ≤ r.toInt ∧ r.toInt ≤ 2 ∧ (¬ r.toInt = 0 → (t.1 24 2).toInt + r.toInt ≤ (t.1 24 3).toInt)) (fun (_ : Unit) => (WX d) K ad t)) 0 0 := by
  refine t_met RX5 ⟨rfl, by decide +kernel⟩ (Nat.le_of_ble_eq_true rfl) ?_
  intro p e s m below meth c A ls C hE hZ hr hlocks hA hP hD hS hl
  have hl : lv_has ls 2 [(0, .ref (ad 24))] := hl
  have h_1 : (0 : Int) ≤ (t.1 24 2).toInt ∧ (t.1 24 2).toInt ≤ 81 := hok.1 24 2
  have h_2 : (-1 : Int) ≤ (t.1 24 3).toInt ∧ (t.1 24 3).toInt ≤ 80 := hok.1 24 3
  refine lv_aload_n C.1 C.2.1 dX5_operatorSize_0 rfl (lv_at hl 0 rfl) ?_
  refine g_Vi (As := []) (rest := []) C hP hD hS hA (T_X5_letterHere l D K Z Y ad d t hok ) hE hZ (uwV m_21_21 m_21_22 m_21_23 m_5_22 m_22_0) (hdV 0 (by decide +kernel) rfl) ⟨Nat.le_of_ble_eq_true rfl, Nat.le_of_ble_eq_true rfl⟩ rfl rfl (ci := 4) (q0 := 24) rfl rfl rfl hl.1 (Nat.le_of_ble_eq_true rfl) dX5_operatorSize_1 ⟨Nat.le_of_ble_eq_true rfl, Nat.le_of_ble_eq_true rfl⟩ (fun r_4 t_3 H locs hw hP hD hS => ?_)
  obtain ⟨h_6, h_7, p_8⟩ := hw
  replace p_8 : ¬ r_4.toInt = 32 → (t.1 24 2).toInt < (t.1 24 3).toInt := p_8
  refine lv_istore_n (lv' := [(1, .int r_4), (0, .ref (ad 24))]) C.1 C.2.1 dX5_operatorSize_4 rfl hl (by decide) rfl (fun ls hl => ?_)
  have hl : lv_has ls 2 [(0, .ref (ad 24)), (1, .int r_4)] := lv_sub hl [1, 0] rfl
  refine lv_iload_n C.1 C.2.1 dX5_operatorSize_5 rfl (lv_at hl 1 rfl) ?_
  refine lv_bipush (v := 47) C.1 C.2.1 dX5_operatorSize_6 (by decide) ?_
  refine lv_icmp_ne (tgt := 56) C.1 C.2.1 dX5_operatorSize_8 (by decide) (fun c_9 => ?_) (fun c_9 => ?_)
  · replace c_9 : ¬ r_4.toInt = 47 := i_ne c_9
    refine lv_iload_n C.1 C.2.1 dX5_operatorSize_56 rfl (lv_at hl 1 rfl) ?_
    refine lv_bipush (v := 43) C.1 C.2.1 dX5_operatorSize_57 (by decide) ?_
    refine lv_icmp_eq (tgt := 86) C.1 C.2.1 dX5_operatorSize_59 (by decide) (fun c_10 => ?_) (fun c_10 => ?_)
    · replace c_10 : r_4.toInt = 43 := i_eq c_10
      refine lv_iconst (v := 1) C.1 C.2.1 dX5_operatorSize_86 (by decide) ?_
      refine lv_goto (tgt := 91) C.1 C.2.1 dX5_operatorSize_87 (by decide) ?_
      exact g_iret C hr hlocks hP hD hS rfl () rfl ⟨by decide, by decide, (show ¬ 1 = 0 → (t.1 24 2).toInt + 1 ≤ (t.1 24 3).toInt from by omega)⟩ (Nat.le_of_ble_eq_true rfl) (Nat.le_of_ble_eq_true rfl) dX5_operatorSize_91
    · replace c_10 : ¬ r_4.toInt = 43 := i_ne c_10
      refine lv_iload_n C.1 C.2.1 dX5_operatorSize_62 rfl (lv_at hl 1 rfl) ?_
      refine lv_bipush (v := 45) C.1 C.2.1 dX5_operatorSize_63 (by decide) ?_
      refine lv_icmp_eq (tgt := 86) C.1 C.2.1 dX5_operatorSize_65 (by decide) (fun c_11 => ?_) (fun c_11 => ?_)
      · replace c_11 : r_4.toInt = 45 := i_eq c_11
        refine lv_iconst (v := 1) C.1 C.2.1 dX5_operatorSize_86 (by decide) ?_
        refine lv_goto (tgt := 91) C.1 C.2.1 dX5_operatorSize_87 (by decide) ?_
        exact g_iret C hr hlocks hP hD hS rfl () rfl ⟨by decide, by decide, (show ¬ 1 = 0 → (t.1 24 2).toInt + 1 ≤ (t.1 24 3).toInt from by omega)⟩ (Nat.le_of_ble_eq_true rfl) (Nat.le_of_ble_eq_true rfl) dX5_operatorSize_91
      · replace c_11 : ¬ r_4.toInt = 45 := i_ne c_11
        refine lv_iload_n C.1 C.2.1 dX5_operatorSize_68 rfl (lv_at hl 1 rfl) ?_
        refine lv_bipush (v := 42) C.1 C.2.1 dX5_operatorSize_69 (by decide) ?_
        refine lv_icmp_eq (tgt := 86) C.1 C.2.1 dX5_operatorSize_71 (by decide) (fun c_12 => ?_) (fun c_12 => ?_)
        · replace c_12 : r_4.toInt = 42 := i_eq c_12
          refine lv_iconst (v := 1) C.1 C.2.1 dX5_operatorSize_86 (by decide) ?_
          refine lv_goto (tgt := 91) C.1 C.2.1 dX5_operatorSize_87 (by decide) ?_
          exact g_iret C hr hlocks hP hD hS rfl () rfl ⟨by decide, by decide, (show ¬ 1 = 0 → (t.1 24 2).toInt + 1 ≤ (t.1 24 3).toInt from by omega)⟩ (Nat.le_of_ble_eq_true rfl) (Nat.le_of_ble_eq_true rfl) dX5_operatorSize_91
        · replace c_12 : ¬ r_4.toInt = 42 := i_ne c_12
          refine lv_iload_n C.1 C.2.1 dX5_operatorSize_74 rfl (lv_at hl 1 rfl) ?_
          refine lv_bipush (v := 47) C.1 C.2.1 dX5_operatorSize_75 (by decide) ?_
          refine lv_icmp_eq (tgt := 86) C.1 C.2.1 dX5_operatorSize_77 (by decide) (fun c_13 => ?_) (fun c_13 => ?_)
          · replace c_13 : r_4.toInt = 47 := i_eq c_13
            refine lv_iconst (v := 1) C.1 C.2.1 dX5_operatorSize_86 (by decide) ?_
            refine lv_goto (tgt := 91) C.1 C.2.1 dX5_operatorSize_87 (by decide) ?_
            exact g_iret C hr hlocks hP hD hS rfl () rfl ⟨by decide, by decide, (show ¬ 1 = 0 → (t.1 24 2).toInt + 1 ≤ (t.1 24 3).toInt from by omega)⟩ (Nat.le_of_ble_eq_true rfl) (Nat.le_of_ble_eq_true rfl) dX5_operatorSize_91
          · replace c_13 : ¬ r_4.toInt = 47 := i_ne c_13
            refine lv_iload_n C.1 C.2.1 dX5_operatorSize_80 rfl (lv_at hl 1 rfl) ?_
            refine lv_bipush (v := 58) C.1 C.2.1 dX5_operatorSize_81 (by decide) ?_
            refine lv_icmp_ne (tgt := 90) C.1 C.2.1 dX5_operatorSize_83 (by decide) (fun c_14 => ?_) (fun c_14 => ?_)
            · replace c_14 : ¬ r_4.toInt = 58 := i_ne c_14
              refine lv_iconst (v := 0) C.1 C.2.1 dX5_operatorSize_90 (by decide) ?_
              exact g_iret C hr hlocks hP hD hS rfl () rfl ⟨by decide, by decide, (show ¬ 0 = 0 → (t.1 24 2).toInt + 0 ≤ (t.1 24 3).toInt from by omega)⟩ (Nat.le_of_ble_eq_true rfl) (Nat.le_of_ble_eq_true rfl) dX5_operatorSize_91
            · replace c_14 : r_4.toInt = 58 := i_eq c_14
              refine lv_iconst (v := 1) C.1 C.2.1 dX5_operatorSize_86 (by decide) ?_
              refine lv_goto (tgt := 91) C.1 C.2.1 dX5_operatorSize_87 (by decide) ?_
              exact g_iret C hr hlocks hP hD hS rfl () rfl ⟨by decide, by decide, (show ¬ 1 = 0 → (t.1 24 2).toInt + 1 ≤ (t.1 24 3).toInt from by omega)⟩ (Nat.le_of_ble_eq_true rfl) (Nat.le_of_ble_eq_true rfl) dX5_operatorSize_91
  · replace c_9 : r_4.toInt = 47 := i_eq c_9
    refine lv_aload_n C.1 C.2.1 dX5_operatorSize_11 rfl (lv_at hl 0 rfl) ?_
    refine k_get (v := .int (t.1 24 2)) C hP 24 rfl rfl inlX5 2 (by decide) m_19_9 rfl dX5_operatorSize_12 ?_
    refine lv_iconst (v := 1) C.1 C.2.1 dX5_operatorSize_15 (by decide) ?_
    obtain ⟨v_15, e_16⟩ : ∃ z, z = ((t.1 24 2) : Int32) + (1 : Int32) := ⟨_, rfl⟩
    have h_17 : v_15.toInt = (t.1 24 2).toInt + 1 := by rw [e_16]; exact ti_iadd (by show (_ : Int) ≤ (t.1 24 2).toInt + 1; omega) (by show (t.1 24 2).toInt + 1 < (_ : Int); omega)
    refine k_iadd (v := v_15) C e_16.symm dX5_operatorSize_16 ?_
    refine lv_aload_n C.1 C.2.1 dX5_operatorSize_17 rfl (lv_at hl 0 rfl) ?_
    refine k_get (v := .int (t.1 24 3)) C hP 24 rfl rfl inlX5 3 (by decide) m_19_10 rfl dX5_operatorSize_18 ?_
    refine lv_icmp_ge (tgt := 56) C.1 C.2.1 dX5_operatorSize_21 (by decide) (fun c_18 => ?_) (fun c_18 => ?_)
    · replace c_18 : (t.1 24 3).toInt ≤ v_15.toInt := i_le c_18
      refine lv_iload_n C.1 C.2.1 dX5_operatorSize_56 rfl (lv_at hl 1 rfl) ?_
      refine lv_bipush (v := 43) C.1 C.2.1 dX5_operatorSize_57 (by decide) ?_
      refine lv_icmp_eq (tgt := 86) C.1 C.2.1 dX5_operatorSize_59 (by decide) (fun c_19 => False.elim (by have c_19 : r_4.toInt = 43 := i_eq c_19; omega)) (fun c_19 => ?_)
      replace c_19 : ¬ r_4.toInt = 43 := i_ne c_19
      refine lv_iload_n C.1 C.2.1 dX5_operatorSize_62 rfl (lv_at hl 1 rfl) ?_
      refine lv_bipush (v := 45) C.1 C.2.1 dX5_operatorSize_63 (by decide) ?_
      refine lv_icmp_eq (tgt := 86) C.1 C.2.1 dX5_operatorSize_65 (by decide) (fun c_20 => False.elim (by have c_20 : r_4.toInt = 45 := i_eq c_20; omega)) (fun c_20 => ?_)
      replace c_20 : ¬ r_4.toInt = 45 := i_ne c_20
      refine lv_iload_n C.1 C.2.1 dX5_operatorSize_68 rfl (lv_at hl 1 rfl) ?_
      refine lv_bipush (v := 42) C.1 C.2.1 dX5_operatorSize_69 (by decide) ?_
      refine lv_icmp_eq (tgt := 86) C.1 C.2.1 dX5_operatorSize_71 (by decide) (fun c_21 => False.elim (by have c_21 : r_4.toInt = 42 := i_eq c_21; omega)) (fun c_21 => ?_)
      replace c_21 : ¬ r_4.toInt = 42 := i_ne c_21
      refine lv_iload_n C.1 C.2.1 dX5_operatorSize_74 rfl (lv_at hl 1 rfl) ?_
      refine lv_bipush (v := 47) C.1 C.2.1 dX5_operatorSize_75 (by decide) ?_
      refine lv_icmp_eq (tgt := 86) C.1 C.2.1 dX5_operatorSize_77 (by decide) (fun c_22 => ?_) (fun c_22 => False.elim (by have c_22 : ¬ r_4.toInt = 47 := i_ne c_22; omega))
      replace c_22 : r_4.toInt = 47 := i_eq c_22
      refine lv_iconst (v := 1) C.1 C.2.1 dX5_operatorSize_86 (by decide) ?_
      refine lv_goto (tgt := 91) C.1 C.2.1 dX5_operatorSize_87 (by decide) ?_
      exact g_iret C hr hlocks hP hD hS rfl () rfl ⟨by decide, by decide, (show ¬ 1 = 0 → (t.1 24 2).toInt + 1 ≤ (t.1 24 3).toInt from by omega)⟩ (Nat.le_of_ble_eq_true rfl) (Nat.le_of_ble_eq_true rfl) dX5_operatorSize_91
    · replace c_18 : v_15.toInt < (t.1 24 3).toInt := i_nle c_18
      refine lv_aload_n C.1 C.2.1 dX5_operatorSize_24 rfl (lv_at hl 0 rfl) ?_
      refine k_get (v := .int (t.1 24 2)) C hP 24 rfl rfl inlX5 2 (by decide) m_19_9 rfl dX5_operatorSize_25 ?_
      refine lv_iconst (v := 1) C.1 C.2.1 dX5_operatorSize_28 (by decide) ?_
      obtain ⟨v_23, e_24⟩ : ∃ z, z = ((t.1 24 2) : Int32) + (1 : Int32) := ⟨_, rfl⟩
      have h_25 : v_23.toInt = (t.1 24 2).toInt + 1 := by rw [e_24]; exact ti_iadd (by show (_ : Int) ≤ (t.1 24 2).toInt + 1; omega) (by show (t.1 24 2).toInt + 1 < (_ : Int); omega)
      refine k_iadd (v := v_23) C e_24.symm dX5_operatorSize_29 ?_
      refine lv_aload_n C.1 C.2.1 dX5_operatorSize_30 rfl (lv_at hl 0 rfl) ?_
      refine k_get (v := .ref (ad 9)) C hP 24 rfl rfl inlX5 0 (by decide) m_6_5 rfl dX5_operatorSize_31 ?_
      refine k_len (v := 80) C hP 9 2 rfl rfl rfl dX5_operatorSize_34 ?_
      refine lv_icmp_ge (tgt := 56) C.1 C.2.1 dX5_operatorSize_35 (by decide) (fun c_26 => ?_) (fun c_26 => ?_)
      · replace c_26 : 80 ≤ v_23.toInt := i_le c_26
        refine lv_iload_n C.1 C.2.1 dX5_operatorSize_56 rfl (lv_at hl 1 rfl) ?_
        refine lv_bipush (v := 43) C.1 C.2.1 dX5_operatorSize_57 (by decide) ?_
        refine lv_icmp_eq (tgt := 86) C.1 C.2.1 dX5_operatorSize_59 (by decide) (fun c_27 => False.elim (by have c_27 : r_4.toInt = 43 := i_eq c_27; omega)) (fun c_27 => ?_)
        replace c_27 : ¬ r_4.toInt = 43 := i_ne c_27
        refine lv_iload_n C.1 C.2.1 dX5_operatorSize_62 rfl (lv_at hl 1 rfl) ?_
        refine lv_bipush (v := 45) C.1 C.2.1 dX5_operatorSize_63 (by decide) ?_
        refine lv_icmp_eq (tgt := 86) C.1 C.2.1 dX5_operatorSize_65 (by decide) (fun c_28 => False.elim (by have c_28 : r_4.toInt = 45 := i_eq c_28; omega)) (fun c_28 => ?_)
        replace c_28 : ¬ r_4.toInt = 45 := i_ne c_28
        refine lv_iload_n C.1 C.2.1 dX5_operatorSize_68 rfl (lv_at hl 1 rfl) ?_
        refine lv_bipush (v := 42) C.1 C.2.1 dX5_operatorSize_69 (by decide) ?_
        refine lv_icmp_eq (tgt := 86) C.1 C.2.1 dX5_operatorSize_71 (by decide) (fun c_29 => False.elim (by have c_29 : r_4.toInt = 42 := i_eq c_29; omega)) (fun c_29 => ?_)
        replace c_29 : ¬ r_4.toInt = 42 := i_ne c_29
        refine lv_iload_n C.1 C.2.1 dX5_operatorSize_74 rfl (lv_at hl 1 rfl) ?_
        refine lv_bipush (v := 47) C.1 C.2.1 dX5_operatorSize_75 (by decide) ?_
        refine lv_icmp_eq (tgt := 86) C.1 C.2.1 dX5_operatorSize_77 (by decide) (fun c_30 => ?_) (fun c_30 => False.elim (by have c_30 : ¬ r_4.toInt = 47 := i_ne c_30; omega))
        replace c_30 : r_4.toInt = 47 := i_eq c_30
        refine lv_iconst (v := 1) C.1 C.2.1 dX5_operatorSize_86 (by decide) ?_
        refine lv_goto (tgt := 91) C.1 C.2.1 dX5_operatorSize_87 (by decide) ?_
        exact g_iret C hr hlocks hP hD hS rfl () rfl ⟨by decide, by decide, (show ¬ 1 = 0 → (t.1 24 2).toInt + 1 ≤ (t.1 24 3).toInt from by omega)⟩ (Nat.le_of_ble_eq_true rfl) (Nat.le_of_ble_eq_true rfl) dX5_operatorSize_91
      · replace c_26 : v_23.toInt < 80 := i_nle c_26
        refine lv_aload_n C.1 C.2.1 dX5_operatorSize_38 rfl (lv_at hl 0 rfl) ?_
        refine k_get (v := .ref (ad 9)) C hP 24 rfl rfl inlX5 0 (by decide) m_6_5 rfl dX5_operatorSize_39 ?_
        refine lv_aload_n C.1 C.2.1 dX5_operatorSize_42 rfl (lv_at hl 0 rfl) ?_
        refine k_get (v := .int (t.1 24 2)) C hP 24 rfl rfl inlX5 2 (by decide) m_19_9 rfl dX5_operatorSize_43 ?_
        refine lv_iconst (v := 1) C.1 C.2.1 dX5_operatorSize_46 (by decide) ?_
        obtain ⟨v_31, e_32⟩ : ∃ z, z = ((t.1 24 2) : Int32) + (1 : Int32) := ⟨_, rfl⟩
        have h_33 : v_31.toInt = (t.1 24 2).toInt + 1 := by rw [e_32]; exact ti_iadd (by show (_ : Int) ≤ (t.1 24 2).toInt + 1; omega) (by show (t.1 24 2).toInt + 1 < (_ : Int); omega)
        refine k_iadd (v := v_31) C e_32.symm dX5_operatorSize_47 ?_
        obtain ⟨v_34, e_35⟩ : ∃ z, z = (t.2.2.1 9 (v_31 : Int32).toNatClampNeg) := ⟨_, rfl⟩
        have h_36 : (-128 : Int) ≤ v_34.toInt ∧ v_34.toInt ≤ 127 := by rw [e_35]; exact hok.2.1 9 _
        refine k_bld (v := v_34) C hP 9 rfl (vp_in_iff.mpr ⟨by omega, by omega⟩) e_35.symm dX5_operatorSize_48 ?_
        refine lv_bipush (v := 47) C.1 C.2.1 dX5_operatorSize_49 (by decide) ?_
        refine lv_icmp_ne (tgt := 56) C.1 C.2.1 dX5_operatorSize_51 (by decide) (fun c_37 => ?_) (fun c_37 => ?_)
        · replace c_37 : ¬ v_34.toInt = 47 := i_ne c_37
          refine lv_iload_n C.1 C.2.1 dX5_operatorSize_56 rfl (lv_at hl 1 rfl) ?_
          refine lv_bipush (v := 43) C.1 C.2.1 dX5_operatorSize_57 (by decide) ?_
          refine lv_icmp_eq (tgt := 86) C.1 C.2.1 dX5_operatorSize_59 (by decide) (fun c_38 => False.elim (by have c_38 : r_4.toInt = 43 := i_eq c_38; omega)) (fun c_38 => ?_)
          replace c_38 : ¬ r_4.toInt = 43 := i_ne c_38
          refine lv_iload_n C.1 C.2.1 dX5_operatorSize_62 rfl (lv_at hl 1 rfl) ?_
          refine lv_bipush (v := 45) C.1 C.2.1 dX5_operatorSize_63 (by decide) ?_
          refine lv_icmp_eq (tgt := 86) C.1 C.2.1 dX5_operatorSize_65 (by decide) (fun c_39 => False.elim (by have c_39 : r_4.toInt = 45 := i_eq c_39; omega)) (fun c_39 => ?_)
          replace c_39 : ¬ r_4.toInt = 45 := i_ne c_39
          refine lv_iload_n C.1 C.2.1 dX5_operatorSize_68 rfl (lv_at hl 1 rfl) ?_
          refine lv_bipush (v := 42) C.1 C.2.1 dX5_operatorSize_69 (by decide) ?_
          refine lv_icmp_eq (tgt := 86) C.1 C.2.1 dX5_operatorSize_71 (by decide) (fun c_40 => False.elim (by have c_40 : r_4.toInt = 42 := i_eq c_40; omega)) (fun c_40 => ?_)
          replace c_40 : ¬ r_4.toInt = 42 := i_ne c_40
          refine lv_iload_n C.1 C.2.1 dX5_operatorSize_74 rfl (lv_at hl 1 rfl) ?_
          refine lv_bipush (v := 47) C.1 C.2.1 dX5_operatorSize_75 (by decide) ?_
          refine lv_icmp_eq (tgt := 86) C.1 C.2.1 dX5_operatorSize_77 (by decide) (fun c_41 => ?_) (fun c_41 => False.elim (by have c_41 : ¬ r_4.toInt = 47 := i_ne c_41; omega))
          replace c_41 : r_4.toInt = 47 := i_eq c_41
          refine lv_iconst (v := 1) C.1 C.2.1 dX5_operatorSize_86 (by decide) ?_
          refine lv_goto (tgt := 91) C.1 C.2.1 dX5_operatorSize_87 (by decide) ?_
          exact g_iret C hr hlocks hP hD hS rfl () rfl ⟨by decide, by decide, (show ¬ 1 = 0 → (t.1 24 2).toInt + 1 ≤ (t.1 24 3).toInt from by omega)⟩ (Nat.le_of_ble_eq_true rfl) (Nat.le_of_ble_eq_true rfl) dX5_operatorSize_91
        · replace c_37 : v_34.toInt = 47 := i_eq c_37
          refine lv_iconst (v := 2) C.1 C.2.1 dX5_operatorSize_54 (by decide) ?_
          exact g_iret C hr hlocks hP hD hS rfl () rfl ⟨by decide, by decide, (show ¬ 2 = 0 → (t.1 24 2).toInt + 2 ≤ (t.1 24 3).toInt from by omega)⟩ (Nat.le_of_ble_eq_true rfl) (Nat.le_of_ble_eq_true rfl) dX5_operatorSize_55

theorem dX5_finish_0 : decode cX5_finish 0 = .ok (.aload_n 0, 1) := by decide +kernel
theorem dX5_finish_1 : decode cX5_finish 1 = .ok (.invokevirtual 39, 3) := by decide +kernel
theorem dX5_finish_12 : decode cX5_finish 12 = .ok (.return_, 1) := by decide +kernel
theorem dX5_finish_4 : decode cX5_finish 4 = .ok (.ifCond .ne 8, 3) := by decide +kernel
theorem dX5_finish_7 : decode cX5_finish 7 = .ok (.aload_n 0, 1) := by decide +kernel
theorem dX5_finish_8 : decode cX5_finish 8 = .ok (.iconst 1, 1) := by decide +kernel
theorem dX5_finish_9 : decode cX5_finish 9 = .ok (.invokevirtual 99, 3) := by decide +kernel
set_option maxHeartbeats 4000000 in
set_option maxRecDepth 100000 in
theorem T_X5_finish (l : Launch) (D : va_G) (K : Nat → ClassId) (Z Y : Nat → Nat) (ad : Nat → Nat) (d : dSt) (t : tSt) (hok : okX t)  : tMet l yX5_finish cX5_finish 1 none (rmD 1 0 0) D K Z Y [.ref (ad 24)] ((WX d) K ad t) (QV D K (fun (u : tSt) => okX u ∧ frA [(24, 4)] [] [] [] t u) (fun (u : tSt) => (WX d) K ad u)) 0 0 := by
  refine t_met RX5 ⟨rfl, by decide +kernel⟩ (Nat.le_of_ble_eq_true rfl) ?_
  intro p e s m below meth c A ls C hE hZ hr hlocks hA hP hD hS hl
  have hl : lv_has ls 1 [(0, .ref (ad 24))] := hl
  have hokt := hok
  have hfr : frA [(24, 4)] [] [] [] t t := frA_rf
  refine lv_aload_n C.1 C.2.1 dX5_finish_0 rfl (lv_at hl 0 rfl) ?_
  refine g_Vi (As := []) (rest := []) C hP hD hS hA (T_X5_isAtEnd l D K Z Y ad d t hok ) hE hZ (uwV m_19_20 m_19_21 m_19_22 m_5_22 m_19_23) (hdV 0 (by decide +kernel) rfl) ⟨Nat.le_of_ble_eq_true rfl, Nat.le_of_ble_eq_true rfl⟩ rfl rfl (ci := 4) (q0 := 24) rfl rfl rfl hl.1 (Nat.le_of_ble_eq_true rfl) dX5_finish_1 ⟨Nat.le_of_ble_eq_true rfl, Nat.le_of_ble_eq_true rfl⟩ (fun r_2 t_1 H locs hw hP hD hS => ?_)
  obtain ⟨h_4, h_5⟩ := hw
  refine lv_if_ne (tgt := 12) C.1 C.2.1 dX5_finish_4 (by decide) (fun c_6 => ?_) (fun c_6 => ?_)
  · replace c_6 : ¬ r_2.toInt = 0 := i_ne c_6
    exact g_vret C hr hlocks hP hD hS t rfl ⟨hok, hfr⟩ (Nat.le_of_ble_eq_true rfl) (Nat.le_of_ble_eq_true rfl) dX5_finish_12
  · replace c_6 : r_2.toInt = 0 := i_eq c_6
    refine lv_aload_n C.1 C.2.1 dX5_finish_7 rfl (lv_at hl 0 rfl) ?_
    refine lv_iconst (v := 1) C.1 C.2.1 dX5_finish_8 (by decide) ?_
    refine g_Vv (As := [.int 1]) (rest := []) C hP hD hS hA (T_X5_fail l D K Z Y ad d t hok 1 (show (1 : Int) ≤ (1 : Int32).toInt ∧ (1 : Int32).toInt ≤ 6 from ⟨by decide, by decide⟩)) hE hZ (uwV m_23_0 m_23_1 m_23_2 m_5_22 m_23_3) (hdV 1 (by decide +kernel) rfl) ⟨Nat.le_of_ble_eq_true rfl, Nat.le_of_ble_eq_true rfl⟩ rfl rfl (ci := 4) (q0 := 24) rfl rfl rfl hl.1 (Nat.le_of_ble_eq_true rfl) dX5_finish_9 ⟨Nat.le_of_ble_eq_true rfl, Nat.le_of_ble_eq_true rfl⟩ (fun t_7 H locs hw hP hD hS => ?_)
    obtain ⟨hok, f_9⟩ := hw
    have hfr : frA [(24, 4)] [] [] [] t t_7 := frA_tr hfr f_9 rfl
    exact g_vret C hr hlocks hP hD hS t_7 rfl ⟨hok, hfr⟩ (Nat.le_of_ble_eq_true rfl) (Nat.le_of_ble_eq_true rfl) dX5_finish_12

theorem dX2_areAddresses_0 : decode cX2_areAddresses 0 = .ok (.aload_n 0, 1) := by decide +kernel
theorem dX2_areAddresses_1 : decode cX2_areAddresses 1 = .ok (.iload_n 1, 1) := by decide +kernel
theorem dX2_areAddresses_10 : decode cX2_areAddresses 10 = .ok (.iload_n 2, 1) := by decide +kernel
theorem dX2_areAddresses_11 : decode cX2_areAddresses 11 = .ok (.iadd, 1) := by decide +kernel
theorem dX2_areAddresses_12 : decode cX2_areAddresses 12 = .ok (.iconst 1, 1) := by decide +kernel
theorem dX2_areAddresses_13 : decode cX2_areAddresses 13 = .ok (.isub, 1) := by decide +kernel
theorem dX2_areAddresses_14 : decode cX2_areAddresses 14 = .ok (.invokevirtual 62, 3) := by decide +kernel
theorem dX2_areAddresses_17 : decode cX2_areAddresses 17 = .ok (.ifCond .eq 7, 3) := by decide +kernel
theorem dX2_areAddresses_2 : decode cX2_areAddresses 2 = .ok (.invokevirtual 62, 3) := by decide +kernel
theorem dX2_areAddresses_20 : decode cX2_areAddresses 20 = .ok (.iconst 1, 1) := by decide +kernel
theorem dX2_areAddresses_21 : decode cX2_areAddresses 21 = .ok (.goto 4, 3) := by decide +kernel
theorem dX2_areAddresses_24 : decode cX2_areAddresses 24 = .ok (.iconst 0, 1) := by decide +kernel
theorem dX2_areAddresses_25 : decode cX2_areAddresses 25 = .ok (.ireturn, 1) := by decide +kernel
theorem dX2_areAddresses_5 : decode cX2_areAddresses 5 = .ok (.ifCond .eq 19, 3) := by decide +kernel
theorem dX2_areAddresses_8 : decode cX2_areAddresses 8 = .ok (.aload_n 0, 1) := by decide +kernel
theorem dX2_areAddresses_9 : decode cX2_areAddresses 9 = .ok (.iload_n 1, 1) := by decide +kernel
set_option maxHeartbeats 4000000 in
set_option maxRecDepth 100000 in
theorem T_X2_areAddresses (l : Launch) (D : va_G) (K : Nat → ClassId) (Z Y : Nat → Nat) (ad : Nat → Nat) (d : dSt) (t : tSt) (hok : okX t) (x1 : Int32) (hx1 : (-2147483648 : Int) ≤ x1.toInt ∧ x1.toInt ≤ 1073745919) (x2 : Int32) (hx2 : (1 : Int) ≤ x2.toInt ∧ x2.toInt ≤ 100) : tMet l yX2_areAddresses cX2_areAddresses 3 (some .boolean) (rmD 1 0 0) D K Z Y [.ref (ad 4), .int x1, .int x2] ((WX d) K ad t) (QI D K (fun (r : Int32) (u : Unit) => (0 : Int) ≤ r.toInt ∧ r.toInt ≤ 1) (fun (_ : Unit) => (WX d) K ad t)) 0 0 := by
  refine t_met RX2 ⟨rfl, by decide +kernel⟩ (Nat.le_of_ble_eq_true rfl) ?_
  intro p e s m below meth c A ls C hE hZ hr hlocks hA hP hD hS hl
  have hl : lv_has ls 3 [(0, .ref (ad 4)), (1, .int x1), (2, .int x2)] := hl
  refine lv_aload_n C.1 C.2.1 dX2_areAddresses_0 rfl (lv_at hl 0 rfl) ?_
  refine lv_iload_n C.1 C.2.1 dX2_areAddresses_1 rfl (lv_at hl 1 rfl) ?_
  refine g_Vi (As := [.int x1]) (rest := []) C hP hD hS hA (T_X2_isAddress l D K Z Y ad d t hok (x1)) hE hZ (uwV m_45_20 m_45_21 m_45_22 m_1_23 m_45_23) (hdV 1 (by decide +kernel) rfl) ⟨Nat.le_of_ble_eq_true rfl, Nat.le_of_ble_eq_true rfl⟩ rfl rfl (ci := 1) (q0 := 4) rfl rfl rfl hl.1 (Nat.le_of_ble_eq_true rfl) dX2_areAddresses_2 ⟨Nat.le_of_ble_eq_true rfl, Nat.le_of_ble_eq_true rfl⟩ (fun r_2 t_1 H locs hw hP hD hS => ?_)
  obtain ⟨h_4, h_5⟩ := hw
  refine lv_if_eq (tgt := 24) C.1 C.2.1 dX2_areAddresses_5 (by decide) (fun c_6 => ?_) (fun c_6 => ?_)
  · replace c_6 : r_2.toInt = 0 := i_eq c_6
    refine lv_iconst (v := 0) C.1 C.2.1 dX2_areAddresses_24 (by decide) ?_
    exact g_iret C hr hlocks hP hD hS (by decide) () rfl ⟨by decide, by decide⟩ (Nat.le_of_ble_eq_true rfl) (Nat.le_of_ble_eq_true rfl) dX2_areAddresses_25
  · replace c_6 : ¬ r_2.toInt = 0 := i_ne c_6
    refine lv_aload_n C.1 C.2.1 dX2_areAddresses_8 rfl (lv_at hl 0 rfl) ?_
    refine lv_iload_n C.1 C.2.1 dX2_areAddresses_9 rfl (lv_at hl 1 rfl) ?_
    refine lv_iload_n C.1 C.2.1 dX2_areAddresses_10 rfl (lv_at hl 2 rfl) ?_
    obtain ⟨v_7, e_8⟩ : ∃ z, z = (x1 : Int32) + (x2 : Int32) := ⟨_, rfl⟩
    have h_10 := i_rng x1
    have h_9 : v_7.toInt = x1.toInt + x2.toInt := by rw [e_8]; exact ti_iadd (by show (_ : Int) ≤ x1.toInt + x2.toInt; omega) (by show x1.toInt + x2.toInt < (_ : Int); omega)
    refine k_iadd (v := v_7) C e_8.symm dX2_areAddresses_11 ?_
    refine lv_iconst (v := 1) C.1 C.2.1 dX2_areAddresses_12 (by decide) ?_
    obtain ⟨v_11, e_12⟩ : ∃ z, z = (v_7 : Int32) - (1 : Int32) := ⟨_, rfl⟩
    have h_13 : v_11.toInt = v_7.toInt - 1 := by rw [e_12]; exact ti_isub (by show (_ : Int) ≤ v_7.toInt - 1; omega) (by show v_7.toInt - 1 < (_ : Int); omega)
    refine k_isub (v := v_11) C e_12.symm dX2_areAddresses_13 ?_
    refine g_Vi (As := [.int v_11]) (rest := []) C hP hD hS hA (T_X2_isAddress l D K Z Y ad d t hok (v_11)) hE hZ (uwV m_45_20 m_45_21 m_45_22 m_1_23 m_45_23) (hdV 1 (by decide +kernel) rfl) ⟨Nat.le_of_ble_eq_true rfl, Nat.le_of_ble_eq_true rfl⟩ rfl rfl (ci := 1) (q0 := 4) rfl rfl rfl hl.1 (Nat.le_of_ble_eq_true rfl) dX2_areAddresses_14 ⟨Nat.le_of_ble_eq_true rfl, Nat.le_of_ble_eq_true rfl⟩ (fun r_15 t_14 H locs hw hP hD hS => ?_)
    obtain ⟨h_17, h_18⟩ := hw
    refine lv_if_eq (tgt := 24) C.1 C.2.1 dX2_areAddresses_17 (by decide) (fun c_19 => ?_) (fun c_19 => ?_)
    · replace c_19 : r_15.toInt = 0 := i_eq c_19
      refine lv_iconst (v := 0) C.1 C.2.1 dX2_areAddresses_24 (by decide) ?_
      exact g_iret C hr hlocks hP hD hS (by decide) () rfl ⟨by decide, by decide⟩ (Nat.le_of_ble_eq_true rfl) (Nat.le_of_ble_eq_true rfl) dX2_areAddresses_25
    · replace c_19 : ¬ r_15.toInt = 0 := i_ne c_19
      refine lv_iconst (v := 1) C.1 C.2.1 dX2_areAddresses_20 (by decide) ?_
      refine lv_goto (tgt := 25) C.1 C.2.1 dX2_areAddresses_21 (by decide) ?_
      exact g_iret C hr hlocks hP hD hS (by decide) () rfl ⟨by decide, by decide⟩ (Nat.le_of_ble_eq_true rfl) (Nat.le_of_ble_eq_true rfl) dX2_areAddresses_25

theorem dX2_isIndex_0 : decode cX2_isIndex 0 = .ok (.iload_n 0, 1) := by decide +kernel
theorem dX2_isIndex_1 : decode cX2_isIndex 1 = .ok (.iconst 1, 1) := by decide +kernel
theorem dX2_isIndex_11 : decode cX2_isIndex 11 = .ok (.iconst 1, 1) := by decide +kernel
theorem dX2_isIndex_12 : decode cX2_isIndex 12 = .ok (.goto 4, 3) := by decide +kernel
theorem dX2_isIndex_15 : decode cX2_isIndex 15 = .ok (.iconst 0, 1) := by decide +kernel
theorem dX2_isIndex_16 : decode cX2_isIndex 16 = .ok (.ireturn, 1) := by decide +kernel
theorem dX2_isIndex_2 : decode cX2_isIndex 2 = .ok (.if_icmp .lt 13, 3) := by decide +kernel
theorem dX2_isIndex_5 : decode cX2_isIndex 5 = .ok (.iload_n 0, 1) := by decide +kernel
theorem dX2_isIndex_6 : decode cX2_isIndex 6 = .ok (.bipush 6, 2) := by decide +kernel
theorem dX2_isIndex_8 : decode cX2_isIndex 8 = .ok (.if_icmp .gt 7, 3) := by decide +kernel
set_option maxHeartbeats 4000000 in
set_option maxRecDepth 100000 in
theorem T_X2_isIndex (l : Launch) (D : va_G) (K : Nat → ClassId) (Z Y : Nat → Nat) (ad : Nat → Nat) (d : dSt) (t : tSt) (hok : okX t) (x0 : Int32) (hx0 : (0 : Int) ≤ x0.toInt ∧ x0.toInt ≤ 7) : tMet l yX2_isIndex cX2_isIndex 1 (some .boolean) (rmD 0 0 0) D K Z Y [.int x0] ((WX d) K ad t) (QI D K (fun (r : Int32) (u : Unit) => (0 : Int) ≤ r.toInt ∧ r.toInt ≤ 1) (fun (_ : Unit) => (WX d) K ad t)) 0 0 := by
  refine t_met RX2 ⟨rfl, by decide +kernel⟩ (Nat.le_of_ble_eq_true rfl) ?_
  intro p e s m below meth c A ls C hE hZ hr hlocks hA hP hD hS hl
  have hl : lv_has ls 1 [(0, .int x0)] := hl
  refine lv_iload_n C.1 C.2.1 dX2_isIndex_0 rfl (lv_at hl 0 rfl) ?_
  refine lv_iconst (v := 1) C.1 C.2.1 dX2_isIndex_1 (by decide) ?_
  refine lv_icmp_lt (tgt := 15) C.1 C.2.1 dX2_isIndex_2 (by decide) (fun c_1 => ?_) (fun c_1 => ?_)
  · replace c_1 : x0.toInt < 1 := i_lt c_1
    refine lv_iconst (v := 0) C.1 C.2.1 dX2_isIndex_15 (by decide) ?_
    exact g_iret C hr hlocks hP hD hS (by decide) () rfl ⟨by decide, by decide⟩ (Nat.le_of_ble_eq_true rfl) (Nat.le_of_ble_eq_true rfl) dX2_isIndex_16
  · replace c_1 : 1 ≤ x0.toInt := i_nlt c_1
    refine lv_iload_n C.1 C.2.1 dX2_isIndex_5 rfl (lv_at hl 0 rfl) ?_
    refine lv_bipush (v := 6) C.1 C.2.1 dX2_isIndex_6 (by decide) ?_
    refine lv_icmp_gt (tgt := 15) C.1 C.2.1 dX2_isIndex_8 (by decide) (fun c_2 => ?_) (fun c_2 => ?_)
    · replace c_2 : 6 < x0.toInt := i_lt c_2
      refine lv_iconst (v := 0) C.1 C.2.1 dX2_isIndex_15 (by decide) ?_
      exact g_iret C hr hlocks hP hD hS (by decide) () rfl ⟨by decide, by decide⟩ (Nat.le_of_ble_eq_true rfl) (Nat.le_of_ble_eq_true rfl) dX2_isIndex_16
    · replace c_2 : x0.toInt ≤ 6 := i_nlt c_2
      refine lv_iconst (v := 1) C.1 C.2.1 dX2_isIndex_11 (by decide) ?_
      refine lv_goto (tgt := 16) C.1 C.2.1 dX2_isIndex_12 (by decide) ?_
      exact g_iret C hr hlocks hP hD hS (by decide) () rfl ⟨by decide, by decide⟩ (Nat.le_of_ble_eq_true rfl) (Nat.le_of_ble_eq_true rfl) dX2_isIndex_16

theorem dX1_isField_0 : decode cX1_isField 0 = .ok (.iload_n 0, 1) := by decide +kernel
theorem dX1_isField_1 : decode cX1_isField 1 = .ok (.ifCond .lt 25, 3) := by decide +kernel
theorem dX1_isField_10 : decode cX1_isField 10 = .ok (.iand, 1) := by decide +kernel
theorem dX1_isField_11 : decode cX1_isField 11 = .ok (.if_icmp .gt 15, 3) := by decide +kernel
theorem dX1_isField_14 : decode cX1_isField 14 = .ok (.iload_n 0, 1) := by decide +kernel
theorem dX1_isField_15 : decode cX1_isField 15 = .ok (.bipush 7, 2) := by decide +kernel
theorem dX1_isField_17 : decode cX1_isField 17 = .ok (.iand, 1) := by decide +kernel
theorem dX1_isField_18 : decode cX1_isField 18 = .ok (.iconst 5, 1) := by decide +kernel
theorem dX1_isField_19 : decode cX1_isField 19 = .ok (.if_icmp .gt 7, 3) := by decide +kernel
theorem dX1_isField_22 : decode cX1_isField 22 = .ok (.iconst 1, 1) := by decide +kernel
theorem dX1_isField_23 : decode cX1_isField 23 = .ok (.goto 4, 3) := by decide +kernel
theorem dX1_isField_26 : decode cX1_isField 26 = .ok (.iconst 0, 1) := by decide +kernel
theorem dX1_isField_27 : decode cX1_isField 27 = .ok (.ireturn, 1) := by decide +kernel
theorem dX1_isField_4 : decode cX1_isField 4 = .ok (.iload_n 0, 1) := by decide +kernel
theorem dX1_isField_5 : decode cX1_isField 5 = .ok (.iconst 3, 1) := by decide +kernel
theorem dX1_isField_6 : decode cX1_isField 6 = .ok (.ishr, 1) := by decide +kernel
theorem dX1_isField_7 : decode cX1_isField 7 = .ok (.iload_n 0, 1) := by decide +kernel
theorem dX1_isField_8 : decode cX1_isField 8 = .ok (.bipush 7, 2) := by decide +kernel
set_option maxHeartbeats 4000000 in
set_option maxRecDepth 100000 in
theorem T_X1_isField (l : Launch) (D : va_G) (K : Nat → ClassId) (Z Y : Nat → Nat) (ad : Nat → Nat) (d : dSt) (t : tSt) (hok : okX t) (x0 : Int32) (hx0 : (-1073741824 : Int) ≤ x0.toInt ∧ x0.toInt ≤ 1073741823) : tMet l yX1_isField cX1_isField 1 (some .boolean) (rmD 0 0 0) D K Z Y [.int x0] ((WX d) K ad t) (QI D K (fun (r : Int32) (u : Unit) => (0 : Int) ≤ r.toInt ∧ r.toInt ≤ 1) (fun (_ : Unit) => (WX d) K ad t)) 0 0 := by
  refine t_met RX1 ⟨rfl, by decide +kernel⟩ (Nat.le_of_ble_eq_true rfl) ?_
  intro p e s m below meth c A ls C hE hZ hr hlocks hA hP hD hS hl
  have hl : lv_has ls 1 [(0, .int x0)] := hl
  refine lv_iload_n C.1 C.2.1 dX1_isField_0 rfl (lv_at hl 0 rfl) ?_
  refine lv_if_lt (tgt := 26) C.1 C.2.1 dX1_isField_1 (by decide) (fun c_1 => ?_) (fun c_1 => ?_)
  · replace c_1 : x0.toInt < 0 := i_lt c_1
    refine lv_iconst (v := 0) C.1 C.2.1 dX1_isField_26 (by decide) ?_
    exact g_iret C hr hlocks hP hD hS (by decide) () rfl ⟨by decide, by decide⟩ (Nat.le_of_ble_eq_true rfl) (Nat.le_of_ble_eq_true rfl) dX1_isField_27
  · replace c_1 : 0 ≤ x0.toInt := i_nlt c_1
    refine lv_iload_n C.1 C.2.1 dX1_isField_4 rfl (lv_at hl 0 rfl) ?_
    refine lv_iconst (v := 3) C.1 C.2.1 dX1_isField_5 (by decide) ?_
    obtain ⟨v_2, e_3⟩ : ∃ z, z = (x0 : Int32) >>> ((3 : Int32) &&& 31) := ⟨_, rfl⟩
    have h_4 : v_2.toInt = x0.toInt / 2 ^ 3 := by rw [e_3]; exact Jvm.Kit.i32_shr _ _ (k := 3) (by decide)
    refine k_ishr (v := v_2) C e_3.symm dX1_isField_6 ?_
    refine lv_iload_n C.1 C.2.1 dX1_isField_7 rfl (lv_at hl 0 rfl) ?_
    refine lv_bipush (v := 7) C.1 C.2.1 dX1_isField_8 (by decide) ?_
    obtain ⟨v_5, e_6⟩ : ∃ z, z = (x0 : Int32) &&& (7 : Int32) := ⟨_, rfl⟩
    have h_7 : v_5.toInt = x0.toInt % 2 ^ 3 := by rw [e_6]; exact Jvm.Kit.i32_mask _ _ (k := 3) (by decide) (by decide)
    refine k_iand (v := v_5) C e_6.symm dX1_isField_10 ?_
    refine lv_icmp_gt (tgt := 26) C.1 C.2.1 dX1_isField_11 (by decide) (fun c_8 => ?_) (fun c_8 => ?_)
    · replace c_8 : v_5.toInt < v_2.toInt := i_lt c_8
      refine lv_iconst (v := 0) C.1 C.2.1 dX1_isField_26 (by decide) ?_
      exact g_iret C hr hlocks hP hD hS (by decide) () rfl ⟨by decide, by decide⟩ (Nat.le_of_ble_eq_true rfl) (Nat.le_of_ble_eq_true rfl) dX1_isField_27
    · replace c_8 : v_2.toInt ≤ v_5.toInt := i_nlt c_8
      refine lv_iload_n C.1 C.2.1 dX1_isField_14 rfl (lv_at hl 0 rfl) ?_
      refine lv_bipush (v := 7) C.1 C.2.1 dX1_isField_15 (by decide) ?_
      obtain ⟨v_9, e_10⟩ : ∃ z, z = (x0 : Int32) &&& (7 : Int32) := ⟨_, rfl⟩
      have h_11 : v_9.toInt = x0.toInt % 2 ^ 3 := by rw [e_10]; exact Jvm.Kit.i32_mask _ _ (k := 3) (by decide) (by decide)
      refine k_iand (v := v_9) C e_10.symm dX1_isField_17 ?_
      refine lv_iconst (v := 5) C.1 C.2.1 dX1_isField_18 (by decide) ?_
      refine lv_icmp_gt (tgt := 26) C.1 C.2.1 dX1_isField_19 (by decide) (fun c_12 => ?_) (fun c_12 => ?_)
      · replace c_12 : 5 < v_9.toInt := i_lt c_12
        refine lv_iconst (v := 0) C.1 C.2.1 dX1_isField_26 (by decide) ?_
        exact g_iret C hr hlocks hP hD hS (by decide) () rfl ⟨by decide, by decide⟩ (Nat.le_of_ble_eq_true rfl) (Nat.le_of_ble_eq_true rfl) dX1_isField_27
      · replace c_12 : v_9.toInt ≤ 5 := i_nlt c_12
        refine lv_iconst (v := 1) C.1 C.2.1 dX1_isField_22 (by decide) ?_
        refine lv_goto (tgt := 27) C.1 C.2.1 dX1_isField_23 (by decide) ?_
        exact g_iret C hr hlocks hP hD hS (by decide) () rfl ⟨by decide, by decide⟩ (Nat.le_of_ble_eq_true rfl) (Nat.le_of_ble_eq_true rfl) dX1_isField_27

theorem dX5_combine_0 : decode cX5_combine 0 = .ok (.lconst 0, 1) := by decide +kernel
theorem dX5_combine_1 : decode cX5_combine 1 = .ok (.lstore 6, 2) := by decide +kernel
theorem dX5_combine_10 : decode cX5_combine 10 = .ok (.lload 4, 2) := by decide +kernel
theorem dX5_combine_100 : decode cX5_combine 100 = .ok (.lstore 6, 2) := by decide +kernel
theorem dX5_combine_102 : decode cX5_combine 102 = .ok (.lload 6, 2) := by decide +kernel
theorem dX5_combine_104 : decode cX5_combine 104 = .ok (.invokestatic 120, 3) := by decide +kernel
theorem dX5_combine_107 : decode cX5_combine 107 = .ok (.ldc2_w 82, 3) := by decide +kernel
theorem dX5_combine_110 : decode cX5_combine 110 = .ok (.lcmp, 1) := by decide +kernel
theorem dX5_combine_111 : decode cX5_combine 111 = .ok (.ifCond .le 8, 3) := by decide +kernel
theorem dX5_combine_114 : decode cX5_combine 114 = .ok (.aload_n 0, 1) := by decide +kernel
theorem dX5_combine_115 : decode cX5_combine 115 = .ok (.iconst 5, 1) := by decide +kernel
theorem dX5_combine_116 : decode cX5_combine 116 = .ok (.invokevirtual 99, 3) := by decide +kernel
theorem dX5_combine_119 : decode cX5_combine 119 = .ok (.lload 6, 2) := by decide +kernel
theorem dX5_combine_12 : decode cX5_combine 12 = .ok (.ladd, 1) := by decide +kernel
theorem dX5_combine_121 : decode cX5_combine 121 = .ok (.invokestatic 77, 3) := by decide +kernel
theorem dX5_combine_124 : decode cX5_combine 124 = .ok (.ireturn, 1) := by decide +kernel
theorem dX5_combine_13 : decode cX5_combine 13 = .ok (.lstore 6, 2) := by decide +kernel
theorem dX5_combine_15 : decode cX5_combine 15 = .ok (.goto 87, 3) := by decide +kernel
theorem dX5_combine_18 : decode cX5_combine 18 = .ok (.iload_n 3, 1) := by decide +kernel
theorem dX5_combine_19 : decode cX5_combine 19 = .ok (.bipush 45, 2) := by decide +kernel
theorem dX5_combine_21 : decode cX5_combine 21 = .ok (.if_icmp .ne 12, 3) := by decide +kernel
theorem dX5_combine_24 : decode cX5_combine 24 = .ok (.lload_n 1, 1) := by decide +kernel
theorem dX5_combine_25 : decode cX5_combine 25 = .ok (.lload 4, 2) := by decide +kernel
theorem dX5_combine_27 : decode cX5_combine 27 = .ok (.lsub, 1) := by decide +kernel
theorem dX5_combine_28 : decode cX5_combine 28 = .ok (.lstore 6, 2) := by decide +kernel
theorem dX5_combine_3 : decode cX5_combine 3 = .ok (.iload_n 3, 1) := by decide +kernel
theorem dX5_combine_30 : decode cX5_combine 30 = .ok (.goto 72, 3) := by decide +kernel
theorem dX5_combine_33 : decode cX5_combine 33 = .ok (.iload_n 3, 1) := by decide +kernel
theorem dX5_combine_34 : decode cX5_combine 34 = .ok (.bipush 42, 2) := by decide +kernel
theorem dX5_combine_36 : decode cX5_combine 36 = .ok (.if_icmp .ne 12, 3) := by decide +kernel
theorem dX5_combine_39 : decode cX5_combine 39 = .ok (.lload_n 1, 1) := by decide +kernel
theorem dX5_combine_4 : decode cX5_combine 4 = .ok (.bipush 43, 2) := by decide +kernel
theorem dX5_combine_40 : decode cX5_combine 40 = .ok (.lload 4, 2) := by decide +kernel
theorem dX5_combine_42 : decode cX5_combine 42 = .ok (.lmul, 1) := by decide +kernel
theorem dX5_combine_43 : decode cX5_combine 43 = .ok (.lstore 6, 2) := by decide +kernel
theorem dX5_combine_45 : decode cX5_combine 45 = .ok (.goto 57, 3) := by decide +kernel
theorem dX5_combine_48 : decode cX5_combine 48 = .ok (.iload_n 3, 1) := by decide +kernel
theorem dX5_combine_49 : decode cX5_combine 49 = .ok (.bipush 58, 2) := by decide +kernel
theorem dX5_combine_51 : decode cX5_combine 51 = .ok (.if_icmp .ne 16, 3) := by decide +kernel
theorem dX5_combine_54 : decode cX5_combine 54 = .ok (.ldc2_w 116, 3) := by decide +kernel
theorem dX5_combine_57 : decode cX5_combine 57 = .ok (.lload_n 1, 1) := by decide +kernel
theorem dX5_combine_58 : decode cX5_combine 58 = .ok (.lmul, 1) := by decide +kernel
theorem dX5_combine_59 : decode cX5_combine 59 = .ok (.lload 4, 2) := by decide +kernel
theorem dX5_combine_6 : decode cX5_combine 6 = .ok (.if_icmp .ne 12, 3) := by decide +kernel
theorem dX5_combine_61 : decode cX5_combine 61 = .ok (.ladd, 1) := by decide +kernel
theorem dX5_combine_62 : decode cX5_combine 62 = .ok (.lstore 6, 2) := by decide +kernel
theorem dX5_combine_64 : decode cX5_combine 64 = .ok (.goto 38, 3) := by decide +kernel
theorem dX5_combine_67 : decode cX5_combine 67 = .ok (.lload 4, 2) := by decide +kernel
theorem dX5_combine_69 : decode cX5_combine 69 = .ok (.lconst 0, 1) := by decide +kernel
theorem dX5_combine_70 : decode cX5_combine 70 = .ok (.lcmp, 1) := by decide +kernel
theorem dX5_combine_71 : decode cX5_combine 71 = .ok (.ifCond .ne 11, 3) := by decide +kernel
theorem dX5_combine_74 : decode cX5_combine 74 = .ok (.aload_n 0, 1) := by decide +kernel
theorem dX5_combine_75 : decode cX5_combine 75 = .ok (.iconst 5, 1) := by decide +kernel
theorem dX5_combine_76 : decode cX5_combine 76 = .ok (.invokevirtual 99, 3) := by decide +kernel
theorem dX5_combine_79 : decode cX5_combine 79 = .ok (.goto 23, 3) := by decide +kernel
theorem dX5_combine_82 : decode cX5_combine 82 = .ok (.iload_n 3, 1) := by decide +kernel
theorem dX5_combine_83 : decode cX5_combine 83 = .ok (.bipush 50, 2) := by decide +kernel
theorem dX5_combine_85 : decode cX5_combine 85 = .ok (.if_icmp .ne 11, 3) := by decide +kernel
theorem dX5_combine_88 : decode cX5_combine 88 = .ok (.lload_n 1, 1) := by decide +kernel
theorem dX5_combine_89 : decode cX5_combine 89 = .ok (.ldc2_w 118, 3) := by decide +kernel
theorem dX5_combine_9 : decode cX5_combine 9 = .ok (.lload_n 1, 1) := by decide +kernel
theorem dX5_combine_92 : decode cX5_combine 92 = .ok (.lmul, 1) := by decide +kernel
theorem dX5_combine_93 : decode cX5_combine 93 = .ok (.goto 4, 3) := by decide +kernel
theorem dX5_combine_96 : decode cX5_combine 96 = .ok (.lload_n 1, 1) := by decide +kernel
theorem dX5_combine_97 : decode cX5_combine 97 = .ok (.lload 4, 2) := by decide +kernel
theorem dX5_combine_99 : decode cX5_combine 99 = .ok (.ldiv, 1) := by decide +kernel
set_option maxHeartbeats 4000000 in
set_option maxRecDepth 100000 in
theorem T_X5_combine (l : Launch) (D : va_G) (K : Nat → ClassId) (Z Y : Nat → Nat) (ad : Nat → Nat) (d : dSt) (t : tSt) (hok : okX t) (x1 : Int64) (hx1 : (-1073741824 : Int) ≤ x1.toInt ∧ x1.toInt ≤ 1073741823) (x2 : Int32) (hx2 : (-128 : Int) ≤ x2.toInt ∧ x2.toInt ≤ 127) (x3 : Int64) (hx3 : (-1073741824 : Int) ≤ x3.toInt ∧ x3.toInt ≤ 1073741823) : tMet l yX5_combine cX5_combine 8 (some .int) (rmD 2 0 0) D K Z Y [.ref (ad 24), .long x1, .int x2, .long x3] ((WX d) K ad t) (QI D K (fun (r : Int32) (u : tSt) => okX u ∧ frA [(24, 4)] [] [] [] t u ∧ (0 : Int) ≤ r.toInt ∧ r.toInt ≤ 2147483647) (fun (u : tSt) => (WX d) K ad u)) 0 0 := by
  refine t_met RX5 ⟨rfl, by decide +kernel⟩ (Nat.le_of_ble_eq_true rfl) ?_
  intro p e s m below meth c A ls C hE hZ hr hlocks hA hP hD hS hl
  have hl : lv_has ls 8 [(0, .ref (ad 24)), (1, .long x1), (3, .int x2), (4, .long x3)] := hl
  have hokt := hok
  have hfr : frA [(24, 4)] [] [] [] t t := frA_rf
  have L_102 : ∀ (t1 : tSt) (w102_6 : Int64) (H : Heap) (locs : List Loc) (ls : Array Slot), okX t1 → frA [(24, 4)] [] [] [] t t1 → va_P D vwCl ((WX d) K ad t1) H → va_D A ((WX d) K ad t1) → va_S A s.heap H locs → lv_has ls 8 [(0, .ref (ad 24)), (1, .long x1), (3, .int x2), (4, .long x3), (6, .long w102_6)] → W p l e (rmD 2 0 0) s m [.ref (ad 24), .long x1, .int x2, .long x3].toArray below meth c H locs 0 0 (MQ below (QI D K (fun (r : Int32) (u : tSt) => okX u ∧ frA [(24, 4)] [] [] [] t u ∧ (0 : Int) ≤ r.toInt ∧ r.toInt ≤ 2147483647) (fun (u : tSt) => (WX d) K ad u) A) [.ref (ad 24), .long x1, .int x2, .long x3].toArray s 0 0 A) (F0 m 102 ls []) := by
    intro t1 w102_6 H locs ls hok hfr hP hD hS hl
    refine lv_lload C.1 C.2.1 dX5_combine_102 (lv_at hl 4 rfl) ?_
    refine va_mabs_long C.1 C.2.1 (by rw [C.2.2.1, hl.1]) C.2.2.2.1 (C.2.2.2.2.1 _ m_23_18) (C.2.2.2.2.1 _ m_22_14) (C.2.2.2.2.1 _ m_12_15) (C.2.2.2.2.1 _ m_22_15) (Nat.le_of_ble_eq_true rfl) (Nat.le_of_ble_eq_true rfl) (Nat.le_of_ble_eq_true rfl) (Nat.le_of_ble_eq_true rfl) dX5_combine_104 ?_
    refine lv_ldc2 (v := 1073741823) C.1 C.2.1 C.2.2.2.1 (C.2.2.2.2.1 _ m_22_5) dX5_combine_107 ?_
    obtain ⟨v_2, e_3⟩ : ∃ z, z = lg_cmp ((if (0 : Int64) < w102_6 then w102_6 else -w102_6) : Int64) 1073741823 := ⟨_, rfl⟩
    have h_4 : (-1 : Int) ≤ v_2.toInt ∧ v_2.toInt ≤ 1 := by rw [e_3]; exact cmp_rng _ _
    have h_5 : (v_2.toInt < 0 ↔ (if (0 : Int64) < w102_6 then w102_6 else -w102_6).toInt < 1073741823) ∧ (v_2.toInt = 0 ↔ (if (0 : Int64) < w102_6 then w102_6 else -w102_6).toInt = 1073741823) := by rw [e_3]; exact cmp_iff _ _
    refine k_lcmp (v := v_2) C e_3.symm dX5_combine_110 ?_
    refine lv_if_le (tgt := 119) C.1 C.2.1 dX5_combine_111 (by decide) (fun c_6 => ?_) (fun c_6 => ?_)
    · replace c_6 : v_2.toInt ≤ 0 := i_le c_6
      refine lv_lload C.1 C.2.1 dX5_combine_119 (lv_at hl 4 rfl) ?_
      refine g_Si (As := [.long w102_6]) (rest := []) C hP hD hS hA (T_X1_wordOf l D K Z Y ad d t1 hok (w102_6)) hE hZ (uwS m_22_10 m_22_11 m_14_2 m_22_12) (hdS 1 (by decide +kernel) rfl) ⟨Nat.le_of_ble_eq_true rfl, Nat.le_of_ble_eq_true rfl⟩ rfl rfl rfl hl.1 (Nat.le_of_ble_eq_true rfl) dX5_combine_121 ⟨Nat.le_of_ble_eq_true rfl, Nat.le_of_ble_eq_true rfl⟩ (fun r_8 t_7 H locs hw hP hD hS => ?_)
      obtain ⟨h_10, h_11⟩ := hw
      exact g_iret C hr hlocks hP hD hS rfl t1 rfl ⟨hok, hfr, by omega, by omega⟩ (Nat.le_of_ble_eq_true rfl) (Nat.le_of_ble_eq_true rfl) dX5_combine_124
    · replace c_6 : 0 < v_2.toInt := i_nle c_6
      refine lv_aload_n C.1 C.2.1 dX5_combine_114 rfl (lv_at hl 0 rfl) ?_
      refine lv_iconst (v := 5) C.1 C.2.1 dX5_combine_115 (by decide) ?_
      refine g_Vv (As := [.int 5]) (rest := []) C hP hD hS hA (T_X5_fail l D K Z Y ad d t1 hok 5 (show (1 : Int) ≤ (5 : Int32).toInt ∧ (5 : Int32).toInt ≤ 6 from ⟨by decide, by decide⟩)) hE hZ (uwV m_23_0 m_23_1 m_23_2 m_5_22 m_23_3) (hdV 1 (by decide +kernel) rfl) ⟨Nat.le_of_ble_eq_true rfl, Nat.le_of_ble_eq_true rfl⟩ rfl rfl (ci := 4) (q0 := 24) rfl rfl rfl hl.1 (Nat.le_of_ble_eq_true rfl) dX5_combine_116 ⟨Nat.le_of_ble_eq_true rfl, Nat.le_of_ble_eq_true rfl⟩ (fun t_12 H locs hw hP hD hS => ?_)
      obtain ⟨hok, f_14⟩ := hw
      have hfr : frA [(24, 4)] [] [] [] t t_12 := frA_tr hfr f_14 rfl
      refine lv_lload C.1 C.2.1 dX5_combine_119 (lv_at hl 4 rfl) ?_
      refine g_Si (As := [.long w102_6]) (rest := []) C hP hD hS hA (T_X1_wordOf l D K Z Y ad d t_12 hok (w102_6)) hE hZ (uwS m_22_10 m_22_11 m_14_2 m_22_12) (hdS 1 (by decide +kernel) rfl) ⟨Nat.le_of_ble_eq_true rfl, Nat.le_of_ble_eq_true rfl⟩ rfl rfl rfl hl.1 (Nat.le_of_ble_eq_true rfl) dX5_combine_121 ⟨Nat.le_of_ble_eq_true rfl, Nat.le_of_ble_eq_true rfl⟩ (fun r_16 t_15 H locs hw hP hD hS => ?_)
      obtain ⟨h_18, h_19⟩ := hw
      exact g_iret C hr hlocks hP hD hS rfl t_12 rfl ⟨hok, hfr, by omega, by omega⟩ (Nat.le_of_ble_eq_true rfl) (Nat.le_of_ble_eq_true rfl) dX5_combine_124
  refine lv_lconst (v := 0) C.1 C.2.1 dX5_combine_0 (by decide) ?_
  refine lv_lstore (lv' := [(6, .long 0), (0, .ref (ad 24)), (1, .long x1), (3, .int x2), (4, .long x3)]) C.1 C.2.1 dX5_combine_1 hl (by decide) rfl (fun ls hl => ?_)
  have hl : lv_has ls 8 [(0, .ref (ad 24)), (1, .long x1), (3, .int x2), (4, .long x3), (6, .long 0)] := lv_sub hl [1, 2, 3, 4, 0] rfl
  refine lv_iload_n C.1 C.2.1 dX5_combine_3 rfl (lv_at hl 2 rfl) ?_
  refine lv_bipush (v := 43) C.1 C.2.1 dX5_combine_4 (by decide) ?_
  refine lv_icmp_ne (tgt := 18) C.1 C.2.1 dX5_combine_6 (by decide) (fun c_20 => ?_) (fun c_20 => ?_)
  · replace c_20 : ¬ x2.toInt = 43 := i_ne c_20
    refine lv_iload_n C.1 C.2.1 dX5_combine_18 rfl (lv_at hl 2 rfl) ?_
    refine lv_bipush (v := 45) C.1 C.2.1 dX5_combine_19 (by decide) ?_
    refine lv_icmp_ne (tgt := 33) C.1 C.2.1 dX5_combine_21 (by decide) (fun c_21 => ?_) (fun c_21 => ?_)
    · replace c_21 : ¬ x2.toInt = 45 := i_ne c_21
      refine lv_iload_n C.1 C.2.1 dX5_combine_33 rfl (lv_at hl 2 rfl) ?_
      refine lv_bipush (v := 42) C.1 C.2.1 dX5_combine_34 (by decide) ?_
      refine lv_icmp_ne (tgt := 48) C.1 C.2.1 dX5_combine_36 (by decide) (fun c_22 => ?_) (fun c_22 => ?_)
      · replace c_22 : ¬ x2.toInt = 42 := i_ne c_22
        refine lv_iload_n C.1 C.2.1 dX5_combine_48 rfl (lv_at hl 2 rfl) ?_
        refine lv_bipush (v := 58) C.1 C.2.1 dX5_combine_49 (by decide) ?_
        refine lv_icmp_ne (tgt := 67) C.1 C.2.1 dX5_combine_51 (by decide) (fun c_23 => ?_) (fun c_23 => ?_)
        · replace c_23 : ¬ x2.toInt = 58 := i_ne c_23
          refine lv_lload C.1 C.2.1 dX5_combine_67 (lv_at hl 3 rfl) ?_
          refine lv_lconst (v := 0) C.1 C.2.1 dX5_combine_69 (by decide) ?_
          obtain ⟨v_24, e_25⟩ : ∃ z, z = lg_cmp (x3 : Int64) 0 := ⟨_, rfl⟩
          have h_26 : (-1 : Int) ≤ v_24.toInt ∧ v_24.toInt ≤ 1 := by rw [e_25]; exact cmp_rng _ _
          have h_27 : (v_24.toInt < 0 ↔ x3.toInt < 0) ∧ (v_24.toInt = 0 ↔ x3.toInt = 0) := by rw [e_25]; exact cmp_iff _ _
          refine k_lcmp (v := v_24) C e_25.symm dX5_combine_70 ?_
          refine lv_if_ne (tgt := 82) C.1 C.2.1 dX5_combine_71 (by decide) (fun c_28 => ?_) (fun c_28 => ?_)
          · replace c_28 : ¬ v_24.toInt = 0 := i_ne c_28
            refine lv_iload_n C.1 C.2.1 dX5_combine_82 rfl (lv_at hl 2 rfl) ?_
            refine lv_bipush (v := 50) C.1 C.2.1 dX5_combine_83 (by decide) ?_
            refine lv_icmp_ne (tgt := 96) C.1 C.2.1 dX5_combine_85 (by decide) (fun c_29 => ?_) (fun c_29 => ?_)
            · replace c_29 : ¬ x2.toInt = 50 := i_ne c_29
              refine lv_lload_n C.1 C.2.1 dX5_combine_96 rfl (lv_at hl 1 rfl) ?_
              refine lv_lload C.1 C.2.1 dX5_combine_97 (lv_at hl 3 rfl) ?_
              obtain ⟨v_30, e_31⟩ : ∃ z, z = (x1 : Int64) / (x3 : Int64) := ⟨_, rfl⟩
              refine k_ldiv (v := v_30) C (show ¬ (x3 : Int64) = 0 from fun hz => by have hz2 : (x3 : Int64).toInt = 0 := (by rw [hz]; rfl); omega) e_31.symm dX5_combine_99 ?_
              refine lv_lstore (lv' := [(6, .long v_30), (0, .ref (ad 24)), (1, .long x1), (3, .int x2), (4, .long x3)]) C.1 C.2.1 dX5_combine_100 hl (by decide) rfl (fun ls hl => ?_)
              have hl : lv_has ls 8 [(0, .ref (ad 24)), (1, .long x1), (3, .int x2), (4, .long x3), (6, .long v_30)] := lv_sub hl [1, 2, 3, 4, 0] rfl
              exact L_102 t v_30 _ _ _ hok hfr hP hD hS (lv_sub hl [0, 1, 2, 3, 4] rfl)
            · replace c_29 : x2.toInt = 50 := i_eq c_29
              refine lv_lload_n C.1 C.2.1 dX5_combine_88 rfl (lv_at hl 1 rfl) ?_
              refine lv_ldc2 (v := 1073741824) C.1 C.2.1 C.2.2.2.1 (C.2.2.2.2.1 _ m_23_17) dX5_combine_89 ?_
              obtain ⟨v_32, e_33⟩ : ∃ z, z = (x1 : Int64) * (1073741824 : Int64) := ⟨_, rfl⟩
              have h_34 : v_32.toInt = x1.toInt * 1073741824 := by rw [e_33]; exact tl_mulr (k := 1073741824) (by decide) (by omega) (by omega)
              refine k_lmul (v := v_32) C e_33.symm dX5_combine_92 ?_
              refine lv_goto (tgt := 97) C.1 C.2.1 dX5_combine_93 (by decide) ?_
              refine lv_lload C.1 C.2.1 dX5_combine_97 (lv_at hl 3 rfl) ?_
              obtain ⟨v_35, e_36⟩ : ∃ z, z = (v_32 : Int64) / (x3 : Int64) := ⟨_, rfl⟩
              refine k_ldiv (v := v_35) C (show ¬ (x3 : Int64) = 0 from fun hz => by have hz2 : (x3 : Int64).toInt = 0 := (by rw [hz]; rfl); omega) e_36.symm dX5_combine_99 ?_
              refine lv_lstore (lv' := [(6, .long v_35), (0, .ref (ad 24)), (1, .long x1), (3, .int x2), (4, .long x3)]) C.1 C.2.1 dX5_combine_100 hl (by decide) rfl (fun ls hl => ?_)
              have hl : lv_has ls 8 [(0, .ref (ad 24)), (1, .long x1), (3, .int x2), (4, .long x3), (6, .long v_35)] := lv_sub hl [1, 2, 3, 4, 0] rfl
              exact L_102 t v_35 _ _ _ hok hfr hP hD hS (lv_sub hl [0, 1, 2, 3, 4] rfl)
          · replace c_28 : v_24.toInt = 0 := i_eq c_28
            refine lv_aload_n C.1 C.2.1 dX5_combine_74 rfl (lv_at hl 0 rfl) ?_
            refine lv_iconst (v := 5) C.1 C.2.1 dX5_combine_75 (by decide) ?_
            refine g_Vv (As := [.int 5]) (rest := []) C hP hD hS hA (T_X5_fail l D K Z Y ad d t hok 5 (show (1 : Int) ≤ (5 : Int32).toInt ∧ (5 : Int32).toInt ≤ 6 from ⟨by decide, by decide⟩)) hE hZ (uwV m_23_0 m_23_1 m_23_2 m_5_22 m_23_3) (hdV 1 (by decide +kernel) rfl) ⟨Nat.le_of_ble_eq_true rfl, Nat.le_of_ble_eq_true rfl⟩ rfl rfl (ci := 4) (q0 := 24) rfl rfl rfl hl.1 (Nat.le_of_ble_eq_true rfl) dX5_combine_76 ⟨Nat.le_of_ble_eq_true rfl, Nat.le_of_ble_eq_true rfl⟩ (fun t_37 H locs hw hP hD hS => ?_)
            obtain ⟨hok, f_39⟩ := hw
            have hfr : frA [(24, 4)] [] [] [] t t_37 := frA_tr hfr f_39 rfl
            refine lv_goto (tgt := 102) C.1 C.2.1 dX5_combine_79 (by decide) ?_
            exact L_102 t_37 0 _ _ _ hok hfr hP hD hS (lv_sub hl [0, 1, 2, 3, 4] rfl)
        · replace c_23 : x2.toInt = 58 := i_eq c_23
          refine lv_ldc2 (v := 8) C.1 C.2.1 C.2.2.2.1 (C.2.2.2.2.1 _ m_23_16) dX5_combine_54 ?_
          refine lv_lload_n C.1 C.2.1 dX5_combine_57 rfl (lv_at hl 1 rfl) ?_
          obtain ⟨v_40, e_41⟩ : ∃ z, z = (8 : Int64) * (x1 : Int64) := ⟨_, rfl⟩
          have h_42 : v_40.toInt = 8 * x1.toInt := by rw [e_41]; exact tl_mull (k := 8) (by decide) (by omega) (by omega)
          refine k_lmul (v := v_40) C e_41.symm dX5_combine_58 ?_
          refine lv_lload C.1 C.2.1 dX5_combine_59 (lv_at hl 3 rfl) ?_
          obtain ⟨v_43, e_44⟩ : ∃ z, z = (v_40 : Int64) + (x3 : Int64) := ⟨_, rfl⟩
          have h_45 : v_43.toInt = v_40.toInt + x3.toInt := by rw [e_44]; exact Jvm.Kit.i64_add (by show (_ : Int) ≤ v_40.toInt + x3.toInt; omega) (by show v_40.toInt + x3.toInt < (_ : Int); omega)
          refine k_ladd (v := v_43) C e_44.symm dX5_combine_61 ?_
          refine lv_lstore (lv' := [(6, .long v_43), (0, .ref (ad 24)), (1, .long x1), (3, .int x2), (4, .long x3)]) C.1 C.2.1 dX5_combine_62 hl (by decide) rfl (fun ls hl => ?_)
          have hl : lv_has ls 8 [(0, .ref (ad 24)), (1, .long x1), (3, .int x2), (4, .long x3), (6, .long v_43)] := lv_sub hl [1, 2, 3, 4, 0] rfl
          refine lv_goto (tgt := 102) C.1 C.2.1 dX5_combine_64 (by decide) ?_
          exact L_102 t v_43 _ _ _ hok hfr hP hD hS (lv_sub hl [0, 1, 2, 3, 4] rfl)
      · replace c_22 : x2.toInt = 42 := i_eq c_22
        refine lv_lload_n C.1 C.2.1 dX5_combine_39 rfl (lv_at hl 1 rfl) ?_
        refine lv_lload C.1 C.2.1 dX5_combine_40 (lv_at hl 3 rfl) ?_
        obtain ⟨v_46, e_47⟩ : ∃ z, z = (x1 : Int64) * (x3 : Int64) := ⟨_, rfl⟩
        refine k_lmul (v := v_46) C e_47.symm dX5_combine_42 ?_
        refine lv_lstore (lv' := [(6, .long v_46), (0, .ref (ad 24)), (1, .long x1), (3, .int x2), (4, .long x3)]) C.1 C.2.1 dX5_combine_43 hl (by decide) rfl (fun ls hl => ?_)
        have hl : lv_has ls 8 [(0, .ref (ad 24)), (1, .long x1), (3, .int x2), (4, .long x3), (6, .long v_46)] := lv_sub hl [1, 2, 3, 4, 0] rfl
        refine lv_goto (tgt := 102) C.1 C.2.1 dX5_combine_45 (by decide) ?_
        exact L_102 t v_46 _ _ _ hok hfr hP hD hS (lv_sub hl [0, 1, 2, 3, 4] rfl)
    · replace c_21 : x2.toInt = 45 := i_eq c_21
      refine lv_lload_n C.1 C.2.1 dX5_combine_24 rfl (lv_at hl 1 rfl) ?_
      refine lv_lload C.1 C.2.1 dX5_combine_25 (lv_at hl 3 rfl) ?_
      obtain ⟨v_48, e_49⟩ : ∃ z, z = (x1 : Int64) - (x3 : Int64) := ⟨_, rfl⟩
      have h_50 : v_48.toInt = x1.toInt - x3.toInt := by rw [e_49]; exact Jvm.Kit.i64_sub (by show (_ : Int) ≤ x1.toInt - x3.toInt; omega) (by show x1.toInt - x3.toInt < (_ : Int); omega)
      refine k_lsub (v := v_48) C e_49.symm dX5_combine_27 ?_
      refine lv_lstore (lv' := [(6, .long v_48), (0, .ref (ad 24)), (1, .long x1), (3, .int x2), (4, .long x3)]) C.1 C.2.1 dX5_combine_28 hl (by decide) rfl (fun ls hl => ?_)
      have hl : lv_has ls 8 [(0, .ref (ad 24)), (1, .long x1), (3, .int x2), (4, .long x3), (6, .long v_48)] := lv_sub hl [1, 2, 3, 4, 0] rfl
      refine lv_goto (tgt := 102) C.1 C.2.1 dX5_combine_30 (by decide) ?_
      exact L_102 t v_48 _ _ _ hok hfr hP hD hS (lv_sub hl [0, 1, 2, 3, 4] rfl)
  · replace c_20 : x2.toInt = 43 := i_eq c_20
    refine lv_lload_n C.1 C.2.1 dX5_combine_9 rfl (lv_at hl 1 rfl) ?_
    refine lv_lload C.1 C.2.1 dX5_combine_10 (lv_at hl 3 rfl) ?_
    obtain ⟨v_51, e_52⟩ : ∃ z, z = (x1 : Int64) + (x3 : Int64) := ⟨_, rfl⟩
    have h_53 : v_51.toInt = x1.toInt + x3.toInt := by rw [e_52]; exact Jvm.Kit.i64_add (by show (_ : Int) ≤ x1.toInt + x3.toInt; omega) (by show x1.toInt + x3.toInt < (_ : Int); omega)
    refine k_ladd (v := v_51) C e_52.symm dX5_combine_12 ?_
    refine lv_lstore (lv' := [(6, .long v_51), (0, .ref (ad 24)), (1, .long x1), (3, .int x2), (4, .long x3)]) C.1 C.2.1 dX5_combine_13 hl (by decide) rfl (fun ls hl => ?_)
    have hl : lv_has ls 8 [(0, .ref (ad 24)), (1, .long x1), (3, .int x2), (4, .long x3), (6, .long v_51)] := lv_sub hl [1, 2, 3, 4, 0] rfl
    refine lv_goto (tgt := 102) C.1 C.2.1 dX5_combine_15 (by decide) ?_
    exact L_102 t v_51 _ _ _ hok hfr hP hD hS (lv_sub hl [0, 1, 2, 3, 4] rfl)

theorem dX10_rewind_0 : decode cX10_rewind 0 = .ok (.aload_n 0, 1) := by decide +kernel
theorem dX10_rewind_1 : decode cX10_rewind 1 = .ok (.getfield 17, 3) := by decide +kernel
theorem dX10_rewind_4 : decode cX10_rewind 4 = .ok (.iconst 0, 1) := by decide +kernel
theorem dX10_rewind_5 : decode cX10_rewind 5 = .ok (.invokestatic 70, 3) := by decide +kernel
theorem dX10_rewind_8 : decode cX10_rewind 8 = .ok (.return_, 1) := by decide +kernel
set_option maxHeartbeats 4000000 in
set_option maxRecDepth 100000 in
theorem T_X10_rewind (l : Launch) (D : va_G) (K : Nat → ClassId) (Z Y : Nat → Nat) (ad : Nat → Nat) (d : dSt) (t : tSt) (hok : okX t)  : tMet l yX10_rewind cX10_rewind 1 none (rmD 1 0 0) D K Z Y [.ref (ad 3)] ((WX d) K ad t) (QV D K (fun (u : tSt) => okX u ∧ frA [] [] [12] [] t u) (fun (u : tSt) => (WX d) K ad u)) 0 0 := by
  refine t_met RX10 ⟨rfl, by decide +kernel⟩ (Nat.le_of_ble_eq_true rfl) ?_
  intro p e s m below meth c A ls C hE hZ hr hlocks hA hP hD hS hl
  have hl : lv_has ls 1 [(0, .ref (ad 3))] := hl
  have hokt := hok
  have hfr : frA [] [] [12] [] t t := frA_rf
  refine lv_aload_n C.1 C.2.1 dX10_rewind_0 rfl (lv_at hl 0 rfl) ?_
  refine k_get (v := .ref (ad 12)) C hP 3 rfl rfl inlX10 2 (by decide) m_3_7 rfl dX10_rewind_1 ?_
  refine lv_iconst (v := 0) C.1 C.2.1 dX10_rewind_4 (by decide) ?_
  refine g_Sv (W' := fun (_ : Unit) => (WX d) K ad (fB t 12 0)) (As := [.ref (ad 12), .int 0]) (rest := []) C hP hD hS hA (TJ_fillI l D K Z Y ((WX d) K ad t) 12 (ad 12) 8 (by decide) _ 0 0 rfl rfl) hE hZ (uwS m_74_21 m_11_11 m_11_12 m_11_13) (hdS 2 (by decide +kernel) rfl) ⟨Nat.le_of_ble_eq_true rfl, Nat.le_of_ble_eq_true rfl⟩ rfl rfl rfl hl.1 (Nat.le_of_ble_eq_true rfl) dX10_rewind_5 ⟨Nat.le_of_ble_eq_true rfl, Nat.le_of_ble_eq_true rfl⟩ (fun u_ H locs hw hP hD hS => ?_)
  have hok : okX (fB t 12 0) := ⟨hok.1, okB_f hok.2.1 12 0 (show (-2147483648 : Int) ≤ (0 : Int32).toInt ∧ (0 : Int32).toInt ≤ 2147483647 from (i_rng _)), trivial⟩
  have hfr : frA [] [] [12] [] t (fB t 12 0) := frA_fB hfr 12 _ rfl
  exact g_vret C hr hlocks hP hD hS (fB t 12 0) rfl ⟨hok, hfr⟩ (Nat.le_of_ble_eq_true rfl) (Nat.le_of_ble_eq_true rfl) dX10_rewind_8

theorem dX8_enter_0 : decode cX8_enter 0 = .ok (.aload_n 0, 1) := by decide +kernel
theorem dX8_enter_1 : decode cX8_enter 1 = .ok (.lload_n 1, 1) := by decide +kernel
theorem dX8_enter_10 : decode cX8_enter 10 = .ok (.aload_n 0, 1) := by decide +kernel
theorem dX8_enter_11 : decode cX8_enter 11 = .ok (.getfield 44, 3) := by decide +kernel
theorem dX8_enter_14 : decode cX8_enter 14 = .ok (.sipush 1024, 3) := by decide +kernel
theorem dX8_enter_17 : decode cX8_enter 17 = .ok (.if_icmp .lt 5, 3) := by decide +kernel
theorem dX8_enter_2 : decode cX8_enter 2 = .ok (.invokevirtual 54, 3) := by decide +kernel
theorem dX8_enter_20 : decode cX8_enter 20 = .ok (.iload_n 3, 1) := by decide +kernel
theorem dX8_enter_21 : decode cX8_enter 21 = .ok (.ireturn, 1) := by decide +kernel
theorem dX8_enter_22 : decode cX8_enter 22 = .ok (.aload_n 0, 1) := by decide +kernel
theorem dX8_enter_23 : decode cX8_enter 23 = .ok (.getfield 11, 3) := by decide +kernel
theorem dX8_enter_26 : decode cX8_enter 26 = .ok (.aload_n 0, 1) := by decide +kernel
theorem dX8_enter_27 : decode cX8_enter 27 = .ok (.getfield 44, 3) := by decide +kernel
theorem dX8_enter_30 : decode cX8_enter 30 = .ok (.lload_n 1, 1) := by decide +kernel
theorem dX8_enter_31 : decode cX8_enter 31 = .ok (.lastore, 1) := by decide +kernel
theorem dX8_enter_32 : decode cX8_enter 32 = .ok (.aload_n 0, 1) := by decide +kernel
theorem dX8_enter_33 : decode cX8_enter 33 = .ok (.getfield 19, 3) := by decide +kernel
theorem dX8_enter_36 : decode cX8_enter 36 = .ok (.aload_n 0, 1) := by decide +kernel
theorem dX8_enter_37 : decode cX8_enter 37 = .ok (.getfield 44, 3) := by decide +kernel
theorem dX8_enter_40 : decode cX8_enter 40 = .ok (.iconst 0, 1) := by decide +kernel
theorem dX8_enter_41 : decode cX8_enter 41 = .ok (.iastore, 1) := by decide +kernel
theorem dX8_enter_42 : decode cX8_enter 42 = .ok (.aload_n 0, 1) := by decide +kernel
theorem dX8_enter_43 : decode cX8_enter 43 = .ok (.dup, 1) := by decide +kernel
theorem dX8_enter_44 : decode cX8_enter 44 = .ok (.getfield 44, 3) := by decide +kernel
theorem dX8_enter_47 : decode cX8_enter 47 = .ok (.iconst 1, 1) := by decide +kernel
theorem dX8_enter_48 : decode cX8_enter 48 = .ok (.iadd, 1) := by decide +kernel
theorem dX8_enter_49 : decode cX8_enter 49 = .ok (.putfield 44, 3) := by decide +kernel
theorem dX8_enter_5 : decode cX8_enter 5 = .ok (.istore_n 3, 1) := by decide +kernel
theorem dX8_enter_52 : decode cX8_enter 52 = .ok (.aload_n 0, 1) := by decide +kernel
theorem dX8_enter_53 : decode cX8_enter 53 = .ok (.getfield 44, 3) := by decide +kernel
theorem dX8_enter_56 : decode cX8_enter 56 = .ok (.iconst 1, 1) := by decide +kernel
theorem dX8_enter_57 : decode cX8_enter 57 = .ok (.isub, 1) := by decide +kernel
theorem dX8_enter_58 : decode cX8_enter 58 = .ok (.ireturn, 1) := by decide +kernel
theorem dX8_enter_6 : decode cX8_enter 6 = .ok (.iload_n 3, 1) := by decide +kernel
theorem dX8_enter_7 : decode cX8_enter 7 = .ok (.ifCond .ge 13, 3) := by decide +kernel
set_option maxHeartbeats 4000000 in
set_option maxRecDepth 100000 in
theorem T_X8_enter (l : Launch) (D : va_G) (K : Nat → ClassId) (Z Y : Nat → Nat) (ad : Nat → Nat) (d : dSt) (t : tSt) (hok : okX t) (x1 : Int64) : tMet l yX8_enter cX8_enter 4 (some .int) (rmD 1 0 0) D K Z Y [.ref (ad 23), .long x1] ((WX d) K ad t) (QI D K (fun (r : Int32) (u : tSt) => okX u ∧ frA [(23, 3)] [] [43] [41] t u ∧ (-1 : Int) ≤ r.toInt ∧ r.toInt ≤ 2147483647) (fun (u : tSt) => (WX d) K ad u)) 0 0 := by
  refine t_met RX8 ⟨rfl, by decide +kernel⟩ (Nat.le_of_ble_eq_true rfl) ?_
  intro p e s m below meth c A ls C hE hZ hr hlocks hA hP hD hS hl
  have hl : lv_has ls 4 [(0, .ref (ad 23)), (1, .long x1)] := hl
  have hokt := hok
  have hfr : frA [(23, 3)] [] [43] [41] t t := frA_rf
  refine lv_aload_n C.1 C.2.1 dX8_enter_0 rfl (lv_at hl 0 rfl) ?_
  refine lv_lload_n C.1 C.2.1 dX8_enter_1 rfl (lv_at hl 1 rfl) ?_
  refine g_Vi (As := [.long x1]) (rest := []) C hP hD hS hA (T_X8_find l D K Z Y ad d t hok (x1)) hE hZ (uwV m_25_19 m_20_12 m_20_13 m_2_5 m_20_14) (hdV 1 (by decide +kernel) rfl) ⟨Nat.le_of_ble_eq_true rfl, Nat.le_of_ble_eq_true rfl⟩ rfl rfl (ci := 7) (q0 := 23) rfl rfl rfl hl.1 (Nat.le_of_ble_eq_true rfl) dX8_enter_2 ⟨Nat.le_of_ble_eq_true rfl, Nat.le_of_ble_eq_true rfl⟩ (fun r_2 t_1 H locs hw hP hD hS => ?_)
  obtain ⟨h_4, h_5⟩ := hw
  refine lv_istore_n (lv' := [(3, .int r_2), (0, .ref (ad 23)), (1, .long x1)]) C.1 C.2.1 dX8_enter_5 rfl hl (by decide) rfl (fun ls hl => ?_)
  have hl : lv_has ls 4 [(0, .ref (ad 23)), (1, .long x1), (3, .int r_2)] := lv_sub hl [1, 2, 0] rfl
  refine lv_iload_n C.1 C.2.1 dX8_enter_6 rfl (lv_at hl 2 rfl) ?_
  refine lv_if_ge (tgt := 20) C.1 C.2.1 dX8_enter_7 (by decide) (fun c_6 => ?_) (fun c_6 => ?_)
  · replace c_6 : 0 ≤ r_2.toInt := i_le c_6
    refine lv_iload_n C.1 C.2.1 dX8_enter_20 rfl (lv_at hl 2 rfl) ?_
    exact g_iret C hr hlocks hP hD hS rfl t rfl ⟨hok, hfr, by omega, by omega⟩ (Nat.le_of_ble_eq_true rfl) (Nat.le_of_ble_eq_true rfl) dX8_enter_21
  · replace c_6 : r_2.toInt < 0 := i_nle c_6
    refine lv_aload_n C.1 C.2.1 dX8_enter_10 rfl (lv_at hl 0 rfl) ?_
    have h_7 : (0 : Int) ≤ (t.1 23 3).toInt ∧ (t.1 23 3).toInt ≤ 1024 := hok.1 23 3
    refine k_get (v := .int (t.1 23 3)) C hP 23 rfl rfl inlX8 3 (by decide) m_13_8 rfl dX8_enter_11 ?_
    refine lv_sipush (v := 1024) C.1 C.2.1 dX8_enter_14 (by decide) ?_
    refine lv_icmp_lt (tgt := 22) C.1 C.2.1 dX8_enter_17 (by decide) (fun c_8 => ?_) (fun c_8 => ?_)
    · replace c_8 : (t.1 23 3).toInt < 1024 := i_lt c_8
      refine lv_aload_n C.1 C.2.1 dX8_enter_22 rfl (lv_at hl 0 rfl) ?_
      refine k_get (v := .ref (ad 41)) C hP 23 rfl rfl inlX8 0 (by decide) m_4_23 rfl dX8_enter_23 ?_
      refine lv_aload_n C.1 C.2.1 dX8_enter_26 rfl (lv_at hl 0 rfl) ?_
      refine k_get (v := .int (t.1 23 3)) C hP 23 rfl rfl inlX8 3 (by decide) m_13_8 rfl dX8_enter_27 ?_
      refine lv_lload_n C.1 C.2.1 dX8_enter_30 rfl (lv_at hl 1 rfl) ?_
      refine k_lst (ws' := (WX d) K ad (uG t 41 ((t.1 23 3) : Int32).toNatClampNeg x1)) (x' := x1) C hP hD hS 41 rfl (vp_in_iff.mpr ⟨by omega, by omega⟩) rfl rfl rfl dX8_enter_31 (fun H locs hP hD hS => ?_)
      have hok : okX (uG t 41 ((t.1 23 3) : Int32).toNatClampNeg x1) := ⟨hok.1, hok.2.1, trivial⟩
      have hfr : frA [(23, 3)] [] [43] [41] t (uG t 41 ((t.1 23 3) : Int32).toNatClampNeg x1) := frA_G hfr 41 _ _ rfl
      refine lv_aload_n C.1 C.2.1 dX8_enter_32 rfl (lv_at hl 0 rfl) ?_
      refine k_get (v := .ref (ad 43)) C hP 23 rfl rfl inlX8 2 (by decide) m_5_1 rfl dX8_enter_33 ?_
      refine lv_aload_n C.1 C.2.1 dX8_enter_36 rfl (lv_at hl 0 rfl) ?_
      refine k_get (v := .int (t.1 23 3)) C hP 23 rfl rfl inlX8 3 (by decide) m_13_8 rfl dX8_enter_37 ?_
      refine lv_iconst (v := 0) C.1 C.2.1 dX8_enter_40 (by decide) ?_
      refine k_ist (ws' := (WX d) K ad (uB (uG t 41 ((t.1 23 3) : Int32).toNatClampNeg x1) 43 ((t.1 23 3) : Int32).toNatClampNeg 0)) (x' := 0) C hP hD hS 43 rfl (vp_in_iff.mpr ⟨by omega, by omega⟩) rfl rfl rfl dX8_enter_41 (fun H locs hP hD hS => ?_)
      have hok : okX (uB (uG t 41 ((t.1 23 3) : Int32).toNatClampNeg x1) 43 ((t.1 23 3) : Int32).toNatClampNeg 0) := ⟨hok.1, okB_B hok.2.1 43 _ 0 (show (0 : Int) ≤ (0 : Int32).toInt ∧ (0 : Int32).toInt ≤ 2 from ⟨by decide, by decide⟩), trivial⟩
      have hfr : frA [(23, 3)] [] [43] [41] t (uB (uG t 41 ((t.1 23 3) : Int32).toNatClampNeg x1) 43 ((t.1 23 3) : Int32).toNatClampNeg 0) := frA_B hfr 43 _ _ rfl
      refine lv_aload_n C.1 C.2.1 dX8_enter_42 rfl (lv_at hl 0 rfl) ?_
      refine lv_dup C.1 C.2.1 dX8_enter_43 rfl ?_
      refine k_get (v := .int (t.1 23 3)) C hP 23 rfl rfl inlX8 3 (by decide) m_13_8 rfl dX8_enter_44 ?_
      refine lv_iconst (v := 1) C.1 C.2.1 dX8_enter_47 (by decide) ?_
      obtain ⟨v_9, e_10⟩ : ∃ z, z = ((t.1 23 3) : Int32) + (1 : Int32) := ⟨_, rfl⟩
      have h_11 : v_9.toInt = (t.1 23 3).toInt + 1 := by rw [e_10]; exact ti_iadd (by show (_ : Int) ≤ (t.1 23 3).toInt + 1; omega) (by show (t.1 23 3).toInt + 1 < (_ : Int); omega)
      refine k_iadd (v := v_9) C e_10.symm dX8_enter_48 ?_
      refine k_put (ws' := (WX d) K ad (uI (uB (uG t 41 ((t.1 23 3) : Int32).toNatClampNeg x1) 43 ((t.1 23 3) : Int32).toNatClampNeg 0) 23 3 v_9)) (v := .int v_9) C hP hD hS 23 rfl rfl inlX8 tyX8_ok nmX8 3 (by decide) m_13_8 rfl rfl rfl rfl rfl dX8_enter_49 (fun H locs hP hD hS => ?_)
      have hok : okX (uI (uB (uG t 41 ((t.1 23 3) : Int32).toNatClampNeg x1) 43 ((t.1 23 3) : Int32).toNatClampNeg 0) 23 3 v_9) := ⟨okI_I hok.1 23 3 v_9 (show (0 : Int) ≤ (v_9 : Int32).toInt ∧ (v_9 : Int32).toInt ≤ 1024 from ⟨by omega, by omega⟩), hok.2.1, trivial⟩
      have hfr : frA [(23, 3)] [] [43] [41] t (uI (uB (uG t 41 ((t.1 23 3) : Int32).toNatClampNeg x1) 43 ((t.1 23 3) : Int32).toNatClampNeg 0) 23 3 v_9) := frA_I hfr 23 3 _ rfl
      refine lv_aload_n C.1 C.2.1 dX8_enter_52 rfl (lv_at hl 0 rfl) ?_
      refine k_get (v := .int v_9) C hP 23 rfl rfl inlX8 3 (by decide) m_13_8 rfl dX8_enter_53 ?_
      refine lv_iconst (v := 1) C.1 C.2.1 dX8_enter_56 (by decide) ?_
      obtain ⟨v_12, e_13⟩ : ∃ z, z = (v_9 : Int32) - (1 : Int32) := ⟨_, rfl⟩
      have h_14 : v_12.toInt = v_9.toInt - 1 := by rw [e_13]; exact ti_isub (by show (_ : Int) ≤ v_9.toInt - 1; omega) (by show v_9.toInt - 1 < (_ : Int); omega)
      refine k_isub (v := v_12) C e_13.symm dX8_enter_57 ?_
      exact g_iret C hr hlocks hP hD hS rfl (uI (uB (uG t 41 ((t.1 23 3) : Int32).toNatClampNeg x1) 43 ((t.1 23 3) : Int32).toNatClampNeg 0) 23 3 v_9) rfl ⟨hok, hfr, by omega, by omega⟩ (Nat.le_of_ble_eq_true rfl) (Nat.le_of_ble_eq_true rfl) dX8_enter_58
    · replace c_8 : 1024 ≤ (t.1 23 3).toInt := i_nlt c_8
      refine lv_iload_n C.1 C.2.1 dX8_enter_20 rfl (lv_at hl 2 rfl) ?_
      exact g_iret C hr hlocks hP hD hS rfl t rfl ⟨hok, hfr, by omega, by omega⟩ (Nat.le_of_ble_eq_true rfl) (Nat.le_of_ble_eq_true rfl) dX8_enter_21

theorem dX8_enterLocal_0 : decode cX8_enterLocal 0 = .ok (.iload_n 1, 1) := by decide +kernel
theorem dX8_enterLocal_1 : decode cX8_enterLocal 1 = .ok (.ifCond .lt 9, 3) := by decide +kernel
theorem dX8_enterLocal_10 : decode cX8_enterLocal 10 = .ok (.return_, 1) := by decide +kernel
theorem dX8_enterLocal_11 : decode cX8_enterLocal 11 = .ok (.aload_n 0, 1) := by decide +kernel
theorem dX8_enterLocal_12 : decode cX8_enterLocal 12 = .ok (.getfield 28, 3) := by decide +kernel
theorem dX8_enterLocal_15 : decode cX8_enterLocal 15 = .ok (.iload_n 1, 1) := by decide +kernel
theorem dX8_enterLocal_16 : decode cX8_enterLocal 16 = .ok (.iload_n 2, 1) := by decide +kernel
theorem dX8_enterLocal_17 : decode cX8_enterLocal 17 = .ok (.iastore, 1) := by decide +kernel
theorem dX8_enterLocal_18 : decode cX8_enterLocal 18 = .ok (.aload_n 0, 1) := by decide +kernel
theorem dX8_enterLocal_19 : decode cX8_enterLocal 19 = .ok (.getfield 31, 3) := by decide +kernel
theorem dX8_enterLocal_22 : decode cX8_enterLocal 22 = .ok (.iload_n 1, 1) := by decide +kernel
theorem dX8_enterLocal_23 : decode cX8_enterLocal 23 = .ok (.iconst 1, 1) := by decide +kernel
theorem dX8_enterLocal_24 : decode cX8_enterLocal 24 = .ok (.bastore, 1) := by decide +kernel
theorem dX8_enterLocal_25 : decode cX8_enterLocal 25 = .ok (.iconst 0, 1) := by decide +kernel
theorem dX8_enterLocal_26 : decode cX8_enterLocal 26 = .ok (.istore_n 3, 1) := by decide +kernel
theorem dX8_enterLocal_27 : decode cX8_enterLocal 27 = .ok (.iload_n 3, 1) := by decide +kernel
theorem dX8_enterLocal_28 : decode cX8_enterLocal 28 = .ok (.aload_n 0, 1) := by decide +kernel
theorem dX8_enterLocal_29 : decode cX8_enterLocal 29 = .ok (.getfield 51, 3) := by decide +kernel
theorem dX8_enterLocal_32 : decode cX8_enterLocal 32 = .ok (.if_icmp .ge 37, 3) := by decide +kernel
theorem dX8_enterLocal_35 : decode cX8_enterLocal 35 = .ok (.aload_n 0, 1) := by decide +kernel
theorem dX8_enterLocal_36 : decode cX8_enterLocal 36 = .ok (.getfield 38, 3) := by decide +kernel
theorem dX8_enterLocal_39 : decode cX8_enterLocal 39 = .ok (.iload_n 3, 1) := by decide +kernel
theorem dX8_enterLocal_4 : decode cX8_enterLocal 4 = .ok (.iload_n 1, 1) := by decide +kernel
theorem dX8_enterLocal_40 : decode cX8_enterLocal 40 = .ok (.iaload, 1) := by decide +kernel
theorem dX8_enterLocal_41 : decode cX8_enterLocal 41 = .ok (.bipush (-10), 2) := by decide +kernel
theorem dX8_enterLocal_43 : decode cX8_enterLocal 43 = .ok (.iload_n 1, 1) := by decide +kernel
theorem dX8_enterLocal_44 : decode cX8_enterLocal 44 = .ok (.isub, 1) := by decide +kernel
theorem dX8_enterLocal_45 : decode cX8_enterLocal 45 = .ok (.if_icmp .ne 18, 3) := by decide +kernel
theorem dX8_enterLocal_48 : decode cX8_enterLocal 48 = .ok (.aload_n 0, 1) := by decide +kernel
theorem dX8_enterLocal_49 : decode cX8_enterLocal 49 = .ok (.getfield 38, 3) := by decide +kernel
theorem dX8_enterLocal_5 : decode cX8_enterLocal 5 = .ok (.bipush 10, 2) := by decide +kernel
theorem dX8_enterLocal_52 : decode cX8_enterLocal 52 = .ok (.iload_n 3, 1) := by decide +kernel
theorem dX8_enterLocal_53 : decode cX8_enterLocal 53 = .ok (.bipush (-2), 2) := by decide +kernel
theorem dX8_enterLocal_55 : decode cX8_enterLocal 55 = .ok (.iastore, 1) := by decide +kernel
theorem dX8_enterLocal_56 : decode cX8_enterLocal 56 = .ok (.aload_n 0, 1) := by decide +kernel
theorem dX8_enterLocal_57 : decode cX8_enterLocal 57 = .ok (.getfield 41, 3) := by decide +kernel
theorem dX8_enterLocal_60 : decode cX8_enterLocal 60 = .ok (.iload_n 3, 1) := by decide +kernel
theorem dX8_enterLocal_61 : decode cX8_enterLocal 61 = .ok (.iload_n 2, 1) := by decide +kernel
theorem dX8_enterLocal_62 : decode cX8_enterLocal 62 = .ok (.iastore, 1) := by decide +kernel
theorem dX8_enterLocal_63 : decode cX8_enterLocal 63 = .ok (.iinc 3 1, 3) := by decide +kernel
theorem dX8_enterLocal_66 : decode cX8_enterLocal 66 = .ok (.goto (-39), 3) := by decide +kernel
theorem dX8_enterLocal_69 : decode cX8_enterLocal 69 = .ok (.return_, 1) := by decide +kernel
theorem dX8_enterLocal_7 : decode cX8_enterLocal 7 = .ok (.if_icmp .lt 4, 3) := by decide +kernel
set_option maxHeartbeats 4000000 in
set_option maxRecDepth 100000 in
theorem T_X8_enterLocal (l : Launch) (D : va_G) (K : Nat → ClassId) (Z Y : Nat → Nat) (ad : Nat → Nat) (d : dSt) (t : tSt) (hok : okX t) (x1 : Int32) (hx1 : (-3999 : Int) ≤ x1.toInt ∧ x1.toInt ≤ 79) (x2 : Int32) : tMet l yX8_enterLocal cX8_enterLocal 4 none (rmD 0 0 0) D K Z Y [.ref (ad 23), .int x1, .int x2] ((WX d) K ad t) (QV D K (fun (u : tSt) => okX u ∧ frA [] [] [46, 47, 49, 50] [] t u) (fun (u : tSt) => (WX d) K ad u)) 0 0 := by
  refine t_met RX8 ⟨rfl, by decide +kernel⟩ (Nat.le_of_ble_eq_true rfl) ?_
  intro p e s m below meth c A ls C hE hZ hr hlocks hA hP hD hS hl
  have hl : lv_has ls 4 [(0, .ref (ad 23)), (1, .int x1), (2, .int x2)] := hl
  have hokt := hok
  have hfr : frA [] [] [46, 47, 49, 50] [] t t := frA_rf
  have L_27 : ∀ (fuel_27 : Nat) (t1 : tSt) (w27_3 : Int32) (H : Heap) (locs : List Loc) (ls : Array Slot), okX t1 → frA [] [] [46, 47, 49, 50] [] t t1 → (0 : Int) ≤ x1.toInt ∧ x1.toInt ≤ 9 → (0 : Int) ≤ w27_3.toInt ∧ w27_3.toInt ≤ 512 → (512 : Int) - w27_3.toInt < (fuel_27 : Int) → va_P D vwCl ((WX d) K ad t1) H → va_D A ((WX d) K ad t1) → va_S A s.heap H locs → lv_has ls 4 [(0, .ref (ad 23)), (1, .int x1), (2, .int x2), (3, .int w27_3)] → W p l e (rmD 0 0 0) s m [.ref (ad 23), .int x1, .int x2].toArray below meth c H locs 0 0 (MQ below (QV D K (fun (u : tSt) => okX u ∧ frA [] [] [46, 47, 49, 50] [] t u) (fun (u : tSt) => (WX d) K ad u) A) [.ref (ad 23), .int x1, .int x2].toArray s 0 0 A) (F0 m 27 ls []) := by
    intro fuel_27
    induction fuel_27 with
    | zero =>
      intro t1 w27_3 H locs ls hok hfr hx27_1 hw27_3 hm27_27 hP hD hS hl
      exact absurd hm27_27 (by omega)
    | succ fuel_27 ih_27 =>
      intro t1 w27_3 H locs ls hok hfr hx27_1 hw27_3 hm27_27 hP hD hS hl
      have hm27_27 : (512 : Int) - w27_3.toInt < (fuel_27 : Int) + 1 := by omega
      have L_63 : ∀ (t1 : tSt) (w63_3 : Int32) (H : Heap) (locs : List Loc) (ls : Array Slot), okX t1 → frA [] [] [46, 47, 49, 50] [] t t1 → (0 : Int) ≤ x1.toInt ∧ x1.toInt ≤ 9 → (0 : Int) ≤ w63_3.toInt ∧ w63_3.toInt ≤ 511 → (1 : Int) ≤ (t1.1 23 12).toInt ∧ (t1.1 23 12).toInt ≤ 512 → (512 : Int) - w63_3.toInt < (fuel_27 : Int) + 1 → va_P D vwCl ((WX d) K ad t1) H → va_D A ((WX d) K ad t1) → va_S A s.heap H locs → lv_has ls 4 [(0, .ref (ad 23)), (1, .int x1), (2, .int x2), (3, .int w63_3)] → W p l e (rmD 0 0 0) s m [.ref (ad 23), .int x1, .int x2].toArray below meth c H locs 0 0 (MQ below (QV D K (fun (u : tSt) => okX u ∧ frA [] [] [46, 47, 49, 50] [] t u) (fun (u : tSt) => (WX d) K ad u) A) [.ref (ad 23), .int x1, .int x2].toArray s 0 0 A) (F0 m 63 ls []) := by
        intro t1 w63_3 H locs ls hok hfr hx63_1 hw63_3 hf63_12 hm63_27 hP hD hS hl
        obtain ⟨v_1, e_2⟩ : ∃ z, z = w63_3 + 1 := ⟨_, rfl⟩
        have h_3 : v_1.toInt = w63_3.toInt + 1 := by rw [e_2]; exact ti_iadd (by show (_ : Int) ≤ w63_3.toInt + 1; omega) (by show w63_3.toInt + 1 < (_ : Int); omega)
        refine lv_iinc (v := v_1) (lv' := [(3, .int v_1), (0, .ref (ad 23)), (1, .int x1), (2, .int x2)]) C.1 C.2.1 dX8_enterLocal_63 hl (k := 3) rfl e_2.symm (by decide) rfl (fun ls hl => ?_)
        have hl : lv_has ls 4 [(0, .ref (ad 23)), (1, .int x1), (2, .int x2), (3, .int v_1)] := lv_sub hl [1, 2, 3, 0] rfl
        refine lv_goto (tgt := 27) C.1 C.2.1 dX8_enterLocal_66 (by decide) ?_
        exact ih_27 t1 v_1 _ _ _ hok hfr ⟨by omega, by omega⟩ ⟨by omega, by omega⟩ (show (512 : Int) - v_1.toInt < (fuel_27 : Int) from by omega) hP hD hS (lv_sub hl [0, 1, 2, 3] rfl)
      refine lv_iload_n C.1 C.2.1 dX8_enterLocal_27 rfl (lv_at hl 3 rfl) ?_
      refine lv_aload_n C.1 C.2.1 dX8_enterLocal_28 rfl (lv_at hl 0 rfl) ?_
      have h_4 : (0 : Int) ≤ (t1.1 23 12).toInt ∧ (t1.1 23 12).toInt ≤ 512 := hok.1 23 12
      refine k_get (v := .int (t1.1 23 12)) C hP 23 rfl rfl inlX8 12 (by decide) m_13_10 rfl dX8_enterLocal_29 ?_
      refine lv_icmp_ge (tgt := 69) C.1 C.2.1 dX8_enterLocal_32 (by decide) (fun c_5 => ?_) (fun c_5 => ?_)
      · replace c_5 : (t1.1 23 12).toInt ≤ w27_3.toInt := i_le c_5
        exact g_vret C hr hlocks hP hD hS t1 rfl ⟨hok, hfr⟩ (Nat.le_of_ble_eq_true rfl) (Nat.le_of_ble_eq_true rfl) dX8_enterLocal_69
      · replace c_5 : w27_3.toInt < (t1.1 23 12).toInt := i_nle c_5
        refine lv_aload_n C.1 C.2.1 dX8_enterLocal_35 rfl (lv_at hl 0 rfl) ?_
        refine k_get (v := .ref (ad 49)) C hP 23 rfl rfl inlX8 10 (by decide) m_5_7 rfl dX8_enterLocal_36 ?_
        refine lv_iload_n C.1 C.2.1 dX8_enterLocal_39 rfl (lv_at hl 3 rfl) ?_
        obtain ⟨v_6, e_7⟩ : ∃ z, z = (t1.2.2.1 49 (w27_3 : Int32).toNatClampNeg) := ⟨_, rfl⟩
        have h_8 : (-128 : Int) ≤ v_6.toInt ∧ v_6.toInt ≤ 2147483647 := by rw [e_7]; exact hok.2.1 49 _
        refine k_ild (v := v_6) C hP 49 rfl (vp_in_iff.mpr ⟨by omega, by omega⟩) e_7.symm dX8_enterLocal_40 ?_
        refine lv_bipush (v := (-10)) C.1 C.2.1 dX8_enterLocal_41 (by decide) ?_
        refine lv_iload_n C.1 C.2.1 dX8_enterLocal_43 rfl (lv_at hl 1 rfl) ?_
        obtain ⟨v_9, e_10⟩ : ∃ z, z = ((-10) : Int32) - (x1 : Int32) := ⟨_, rfl⟩
        have h_11 : v_9.toInt = (-10) - x1.toInt := by rw [e_10]; exact ti_isub (by show (_ : Int) ≤ (-10) - x1.toInt; omega) (by show (-10) - x1.toInt < (_ : Int); omega)
        refine k_isub (v := v_9) C e_10.symm dX8_enterLocal_44 ?_
        refine lv_icmp_ne (tgt := 63) C.1 C.2.1 dX8_enterLocal_45 (by decide) (fun c_12 => ?_) (fun c_12 => ?_)
        · replace c_12 : ¬ v_6.toInt = v_9.toInt := i_ne c_12
          exact L_63 t1 w27_3 _ _ _ hok hfr ⟨by omega, by omega⟩ ⟨by omega, by omega⟩ (show (1 : Int) ≤ ((t1.1 23 12) : Int32).toInt ∧ ((t1.1 23 12) : Int32).toInt ≤ 512 from ⟨by omega, by omega⟩) (show (512 : Int) - w27_3.toInt < (fuel_27 : Int) + 1 from by omega) hP hD hS (lv_sub hl [0, 1, 2, 3] rfl)
        · replace c_12 : v_6.toInt = v_9.toInt := i_eq c_12
          refine lv_aload_n C.1 C.2.1 dX8_enterLocal_48 rfl (lv_at hl 0 rfl) ?_
          refine k_get (v := .ref (ad 49)) C hP 23 rfl rfl inlX8 10 (by decide) m_5_7 rfl dX8_enterLocal_49 ?_
          refine lv_iload_n C.1 C.2.1 dX8_enterLocal_52 rfl (lv_at hl 3 rfl) ?_
          refine lv_bipush (v := (-2)) C.1 C.2.1 dX8_enterLocal_53 (by decide) ?_
          refine k_ist (ws' := (WX d) K ad (uB t1 49 (w27_3 : Int32).toNatClampNeg (-2))) (x' := (-2)) C hP hD hS 49 rfl (vp_in_iff.mpr ⟨by omega, by omega⟩) rfl rfl rfl dX8_enterLocal_55 (fun H locs hP hD hS => ?_)
          have hok : okX (uB t1 49 (w27_3 : Int32).toNatClampNeg (-2)) := ⟨hok.1, okB_B hok.2.1 49 _ (-2) (show (-128 : Int) ≤ ((-2) : Int32).toInt ∧ ((-2) : Int32).toInt ≤ 2147483647 from ⟨by decide, by decide⟩), trivial⟩
          have hfr : frA [] [] [46, 47, 49, 50] [] t (uB t1 49 (w27_3 : Int32).toNatClampNeg (-2)) := frA_B hfr 49 _ _ rfl
          refine lv_aload_n C.1 C.2.1 dX8_enterLocal_56 rfl (lv_at hl 0 rfl) ?_
          refine k_get (v := .ref (ad 50)) C hP 23 rfl rfl inlX8 11 (by decide) m_5_8 rfl dX8_enterLocal_57 ?_
          refine lv_iload_n C.1 C.2.1 dX8_enterLocal_60 rfl (lv_at hl 3 rfl) ?_
          refine lv_iload_n C.1 C.2.1 dX8_enterLocal_61 rfl (lv_at hl 2 rfl) ?_
          obtain ⟨t_13, e_14⟩ : ∃ z, z = (uB t1 49 (w27_3 : Int32).toNatClampNeg (-2)) := ⟨_, rfl⟩
          rw [← e_14] at hP hD hok hfr
          have h_15 : (t_13.1 23 12).toInt = ((t1.1 23 12) : Int32).toInt := by rw [e_14]; rfl
          refine k_ist (ws' := (WX d) K ad (uB t_13 50 (w27_3 : Int32).toNatClampNeg x2)) (x' := x2) C hP hD hS 50 rfl (vp_in_iff.mpr ⟨by omega, by omega⟩) rfl rfl rfl dX8_enterLocal_62 (fun H locs hP hD hS => ?_)
          have hok : okX (uB t_13 50 (w27_3 : Int32).toNatClampNeg x2) := ⟨hok.1, okB_B hok.2.1 50 _ x2 (show (-2147483648 : Int) ≤ (x2 : Int32).toInt ∧ (x2 : Int32).toInt ≤ 2147483647 from (i_rng _)), trivial⟩
          have hfr : frA [] [] [46, 47, 49, 50] [] t (uB t_13 50 (w27_3 : Int32).toNatClampNeg x2) := frA_B hfr 50 _ _ rfl
          exact L_63 (uB t_13 50 (w27_3 : Int32).toNatClampNeg x2) w27_3 _ _ _ hok hfr ⟨by omega, by omega⟩ ⟨by omega, by omega⟩ (show (1 : Int) ≤ ((t_13.1 23 12) : Int32).toInt ∧ ((t_13.1 23 12) : Int32).toInt ≤ 512 from ⟨by omega, by omega⟩) (show (512 : Int) - w27_3.toInt < (fuel_27 : Int) + 1 from by omega) hP hD hS (lv_sub hl [0, 1, 2, 3] rfl)
  refine lv_iload_n C.1 C.2.1 dX8_enterLocal_0 rfl (lv_at hl 1 rfl) ?_
  refine lv_if_lt (tgt := 10) C.1 C.2.1 dX8_enterLocal_1 (by decide) (fun c_16 => ?_) (fun c_16 => ?_)
  · replace c_16 : x1.toInt < 0 := i_lt c_16
    exact g_vret C hr hlocks hP hD hS t rfl ⟨hok, hfr⟩ (Nat.le_of_ble_eq_true rfl) (Nat.le_of_ble_eq_true rfl) dX8_enterLocal_10
  · replace c_16 : 0 ≤ x1.toInt := i_nlt c_16
    refine lv_iload_n C.1 C.2.1 dX8_enterLocal_4 rfl (lv_at hl 1 rfl) ?_
    refine lv_bipush (v := 10) C.1 C.2.1 dX8_enterLocal_5 (by decide) ?_
    refine lv_icmp_lt (tgt := 11) C.1 C.2.1 dX8_enterLocal_7 (by decide) (fun c_17 => ?_) (fun c_17 => ?_)
    · replace c_17 : x1.toInt < 10 := i_lt c_17
      refine lv_aload_n C.1 C.2.1 dX8_enterLocal_11 rfl (lv_at hl 0 rfl) ?_
      refine k_get (v := .ref (ad 46)) C hP 23 rfl rfl inlX8 7 (by decide) m_5_4 rfl dX8_enterLocal_12 ?_
      refine lv_iload_n C.1 C.2.1 dX8_enterLocal_15 rfl (lv_at hl 1 rfl) ?_
      refine lv_iload_n C.1 C.2.1 dX8_enterLocal_16 rfl (lv_at hl 2 rfl) ?_
      refine k_ist (ws' := (WX d) K ad (uB t 46 (x1 : Int32).toNatClampNeg x2)) (x' := x2) C hP hD hS 46 rfl (vp_in_iff.mpr ⟨by omega, by omega⟩) rfl rfl rfl dX8_enterLocal_17 (fun H locs hP hD hS => ?_)
      have hok : okX (uB t 46 (x1 : Int32).toNatClampNeg x2) := ⟨hok.1, okB_B hok.2.1 46 _ x2 (show (-2147483648 : Int) ≤ (x2 : Int32).toInt ∧ (x2 : Int32).toInt ≤ 2147483647 from (i_rng _)), trivial⟩
      have hfr : frA [] [] [46, 47, 49, 50] [] t (uB t 46 (x1 : Int32).toNatClampNeg x2) := frA_B hfr 46 _ _ rfl
      refine lv_aload_n C.1 C.2.1 dX8_enterLocal_18 rfl (lv_at hl 0 rfl) ?_
      refine k_get (v := .ref (ad 47)) C hP 23 rfl rfl inlX8 8 (by decide) m_5_5 rfl dX8_enterLocal_19 ?_
      refine lv_iload_n C.1 C.2.1 dX8_enterLocal_22 rfl (lv_at hl 1 rfl) ?_
      refine lv_iconst (v := 1) C.1 C.2.1 dX8_enterLocal_23 (by decide) ?_
      obtain ⟨t_18, e_19⟩ : ∃ z, z = (uB t 46 (x1 : Int32).toNatClampNeg x2) := ⟨_, rfl⟩
      rw [← e_19] at hP hD hok hfr
      obtain ⟨v_20, e_21⟩ : ∃ z, z = vp_nar .boolean 1 := ⟨_, rfl⟩
      have h_22 : (0 : Int) ≤ v_20.toInt ∧ v_20.toInt ≤ 1 := by rw [e_21]; exact nar_boolean _
      refine k_zst (ws' := (WX d) K ad (uB t_18 47 (x1 : Int32).toNatClampNeg v_20)) (x' := v_20) C hP hD hS 47 rfl (vp_in_iff.mpr ⟨by omega, by omega⟩) rfl e_21.symm rfl dX8_enterLocal_24 (fun H locs hP hD hS => ?_)
      have hok : okX (uB t_18 47 (x1 : Int32).toNatClampNeg v_20) := ⟨hok.1, okB_B hok.2.1 47 _ v_20 (show (0 : Int) ≤ (v_20 : Int32).toInt ∧ (v_20 : Int32).toInt ≤ 1 from ⟨by omega, by omega⟩), trivial⟩
      have hfr : frA [] [] [46, 47, 49, 50] [] t (uB t_18 47 (x1 : Int32).toNatClampNeg v_20) := frA_B hfr 47 _ _ rfl
      refine lv_iconst (v := 0) C.1 C.2.1 dX8_enterLocal_25 (by decide) ?_
      refine lv_istore_n (lv' := [(3, .int 0), (0, .ref (ad 23)), (1, .int x1), (2, .int x2)]) C.1 C.2.1 dX8_enterLocal_26 rfl hl (by decide) rfl (fun ls hl => ?_)
      have hl : lv_has ls 4 [(0, .ref (ad 23)), (1, .int x1), (2, .int x2), (3, .int 0)] := lv_sub hl [1, 2, 3, 0] rfl
      exact L_27 513 (uB t_18 47 (x1 : Int32).toNatClampNeg v_20) 0 _ _ _ hok hfr ⟨by omega, by omega⟩ ⟨by decide, by decide⟩ (show (512 : Int) - 0 < ((513 : Nat) : Int) from by omega) hP hD hS (lv_sub hl [0, 1, 2, 3] rfl)
    · replace c_17 : 10 ≤ x1.toInt := i_nlt c_17
      exact g_vret C hr hlocks hP hD hS t rfl ⟨hok, hfr⟩ (Nat.le_of_ble_eq_true rfl) (Nat.le_of_ble_eq_true rfl) dX8_enterLocal_10

theorem dX10_wordsOf_0 : decode cX10_wordsOf 0 = .ok (.iload_n 0, 1) := by decide +kernel
theorem dX10_wordsOf_1 : decode cX10_wordsOf 1 = .ok (.bipush 16, 2) := by decide +kernel
theorem dX10_wordsOf_10 : decode cX10_wordsOf 10 = .ok (.bipush 17, 2) := by decide +kernel
theorem dX10_wordsOf_12 : decode cX10_wordsOf 12 = .ok (.if_icmp .gt 6, 3) := by decide +kernel
theorem dX10_wordsOf_15 : decode cX10_wordsOf 15 = .ok (.bipush 16, 2) := by decide +kernel
theorem dX10_wordsOf_17 : decode cX10_wordsOf 17 = .ok (.ireturn, 1) := by decide +kernel
theorem dX10_wordsOf_18 : decode cX10_wordsOf 18 = .ok (.iload_n 0, 1) := by decide +kernel
theorem dX10_wordsOf_19 : decode cX10_wordsOf 19 = .ok (.bipush 18, 2) := by decide +kernel
theorem dX10_wordsOf_21 : decode cX10_wordsOf 21 = .ok (.if_icmp .ne 6, 3) := by decide +kernel
theorem dX10_wordsOf_24 : decode cX10_wordsOf 24 = .ok (.bipush 24, 2) := by decide +kernel
theorem dX10_wordsOf_26 : decode cX10_wordsOf 26 = .ok (.ireturn, 1) := by decide +kernel
theorem dX10_wordsOf_27 : decode cX10_wordsOf 27 = .ok (.iload_n 0, 1) := by decide +kernel
theorem dX10_wordsOf_28 : decode cX10_wordsOf 28 = .ok (.bipush 19, 2) := by decide +kernel
theorem dX10_wordsOf_3 : decode cX10_wordsOf 3 = .ok (.if_icmp .ge 6, 3) := by decide +kernel
theorem dX10_wordsOf_30 : decode cX10_wordsOf 30 = .ok (.if_icmp .ne 8, 3) := by decide +kernel
theorem dX10_wordsOf_33 : decode cX10_wordsOf 33 = .ok (.bipush 14, 2) := by decide +kernel
theorem dX10_wordsOf_35 : decode cX10_wordsOf 35 = .ok (.goto 4, 3) := by decide +kernel
theorem dX10_wordsOf_38 : decode cX10_wordsOf 38 = .ok (.iconst 1, 1) := by decide +kernel
theorem dX10_wordsOf_39 : decode cX10_wordsOf 39 = .ok (.ireturn, 1) := by decide +kernel
theorem dX10_wordsOf_6 : decode cX10_wordsOf 6 = .ok (.bipush 100, 2) := by decide +kernel
theorem dX10_wordsOf_8 : decode cX10_wordsOf 8 = .ok (.ireturn, 1) := by decide +kernel
theorem dX10_wordsOf_9 : decode cX10_wordsOf 9 = .ok (.iload_n 0, 1) := by decide +kernel
set_option maxHeartbeats 4000000 in
set_option maxRecDepth 100000 in
theorem T_X10_wordsOf (l : Launch) (D : va_G) (K : Nat → ClassId) (Z Y : Nat → Nat) (ad : Nat → Nat) (d : dSt) (t : tSt) (hok : okX t) (x0 : Int32) (hx0 : (0 : Int) ≤ x0.toInt ∧ x0.toInt ≤ 63) : tMet l yX10_wordsOf cX10_wordsOf 1 (some .int) (rmD 0 0 0) D K Z Y [.int x0] ((WX d) K ad t) (QI D K (fun (r : Int32) (u : Unit) => (1 : Int) ≤ r.toInt ∧ r.toInt ≤ 100) (fun (_ : Unit) => (WX d) K ad t)) 0 0 := by
  refine t_met RX10 ⟨rfl, by decide +kernel⟩ (Nat.le_of_ble_eq_true rfl) ?_
  intro p e s m below meth c A ls C hE hZ hr hlocks hA hP hD hS hl
  have hl : lv_has ls 1 [(0, .int x0)] := hl
  refine lv_iload_n C.1 C.2.1 dX10_wordsOf_0 rfl (lv_at hl 0 rfl) ?_
  refine lv_bipush (v := 16) C.1 C.2.1 dX10_wordsOf_1 (by decide) ?_
  refine lv_icmp_ge (tgt := 9) C.1 C.2.1 dX10_wordsOf_3 (by decide) (fun c_1 => ?_) (fun c_1 => ?_)
  · replace c_1 : 16 ≤ x0.toInt := i_le c_1
    refine lv_iload_n C.1 C.2.1 dX10_wordsOf_9 rfl (lv_at hl 0 rfl) ?_
    refine lv_bipush (v := 17) C.1 C.2.1 dX10_wordsOf_10 (by decide) ?_
    refine lv_icmp_gt (tgt := 18) C.1 C.2.1 dX10_wordsOf_12 (by decide) (fun c_2 => ?_) (fun c_2 => ?_)
    · replace c_2 : 17 < x0.toInt := i_lt c_2
      refine lv_iload_n C.1 C.2.1 dX10_wordsOf_18 rfl (lv_at hl 0 rfl) ?_
      refine lv_bipush (v := 18) C.1 C.2.1 dX10_wordsOf_19 (by decide) ?_
      refine lv_icmp_ne (tgt := 27) C.1 C.2.1 dX10_wordsOf_21 (by decide) (fun c_3 => ?_) (fun c_3 => ?_)
      · replace c_3 : ¬ x0.toInt = 18 := i_ne c_3
        refine lv_iload_n C.1 C.2.1 dX10_wordsOf_27 rfl (lv_at hl 0 rfl) ?_
        refine lv_bipush (v := 19) C.1 C.2.1 dX10_wordsOf_28 (by decide) ?_
        refine lv_icmp_ne (tgt := 38) C.1 C.2.1 dX10_wordsOf_30 (by decide) (fun c_4 => ?_) (fun c_4 => ?_)
        · replace c_4 : ¬ x0.toInt = 19 := i_ne c_4
          refine lv_iconst (v := 1) C.1 C.2.1 dX10_wordsOf_38 (by decide) ?_
          exact g_iret C hr hlocks hP hD hS rfl () rfl ⟨by decide, by decide⟩ (Nat.le_of_ble_eq_true rfl) (Nat.le_of_ble_eq_true rfl) dX10_wordsOf_39
        · replace c_4 : x0.toInt = 19 := i_eq c_4
          refine lv_bipush (v := 14) C.1 C.2.1 dX10_wordsOf_33 (by decide) ?_
          refine lv_goto (tgt := 39) C.1 C.2.1 dX10_wordsOf_35 (by decide) ?_
          exact g_iret C hr hlocks hP hD hS rfl () rfl ⟨by decide, by decide⟩ (Nat.le_of_ble_eq_true rfl) (Nat.le_of_ble_eq_true rfl) dX10_wordsOf_39
      · replace c_3 : x0.toInt = 18 := i_eq c_3
        refine lv_bipush (v := 24) C.1 C.2.1 dX10_wordsOf_24 (by decide) ?_
        exact g_iret C hr hlocks hP hD hS rfl () rfl ⟨by decide, by decide⟩ (Nat.le_of_ble_eq_true rfl) (Nat.le_of_ble_eq_true rfl) dX10_wordsOf_26
    · replace c_2 : x0.toInt ≤ 17 := i_nlt c_2
      refine lv_bipush (v := 16) C.1 C.2.1 dX10_wordsOf_15 (by decide) ?_
      exact g_iret C hr hlocks hP hD hS rfl () rfl ⟨by decide, by decide⟩ (Nat.le_of_ble_eq_true rfl) (Nat.le_of_ble_eq_true rfl) dX10_wordsOf_17
  · replace c_1 : x0.toInt < 16 := i_nle c_1
    refine lv_bipush (v := 100) C.1 C.2.1 dX10_wordsOf_6 (by decide) ?_
    exact g_iret C hr hlocks hP hD hS rfl () rfl ⟨by decide, by decide⟩ (Nat.le_of_ble_eq_true rfl) (Nat.le_of_ble_eq_true rfl) dX10_wordsOf_8

theorem dX10_isBusy_0 : decode cX10_isBusy 0 = .ok (.aload_n 0, 1) := by decide +kernel
theorem dX10_isBusy_1 : decode cX10_isBusy 1 = .ok (.iload_n 1, 1) := by decide +kernel
theorem dX10_isBusy_11 : decode cX10_isBusy 11 = .ok (.iconst 1, 1) := by decide +kernel
theorem dX10_isBusy_12 : decode cX10_isBusy 12 = .ok (.goto 4, 3) := by decide +kernel
theorem dX10_isBusy_15 : decode cX10_isBusy 15 = .ok (.iconst 0, 1) := by decide +kernel
theorem dX10_isBusy_16 : decode cX10_isBusy 16 = .ok (.ireturn, 1) := by decide +kernel
theorem dX10_isBusy_2 : decode cX10_isBusy 2 = .ok (.lload_n 2, 1) := by decide +kernel
theorem dX10_isBusy_3 : decode cX10_isBusy 3 = .ok (.invokevirtual 73, 3) := by decide +kernel
theorem dX10_isBusy_6 : decode cX10_isBusy 6 = .ok (.lconst 0, 1) := by decide +kernel
theorem dX10_isBusy_7 : decode cX10_isBusy 7 = .ok (.lcmp, 1) := by decide +kernel
theorem dX10_isBusy_8 : decode cX10_isBusy 8 = .ok (.ifCond .le 7, 3) := by decide +kernel
set_option maxHeartbeats 4000000 in
set_option maxRecDepth 100000 in
theorem T_X10_isBusy (l : Launch) (D : va_G) (K : Nat → ClassId) (Z Y : Nat → Nat) (ad : Nat → Nat) (d : dSt) (t : tSt) (hok : okX t) (x1 : Int32) (hx1 : (0 : Int) ≤ x1.toInt ∧ x1.toInt ≤ 63) (x2 : Int64) : tMet l yX10_isBusy cX10_isBusy 4 (some .boolean) (rmD 2 0 0) D K Z Y [.ref (ad 3), .int x1, .long x2] ((WX d) K ad t) (QI D K (fun (r : Int32) (u : Unit) => (0 : Int) ≤ r.toInt ∧ r.toInt ≤ 1) (fun (_ : Unit) => (WX d) K ad t)) 0 0 := by
  refine t_met RX10 ⟨rfl, by decide +kernel⟩ (Nat.le_of_ble_eq_true rfl) ?_
  intro p e s m below meth c A ls C hE hZ hr hlocks hA hP hD hS hl
  have hl : lv_has ls 4 [(0, .ref (ad 3)), (1, .int x1), (2, .long x2)] := hl
  refine lv_aload_n C.1 C.2.1 dX10_isBusy_0 rfl (lv_at hl 0 rfl) ?_
  refine lv_iload_n C.1 C.2.1 dX10_isBusy_1 rfl (lv_at hl 1 rfl) ?_
  refine lv_lload_n C.1 C.2.1 dX10_isBusy_2 rfl (lv_at hl 2 rfl) ?_
  refine g_Vl (As := [.int x1, .long x2]) (rest := []) C hP hD hS hA (T_X10_waiting l D K Z Y ad d t hok (x1) (show (0 : Int) ≤ (x1 : Int32).toInt ∧ (x1 : Int32).toInt ≤ 63 from ⟨by omega, by omega⟩) (x2)) hE hZ (uwV m_50_7 m_47_21 m_47_22 m_1_20 m_47_23) (hdV 2 (by decide +kernel) rfl) ⟨Nat.le_of_ble_eq_true rfl, Nat.le_of_ble_eq_true rfl⟩ rfl rfl (ci := 9) (q0 := 3) rfl rfl rfl hl.1 (Nat.le_of_ble_eq_true rfl) dX10_isBusy_3 ⟨Nat.le_of_ble_eq_true rfl, Nat.le_of_ble_eq_true rfl⟩ (fun r_2 t_1 H locs hw hP hD hS => ?_)
  refine lv_lconst (v := 0) C.1 C.2.1 dX10_isBusy_6 (by decide) ?_
  obtain ⟨v_4, e_5⟩ : ∃ z, z = lg_cmp (r_2 : Int64) 0 := ⟨_, rfl⟩
  have h_6 : (-1 : Int) ≤ v_4.toInt ∧ v_4.toInt ≤ 1 := by rw [e_5]; exact cmp_rng _ _
  refine k_lcmp (v := v_4) C e_5.symm dX10_isBusy_7 ?_
  refine lv_if_le (tgt := 15) C.1 C.2.1 dX10_isBusy_8 (by decide) (fun c_7 => ?_) (fun c_7 => ?_)
  · replace c_7 : v_4.toInt ≤ 0 := i_le c_7
    refine lv_iconst (v := 0) C.1 C.2.1 dX10_isBusy_15 (by decide) ?_
    exact g_iret C hr hlocks hP hD hS (by decide) () rfl ⟨by decide, by decide⟩ (Nat.le_of_ble_eq_true rfl) (Nat.le_of_ble_eq_true rfl) dX10_isBusy_16
  · replace c_7 : 0 < v_4.toInt := i_nle c_7
    refine lv_iconst (v := 1) C.1 C.2.1 dX10_isBusy_11 (by decide) ?_
    refine lv_goto (tgt := 16) C.1 C.2.1 dX10_isBusy_12 (by decide) ?_
    exact g_iret C hr hlocks hP hD hS (by decide) () rfl ⟨by decide, by decide⟩ (Nat.le_of_ble_eq_true rfl) (Nat.le_of_ble_eq_true rfl) dX10_isBusy_16

theorem dX2_holds_0 : decode cX2_holds 0 = .ok (.iload_n 0, 1) := by decide +kernel
theorem dX2_holds_1 : decode cX2_holds 1 = .ok (.tableswitch 85 0 4 #[35, 45, 55, 65, 75], 35) := by decide +kernel
theorem dX2_holds_36 : decode cX2_holds 36 = .ok (.iload_n 1, 1) := by decide +kernel
theorem dX2_holds_37 : decode cX2_holds 37 = .ok (.ifCond .ge 7, 3) := by decide +kernel
theorem dX2_holds_40 : decode cX2_holds 40 = .ok (.iconst 1, 1) := by decide +kernel
theorem dX2_holds_41 : decode cX2_holds 41 = .ok (.goto 4, 3) := by decide +kernel
theorem dX2_holds_44 : decode cX2_holds 44 = .ok (.iconst 0, 1) := by decide +kernel
theorem dX2_holds_45 : decode cX2_holds 45 = .ok (.ireturn, 1) := by decide +kernel
theorem dX2_holds_46 : decode cX2_holds 46 = .ok (.iload_n 1, 1) := by decide +kernel
theorem dX2_holds_47 : decode cX2_holds 47 = .ok (.ifCond .ne 7, 3) := by decide +kernel
theorem dX2_holds_50 : decode cX2_holds 50 = .ok (.iconst 1, 1) := by decide +kernel
theorem dX2_holds_51 : decode cX2_holds 51 = .ok (.goto 4, 3) := by decide +kernel
theorem dX2_holds_54 : decode cX2_holds 54 = .ok (.iconst 0, 1) := by decide +kernel
theorem dX2_holds_55 : decode cX2_holds 55 = .ok (.ireturn, 1) := by decide +kernel
theorem dX2_holds_56 : decode cX2_holds 56 = .ok (.iload_n 1, 1) := by decide +kernel
theorem dX2_holds_57 : decode cX2_holds 57 = .ok (.ifCond .le 7, 3) := by decide +kernel
theorem dX2_holds_60 : decode cX2_holds 60 = .ok (.iconst 1, 1) := by decide +kernel
theorem dX2_holds_61 : decode cX2_holds 61 = .ok (.goto 4, 3) := by decide +kernel
theorem dX2_holds_64 : decode cX2_holds 64 = .ok (.iconst 0, 1) := by decide +kernel
theorem dX2_holds_65 : decode cX2_holds 65 = .ok (.ireturn, 1) := by decide +kernel
theorem dX2_holds_66 : decode cX2_holds 66 = .ok (.iload_n 1, 1) := by decide +kernel
theorem dX2_holds_67 : decode cX2_holds 67 = .ok (.ifCond .lt 7, 3) := by decide +kernel
theorem dX2_holds_70 : decode cX2_holds 70 = .ok (.iconst 1, 1) := by decide +kernel
theorem dX2_holds_71 : decode cX2_holds 71 = .ok (.goto 4, 3) := by decide +kernel
theorem dX2_holds_74 : decode cX2_holds 74 = .ok (.iconst 0, 1) := by decide +kernel
theorem dX2_holds_75 : decode cX2_holds 75 = .ok (.ireturn, 1) := by decide +kernel
theorem dX2_holds_76 : decode cX2_holds 76 = .ok (.iload_n 1, 1) := by decide +kernel
theorem dX2_holds_77 : decode cX2_holds 77 = .ok (.ifCond .eq 7, 3) := by decide +kernel
theorem dX2_holds_80 : decode cX2_holds 80 = .ok (.iconst 1, 1) := by decide +kernel
theorem dX2_holds_81 : decode cX2_holds 81 = .ok (.goto 4, 3) := by decide +kernel
theorem dX2_holds_84 : decode cX2_holds 84 = .ok (.iconst 0, 1) := by decide +kernel
theorem dX2_holds_85 : decode cX2_holds 85 = .ok (.ireturn, 1) := by decide +kernel
theorem dX2_holds_86 : decode cX2_holds 86 = .ok (.iload_n 1, 1) := by decide +kernel
theorem dX2_holds_87 : decode cX2_holds 87 = .ok (.ifCond .gt 7, 3) := by decide +kernel
theorem dX2_holds_90 : decode cX2_holds 90 = .ok (.iconst 1, 1) := by decide +kernel
theorem dX2_holds_91 : decode cX2_holds 91 = .ok (.goto 4, 3) := by decide +kernel
theorem dX2_holds_94 : decode cX2_holds 94 = .ok (.iconst 0, 1) := by decide +kernel
theorem dX2_holds_95 : decode cX2_holds 95 = .ok (.ireturn, 1) := by decide +kernel
set_option maxHeartbeats 4000000 in
set_option maxRecDepth 100000 in
theorem T_X2_holds (l : Launch) (D : va_G) (K : Nat → ClassId) (Z Y : Nat → Nat) (ad : Nat → Nat) (d : dSt) (t : tSt) (hok : okX t) (x0 : Int32) (hx0 : (0 : Int) ≤ x0.toInt ∧ x0.toInt ≤ 63) (x1 : Int32) (hx1 : (-1073741824 : Int) ≤ x1.toInt ∧ x1.toInt ≤ 1073741823) : tMet l yX2_holds cX2_holds 2 (some .boolean) (rmD 0 0 0) D K Z Y [.int x0, .int x1] ((WX d) K ad t) (QI D K (fun (r : Int32) (u : Unit) => (0 : Int) ≤ r.toInt ∧ r.toInt ≤ 1) (fun (_ : Unit) => (WX d) K ad t)) 0 0 := by
  refine t_met RX2 ⟨rfl, by decide +kernel⟩ (Nat.le_of_ble_eq_true rfl) ?_
  intro p e s m below meth c A ls C hE hZ hr hlocks hA hP hD hS hl
  have hl : lv_has ls 2 [(0, .int x0), (1, .int x1)] := hl
  refine lv_iload_n C.1 C.2.1 dX2_holds_0 rfl (lv_at hl 0 rfl) ?_
  by_cases c_1 : x0 = 0
  · refine lv_tableIn (tgt := 36) (off := 35) C.1 C.2.1 dX2_holds_1 (by rw [c_1]; decide) (by rw [c_1]; decide) (by rw [c_1]; decide) (by decide) ?_
    replace c_1 : x0.toInt = 0 := i_eq c_1
    refine lv_iload_n C.1 C.2.1 dX2_holds_36 rfl (lv_at hl 1 rfl) ?_
    refine lv_if_ge (tgt := 44) C.1 C.2.1 dX2_holds_37 (by decide) (fun c_2 => ?_) (fun c_2 => ?_)
    · replace c_2 : 0 ≤ x1.toInt := i_le c_2
      refine lv_iconst (v := 0) C.1 C.2.1 dX2_holds_44 (by decide) ?_
      exact g_iret C hr hlocks hP hD hS (by decide) () rfl ⟨by decide, by decide⟩ (Nat.le_of_ble_eq_true rfl) (Nat.le_of_ble_eq_true rfl) dX2_holds_45
    · replace c_2 : x1.toInt < 0 := i_nle c_2
      refine lv_iconst (v := 1) C.1 C.2.1 dX2_holds_40 (by decide) ?_
      refine lv_goto (tgt := 45) C.1 C.2.1 dX2_holds_41 (by decide) ?_
      exact g_iret C hr hlocks hP hD hS (by decide) () rfl ⟨by decide, by decide⟩ (Nat.le_of_ble_eq_true rfl) (Nat.le_of_ble_eq_true rfl) dX2_holds_45
  replace c_1 : ¬ x0.toInt = 0 := i_ne c_1
  by_cases c_3 : x0 = 1
  · refine lv_tableIn (tgt := 46) (off := 45) C.1 C.2.1 dX2_holds_1 (by rw [c_3]; decide) (by rw [c_3]; decide) (by rw [c_3]; decide) (by decide) ?_
    replace c_3 : x0.toInt = 1 := i_eq c_3
    refine lv_iload_n C.1 C.2.1 dX2_holds_46 rfl (lv_at hl 1 rfl) ?_
    refine lv_if_ne (tgt := 54) C.1 C.2.1 dX2_holds_47 (by decide) (fun c_4 => ?_) (fun c_4 => ?_)
    · replace c_4 : ¬ x1.toInt = 0 := i_ne c_4
      refine lv_iconst (v := 0) C.1 C.2.1 dX2_holds_54 (by decide) ?_
      exact g_iret C hr hlocks hP hD hS (by decide) () rfl ⟨by decide, by decide⟩ (Nat.le_of_ble_eq_true rfl) (Nat.le_of_ble_eq_true rfl) dX2_holds_55
    · replace c_4 : x1.toInt = 0 := i_eq c_4
      refine lv_iconst (v := 1) C.1 C.2.1 dX2_holds_50 (by decide) ?_
      refine lv_goto (tgt := 55) C.1 C.2.1 dX2_holds_51 (by decide) ?_
      exact g_iret C hr hlocks hP hD hS (by decide) () rfl ⟨by decide, by decide⟩ (Nat.le_of_ble_eq_true rfl) (Nat.le_of_ble_eq_true rfl) dX2_holds_55
  replace c_3 : ¬ x0.toInt = 1 := i_ne c_3
  by_cases c_5 : x0 = 2
  · refine lv_tableIn (tgt := 56) (off := 55) C.1 C.2.1 dX2_holds_1 (by rw [c_5]; decide) (by rw [c_5]; decide) (by rw [c_5]; decide) (by decide) ?_
    replace c_5 : x0.toInt = 2 := i_eq c_5
    refine lv_iload_n C.1 C.2.1 dX2_holds_56 rfl (lv_at hl 1 rfl) ?_
    refine lv_if_le (tgt := 64) C.1 C.2.1 dX2_holds_57 (by decide) (fun c_6 => ?_) (fun c_6 => ?_)
    · replace c_6 : x1.toInt ≤ 0 := i_le c_6
      refine lv_iconst (v := 0) C.1 C.2.1 dX2_holds_64 (by decide) ?_
      exact g_iret C hr hlocks hP hD hS (by decide) () rfl ⟨by decide, by decide⟩ (Nat.le_of_ble_eq_true rfl) (Nat.le_of_ble_eq_true rfl) dX2_holds_65
    · replace c_6 : 0 < x1.toInt := i_nle c_6
      refine lv_iconst (v := 1) C.1 C.2.1 dX2_holds_60 (by decide) ?_
      refine lv_goto (tgt := 65) C.1 C.2.1 dX2_holds_61 (by decide) ?_
      exact g_iret C hr hlocks hP hD hS (by decide) () rfl ⟨by decide, by decide⟩ (Nat.le_of_ble_eq_true rfl) (Nat.le_of_ble_eq_true rfl) dX2_holds_65
  replace c_5 : ¬ x0.toInt = 2 := i_ne c_5
  by_cases c_7 : x0 = 3
  · refine lv_tableIn (tgt := 66) (off := 65) C.1 C.2.1 dX2_holds_1 (by rw [c_7]; decide) (by rw [c_7]; decide) (by rw [c_7]; decide) (by decide) ?_
    replace c_7 : x0.toInt = 3 := i_eq c_7
    refine lv_iload_n C.1 C.2.1 dX2_holds_66 rfl (lv_at hl 1 rfl) ?_
    refine lv_if_lt (tgt := 74) C.1 C.2.1 dX2_holds_67 (by decide) (fun c_8 => ?_) (fun c_8 => ?_)
    · replace c_8 : x1.toInt < 0 := i_lt c_8
      refine lv_iconst (v := 0) C.1 C.2.1 dX2_holds_74 (by decide) ?_
      exact g_iret C hr hlocks hP hD hS (by decide) () rfl ⟨by decide, by decide⟩ (Nat.le_of_ble_eq_true rfl) (Nat.le_of_ble_eq_true rfl) dX2_holds_75
    · replace c_8 : 0 ≤ x1.toInt := i_nlt c_8
      refine lv_iconst (v := 1) C.1 C.2.1 dX2_holds_70 (by decide) ?_
      refine lv_goto (tgt := 75) C.1 C.2.1 dX2_holds_71 (by decide) ?_
      exact g_iret C hr hlocks hP hD hS (by decide) () rfl ⟨by decide, by decide⟩ (Nat.le_of_ble_eq_true rfl) (Nat.le_of_ble_eq_true rfl) dX2_holds_75
  replace c_7 : ¬ x0.toInt = 3 := i_ne c_7
  by_cases c_9 : x0 = 4
  · refine lv_tableIn (tgt := 76) (off := 75) C.1 C.2.1 dX2_holds_1 (by rw [c_9]; decide) (by rw [c_9]; decide) (by rw [c_9]; decide) (by decide) ?_
    replace c_9 : x0.toInt = 4 := i_eq c_9
    refine lv_iload_n C.1 C.2.1 dX2_holds_76 rfl (lv_at hl 1 rfl) ?_
    refine lv_if_eq (tgt := 84) C.1 C.2.1 dX2_holds_77 (by decide) (fun c_10 => ?_) (fun c_10 => ?_)
    · replace c_10 : x1.toInt = 0 := i_eq c_10
      refine lv_iconst (v := 0) C.1 C.2.1 dX2_holds_84 (by decide) ?_
      exact g_iret C hr hlocks hP hD hS (by decide) () rfl ⟨by decide, by decide⟩ (Nat.le_of_ble_eq_true rfl) (Nat.le_of_ble_eq_true rfl) dX2_holds_85
    · replace c_10 : ¬ x1.toInt = 0 := i_ne c_10
      refine lv_iconst (v := 1) C.1 C.2.1 dX2_holds_80 (by decide) ?_
      refine lv_goto (tgt := 85) C.1 C.2.1 dX2_holds_81 (by decide) ?_
      exact g_iret C hr hlocks hP hD hS (by decide) () rfl ⟨by decide, by decide⟩ (Nat.le_of_ble_eq_true rfl) (Nat.le_of_ble_eq_true rfl) dX2_holds_85
  replace c_9 : ¬ x0.toInt = 4 := i_ne c_9
  refine lv_tableOut (tgt := 86) C.1 C.2.1 dX2_holds_1 (by omega) (by decide) ?_
  refine lv_iload_n C.1 C.2.1 dX2_holds_86 rfl (lv_at hl 1 rfl) ?_
  refine lv_if_gt (tgt := 94) C.1 C.2.1 dX2_holds_87 (by decide) (fun c_11 => ?_) (fun c_11 => ?_)
  · replace c_11 : 0 < x1.toInt := i_lt c_11
    refine lv_iconst (v := 0) C.1 C.2.1 dX2_holds_94 (by decide) ?_
    exact g_iret C hr hlocks hP hD hS (by decide) () rfl ⟨by decide, by decide⟩ (Nat.le_of_ble_eq_true rfl) (Nat.le_of_ble_eq_true rfl) dX2_holds_95
  · replace c_11 : x1.toInt ≤ 0 := i_nlt c_11
    refine lv_iconst (v := 1) C.1 C.2.1 dX2_holds_90 (by decide) ?_
    refine lv_goto (tgt := 95) C.1 C.2.1 dX2_holds_91 (by decide) ?_
    exact g_iret C hr hlocks hP hD hS (by decide) () rfl ⟨by decide, by decide⟩ (Nat.le_of_ble_eq_true rfl) (Nat.le_of_ble_eq_true rfl) dX2_holds_95

theorem dX5_need_0 : decode cX5_need 0 = .ok (.aload_n 0, 1) := by decide +kernel
theorem dX5_need_1 : decode cX5_need 1 = .ok (.iload_n 1, 1) := by decide +kernel
theorem dX5_need_10 : decode cX5_need 10 = .ok (.invokevirtual 99, 3) := by decide +kernel
theorem dX5_need_13 : decode cX5_need 13 = .ok (.return_, 1) := by decide +kernel
theorem dX5_need_2 : decode cX5_need 2 = .ok (.invokevirtual 73, 3) := by decide +kernel
theorem dX5_need_5 : decode cX5_need 5 = .ok (.ifCond .ne 8, 3) := by decide +kernel
theorem dX5_need_8 : decode cX5_need 8 = .ok (.aload_n 0, 1) := by decide +kernel
theorem dX5_need_9 : decode cX5_need 9 = .ok (.iconst 1, 1) := by decide +kernel
set_option maxHeartbeats 4000000 in
set_option maxRecDepth 100000 in
theorem T_X5_need (l : Launch) (D : va_G) (K : Nat → ClassId) (Z Y : Nat → Nat) (ad : Nat → Nat) (d : dSt) (t : tSt) (hok : okX t) (x1 : Int32) (hx1 : (32 : Int) ≤ x1.toInt ∧ x1.toInt ≤ 61) : tMet l yX5_need cX5_need 2 none (rmD 1 0 0) D K Z Y [.ref (ad 24), .int x1] ((WX d) K ad t) (QV D K (fun (u : tSt) => okX u ∧ frA [(24, 2), (24, 4)] [] [] [] t u) (fun (u : tSt) => (WX d) K ad u)) 0 0 := by
  refine t_met RX5 ⟨rfl, by decide +kernel⟩ (Nat.le_of_ble_eq_true rfl) ?_
  intro p e s m below meth c A ls C hE hZ hr hlocks hA hP hD hS hl
  have hl : lv_has ls 2 [(0, .ref (ad 24)), (1, .int x1)] := hl
  have hokt := hok
  have hfr : frA [(24, 2), (24, 4)] [] [] [] t t := frA_rf
  refine lv_aload_n C.1 C.2.1 dX5_need_0 rfl (lv_at hl 0 rfl) ?_
  refine lv_iload_n C.1 C.2.1 dX5_need_1 rfl (lv_at hl 1 rfl) ?_
  refine g_Vi (As := [.int x1]) (rest := []) C hP hD hS hA (T_X5_pass l D K Z Y ad d t hok (x1) (show (32 : Int) ≤ (x1 : Int32).toInt ∧ (x1 : Int32).toInt ≤ 61 from ⟨by omega, by omega⟩)) hE hZ (uwV m_22_9 m_21_9 m_21_10 m_5_22 m_21_11) (hdV 1 (by decide +kernel) rfl) ⟨Nat.le_of_ble_eq_true rfl, Nat.le_of_ble_eq_true rfl⟩ rfl rfl (ci := 4) (q0 := 24) rfl rfl rfl hl.1 (Nat.le_of_ble_eq_true rfl) dX5_need_2 ⟨Nat.le_of_ble_eq_true rfl, Nat.le_of_ble_eq_true rfl⟩ (fun r_2 t_1 H locs hw hP hD hS => ?_)
  obtain ⟨hok, f_3, h_4, h_5⟩ := hw
  have hfr : frA [(24, 2), (24, 4)] [] [] [] t t_1 := frA_tr hfr f_3 rfl
  refine lv_if_ne (tgt := 13) C.1 C.2.1 dX5_need_5 (by decide) (fun c_6 => ?_) (fun c_6 => ?_)
  · replace c_6 : ¬ r_2.toInt = 0 := i_ne c_6
    exact g_vret C hr hlocks hP hD hS t_1 rfl ⟨hok, hfr⟩ (Nat.le_of_ble_eq_true rfl) (Nat.le_of_ble_eq_true rfl) dX5_need_13
  · replace c_6 : r_2.toInt = 0 := i_eq c_6
    refine lv_aload_n C.1 C.2.1 dX5_need_8 rfl (lv_at hl 0 rfl) ?_
    refine lv_iconst (v := 1) C.1 C.2.1 dX5_need_9 (by decide) ?_
    refine g_Vv (As := [.int 1]) (rest := []) C hP hD hS hA (T_X5_fail l D K Z Y ad d t_1 hok 1 (show (1 : Int) ≤ (1 : Int32).toInt ∧ (1 : Int32).toInt ≤ 6 from ⟨by decide, by decide⟩)) hE hZ (uwV m_23_0 m_23_1 m_23_2 m_5_22 m_23_3) (hdV 1 (by decide +kernel) rfl) ⟨Nat.le_of_ble_eq_true rfl, Nat.le_of_ble_eq_true rfl⟩ rfl rfl (ci := 4) (q0 := 24) rfl rfl rfl hl.1 (Nat.le_of_ble_eq_true rfl) dX5_need_10 ⟨Nat.le_of_ble_eq_true rfl, Nat.le_of_ble_eq_true rfl⟩ (fun t_7 H locs hw hP hD hS => ?_)
    obtain ⟨hok, f_9⟩ := hw
    have hfr : frA [(24, 2), (24, 4)] [] [] [] t t_7 := frA_tr hfr f_9 rfl
    exact g_vret C hr hlocks hP hD hS t_7 rfl ⟨hok, hfr⟩ (Nat.le_of_ble_eq_true rfl) (Nat.le_of_ble_eq_true rfl) dX5_need_13

theorem dX8_addUse_0 : decode cX8_addUse 0 = .ok (.aload_n 0, 1) := by decide +kernel
theorem dX8_addUse_1 : decode cX8_addUse 1 = .ok (.getfield 51, 3) := by decide +kernel
theorem dX8_addUse_10 : decode cX8_addUse 10 = .ok (.aload_n 0, 1) := by decide +kernel
theorem dX8_addUse_11 : decode cX8_addUse 11 = .ok (.getfield 35, 3) := by decide +kernel
theorem dX8_addUse_14 : decode cX8_addUse 14 = .ok (.aload_n 0, 1) := by decide +kernel
theorem dX8_addUse_15 : decode cX8_addUse 15 = .ok (.getfield 51, 3) := by decide +kernel
theorem dX8_addUse_18 : decode cX8_addUse 18 = .ok (.iload_n 1, 1) := by decide +kernel
theorem dX8_addUse_19 : decode cX8_addUse 19 = .ok (.iastore, 1) := by decide +kernel
theorem dX8_addUse_20 : decode cX8_addUse 20 = .ok (.aload_n 0, 1) := by decide +kernel
theorem dX8_addUse_21 : decode cX8_addUse 21 = .ok (.getfield 38, 3) := by decide +kernel
theorem dX8_addUse_24 : decode cX8_addUse 24 = .ok (.aload_n 0, 1) := by decide +kernel
theorem dX8_addUse_25 : decode cX8_addUse 25 = .ok (.getfield 51, 3) := by decide +kernel
theorem dX8_addUse_28 : decode cX8_addUse 28 = .ok (.iload_n 2, 1) := by decide +kernel
theorem dX8_addUse_29 : decode cX8_addUse 29 = .ok (.iastore, 1) := by decide +kernel
theorem dX8_addUse_30 : decode cX8_addUse 30 = .ok (.aload_n 0, 1) := by decide +kernel
theorem dX8_addUse_31 : decode cX8_addUse 31 = .ok (.getfield 41, 3) := by decide +kernel
theorem dX8_addUse_34 : decode cX8_addUse 34 = .ok (.aload_n 0, 1) := by decide +kernel
theorem dX8_addUse_35 : decode cX8_addUse 35 = .ok (.getfield 51, 3) := by decide +kernel
theorem dX8_addUse_38 : decode cX8_addUse 38 = .ok (.iload_n 3, 1) := by decide +kernel
theorem dX8_addUse_39 : decode cX8_addUse 39 = .ok (.iastore, 1) := by decide +kernel
theorem dX8_addUse_4 : decode cX8_addUse 4 = .ok (.sipush 512, 3) := by decide +kernel
theorem dX8_addUse_40 : decode cX8_addUse 40 = .ok (.aload_n 0, 1) := by decide +kernel
theorem dX8_addUse_41 : decode cX8_addUse 41 = .ok (.dup, 1) := by decide +kernel
theorem dX8_addUse_42 : decode cX8_addUse 42 = .ok (.getfield 51, 3) := by decide +kernel
theorem dX8_addUse_45 : decode cX8_addUse 45 = .ok (.iconst 1, 1) := by decide +kernel
theorem dX8_addUse_46 : decode cX8_addUse 46 = .ok (.iadd, 1) := by decide +kernel
theorem dX8_addUse_47 : decode cX8_addUse 47 = .ok (.putfield 51, 3) := by decide +kernel
theorem dX8_addUse_50 : decode cX8_addUse 50 = .ok (.return_, 1) := by decide +kernel
theorem dX8_addUse_7 : decode cX8_addUse 7 = .ok (.if_icmp .ge 43, 3) := by decide +kernel
set_option maxHeartbeats 4000000 in
set_option maxRecDepth 100000 in
theorem T_X8_addUse (l : Launch) (D : va_G) (K : Nat → ClassId) (Z Y : Nat → Nat) (ad : Nat → Nat) (d : dSt) (t : tSt) (hok : okX t) (x1 : Int32) (hx1 : (-1073741824 : Int) ≤ x1.toInt ∧ x1.toInt ≤ 3999) (x2 : Int32) (hx2 : (-89 : Int) ≤ x2.toInt ∧ x2.toInt ≤ 2147483647) (x3 : Int32) : tMet l yX8_addUse cX8_addUse 4 none (rmD 0 0 0) D K Z Y [.ref (ad 23), .int x1, .int x2, .int x3] ((WX d) K ad t) (QV D K (fun (u : tSt) => okX u ∧ frA [(23, 12)] [] [48, 49, 50] [] t u) (fun (u : tSt) => (WX d) K ad u)) 0 0 := by
  refine t_met RX8 ⟨rfl, by decide +kernel⟩ (Nat.le_of_ble_eq_true rfl) ?_
  intro p e s m below meth c A ls C hE hZ hr hlocks hA hP hD hS hl
  have hl : lv_has ls 4 [(0, .ref (ad 23)), (1, .int x1), (2, .int x2), (3, .int x3)] := hl
  have hokt := hok
  have hfr : frA [(23, 12)] [] [48, 49, 50] [] t t := frA_rf
  refine lv_aload_n C.1 C.2.1 dX8_addUse_0 rfl (lv_at hl 0 rfl) ?_
  have h_1 : (0 : Int) ≤ (t.1 23 12).toInt ∧ (t.1 23 12).toInt ≤ 512 := hok.1 23 12
  refine k_get (v := .int (t.1 23 12)) C hP 23 rfl rfl inlX8 12 (by decide) m_13_10 rfl dX8_addUse_1 ?_
  refine lv_sipush (v := 512) C.1 C.2.1 dX8_addUse_4 (by decide) ?_
  refine lv_icmp_ge (tgt := 50) C.1 C.2.1 dX8_addUse_7 (by decide) (fun c_2 => ?_) (fun c_2 => ?_)
  · replace c_2 : 512 ≤ (t.1 23 12).toInt := i_le c_2
    exact g_vret C hr hlocks hP hD hS t rfl ⟨hok, hfr⟩ (Nat.le_of_ble_eq_true rfl) (Nat.le_of_ble_eq_true rfl) dX8_addUse_50
  · replace c_2 : (t.1 23 12).toInt < 512 := i_nle c_2
    refine lv_aload_n C.1 C.2.1 dX8_addUse_10 rfl (lv_at hl 0 rfl) ?_
    refine k_get (v := .ref (ad 48)) C hP 23 rfl rfl inlX8 9 (by decide) m_5_6 rfl dX8_addUse_11 ?_
    refine lv_aload_n C.1 C.2.1 dX8_addUse_14 rfl (lv_at hl 0 rfl) ?_
    refine k_get (v := .int (t.1 23 12)) C hP 23 rfl rfl inlX8 12 (by decide) m_13_10 rfl dX8_addUse_15 ?_
    refine lv_iload_n C.1 C.2.1 dX8_addUse_18 rfl (lv_at hl 1 rfl) ?_
    refine k_ist (ws' := (WX d) K ad (uB t 48 ((t.1 23 12) : Int32).toNatClampNeg x1)) (x' := x1) C hP hD hS 48 rfl (vp_in_iff.mpr ⟨by omega, by omega⟩) rfl rfl rfl dX8_addUse_19 (fun H locs hP hD hS => ?_)
    have hok : okX (uB t 48 ((t.1 23 12) : Int32).toNatClampNeg x1) := ⟨hok.1, okB_B hok.2.1 48 _ x1 (show (-1073741824 : Int) ≤ (x1 : Int32).toInt ∧ (x1 : Int32).toInt ≤ 3999 from ⟨by omega, by omega⟩), trivial⟩
    have hfr : frA [(23, 12)] [] [48, 49, 50] [] t (uB t 48 ((t.1 23 12) : Int32).toNatClampNeg x1) := frA_B hfr 48 _ _ rfl
    refine lv_aload_n C.1 C.2.1 dX8_addUse_20 rfl (lv_at hl 0 rfl) ?_
    refine k_get (v := .ref (ad 49)) C hP 23 rfl rfl inlX8 10 (by decide) m_5_7 rfl dX8_addUse_21 ?_
    refine lv_aload_n C.1 C.2.1 dX8_addUse_24 rfl (lv_at hl 0 rfl) ?_
    refine k_get (v := .int (t.1 23 12)) C hP 23 rfl rfl inlX8 12 (by decide) m_13_10 rfl dX8_addUse_25 ?_
    refine lv_iload_n C.1 C.2.1 dX8_addUse_28 rfl (lv_at hl 2 rfl) ?_
    obtain ⟨t_3, e_4⟩ : ∃ z, z = (uB t 48 ((t.1 23 12) : Int32).toNatClampNeg x1) := ⟨_, rfl⟩
    rw [← e_4] at hP hD hok hfr
    have h_5 : (t_3.1 23 12).toInt = ((t.1 23 12) : Int32).toInt := by rw [e_4]; rfl
    refine k_ist (ws' := (WX d) K ad (uB t_3 49 ((t.1 23 12) : Int32).toNatClampNeg x2)) (x' := x2) C hP hD hS 49 rfl (vp_in_iff.mpr ⟨by omega, by omega⟩) rfl rfl rfl dX8_addUse_29 (fun H locs hP hD hS => ?_)
    have hok : okX (uB t_3 49 ((t.1 23 12) : Int32).toNatClampNeg x2) := ⟨hok.1, okB_B hok.2.1 49 _ x2 (show (-128 : Int) ≤ (x2 : Int32).toInt ∧ (x2 : Int32).toInt ≤ 2147483647 from ⟨by omega, (i_rng _).2⟩), trivial⟩
    have hfr : frA [(23, 12)] [] [48, 49, 50] [] t (uB t_3 49 ((t.1 23 12) : Int32).toNatClampNeg x2) := frA_B hfr 49 _ _ rfl
    refine lv_aload_n C.1 C.2.1 dX8_addUse_30 rfl (lv_at hl 0 rfl) ?_
    refine k_get (v := .ref (ad 50)) C hP 23 rfl rfl inlX8 11 (by decide) m_5_8 rfl dX8_addUse_31 ?_
    refine lv_aload_n C.1 C.2.1 dX8_addUse_34 rfl (lv_at hl 0 rfl) ?_
    refine k_get (v := .int (t_3.1 23 12)) C hP 23 rfl rfl inlX8 12 (by decide) m_13_10 rfl dX8_addUse_35 ?_
    refine lv_iload_n C.1 C.2.1 dX8_addUse_38 rfl (lv_at hl 3 rfl) ?_
    obtain ⟨t_6, e_7⟩ : ∃ z, z = (uB t_3 49 ((t.1 23 12) : Int32).toNatClampNeg x2) := ⟨_, rfl⟩
    rw [← e_7] at hP hD hok hfr
    have h_8 : (t_6.1 23 12).toInt = ((t_3.1 23 12) : Int32).toInt := by rw [e_7]; rfl
    refine k_ist (ws' := (WX d) K ad (uB t_6 50 ((t_3.1 23 12) : Int32).toNatClampNeg x3)) (x' := x3) C hP hD hS 50 rfl (vp_in_iff.mpr ⟨by omega, by omega⟩) rfl rfl rfl dX8_addUse_39 (fun H locs hP hD hS => ?_)
    have hok : okX (uB t_6 50 ((t_3.1 23 12) : Int32).toNatClampNeg x3) := ⟨hok.1, okB_B hok.2.1 50 _ x3 (show (-2147483648 : Int) ≤ (x3 : Int32).toInt ∧ (x3 : Int32).toInt ≤ 2147483647 from (i_rng _)), trivial⟩
    have hfr : frA [(23, 12)] [] [48, 49, 50] [] t (uB t_6 50 ((t_3.1 23 12) : Int32).toNatClampNeg x3) := frA_B hfr 50 _ _ rfl
    refine lv_aload_n C.1 C.2.1 dX8_addUse_40 rfl (lv_at hl 0 rfl) ?_
    refine lv_dup C.1 C.2.1 dX8_addUse_41 rfl ?_
    refine k_get (v := .int (t_6.1 23 12)) C hP 23 rfl rfl inlX8 12 (by decide) m_13_10 rfl dX8_addUse_42 ?_
    refine lv_iconst (v := 1) C.1 C.2.1 dX8_addUse_45 (by decide) ?_
    obtain ⟨v_9, e_10⟩ : ∃ z, z = ((t_6.1 23 12) : Int32) + (1 : Int32) := ⟨_, rfl⟩
    have h_11 : v_9.toInt = (t_6.1 23 12).toInt + 1 := by rw [e_10]; exact ti_iadd (by show (_ : Int) ≤ (t_6.1 23 12).toInt + 1; omega) (by show (t_6.1 23 12).toInt + 1 < (_ : Int); omega)
    refine k_iadd (v := v_9) C e_10.symm dX8_addUse_46 ?_
    refine k_put (ws' := (WX d) K ad (uI (uB t_6 50 ((t_3.1 23 12) : Int32).toNatClampNeg x3) 23 12 v_9)) (v := .int v_9) C hP hD hS 23 rfl rfl inlX8 tyX8_ok nmX8 12 (by decide) m_13_10 rfl rfl rfl rfl rfl dX8_addUse_47 (fun H locs hP hD hS => ?_)
    have hok : okX (uI (uB t_6 50 ((t_3.1 23 12) : Int32).toNatClampNeg x3) 23 12 v_9) := ⟨okI_I hok.1 23 12 v_9 (show (0 : Int) ≤ (v_9 : Int32).toInt ∧ (v_9 : Int32).toInt ≤ 512 from ⟨by omega, by omega⟩), hok.2.1, trivial⟩
    have hfr : frA [(23, 12)] [] [48, 49, 50] [] t (uI (uB t_6 50 ((t_3.1 23 12) : Int32).toNatClampNeg x3) 23 12 v_9) := frA_I hfr 23 12 _ rfl
    exact g_vret C hr hlocks hP hD hS (uI (uB t_6 50 ((t_3.1 23 12) : Int32).toNatClampNeg x3) 23 12 v_9) rfl ⟨hok, hfr⟩ (Nat.le_of_ble_eq_true rfl) (Nat.le_of_ble_eq_true rfl) dX8_addUse_50

theorem dX0_hasWideUse_0 : decode cX0_hasWideUse 0 = .ok (.iconst 0, 1) := by decide +kernel
theorem dX0_hasWideUse_1 : decode cX0_hasWideUse 1 = .ok (.istore_n 1, 1) := by decide +kernel
theorem dX0_hasWideUse_10 : decode cX0_hasWideUse 10 = .ok (.if_icmp .ge 74, 3) := by decide +kernel
theorem dX0_hasWideUse_13 : decode cX0_hasWideUse 13 = .ok (.aload_n 0, 1) := by decide +kernel
theorem dX0_hasWideUse_14 : decode cX0_hasWideUse 14 = .ok (.getfield 32, 3) := by decide +kernel
theorem dX0_hasWideUse_17 : decode cX0_hasWideUse 17 = .ok (.getfield 254, 3) := by decide +kernel
theorem dX0_hasWideUse_2 : decode cX0_hasWideUse 2 = .ok (.iload_n 1, 1) := by decide +kernel
theorem dX0_hasWideUse_20 : decode cX0_hasWideUse 20 = .ok (.iload_n 1, 1) := by decide +kernel
theorem dX0_hasWideUse_21 : decode cX0_hasWideUse 21 = .ok (.iaload, 1) := by decide +kernel
theorem dX0_hasWideUse_22 : decode cX0_hasWideUse 22 = .ok (.istore_n 2, 1) := by decide +kernel
theorem dX0_hasWideUse_23 : decode cX0_hasWideUse 23 = .ok (.iload_n 2, 1) := by decide +kernel
theorem dX0_hasWideUse_24 : decode cX0_hasWideUse 24 = .ok (.bipush (-2), 2) := by decide +kernel
theorem dX0_hasWideUse_26 : decode cX0_hasWideUse 26 = .ok (.if_icmp .ne 15, 3) := by decide +kernel
theorem dX0_hasWideUse_29 : decode cX0_hasWideUse 29 = .ok (.aload_n 0, 1) := by decide +kernel
theorem dX0_hasWideUse_3 : decode cX0_hasWideUse 3 = .ok (.aload_n 0, 1) := by decide +kernel
theorem dX0_hasWideUse_30 : decode cX0_hasWideUse 30 = .ok (.getfield 32, 3) := by decide +kernel
theorem dX0_hasWideUse_33 : decode cX0_hasWideUse 33 = .ok (.getfield 260, 3) := by decide +kernel
theorem dX0_hasWideUse_36 : decode cX0_hasWideUse 36 = .ok (.iload_n 1, 1) := by decide +kernel
theorem dX0_hasWideUse_37 : decode cX0_hasWideUse 37 = .ok (.iaload, 1) := by decide +kernel
theorem dX0_hasWideUse_38 : decode cX0_hasWideUse 38 = .ok (.goto 4, 3) := by decide +kernel
theorem dX0_hasWideUse_4 : decode cX0_hasWideUse 4 = .ok (.getfield 32, 3) := by decide +kernel
theorem dX0_hasWideUse_41 : decode cX0_hasWideUse 41 = .ok (.iconst 0, 1) := by decide +kernel
theorem dX0_hasWideUse_42 : decode cX0_hasWideUse 42 = .ok (.istore_n 3, 1) := by decide +kernel
theorem dX0_hasWideUse_43 : decode cX0_hasWideUse 43 = .ok (.aload_n 0, 1) := by decide +kernel
theorem dX0_hasWideUse_44 : decode cX0_hasWideUse 44 = .ok (.getfield 32, 3) := by decide +kernel
theorem dX0_hasWideUse_47 : decode cX0_hasWideUse 47 = .ok (.iload_n 2, 1) := by decide +kernel
theorem dX0_hasWideUse_48 : decode cX0_hasWideUse 48 = .ok (.invokevirtual 150, 3) := by decide +kernel
theorem dX0_hasWideUse_51 : decode cX0_hasWideUse 51 = .ok (.iconst 2, 1) := by decide +kernel
theorem dX0_hasWideUse_52 : decode cX0_hasWideUse 52 = .ok (.if_icmp .ne 13, 3) := by decide +kernel
theorem dX0_hasWideUse_55 : decode cX0_hasWideUse 55 = .ok (.aload_n 0, 1) := by decide +kernel
theorem dX0_hasWideUse_56 : decode cX0_hasWideUse 56 = .ok (.getfield 32, 3) := by decide +kernel
theorem dX0_hasWideUse_59 : decode cX0_hasWideUse 59 = .ok (.getfield 263, 3) := by decide +kernel
theorem dX0_hasWideUse_62 : decode cX0_hasWideUse 62 = .ok (.iload_n 2, 1) := by decide +kernel
theorem dX0_hasWideUse_63 : decode cX0_hasWideUse 63 = .ok (.iaload, 1) := by decide +kernel
theorem dX0_hasWideUse_64 : decode cX0_hasWideUse 64 = .ok (.istore_n 3, 1) := by decide +kernel
theorem dX0_hasWideUse_65 : decode cX0_hasWideUse 65 = .ok (.iload_n 3, 1) := by decide +kernel
theorem dX0_hasWideUse_66 : decode cX0_hasWideUse 66 = .ok (.ldc_w 266, 3) := by decide +kernel
theorem dX0_hasWideUse_69 : decode cX0_hasWideUse 69 = .ok (.iand, 1) := by decide +kernel
theorem dX0_hasWideUse_7 : decode cX0_hasWideUse 7 = .ok (.getfield 251, 3) := by decide +kernel
theorem dX0_hasWideUse_70 : decode cX0_hasWideUse 70 = .ok (.sipush 4095, 3) := by decide +kernel
theorem dX0_hasWideUse_73 : decode cX0_hasWideUse 73 = .ok (.if_icmp .le 5, 3) := by decide +kernel
theorem dX0_hasWideUse_76 : decode cX0_hasWideUse 76 = .ok (.iconst 1, 1) := by decide +kernel
theorem dX0_hasWideUse_77 : decode cX0_hasWideUse 77 = .ok (.ireturn, 1) := by decide +kernel
theorem dX0_hasWideUse_78 : decode cX0_hasWideUse 78 = .ok (.iinc 1 1, 3) := by decide +kernel
theorem dX0_hasWideUse_81 : decode cX0_hasWideUse 81 = .ok (.goto (-79), 3) := by decide +kernel
theorem dX0_hasWideUse_84 : decode cX0_hasWideUse 84 = .ok (.iconst 0, 1) := by decide +kernel
theorem dX0_hasWideUse_85 : decode cX0_hasWideUse 85 = .ok (.ireturn, 1) := by decide +kernel
set_option maxHeartbeats 4000000 in
set_option maxRecDepth 100000 in
theorem T_X0_hasWideUse (l : Launch) (D : va_G) (K : Nat → ClassId) (Z Y : Nat → Nat) (ad : Nat → Nat) (d : dSt) (t : tSt) (hok : okX t)  : tMet l yX0_hasWideUse cX0_hasWideUse 4 (some .boolean) (rmD 1 0 0) D K Z Y [.ref (ad 5)] ((WX d) K ad t) (QI D K (fun (r : Int32) (u : Unit) => (0 : Int) ≤ r.toInt ∧ r.toInt ≤ 1) (fun (_ : Unit) => (WX d) K ad t)) 0 0 := by
  refine t_met RX0 ⟨rfl, by decide +kernel⟩ (Nat.le_of_ble_eq_true rfl) ?_
  intro p e s m below meth c A ls C hE hZ hr hlocks hA hP hD hS hl
  have hl : lv_has ls 4 [(0, .ref (ad 5))] := hl
  have h_1 : (0 : Int) ≤ (t.1 23 3).toInt ∧ (t.1 23 3).toInt ≤ 1024 := hok.1 23 3
  have L_2 : ∀ (fuel_2 : Nat) (w2_1 : Int32) (H : Heap) (locs : List Loc) (ls : Array Slot), (0 : Int) ≤ w2_1.toInt ∧ w2_1.toInt ≤ 512 → (512 : Int) - w2_1.toInt < (fuel_2 : Int) → va_P D vwCl ((WX d) K ad t) H → va_D A ((WX d) K ad t) → va_S A s.heap H locs → lv_has ls 4 [(0, .ref (ad 5)), (1, .int w2_1)] → W p l e (rmD 1 0 0) s m [.ref (ad 5)].toArray below meth c H locs 0 0 (MQ below (QI D K (fun (r : Int32) (u : Unit) => (0 : Int) ≤ r.toInt ∧ r.toInt ≤ 1) (fun (_ : Unit) => (WX d) K ad t) A) [.ref (ad 5)].toArray s 0 0 A) (F0 m 2 ls []) := by
    intro fuel_2
    induction fuel_2 with
    | zero =>
      intro w2_1 H locs ls hw2_1 hm2_2 hP hD hS hl
      have h_2 : (0 : Int) ≤ (t.1 23 3).toInt ∧ (t.1 23 3).toInt ≤ 1024 := hok.1 23 3
      exact absurd hm2_2 (by omega)
    | succ fuel_2 ih_2 =>
      intro w2_1 H locs ls hw2_1 hm2_2 hP hD hS hl
      have hm2_2 : (512 : Int) - w2_1.toInt < (fuel_2 : Int) + 1 := by omega
      have h_3 : (0 : Int) ≤ (t.1 23 3).toInt ∧ (t.1 23 3).toInt ≤ 1024 := hok.1 23 3
      refine lv_iload_n C.1 C.2.1 dX0_hasWideUse_2 rfl (lv_at hl 1 rfl) ?_
      refine lv_aload_n C.1 C.2.1 dX0_hasWideUse_3 rfl (lv_at hl 0 rfl) ?_
      refine k_get (v := .ref (ad 23)) C hP 5 rfl rfl inlX0 2 (by decide) m_5_19 rfl dX0_hasWideUse_4 ?_
      have h_4 : (0 : Int) ≤ (t.1 23 12).toInt ∧ (t.1 23 12).toInt ≤ 512 := hok.1 23 12
      refine k_get (v := .int (t.1 23 12)) C hP 23 rfl rfl inlX8 12 (by decide) m_27_3 rfl dX0_hasWideUse_7 ?_
      refine lv_icmp_ge (tgt := 84) C.1 C.2.1 dX0_hasWideUse_10 (by decide) (fun c_5 => ?_) (fun c_5 => ?_)
      · replace c_5 : (t.1 23 12).toInt ≤ w2_1.toInt := i_le c_5
        refine lv_iconst (v := 0) C.1 C.2.1 dX0_hasWideUse_84 (by decide) ?_
        exact g_iret C hr hlocks hP hD hS (by decide) () rfl ⟨by decide, by decide⟩ (Nat.le_of_ble_eq_true rfl) (Nat.le_of_ble_eq_true rfl) dX0_hasWideUse_85
      · replace c_5 : w2_1.toInt < (t.1 23 12).toInt := i_nle c_5
        refine lv_aload_n C.1 C.2.1 dX0_hasWideUse_13 rfl (lv_at hl 0 rfl) ?_
        refine k_get (v := .ref (ad 23)) C hP 5 rfl rfl inlX0 2 (by decide) m_5_19 rfl dX0_hasWideUse_14 ?_
        refine k_get (v := .ref (ad 49)) C hP 23 rfl rfl inlX8 10 (by decide) m_27_4 rfl dX0_hasWideUse_17 ?_
        refine lv_iload_n C.1 C.2.1 dX0_hasWideUse_20 rfl (lv_at hl 1 rfl) ?_
        obtain ⟨v_6, e_7⟩ : ∃ z, z = (t.2.2.1 49 (w2_1 : Int32).toNatClampNeg) := ⟨_, rfl⟩
        have h_8 : (-128 : Int) ≤ v_6.toInt ∧ v_6.toInt ≤ 2147483647 := by rw [e_7]; exact hok.2.1 49 _
        refine k_ild (v := v_6) C hP 49 rfl (vp_in_iff.mpr ⟨by omega, by omega⟩) e_7.symm dX0_hasWideUse_21 ?_
        refine lv_istore_n (lv' := [(2, .int v_6), (0, .ref (ad 5)), (1, .int w2_1)]) C.1 C.2.1 dX0_hasWideUse_22 rfl hl (by decide) rfl (fun ls hl => ?_)
        have hl : lv_has ls 4 [(0, .ref (ad 5)), (1, .int w2_1), (2, .int v_6)] := lv_sub hl [1, 2, 0] rfl
        refine lv_iload_n C.1 C.2.1 dX0_hasWideUse_23 rfl (lv_at hl 2 rfl) ?_
        refine lv_bipush (v := (-2)) C.1 C.2.1 dX0_hasWideUse_24 (by decide) ?_
        refine lv_icmp_ne (tgt := 41) C.1 C.2.1 dX0_hasWideUse_26 (by decide) (fun c_9 => ?_) (fun c_9 => ?_)
        · replace c_9 : ¬ v_6.toInt = (-2) := i_ne c_9
          refine lv_iconst (v := 0) C.1 C.2.1 dX0_hasWideUse_41 (by decide) ?_
          refine lv_istore_n (lv' := [(3, .int 0), (0, .ref (ad 5)), (1, .int w2_1), (2, .int v_6)]) C.1 C.2.1 dX0_hasWideUse_42 rfl hl (by decide) rfl (fun ls hl => ?_)
          have hl : lv_has ls 4 [(0, .ref (ad 5)), (1, .int w2_1), (2, .int v_6), (3, .int 0)] := lv_sub hl [1, 2, 3, 0] rfl
          refine lv_aload_n C.1 C.2.1 dX0_hasWideUse_43 rfl (lv_at hl 0 rfl) ?_
          refine k_get (v := .ref (ad 23)) C hP 5 rfl rfl inlX0 2 (by decide) m_5_19 rfl dX0_hasWideUse_44 ?_
          refine lv_iload_n C.1 C.2.1 dX0_hasWideUse_47 rfl (lv_at hl 2 rfl) ?_
          refine g_Vi (As := [.int v_6]) (rest := []) C hP hD hS hA (T_X8_standing l D K Z Y ad d t hok (v_6) (show (-128 : Int) ≤ (v_6 : Int32).toInt ∧ (v_6 : Int32).toInt ≤ 2147483647 from ⟨by omega, (i_rng _).2⟩)) hE hZ (uwV m_20_15 m_20_16 m_20_17 m_2_5 m_20_18) (hdV 1 (by decide +kernel) rfl) ⟨Nat.le_of_ble_eq_true rfl, Nat.le_of_ble_eq_true rfl⟩ rfl rfl (ci := 7) (q0 := 23) rfl rfl rfl hl.1 (Nat.le_of_ble_eq_true rfl) dX0_hasWideUse_48 ⟨Nat.le_of_ble_eq_true rfl, Nat.le_of_ble_eq_true rfl⟩ (fun r_11 t_10 H locs hw hP hD hS => ?_)
          obtain ⟨h_13, h_14, p_15⟩ := hw
          replace p_15 : ¬ r_11.toInt = 0 → 0 ≤ v_6.toInt ∧ v_6.toInt < (t.1 23 3).toInt := p_15
          refine lv_iconst (v := 2) C.1 C.2.1 dX0_hasWideUse_51 (by decide) ?_
          refine lv_icmp_ne (tgt := 65) C.1 C.2.1 dX0_hasWideUse_52 (by decide) (fun c_16 => ?_) (fun c_16 => ?_)
          · replace c_16 : ¬ r_11.toInt = 2 := i_ne c_16
            refine lv_iload_n C.1 C.2.1 dX0_hasWideUse_65 rfl (lv_at hl 3 rfl) ?_
            refine lv_ldcw (v := 1073741823) C.1 C.2.1 C.2.2.2.1 (C.2.2.2.2.1 _ m_27_19) dX0_hasWideUse_66 ?_
            refine k_iand (v := 0) C (by decide) dX0_hasWideUse_69 ?_
            refine lv_sipush (v := 4095) C.1 C.2.1 dX0_hasWideUse_70 (by decide) ?_
            refine lv_icmp_le (tgt := 78) C.1 C.2.1 dX0_hasWideUse_73 (by decide) (fun _ => ?_) (fun h => absurd (by decide) h)
            obtain ⟨v_17, e_18⟩ : ∃ z, z = w2_1 + 1 := ⟨_, rfl⟩
            have h_19 : v_17.toInt = w2_1.toInt + 1 := by rw [e_18]; exact ti_iadd (by show (_ : Int) ≤ w2_1.toInt + 1; omega) (by show w2_1.toInt + 1 < (_ : Int); omega)
            refine lv_iinc (v := v_17) (lv' := [(1, .int v_17), (0, .ref (ad 5)), (2, .int v_6), (3, .int 0)]) C.1 C.2.1 dX0_hasWideUse_78 hl (k := 1) rfl e_18.symm (by decide) rfl (fun ls hl => ?_)
            have hl : lv_has ls 4 [(0, .ref (ad 5)), (1, .int v_17), (2, .int v_6), (3, .int 0)] := lv_sub hl [1, 0, 2, 3] rfl
            refine lv_goto (tgt := 2) C.1 C.2.1 dX0_hasWideUse_81 (by decide) ?_
            exact ih_2 v_17 _ _ _ ⟨by omega, by omega⟩ (show (512 : Int) - v_17.toInt < (fuel_2 : Int) from by omega) hP hD hS (lv_sub hl [0, 1] rfl)
          · replace c_16 : r_11.toInt = 2 := i_eq c_16
            refine lv_aload_n C.1 C.2.1 dX0_hasWideUse_55 rfl (lv_at hl 0 rfl) ?_
            refine k_get (v := .ref (ad 23)) C hP 5 rfl rfl inlX0 2 (by decide) m_5_19 rfl dX0_hasWideUse_56 ?_
            refine k_get (v := .ref (ad 42)) C hP 23 rfl rfl inlX8 1 (by decide) m_27_18 rfl dX0_hasWideUse_59 ?_
            refine lv_iload_n C.1 C.2.1 dX0_hasWideUse_62 rfl (lv_at hl 2 rfl) ?_
            obtain ⟨v_20, e_21⟩ : ∃ z, z = (t.2.2.1 42 (v_6 : Int32).toNatClampNeg) := ⟨_, rfl⟩
            refine k_ild (v := v_20) C hP 42 rfl (vp_in_iff.mpr ⟨by omega, by omega⟩) e_21.symm dX0_hasWideUse_63 ?_
            refine lv_istore_n (lv' := [(3, .int v_20), (0, .ref (ad 5)), (1, .int w2_1), (2, .int v_6)]) C.1 C.2.1 dX0_hasWideUse_64 rfl hl (by decide) rfl (fun ls hl => ?_)
            have hl : lv_has ls 4 [(0, .ref (ad 5)), (1, .int w2_1), (2, .int v_6), (3, .int v_20)] := lv_sub hl [1, 2, 3, 0] rfl
            refine lv_iload_n C.1 C.2.1 dX0_hasWideUse_65 rfl (lv_at hl 3 rfl) ?_
            refine lv_ldcw (v := 1073741823) C.1 C.2.1 C.2.2.2.1 (C.2.2.2.2.1 _ m_27_19) dX0_hasWideUse_66 ?_
            obtain ⟨v_22, e_23⟩ : ∃ z, z = (v_20 : Int32) &&& (1073741823 : Int32) := ⟨_, rfl⟩
            have h_24 : v_22.toInt = v_20.toInt % 2 ^ 30 := by rw [e_23]; exact Jvm.Kit.i32_mask _ _ (k := 30) (by decide) (by decide)
            refine k_iand (v := v_22) C e_23.symm dX0_hasWideUse_69 ?_
            refine lv_sipush (v := 4095) C.1 C.2.1 dX0_hasWideUse_70 (by decide) ?_
            refine lv_icmp_le (tgt := 78) C.1 C.2.1 dX0_hasWideUse_73 (by decide) (fun c_25 => ?_) (fun c_25 => ?_)
            · replace c_25 : v_22.toInt ≤ 4095 := i_le c_25
              obtain ⟨v_26, e_27⟩ : ∃ z, z = w2_1 + 1 := ⟨_, rfl⟩
              have h_28 : v_26.toInt = w2_1.toInt + 1 := by rw [e_27]; exact ti_iadd (by show (_ : Int) ≤ w2_1.toInt + 1; omega) (by show w2_1.toInt + 1 < (_ : Int); omega)
              refine lv_iinc (v := v_26) (lv' := [(1, .int v_26), (0, .ref (ad 5)), (2, .int v_6), (3, .int v_20)]) C.1 C.2.1 dX0_hasWideUse_78 hl (k := 1) rfl e_27.symm (by decide) rfl (fun ls hl => ?_)
              have hl : lv_has ls 4 [(0, .ref (ad 5)), (1, .int v_26), (2, .int v_6), (3, .int v_20)] := lv_sub hl [1, 0, 2, 3] rfl
              refine lv_goto (tgt := 2) C.1 C.2.1 dX0_hasWideUse_81 (by decide) ?_
              exact ih_2 v_26 _ _ _ ⟨by omega, by omega⟩ (show (512 : Int) - v_26.toInt < (fuel_2 : Int) from by omega) hP hD hS (lv_sub hl [0, 1] rfl)
            · replace c_25 : 4095 < v_22.toInt := i_nle c_25
              refine lv_iconst (v := 1) C.1 C.2.1 dX0_hasWideUse_76 (by decide) ?_
              exact g_iret C hr hlocks hP hD hS (by decide) () rfl ⟨by decide, by decide⟩ (Nat.le_of_ble_eq_true rfl) (Nat.le_of_ble_eq_true rfl) dX0_hasWideUse_77
        · replace c_9 : v_6.toInt = (-2) := i_eq c_9
          refine lv_aload_n C.1 C.2.1 dX0_hasWideUse_29 rfl (lv_at hl 0 rfl) ?_
          refine k_get (v := .ref (ad 23)) C hP 5 rfl rfl inlX0 2 (by decide) m_5_19 rfl dX0_hasWideUse_30 ?_
          refine k_get (v := .ref (ad 50)) C hP 23 rfl rfl inlX8 11 (by decide) m_27_17 rfl dX0_hasWideUse_33 ?_
          refine lv_iload_n C.1 C.2.1 dX0_hasWideUse_36 rfl (lv_at hl 1 rfl) ?_
          obtain ⟨v_29, e_30⟩ : ∃ z, z = (t.2.2.1 50 (w2_1 : Int32).toNatClampNeg) := ⟨_, rfl⟩
          refine k_ild (v := v_29) C hP 50 rfl (vp_in_iff.mpr ⟨by omega, by omega⟩) e_30.symm dX0_hasWideUse_37 ?_
          refine lv_goto (tgt := 42) C.1 C.2.1 dX0_hasWideUse_38 (by decide) ?_
          refine lv_istore_n (lv' := [(3, .int v_29), (0, .ref (ad 5)), (1, .int w2_1), (2, .int v_6)]) C.1 C.2.1 dX0_hasWideUse_42 rfl hl (by decide) rfl (fun ls hl => ?_)
          have hl : lv_has ls 4 [(0, .ref (ad 5)), (1, .int w2_1), (2, .int v_6), (3, .int v_29)] := lv_sub hl [1, 2, 3, 0] rfl
          refine lv_aload_n C.1 C.2.1 dX0_hasWideUse_43 rfl (lv_at hl 0 rfl) ?_
          refine k_get (v := .ref (ad 23)) C hP 5 rfl rfl inlX0 2 (by decide) m_5_19 rfl dX0_hasWideUse_44 ?_
          refine lv_iload_n C.1 C.2.1 dX0_hasWideUse_47 rfl (lv_at hl 2 rfl) ?_
          refine g_Vi (As := [.int v_6]) (rest := []) C hP hD hS hA (T_X8_standing l D K Z Y ad d t hok (v_6) (show (-128 : Int) ≤ (v_6 : Int32).toInt ∧ (v_6 : Int32).toInt ≤ 2147483647 from ⟨by omega, (i_rng _).2⟩)) hE hZ (uwV m_20_15 m_20_16 m_20_17 m_2_5 m_20_18) (hdV 1 (by decide +kernel) rfl) ⟨Nat.le_of_ble_eq_true rfl, Nat.le_of_ble_eq_true rfl⟩ rfl rfl (ci := 7) (q0 := 23) rfl rfl rfl hl.1 (Nat.le_of_ble_eq_true rfl) dX0_hasWideUse_48 ⟨Nat.le_of_ble_eq_true rfl, Nat.le_of_ble_eq_true rfl⟩ (fun r_32 t_31 H locs hw hP hD hS => ?_)
          obtain ⟨h_34, h_35, p_36⟩ := hw
          replace p_36 : ¬ r_32.toInt = 0 → 0 ≤ v_6.toInt ∧ v_6.toInt < (t.1 23 3).toInt := p_36
          refine lv_iconst (v := 2) C.1 C.2.1 dX0_hasWideUse_51 (by decide) ?_
          refine lv_icmp_ne (tgt := 65) C.1 C.2.1 dX0_hasWideUse_52 (by decide) (fun c_37 => ?_) (fun c_37 => ?_)
          · replace c_37 : ¬ r_32.toInt = 2 := i_ne c_37
            refine lv_iload_n C.1 C.2.1 dX0_hasWideUse_65 rfl (lv_at hl 3 rfl) ?_
            refine lv_ldcw (v := 1073741823) C.1 C.2.1 C.2.2.2.1 (C.2.2.2.2.1 _ m_27_19) dX0_hasWideUse_66 ?_
            obtain ⟨v_38, e_39⟩ : ∃ z, z = (v_29 : Int32) &&& (1073741823 : Int32) := ⟨_, rfl⟩
            have h_40 : v_38.toInt = v_29.toInt % 2 ^ 30 := by rw [e_39]; exact Jvm.Kit.i32_mask _ _ (k := 30) (by decide) (by decide)
            refine k_iand (v := v_38) C e_39.symm dX0_hasWideUse_69 ?_
            refine lv_sipush (v := 4095) C.1 C.2.1 dX0_hasWideUse_70 (by decide) ?_
            refine lv_icmp_le (tgt := 78) C.1 C.2.1 dX0_hasWideUse_73 (by decide) (fun c_41 => ?_) (fun c_41 => ?_)
            · replace c_41 : v_38.toInt ≤ 4095 := i_le c_41
              obtain ⟨v_42, e_43⟩ : ∃ z, z = w2_1 + 1 := ⟨_, rfl⟩
              have h_44 : v_42.toInt = w2_1.toInt + 1 := by rw [e_43]; exact ti_iadd (by show (_ : Int) ≤ w2_1.toInt + 1; omega) (by show w2_1.toInt + 1 < (_ : Int); omega)
              refine lv_iinc (v := v_42) (lv' := [(1, .int v_42), (0, .ref (ad 5)), (2, .int v_6), (3, .int v_29)]) C.1 C.2.1 dX0_hasWideUse_78 hl (k := 1) rfl e_43.symm (by decide) rfl (fun ls hl => ?_)
              have hl : lv_has ls 4 [(0, .ref (ad 5)), (1, .int v_42), (2, .int v_6), (3, .int v_29)] := lv_sub hl [1, 0, 2, 3] rfl
              refine lv_goto (tgt := 2) C.1 C.2.1 dX0_hasWideUse_81 (by decide) ?_
              exact ih_2 v_42 _ _ _ ⟨by omega, by omega⟩ (show (512 : Int) - v_42.toInt < (fuel_2 : Int) from by omega) hP hD hS (lv_sub hl [0, 1] rfl)
            · replace c_41 : 4095 < v_38.toInt := i_nle c_41
              refine lv_iconst (v := 1) C.1 C.2.1 dX0_hasWideUse_76 (by decide) ?_
              exact g_iret C hr hlocks hP hD hS (by decide) () rfl ⟨by decide, by decide⟩ (Nat.le_of_ble_eq_true rfl) (Nat.le_of_ble_eq_true rfl) dX0_hasWideUse_77
          · replace c_37 : r_32.toInt = 2 := i_eq c_37
            refine lv_aload_n C.1 C.2.1 dX0_hasWideUse_55 rfl (lv_at hl 0 rfl) ?_
            refine k_get (v := .ref (ad 23)) C hP 5 rfl rfl inlX0 2 (by decide) m_5_19 rfl dX0_hasWideUse_56 ?_
            refine k_get (v := .ref (ad 42)) C hP 23 rfl rfl inlX8 1 (by decide) m_27_18 rfl dX0_hasWideUse_59 ?_
            refine lv_iload_n C.1 C.2.1 dX0_hasWideUse_62 rfl (lv_at hl 2 rfl) ?_
            obtain ⟨v_45, e_46⟩ : ∃ z, z = (t.2.2.1 42 (v_6 : Int32).toNatClampNeg) := ⟨_, rfl⟩
            refine k_ild (v := v_45) C hP 42 rfl (vp_in_iff.mpr ⟨by omega, by omega⟩) e_46.symm dX0_hasWideUse_63 ?_
            refine lv_istore_n (lv' := [(3, .int v_45), (0, .ref (ad 5)), (1, .int w2_1), (2, .int v_6)]) C.1 C.2.1 dX0_hasWideUse_64 rfl hl (by decide) rfl (fun ls hl => ?_)
            have hl : lv_has ls 4 [(0, .ref (ad 5)), (1, .int w2_1), (2, .int v_6), (3, .int v_45)] := lv_sub hl [1, 2, 3, 0] rfl
            refine lv_iload_n C.1 C.2.1 dX0_hasWideUse_65 rfl (lv_at hl 3 rfl) ?_
            refine lv_ldcw (v := 1073741823) C.1 C.2.1 C.2.2.2.1 (C.2.2.2.2.1 _ m_27_19) dX0_hasWideUse_66 ?_
            obtain ⟨v_47, e_48⟩ : ∃ z, z = (v_45 : Int32) &&& (1073741823 : Int32) := ⟨_, rfl⟩
            have h_49 : v_47.toInt = v_45.toInt % 2 ^ 30 := by rw [e_48]; exact Jvm.Kit.i32_mask _ _ (k := 30) (by decide) (by decide)
            refine k_iand (v := v_47) C e_48.symm dX0_hasWideUse_69 ?_
            refine lv_sipush (v := 4095) C.1 C.2.1 dX0_hasWideUse_70 (by decide) ?_
            refine lv_icmp_le (tgt := 78) C.1 C.2.1 dX0_hasWideUse_73 (by decide) (fun c_50 => ?_) (fun c_50 => ?_)
            · replace c_50 : v_47.toInt ≤ 4095 := i_le c_50
              obtain ⟨v_51, e_52⟩ : ∃ z, z = w2_1 + 1 := ⟨_, rfl⟩
              have h_53 : v_51.toInt = w2_1.toInt + 1 := by rw [e_52]; exact ti_iadd (by show (_ : Int) ≤ w2_1.toInt + 1; omega) (by show w2_1.toInt + 1 < (_ : Int); omega)
              refine lv_iinc (v := v_51) (lv' := [(1, .int v_51), (0, .ref (ad 5)), (2, .int v_6), (3, .int v_45)]) C.1 C.2.1 dX0_hasWideUse_78 hl (k := 1) rfl e_52.symm (by decide) rfl (fun ls hl => ?_)
              have hl : lv_has ls 4 [(0, .ref (ad 5)), (1, .int v_51), (2, .int v_6), (3, .int v_45)] := lv_sub hl [1, 0, 2, 3] rfl
              refine lv_goto (tgt := 2) C.1 C.2.1 dX0_hasWideUse_81 (by decide) ?_
              exact ih_2 v_51 _ _ _ ⟨by omega, by omega⟩ (show (512 : Int) - v_51.toInt < (fuel_2 : Int) from by omega) hP hD hS (lv_sub hl [0, 1] rfl)
            · replace c_50 : 4095 < v_47.toInt := i_nle c_50
              refine lv_iconst (v := 1) C.1 C.2.1 dX0_hasWideUse_76 (by decide) ?_
              exact g_iret C hr hlocks hP hD hS (by decide) () rfl ⟨by decide, by decide⟩ (Nat.le_of_ble_eq_true rfl) (Nat.le_of_ble_eq_true rfl) dX0_hasWideUse_77
  refine lv_iconst (v := 0) C.1 C.2.1 dX0_hasWideUse_0 (by decide) ?_
  refine lv_istore_n (lv' := [(1, .int 0), (0, .ref (ad 5))]) C.1 C.2.1 dX0_hasWideUse_1 rfl hl (by decide) rfl (fun ls hl => ?_)
  have hl : lv_has ls 4 [(0, .ref (ad 5)), (1, .int 0)] := lv_sub hl [1, 0] rfl
  exact L_2 513 0 _ _ _ ⟨by decide, by decide⟩ (show (512 : Int) - 0 < ((513 : Nat) : Int) from by omega) hP hD hS (lv_sub hl [0, 1] rfl)

theorem dX2_entered_0 : decode cX2_entered 0 = .ok (.aload_n 0, 1) := by decide +kernel
theorem dX2_entered_1 : decode cX2_entered 1 = .ok (.getfield 84, 3) := by decide +kernel
theorem dX2_entered_12 : decode cX2_entered 12 = .ok (.iload_n 1, 1) := by decide +kernel
theorem dX2_entered_13 : decode cX2_entered 13 = .ok (.bipush 7, 2) := by decide +kernel
theorem dX2_entered_15 : decode cX2_entered 15 = .ok (.if_icmp .gt 15, 3) := by decide +kernel
theorem dX2_entered_18 : decode cX2_entered 18 = .ok (.aload_n 0, 1) := by decide +kernel
theorem dX2_entered_19 : decode cX2_entered 19 = .ok (.getfield 11, 3) := by decide +kernel
theorem dX2_entered_22 : decode cX2_entered 22 = .ok (.iload_n 1, 1) := by decide +kernel
theorem dX2_entered_23 : decode cX2_entered 23 = .ok (.iaload, 1) := by decide +kernel
theorem dX2_entered_24 : decode cX2_entered 24 = .ok (.invokestatic 98, 3) := by decide +kernel
theorem dX2_entered_27 : decode cX2_entered 27 = .ok (.goto 4, 3) := by decide +kernel
theorem dX2_entered_30 : decode cX2_entered 30 = .ok (.iconst 0, 1) := by decide +kernel
theorem dX2_entered_31 : decode cX2_entered 31 = .ok (.istore_n 2, 1) := by decide +kernel
theorem dX2_entered_32 : decode cX2_entered 32 = .ok (.aload_n 0, 1) := by decide +kernel
theorem dX2_entered_33 : decode cX2_entered 33 = .ok (.getfield 87, 3) := by decide +kernel
theorem dX2_entered_36 : decode cX2_entered 36 = .ok (.ifCond .ne 10, 3) := by decide +kernel
theorem dX2_entered_39 : decode cX2_entered 39 = .ok (.iload_n 2, 1) := by decide +kernel
theorem dX2_entered_4 : decode cX2_entered 4 = .ok (.bipush 48, 2) := by decide +kernel
theorem dX2_entered_40 : decode cX2_entered 40 = .ok (.aload_n 0, 1) := by decide +kernel
theorem dX2_entered_41 : decode cX2_entered 41 = .ok (.getfield 142, 3) := by decide +kernel
theorem dX2_entered_44 : decode cX2_entered 44 = .ok (.iadd, 1) := by decide +kernel
theorem dX2_entered_45 : decode cX2_entered 45 = .ok (.ireturn, 1) := by decide +kernel
theorem dX2_entered_46 : decode cX2_entered 46 = .ok (.aload_n 0, 1) := by decide +kernel
theorem dX2_entered_47 : decode cX2_entered 47 = .ok (.getfield 87, 3) := by decide +kernel
theorem dX2_entered_50 : decode cX2_entered 50 = .ok (.iconst 1, 1) := by decide +kernel
theorem dX2_entered_51 : decode cX2_entered 51 = .ok (.if_icmp .ne 12, 3) := by decide +kernel
theorem dX2_entered_54 : decode cX2_entered 54 = .ok (.iload_n 2, 1) := by decide +kernel
theorem dX2_entered_55 : decode cX2_entered 55 = .ok (.aload_n 0, 1) := by decide +kernel
theorem dX2_entered_56 : decode cX2_entered 56 = .ok (.getfield 142, 3) := by decide +kernel
theorem dX2_entered_59 : decode cX2_entered 59 = .ok (.isub, 1) := by decide +kernel
theorem dX2_entered_6 : decode cX2_entered 6 = .ok (.isub, 1) := by decide +kernel
theorem dX2_entered_60 : decode cX2_entered 60 = .ok (.goto 7, 3) := by decide +kernel
theorem dX2_entered_63 : decode cX2_entered 63 = .ok (.aload_n 0, 1) := by decide +kernel
theorem dX2_entered_64 : decode cX2_entered 64 = .ok (.getfield 142, 3) := by decide +kernel
theorem dX2_entered_67 : decode cX2_entered 67 = .ok (.ireturn, 1) := by decide +kernel
theorem dX2_entered_7 : decode cX2_entered 7 = .ok (.istore_n 1, 1) := by decide +kernel
theorem dX2_entered_8 : decode cX2_entered 8 = .ok (.iload_n 1, 1) := by decide +kernel
theorem dX2_entered_9 : decode cX2_entered 9 = .ok (.ifCond .lt 21, 3) := by decide +kernel
set_option maxHeartbeats 4000000 in
set_option maxRecDepth 100000 in
theorem T_X2_entered (l : Launch) (D : va_G) (K : Nat → ClassId) (Z Y : Nat → Nat) (ad : Nat → Nat) (d : dSt) (t : tSt) (hok : okX t)  : tMet l yX2_entered cX2_entered 3 (some .int) (rmD 1 0 0) D K Z Y [.ref (ad 4)] ((WX d) K ad t) (QI D K (fun (r : Int32) (u : Unit) => (-2147483648 : Int) ≤ r.toInt ∧ r.toInt ≤ 2147483647) (fun (_ : Unit) => (WX d) K ad t)) 0 0 := by
  refine t_met RX2 ⟨rfl, by decide +kernel⟩ (Nat.le_of_ble_eq_true rfl) ?_
  intro p e s m below meth c A ls C hE hZ hr hlocks hA hP hD hS hl
  have hl : lv_has ls 3 [(0, .ref (ad 4))] := hl
  have L_31 : ∀ (w31_1 : Int32) (k31_0 : Int32) (H : Heap) (locs : List Loc) (ls : Array Slot), (-48 : Int) ≤ w31_1.toInt ∧ w31_1.toInt ≤ 15 → (-1073741824 : Int) ≤ k31_0.toInt ∧ k31_0.toInt ≤ 1073741823 → va_P D vwCl ((WX d) K ad t) H → va_D A ((WX d) K ad t) → va_S A s.heap H locs → lv_has ls 3 [(0, .ref (ad 4)), (1, .int w31_1)] → W p l e (rmD 1 0 0) s m [.ref (ad 4)].toArray below meth c H locs 0 0 (MQ below (QI D K (fun (r : Int32) (u : Unit) => (-2147483648 : Int) ≤ r.toInt ∧ r.toInt ≤ 2147483647) (fun (_ : Unit) => (WX d) K ad t) A) [.ref (ad 4)].toArray s 0 0 A) (F0 m 31 ls [.int k31_0]) := by
    intro w31_1 k31_0 H locs ls hw31_1 hk31_0 hP hD hS hl
    refine lv_istore_n (lv' := [(2, .int k31_0), (0, .ref (ad 4)), (1, .int w31_1)]) C.1 C.2.1 dX2_entered_31 rfl hl (by decide) rfl (fun ls hl => ?_)
    have hl : lv_has ls 3 [(0, .ref (ad 4)), (1, .int w31_1), (2, .int k31_0)] := lv_sub hl [1, 2, 0] rfl
    refine lv_aload_n C.1 C.2.1 dX2_entered_32 rfl (lv_at hl 0 rfl) ?_
    have h_1 : (0 : Int) ≤ (t.1 4 14).toInt ∧ (t.1 4 14).toInt ≤ 63 := hok.1 4 14
    refine k_get (v := .int (t.1 4 14)) C hP 4 rfl rfl inlX2 14 (by decide) m_45_19 rfl dX2_entered_33 ?_
    refine lv_if_ne (tgt := 46) C.1 C.2.1 dX2_entered_36 (by decide) (fun c_2 => ?_) (fun c_2 => ?_)
    · replace c_2 : ¬ (t.1 4 14).toInt = 0 := i_ne c_2
      refine lv_aload_n C.1 C.2.1 dX2_entered_46 rfl (lv_at hl 0 rfl) ?_
      refine k_get (v := .int (t.1 4 14)) C hP 4 rfl rfl inlX2 14 (by decide) m_45_19 rfl dX2_entered_47 ?_
      refine lv_iconst (v := 1) C.1 C.2.1 dX2_entered_50 (by decide) ?_
      refine lv_icmp_ne (tgt := 63) C.1 C.2.1 dX2_entered_51 (by decide) (fun c_3 => ?_) (fun c_3 => ?_)
      · replace c_3 : ¬ (t.1 4 14).toInt = 1 := i_ne c_3
        refine lv_aload_n C.1 C.2.1 dX2_entered_63 rfl (lv_at hl 0 rfl) ?_
        have h_4 : (-2147483648 : Int) ≤ (t.1 4 15).toInt ∧ (t.1 4 15).toInt ≤ 1073745919 := hok.1 4 15
        refine k_get (v := .int (t.1 4 15)) C hP 4 rfl rfl inlX2 15 (by decide) m_47_12 rfl dX2_entered_64 ?_
        exact g_iret C hr hlocks hP hD hS rfl () rfl ⟨(i_rng _).1, (i_rng _).2⟩ (Nat.le_of_ble_eq_true rfl) (Nat.le_of_ble_eq_true rfl) dX2_entered_67
      · replace c_3 : (t.1 4 14).toInt = 1 := i_eq c_3
        refine lv_iload_n C.1 C.2.1 dX2_entered_54 rfl (lv_at hl 2 rfl) ?_
        refine lv_aload_n C.1 C.2.1 dX2_entered_55 rfl (lv_at hl 0 rfl) ?_
        have h_5 : (-2147483648 : Int) ≤ (t.1 4 15).toInt ∧ (t.1 4 15).toInt ≤ 1073745919 := hok.1 4 15
        refine k_get (v := .int (t.1 4 15)) C hP 4 rfl rfl inlX2 15 (by decide) m_47_12 rfl dX2_entered_56 ?_
        obtain ⟨v_6, e_7⟩ : ∃ z, z = (k31_0 : Int32) - ((t.1 4 15) : Int32) := ⟨_, rfl⟩
        refine k_isub (v := v_6) C e_7.symm dX2_entered_59 ?_
        refine lv_goto (tgt := 67) C.1 C.2.1 dX2_entered_60 (by decide) ?_
        exact g_iret C hr hlocks hP hD hS rfl () rfl ⟨(i_rng _).1, (i_rng _).2⟩ (Nat.le_of_ble_eq_true rfl) (Nat.le_of_ble_eq_true rfl) dX2_entered_67
    · replace c_2 : (t.1 4 14).toInt = 0 := i_eq c_2
      refine lv_iload_n C.1 C.2.1 dX2_entered_39 rfl (lv_at hl 2 rfl) ?_
      refine lv_aload_n C.1 C.2.1 dX2_entered_40 rfl (lv_at hl 0 rfl) ?_
      have h_9 : (-2147483648 : Int) ≤ (t.1 4 15).toInt ∧ (t.1 4 15).toInt ≤ 1073745919 := hok.1 4 15
      refine k_get (v := .int (t.1 4 15)) C hP 4 rfl rfl inlX2 15 (by decide) m_47_12 rfl dX2_entered_41 ?_
      obtain ⟨v_10, e_11⟩ : ∃ z, z = (k31_0 : Int32) + ((t.1 4 15) : Int32) := ⟨_, rfl⟩
      refine k_iadd (v := v_10) C e_11.symm dX2_entered_44 ?_
      exact g_iret C hr hlocks hP hD hS rfl () rfl ⟨(i_rng _).1, (i_rng _).2⟩ (Nat.le_of_ble_eq_true rfl) (Nat.le_of_ble_eq_true rfl) dX2_entered_45
  have L_30 : ∀ (w30_1 : Int32) (H : Heap) (locs : List Loc) (ls : Array Slot), (-48 : Int) ≤ w30_1.toInt ∧ w30_1.toInt ≤ 15 → va_P D vwCl ((WX d) K ad t) H → va_D A ((WX d) K ad t) → va_S A s.heap H locs → lv_has ls 3 [(0, .ref (ad 4)), (1, .int w30_1)] → W p l e (rmD 1 0 0) s m [.ref (ad 4)].toArray below meth c H locs 0 0 (MQ below (QI D K (fun (r : Int32) (u : Unit) => (-2147483648 : Int) ≤ r.toInt ∧ r.toInt ≤ 2147483647) (fun (_ : Unit) => (WX d) K ad t) A) [.ref (ad 4)].toArray s 0 0 A) (F0 m 30 ls []) := by
    intro w30_1 H locs ls hw30_1 hP hD hS hl
    refine lv_iconst (v := 0) C.1 C.2.1 dX2_entered_30 (by decide) ?_
    exact L_31 w30_1 0 _ _ _ ⟨by omega, by omega⟩ ⟨by decide, by decide⟩ hP hD hS (lv_sub hl [0, 1] rfl)
  refine lv_aload_n C.1 C.2.1 dX2_entered_0 rfl (lv_at hl 0 rfl) ?_
  have h_13 : (0 : Int) ≤ (t.1 4 13).toInt ∧ (t.1 4 13).toInt ≤ 63 := hok.1 4 13
  refine k_get (v := .int (t.1 4 13)) C hP 4 rfl rfl inlX2 13 (by decide) m_45_18 rfl dX2_entered_1 ?_
  refine lv_bipush (v := 48) C.1 C.2.1 dX2_entered_4 (by decide) ?_
  obtain ⟨v_14, e_15⟩ : ∃ z, z = ((t.1 4 13) : Int32) - (48 : Int32) := ⟨_, rfl⟩
  have h_16 : v_14.toInt = (t.1 4 13).toInt - 48 := by rw [e_15]; exact ti_isub (by show (_ : Int) ≤ (t.1 4 13).toInt - 48; omega) (by show (t.1 4 13).toInt - 48 < (_ : Int); omega)
  refine k_isub (v := v_14) C e_15.symm dX2_entered_6 ?_
  refine lv_istore_n (lv' := [(1, .int v_14), (0, .ref (ad 4))]) C.1 C.2.1 dX2_entered_7 rfl hl (by decide) rfl (fun ls hl => ?_)
  have hl : lv_has ls 3 [(0, .ref (ad 4)), (1, .int v_14)] := lv_sub hl [1, 0] rfl
  refine lv_iload_n C.1 C.2.1 dX2_entered_8 rfl (lv_at hl 1 rfl) ?_
  refine lv_if_lt (tgt := 30) C.1 C.2.1 dX2_entered_9 (by decide) (fun c_17 => ?_) (fun c_17 => ?_)
  · replace c_17 : v_14.toInt < 0 := i_lt c_17
    exact L_30 v_14 _ _ _ ⟨by omega, by omega⟩ hP hD hS (lv_sub hl [0, 1] rfl)
  · replace c_17 : 0 ≤ v_14.toInt := i_nlt c_17
    refine lv_iload_n C.1 C.2.1 dX2_entered_12 rfl (lv_at hl 1 rfl) ?_
    refine lv_bipush (v := 7) C.1 C.2.1 dX2_entered_13 (by decide) ?_
    refine lv_icmp_gt (tgt := 30) C.1 C.2.1 dX2_entered_15 (by decide) (fun c_18 => ?_) (fun c_18 => ?_)
    · replace c_18 : 7 < v_14.toInt := i_lt c_18
      exact L_30 v_14 _ _ _ ⟨by omega, by omega⟩ hP hD hS (lv_sub hl [0, 1] rfl)
    · replace c_18 : v_14.toInt ≤ 7 := i_nlt c_18
      refine lv_aload_n C.1 C.2.1 dX2_entered_18 rfl (lv_at hl 0 rfl) ?_
      refine k_get (v := .ref (ad 22)) C hP 4 rfl rfl inlX2 1 (by decide) m_4_16 rfl dX2_entered_19 ?_
      refine lv_iload_n C.1 C.2.1 dX2_entered_22 rfl (lv_at hl 1 rfl) ?_
      obtain ⟨v_19, e_20⟩ : ∃ z, z = (t.2.2.1 22 (v_14 : Int32).toNatClampNeg) := ⟨_, rfl⟩
      refine k_ild (v := v_19) C hP 22 rfl (vp_in_iff.mpr ⟨by omega, by omega⟩) e_20.symm dX2_entered_23 ?_
      refine g_Si (As := [.int v_19]) (rest := []) C hP hD hS hA (T_X1_value l D K Z Y ad d t hok (v_19)) hE hZ (uwS m_47_19 m_23_9 m_14_2 m_23_10) (hdS 1 (by decide +kernel) rfl) ⟨Nat.le_of_ble_eq_true rfl, Nat.le_of_ble_eq_true rfl⟩ rfl rfl rfl hl.1 (Nat.le_of_ble_eq_true rfl) dX2_entered_24 ⟨Nat.le_of_ble_eq_true rfl, Nat.le_of_ble_eq_true rfl⟩ (fun r_22 t_21 H locs hw hP hD hS => ?_)
      obtain ⟨h_24, h_25⟩ := hw
      refine lv_goto (tgt := 31) C.1 C.2.1 dX2_entered_27 (by decide) ?_
      exact L_31 v_14 r_22 _ _ _ ⟨by omega, by omega⟩ ⟨by omega, by omega⟩ hP hD hS (lv_sub hl [0, 1] rfl)

theorem dX1_maskOf_0 : decode cX1_maskOf 0 = .ok (.iload_n 0, 1) := by decide +kernel
theorem dX1_maskOf_1 : decode cX1_maskOf 1 = .ok (.iconst 3, 1) := by decide +kernel
theorem dX1_maskOf_11 : decode cX1_maskOf 11 = .ok (.iload_n 0, 1) := by decide +kernel
theorem dX1_maskOf_12 : decode cX1_maskOf 12 = .ok (.bipush 7, 2) := by decide +kernel
theorem dX1_maskOf_14 : decode cX1_maskOf 14 = .ok (.iand, 1) := by decide +kernel
theorem dX1_maskOf_15 : decode cX1_maskOf 15 = .ok (.iload_n 1, 1) := by decide +kernel
theorem dX1_maskOf_16 : decode cX1_maskOf 16 = .ok (.isub, 1) := by decide +kernel
theorem dX1_maskOf_17 : decode cX1_maskOf 17 = .ok (.iconst 1, 1) := by decide +kernel
theorem dX1_maskOf_18 : decode cX1_maskOf 18 = .ok (.iadd, 1) := by decide +kernel
theorem dX1_maskOf_19 : decode cX1_maskOf 19 = .ok (.imul, 1) := by decide +kernel
theorem dX1_maskOf_2 : decode cX1_maskOf 2 = .ok (.ishr, 1) := by decide +kernel
theorem dX1_maskOf_20 : decode cX1_maskOf 20 = .ok (.ishl, 1) := by decide +kernel
theorem dX1_maskOf_21 : decode cX1_maskOf 21 = .ok (.iconst 1, 1) := by decide +kernel
theorem dX1_maskOf_22 : decode cX1_maskOf 22 = .ok (.isub, 1) := by decide +kernel
theorem dX1_maskOf_23 : decode cX1_maskOf 23 = .ok (.ireturn, 1) := by decide +kernel
theorem dX1_maskOf_3 : decode cX1_maskOf 3 = .ok (.iconst 1, 1) := by decide +kernel
theorem dX1_maskOf_4 : decode cX1_maskOf 4 = .ok (.invokestatic 26, 3) := by decide +kernel
theorem dX1_maskOf_7 : decode cX1_maskOf 7 = .ok (.istore_n 1, 1) := by decide +kernel
theorem dX1_maskOf_8 : decode cX1_maskOf 8 = .ok (.iconst 1, 1) := by decide +kernel
theorem dX1_maskOf_9 : decode cX1_maskOf 9 = .ok (.bipush 6, 2) := by decide +kernel
set_option maxHeartbeats 4000000 in
set_option maxRecDepth 100000 in
theorem T_X1_maskOf (l : Launch) (D : va_G) (K : Nat → ClassId) (Z Y : Nat → Nat) (ad : Nat → Nat) (d : dSt) (t : tSt) (hok : okX t) (x0 : Int32) (hx0 : (-1073741824 : Int) ≤ x0.toInt ∧ x0.toInt ≤ 1073741823) : tMet l yX1_maskOf cX1_maskOf 2 (some .int) (rmD 1 0 0) D K Z Y [.int x0] ((WX d) K ad t) (QI D K (fun (r : Int32) (u : Unit) => (-2147483648 : Int) ≤ r.toInt ∧ r.toInt ≤ 2147483647) (fun (_ : Unit) => (WX d) K ad t)) 0 0 := by
  refine t_met RX1 ⟨rfl, by decide +kernel⟩ (Nat.le_of_ble_eq_true rfl) ?_
  intro p e s m below meth c A ls C hE hZ hr hlocks hA hP hD hS hl
  have hl : lv_has ls 2 [(0, .int x0)] := hl
  refine lv_iload_n C.1 C.2.1 dX1_maskOf_0 rfl (lv_at hl 0 rfl) ?_
  refine lv_iconst (v := 3) C.1 C.2.1 dX1_maskOf_1 (by decide) ?_
  obtain ⟨v_1, e_2⟩ : ∃ z, z = (x0 : Int32) >>> ((3 : Int32) &&& 31) := ⟨_, rfl⟩
  have h_3 : v_1.toInt = x0.toInt / 2 ^ 3 := by rw [e_2]; exact Jvm.Kit.i32_shr _ _ (k := 3) (by decide)
  refine k_ishr (v := v_1) C e_2.symm dX1_maskOf_2 ?_
  refine lv_iconst (v := 1) C.1 C.2.1 dX1_maskOf_3 (by decide) ?_
  obtain ⟨v_5, e_4⟩ : ∃ z, z = if (v_1 : Int32) < (1 : Int32) then (1 : Int32) else (v_1 : Int32) := ⟨_, rfl⟩
  have h_6 : (1 : Int32).toInt = 1 := rfl
  have h_7 := mx_r e_4
  refine k_mmax (v := v_5) C hl.1 m_14_4 m_12_14 m_12_15 m_12_16 (Nat.le_of_ble_eq_true rfl) (Nat.le_of_ble_eq_true rfl) (Nat.le_of_ble_eq_true rfl) (Nat.le_of_ble_eq_true rfl) e_4.symm dX1_maskOf_4 ?_
  refine lv_istore_n (lv' := [(1, .int v_5), (0, .int x0)]) C.1 C.2.1 dX1_maskOf_7 rfl hl (by decide) rfl (fun ls hl => ?_)
  have hl : lv_has ls 2 [(0, .int x0), (1, .int v_5)] := lv_sub hl [1, 0] rfl
  refine lv_iconst (v := 1) C.1 C.2.1 dX1_maskOf_8 (by decide) ?_
  refine lv_bipush (v := 6) C.1 C.2.1 dX1_maskOf_9 (by decide) ?_
  refine lv_iload_n C.1 C.2.1 dX1_maskOf_11 rfl (lv_at hl 0 rfl) ?_
  refine lv_bipush (v := 7) C.1 C.2.1 dX1_maskOf_12 (by decide) ?_
  obtain ⟨v_8, e_9⟩ : ∃ z, z = (x0 : Int32) &&& (7 : Int32) := ⟨_, rfl⟩
  have h_10 : v_8.toInt = x0.toInt % 2 ^ 3 := by rw [e_9]; exact Jvm.Kit.i32_mask _ _ (k := 3) (by decide) (by decide)
  refine k_iand (v := v_8) C e_9.symm dX1_maskOf_14 ?_
  refine lv_iload_n C.1 C.2.1 dX1_maskOf_15 rfl (lv_at hl 1 rfl) ?_
  obtain ⟨v_11, e_12⟩ : ∃ z, z = (v_8 : Int32) - (v_5 : Int32) := ⟨_, rfl⟩
  have h_13 : v_11.toInt = v_8.toInt - v_5.toInt := by rw [e_12]; exact ti_isub (by show (_ : Int) ≤ v_8.toInt - v_5.toInt; omega) (by show v_8.toInt - v_5.toInt < (_ : Int); omega)
  refine k_isub (v := v_11) C e_12.symm dX1_maskOf_16 ?_
  refine lv_iconst (v := 1) C.1 C.2.1 dX1_maskOf_17 (by decide) ?_
  obtain ⟨v_14, e_15⟩ : ∃ z, z = (v_11 : Int32) + (1 : Int32) := ⟨_, rfl⟩
  have h_16 : v_14.toInt = v_11.toInt + 1 := by rw [e_15]; exact ti_iadd (by show (_ : Int) ≤ v_11.toInt + 1; omega) (by show v_11.toInt + 1 < (_ : Int); omega)
  refine k_iadd (v := v_14) C e_15.symm dX1_maskOf_18 ?_
  obtain ⟨v_17, e_18⟩ : ∃ z, z = (6 : Int32) * (v_14 : Int32) := ⟨_, rfl⟩
  have h_19 : v_17.toInt = 6 * v_14.toInt := by rw [e_18]; exact ti_mull (k := 6) (by decide) (by omega) (by omega)
  refine k_imul (v := v_17) C e_18.symm dX1_maskOf_19 ?_
  obtain ⟨v_20, e_21⟩ : ∃ z, z = (1 : Int32) <<< ((v_17 : Int32) &&& 31) := ⟨_, rfl⟩
  refine k_ishl (v := v_20) C e_21.symm dX1_maskOf_20 ?_
  refine lv_iconst (v := 1) C.1 C.2.1 dX1_maskOf_21 (by decide) ?_
  obtain ⟨v_23, e_24⟩ : ∃ z, z = (v_20 : Int32) - (1 : Int32) := ⟨_, rfl⟩
  refine k_isub (v := v_23) C e_24.symm dX1_maskOf_22 ?_
  exact g_iret C hr hlocks hP hD hS rfl () rfl ⟨(i_rng _).1, (i_rng _).2⟩ (Nat.le_of_ble_eq_true rfl) (Nat.le_of_ble_eq_true rfl) dX1_maskOf_23

theorem dX8_noteRead_0 : decode cX8_noteRead 0 = .ok (.aload_n 0, 1) := by decide +kernel
theorem dX8_noteRead_1 : decode cX8_noteRead 1 = .ok (.getfield 48, 3) := by decide +kernel
theorem dX8_noteRead_11 : decode cX8_noteRead 11 = .ok (.aload_n 0, 1) := by decide +kernel
theorem dX8_noteRead_12 : decode cX8_noteRead 12 = .ok (.getfield 25, 3) := by decide +kernel
theorem dX8_noteRead_15 : decode cX8_noteRead 15 = .ok (.iload_n 3, 1) := by decide +kernel
theorem dX8_noteRead_16 : decode cX8_noteRead 16 = .ok (.iaload, 1) := by decide +kernel
theorem dX8_noteRead_17 : decode cX8_noteRead 17 = .ok (.iload_n 2, 1) := by decide +kernel
theorem dX8_noteRead_18 : decode cX8_noteRead 18 = .ok (.if_icmp .ne 20, 3) := by decide +kernel
theorem dX8_noteRead_21 : decode cX8_noteRead 21 = .ok (.aload_n 0, 1) := by decide +kernel
theorem dX8_noteRead_22 : decode cX8_noteRead 22 = .ok (.getfield 22, 3) := by decide +kernel
theorem dX8_noteRead_25 : decode cX8_noteRead 25 = .ok (.iload_n 3, 1) := by decide +kernel
theorem dX8_noteRead_26 : decode cX8_noteRead 26 = .ok (.iaload, 1) := by decide +kernel
theorem dX8_noteRead_27 : decode cX8_noteRead 27 = .ok (.iload_n 1, 1) := by decide +kernel
theorem dX8_noteRead_28 : decode cX8_noteRead 28 = .ok (.if_icmp .ne 4, 3) := by decide +kernel
theorem dX8_noteRead_31 : decode cX8_noteRead 31 = .ok (.return_, 1) := by decide +kernel
theorem dX8_noteRead_32 : decode cX8_noteRead 32 = .ok (.iinc 3 (-1), 3) := by decide +kernel
theorem dX8_noteRead_35 : decode cX8_noteRead 35 = .ok (.goto (-28), 3) := by decide +kernel
theorem dX8_noteRead_38 : decode cX8_noteRead 38 = .ok (.aload_n 0, 1) := by decide +kernel
theorem dX8_noteRead_39 : decode cX8_noteRead 39 = .ok (.getfield 48, 3) := by decide +kernel
theorem dX8_noteRead_4 : decode cX8_noteRead 4 = .ok (.iconst 1, 1) := by decide +kernel
theorem dX8_noteRead_42 : decode cX8_noteRead 42 = .ok (.sipush 4096, 3) := by decide +kernel
theorem dX8_noteRead_45 : decode cX8_noteRead 45 = .ok (.if_icmp .ge 33, 3) := by decide +kernel
theorem dX8_noteRead_48 : decode cX8_noteRead 48 = .ok (.aload_n 0, 1) := by decide +kernel
theorem dX8_noteRead_49 : decode cX8_noteRead 49 = .ok (.getfield 22, 3) := by decide +kernel
theorem dX8_noteRead_5 : decode cX8_noteRead 5 = .ok (.isub, 1) := by decide +kernel
theorem dX8_noteRead_52 : decode cX8_noteRead 52 = .ok (.aload_n 0, 1) := by decide +kernel
theorem dX8_noteRead_53 : decode cX8_noteRead 53 = .ok (.getfield 48, 3) := by decide +kernel
theorem dX8_noteRead_56 : decode cX8_noteRead 56 = .ok (.iload_n 1, 1) := by decide +kernel
theorem dX8_noteRead_57 : decode cX8_noteRead 57 = .ok (.iastore, 1) := by decide +kernel
theorem dX8_noteRead_58 : decode cX8_noteRead 58 = .ok (.aload_n 0, 1) := by decide +kernel
theorem dX8_noteRead_59 : decode cX8_noteRead 59 = .ok (.getfield 25, 3) := by decide +kernel
theorem dX8_noteRead_6 : decode cX8_noteRead 6 = .ok (.istore_n 3, 1) := by decide +kernel
theorem dX8_noteRead_62 : decode cX8_noteRead 62 = .ok (.aload_n 0, 1) := by decide +kernel
theorem dX8_noteRead_63 : decode cX8_noteRead 63 = .ok (.getfield 48, 3) := by decide +kernel
theorem dX8_noteRead_66 : decode cX8_noteRead 66 = .ok (.iload_n 2, 1) := by decide +kernel
theorem dX8_noteRead_67 : decode cX8_noteRead 67 = .ok (.iastore, 1) := by decide +kernel
theorem dX8_noteRead_68 : decode cX8_noteRead 68 = .ok (.aload_n 0, 1) := by decide +kernel
theorem dX8_noteRead_69 : decode cX8_noteRead 69 = .ok (.dup, 1) := by decide +kernel
theorem dX8_noteRead_7 : decode cX8_noteRead 7 = .ok (.iload_n 3, 1) := by decide +kernel
theorem dX8_noteRead_70 : decode cX8_noteRead 70 = .ok (.getfield 48, 3) := by decide +kernel
theorem dX8_noteRead_73 : decode cX8_noteRead 73 = .ok (.iconst 1, 1) := by decide +kernel
theorem dX8_noteRead_74 : decode cX8_noteRead 74 = .ok (.iadd, 1) := by decide +kernel
theorem dX8_noteRead_75 : decode cX8_noteRead 75 = .ok (.putfield 48, 3) := by decide +kernel
theorem dX8_noteRead_78 : decode cX8_noteRead 78 = .ok (.return_, 1) := by decide +kernel
theorem dX8_noteRead_8 : decode cX8_noteRead 8 = .ok (.ifCond .lt 30, 3) := by decide +kernel
set_option maxHeartbeats 4000000 in
set_option maxRecDepth 100000 in
theorem T_X8_noteRead (l : Launch) (D : va_G) (K : Nat → ClassId) (Z Y : Nat → Nat) (ad : Nat → Nat) (d : dSt) (t : tSt) (hok : okX t) (x1 : Int32) (hx1 : (-1 : Int) ≤ x1.toInt ∧ x1.toInt ≤ 2147483647) (x2 : Int32) : tMet l yX8_noteRead cX8_noteRead 4 none (rmD 0 0 0) D K Z Y [.ref (ad 23), .int x1, .int x2] ((WX d) K ad t) (QV D K (fun (u : tSt) => okX u ∧ frA [(23, 6)] [] [44, 45] [] t u) (fun (u : tSt) => (WX d) K ad u)) 0 0 := by
  refine t_met RX8 ⟨rfl, by decide +kernel⟩ (Nat.le_of_ble_eq_true rfl) ?_
  intro p e s m below meth c A ls C hE hZ hr hlocks hA hP hD hS hl
  have hl : lv_has ls 4 [(0, .ref (ad 23)), (1, .int x1), (2, .int x2)] := hl
  have hokt := hok
  have hfr : frA [(23, 6)] [] [44, 45] [] t t := frA_rf
  have L_38 : ∀ (t1 : tSt) (w38_3 : Int32) (H : Heap) (locs : List Loc) (ls : Array Slot), okX t1 → frA [(23, 6)] [] [44, 45] [] t t1 → (-1 : Int) ≤ w38_3.toInt ∧ w38_3.toInt ≤ 4095 → va_P D vwCl ((WX d) K ad t1) H → va_D A ((WX d) K ad t1) → va_S A s.heap H locs → lv_has ls 4 [(0, .ref (ad 23)), (1, .int x1), (2, .int x2), (3, .int w38_3)] → W p l e (rmD 0 0 0) s m [.ref (ad 23), .int x1, .int x2].toArray below meth c H locs 0 0 (MQ below (QV D K (fun (u : tSt) => okX u ∧ frA [(23, 6)] [] [44, 45] [] t u) (fun (u : tSt) => (WX d) K ad u) A) [.ref (ad 23), .int x1, .int x2].toArray s 0 0 A) (F0 m 38 ls []) := by
    intro t1 w38_3 H locs ls hok hfr hw38_3 hP hD hS hl
    refine lv_aload_n C.1 C.2.1 dX8_noteRead_38 rfl (lv_at hl 0 rfl) ?_
    have h_1 : (0 : Int) ≤ (t1.1 23 6).toInt ∧ (t1.1 23 6).toInt ≤ 4096 := hok.1 23 6
    refine k_get (v := .int (t1.1 23 6)) C hP 23 rfl rfl inlX8 6 (by decide) m_13_9 rfl dX8_noteRead_39 ?_
    refine lv_sipush (v := 4096) C.1 C.2.1 dX8_noteRead_42 (by decide) ?_
    refine lv_icmp_ge (tgt := 78) C.1 C.2.1 dX8_noteRead_45 (by decide) (fun c_2 => ?_) (fun c_2 => ?_)
    · replace c_2 : 4096 ≤ (t1.1 23 6).toInt := i_le c_2
      exact g_vret C hr hlocks hP hD hS t1 rfl ⟨hok, hfr⟩ (Nat.le_of_ble_eq_true rfl) (Nat.le_of_ble_eq_true rfl) dX8_noteRead_78
    · replace c_2 : (t1.1 23 6).toInt < 4096 := i_nle c_2
      refine lv_aload_n C.1 C.2.1 dX8_noteRead_48 rfl (lv_at hl 0 rfl) ?_
      refine k_get (v := .ref (ad 44)) C hP 23 rfl rfl inlX8 4 (by decide) m_5_2 rfl dX8_noteRead_49 ?_
      refine lv_aload_n C.1 C.2.1 dX8_noteRead_52 rfl (lv_at hl 0 rfl) ?_
      refine k_get (v := .int (t1.1 23 6)) C hP 23 rfl rfl inlX8 6 (by decide) m_13_9 rfl dX8_noteRead_53 ?_
      refine lv_iload_n C.1 C.2.1 dX8_noteRead_56 rfl (lv_at hl 1 rfl) ?_
      refine k_ist (ws' := (WX d) K ad (uB t1 44 ((t1.1 23 6) : Int32).toNatClampNeg x1)) (x' := x1) C hP hD hS 44 rfl (vp_in_iff.mpr ⟨by omega, by omega⟩) rfl rfl rfl dX8_noteRead_57 (fun H locs hP hD hS => ?_)
      have hok : okX (uB t1 44 ((t1.1 23 6) : Int32).toNatClampNeg x1) := ⟨hok.1, okB_B hok.2.1 44 _ x1 (show (-1 : Int) ≤ (x1 : Int32).toInt ∧ (x1 : Int32).toInt ≤ 2147483647 from ⟨by omega, (i_rng _).2⟩), trivial⟩
      have hfr : frA [(23, 6)] [] [44, 45] [] t (uB t1 44 ((t1.1 23 6) : Int32).toNatClampNeg x1) := frA_B hfr 44 _ _ rfl
      refine lv_aload_n C.1 C.2.1 dX8_noteRead_58 rfl (lv_at hl 0 rfl) ?_
      refine k_get (v := .ref (ad 45)) C hP 23 rfl rfl inlX8 5 (by decide) m_5_3 rfl dX8_noteRead_59 ?_
      refine lv_aload_n C.1 C.2.1 dX8_noteRead_62 rfl (lv_at hl 0 rfl) ?_
      refine k_get (v := .int (t1.1 23 6)) C hP 23 rfl rfl inlX8 6 (by decide) m_13_9 rfl dX8_noteRead_63 ?_
      refine lv_iload_n C.1 C.2.1 dX8_noteRead_66 rfl (lv_at hl 2 rfl) ?_
      obtain ⟨t_3, e_4⟩ : ∃ z, z = (uB t1 44 ((t1.1 23 6) : Int32).toNatClampNeg x1) := ⟨_, rfl⟩
      rw [← e_4] at hP hD hok hfr
      have h_5 : (t_3.1 23 6).toInt = ((t1.1 23 6) : Int32).toInt := by rw [e_4]; rfl
      refine k_ist (ws' := (WX d) K ad (uB t_3 45 ((t1.1 23 6) : Int32).toNatClampNeg x2)) (x' := x2) C hP hD hS 45 rfl (vp_in_iff.mpr ⟨by omega, by omega⟩) rfl rfl rfl dX8_noteRead_67 (fun H locs hP hD hS => ?_)
      have hok : okX (uB t_3 45 ((t1.1 23 6) : Int32).toNatClampNeg x2) := ⟨hok.1, okB_B hok.2.1 45 _ x2 (show (-2147483648 : Int) ≤ (x2 : Int32).toInt ∧ (x2 : Int32).toInt ≤ 2147483647 from (i_rng _)), trivial⟩
      have hfr : frA [(23, 6)] [] [44, 45] [] t (uB t_3 45 ((t1.1 23 6) : Int32).toNatClampNeg x2) := frA_B hfr 45 _ _ rfl
      refine lv_aload_n C.1 C.2.1 dX8_noteRead_68 rfl (lv_at hl 0 rfl) ?_
      refine lv_dup C.1 C.2.1 dX8_noteRead_69 rfl ?_
      refine k_get (v := .int (t_3.1 23 6)) C hP 23 rfl rfl inlX8 6 (by decide) m_13_9 rfl dX8_noteRead_70 ?_
      refine lv_iconst (v := 1) C.1 C.2.1 dX8_noteRead_73 (by decide) ?_
      obtain ⟨v_6, e_7⟩ : ∃ z, z = ((t_3.1 23 6) : Int32) + (1 : Int32) := ⟨_, rfl⟩
      have h_8 : v_6.toInt = (t_3.1 23 6).toInt + 1 := by rw [e_7]; exact ti_iadd (by show (_ : Int) ≤ (t_3.1 23 6).toInt + 1; omega) (by show (t_3.1 23 6).toInt + 1 < (_ : Int); omega)
      refine k_iadd (v := v_6) C e_7.symm dX8_noteRead_74 ?_
      refine k_put (ws' := (WX d) K ad (uI (uB t_3 45 ((t1.1 23 6) : Int32).toNatClampNeg x2) 23 6 v_6)) (v := .int v_6) C hP hD hS 23 rfl rfl inlX8 tyX8_ok nmX8 6 (by decide) m_13_9 rfl rfl rfl rfl rfl dX8_noteRead_75 (fun H locs hP hD hS => ?_)
      have hok : okX (uI (uB t_3 45 ((t1.1 23 6) : Int32).toNatClampNeg x2) 23 6 v_6) := ⟨okI_I hok.1 23 6 v_6 (show (0 : Int) ≤ (v_6 : Int32).toInt ∧ (v_6 : Int32).toInt ≤ 4096 from ⟨by omega, by omega⟩), hok.2.1, trivial⟩
      have hfr : frA [(23, 6)] [] [44, 45] [] t (uI (uB t_3 45 ((t1.1 23 6) : Int32).toNatClampNeg x2) 23 6 v_6) := frA_I hfr 23 6 _ rfl
      exact g_vret C hr hlocks hP hD hS (uI (uB t_3 45 ((t1.1 23 6) : Int32).toNatClampNeg x2) 23 6 v_6) rfl ⟨hok, hfr⟩ (Nat.le_of_ble_eq_true rfl) (Nat.le_of_ble_eq_true rfl) dX8_noteRead_78
  have L_7 : ∀ (fuel_7 : Nat) (t1 : tSt) (w7_3 : Int32) (H : Heap) (locs : List Loc) (ls : Array Slot), okX t1 → frA [(23, 6)] [] [44, 45] [] t t1 → (-1 : Int) ≤ w7_3.toInt ∧ w7_3.toInt ≤ 4095 → w7_3.toInt - (-1 : Int) < (fuel_7 : Int) → va_P D vwCl ((WX d) K ad t1) H → va_D A ((WX d) K ad t1) → va_S A s.heap H locs → lv_has ls 4 [(0, .ref (ad 23)), (1, .int x1), (2, .int x2), (3, .int w7_3)] → W p l e (rmD 0 0 0) s m [.ref (ad 23), .int x1, .int x2].toArray below meth c H locs 0 0 (MQ below (QV D K (fun (u : tSt) => okX u ∧ frA [(23, 6)] [] [44, 45] [] t u) (fun (u : tSt) => (WX d) K ad u) A) [.ref (ad 23), .int x1, .int x2].toArray s 0 0 A) (F0 m 7 ls []) := by
    intro fuel_7
    induction fuel_7 with
    | zero =>
      intro t1 w7_3 H locs ls hok hfr hw7_3 hm7_7 hP hD hS hl
      exact absurd hm7_7 (by omega)
    | succ fuel_7 ih_7 =>
      intro t1 w7_3 H locs ls hok hfr hw7_3 hm7_7 hP hD hS hl
      have hm7_7 : w7_3.toInt - (-1 : Int) < (fuel_7 : Int) + 1 := by omega
      refine lv_iload_n C.1 C.2.1 dX8_noteRead_7 rfl (lv_at hl 3 rfl) ?_
      refine lv_if_lt (tgt := 38) C.1 C.2.1 dX8_noteRead_8 (by decide) (fun c_9 => ?_) (fun c_9 => ?_)
      · replace c_9 : w7_3.toInt < 0 := i_lt c_9
        exact L_38 t1 w7_3 _ _ _ hok hfr ⟨by omega, by omega⟩ hP hD hS (lv_sub hl [0, 1, 2, 3] rfl)
      · replace c_9 : 0 ≤ w7_3.toInt := i_nlt c_9
        refine lv_aload_n C.1 C.2.1 dX8_noteRead_11 rfl (lv_at hl 0 rfl) ?_
        refine k_get (v := .ref (ad 45)) C hP 23 rfl rfl inlX8 5 (by decide) m_5_3 rfl dX8_noteRead_12 ?_
        refine lv_iload_n C.1 C.2.1 dX8_noteRead_15 rfl (lv_at hl 3 rfl) ?_
        obtain ⟨v_10, e_11⟩ : ∃ z, z = (t1.2.2.1 45 (w7_3 : Int32).toNatClampNeg) := ⟨_, rfl⟩
        refine k_ild (v := v_10) C hP 45 rfl (vp_in_iff.mpr ⟨by omega, by omega⟩) e_11.symm dX8_noteRead_16 ?_
        refine lv_iload_n C.1 C.2.1 dX8_noteRead_17 rfl (lv_at hl 2 rfl) ?_
        refine lv_icmp_ne (tgt := 38) C.1 C.2.1 dX8_noteRead_18 (by decide) (fun c_12 => ?_) (fun c_12 => ?_)
        · replace c_12 : ¬ v_10.toInt = x2.toInt := i_ne c_12
          exact L_38 t1 w7_3 _ _ _ hok hfr ⟨by omega, by omega⟩ hP hD hS (lv_sub hl [0, 1, 2, 3] rfl)
        · replace c_12 : v_10.toInt = x2.toInt := i_eq c_12
          refine lv_aload_n C.1 C.2.1 dX8_noteRead_21 rfl (lv_at hl 0 rfl) ?_
          refine k_get (v := .ref (ad 44)) C hP 23 rfl rfl inlX8 4 (by decide) m_5_2 rfl dX8_noteRead_22 ?_
          refine lv_iload_n C.1 C.2.1 dX8_noteRead_25 rfl (lv_at hl 3 rfl) ?_
          obtain ⟨v_13, e_14⟩ : ∃ z, z = (t1.2.2.1 44 (w7_3 : Int32).toNatClampNeg) := ⟨_, rfl⟩
          have h_15 : (-1 : Int) ≤ v_13.toInt ∧ v_13.toInt ≤ 2147483647 := by rw [e_14]; exact hok.2.1 44 _
          refine k_ild (v := v_13) C hP 44 rfl (vp_in_iff.mpr ⟨by omega, by omega⟩) e_14.symm dX8_noteRead_26 ?_
          refine lv_iload_n C.1 C.2.1 dX8_noteRead_27 rfl (lv_at hl 1 rfl) ?_
          refine lv_icmp_ne (tgt := 32) C.1 C.2.1 dX8_noteRead_28 (by decide) (fun c_16 => ?_) (fun c_16 => ?_)
          · replace c_16 : ¬ v_13.toInt = x1.toInt := i_ne c_16
            obtain ⟨v_17, e_18⟩ : ∃ z, z = w7_3 + (-1) := ⟨_, rfl⟩
            have h_19 : v_17.toInt = w7_3.toInt + (-1) := by rw [e_18]; exact ti_iadd (by show (_ : Int) ≤ w7_3.toInt + (-1); omega) (by show w7_3.toInt + (-1) < (_ : Int); omega)
            refine lv_iinc (v := v_17) (lv' := [(3, .int v_17), (0, .ref (ad 23)), (1, .int x1), (2, .int x2)]) C.1 C.2.1 dX8_noteRead_32 hl (k := 3) rfl e_18.symm (by decide) rfl (fun ls hl => ?_)
            have hl : lv_has ls 4 [(0, .ref (ad 23)), (1, .int x1), (2, .int x2), (3, .int v_17)] := lv_sub hl [1, 2, 3, 0] rfl
            refine lv_goto (tgt := 7) C.1 C.2.1 dX8_noteRead_35 (by decide) ?_
            exact ih_7 t1 v_17 _ _ _ hok hfr ⟨by omega, by omega⟩ (show v_17.toInt - (-1 : Int) < (fuel_7 : Int) from by omega) hP hD hS (lv_sub hl [0, 1, 2, 3] rfl)
          · replace c_16 : v_13.toInt = x1.toInt := i_eq c_16
            exact g_vret C hr hlocks hP hD hS t1 rfl ⟨hok, hfr⟩ (Nat.le_of_ble_eq_true rfl) (Nat.le_of_ble_eq_true rfl) dX8_noteRead_31
  refine lv_aload_n C.1 C.2.1 dX8_noteRead_0 rfl (lv_at hl 0 rfl) ?_
  have h_20 : (0 : Int) ≤ (t.1 23 6).toInt ∧ (t.1 23 6).toInt ≤ 4096 := hok.1 23 6
  refine k_get (v := .int (t.1 23 6)) C hP 23 rfl rfl inlX8 6 (by decide) m_13_9 rfl dX8_noteRead_1 ?_
  refine lv_iconst (v := 1) C.1 C.2.1 dX8_noteRead_4 (by decide) ?_
  obtain ⟨v_21, e_22⟩ : ∃ z, z = ((t.1 23 6) : Int32) - (1 : Int32) := ⟨_, rfl⟩
  have h_23 : v_21.toInt = (t.1 23 6).toInt - 1 := by rw [e_22]; exact ti_isub (by show (_ : Int) ≤ (t.1 23 6).toInt - 1; omega) (by show (t.1 23 6).toInt - 1 < (_ : Int); omega)
  refine k_isub (v := v_21) C e_22.symm dX8_noteRead_5 ?_
  refine lv_istore_n (lv' := [(3, .int v_21), (0, .ref (ad 23)), (1, .int x1), (2, .int x2)]) C.1 C.2.1 dX8_noteRead_6 rfl hl (by decide) rfl (fun ls hl => ?_)
  have hl : lv_has ls 4 [(0, .ref (ad 23)), (1, .int x1), (2, .int x2), (3, .int v_21)] := lv_sub hl [1, 2, 3, 0] rfl
  exact L_7 4097 t v_21 _ _ _ hok hfr ⟨by omega, by omega⟩ (show v_21.toInt - (-1 : Int) < ((4097 : Nat) : Int) from by omega) hP hD hS (lv_sub hl [0, 1, 2, 3] rfl)

theorem dX8_stand_0 : decode cX8_stand 0 = .ok (.iload_n 1, 1) := by decide +kernel
theorem dX8_stand_1 : decode cX8_stand 1 = .ok (.ifCond .lt 25, 3) := by decide +kernel
theorem dX8_stand_12 : decode cX8_stand 12 = .ok (.aload_n 0, 1) := by decide +kernel
theorem dX8_stand_13 : decode cX8_stand 13 = .ok (.getfield 19, 3) := by decide +kernel
theorem dX8_stand_16 : decode cX8_stand 16 = .ok (.iload_n 1, 1) := by decide +kernel
theorem dX8_stand_17 : decode cX8_stand 17 = .ok (.iload_n 2, 1) := by decide +kernel
theorem dX8_stand_18 : decode cX8_stand 18 = .ok (.iastore, 1) := by decide +kernel
theorem dX8_stand_19 : decode cX8_stand 19 = .ok (.aload_n 0, 1) := by decide +kernel
theorem dX8_stand_20 : decode cX8_stand 20 = .ok (.getfield 15, 3) := by decide +kernel
theorem dX8_stand_23 : decode cX8_stand 23 = .ok (.iload_n 1, 1) := by decide +kernel
theorem dX8_stand_24 : decode cX8_stand 24 = .ok (.iload_n 3, 1) := by decide +kernel
theorem dX8_stand_25 : decode cX8_stand 25 = .ok (.iastore, 1) := by decide +kernel
theorem dX8_stand_26 : decode cX8_stand 26 = .ok (.return_, 1) := by decide +kernel
theorem dX8_stand_4 : decode cX8_stand 4 = .ok (.iload_n 1, 1) := by decide +kernel
theorem dX8_stand_5 : decode cX8_stand 5 = .ok (.aload_n 0, 1) := by decide +kernel
theorem dX8_stand_6 : decode cX8_stand 6 = .ok (.getfield 44, 3) := by decide +kernel
theorem dX8_stand_9 : decode cX8_stand 9 = .ok (.if_icmp .ge 17, 3) := by decide +kernel
set_option maxHeartbeats 4000000 in
set_option maxRecDepth 100000 in
theorem T_X8_stand (l : Launch) (D : va_G) (K : Nat → ClassId) (Z Y : Nat → Nat) (ad : Nat → Nat) (d : dSt) (t : tSt) (hok : okX t) (x1 : Int32) (hx1 : (-1 : Int) ≤ x1.toInt ∧ x1.toInt ≤ 2147483647) (x2 : Int32) (hx2 : (0 : Int) ≤ x2.toInt ∧ x2.toInt ≤ 2) (x3 : Int32) : tMet l yX8_stand cX8_stand 4 none (rmD 0 0 0) D K Z Y [.ref (ad 23), .int x1, .int x2, .int x3] ((WX d) K ad t) (QV D K (fun (u : tSt) => okX u ∧ frA [] [] [42, 43] [] t u) (fun (u : tSt) => (WX d) K ad u)) 0 0 := by
  refine t_met RX8 ⟨rfl, by decide +kernel⟩ (Nat.le_of_ble_eq_true rfl) ?_
  intro p e s m below meth c A ls C hE hZ hr hlocks hA hP hD hS hl
  have hl : lv_has ls 4 [(0, .ref (ad 23)), (1, .int x1), (2, .int x2), (3, .int x3)] := hl
  have hokt := hok
  have hfr : frA [] [] [42, 43] [] t t := frA_rf
  refine lv_iload_n C.1 C.2.1 dX8_stand_0 rfl (lv_at hl 1 rfl) ?_
  refine lv_if_lt (tgt := 26) C.1 C.2.1 dX8_stand_1 (by decide) (fun c_1 => ?_) (fun c_1 => ?_)
  · replace c_1 : x1.toInt < 0 := i_lt c_1
    exact g_vret C hr hlocks hP hD hS t rfl ⟨hok, hfr⟩ (Nat.le_of_ble_eq_true rfl) (Nat.le_of_ble_eq_true rfl) dX8_stand_26
  · replace c_1 : 0 ≤ x1.toInt := i_nlt c_1
    refine lv_iload_n C.1 C.2.1 dX8_stand_4 rfl (lv_at hl 1 rfl) ?_
    refine lv_aload_n C.1 C.2.1 dX8_stand_5 rfl (lv_at hl 0 rfl) ?_
    have h_2 : (0 : Int) ≤ (t.1 23 3).toInt ∧ (t.1 23 3).toInt ≤ 1024 := hok.1 23 3
    refine k_get (v := .int (t.1 23 3)) C hP 23 rfl rfl inlX8 3 (by decide) m_13_8 rfl dX8_stand_6 ?_
    refine lv_icmp_ge (tgt := 26) C.1 C.2.1 dX8_stand_9 (by decide) (fun c_3 => ?_) (fun c_3 => ?_)
    · replace c_3 : (t.1 23 3).toInt ≤ x1.toInt := i_le c_3
      exact g_vret C hr hlocks hP hD hS t rfl ⟨hok, hfr⟩ (Nat.le_of_ble_eq_true rfl) (Nat.le_of_ble_eq_true rfl) dX8_stand_26
    · replace c_3 : x1.toInt < (t.1 23 3).toInt := i_nle c_3
      refine lv_aload_n C.1 C.2.1 dX8_stand_12 rfl (lv_at hl 0 rfl) ?_
      refine k_get (v := .ref (ad 43)) C hP 23 rfl rfl inlX8 2 (by decide) m_5_1 rfl dX8_stand_13 ?_
      refine lv_iload_n C.1 C.2.1 dX8_stand_16 rfl (lv_at hl 1 rfl) ?_
      refine lv_iload_n C.1 C.2.1 dX8_stand_17 rfl (lv_at hl 2 rfl) ?_
      refine k_ist (ws' := (WX d) K ad (uB t 43 (x1 : Int32).toNatClampNeg x2)) (x' := x2) C hP hD hS 43 rfl (vp_in_iff.mpr ⟨by omega, by omega⟩) rfl rfl rfl dX8_stand_18 (fun H locs hP hD hS => ?_)
      have hok : okX (uB t 43 (x1 : Int32).toNatClampNeg x2) := ⟨hok.1, okB_B hok.2.1 43 _ x2 (show (0 : Int) ≤ (x2 : Int32).toInt ∧ (x2 : Int32).toInt ≤ 2 from ⟨by omega, by omega⟩), trivial⟩
      have hfr : frA [] [] [42, 43] [] t (uB t 43 (x1 : Int32).toNatClampNeg x2) := frA_B hfr 43 _ _ rfl
      refine lv_aload_n C.1 C.2.1 dX8_stand_19 rfl (lv_at hl 0 rfl) ?_
      refine k_get (v := .ref (ad 42)) C hP 23 rfl rfl inlX8 1 (by decide) m_5_0 rfl dX8_stand_20 ?_
      refine lv_iload_n C.1 C.2.1 dX8_stand_23 rfl (lv_at hl 1 rfl) ?_
      refine lv_iload_n C.1 C.2.1 dX8_stand_24 rfl (lv_at hl 3 rfl) ?_
      obtain ⟨t_4, e_5⟩ : ∃ z, z = (uB t 43 (x1 : Int32).toNatClampNeg x2) := ⟨_, rfl⟩
      rw [← e_5] at hP hD hok hfr
      have h_6 : (t_4.1 23 3).toInt = ((t.1 23 3) : Int32).toInt := by rw [e_5]; rfl
      refine k_ist (ws' := (WX d) K ad (uB t_4 42 (x1 : Int32).toNatClampNeg x3)) (x' := x3) C hP hD hS 42 rfl (vp_in_iff.mpr ⟨by omega, by omega⟩) rfl rfl rfl dX8_stand_25 (fun H locs hP hD hS => ?_)
      have hok : okX (uB t_4 42 (x1 : Int32).toNatClampNeg x3) := ⟨hok.1, okB_B hok.2.1 42 _ x3 (show (-2147483648 : Int) ≤ (x3 : Int32).toInt ∧ (x3 : Int32).toInt ≤ 2147483647 from (i_rng _)), trivial⟩
      have hfr : frA [] [] [42, 43] [] t (uB t_4 42 (x1 : Int32).toNatClampNeg x3) := frA_B hfr 42 _ _ rfl
      exact g_vret C hr hlocks hP hD hS (uB t_4 42 (x1 : Int32).toNatClampNeg x3) rfl ⟨hok, hfr⟩ (Nat.le_of_ble_eq_true rfl) (Nat.le_of_ble_eq_true rfl) dX8_stand_26

theorem dX0_lay_0 : decode cX0_lay 0 = .ok (.aload_n 0, 1) := by decide +kernel
theorem dX0_lay_1 : decode cX0_lay 1 = .ok (.getfield 70, 3) := by decide +kernel
theorem dX0_lay_10 : decode cX0_lay 10 = .ok (.ifCond .lt 12, 3) := by decide +kernel
theorem dX0_lay_13 : decode cX0_lay 13 = .ok (.iload_n 2, 1) := by decide +kernel
theorem dX0_lay_14 : decode cX0_lay 14 = .ok (.aload_n 0, 1) := by decide +kernel
theorem dX0_lay_15 : decode cX0_lay 15 = .ok (.getfield 29, 3) := by decide +kernel
theorem dX0_lay_18 : decode cX0_lay 18 = .ok (.arraylength, 1) := by decide +kernel
theorem dX0_lay_19 : decode cX0_lay 19 = .ok (.if_icmp .lt 4, 3) := by decide +kernel
theorem dX0_lay_22 : decode cX0_lay 22 = .ok (.return_, 1) := by decide +kernel
theorem dX0_lay_23 : decode cX0_lay 23 = .ok (.aload_n 0, 1) := by decide +kernel
theorem dX0_lay_24 : decode cX0_lay 24 = .ok (.getfield 29, 3) := by decide +kernel
theorem dX0_lay_27 : decode cX0_lay 27 = .ok (.iload_n 2, 1) := by decide +kernel
theorem dX0_lay_28 : decode cX0_lay 28 = .ok (.iload_n 1, 1) := by decide +kernel
theorem dX0_lay_29 : decode cX0_lay 29 = .ok (.iastore, 1) := by decide +kernel
theorem dX0_lay_30 : decode cX0_lay 30 = .ok (.aload_n 0, 1) := by decide +kernel
theorem dX0_lay_31 : decode cX0_lay 31 = .ok (.getfield 70, 3) := by decide +kernel
theorem dX0_lay_34 : decode cX0_lay 34 = .ok (.ifCond .lt 27, 3) := by decide +kernel
theorem dX0_lay_37 : decode cX0_lay 37 = .ok (.aload_n 0, 1) := by decide +kernel
theorem dX0_lay_38 : decode cX0_lay 38 = .ok (.getfield 9, 3) := by decide +kernel
theorem dX0_lay_4 : decode cX0_lay 4 = .ok (.sipush 3999, 3) := by decide +kernel
theorem dX0_lay_41 : decode cX0_lay 41 = .ok (.aload_n 0, 1) := by decide +kernel
theorem dX0_lay_42 : decode cX0_lay 42 = .ok (.getfield 70, 3) := by decide +kernel
theorem dX0_lay_45 : decode cX0_lay 45 = .ok (.bipush 6, 2) := by decide +kernel
theorem dX0_lay_47 : decode cX0_lay 47 = .ok (.ishr, 1) := by decide +kernel
theorem dX0_lay_48 : decode cX0_lay 48 = .ok (.dup2, 1) := by decide +kernel
theorem dX0_lay_49 : decode cX0_lay 49 = .ok (.laload, 1) := by decide +kernel
theorem dX0_lay_50 : decode cX0_lay 50 = .ok (.lconst 1, 1) := by decide +kernel
theorem dX0_lay_51 : decode cX0_lay 51 = .ok (.aload_n 0, 1) := by decide +kernel
theorem dX0_lay_52 : decode cX0_lay 52 = .ok (.getfield 70, 3) := by decide +kernel
theorem dX0_lay_55 : decode cX0_lay 55 = .ok (.bipush 63, 2) := by decide +kernel
theorem dX0_lay_57 : decode cX0_lay 57 = .ok (.iand, 1) := by decide +kernel
theorem dX0_lay_58 : decode cX0_lay 58 = .ok (.lshl, 1) := by decide +kernel
theorem dX0_lay_59 : decode cX0_lay 59 = .ok (.lor, 1) := by decide +kernel
theorem dX0_lay_60 : decode cX0_lay 60 = .ok (.lastore, 1) := by decide +kernel
theorem dX0_lay_61 : decode cX0_lay 61 = .ok (.aload_n 0, 1) := by decide +kernel
theorem dX0_lay_62 : decode cX0_lay 62 = .ok (.dup, 1) := by decide +kernel
theorem dX0_lay_63 : decode cX0_lay 63 = .ok (.getfield 81, 3) := by decide +kernel
theorem dX0_lay_66 : decode cX0_lay 66 = .ok (.iconst 1, 1) := by decide +kernel
theorem dX0_lay_67 : decode cX0_lay 67 = .ok (.iadd, 1) := by decide +kernel
theorem dX0_lay_68 : decode cX0_lay 68 = .ok (.putfield 81, 3) := by decide +kernel
theorem dX0_lay_7 : decode cX0_lay 7 = .ok (.iadd, 1) := by decide +kernel
theorem dX0_lay_71 : decode cX0_lay 71 = .ok (.aload_n 0, 1) := by decide +kernel
theorem dX0_lay_72 : decode cX0_lay 72 = .ok (.dup, 1) := by decide +kernel
theorem dX0_lay_73 : decode cX0_lay 73 = .ok (.getfield 70, 3) := by decide +kernel
theorem dX0_lay_76 : decode cX0_lay 76 = .ok (.iconst 1, 1) := by decide +kernel
theorem dX0_lay_77 : decode cX0_lay 77 = .ok (.iadd, 1) := by decide +kernel
theorem dX0_lay_78 : decode cX0_lay 78 = .ok (.putfield 70, 3) := by decide +kernel
theorem dX0_lay_8 : decode cX0_lay 8 = .ok (.istore_n 2, 1) := by decide +kernel
theorem dX0_lay_81 : decode cX0_lay 81 = .ok (.return_, 1) := by decide +kernel
theorem dX0_lay_9 : decode cX0_lay 9 = .ok (.iload_n 2, 1) := by decide +kernel
set_option maxHeartbeats 4000000 in
set_option maxRecDepth 100000 in
theorem T_X0_lay (l : Launch) (D : va_G) (K : Nat → ClassId) (Z Y : Nat → Nat) (ad : Nat → Nat) (d : dSt) (t : tSt) (hok : okX t) (x1 : Int32) : tMet l yX0_lay cX0_lay 3 none (rmD 0 0 0) D K Z Y [.ref (ad 5), .int x1] ((WX d) K ad t) (QV D K (fun (u : tSt) => okX u ∧ frA [(5, 9), (5, 16)] [] [10] [25] t u) (fun (u : tSt) => (WX d) K ad u)) 0 0 := by
  refine t_met RX0 ⟨rfl, by decide +kernel⟩ (Nat.le_of_ble_eq_true rfl) ?_
  intro p e s m below meth c A ls C hE hZ hr hlocks hA hP hD hS hl
  have hl : lv_has ls 3 [(0, .ref (ad 5)), (1, .int x1)] := hl
  have hokt := hok
  have hfr : frA [(5, 9), (5, 16)] [] [10] [25] t t := frA_rf
  have h_1 : (-1073741824 : Int) ≤ (t.1 5 9).toInt ∧ (t.1 5 9).toInt ≤ 1073741824 := hok.1 5 9
  refine lv_aload_n C.1 C.2.1 dX0_lay_0 rfl (lv_at hl 0 rfl) ?_
  refine k_get (v := .int (t.1 5 9)) C hP 5 rfl rfl inlX0 9 (by decide) m_12_3 rfl dX0_lay_1 ?_
  refine lv_sipush (v := 3999) C.1 C.2.1 dX0_lay_4 (by decide) ?_
  obtain ⟨v_2, e_3⟩ : ∃ z, z = ((t.1 5 9) : Int32) + (3999 : Int32) := ⟨_, rfl⟩
  have h_4 : v_2.toInt = (t.1 5 9).toInt + 3999 := by rw [e_3]; exact ti_iadd (by show (_ : Int) ≤ (t.1 5 9).toInt + 3999; omega) (by show (t.1 5 9).toInt + 3999 < (_ : Int); omega)
  refine k_iadd (v := v_2) C e_3.symm dX0_lay_7 ?_
  refine lv_istore_n (lv' := [(2, .int v_2), (0, .ref (ad 5)), (1, .int x1)]) C.1 C.2.1 dX0_lay_8 rfl hl (by decide) rfl (fun ls hl => ?_)
  have hl : lv_has ls 3 [(0, .ref (ad 5)), (1, .int x1), (2, .int v_2)] := lv_sub hl [1, 2, 0] rfl
  refine lv_iload_n C.1 C.2.1 dX0_lay_9 rfl (lv_at hl 2 rfl) ?_
  refine lv_if_lt (tgt := 22) C.1 C.2.1 dX0_lay_10 (by decide) (fun c_5 => ?_) (fun c_5 => ?_)
  · replace c_5 : v_2.toInt < 0 := i_lt c_5
    exact g_vret C hr hlocks hP hD hS t rfl ⟨hok, hfr⟩ (Nat.le_of_ble_eq_true rfl) (Nat.le_of_ble_eq_true rfl) dX0_lay_22
  · replace c_5 : 0 ≤ v_2.toInt := i_nlt c_5
    refine lv_iload_n C.1 C.2.1 dX0_lay_13 rfl (lv_at hl 2 rfl) ?_
    refine lv_aload_n C.1 C.2.1 dX0_lay_14 rfl (lv_at hl 0 rfl) ?_
    refine k_get (v := .ref (ad 10)) C hP 5 rfl rfl inlX0 1 (by decide) m_5_18 rfl dX0_lay_15 ?_
    refine k_len (v := 7999) C hP 10 0 rfl rfl rfl dX0_lay_18 ?_
    refine lv_icmp_lt (tgt := 23) C.1 C.2.1 dX0_lay_19 (by decide) (fun c_6 => ?_) (fun c_6 => ?_)
    · replace c_6 : v_2.toInt < 7999 := i_lt c_6
      refine lv_aload_n C.1 C.2.1 dX0_lay_23 rfl (lv_at hl 0 rfl) ?_
      refine k_get (v := .ref (ad 10)) C hP 5 rfl rfl inlX0 1 (by decide) m_5_18 rfl dX0_lay_24 ?_
      refine lv_iload_n C.1 C.2.1 dX0_lay_27 rfl (lv_at hl 2 rfl) ?_
      refine lv_iload_n C.1 C.2.1 dX0_lay_28 rfl (lv_at hl 1 rfl) ?_
      refine k_ist (ws' := (WX d) K ad (uB t 10 (v_2 : Int32).toNatClampNeg x1)) (x' := x1) C hP hD hS 10 rfl (vp_in_iff.mpr ⟨by omega, by omega⟩) rfl rfl rfl dX0_lay_29 (fun H locs hP hD hS => ?_)
      have hok : okX (uB t 10 (v_2 : Int32).toNatClampNeg x1) := ⟨hok.1, okB_B hok.2.1 10 _ x1 (show (-2147483648 : Int) ≤ (x1 : Int32).toInt ∧ (x1 : Int32).toInt ≤ 2147483647 from (i_rng _)), trivial⟩
      have hfr : frA [(5, 9), (5, 16)] [] [10] [25] t (uB t 10 (v_2 : Int32).toNatClampNeg x1) := frA_B hfr 10 _ _ rfl
      refine lv_aload_n C.1 C.2.1 dX0_lay_30 rfl (lv_at hl 0 rfl) ?_
      refine k_get (v := .int (t.1 5 9)) C hP 5 rfl rfl inlX0 9 (by decide) m_12_3 rfl dX0_lay_31 ?_
      refine lv_if_lt (tgt := 61) C.1 C.2.1 dX0_lay_34 (by decide) (fun c_7 => ?_) (fun c_7 => ?_)
      · replace c_7 : (t.1 5 9).toInt < 0 := i_lt c_7
        refine lv_aload_n C.1 C.2.1 dX0_lay_61 rfl (lv_at hl 0 rfl) ?_
        refine lv_dup C.1 C.2.1 dX0_lay_62 rfl ?_
        refine k_get (v := .int (t.1 5 16)) C hP 5 rfl rfl inlX0 16 (by decide) m_12_6 rfl dX0_lay_63 ?_
        refine lv_iconst (v := 1) C.1 C.2.1 dX0_lay_66 (by decide) ?_
        obtain ⟨v_8, e_9⟩ : ∃ z, z = ((t.1 5 16) : Int32) + (1 : Int32) := ⟨_, rfl⟩
        refine k_iadd (v := v_8) C e_9.symm dX0_lay_67 ?_
        refine k_put (ws' := (WX d) K ad (uI (uB t 10 (v_2 : Int32).toNatClampNeg x1) 5 16 v_8)) (v := .int v_8) C hP hD hS 5 rfl rfl inlX0 tyX0_ok nmX0 16 (by decide) m_12_6 rfl rfl rfl rfl rfl dX0_lay_68 (fun H locs hP hD hS => ?_)
        have hok : okX (uI (uB t 10 (v_2 : Int32).toNatClampNeg x1) 5 16 v_8) := ⟨okI_I hok.1 5 16 v_8 (show (-2147483648 : Int) ≤ (v_8 : Int32).toInt ∧ (v_8 : Int32).toInt ≤ 2147483647 from (i_rng _)), hok.2.1, trivial⟩
        have hfr : frA [(5, 9), (5, 16)] [] [10] [25] t (uI (uB t 10 (v_2 : Int32).toNatClampNeg x1) 5 16 v_8) := frA_I hfr 5 16 _ rfl
        refine lv_aload_n C.1 C.2.1 dX0_lay_71 rfl (lv_at hl 0 rfl) ?_
        refine lv_dup C.1 C.2.1 dX0_lay_72 rfl ?_
        refine k_get (v := .int (t.1 5 9)) C hP 5 rfl rfl inlX0 9 (by decide) m_12_3 rfl dX0_lay_73 ?_
        refine lv_iconst (v := 1) C.1 C.2.1 dX0_lay_76 (by decide) ?_
        obtain ⟨v_11, e_12⟩ : ∃ z, z = ((t.1 5 9) : Int32) + (1 : Int32) := ⟨_, rfl⟩
        have h_13 : v_11.toInt = (t.1 5 9).toInt + 1 := by rw [e_12]; exact ti_iadd (by show (_ : Int) ≤ (t.1 5 9).toInt + 1; omega) (by show (t.1 5 9).toInt + 1 < (_ : Int); omega)
        refine k_iadd (v := v_11) C e_12.symm dX0_lay_77 ?_
        refine k_put (ws' := (WX d) K ad (uI (uI (uB t 10 (v_2 : Int32).toNatClampNeg x1) 5 16 v_8) 5 9 v_11)) (v := .int v_11) C hP hD hS 5 rfl rfl inlX0 tyX0_ok nmX0 9 (by decide) m_12_3 rfl rfl rfl rfl rfl dX0_lay_78 (fun H locs hP hD hS => ?_)
        have hok : okX (uI (uI (uB t 10 (v_2 : Int32).toNatClampNeg x1) 5 16 v_8) 5 9 v_11) := ⟨okI_I hok.1 5 9 v_11 (show (-1073741824 : Int) ≤ (v_11 : Int32).toInt ∧ (v_11 : Int32).toInt ≤ 1073741824 from ⟨by omega, by omega⟩), hok.2.1, trivial⟩
        have hfr : frA [(5, 9), (5, 16)] [] [10] [25] t (uI (uI (uB t 10 (v_2 : Int32).toNatClampNeg x1) 5 16 v_8) 5 9 v_11) := frA_I hfr 5 9 _ rfl
        exact g_vret C hr hlocks hP hD hS (uI (uI (uB t 10 (v_2 : Int32).toNatClampNeg x1) 5 16 v_8) 5 9 v_11) rfl ⟨hok, hfr⟩ (Nat.le_of_ble_eq_true rfl) (Nat.le_of_ble_eq_true rfl) dX0_lay_81
      · replace c_7 : 0 ≤ (t.1 5 9).toInt := i_nlt c_7
        refine lv_aload_n C.1 C.2.1 dX0_lay_37 rfl (lv_at hl 0 rfl) ?_
        refine k_get (v := .ref (ad 25)) C hP 5 rfl rfl inlX0 4 (by decide) m_5_13 rfl dX0_lay_38 ?_
        refine lv_aload_n C.1 C.2.1 dX0_lay_41 rfl (lv_at hl 0 rfl) ?_
        refine k_get (v := .int (t.1 5 9)) C hP 5 rfl rfl inlX0 9 (by decide) m_12_3 rfl dX0_lay_42 ?_
        refine lv_bipush (v := 6) C.1 C.2.1 dX0_lay_45 (by decide) ?_
        obtain ⟨v_14, e_15⟩ : ∃ z, z = ((t.1 5 9) : Int32) >>> ((6 : Int32) &&& 31) := ⟨_, rfl⟩
        have h_16 : v_14.toInt = (t.1 5 9).toInt / 2 ^ 6 := by rw [e_15]; exact Jvm.Kit.i32_shr _ _ (k := 6) (by decide)
        refine k_ishr (v := v_14) C e_15.symm dX0_lay_47 ?_
        refine lv_dup2_11 C.1 C.2.1 dX0_lay_48 rfl rfl ?_
        refine k_lld (v := (t.2.2.2 25 (v_14 : Int32).toNatClampNeg)) C hP 25 rfl (vp_in_iff.mpr ⟨by omega, by omega⟩) rfl dX0_lay_49 ?_
        refine lv_lconst (v := 1) C.1 C.2.1 dX0_lay_50 (by decide) ?_
        refine lv_aload_n C.1 C.2.1 dX0_lay_51 rfl (lv_at hl 0 rfl) ?_
        refine k_get (v := .int (t.1 5 9)) C hP 5 rfl rfl inlX0 9 (by decide) m_12_3 rfl dX0_lay_52 ?_
        refine lv_bipush (v := 63) C.1 C.2.1 dX0_lay_55 (by decide) ?_
        obtain ⟨v_17, e_18⟩ : ∃ z, z = ((t.1 5 9) : Int32) &&& (63 : Int32) := ⟨_, rfl⟩
        have h_19 : v_17.toInt = (t.1 5 9).toInt % 2 ^ 6 := by rw [e_18]; exact Jvm.Kit.i32_mask _ _ (k := 6) (by decide) (by decide)
        refine k_iand (v := v_17) C e_18.symm dX0_lay_57 ?_
        obtain ⟨v_20, e_21⟩ : ∃ z, z = (1 : Int64) <<< ((v_17 : Int32).toInt64 &&& 63) := ⟨_, rfl⟩
        refine lv_lshl (v := v_20) C.1 C.2.1 dX0_lay_58 e_21.symm ?_
        obtain ⟨v_22, e_23⟩ : ∃ z, z = ((t.2.2.2 25 (v_14 : Int32).toNatClampNeg) : Int64) ||| v_20 := ⟨_, rfl⟩
        refine lw_lor (v := v_22) C.1 C.2.1 dX0_lay_59 e_23.symm ?_
        refine k_lst (ws' := (WX d) K ad (uG (uB t 10 (v_2 : Int32).toNatClampNeg x1) 25 (v_14 : Int32).toNatClampNeg v_22)) (x' := v_22) C hP hD hS 25 rfl (vp_in_iff.mpr ⟨by omega, by omega⟩) rfl rfl rfl dX0_lay_60 (fun H locs hP hD hS => ?_)
        have hok : okX (uG (uB t 10 (v_2 : Int32).toNatClampNeg x1) 25 (v_14 : Int32).toNatClampNeg v_22) := ⟨hok.1, hok.2.1, trivial⟩
        have hfr : frA [(5, 9), (5, 16)] [] [10] [25] t (uG (uB t 10 (v_2 : Int32).toNatClampNeg x1) 25 (v_14 : Int32).toNatClampNeg v_22) := frA_G hfr 25 _ _ rfl
        refine lv_aload_n C.1 C.2.1 dX0_lay_61 rfl (lv_at hl 0 rfl) ?_
        refine lv_dup C.1 C.2.1 dX0_lay_62 rfl ?_
        refine k_get (v := .int (t.1 5 16)) C hP 5 rfl rfl inlX0 16 (by decide) m_12_6 rfl dX0_lay_63 ?_
        refine lv_iconst (v := 1) C.1 C.2.1 dX0_lay_66 (by decide) ?_
        obtain ⟨v_24, e_25⟩ : ∃ z, z = ((t.1 5 16) : Int32) + (1 : Int32) := ⟨_, rfl⟩
        refine k_iadd (v := v_24) C e_25.symm dX0_lay_67 ?_
        refine k_put (ws' := (WX d) K ad (uI (uG (uB t 10 (v_2 : Int32).toNatClampNeg x1) 25 (v_14 : Int32).toNatClampNeg v_22) 5 16 v_24)) (v := .int v_24) C hP hD hS 5 rfl rfl inlX0 tyX0_ok nmX0 16 (by decide) m_12_6 rfl rfl rfl rfl rfl dX0_lay_68 (fun H locs hP hD hS => ?_)
        have hok : okX (uI (uG (uB t 10 (v_2 : Int32).toNatClampNeg x1) 25 (v_14 : Int32).toNatClampNeg v_22) 5 16 v_24) := ⟨okI_I hok.1 5 16 v_24 (show (-2147483648 : Int) ≤ (v_24 : Int32).toInt ∧ (v_24 : Int32).toInt ≤ 2147483647 from (i_rng _)), hok.2.1, trivial⟩
        have hfr : frA [(5, 9), (5, 16)] [] [10] [25] t (uI (uG (uB t 10 (v_2 : Int32).toNatClampNeg x1) 25 (v_14 : Int32).toNatClampNeg v_22) 5 16 v_24) := frA_I hfr 5 16 _ rfl
        refine lv_aload_n C.1 C.2.1 dX0_lay_71 rfl (lv_at hl 0 rfl) ?_
        refine lv_dup C.1 C.2.1 dX0_lay_72 rfl ?_
        refine k_get (v := .int (t.1 5 9)) C hP 5 rfl rfl inlX0 9 (by decide) m_12_3 rfl dX0_lay_73 ?_
        refine lv_iconst (v := 1) C.1 C.2.1 dX0_lay_76 (by decide) ?_
        obtain ⟨v_27, e_28⟩ : ∃ z, z = ((t.1 5 9) : Int32) + (1 : Int32) := ⟨_, rfl⟩
        have h_29 : v_27.toInt = (t.1 5 9).toInt + 1 := by rw [e_28]; exact ti_iadd (by show (_ : Int) ≤ (t.1 5 9).toInt + 1; omega) (by show (t.1 5 9).toInt + 1 < (_ : Int); omega)
        refine k_iadd (v := v_27) C e_28.symm dX0_lay_77 ?_
        refine k_put (ws' := (WX d) K ad (uI (uI (uG (uB t 10 (v_2 : Int32).toNatClampNeg x1) 25 (v_14 : Int32).toNatClampNeg v_22) 5 16 v_24) 5 9 v_27)) (v := .int v_27) C hP hD hS 5 rfl rfl inlX0 tyX0_ok nmX0 9 (by decide) m_12_3 rfl rfl rfl rfl rfl dX0_lay_78 (fun H locs hP hD hS => ?_)
        have hok : okX (uI (uI (uG (uB t 10 (v_2 : Int32).toNatClampNeg x1) 25 (v_14 : Int32).toNatClampNeg v_22) 5 16 v_24) 5 9 v_27) := ⟨okI_I hok.1 5 9 v_27 (show (-1073741824 : Int) ≤ (v_27 : Int32).toInt ∧ (v_27 : Int32).toInt ≤ 1073741824 from ⟨by omega, by omega⟩), hok.2.1, trivial⟩
        have hfr : frA [(5, 9), (5, 16)] [] [10] [25] t (uI (uI (uG (uB t 10 (v_2 : Int32).toNatClampNeg x1) 25 (v_14 : Int32).toNatClampNeg v_22) 5 16 v_24) 5 9 v_27) := frA_I hfr 5 9 _ rfl
        exact g_vret C hr hlocks hP hD hS (uI (uI (uG (uB t 10 (v_2 : Int32).toNatClampNeg x1) 25 (v_14 : Int32).toNatClampNeg v_22) 5 16 v_24) 5 9 v_27) rfl ⟨hok, hfr⟩ (Nat.le_of_ble_eq_true rfl) (Nat.le_of_ble_eq_true rfl) dX0_lay_81
    · replace c_6 : 7999 ≤ v_2.toInt := i_nlt c_6
      exact g_vret C hr hlocks hP hD hS t rfl ⟨hok, hfr⟩ (Nat.le_of_ble_eq_true rfl) (Nat.le_of_ble_eq_true rfl) dX0_lay_22

theorem dX2_spread_0 : decode cX2_spread 0 = .ok (.aload_n 0, 1) := by decide +kernel
theorem dX2_spread_1 : decode cX2_spread 1 = .ok (.getfield 11, 3) := by decide +kernel
theorem dX2_spread_10 : decode cX2_spread 10 = .ok (.iaload, 1) := by decide +kernel
theorem dX2_spread_11 : decode cX2_spread 11 = .ok (.ldc 124, 2) := by decide +kernel
theorem dX2_spread_13 : decode cX2_spread 13 = .ok (.iand, 1) := by decide +kernel
theorem dX2_spread_14 : decode cX2_spread 14 = .ok (.lload_n 1, 1) := by decide +kernel
theorem dX2_spread_15 : decode cX2_spread 15 = .ok (.bipush 30, 2) := by decide +kernel
theorem dX2_spread_17 : decode cX2_spread 17 = .ok (.lshr, 1) := by decide +kernel
theorem dX2_spread_18 : decode cX2_spread 18 = .ok (.ldc2_w 219, 3) := by decide +kernel
theorem dX2_spread_21 : decode cX2_spread 21 = .ok (.land, 1) := by decide +kernel
theorem dX2_spread_22 : decode cX2_spread 22 = .ok (.l2i, 1) := by decide +kernel
theorem dX2_spread_23 : decode cX2_spread 23 = .ok (.ior, 1) := by decide +kernel
theorem dX2_spread_24 : decode cX2_spread 24 = .ok (.iastore, 1) := by decide +kernel
theorem dX2_spread_25 : decode cX2_spread 25 = .ok (.aload_n 0, 1) := by decide +kernel
theorem dX2_spread_26 : decode cX2_spread 26 = .ok (.getfield 11, 3) := by decide +kernel
theorem dX2_spread_29 : decode cX2_spread 29 = .ok (.bipush 7, 2) := by decide +kernel
theorem dX2_spread_31 : decode cX2_spread 31 = .ok (.aload_n 0, 1) := by decide +kernel
theorem dX2_spread_32 : decode cX2_spread 32 = .ok (.getfield 11, 3) := by decide +kernel
theorem dX2_spread_35 : decode cX2_spread 35 = .ok (.bipush 7, 2) := by decide +kernel
theorem dX2_spread_37 : decode cX2_spread 37 = .ok (.iaload, 1) := by decide +kernel
theorem dX2_spread_38 : decode cX2_spread 38 = .ok (.ldc 124, 2) := by decide +kernel
theorem dX2_spread_4 : decode cX2_spread 4 = .ok (.iconst 0, 1) := by decide +kernel
theorem dX2_spread_40 : decode cX2_spread 40 = .ok (.iand, 1) := by decide +kernel
theorem dX2_spread_41 : decode cX2_spread 41 = .ok (.lload_n 1, 1) := by decide +kernel
theorem dX2_spread_42 : decode cX2_spread 42 = .ok (.ldc2_w 219, 3) := by decide +kernel
theorem dX2_spread_45 : decode cX2_spread 45 = .ok (.land, 1) := by decide +kernel
theorem dX2_spread_46 : decode cX2_spread 46 = .ok (.l2i, 1) := by decide +kernel
theorem dX2_spread_47 : decode cX2_spread 47 = .ok (.ior, 1) := by decide +kernel
theorem dX2_spread_48 : decode cX2_spread 48 = .ok (.iastore, 1) := by decide +kernel
theorem dX2_spread_49 : decode cX2_spread 49 = .ok (.return_, 1) := by decide +kernel
theorem dX2_spread_5 : decode cX2_spread 5 = .ok (.aload_n 0, 1) := by decide +kernel
theorem dX2_spread_6 : decode cX2_spread 6 = .ok (.getfield 11, 3) := by decide +kernel
theorem dX2_spread_9 : decode cX2_spread 9 = .ok (.iconst 0, 1) := by decide +kernel
set_option maxHeartbeats 4000000 in
set_option maxRecDepth 100000 in
theorem T_X2_spread (l : Launch) (D : va_G) (K : Nat → ClassId) (Z Y : Nat → Nat) (ad : Nat → Nat) (d : dSt) (t : tSt) (hok : okX t) (x1 : Int64) : tMet l yX2_spread cX2_spread 3 none (rmD 0 0 0) D K Z Y [.ref (ad 4), .long x1] ((WX d) K ad t) (QV D K (fun (u : tSt) => okX u ∧ frA [] [] [22] [] t u) (fun (u : tSt) => (WX d) K ad u)) 0 0 := by
  refine t_met RX2 ⟨rfl, by decide +kernel⟩ (Nat.le_of_ble_eq_true rfl) ?_
  intro p e s m below meth c A ls C hE hZ hr hlocks hA hP hD hS hl
  have hl : lv_has ls 3 [(0, .ref (ad 4)), (1, .long x1)] := hl
  have hokt := hok
  have hfr : frA [] [] [22] [] t t := frA_rf
  refine lv_aload_n C.1 C.2.1 dX2_spread_0 rfl (lv_at hl 0 rfl) ?_
  refine k_get (v := .ref (ad 22)) C hP 4 rfl rfl inlX2 1 (by decide) m_4_16 rfl dX2_spread_1 ?_
  refine lv_iconst (v := 0) C.1 C.2.1 dX2_spread_4 (by decide) ?_
  refine lv_aload_n C.1 C.2.1 dX2_spread_5 rfl (lv_at hl 0 rfl) ?_
  refine k_get (v := .ref (ad 22)) C hP 4 rfl rfl inlX2 1 (by decide) m_4_16 rfl dX2_spread_6 ?_
  refine lv_iconst (v := 0) C.1 C.2.1 dX2_spread_9 (by decide) ?_
  obtain ⟨v_1, e_2⟩ : ∃ z, z = (t.2.2.1 22 (0 : Int32).toNatClampNeg) := ⟨_, rfl⟩
  refine k_ild (v := v_1) C hP 22 rfl (vin (by decide)) e_2.symm dX2_spread_10 ?_
  refine lv_ldc (v := 1073741824) C.1 C.2.1 C.2.2.2.1 (C.2.2.2.2.1 _ m_47_11) dX2_spread_11 ?_
  obtain ⟨v_3, e_4⟩ : ∃ z, z = (v_1 : Int32) &&& (1073741824 : Int32) := ⟨_, rfl⟩
  have h_5 : (0 : Int) ≤ v_3.toInt ∧ v_3.toInt ≤ 1073741824 := by rw [e_4]; exact z_and _ (k := 1073741824) (by decide) (by decide)
  refine k_iand (v := v_3) C e_4.symm dX2_spread_13 ?_
  refine lv_lload_n C.1 C.2.1 dX2_spread_14 rfl (lv_at hl 1 rfl) ?_
  refine lv_bipush (v := 30) C.1 C.2.1 dX2_spread_15 (by decide) ?_
  obtain ⟨v_6, e_7⟩ : ∃ z, z = (x1 : Int64) >>> ((30 : Int32).toInt64 &&& 63) := ⟨_, rfl⟩
  refine lv_lshr (v := v_6) C.1 C.2.1 dX2_spread_17 e_7.symm ?_
  refine lv_ldc2 (v := 1073741823) C.1 C.2.1 C.2.2.2.1 (C.2.2.2.2.1 _ m_50_20) dX2_spread_18 ?_
  obtain ⟨v_8, e_9⟩ : ∃ z, z = (v_6 : Int64) &&& 1073741823 := ⟨_, rfl⟩
  have h_10 : v_8.toInt = v_6.toInt % 2 ^ 30 := by rw [e_9]; exact Jvm.Kit.i64_mask _ _ (k := 30) (by decide) (by decide)
  refine lw_land (v := v_8) C.1 C.2.1 dX2_spread_21 e_9.symm ?_
  obtain ⟨v_11, e_12⟩ : ∃ z, z = (v_8).toInt32 := ⟨_, rfl⟩
  have h_13 : v_11.toInt = v_8.toInt := by rw [e_12]; exact Jvm.Kit.i32_of_i64 (by show (_ : Int) ≤ v_8.toInt; omega) (by show v_8.toInt < (_ : Int); omega)
  refine lv_l2i (v := v_11) C.1 C.2.1 dX2_spread_22 e_12.symm ?_
  obtain ⟨v_14, e_15⟩ : ∃ z, z = (v_3 : Int32) ||| (v_11 : Int32) := ⟨_, rfl⟩
  have h_16 : (0 : Int) ≤ v_14.toInt ∧ v_14.toInt ≤ 2147483647 := by rw [e_15]; exact z_or (k := 31) (by decide) (by show (0 : Int) ≤ v_3.toInt; omega) (by show v_3.toInt < (_ : Int); omega) (by show (0 : Int) ≤ v_11.toInt; omega) (by show v_11.toInt < (_ : Int); omega)
  refine k_ior (v := v_14) C e_15.symm dX2_spread_23 ?_
  refine k_ist (ws' := (WX d) K ad (uB t 22 (0 : Int32).toNatClampNeg v_14)) (x' := v_14) C hP hD hS 22 rfl (vin (by decide)) rfl rfl rfl dX2_spread_24 (fun H locs hP hD hS => ?_)
  have hok : okX (uB t 22 (0 : Int32).toNatClampNeg v_14) := ⟨hok.1, okB_B hok.2.1 22 _ v_14 (show (-2147483648 : Int) ≤ (v_14 : Int32).toInt ∧ (v_14 : Int32).toInt ≤ 2147483647 from (i_rng _)), trivial⟩
  have hfr : frA [] [] [22] [] t (uB t 22 (0 : Int32).toNatClampNeg v_14) := frA_B hfr 22 _ _ rfl
  refine lv_aload_n C.1 C.2.1 dX2_spread_25 rfl (lv_at hl 0 rfl) ?_
  refine k_get (v := .ref (ad 22)) C hP 4 rfl rfl inlX2 1 (by decide) m_4_16 rfl dX2_spread_26 ?_
  refine lv_bipush (v := 7) C.1 C.2.1 dX2_spread_29 (by decide) ?_
  refine lv_aload_n C.1 C.2.1 dX2_spread_31 rfl (lv_at hl 0 rfl) ?_
  refine k_get (v := .ref (ad 22)) C hP 4 rfl rfl inlX2 1 (by decide) m_4_16 rfl dX2_spread_32 ?_
  refine lv_bipush (v := 7) C.1 C.2.1 dX2_spread_35 (by decide) ?_
  obtain ⟨v_17, e_18⟩ : ∃ z, z = ((uB t 22 (0 : Int32).toNatClampNeg v_14).2.2.1 22 (7 : Int32).toNatClampNeg) := ⟨_, rfl⟩
  refine k_ild (v := v_17) C hP 22 rfl (vin (by decide)) e_18.symm dX2_spread_37 ?_
  refine lv_ldc (v := 1073741824) C.1 C.2.1 C.2.2.2.1 (C.2.2.2.2.1 _ m_47_11) dX2_spread_38 ?_
  obtain ⟨v_19, e_20⟩ : ∃ z, z = (v_17 : Int32) &&& (1073741824 : Int32) := ⟨_, rfl⟩
  have h_21 : (0 : Int) ≤ v_19.toInt ∧ v_19.toInt ≤ 1073741824 := by rw [e_20]; exact z_and _ (k := 1073741824) (by decide) (by decide)
  refine k_iand (v := v_19) C e_20.symm dX2_spread_40 ?_
  refine lv_lload_n C.1 C.2.1 dX2_spread_41 rfl (lv_at hl 1 rfl) ?_
  refine lv_ldc2 (v := 1073741823) C.1 C.2.1 C.2.2.2.1 (C.2.2.2.2.1 _ m_50_20) dX2_spread_42 ?_
  obtain ⟨v_22, e_23⟩ : ∃ z, z = (x1 : Int64) &&& 1073741823 := ⟨_, rfl⟩
  have h_24 : v_22.toInt = x1.toInt % 2 ^ 30 := by rw [e_23]; exact Jvm.Kit.i64_mask _ _ (k := 30) (by decide) (by decide)
  refine lw_land (v := v_22) C.1 C.2.1 dX2_spread_45 e_23.symm ?_
  obtain ⟨v_25, e_26⟩ : ∃ z, z = (v_22).toInt32 := ⟨_, rfl⟩
  have h_27 : v_25.toInt = v_22.toInt := by rw [e_26]; exact Jvm.Kit.i32_of_i64 (by show (_ : Int) ≤ v_22.toInt; omega) (by show v_22.toInt < (_ : Int); omega)
  refine lv_l2i (v := v_25) C.1 C.2.1 dX2_spread_46 e_26.symm ?_
  obtain ⟨v_28, e_29⟩ : ∃ z, z = (v_19 : Int32) ||| (v_25 : Int32) := ⟨_, rfl⟩
  have h_30 : (0 : Int) ≤ v_28.toInt ∧ v_28.toInt ≤ 2147483647 := by rw [e_29]; exact z_or (k := 31) (by decide) (by show (0 : Int) ≤ v_19.toInt; omega) (by show v_19.toInt < (_ : Int); omega) (by show (0 : Int) ≤ v_25.toInt; omega) (by show v_25.toInt < (_ : Int); omega)
  refine k_ior (v := v_28) C e_29.symm dX2_spread_47 ?_
  obtain ⟨t_31, e_32⟩ : ∃ z, z = (uB t 22 (0 : Int32).toNatClampNeg v_14) := ⟨_, rfl⟩
  rw [← e_32] at hP hD hok hfr
  refine k_ist (ws' := (WX d) K ad (uB t_31 22 (7 : Int32).toNatClampNeg v_28)) (x' := v_28) C hP hD hS 22 rfl (vin (by decide)) rfl rfl rfl dX2_spread_48 (fun H locs hP hD hS => ?_)
  have hok : okX (uB t_31 22 (7 : Int32).toNatClampNeg v_28) := ⟨hok.1, okB_B hok.2.1 22 _ v_28 (show (-2147483648 : Int) ≤ (v_28 : Int32).toInt ∧ (v_28 : Int32).toInt ≤ 2147483647 from (i_rng _)), trivial⟩
  have hfr : frA [] [] [22] [] t (uB t_31 22 (7 : Int32).toNatClampNeg v_28) := frA_B hfr 22 _ _ rfl
  exact g_vret C hr hlocks hP hD hS (uB t_31 22 (7 : Int32).toNatClampNeg v_28) rfl ⟨hok, hfr⟩ (Nat.le_of_ble_eq_true rfl) (Nat.le_of_ble_eq_true rfl) dX2_spread_49

theorem dX2_returnToNormal_0 : decode cX2_returnToNormal 0 = .ok (.iconst 0, 1) := by decide +kernel
theorem dX2_returnToNormal_1 : decode cX2_returnToNormal 1 = .ok (.istore_n 1, 1) := by decide +kernel
theorem dX2_returnToNormal_10 : decode cX2_returnToNormal 10 = .ok (.bipush 9, 2) := by decide +kernel
theorem dX2_returnToNormal_100 : decode cX2_returnToNormal 100 = .ok (.putfield 41, 3) := by decide +kernel
theorem dX2_returnToNormal_103 : decode cX2_returnToNormal 103 = .ok (.aload_n 0, 1) := by decide +kernel
theorem dX2_returnToNormal_104 : decode cX2_returnToNormal 104 = .ok (.iload_n 1, 1) := by decide +kernel
theorem dX2_returnToNormal_105 : decode cX2_returnToNormal 105 = .ok (.sipush 4095, 3) := by decide +kernel
theorem dX2_returnToNormal_108 : decode cX2_returnToNormal 108 = .ok (.iand, 1) := by decide +kernel
theorem dX2_returnToNormal_109 : decode cX2_returnToNormal 109 = .ok (.putfield 44, 3) := by decide +kernel
theorem dX2_returnToNormal_112 : decode cX2_returnToNormal 112 = .ok (.aload_n 0, 1) := by decide +kernel
theorem dX2_returnToNormal_113 : decode cX2_returnToNormal 113 = .ok (.iconst 0, 1) := by decide +kernel
theorem dX2_returnToNormal_114 : decode cX2_returnToNormal 114 = .ok (.putfield 54, 3) := by decide +kernel
theorem dX2_returnToNormal_117 : decode cX2_returnToNormal 117 = .ok (.return_, 1) := by decide +kernel
theorem dX2_returnToNormal_12 : decode cX2_returnToNormal 12 = .ok (.isub, 1) := by decide +kernel
theorem dX2_returnToNormal_13 : decode cX2_returnToNormal 13 = .ok (.invokevirtual 73, 3) := by decide +kernel
theorem dX2_returnToNormal_16 : decode cX2_returnToNormal 16 = .ok (.istore_n 2, 1) := by decide +kernel
theorem dX2_returnToNormal_17 : decode cX2_returnToNormal 17 = .ok (.aload_n 0, 1) := by decide +kernel
theorem dX2_returnToNormal_18 : decode cX2_returnToNormal 18 = .ok (.getfield 11, 3) := by decide +kernel
theorem dX2_returnToNormal_2 : decode cX2_returnToNormal 2 = .ok (.iload_n 1, 1) := by decide +kernel
theorem dX2_returnToNormal_21 : decode cX2_returnToNormal 21 = .ok (.iload_n 1, 1) := by decide +kernel
theorem dX2_returnToNormal_22 : decode cX2_returnToNormal 22 = .ok (.iload_n 1, 1) := by decide +kernel
theorem dX2_returnToNormal_23 : decode cX2_returnToNormal 23 = .ok (.ifCond .eq 9, 3) := by decide +kernel
theorem dX2_returnToNormal_26 : decode cX2_returnToNormal 26 = .ok (.iload_n 1, 1) := by decide +kernel
theorem dX2_returnToNormal_27 : decode cX2_returnToNormal 27 = .ok (.bipush 7, 2) := by decide +kernel
theorem dX2_returnToNormal_29 : decode cX2_returnToNormal 29 = .ok (.if_icmp .ne 7, 3) := by decide +kernel
theorem dX2_returnToNormal_3 : decode cX2_returnToNormal 3 = .ok (.bipush 7, 2) := by decide +kernel
theorem dX2_returnToNormal_32 : decode cX2_returnToNormal 32 = .ok (.iload_n 2, 1) := by decide +kernel
theorem dX2_returnToNormal_33 : decode cX2_returnToNormal 33 = .ok (.goto 7, 3) := by decide +kernel
theorem dX2_returnToNormal_36 : decode cX2_returnToNormal 36 = .ok (.iload_n 2, 1) := by decide +kernel
theorem dX2_returnToNormal_37 : decode cX2_returnToNormal 37 = .ok (.ldc 129, 2) := by decide +kernel
theorem dX2_returnToNormal_39 : decode cX2_returnToNormal 39 = .ok (.iand, 1) := by decide +kernel
theorem dX2_returnToNormal_40 : decode cX2_returnToNormal 40 = .ok (.iastore, 1) := by decide +kernel
theorem dX2_returnToNormal_41 : decode cX2_returnToNormal 41 = .ok (.iinc 1 1, 3) := by decide +kernel
theorem dX2_returnToNormal_44 : decode cX2_returnToNormal 44 = .ok (.goto (-42), 3) := by decide +kernel
theorem dX2_returnToNormal_47 : decode cX2_returnToNormal 47 = .ok (.aload_n 0, 1) := by decide +kernel
theorem dX2_returnToNormal_48 : decode cX2_returnToNormal 48 = .ok (.iconst (-1), 1) := by decide +kernel
theorem dX2_returnToNormal_49 : decode cX2_returnToNormal 49 = .ok (.invokevirtual 73, 3) := by decide +kernel
theorem dX2_returnToNormal_5 : decode cX2_returnToNormal 5 = .ok (.if_icmp .gt 42, 3) := by decide +kernel
theorem dX2_returnToNormal_52 : decode cX2_returnToNormal 52 = .ok (.istore_n 1, 1) := by decide +kernel
theorem dX2_returnToNormal_53 : decode cX2_returnToNormal 53 = .ok (.iload_n 1, 1) := by decide +kernel
theorem dX2_returnToNormal_54 : decode cX2_returnToNormal 54 = .ok (.iconst 3, 1) := by decide +kernel
theorem dX2_returnToNormal_55 : decode cX2_returnToNormal 55 = .ok (.invokestatic 130, 3) := by decide +kernel
theorem dX2_returnToNormal_58 : decode cX2_returnToNormal 58 = .ok (.istore_n 2, 1) := by decide +kernel
theorem dX2_returnToNormal_59 : decode cX2_returnToNormal 59 = .ok (.aload_n 0, 1) := by decide +kernel
theorem dX2_returnToNormal_60 : decode cX2_returnToNormal 60 = .ok (.getfield 11, 3) := by decide +kernel
theorem dX2_returnToNormal_63 : decode cX2_returnToNormal 63 = .ok (.bipush 8, 2) := by decide +kernel
theorem dX2_returnToNormal_65 : decode cX2_returnToNormal 65 = .ok (.iload_n 1, 1) := by decide +kernel
theorem dX2_returnToNormal_66 : decode cX2_returnToNormal 66 = .ok (.bipush 18, 2) := by decide +kernel
theorem dX2_returnToNormal_68 : decode cX2_returnToNormal 68 = .ok (.ishr, 1) := by decide +kernel
theorem dX2_returnToNormal_69 : decode cX2_returnToNormal 69 = .ok (.sipush 4095, 3) := by decide +kernel
theorem dX2_returnToNormal_72 : decode cX2_returnToNormal 72 = .ok (.iand, 1) := by decide +kernel
theorem dX2_returnToNormal_73 : decode cX2_returnToNormal 73 = .ok (.iastore, 1) := by decide +kernel
theorem dX2_returnToNormal_74 : decode cX2_returnToNormal 74 = .ok (.aload_n 0, 1) := by decide +kernel
theorem dX2_returnToNormal_75 : decode cX2_returnToNormal 75 = .ok (.iload_n 2, 1) := by decide +kernel
theorem dX2_returnToNormal_76 : decode cX2_returnToNormal 76 = .ok (.bipush 8, 2) := by decide +kernel
theorem dX2_returnToNormal_78 : decode cX2_returnToNormal 78 = .ok (.if_icmp .lt 7, 3) := by decide +kernel
theorem dX2_returnToNormal_8 : decode cX2_returnToNormal 8 = .ok (.aload_n 0, 1) := by decide +kernel
theorem dX2_returnToNormal_81 : decode cX2_returnToNormal 81 = .ok (.iconst 1, 1) := by decide +kernel
theorem dX2_returnToNormal_82 : decode cX2_returnToNormal 82 = .ok (.goto 4, 3) := by decide +kernel
theorem dX2_returnToNormal_85 : decode cX2_returnToNormal 85 = .ok (.iconst 0, 1) := by decide +kernel
theorem dX2_returnToNormal_86 : decode cX2_returnToNormal 86 = .ok (.putfield 37, 3) := by decide +kernel
theorem dX2_returnToNormal_89 : decode cX2_returnToNormal 89 = .ok (.aload_n 0, 1) := by decide +kernel
theorem dX2_returnToNormal_9 : decode cX2_returnToNormal 9 = .ok (.iload_n 1, 1) := by decide +kernel
theorem dX2_returnToNormal_90 : decode cX2_returnToNormal 90 = .ok (.iload_n 2, 1) := by decide +kernel
theorem dX2_returnToNormal_91 : decode cX2_returnToNormal 91 = .ok (.bipush 8, 2) := by decide +kernel
theorem dX2_returnToNormal_93 : decode cX2_returnToNormal 93 = .ok (.irem, 1) := by decide +kernel
theorem dX2_returnToNormal_94 : decode cX2_returnToNormal 94 = .ok (.iconst 2, 1) := by decide +kernel
theorem dX2_returnToNormal_95 : decode cX2_returnToNormal 95 = .ok (.invokestatic 134, 3) := by decide +kernel
theorem dX2_returnToNormal_98 : decode cX2_returnToNormal 98 = .ok (.iconst 1, 1) := by decide +kernel
theorem dX2_returnToNormal_99 : decode cX2_returnToNormal 99 = .ok (.isub, 1) := by decide +kernel
set_option maxHeartbeats 4000000 in
set_option maxRecDepth 100000 in
theorem T_X2_returnToNormal (l : Launch) (D : va_G) (K : Nat → ClassId) (Z Y : Nat → Nat) (ad : Nat → Nat) (d : dSt) (t : tSt) (hok : okX t)  : tMet l yX2_returnToNormal cX2_returnToNormal 3 none (rmD 1 0 0) D K Z Y [.ref (ad 4)] ((WX d) K ad t) (QV D K (fun (u : tSt) => okX u ∧ frA [(4, 3), (4, 4), (4, 5), (4, 10)] [] [22] [] t u) (fun (u : tSt) => (WX d) K ad u)) 0 0 := by
  refine t_met RX2 ⟨rfl, by decide +kernel⟩ (Nat.le_of_ble_eq_true rfl) ?_
  intro p e s m below meth c A ls C hE hZ hr hlocks hA hP hD hS hl
  have hl : lv_has ls 3 [(0, .ref (ad 4))] := hl
  have hokt := hok
  have hfr : frA [(4, 3), (4, 4), (4, 5), (4, 10)] [] [22] [] t t := frA_rf
  have L_86 : ∀ (t1 : tSt) (w86_1 : Int32) (w86_2 : Int32) (k86_1 : Int32) (H : Heap) (locs : List Loc) (ls : Array Slot), okX t1 → frA [(4, 3), (4, 4), (4, 5), (4, 10)] [] [22] [] t t1 → (0 : Int) ≤ w86_2.toInt ∧ w86_2.toInt ≤ 63 → (0 : Int) ≤ k86_1.toInt ∧ k86_1.toInt ≤ 1 → va_P D vwCl ((WX d) K ad t1) H → va_D A ((WX d) K ad t1) → va_S A s.heap H locs → lv_has ls 3 [(0, .ref (ad 4)), (1, .int w86_1), (2, .int w86_2)] → W p l e (rmD 1 0 0) s m [.ref (ad 4)].toArray below meth c H locs 0 0 (MQ below (QV D K (fun (u : tSt) => okX u ∧ frA [(4, 3), (4, 4), (4, 5), (4, 10)] [] [22] [] t u) (fun (u : tSt) => (WX d) K ad u) A) [.ref (ad 4)].toArray s 0 0 A) (F0 m 86 ls [.int k86_1, .ref (ad 4)]) := by
    intro t1 w86_1 w86_2 k86_1 H locs ls hok hfr hw86_2 hk86_1 hP hD hS hl
    refine k_put (ws' := (WX d) K ad (uI t1 4 3 k86_1)) (v := .int k86_1) C hP hD hS 4 rfl rfl inlX2 tyX2_ok nmX2 3 (by decide) m_11_4 rfl (nar01 (by omega) (by omega)) (fit01 (by omega) (by omega)) rfl rfl dX2_returnToNormal_86 (fun H locs hP hD hS => ?_)
    have hok : okX (uI t1 4 3 k86_1) := ⟨okI_I hok.1 4 3 k86_1 (show (0 : Int) ≤ (k86_1 : Int32).toInt ∧ (k86_1 : Int32).toInt ≤ 1 from ⟨by omega, by omega⟩), hok.2.1, trivial⟩
    have hfr : frA [(4, 3), (4, 4), (4, 5), (4, 10)] [] [22] [] t (uI t1 4 3 k86_1) := frA_I hfr 4 3 _ rfl
    refine lv_aload_n C.1 C.2.1 dX2_returnToNormal_89 rfl (lv_at hl 0 rfl) ?_
    refine lv_iload_n C.1 C.2.1 dX2_returnToNormal_90 rfl (lv_at hl 2 rfl) ?_
    refine lv_bipush (v := 8) C.1 C.2.1 dX2_returnToNormal_91 (by decide) ?_
    obtain ⟨v_1, e_2⟩ : ∃ z, z = (w86_2 : Int32) - (w86_2 : Int32) / (8 : Int32) * (8 : Int32) := ⟨_, rfl⟩
    have h_3 : v_1.toInt = w86_2.toInt % 8 := by rw [e_2]; exact z_remp (k := 8) (by decide) (by show (0 : Int) ≤ w86_2.toInt; omega)
    refine k_irem (v := v_1) C (by decide) e_2.symm dX2_returnToNormal_93 ?_
    refine lv_iconst (v := 2) C.1 C.2.1 dX2_returnToNormal_94 (by decide) ?_
    obtain ⟨v_5, e_4⟩ : ∃ z, z = if (2 : Int32) < (v_1 : Int32) then (2 : Int32) else (v_1 : Int32) := ⟨_, rfl⟩
    have h_6 : (2 : Int32).toInt = 2 := rfl
    have h_7 := mn_r e_4
    refine k_mmin (v := v_5) C hl.1 m_51_16 m_12_19 m_12_15 m_12_20 (Nat.le_of_ble_eq_true rfl) (Nat.le_of_ble_eq_true rfl) (Nat.le_of_ble_eq_true rfl) (Nat.le_of_ble_eq_true rfl) e_4.symm dX2_returnToNormal_95 ?_
    refine lv_iconst (v := 1) C.1 C.2.1 dX2_returnToNormal_98 (by decide) ?_
    obtain ⟨v_8, e_9⟩ : ∃ z, z = (v_5 : Int32) - (1 : Int32) := ⟨_, rfl⟩
    have h_10 : v_8.toInt = v_5.toInt - 1 := by rw [e_9]; exact ti_isub (by show (_ : Int) ≤ v_5.toInt - 1; omega) (by show v_5.toInt - 1 < (_ : Int); omega)
    refine k_isub (v := v_8) C e_9.symm dX2_returnToNormal_99 ?_
    refine k_put (ws' := (WX d) K ad (uI (uI t1 4 3 k86_1) 4 4 v_8)) (v := .int v_8) C hP hD hS 4 rfl rfl inlX2 tyX2_ok nmX2 4 (by decide) m_11_5 rfl rfl rfl rfl rfl dX2_returnToNormal_100 (fun H locs hP hD hS => ?_)
    have hok : okX (uI (uI t1 4 3 k86_1) 4 4 v_8) := ⟨okI_I hok.1 4 4 v_8 (show (-1 : Int) ≤ (v_8 : Int32).toInt ∧ (v_8 : Int32).toInt ≤ 1 from ⟨by omega, by omega⟩), hok.2.1, trivial⟩
    have hfr : frA [(4, 3), (4, 4), (4, 5), (4, 10)] [] [22] [] t (uI (uI t1 4 3 k86_1) 4 4 v_8) := frA_I hfr 4 4 _ rfl
    refine lv_aload_n C.1 C.2.1 dX2_returnToNormal_103 rfl (lv_at hl 0 rfl) ?_
    refine lv_iload_n C.1 C.2.1 dX2_returnToNormal_104 rfl (lv_at hl 1 rfl) ?_
    refine lv_sipush (v := 4095) C.1 C.2.1 dX2_returnToNormal_105 (by decide) ?_
    obtain ⟨v_11, e_12⟩ : ∃ z, z = (w86_1 : Int32) &&& (4095 : Int32) := ⟨_, rfl⟩
    have h_13 : v_11.toInt = w86_1.toInt % 2 ^ 12 := by rw [e_12]; exact Jvm.Kit.i32_mask _ _ (k := 12) (by decide) (by decide)
    refine k_iand (v := v_11) C e_12.symm dX2_returnToNormal_108 ?_
    refine k_put (ws' := (WX d) K ad (uI (uI (uI t1 4 3 k86_1) 4 4 v_8) 4 5 v_11)) (v := .int v_11) C hP hD hS 4 rfl rfl inlX2 tyX2_ok nmX2 5 (by decide) m_11_6 rfl rfl rfl rfl rfl dX2_returnToNormal_109 (fun H locs hP hD hS => ?_)
    have hok : okX (uI (uI (uI t1 4 3 k86_1) 4 4 v_8) 4 5 v_11) := ⟨okI_I hok.1 4 5 v_11 (show (-2147483648 : Int) ≤ (v_11 : Int32).toInt ∧ (v_11 : Int32).toInt ≤ 2147483647 from (i_rng _)), hok.2.1, trivial⟩
    have hfr : frA [(4, 3), (4, 4), (4, 5), (4, 10)] [] [22] [] t (uI (uI (uI t1 4 3 k86_1) 4 4 v_8) 4 5 v_11) := frA_I hfr 4 5 _ rfl
    refine lv_aload_n C.1 C.2.1 dX2_returnToNormal_112 rfl (lv_at hl 0 rfl) ?_
    refine lv_iconst (v := 0) C.1 C.2.1 dX2_returnToNormal_113 (by decide) ?_
    refine k_put (ws' := (WX d) K ad (uI (uI (uI (uI t1 4 3 k86_1) 4 4 v_8) 4 5 v_11) 4 10 0)) (v := .int 0) C hP hD hS 4 rfl rfl inlX2 tyX2_ok nmX2 10 (by decide) m_11_9 rfl (by decide) (by decide) rfl rfl dX2_returnToNormal_114 (fun H locs hP hD hS => ?_)
    have hok : okX (uI (uI (uI (uI t1 4 3 k86_1) 4 4 v_8) 4 5 v_11) 4 10 0) := ⟨okI_I hok.1 4 10 0 (show (0 : Int) ≤ (0 : Int32).toInt ∧ (0 : Int32).toInt ≤ 1 from ⟨by decide, by decide⟩), hok.2.1, trivial⟩
    have hfr : frA [(4, 3), (4, 4), (4, 5), (4, 10)] [] [22] [] t (uI (uI (uI (uI t1 4 3 k86_1) 4 4 v_8) 4 5 v_11) 4 10 0) := frA_I hfr 4 10 _ rfl
    exact g_vret C hr hlocks hP hD hS (uI (uI (uI (uI t1 4 3 k86_1) 4 4 v_8) 4 5 v_11) 4 10 0) rfl ⟨hok, hfr⟩ (Nat.le_of_ble_eq_true rfl) (Nat.le_of_ble_eq_true rfl) dX2_returnToNormal_117
  have L_2 : ∀ (fuel_2 : Nat) (t1 : tSt) (w2_1 : Int32) (H : Heap) (locs : List Loc) (ls : Array Slot), okX t1 → frA [(4, 3), (4, 4), (4, 5), (4, 10)] [] [22] [] t t1 → (0 : Int) ≤ w2_1.toInt ∧ w2_1.toInt ≤ 8 → (8 : Int) - w2_1.toInt < (fuel_2 : Int) → va_P D vwCl ((WX d) K ad t1) H → va_D A ((WX d) K ad t1) → va_S A s.heap H locs → lv_has ls 3 [(0, .ref (ad 4)), (1, .int w2_1)] → W p l e (rmD 1 0 0) s m [.ref (ad 4)].toArray below meth c H locs 0 0 (MQ below (QV D K (fun (u : tSt) => okX u ∧ frA [(4, 3), (4, 4), (4, 5), (4, 10)] [] [22] [] t u) (fun (u : tSt) => (WX d) K ad u) A) [.ref (ad 4)].toArray s 0 0 A) (F0 m 2 ls []) := by
    intro fuel_2
    induction fuel_2 with
    | zero =>
      intro t1 w2_1 H locs ls hok hfr hw2_1 hm2_2 hP hD hS hl
      exact absurd hm2_2 (by omega)
    | succ fuel_2 ih_2 =>
      intro t1 w2_1 H locs ls hok hfr hw2_1 hm2_2 hP hD hS hl
      have hm2_2 : (8 : Int) - w2_1.toInt < (fuel_2 : Int) + 1 := by omega
      have L_40 : ∀ (t1 : tSt) (w40_1 : Int32) (w40_2 : Int32) (k40_1 : Int32) (k40_2 : Int32) (H : Heap) (locs : List Loc) (ls : Array Slot), okX t1 → frA [(4, 3), (4, 4), (4, 5), (4, 10)] [] [22] [] t t1 → (0 : Int) ≤ w40_1.toInt ∧ w40_1.toInt ≤ 7 → (0 : Int) ≤ k40_1.toInt ∧ k40_1.toInt ≤ 7 → (8 : Int) - w40_1.toInt < (fuel_2 : Int) + 1 → va_P D vwCl ((WX d) K ad t1) H → va_D A ((WX d) K ad t1) → va_S A s.heap H locs → lv_has ls 3 [(0, .ref (ad 4)), (1, .int w40_1), (2, .int w40_2)] → W p l e (rmD 1 0 0) s m [.ref (ad 4)].toArray below meth c H locs 0 0 (MQ below (QV D K (fun (u : tSt) => okX u ∧ frA [(4, 3), (4, 4), (4, 5), (4, 10)] [] [22] [] t u) (fun (u : tSt) => (WX d) K ad u) A) [.ref (ad 4)].toArray s 0 0 A) (F0 m 40 ls [.int k40_2, .int k40_1, .ref (ad 22)]) := by
        intro t1 w40_1 w40_2 k40_1 k40_2 H locs ls hok hfr hw40_1 hk40_1 hm40_2 hP hD hS hl
        refine k_ist (ws' := (WX d) K ad (uB t1 22 (k40_1 : Int32).toNatClampNeg k40_2)) (x' := k40_2) C hP hD hS 22 rfl (vp_in_iff.mpr ⟨by omega, by omega⟩) rfl rfl rfl dX2_returnToNormal_40 (fun H locs hP hD hS => ?_)
        have hok : okX (uB t1 22 (k40_1 : Int32).toNatClampNeg k40_2) := ⟨hok.1, okB_B hok.2.1 22 _ k40_2 (show (-2147483648 : Int) ≤ (k40_2 : Int32).toInt ∧ (k40_2 : Int32).toInt ≤ 2147483647 from (i_rng _)), trivial⟩
        have hfr : frA [(4, 3), (4, 4), (4, 5), (4, 10)] [] [22] [] t (uB t1 22 (k40_1 : Int32).toNatClampNeg k40_2) := frA_B hfr 22 _ _ rfl
        obtain ⟨v_14, e_15⟩ : ∃ z, z = w40_1 + 1 := ⟨_, rfl⟩
        have h_16 : v_14.toInt = w40_1.toInt + 1 := by rw [e_15]; exact ti_iadd (by show (_ : Int) ≤ w40_1.toInt + 1; omega) (by show w40_1.toInt + 1 < (_ : Int); omega)
        refine lv_iinc (v := v_14) (lv' := [(1, .int v_14), (0, .ref (ad 4)), (2, .int w40_2)]) C.1 C.2.1 dX2_returnToNormal_41 hl (k := 1) rfl e_15.symm (by decide) rfl (fun ls hl => ?_)
        have hl : lv_has ls 3 [(0, .ref (ad 4)), (1, .int v_14), (2, .int w40_2)] := lv_sub hl [1, 0, 2] rfl
        refine lv_goto (tgt := 2) C.1 C.2.1 dX2_returnToNormal_44 (by decide) ?_
        exact ih_2 (uB t1 22 (k40_1 : Int32).toNatClampNeg k40_2) v_14 _ _ _ hok hfr ⟨by omega, by omega⟩ (show (8 : Int) - v_14.toInt < (fuel_2 : Int) from by omega) hP hD hS (lv_sub hl [0, 1] rfl)
      have L_32 : ∀ (t1 : tSt) (w32_1 : Int32) (w32_2 : Int32) (k32_1 : Int32) (H : Heap) (locs : List Loc) (ls : Array Slot), okX t1 → frA [(4, 3), (4, 4), (4, 5), (4, 10)] [] [22] [] t t1 → (0 : Int) ≤ w32_1.toInt ∧ w32_1.toInt ≤ 7 → (0 : Int) ≤ k32_1.toInt ∧ k32_1.toInt ≤ 7 → (8 : Int) - w32_1.toInt < (fuel_2 : Int) + 1 → va_P D vwCl ((WX d) K ad t1) H → va_D A ((WX d) K ad t1) → va_S A s.heap H locs → lv_has ls 3 [(0, .ref (ad 4)), (1, .int w32_1), (2, .int w32_2)] → W p l e (rmD 1 0 0) s m [.ref (ad 4)].toArray below meth c H locs 0 0 (MQ below (QV D K (fun (u : tSt) => okX u ∧ frA [(4, 3), (4, 4), (4, 5), (4, 10)] [] [22] [] t u) (fun (u : tSt) => (WX d) K ad u) A) [.ref (ad 4)].toArray s 0 0 A) (F0 m 32 ls [.int k32_1, .ref (ad 22)]) := by
        intro t1 w32_1 w32_2 k32_1 H locs ls hok hfr hw32_1 hk32_1 hm32_2 hP hD hS hl
        refine lv_iload_n C.1 C.2.1 dX2_returnToNormal_32 rfl (lv_at hl 2 rfl) ?_
        refine lv_goto (tgt := 40) C.1 C.2.1 dX2_returnToNormal_33 (by decide) ?_
        exact L_40 t1 w32_1 w32_2 k32_1 w32_2 _ _ _ hok hfr ⟨by omega, by omega⟩ ⟨by omega, by omega⟩ (show (8 : Int) - w32_1.toInt < (fuel_2 : Int) + 1 from by omega) hP hD hS (lv_sub hl [0, 1, 2] rfl)
      refine lv_iload_n C.1 C.2.1 dX2_returnToNormal_2 rfl (lv_at hl 1 rfl) ?_
      refine lv_bipush (v := 7) C.1 C.2.1 dX2_returnToNormal_3 (by decide) ?_
      refine lv_icmp_gt (tgt := 47) C.1 C.2.1 dX2_returnToNormal_5 (by decide) (fun c_17 => ?_) (fun c_17 => ?_)
      · replace c_17 : 7 < w2_1.toInt := i_lt c_17
        refine lv_aload_n C.1 C.2.1 dX2_returnToNormal_47 rfl (lv_at hl 0 rfl) ?_
        refine lv_iconst (v := (-1)) C.1 C.2.1 dX2_returnToNormal_48 (by decide) ?_
        refine g_Vi (As := [.int (-1)]) (rest := []) C hP hD hS hA (T_X2_load l D K Z Y ad d t1 hok (-1)) hE hZ (uwV m_47_3 m_47_4 m_47_5 m_1_23 m_47_6) (hdV 1 (by decide +kernel) rfl) ⟨Nat.le_of_ble_eq_true rfl, Nat.le_of_ble_eq_true rfl⟩ rfl rfl (ci := 1) (q0 := 4) rfl rfl rfl hl.1 (Nat.le_of_ble_eq_true rfl) dX2_returnToNormal_49 ⟨Nat.le_of_ble_eq_true rfl, Nat.le_of_ble_eq_true rfl⟩ (fun r_19 t_18 H locs hw hP hD hS => ?_)
        obtain ⟨h_21, h_22⟩ := hw
        refine lv_istore_n (lv' := [(1, .int r_19), (0, .ref (ad 4))]) C.1 C.2.1 dX2_returnToNormal_52 rfl hl (by decide) rfl (fun ls hl => ?_)
        have hl : lv_has ls 3 [(0, .ref (ad 4)), (1, .int r_19)] := lv_sub hl [1, 0] rfl
        refine lv_iload_n C.1 C.2.1 dX2_returnToNormal_53 rfl (lv_at hl 1 rfl) ?_
        refine lv_iconst (v := 3) C.1 C.2.1 dX2_returnToNormal_54 (by decide) ?_
        refine g_Si (As := [.int r_19, .int 3]) (rest := []) C hP hD hS hA (T_X1_byteOf l D K Z Y ad d t1 hok (r_19) 3 (show (1 : Int) ≤ (3 : Int32).toInt ∧ (3 : Int32).toInt ≤ 5 from ⟨by decide, by decide⟩)) hE hZ (uwS m_47_13 m_47_14 m_14_2 m_47_15) (hdS 2 (by decide +kernel) rfl) ⟨Nat.le_of_ble_eq_true rfl, Nat.le_of_ble_eq_true rfl⟩ rfl rfl rfl hl.1 (Nat.le_of_ble_eq_true rfl) dX2_returnToNormal_55 ⟨Nat.le_of_ble_eq_true rfl, Nat.le_of_ble_eq_true rfl⟩ (fun r_24 t_23 H locs hw hP hD hS => ?_)
        obtain ⟨h_26, h_27⟩ := hw
        refine lv_istore_n (lv' := [(2, .int r_24), (0, .ref (ad 4)), (1, .int r_19)]) C.1 C.2.1 dX2_returnToNormal_58 rfl hl (by decide) rfl (fun ls hl => ?_)
        have hl : lv_has ls 3 [(0, .ref (ad 4)), (1, .int r_19), (2, .int r_24)] := lv_sub hl [1, 2, 0] rfl
        refine lv_aload_n C.1 C.2.1 dX2_returnToNormal_59 rfl (lv_at hl 0 rfl) ?_
        refine k_get (v := .ref (ad 22)) C hP 4 rfl rfl inlX2 1 (by decide) m_4_16 rfl dX2_returnToNormal_60 ?_
        refine lv_bipush (v := 8) C.1 C.2.1 dX2_returnToNormal_63 (by decide) ?_
        refine lv_iload_n C.1 C.2.1 dX2_returnToNormal_65 rfl (lv_at hl 1 rfl) ?_
        refine lv_bipush (v := 18) C.1 C.2.1 dX2_returnToNormal_66 (by decide) ?_
        obtain ⟨v_28, e_29⟩ : ∃ z, z = (r_19 : Int32) >>> ((18 : Int32) &&& 31) := ⟨_, rfl⟩
        have h_30 : v_28.toInt = r_19.toInt / 2 ^ 18 := by rw [e_29]; exact Jvm.Kit.i32_shr _ _ (k := 18) (by decide)
        refine k_ishr (v := v_28) C e_29.symm dX2_returnToNormal_68 ?_
        refine lv_sipush (v := 4095) C.1 C.2.1 dX2_returnToNormal_69 (by decide) ?_
        obtain ⟨v_31, e_32⟩ : ∃ z, z = (v_28 : Int32) &&& (4095 : Int32) := ⟨_, rfl⟩
        have h_33 : v_31.toInt = v_28.toInt % 2 ^ 12 := by rw [e_32]; exact Jvm.Kit.i32_mask _ _ (k := 12) (by decide) (by decide)
        refine k_iand (v := v_31) C e_32.symm dX2_returnToNormal_72 ?_
        refine k_ist (ws' := (WX d) K ad (uB t1 22 (8 : Int32).toNatClampNeg v_31)) (x' := v_31) C hP hD hS 22 rfl (vin (by decide)) rfl rfl rfl dX2_returnToNormal_73 (fun H locs hP hD hS => ?_)
        have hok : okX (uB t1 22 (8 : Int32).toNatClampNeg v_31) := ⟨hok.1, okB_B hok.2.1 22 _ v_31 (show (-2147483648 : Int) ≤ (v_31 : Int32).toInt ∧ (v_31 : Int32).toInt ≤ 2147483647 from (i_rng _)), trivial⟩
        have hfr : frA [(4, 3), (4, 4), (4, 5), (4, 10)] [] [22] [] t (uB t1 22 (8 : Int32).toNatClampNeg v_31) := frA_B hfr 22 _ _ rfl
        refine lv_aload_n C.1 C.2.1 dX2_returnToNormal_74 rfl (lv_at hl 0 rfl) ?_
        refine lv_iload_n C.1 C.2.1 dX2_returnToNormal_75 rfl (lv_at hl 2 rfl) ?_
        refine lv_bipush (v := 8) C.1 C.2.1 dX2_returnToNormal_76 (by decide) ?_
        refine lv_icmp_lt (tgt := 85) C.1 C.2.1 dX2_returnToNormal_78 (by decide) (fun c_34 => ?_) (fun c_34 => ?_)
        · replace c_34 : r_24.toInt < 8 := i_lt c_34
          refine lv_iconst (v := 0) C.1 C.2.1 dX2_returnToNormal_85 (by decide) ?_
          exact L_86 (uB t1 22 (8 : Int32).toNatClampNeg v_31) r_19 r_24 0 _ _ _ hok hfr ⟨by omega, by omega⟩ ⟨by decide, by decide⟩ hP hD hS (lv_sub hl [0, 1, 2] rfl)
        · replace c_34 : 8 ≤ r_24.toInt := i_nlt c_34
          refine lv_iconst (v := 1) C.1 C.2.1 dX2_returnToNormal_81 (by decide) ?_
          refine lv_goto (tgt := 86) C.1 C.2.1 dX2_returnToNormal_82 (by decide) ?_
          exact L_86 (uB t1 22 (8 : Int32).toNatClampNeg v_31) r_19 r_24 1 _ _ _ hok hfr ⟨by omega, by omega⟩ ⟨by decide, by decide⟩ hP hD hS (lv_sub hl [0, 1, 2] rfl)
      · replace c_17 : w2_1.toInt ≤ 7 := i_nlt c_17
        refine lv_aload_n C.1 C.2.1 dX2_returnToNormal_8 rfl (lv_at hl 0 rfl) ?_
        refine lv_iload_n C.1 C.2.1 dX2_returnToNormal_9 rfl (lv_at hl 1 rfl) ?_
        refine lv_bipush (v := 9) C.1 C.2.1 dX2_returnToNormal_10 (by decide) ?_
        obtain ⟨v_35, e_36⟩ : ∃ z, z = (w2_1 : Int32) - (9 : Int32) := ⟨_, rfl⟩
        have h_37 : v_35.toInt = w2_1.toInt - 9 := by rw [e_36]; exact ti_isub (by show (_ : Int) ≤ w2_1.toInt - 9; omega) (by show w2_1.toInt - 9 < (_ : Int); omega)
        refine k_isub (v := v_35) C e_36.symm dX2_returnToNormal_12 ?_
        refine g_Vi (As := [.int v_35]) (rest := []) C hP hD hS hA (T_X2_load l D K Z Y ad d t1 hok (v_35)) hE hZ (uwV m_47_3 m_47_4 m_47_5 m_1_23 m_47_6) (hdV 1 (by decide +kernel) rfl) ⟨Nat.le_of_ble_eq_true rfl, Nat.le_of_ble_eq_true rfl⟩ rfl rfl (ci := 1) (q0 := 4) rfl rfl rfl hl.1 (Nat.le_of_ble_eq_true rfl) dX2_returnToNormal_13 ⟨Nat.le_of_ble_eq_true rfl, Nat.le_of_ble_eq_true rfl⟩ (fun r_39 t_38 H locs hw hP hD hS => ?_)
        obtain ⟨h_41, h_42⟩ := hw
        refine lv_istore_n (lv' := [(2, .int r_39), (0, .ref (ad 4)), (1, .int w2_1)]) C.1 C.2.1 dX2_returnToNormal_16 rfl hl (by decide) rfl (fun ls hl => ?_)
        have hl : lv_has ls 3 [(0, .ref (ad 4)), (1, .int w2_1), (2, .int r_39)] := lv_sub hl [1, 2, 0] rfl
        refine lv_aload_n C.1 C.2.1 dX2_returnToNormal_17 rfl (lv_at hl 0 rfl) ?_
        refine k_get (v := .ref (ad 22)) C hP 4 rfl rfl inlX2 1 (by decide) m_4_16 rfl dX2_returnToNormal_18 ?_
        refine lv_iload_n C.1 C.2.1 dX2_returnToNormal_21 rfl (lv_at hl 1 rfl) ?_
        refine lv_iload_n C.1 C.2.1 dX2_returnToNormal_22 rfl (lv_at hl 1 rfl) ?_
        refine lv_if_eq (tgt := 32) C.1 C.2.1 dX2_returnToNormal_23 (by decide) (fun c_43 => ?_) (fun c_43 => ?_)
        · replace c_43 : w2_1.toInt = 0 := i_eq c_43
          exact L_32 t1 w2_1 r_39 w2_1 _ _ _ hok hfr ⟨by omega, by omega⟩ ⟨by omega, by omega⟩ (show (8 : Int) - w2_1.toInt < (fuel_2 : Int) + 1 from by omega) hP hD hS (lv_sub hl [0, 1, 2] rfl)
        · replace c_43 : ¬ w2_1.toInt = 0 := i_ne c_43
          refine lv_iload_n C.1 C.2.1 dX2_returnToNormal_26 rfl (lv_at hl 1 rfl) ?_
          refine lv_bipush (v := 7) C.1 C.2.1 dX2_returnToNormal_27 (by decide) ?_
          refine lv_icmp_ne (tgt := 36) C.1 C.2.1 dX2_returnToNormal_29 (by decide) (fun c_44 => ?_) (fun c_44 => ?_)
          · replace c_44 : ¬ w2_1.toInt = 7 := i_ne c_44
            refine lv_iload_n C.1 C.2.1 dX2_returnToNormal_36 rfl (lv_at hl 2 rfl) ?_
            refine lv_ldc (v := 1073745919) C.1 C.2.1 C.2.2.2.1 (C.2.2.2.2.1 _ m_51_15) dX2_returnToNormal_37 ?_
            obtain ⟨v_45, e_46⟩ : ∃ z, z = (r_39 : Int32) &&& (1073745919 : Int32) := ⟨_, rfl⟩
            have h_47 : (0 : Int) ≤ v_45.toInt ∧ v_45.toInt ≤ 1073745919 := by rw [e_46]; exact z_and _ (k := 1073745919) (by decide) (by decide)
            refine k_iand (v := v_45) C e_46.symm dX2_returnToNormal_39 ?_
            exact L_40 t1 w2_1 r_39 w2_1 v_45 _ _ _ hok hfr ⟨by omega, by omega⟩ ⟨by omega, by omega⟩ (show (8 : Int) - w2_1.toInt < (fuel_2 : Int) + 1 from by omega) hP hD hS (lv_sub hl [0, 1, 2] rfl)
          · replace c_44 : w2_1.toInt = 7 := i_eq c_44
            exact L_32 t1 w2_1 r_39 w2_1 _ _ _ hok hfr ⟨by omega, by omega⟩ ⟨by omega, by omega⟩ (show (8 : Int) - w2_1.toInt < (fuel_2 : Int) + 1 from by omega) hP hD hS (lv_sub hl [0, 1, 2] rfl)
  refine lv_iconst (v := 0) C.1 C.2.1 dX2_returnToNormal_0 (by decide) ?_
  refine lv_istore_n (lv' := [(1, .int 0), (0, .ref (ad 4))]) C.1 C.2.1 dX2_returnToNormal_1 rfl hl (by decide) rfl (fun ls hl => ?_)
  have hl : lv_has ls 3 [(0, .ref (ad 4)), (1, .int 0)] := lv_sub hl [1, 0] rfl
  exact L_2 9 t 0 _ _ _ hok hfr ⟨by decide, by decide⟩ (show (8 : Int) - 0 < ((9 : Nat) : Int) from by omega) hP hD hS (lv_sub hl [0, 1] rfl)

theorem dX2_save_0 : decode cX2_save 0 = .ok (.iload_n 1, 1) := by decide +kernel
theorem dX2_save_1 : decode cX2_save 1 = .ok (.sipush 3999, 3) := by decide +kernel
theorem dX2_save_10 : decode cX2_save 10 = .ok (.iload_n 3, 1) := by decide +kernel
theorem dX2_save_11 : decode cX2_save 11 = .ok (.aload_n 0, 1) := by decide +kernel
theorem dX2_save_12 : decode cX2_save 12 = .ok (.getfield 19, 3) := by decide +kernel
theorem dX2_save_15 : decode cX2_save 15 = .ok (.arraylength, 1) := by decide +kernel
theorem dX2_save_16 : decode cX2_save 16 = .ok (.if_icmp .ge 10, 3) := by decide +kernel
theorem dX2_save_19 : decode cX2_save 19 = .ok (.aload_n 0, 1) := by decide +kernel
theorem dX2_save_20 : decode cX2_save 20 = .ok (.getfield 19, 3) := by decide +kernel
theorem dX2_save_23 : decode cX2_save 23 = .ok (.iload_n 3, 1) := by decide +kernel
theorem dX2_save_24 : decode cX2_save 24 = .ok (.iload_n 2, 1) := by decide +kernel
theorem dX2_save_25 : decode cX2_save 25 = .ok (.iastore, 1) := by decide +kernel
theorem dX2_save_26 : decode cX2_save 26 = .ok (.return_, 1) := by decide +kernel
theorem dX2_save_4 : decode cX2_save 4 = .ok (.iadd, 1) := by decide +kernel
theorem dX2_save_5 : decode cX2_save 5 = .ok (.istore_n 3, 1) := by decide +kernel
theorem dX2_save_6 : decode cX2_save 6 = .ok (.iload_n 3, 1) := by decide +kernel
theorem dX2_save_7 : decode cX2_save 7 = .ok (.ifCond .lt 19, 3) := by decide +kernel
set_option maxHeartbeats 4000000 in
set_option maxRecDepth 100000 in
theorem T_X2_save (l : Launch) (D : va_G) (K : Nat → ClassId) (Z Y : Nat → Nat) (ad : Nat → Nat) (d : dSt) (t : tSt) (hok : okX t) (x1 : Int32) (hx1 : (-2147483648 : Int) ≤ x1.toInt ∧ x1.toInt ≤ 1073745919) (x2 : Int32) : tMet l yX2_save cX2_save 4 none (rmD 0 0 0) D K Z Y [.ref (ad 4), .int x1, .int x2] ((WX d) K ad t) (QV D K (fun (u : tSt) => okX u ∧ frA [] [] [10] [] t u) (fun (u : tSt) => (WX d) K ad u)) 0 0 := by
  refine t_met RX2 ⟨rfl, by decide +kernel⟩ (Nat.le_of_ble_eq_true rfl) ?_
  intro p e s m below meth c A ls C hE hZ hr hlocks hA hP hD hS hl
  have hl : lv_has ls 4 [(0, .ref (ad 4)), (1, .int x1), (2, .int x2)] := hl
  have hokt := hok
  have hfr : frA [] [] [10] [] t t := frA_rf
  refine lv_iload_n C.1 C.2.1 dX2_save_0 rfl (lv_at hl 1 rfl) ?_
  refine lv_sipush (v := 3999) C.1 C.2.1 dX2_save_1 (by decide) ?_
  obtain ⟨v_1, e_2⟩ : ∃ z, z = (x1 : Int32) + (3999 : Int32) := ⟨_, rfl⟩
  have h_4 := i_rng x1
  have h_3 : v_1.toInt = x1.toInt + 3999 := by rw [e_2]; exact ti_iadd (by show (_ : Int) ≤ x1.toInt + 3999; omega) (by show x1.toInt + 3999 < (_ : Int); omega)
  refine k_iadd (v := v_1) C e_2.symm dX2_save_4 ?_
  refine lv_istore_n (lv' := [(3, .int v_1), (0, .ref (ad 4)), (1, .int x1), (2, .int x2)]) C.1 C.2.1 dX2_save_5 rfl hl (by decide) rfl (fun ls hl => ?_)
  have hl : lv_has ls 4 [(0, .ref (ad 4)), (1, .int x1), (2, .int x2), (3, .int v_1)] := lv_sub hl [1, 2, 3, 0] rfl
  refine lv_iload_n C.1 C.2.1 dX2_save_6 rfl (lv_at hl 3 rfl) ?_
  refine lv_if_lt (tgt := 26) C.1 C.2.1 dX2_save_7 (by decide) (fun c_5 => ?_) (fun c_5 => ?_)
  · replace c_5 : v_1.toInt < 0 := i_lt c_5
    exact g_vret C hr hlocks hP hD hS t rfl ⟨hok, hfr⟩ (Nat.le_of_ble_eq_true rfl) (Nat.le_of_ble_eq_true rfl) dX2_save_26
  · replace c_5 : 0 ≤ v_1.toInt := i_nlt c_5
    refine lv_iload_n C.1 C.2.1 dX2_save_10 rfl (lv_at hl 3 rfl) ?_
    refine lv_aload_n C.1 C.2.1 dX2_save_11 rfl (lv_at hl 0 rfl) ?_
    refine k_get (v := .ref (ad 10)) C hP 4 rfl rfl inlX2 0 (by decide) m_4_18 rfl dX2_save_12 ?_
    refine k_len (v := 7999) C hP 10 0 rfl rfl rfl dX2_save_15 ?_
    refine lv_icmp_ge (tgt := 26) C.1 C.2.1 dX2_save_16 (by decide) (fun c_6 => ?_) (fun c_6 => ?_)
    · replace c_6 : 7999 ≤ v_1.toInt := i_le c_6
      exact g_vret C hr hlocks hP hD hS t rfl ⟨hok, hfr⟩ (Nat.le_of_ble_eq_true rfl) (Nat.le_of_ble_eq_true rfl) dX2_save_26
    · replace c_6 : v_1.toInt < 7999 := i_nle c_6
      refine lv_aload_n C.1 C.2.1 dX2_save_19 rfl (lv_at hl 0 rfl) ?_
      refine k_get (v := .ref (ad 10)) C hP 4 rfl rfl inlX2 0 (by decide) m_4_18 rfl dX2_save_20 ?_
      refine lv_iload_n C.1 C.2.1 dX2_save_23 rfl (lv_at hl 3 rfl) ?_
      refine lv_iload_n C.1 C.2.1 dX2_save_24 rfl (lv_at hl 2 rfl) ?_
      refine k_ist (ws' := (WX d) K ad (uB t 10 (v_1 : Int32).toNatClampNeg x2)) (x' := x2) C hP hD hS 10 rfl (vp_in_iff.mpr ⟨by omega, by omega⟩) rfl rfl rfl dX2_save_25 (fun H locs hP hD hS => ?_)
      have hok : okX (uB t 10 (v_1 : Int32).toNatClampNeg x2) := ⟨hok.1, okB_B hok.2.1 10 _ x2 (show (-2147483648 : Int) ≤ (x2 : Int32).toInt ∧ (x2 : Int32).toInt ≤ 2147483647 from (i_rng _)), trivial⟩
      have hfr : frA [] [] [10] [] t (uB t 10 (v_1 : Int32).toNatClampNeg x2) := frA_B hfr 10 _ _ rfl
      exact g_vret C hr hlocks hP hD hS (uB t 10 (v_1 : Int32).toNatClampNeg x2) rfl ⟨hok, hfr⟩ (Nat.le_of_ble_eq_true rfl) (Nat.le_of_ble_eq_true rfl) dX2_save_26

theorem dX2_add_0 : decode cX2_add 0 = .ok (.aload_n 0, 1) := by decide +kernel
theorem dX2_add_1 : decode cX2_add 1 = .ok (.getfield 11, 3) := by decide +kernel
theorem dX2_add_10 : decode cX2_add 10 = .ok (.iload_n 2, 1) := by decide +kernel
theorem dX2_add_11 : decode cX2_add 11 = .ok (.i2l, 1) := by decide +kernel
theorem dX2_add_12 : decode cX2_add 12 = .ok (.ladd, 1) := by decide +kernel
theorem dX2_add_13 : decode cX2_add 13 = .ok (.lstore_n 3, 1) := by decide +kernel
theorem dX2_add_14 : decode cX2_add 14 = .ok (.lload_n 3, 1) := by decide +kernel
theorem dX2_add_15 : decode cX2_add 15 = .ok (.invokestatic 221, 3) := by decide +kernel
theorem dX2_add_18 : decode cX2_add 18 = .ok (.ldc2_w 219, 3) := by decide +kernel
theorem dX2_add_21 : decode cX2_add 21 = .ok (.lcmp, 1) := by decide +kernel
theorem dX2_add_22 : decode cX2_add 22 = .ok (.ifCond .le 8, 3) := by decide +kernel
theorem dX2_add_25 : decode cX2_add 25 = .ok (.aload_n 0, 1) := by decide +kernel
theorem dX2_add_26 : decode cX2_add 26 = .ok (.iconst 1, 1) := by decide +kernel
theorem dX2_add_27 : decode cX2_add 27 = .ok (.putfield 37, 3) := by decide +kernel
theorem dX2_add_30 : decode cX2_add 30 = .ok (.aload_n 0, 1) := by decide +kernel
theorem dX2_add_31 : decode cX2_add 31 = .ok (.getfield 11, 3) := by decide +kernel
theorem dX2_add_34 : decode cX2_add 34 = .ok (.iload_n 1, 1) := by decide +kernel
theorem dX2_add_35 : decode cX2_add 35 = .ok (.lload_n 3, 1) := by decide +kernel
theorem dX2_add_36 : decode cX2_add 36 = .ok (.lconst 0, 1) := by decide +kernel
theorem dX2_add_37 : decode cX2_add 37 = .ok (.lcmp, 1) := by decide +kernel
theorem dX2_add_38 : decode cX2_add 38 = .ok (.ifCond .ne 15, 3) := by decide +kernel
theorem dX2_add_4 : decode cX2_add 4 = .ok (.iload_n 1, 1) := by decide +kernel
theorem dX2_add_41 : decode cX2_add 41 = .ok (.aload_n 0, 1) := by decide +kernel
theorem dX2_add_42 : decode cX2_add 42 = .ok (.getfield 11, 3) := by decide +kernel
theorem dX2_add_45 : decode cX2_add 45 = .ok (.iload_n 1, 1) := by decide +kernel
theorem dX2_add_46 : decode cX2_add 46 = .ok (.iaload, 1) := by decide +kernel
theorem dX2_add_47 : decode cX2_add 47 = .ok (.ldc 124, 2) := by decide +kernel
theorem dX2_add_49 : decode cX2_add 49 = .ok (.iand, 1) := by decide +kernel
theorem dX2_add_5 : decode cX2_add 5 = .ok (.iaload, 1) := by decide +kernel
theorem dX2_add_50 : decode cX2_add 50 = .ok (.goto 7, 3) := by decide +kernel
theorem dX2_add_53 : decode cX2_add 53 = .ok (.lload_n 3, 1) := by decide +kernel
theorem dX2_add_54 : decode cX2_add 54 = .ok (.invokestatic 120, 3) := by decide +kernel
theorem dX2_add_57 : decode cX2_add 57 = .ok (.iastore, 1) := by decide +kernel
theorem dX2_add_58 : decode cX2_add 58 = .ok (.return_, 1) := by decide +kernel
theorem dX2_add_6 : decode cX2_add 6 = .ok (.invokestatic 98, 3) := by decide +kernel
theorem dX2_add_9 : decode cX2_add 9 = .ok (.i2l, 1) := by decide +kernel
set_option maxHeartbeats 4000000 in
set_option maxRecDepth 100000 in
theorem T_X2_add (l : Launch) (D : va_G) (K : Nat → ClassId) (Z Y : Nat → Nat) (ad : Nat → Nat) (d : dSt) (t : tSt) (hok : okX t) (x1 : Int32) (hx1 : (0 : Int) ≤ x1.toInt ∧ x1.toInt ≤ 7) (x2 : Int32) : tMet l yX2_add cX2_add 5 none (rmD 2 0 0) D K Z Y [.ref (ad 4), .int x1, .int x2] ((WX d) K ad t) (QV D K (fun (u : tSt) => okX u ∧ frA [(4, 3)] [] [22] [] t u) (fun (u : tSt) => (WX d) K ad u)) 0 0 := by
  refine t_met RX2 ⟨rfl, by decide +kernel⟩ (Nat.le_of_ble_eq_true rfl) ?_
  intro p e s m below meth c A ls C hE hZ hr hlocks hA hP hD hS hl
  have hl : lv_has ls 5 [(0, .ref (ad 4)), (1, .int x1), (2, .int x2)] := hl
  have hokt := hok
  have hfr : frA [(4, 3)] [] [22] [] t t := frA_rf
  have L_30 : ∀ (t1 : tSt) (w30_3 : Int64) (H : Heap) (locs : List Loc) (ls : Array Slot), okX t1 → frA [(4, 3)] [] [22] [] t t1 → va_P D vwCl ((WX d) K ad t1) H → va_D A ((WX d) K ad t1) → va_S A s.heap H locs → lv_has ls 5 [(0, .ref (ad 4)), (1, .int x1), (2, .int x2), (3, .long w30_3)] → W p l e (rmD 2 0 0) s m [.ref (ad 4), .int x1, .int x2].toArray below meth c H locs 0 0 (MQ below (QV D K (fun (u : tSt) => okX u ∧ frA [(4, 3)] [] [22] [] t u) (fun (u : tSt) => (WX d) K ad u) A) [.ref (ad 4), .int x1, .int x2].toArray s 0 0 A) (F0 m 30 ls []) := by
    intro t1 w30_3 H locs ls hok hfr hP hD hS hl
    refine lv_aload_n C.1 C.2.1 dX2_add_30 rfl (lv_at hl 0 rfl) ?_
    refine k_get (v := .ref (ad 22)) C hP 4 rfl rfl inlX2 1 (by decide) m_4_16 rfl dX2_add_31 ?_
    refine lv_iload_n C.1 C.2.1 dX2_add_34 rfl (lv_at hl 1 rfl) ?_
    refine lv_lload_n C.1 C.2.1 dX2_add_35 rfl (lv_at hl 3 rfl) ?_
    refine lv_lconst (v := 0) C.1 C.2.1 dX2_add_36 (by decide) ?_
    obtain ⟨v_1, e_2⟩ : ∃ z, z = lg_cmp (w30_3 : Int64) 0 := ⟨_, rfl⟩
    have h_3 : (-1 : Int) ≤ v_1.toInt ∧ v_1.toInt ≤ 1 := by rw [e_2]; exact cmp_rng _ _
    refine k_lcmp (v := v_1) C e_2.symm dX2_add_37 ?_
    refine lv_if_ne (tgt := 53) C.1 C.2.1 dX2_add_38 (by decide) (fun c_4 => ?_) (fun c_4 => ?_)
    · replace c_4 : ¬ v_1.toInt = 0 := i_ne c_4
      refine lv_lload_n C.1 C.2.1 dX2_add_53 rfl (lv_at hl 3 rfl) ?_
      refine g_Si (As := [.long w30_3]) (rest := [.int x1, .ref (ad 22)]) C hP hD hS hA (T_X1_wordOf l D K Z Y ad d t1 hok (w30_3)) hE hZ (uwS m_50_15 m_22_11 m_14_2 m_22_12) (hdS 1 (by decide +kernel) rfl) ⟨Nat.le_of_ble_eq_true rfl, Nat.le_of_ble_eq_true rfl⟩ rfl rfl rfl hl.1 (Nat.le_of_ble_eq_true rfl) dX2_add_54 ⟨Nat.le_of_ble_eq_true rfl, Nat.le_of_ble_eq_true rfl⟩ (fun r_6 t_5 H locs hw hP hD hS => ?_)
      obtain ⟨h_8, h_9⟩ := hw
      refine k_ist (ws' := (WX d) K ad (uB t1 22 (x1 : Int32).toNatClampNeg r_6)) (x' := r_6) C hP hD hS 22 rfl (vp_in_iff.mpr ⟨by omega, by omega⟩) rfl rfl rfl dX2_add_57 (fun H locs hP hD hS => ?_)
      have hok : okX (uB t1 22 (x1 : Int32).toNatClampNeg r_6) := ⟨hok.1, okB_B hok.2.1 22 _ r_6 (show (-2147483648 : Int) ≤ (r_6 : Int32).toInt ∧ (r_6 : Int32).toInt ≤ 2147483647 from (i_rng _)), trivial⟩
      have hfr : frA [(4, 3)] [] [22] [] t (uB t1 22 (x1 : Int32).toNatClampNeg r_6) := frA_B hfr 22 _ _ rfl
      exact g_vret C hr hlocks hP hD hS (uB t1 22 (x1 : Int32).toNatClampNeg r_6) rfl ⟨hok, hfr⟩ (Nat.le_of_ble_eq_true rfl) (Nat.le_of_ble_eq_true rfl) dX2_add_58
    · replace c_4 : v_1.toInt = 0 := i_eq c_4
      refine lv_aload_n C.1 C.2.1 dX2_add_41 rfl (lv_at hl 0 rfl) ?_
      refine k_get (v := .ref (ad 22)) C hP 4 rfl rfl inlX2 1 (by decide) m_4_16 rfl dX2_add_42 ?_
      refine lv_iload_n C.1 C.2.1 dX2_add_45 rfl (lv_at hl 1 rfl) ?_
      obtain ⟨v_10, e_11⟩ : ∃ z, z = (t1.2.2.1 22 (x1 : Int32).toNatClampNeg) := ⟨_, rfl⟩
      refine k_ild (v := v_10) C hP 22 rfl (vp_in_iff.mpr ⟨by omega, by omega⟩) e_11.symm dX2_add_46 ?_
      refine lv_ldc (v := 1073741824) C.1 C.2.1 C.2.2.2.1 (C.2.2.2.2.1 _ m_47_11) dX2_add_47 ?_
      obtain ⟨v_12, e_13⟩ : ∃ z, z = (v_10 : Int32) &&& (1073741824 : Int32) := ⟨_, rfl⟩
      have h_14 : (0 : Int) ≤ v_12.toInt ∧ v_12.toInt ≤ 1073741824 := by rw [e_13]; exact z_and _ (k := 1073741824) (by decide) (by decide)
      refine k_iand (v := v_12) C e_13.symm dX2_add_49 ?_
      refine lv_goto (tgt := 57) C.1 C.2.1 dX2_add_50 (by decide) ?_
      refine k_ist (ws' := (WX d) K ad (uB t1 22 (x1 : Int32).toNatClampNeg v_12)) (x' := v_12) C hP hD hS 22 rfl (vp_in_iff.mpr ⟨by omega, by omega⟩) rfl rfl rfl dX2_add_57 (fun H locs hP hD hS => ?_)
      have hok : okX (uB t1 22 (x1 : Int32).toNatClampNeg v_12) := ⟨hok.1, okB_B hok.2.1 22 _ v_12 (show (-2147483648 : Int) ≤ (v_12 : Int32).toInt ∧ (v_12 : Int32).toInt ≤ 2147483647 from (i_rng _)), trivial⟩
      have hfr : frA [(4, 3)] [] [22] [] t (uB t1 22 (x1 : Int32).toNatClampNeg v_12) := frA_B hfr 22 _ _ rfl
      exact g_vret C hr hlocks hP hD hS (uB t1 22 (x1 : Int32).toNatClampNeg v_12) rfl ⟨hok, hfr⟩ (Nat.le_of_ble_eq_true rfl) (Nat.le_of_ble_eq_true rfl) dX2_add_58
  refine lv_aload_n C.1 C.2.1 dX2_add_0 rfl (lv_at hl 0 rfl) ?_
  refine k_get (v := .ref (ad 22)) C hP 4 rfl rfl inlX2 1 (by decide) m_4_16 rfl dX2_add_1 ?_
  refine lv_iload_n C.1 C.2.1 dX2_add_4 rfl (lv_at hl 1 rfl) ?_
  obtain ⟨v_15, e_16⟩ : ∃ z, z = (t.2.2.1 22 (x1 : Int32).toNatClampNeg) := ⟨_, rfl⟩
  refine k_ild (v := v_15) C hP 22 rfl (vp_in_iff.mpr ⟨by omega, by omega⟩) e_16.symm dX2_add_5 ?_
  refine g_Si (As := [.int v_15]) (rest := []) C hP hD hS hA (T_X1_value l D K Z Y ad d t hok (v_15)) hE hZ (uwS m_47_19 m_23_9 m_14_2 m_23_10) (hdS 1 (by decide +kernel) rfl) ⟨Nat.le_of_ble_eq_true rfl, Nat.le_of_ble_eq_true rfl⟩ rfl rfl rfl hl.1 (Nat.le_of_ble_eq_true rfl) dX2_add_6 ⟨Nat.le_of_ble_eq_true rfl, Nat.le_of_ble_eq_true rfl⟩ (fun r_18 t_17 H locs hw hP hD hS => ?_)
  obtain ⟨h_20, h_21⟩ := hw
  obtain ⟨v_22, e_23⟩ : ∃ z, z = (r_18 : Int32).toInt64 := ⟨_, rfl⟩
  have h_24 : v_22.toInt = r_18.toInt := by rw [e_23]; exact Jvm.Kit.i64_of_i32 _
  refine lv_i2l (v := v_22) C.1 C.2.1 dX2_add_9 e_23.symm ?_
  refine lv_iload_n C.1 C.2.1 dX2_add_10 rfl (lv_at hl 2 rfl) ?_
  obtain ⟨v_25, e_26⟩ : ∃ z, z = (x2 : Int32).toInt64 := ⟨_, rfl⟩
  have h_27 : v_25.toInt = x2.toInt := by rw [e_26]; exact Jvm.Kit.i64_of_i32 _
  have h_28 := i_rng x2
  refine lv_i2l (v := v_25) C.1 C.2.1 dX2_add_11 e_26.symm ?_
  obtain ⟨v_29, e_30⟩ : ∃ z, z = (v_22 : Int64) + (v_25 : Int64) := ⟨_, rfl⟩
  have h_31 : v_29.toInt = v_22.toInt + v_25.toInt := by rw [e_30]; exact Jvm.Kit.i64_add (by show (_ : Int) ≤ v_22.toInt + v_25.toInt; omega) (by show v_22.toInt + v_25.toInt < (_ : Int); omega)
  refine k_ladd (v := v_29) C e_30.symm dX2_add_12 ?_
  refine lv_lstore_n (lv' := [(3, .long v_29), (0, .ref (ad 4)), (1, .int x1), (2, .int x2)]) C.1 C.2.1 dX2_add_13 rfl hl (by decide) rfl (fun ls hl => ?_)
  have hl : lv_has ls 5 [(0, .ref (ad 4)), (1, .int x1), (2, .int x2), (3, .long v_29)] := lv_sub hl [1, 2, 3, 0] rfl
  refine lv_lload_n C.1 C.2.1 dX2_add_14 rfl (lv_at hl 3 rfl) ?_
  refine va_mabs_long C.1 C.2.1 (by rw [C.2.2.1, hl.1]) C.2.2.2.1 (C.2.2.2.2.1 _ m_51_1) (C.2.2.2.2.1 _ m_22_14) (C.2.2.2.2.1 _ m_12_15) (C.2.2.2.2.1 _ m_22_15) (Nat.le_of_ble_eq_true rfl) (Nat.le_of_ble_eq_true rfl) (Nat.le_of_ble_eq_true rfl) (Nat.le_of_ble_eq_true rfl) dX2_add_15 ?_
  refine lv_ldc2 (v := 1073741823) C.1 C.2.1 C.2.2.2.1 (C.2.2.2.2.1 _ m_50_20) dX2_add_18 ?_
  obtain ⟨v_33, e_34⟩ : ∃ z, z = lg_cmp ((if (0 : Int64) < v_29 then v_29 else -v_29) : Int64) 1073741823 := ⟨_, rfl⟩
  have h_35 : (-1 : Int) ≤ v_33.toInt ∧ v_33.toInt ≤ 1 := by rw [e_34]; exact cmp_rng _ _
  refine k_lcmp (v := v_33) C e_34.symm dX2_add_21 ?_
  refine lv_if_le (tgt := 30) C.1 C.2.1 dX2_add_22 (by decide) (fun c_36 => ?_) (fun c_36 => ?_)
  · replace c_36 : v_33.toInt ≤ 0 := i_le c_36
    exact L_30 t v_29 _ _ _ hok hfr hP hD hS (lv_sub hl [0, 1, 2, 3] rfl)
  · replace c_36 : 0 < v_33.toInt := i_nle c_36
    refine lv_aload_n C.1 C.2.1 dX2_add_25 rfl (lv_at hl 0 rfl) ?_
    refine lv_iconst (v := 1) C.1 C.2.1 dX2_add_26 (by decide) ?_
    refine k_put (ws' := (WX d) K ad (uI t 4 3 1)) (v := .int 1) C hP hD hS 4 rfl rfl inlX2 tyX2_ok nmX2 3 (by decide) m_11_4 rfl (by decide) (by decide) rfl rfl dX2_add_27 (fun H locs hP hD hS => ?_)
    have hok : okX (uI t 4 3 1) := ⟨okI_I hok.1 4 3 1 (show (0 : Int) ≤ (1 : Int32).toInt ∧ (1 : Int32).toInt ≤ 1 from ⟨by decide, by decide⟩), hok.2.1, trivial⟩
    have hfr : frA [(4, 3)] [] [22] [] t (uI t 4 3 1) := frA_I hfr 4 3 _ rfl
    exact L_30 (uI t 4 3 1) v_29 _ _ _ hok hfr hP hD hS (lv_sub hl [0, 1, 2, 3] rfl)

theorem dX6_empty_0 : decode cX6_empty 0 = .ok (.aload_n 0, 1) := by decide +kernel
theorem dX6_empty_1 : decode cX6_empty 1 = .ok (.iconst 0, 1) := by decide +kernel
theorem dX6_empty_10 : decode cX6_empty 10 = .ok (.aload_n 0, 1) := by decide +kernel
theorem dX6_empty_11 : decode cX6_empty 11 = .ok (.iconst 0, 1) := by decide +kernel
theorem dX6_empty_12 : decode cX6_empty 12 = .ok (.putfield 18, 3) := by decide +kernel
theorem dX6_empty_15 : decode cX6_empty 15 = .ok (.return_, 1) := by decide +kernel
theorem dX6_empty_2 : decode cX6_empty 2 = .ok (.putfield 11, 3) := by decide +kernel
theorem dX6_empty_5 : decode cX6_empty 5 = .ok (.aload_n 0, 1) := by decide +kernel
theorem dX6_empty_6 : decode cX6_empty 6 = .ok (.iconst 0, 1) := by decide +kernel
theorem dX6_empty_7 : decode cX6_empty 7 = .ok (.putfield 15, 3) := by decide +kernel
set_option maxHeartbeats 4000000 in
set_option maxRecDepth 100000 in
theorem T_X6_empty (l : Launch) (D : va_G) (K : Nat → ClassId) (Z Y : Nat → Nat) (ad : Nat → Nat) (d : dSt) (t : tSt) (hok : okX t)  : tMet l yX6_empty cX6_empty 1 none (rmD 0 0 0) D K Z Y [.ref (ad 18)] ((WX d) K ad t) (QV D K (fun (u : tSt) => okX u ∧ frA [(18, 1), (18, 2), (18, 3)] [] [] [] t u ∧ ((u.1 18 2).toInt = 0)) (fun (u : tSt) => (WX d) K ad u)) 0 0 := by
  refine t_met RX6 ⟨rfl, by decide +kernel⟩ (Nat.le_of_ble_eq_true rfl) ?_
  intro p e s m below meth c A ls C hE hZ hr hlocks hA hP hD hS hl
  have hl : lv_has ls 1 [(0, .ref (ad 18))] := hl
  have hokt := hok
  have hfr : frA [(18, 1), (18, 2), (18, 3)] [] [] [] t t := frA_rf
  have h_1 : (0 : Int) ≤ (t.1 18 2).toInt ∧ (t.1 18 2).toInt ≤ 2700 := hok.1 18 2
  refine lv_aload_n C.1 C.2.1 dX6_empty_0 rfl (lv_at hl 0 rfl) ?_
  refine lv_iconst (v := 0) C.1 C.2.1 dX6_empty_1 (by decide) ?_
  refine k_put (ws' := (WX d) K ad (uI t 18 1 0)) (v := .int 0) C hP hD hS 18 rfl rfl inlX6 tyX6_ok nmX6 1 (by decide) m_44_3 rfl rfl rfl rfl rfl dX6_empty_2 (fun H locs hP hD hS => ?_)
  have hok : okX (uI t 18 1 0) := ⟨okI_I hok.1 18 1 0 (show (0 : Int) ≤ (0 : Int32).toInt ∧ (0 : Int32).toInt ≤ 2701 from ⟨by decide, by decide⟩), hok.2.1, trivial⟩
  have hfr : frA [(18, 1), (18, 2), (18, 3)] [] [] [] t (uI t 18 1 0) := frA_I hfr 18 1 _ rfl
  refine lv_aload_n C.1 C.2.1 dX6_empty_5 rfl (lv_at hl 0 rfl) ?_
  refine lv_iconst (v := 0) C.1 C.2.1 dX6_empty_6 (by decide) ?_
  refine k_put (ws' := (WX d) K ad (uI (uI t 18 1 0) 18 2 0)) (v := .int 0) C hP hD hS 18 rfl rfl inlX6 tyX6_ok nmX6 2 (by decide) m_44_1 rfl rfl rfl rfl rfl dX6_empty_7 (fun H locs hP hD hS => ?_)
  have hok : okX (uI (uI t 18 1 0) 18 2 0) := ⟨okI_I hok.1 18 2 0 (show (0 : Int) ≤ (0 : Int32).toInt ∧ (0 : Int32).toInt ≤ 2700 from ⟨by decide, by decide⟩), hok.2.1, trivial⟩
  have hfr : frA [(18, 1), (18, 2), (18, 3)] [] [] [] t (uI (uI t 18 1 0) 18 2 0) := frA_I hfr 18 2 _ rfl
  refine lv_aload_n C.1 C.2.1 dX6_empty_10 rfl (lv_at hl 0 rfl) ?_
  refine lv_iconst (v := 0) C.1 C.2.1 dX6_empty_11 (by decide) ?_
  refine k_put (ws' := (WX d) K ad (uI (uI (uI t 18 1 0) 18 2 0) 18 3 0)) (v := .int 0) C hP hD hS 18 rfl rfl inlX6 tyX6_ok nmX6 3 (by decide) m_44_7 rfl rfl rfl rfl rfl dX6_empty_12 (fun H locs hP hD hS => ?_)
  have hok : okX (uI (uI (uI t 18 1 0) 18 2 0) 18 3 0) := ⟨okI_I hok.1 18 3 0 (show (-2147483648 : Int) ≤ (0 : Int32).toInt ∧ (0 : Int32).toInt ≤ 2147483647 from (i_rng _)), hok.2.1, trivial⟩
  have hfr : frA [(18, 1), (18, 2), (18, 3)] [] [] [] t (uI (uI (uI t 18 1 0) 18 2 0) 18 3 0) := frA_I hfr 18 3 _ rfl
  exact g_vret C hr hlocks hP hD hS (uI (uI (uI t 18 1 0) 18 2 0) 18 3 0) rfl ⟨hok, hfr, (show 0 = 0 from by omega)⟩ (Nat.le_of_ble_eq_true rfl) (Nat.le_of_ble_eq_true rfl) dX6_empty_15

theorem dX10_blockAt_0 : decode cX10_blockAt 0 = .ok (.iload_n 1, 1) := by decide +kernel
theorem dX10_blockAt_1 : decode cX10_blockAt 1 = .ok (.bipush 8, 2) := by decide +kernel
theorem dX10_blockAt_12 : decode cX10_blockAt 12 = .ok (.iload_n 1, 1) := by decide +kernel
theorem dX10_blockAt_13 : decode cX10_blockAt 13 = .ok (.dup2, 1) := by decide +kernel
theorem dX10_blockAt_14 : decode cX10_blockAt 14 = .ok (.iaload, 1) := by decide +kernel
theorem dX10_blockAt_15 : decode cX10_blockAt 15 = .ok (.iconst 1, 1) := by decide +kernel
theorem dX10_blockAt_16 : decode cX10_blockAt 16 = .ok (.iadd, 1) := by decide +kernel
theorem dX10_blockAt_17 : decode cX10_blockAt 17 = .ok (.iastore, 1) := by decide +kernel
theorem dX10_blockAt_18 : decode cX10_blockAt 18 = .ok (.aload_n 0, 1) := by decide +kernel
theorem dX10_blockAt_19 : decode cX10_blockAt 19 = .ok (.getfield 17, 3) := by decide +kernel
theorem dX10_blockAt_22 : decode cX10_blockAt 22 = .ok (.iload_n 1, 1) := by decide +kernel
theorem dX10_blockAt_23 : decode cX10_blockAt 23 = .ok (.iaload, 1) := by decide +kernel
theorem dX10_blockAt_24 : decode cX10_blockAt 24 = .ok (.iconst 1, 1) := by decide +kernel
theorem dX10_blockAt_25 : decode cX10_blockAt 25 = .ok (.isub, 1) := by decide +kernel
theorem dX10_blockAt_26 : decode cX10_blockAt 26 = .ok (.ireturn, 1) := by decide +kernel
theorem dX10_blockAt_3 : decode cX10_blockAt 3 = .ok (.if_icmp .lt 5, 3) := by decide +kernel
theorem dX10_blockAt_6 : decode cX10_blockAt 6 = .ok (.iload_n 2, 1) := by decide +kernel
theorem dX10_blockAt_7 : decode cX10_blockAt 7 = .ok (.ireturn, 1) := by decide +kernel
theorem dX10_blockAt_8 : decode cX10_blockAt 8 = .ok (.aload_n 0, 1) := by decide +kernel
theorem dX10_blockAt_9 : decode cX10_blockAt 9 = .ok (.getfield 17, 3) := by decide +kernel
set_option maxHeartbeats 4000000 in
set_option maxRecDepth 100000 in
theorem T_X10_blockAt (l : Launch) (D : va_G) (K : Nat → ClassId) (Z Y : Nat → Nat) (ad : Nat → Nat) (d : dSt) (t : tSt) (hok : okX t) (x1 : Int32) (hx1 : (0 : Int) ≤ x1.toInt ∧ x1.toInt ≤ 15) (x2 : Int32) (hx2 : (-1073741824 : Int) ≤ x2.toInt ∧ x2.toInt ≤ 1073741823) : tMet l yX10_blockAt cX10_blockAt 3 (some .int) (rmD 0 0 0) D K Z Y [.ref (ad 3), .int x1, .int x2] ((WX d) K ad t) (QI D K (fun (r : Int32) (u : tSt) => okX u ∧ frA [] [] [12] [] t u ∧ (-2147483648 : Int) ≤ r.toInt ∧ r.toInt ≤ 2147483647) (fun (u : tSt) => (WX d) K ad u)) 0 0 := by
  refine t_met RX10 ⟨rfl, by decide +kernel⟩ (Nat.le_of_ble_eq_true rfl) ?_
  intro p e s m below meth c A ls C hE hZ hr hlocks hA hP hD hS hl
  have hl : lv_has ls 3 [(0, .ref (ad 3)), (1, .int x1), (2, .int x2)] := hl
  have hokt := hok
  have hfr : frA [] [] [12] [] t t := frA_rf
  refine lv_iload_n C.1 C.2.1 dX10_blockAt_0 rfl (lv_at hl 1 rfl) ?_
  refine lv_bipush (v := 8) C.1 C.2.1 dX10_blockAt_1 (by decide) ?_
  refine lv_icmp_lt (tgt := 8) C.1 C.2.1 dX10_blockAt_3 (by decide) (fun c_1 => ?_) (fun c_1 => ?_)
  · replace c_1 : x1.toInt < 8 := i_lt c_1
    refine lv_aload_n C.1 C.2.1 dX10_blockAt_8 rfl (lv_at hl 0 rfl) ?_
    refine k_get (v := .ref (ad 12)) C hP 3 rfl rfl inlX10 2 (by decide) m_3_7 rfl dX10_blockAt_9 ?_
    refine lv_iload_n C.1 C.2.1 dX10_blockAt_12 rfl (lv_at hl 1 rfl) ?_
    refine lv_dup2_11 C.1 C.2.1 dX10_blockAt_13 rfl rfl ?_
    obtain ⟨v_2, e_3⟩ : ∃ z, z = (t.2.2.1 12 (x1 : Int32).toNatClampNeg) := ⟨_, rfl⟩
    refine k_ild (v := v_2) C hP 12 rfl (vp_in_iff.mpr ⟨by omega, by omega⟩) e_3.symm dX10_blockAt_14 ?_
    refine lv_iconst (v := 1) C.1 C.2.1 dX10_blockAt_15 (by decide) ?_
    obtain ⟨v_4, e_5⟩ : ∃ z, z = (v_2 : Int32) + (1 : Int32) := ⟨_, rfl⟩
    refine k_iadd (v := v_4) C e_5.symm dX10_blockAt_16 ?_
    refine k_ist (ws' := (WX d) K ad (uB t 12 (x1 : Int32).toNatClampNeg v_4)) (x' := v_4) C hP hD hS 12 rfl (vp_in_iff.mpr ⟨by omega, by omega⟩) rfl rfl rfl dX10_blockAt_17 (fun H locs hP hD hS => ?_)
    have hok : okX (uB t 12 (x1 : Int32).toNatClampNeg v_4) := ⟨hok.1, okB_B hok.2.1 12 _ v_4 (show (-2147483648 : Int) ≤ (v_4 : Int32).toInt ∧ (v_4 : Int32).toInt ≤ 2147483647 from (i_rng _)), trivial⟩
    have hfr : frA [] [] [12] [] t (uB t 12 (x1 : Int32).toNatClampNeg v_4) := frA_B hfr 12 _ _ rfl
    refine lv_aload_n C.1 C.2.1 dX10_blockAt_18 rfl (lv_at hl 0 rfl) ?_
    refine k_get (v := .ref (ad 12)) C hP 3 rfl rfl inlX10 2 (by decide) m_3_7 rfl dX10_blockAt_19 ?_
    refine lv_iload_n C.1 C.2.1 dX10_blockAt_22 rfl (lv_at hl 1 rfl) ?_
    obtain ⟨v_7, e_8⟩ : ∃ z, z = ((uB t 12 (x1 : Int32).toNatClampNeg v_4).2.2.1 12 (x1 : Int32).toNatClampNeg) := ⟨_, rfl⟩
    refine k_ild (v := v_7) C hP 12 rfl (vp_in_iff.mpr ⟨by omega, by omega⟩) e_8.symm dX10_blockAt_23 ?_
    refine lv_iconst (v := 1) C.1 C.2.1 dX10_blockAt_24 (by decide) ?_
    obtain ⟨v_9, e_10⟩ : ∃ z, z = (v_7 : Int32) - (1 : Int32) := ⟨_, rfl⟩
    refine k_isub (v := v_9) C e_10.symm dX10_blockAt_25 ?_
    exact g_iret C hr hlocks hP hD hS rfl (uB t 12 (x1 : Int32).toNatClampNeg v_4) rfl ⟨hok, hfr, (i_rng _).1, (i_rng _).2⟩ (Nat.le_of_ble_eq_true rfl) (Nat.le_of_ble_eq_true rfl) dX10_blockAt_26
  · replace c_1 : 8 ≤ x1.toInt := i_nlt c_1
    refine lv_iload_n C.1 C.2.1 dX10_blockAt_6 rfl (lv_at hl 2 rfl) ?_
    exact g_iret C hr hlocks hP hD hS rfl t rfl ⟨hok, hfr, (i_rng _).1, (i_rng _).2⟩ (Nat.le_of_ble_eq_true rfl) (Nat.le_of_ble_eq_true rfl) dX10_blockAt_7

theorem dX10_wordAt_0 : decode cX10_wordAt 0 = .ok (.iload_n 1, 1) := by decide +kernel
theorem dX10_wordAt_1 : decode cX10_wordAt 1 = .ok (.sipush 3999, 3) := by decide +kernel
theorem dX10_wordAt_10 : decode cX10_wordAt 10 = .ok (.iload_n 2, 1) := by decide +kernel
theorem dX10_wordAt_11 : decode cX10_wordAt 11 = .ok (.aload_n 0, 1) := by decide +kernel
theorem dX10_wordAt_12 : decode cX10_wordAt 12 = .ok (.getfield 57, 3) := by decide +kernel
theorem dX10_wordAt_15 : decode cX10_wordAt 15 = .ok (.arraylength, 1) := by decide +kernel
theorem dX10_wordAt_16 : decode cX10_wordAt 16 = .ok (.if_icmp .ge 12, 3) := by decide +kernel
theorem dX10_wordAt_19 : decode cX10_wordAt 19 = .ok (.aload_n 0, 1) := by decide +kernel
theorem dX10_wordAt_20 : decode cX10_wordAt 20 = .ok (.getfield 57, 3) := by decide +kernel
theorem dX10_wordAt_23 : decode cX10_wordAt 23 = .ok (.iload_n 2, 1) := by decide +kernel
theorem dX10_wordAt_24 : decode cX10_wordAt 24 = .ok (.iaload, 1) := by decide +kernel
theorem dX10_wordAt_25 : decode cX10_wordAt 25 = .ok (.goto 4, 3) := by decide +kernel
theorem dX10_wordAt_28 : decode cX10_wordAt 28 = .ok (.iconst 0, 1) := by decide +kernel
theorem dX10_wordAt_29 : decode cX10_wordAt 29 = .ok (.ireturn, 1) := by decide +kernel
theorem dX10_wordAt_4 : decode cX10_wordAt 4 = .ok (.iadd, 1) := by decide +kernel
theorem dX10_wordAt_5 : decode cX10_wordAt 5 = .ok (.istore_n 2, 1) := by decide +kernel
theorem dX10_wordAt_6 : decode cX10_wordAt 6 = .ok (.iload_n 2, 1) := by decide +kernel
theorem dX10_wordAt_7 : decode cX10_wordAt 7 = .ok (.ifCond .lt 21, 3) := by decide +kernel
set_option maxHeartbeats 4000000 in
set_option maxRecDepth 100000 in
theorem T_X10_wordAt (l : Launch) (D : va_G) (K : Nat → ClassId) (Z Y : Nat → Nat) (ad : Nat → Nat) (d : dSt) (t : tSt) (hok : okX t) (x1 : Int32) : tMet l yX10_wordAt cX10_wordAt 3 (some .int) (rmD 0 0 0) D K Z Y [.ref (ad 3), .int x1] ((WX d) K ad t) (QI D K (fun (r : Int32) (u : Unit) => (-2147483648 : Int) ≤ r.toInt ∧ r.toInt ≤ 2147483647) (fun (_ : Unit) => (WX d) K ad t)) 0 0 := by
  refine t_met RX10 ⟨rfl, by decide +kernel⟩ (Nat.le_of_ble_eq_true rfl) ?_
  intro p e s m below meth c A ls C hE hZ hr hlocks hA hP hD hS hl
  have hl : lv_has ls 3 [(0, .ref (ad 3)), (1, .int x1)] := hl
  refine lv_iload_n C.1 C.2.1 dX10_wordAt_0 rfl (lv_at hl 1 rfl) ?_
  refine lv_sipush (v := 3999) C.1 C.2.1 dX10_wordAt_1 (by decide) ?_
  obtain ⟨v_1, e_2⟩ : ∃ z, z = (x1 : Int32) + (3999 : Int32) := ⟨_, rfl⟩
  refine k_iadd (v := v_1) C e_2.symm dX10_wordAt_4 ?_
  refine lv_istore_n (lv' := [(2, .int v_1), (0, .ref (ad 3)), (1, .int x1)]) C.1 C.2.1 dX10_wordAt_5 rfl hl (by decide) rfl (fun ls hl => ?_)
  have hl : lv_has ls 3 [(0, .ref (ad 3)), (1, .int x1), (2, .int v_1)] := lv_sub hl [1, 2, 0] rfl
  refine lv_iload_n C.1 C.2.1 dX10_wordAt_6 rfl (lv_at hl 2 rfl) ?_
  refine lv_if_lt (tgt := 28) C.1 C.2.1 dX10_wordAt_7 (by decide) (fun c_4 => ?_) (fun c_4 => ?_)
  · replace c_4 : v_1.toInt < 0 := i_lt c_4
    refine lv_iconst (v := 0) C.1 C.2.1 dX10_wordAt_28 (by decide) ?_
    exact g_iret C hr hlocks hP hD hS rfl () rfl ⟨(i_rng _).1, (i_rng _).2⟩ (Nat.le_of_ble_eq_true rfl) (Nat.le_of_ble_eq_true rfl) dX10_wordAt_29
  · replace c_4 : 0 ≤ v_1.toInt := i_nlt c_4
    refine lv_iload_n C.1 C.2.1 dX10_wordAt_10 rfl (lv_at hl 2 rfl) ?_
    refine lv_aload_n C.1 C.2.1 dX10_wordAt_11 rfl (lv_at hl 0 rfl) ?_
    refine k_get (v := .ref (ad 10)) C hP 3 rfl rfl inlX10 0 (by decide) m_4_0 rfl dX10_wordAt_12 ?_
    refine k_len (v := 7999) C hP 10 0 rfl rfl rfl dX10_wordAt_15 ?_
    refine lv_icmp_ge (tgt := 28) C.1 C.2.1 dX10_wordAt_16 (by decide) (fun c_5 => ?_) (fun c_5 => ?_)
    · replace c_5 : 7999 ≤ v_1.toInt := i_le c_5
      refine lv_iconst (v := 0) C.1 C.2.1 dX10_wordAt_28 (by decide) ?_
      exact g_iret C hr hlocks hP hD hS rfl () rfl ⟨(i_rng _).1, (i_rng _).2⟩ (Nat.le_of_ble_eq_true rfl) (Nat.le_of_ble_eq_true rfl) dX10_wordAt_29
    · replace c_5 : v_1.toInt < 7999 := i_nle c_5
      refine lv_aload_n C.1 C.2.1 dX10_wordAt_19 rfl (lv_at hl 0 rfl) ?_
      refine k_get (v := .ref (ad 10)) C hP 3 rfl rfl inlX10 0 (by decide) m_4_0 rfl dX10_wordAt_20 ?_
      refine lv_iload_n C.1 C.2.1 dX10_wordAt_23 rfl (lv_at hl 2 rfl) ?_
      obtain ⟨v_6, e_7⟩ : ∃ z, z = (t.2.2.1 10 (v_1 : Int32).toNatClampNeg) := ⟨_, rfl⟩
      refine k_ild (v := v_6) C hP 10 rfl (vp_in_iff.mpr ⟨by omega, by omega⟩) e_7.symm dX10_wordAt_24 ?_
      refine lv_goto (tgt := 29) C.1 C.2.1 dX10_wordAt_25 (by decide) ?_
      exact g_iret C hr hlocks hP hD hS rfl () rfl ⟨(i_rng _).1, (i_rng _).2⟩ (Nat.le_of_ble_eq_true rfl) (Nat.le_of_ble_eq_true rfl) dX10_wordAt_29

theorem dX2_reckon_0 : decode cX2_reckon 0 = .ok (.aload_n 0, 1) := by decide +kernel
theorem dX2_reckon_1 : decode cX2_reckon 1 = .ok (.getfield 84, 3) := by decide +kernel
theorem dX2_reckon_10 : decode cX2_reckon 10 = .ok (.aload_n 0, 1) := by decide +kernel
theorem dX2_reckon_101 : decode cX2_reckon 101 = .ok (.bipush 7, 2) := by decide +kernel
theorem dX2_reckon_103 : decode cX2_reckon 103 = .ok (.iload 7, 2) := by decide +kernel
theorem dX2_reckon_105 : decode cX2_reckon 105 = .ok (.lload_n 2, 1) := by decide +kernel
theorem dX2_reckon_106 : decode cX2_reckon 106 = .ok (.lload 4, 2) := by decide +kernel
theorem dX2_reckon_108 : decode cX2_reckon 108 = .ok (.lmul, 1) := by decide +kernel
theorem dX2_reckon_109 : decode cX2_reckon 109 = .ok (.ldc2_w 219, 3) := by decide +kernel
theorem dX2_reckon_11 : decode cX2_reckon 11 = .ok (.getfield 84, 3) := by decide +kernel
theorem dX2_reckon_112 : decode cX2_reckon 112 = .ok (.land, 1) := by decide +kernel
theorem dX2_reckon_113 : decode cX2_reckon 113 = .ok (.l2i, 1) := by decide +kernel
theorem dX2_reckon_114 : decode cX2_reckon 114 = .ok (.ior, 1) := by decide +kernel
theorem dX2_reckon_115 : decode cX2_reckon 115 = .ok (.iastore, 1) := by decide +kernel
theorem dX2_reckon_116 : decode cX2_reckon 116 = .ok (.return_, 1) := by decide +kernel
theorem dX2_reckon_117 : decode cX2_reckon 117 = .ok (.lload 4, 2) := by decide +kernel
theorem dX2_reckon_119 : decode cX2_reckon 119 = .ok (.lconst 0, 1) := by decide +kernel
theorem dX2_reckon_120 : decode cX2_reckon 120 = .ok (.lcmp, 1) := by decide +kernel
theorem dX2_reckon_121 : decode cX2_reckon 121 = .ok (.ifCond .eq 10, 3) := by decide +kernel
theorem dX2_reckon_124 : decode cX2_reckon 124 = .ok (.lload_n 2, 1) := by decide +kernel
theorem dX2_reckon_125 : decode cX2_reckon 125 = .ok (.lload 4, 2) := by decide +kernel
theorem dX2_reckon_127 : decode cX2_reckon 127 = .ok (.lcmp, 1) := by decide +kernel
theorem dX2_reckon_128 : decode cX2_reckon 128 = .ok (.ifCond .lt 9, 3) := by decide +kernel
theorem dX2_reckon_131 : decode cX2_reckon 131 = .ok (.aload_n 0, 1) := by decide +kernel
theorem dX2_reckon_132 : decode cX2_reckon 132 = .ok (.iconst 1, 1) := by decide +kernel
theorem dX2_reckon_133 : decode cX2_reckon 133 = .ok (.putfield 37, 3) := by decide +kernel
theorem dX2_reckon_136 : decode cX2_reckon 136 = .ok (.return_, 1) := by decide +kernel
theorem dX2_reckon_137 : decode cX2_reckon 137 = .ok (.lload_n 2, 1) := by decide +kernel
theorem dX2_reckon_138 : decode cX2_reckon 138 = .ok (.bipush 30, 2) := by decide +kernel
theorem dX2_reckon_14 : decode cX2_reckon 14 = .ok (.iconst 1, 1) := by decide +kernel
theorem dX2_reckon_140 : decode cX2_reckon 140 = .ok (.lshl, 1) := by decide +kernel
theorem dX2_reckon_141 : decode cX2_reckon 141 = .ok (.aload_n 0, 1) := by decide +kernel
theorem dX2_reckon_142 : decode cX2_reckon 142 = .ok (.getfield 11, 3) := by decide +kernel
theorem dX2_reckon_145 : decode cX2_reckon 145 = .ok (.bipush 7, 2) := by decide +kernel
theorem dX2_reckon_147 : decode cX2_reckon 147 = .ok (.iaload, 1) := by decide +kernel
theorem dX2_reckon_148 : decode cX2_reckon 148 = .ok (.ldc 173, 2) := by decide +kernel
theorem dX2_reckon_15 : decode cX2_reckon 15 = .ok (.if_icmp .ne 10, 3) := by decide +kernel
theorem dX2_reckon_150 : decode cX2_reckon 150 = .ok (.iand, 1) := by decide +kernel
theorem dX2_reckon_151 : decode cX2_reckon 151 = .ok (.i2l, 1) := by decide +kernel
theorem dX2_reckon_152 : decode cX2_reckon 152 = .ok (.lor, 1) := by decide +kernel
theorem dX2_reckon_153 : decode cX2_reckon 153 = .ok (.lstore 8, 2) := by decide +kernel
theorem dX2_reckon_155 : decode cX2_reckon 155 = .ok (.aload_n 0, 1) := by decide +kernel
theorem dX2_reckon_156 : decode cX2_reckon 156 = .ok (.getfield 11, 3) := by decide +kernel
theorem dX2_reckon_159 : decode cX2_reckon 159 = .ok (.iconst 0, 1) := by decide +kernel
theorem dX2_reckon_160 : decode cX2_reckon 160 = .ok (.iload 7, 2) := by decide +kernel
theorem dX2_reckon_162 : decode cX2_reckon 162 = .ok (.lload 8, 2) := by decide +kernel
theorem dX2_reckon_164 : decode cX2_reckon 164 = .ok (.lload 4, 2) := by decide +kernel
theorem dX2_reckon_166 : decode cX2_reckon 166 = .ok (.ldiv, 1) := by decide +kernel
theorem dX2_reckon_167 : decode cX2_reckon 167 = .ok (.l2i, 1) := by decide +kernel
theorem dX2_reckon_168 : decode cX2_reckon 168 = .ok (.ior, 1) := by decide +kernel
theorem dX2_reckon_169 : decode cX2_reckon 169 = .ok (.iastore, 1) := by decide +kernel
theorem dX2_reckon_170 : decode cX2_reckon 170 = .ok (.aload_n 0, 1) := by decide +kernel
theorem dX2_reckon_171 : decode cX2_reckon 171 = .ok (.getfield 11, 3) := by decide +kernel
theorem dX2_reckon_174 : decode cX2_reckon 174 = .ok (.bipush 7, 2) := by decide +kernel
theorem dX2_reckon_176 : decode cX2_reckon 176 = .ok (.iload 6, 2) := by decide +kernel
theorem dX2_reckon_178 : decode cX2_reckon 178 = .ok (.lload 8, 2) := by decide +kernel
theorem dX2_reckon_18 : decode cX2_reckon 18 = .ok (.iload_n 1, 1) := by decide +kernel
theorem dX2_reckon_180 : decode cX2_reckon 180 = .ok (.lload 4, 2) := by decide +kernel
theorem dX2_reckon_182 : decode cX2_reckon 182 = .ok (.lrem, 1) := by decide +kernel
theorem dX2_reckon_183 : decode cX2_reckon 183 = .ok (.l2i, 1) := by decide +kernel
theorem dX2_reckon_184 : decode cX2_reckon 184 = .ok (.ior, 1) := by decide +kernel
theorem dX2_reckon_185 : decode cX2_reckon 185 = .ok (.iastore, 1) := by decide +kernel
theorem dX2_reckon_186 : decode cX2_reckon 186 = .ok (.return_, 1) := by decide +kernel
theorem dX2_reckon_19 : decode cX2_reckon 19 = .ok (.invokestatic 98, 3) := by decide +kernel
theorem dX2_reckon_22 : decode cX2_reckon 22 = .ok (.goto 8, 3) := by decide +kernel
theorem dX2_reckon_25 : decode cX2_reckon 25 = .ok (.iload_n 1, 1) := by decide +kernel
theorem dX2_reckon_26 : decode cX2_reckon 26 = .ok (.invokestatic 98, 3) := by decide +kernel
theorem dX2_reckon_29 : decode cX2_reckon 29 = .ok (.ineg, 1) := by decide +kernel
theorem dX2_reckon_30 : decode cX2_reckon 30 = .ok (.invokevirtual 216, 3) := by decide +kernel
theorem dX2_reckon_33 : decode cX2_reckon 33 = .ok (.return_, 1) := by decide +kernel
theorem dX2_reckon_34 : decode cX2_reckon 34 = .ok (.aload_n 0, 1) := by decide +kernel
theorem dX2_reckon_35 : decode cX2_reckon 35 = .ok (.getfield 11, 3) := by decide +kernel
theorem dX2_reckon_38 : decode cX2_reckon 38 = .ok (.iconst 0, 1) := by decide +kernel
theorem dX2_reckon_39 : decode cX2_reckon 39 = .ok (.iaload, 1) := by decide +kernel
theorem dX2_reckon_4 : decode cX2_reckon 4 = .ok (.iconst 2, 1) := by decide +kernel
theorem dX2_reckon_40 : decode cX2_reckon 40 = .ok (.ldc 173, 2) := by decide +kernel
theorem dX2_reckon_42 : decode cX2_reckon 42 = .ok (.iand, 1) := by decide +kernel
theorem dX2_reckon_43 : decode cX2_reckon 43 = .ok (.i2l, 1) := by decide +kernel
theorem dX2_reckon_44 : decode cX2_reckon 44 = .ok (.lstore_n 2, 1) := by decide +kernel
theorem dX2_reckon_45 : decode cX2_reckon 45 = .ok (.iload_n 1, 1) := by decide +kernel
theorem dX2_reckon_46 : decode cX2_reckon 46 = .ok (.ldc 173, 2) := by decide +kernel
theorem dX2_reckon_48 : decode cX2_reckon 48 = .ok (.iand, 1) := by decide +kernel
theorem dX2_reckon_49 : decode cX2_reckon 49 = .ok (.i2l, 1) := by decide +kernel
theorem dX2_reckon_5 : decode cX2_reckon 5 = .ok (.if_icmp .gt 29, 3) := by decide +kernel
theorem dX2_reckon_50 : decode cX2_reckon 50 = .ok (.lstore 4, 2) := by decide +kernel
theorem dX2_reckon_52 : decode cX2_reckon 52 = .ok (.aload_n 0, 1) := by decide +kernel
theorem dX2_reckon_53 : decode cX2_reckon 53 = .ok (.getfield 11, 3) := by decide +kernel
theorem dX2_reckon_56 : decode cX2_reckon 56 = .ok (.iconst 0, 1) := by decide +kernel
theorem dX2_reckon_57 : decode cX2_reckon 57 = .ok (.iaload, 1) := by decide +kernel
theorem dX2_reckon_58 : decode cX2_reckon 58 = .ok (.ldc 124, 2) := by decide +kernel
theorem dX2_reckon_60 : decode cX2_reckon 60 = .ok (.iand, 1) := by decide +kernel
theorem dX2_reckon_61 : decode cX2_reckon 61 = .ok (.istore 6, 2) := by decide +kernel
theorem dX2_reckon_63 : decode cX2_reckon 63 = .ok (.iload 6, 2) := by decide +kernel
theorem dX2_reckon_65 : decode cX2_reckon 65 = .ok (.iload_n 1, 1) := by decide +kernel
theorem dX2_reckon_66 : decode cX2_reckon 66 = .ok (.ldc 124, 2) := by decide +kernel
theorem dX2_reckon_68 : decode cX2_reckon 68 = .ok (.iand, 1) := by decide +kernel
theorem dX2_reckon_69 : decode cX2_reckon 69 = .ok (.ixor, 1) := by decide +kernel
theorem dX2_reckon_70 : decode cX2_reckon 70 = .ok (.istore 7, 2) := by decide +kernel
theorem dX2_reckon_72 : decode cX2_reckon 72 = .ok (.aload_n 0, 1) := by decide +kernel
theorem dX2_reckon_73 : decode cX2_reckon 73 = .ok (.getfield 84, 3) := by decide +kernel
theorem dX2_reckon_76 : decode cX2_reckon 76 = .ok (.iconst 3, 1) := by decide +kernel
theorem dX2_reckon_77 : decode cX2_reckon 77 = .ok (.if_icmp .ne 40, 3) := by decide +kernel
theorem dX2_reckon_8 : decode cX2_reckon 8 = .ok (.aload_n 0, 1) := by decide +kernel
theorem dX2_reckon_80 : decode cX2_reckon 80 = .ok (.aload_n 0, 1) := by decide +kernel
theorem dX2_reckon_81 : decode cX2_reckon 81 = .ok (.getfield 11, 3) := by decide +kernel
theorem dX2_reckon_84 : decode cX2_reckon 84 = .ok (.iconst 0, 1) := by decide +kernel
theorem dX2_reckon_85 : decode cX2_reckon 85 = .ok (.iload 7, 2) := by decide +kernel
theorem dX2_reckon_87 : decode cX2_reckon 87 = .ok (.lload_n 2, 1) := by decide +kernel
theorem dX2_reckon_88 : decode cX2_reckon 88 = .ok (.lload 4, 2) := by decide +kernel
theorem dX2_reckon_9 : decode cX2_reckon 9 = .ok (.iconst 0, 1) := by decide +kernel
theorem dX2_reckon_90 : decode cX2_reckon 90 = .ok (.lmul, 1) := by decide +kernel
theorem dX2_reckon_91 : decode cX2_reckon 91 = .ok (.bipush 30, 2) := by decide +kernel
theorem dX2_reckon_93 : decode cX2_reckon 93 = .ok (.lshr, 1) := by decide +kernel
theorem dX2_reckon_94 : decode cX2_reckon 94 = .ok (.l2i, 1) := by decide +kernel
theorem dX2_reckon_95 : decode cX2_reckon 95 = .ok (.ior, 1) := by decide +kernel
theorem dX2_reckon_96 : decode cX2_reckon 96 = .ok (.iastore, 1) := by decide +kernel
theorem dX2_reckon_97 : decode cX2_reckon 97 = .ok (.aload_n 0, 1) := by decide +kernel
theorem dX2_reckon_98 : decode cX2_reckon 98 = .ok (.getfield 11, 3) := by decide +kernel
set_option maxHeartbeats 4000000 in
set_option maxRecDepth 100000 in
theorem T_X2_reckon (l : Launch) (D : va_G) (K : Nat → ClassId) (Z Y : Nat → Nat) (ad : Nat → Nat) (d : dSt) (t : tSt) (hok : okX t) (x1 : Int32) (hx1 : (0 : Int) ≤ x1.toInt ∧ x1.toInt ≤ 2147483647) : tMet l yX2_reckon cX2_reckon 10 none (rmD 3 0 0) D K Z Y [.ref (ad 4), .int x1] ((WX d) K ad t) (QV D K (fun (u : tSt) => okX u ∧ frA [(4, 3)] [] [22] [] t u) (fun (u : tSt) => (WX d) K ad u)) 0 0 := by
  refine t_met RX2 ⟨rfl, by decide +kernel⟩ (Nat.le_of_ble_eq_true rfl) ?_
  intro p e s m below meth c A ls C hE hZ hr hlocks hA hP hD hS hl
  have hl : lv_has ls 10 [(0, .ref (ad 4)), (1, .int x1)] := hl
  have hokt := hok
  have hfr : frA [(4, 3)] [] [22] [] t t := frA_rf
  refine lv_aload_n C.1 C.2.1 dX2_reckon_0 rfl (lv_at hl 0 rfl) ?_
  have h_1 : (0 : Int) ≤ (t.1 4 13).toInt ∧ (t.1 4 13).toInt ≤ 63 := hok.1 4 13
  refine k_get (v := .int (t.1 4 13)) C hP 4 rfl rfl inlX2 13 (by decide) m_45_18 rfl dX2_reckon_1 ?_
  refine lv_iconst (v := 2) C.1 C.2.1 dX2_reckon_4 (by decide) ?_
  refine lv_icmp_gt (tgt := 34) C.1 C.2.1 dX2_reckon_5 (by decide) (fun c_2 => ?_) (fun c_2 => ?_)
  · replace c_2 : 2 < (t.1 4 13).toInt := i_lt c_2
    refine lv_aload_n C.1 C.2.1 dX2_reckon_34 rfl (lv_at hl 0 rfl) ?_
    refine k_get (v := .ref (ad 22)) C hP 4 rfl rfl inlX2 1 (by decide) m_4_16 rfl dX2_reckon_35 ?_
    refine lv_iconst (v := 0) C.1 C.2.1 dX2_reckon_38 (by decide) ?_
    obtain ⟨v_3, e_4⟩ : ∃ z, z = (t.2.2.1 22 (0 : Int32).toNatClampNeg) := ⟨_, rfl⟩
    refine k_ild (v := v_3) C hP 22 rfl (vin (by decide)) e_4.symm dX2_reckon_39 ?_
    refine lv_ldc (v := 1073741823) C.1 C.2.1 C.2.2.2.1 (C.2.2.2.2.1 _ m_48_22) dX2_reckon_40 ?_
    obtain ⟨v_5, e_6⟩ : ∃ z, z = (v_3 : Int32) &&& (1073741823 : Int32) := ⟨_, rfl⟩
    have h_7 : v_5.toInt = v_3.toInt % 2 ^ 30 := by rw [e_6]; exact Jvm.Kit.i32_mask _ _ (k := 30) (by decide) (by decide)
    refine k_iand (v := v_5) C e_6.symm dX2_reckon_42 ?_
    obtain ⟨v_8, e_9⟩ : ∃ z, z = (v_5 : Int32).toInt64 := ⟨_, rfl⟩
    have h_10 : v_8.toInt = v_5.toInt := by rw [e_9]; exact Jvm.Kit.i64_of_i32 _
    refine lv_i2l (v := v_8) C.1 C.2.1 dX2_reckon_43 e_9.symm ?_
    refine lv_lstore_n (lv' := [(2, .long v_8), (0, .ref (ad 4)), (1, .int x1)]) C.1 C.2.1 dX2_reckon_44 rfl hl (by decide) rfl (fun ls hl => ?_)
    have hl : lv_has ls 10 [(0, .ref (ad 4)), (1, .int x1), (2, .long v_8)] := lv_sub hl [1, 2, 0] rfl
    refine lv_iload_n C.1 C.2.1 dX2_reckon_45 rfl (lv_at hl 1 rfl) ?_
    refine lv_ldc (v := 1073741823) C.1 C.2.1 C.2.2.2.1 (C.2.2.2.2.1 _ m_48_22) dX2_reckon_46 ?_
    obtain ⟨v_11, e_12⟩ : ∃ z, z = (x1 : Int32) &&& (1073741823 : Int32) := ⟨_, rfl⟩
    have h_13 : v_11.toInt = x1.toInt % 2 ^ 30 := by rw [e_12]; exact Jvm.Kit.i32_mask _ _ (k := 30) (by decide) (by decide)
    refine k_iand (v := v_11) C e_12.symm dX2_reckon_48 ?_
    obtain ⟨v_14, e_15⟩ : ∃ z, z = (v_11 : Int32).toInt64 := ⟨_, rfl⟩
    have h_16 : v_14.toInt = v_11.toInt := by rw [e_15]; exact Jvm.Kit.i64_of_i32 _
    refine lv_i2l (v := v_14) C.1 C.2.1 dX2_reckon_49 e_15.symm ?_
    refine lv_lstore (lv' := [(4, .long v_14), (0, .ref (ad 4)), (1, .int x1), (2, .long v_8)]) C.1 C.2.1 dX2_reckon_50 hl (by decide) rfl (fun ls hl => ?_)
    have hl : lv_has ls 10 [(0, .ref (ad 4)), (1, .int x1), (2, .long v_8), (4, .long v_14)] := lv_sub hl [1, 2, 3, 0] rfl
    refine lv_aload_n C.1 C.2.1 dX2_reckon_52 rfl (lv_at hl 0 rfl) ?_
    refine k_get (v := .ref (ad 22)) C hP 4 rfl rfl inlX2 1 (by decide) m_4_16 rfl dX2_reckon_53 ?_
    refine lv_iconst (v := 0) C.1 C.2.1 dX2_reckon_56 (by decide) ?_
    obtain ⟨v_17, e_18⟩ : ∃ z, z = (t.2.2.1 22 (0 : Int32).toNatClampNeg) := ⟨_, rfl⟩
    refine k_ild (v := v_17) C hP 22 rfl (vin (by decide)) e_18.symm dX2_reckon_57 ?_
    refine lv_ldc (v := 1073741824) C.1 C.2.1 C.2.2.2.1 (C.2.2.2.2.1 _ m_47_11) dX2_reckon_58 ?_
    obtain ⟨v_19, e_20⟩ : ∃ z, z = (v_17 : Int32) &&& (1073741824 : Int32) := ⟨_, rfl⟩
    have h_21 : (0 : Int) ≤ v_19.toInt ∧ v_19.toInt ≤ 1073741824 := by rw [e_20]; exact z_and _ (k := 1073741824) (by decide) (by decide)
    refine k_iand (v := v_19) C e_20.symm dX2_reckon_60 ?_
    refine lv_istore (lv' := [(6, .int v_19), (0, .ref (ad 4)), (1, .int x1), (2, .long v_8), (4, .long v_14)]) C.1 C.2.1 dX2_reckon_61 hl (by decide) rfl (fun ls hl => ?_)
    have hl : lv_has ls 10 [(0, .ref (ad 4)), (1, .int x1), (2, .long v_8), (4, .long v_14), (6, .int v_19)] := lv_sub hl [1, 2, 3, 4, 0] rfl
    refine lv_iload C.1 C.2.1 dX2_reckon_63 (lv_at hl 4 rfl) ?_
    refine lv_iload_n C.1 C.2.1 dX2_reckon_65 rfl (lv_at hl 1 rfl) ?_
    refine lv_ldc (v := 1073741824) C.1 C.2.1 C.2.2.2.1 (C.2.2.2.2.1 _ m_47_11) dX2_reckon_66 ?_
    obtain ⟨v_22, e_23⟩ : ∃ z, z = (x1 : Int32) &&& (1073741824 : Int32) := ⟨_, rfl⟩
    have h_24 : (0 : Int) ≤ v_22.toInt ∧ v_22.toInt ≤ 1073741824 := by rw [e_23]; exact z_and _ (k := 1073741824) (by decide) (by decide)
    refine k_iand (v := v_22) C e_23.symm dX2_reckon_68 ?_
    obtain ⟨v_25, e_26⟩ : ∃ z, z = (v_19 : Int32) ^^^ (v_22 : Int32) := ⟨_, rfl⟩
    have h_27 : (0 : Int) ≤ v_25.toInt ∧ v_25.toInt ≤ 2147483647 := by rw [e_26]; exact z_xor (k := 31) (by decide) (by show (0 : Int) ≤ v_19.toInt; omega) (by show v_19.toInt < (_ : Int); omega) (by show (0 : Int) ≤ v_22.toInt; omega) (by show v_22.toInt < (_ : Int); omega)
    refine k_ixor (v := v_25) C e_26.symm dX2_reckon_69 ?_
    refine lv_istore (lv' := [(7, .int v_25), (0, .ref (ad 4)), (1, .int x1), (2, .long v_8), (4, .long v_14), (6, .int v_19)]) C.1 C.2.1 dX2_reckon_70 hl (by decide) rfl (fun ls hl => ?_)
    have hl : lv_has ls 10 [(0, .ref (ad 4)), (1, .int x1), (2, .long v_8), (4, .long v_14), (6, .int v_19), (7, .int v_25)] := lv_sub hl [1, 2, 3, 4, 5, 0] rfl
    refine lv_aload_n C.1 C.2.1 dX2_reckon_72 rfl (lv_at hl 0 rfl) ?_
    refine k_get (v := .int (t.1 4 13)) C hP 4 rfl rfl inlX2 13 (by decide) m_45_18 rfl dX2_reckon_73 ?_
    refine lv_iconst (v := 3) C.1 C.2.1 dX2_reckon_76 (by decide) ?_
    refine lv_icmp_ne (tgt := 117) C.1 C.2.1 dX2_reckon_77 (by decide) (fun c_28 => ?_) (fun c_28 => ?_)
    · replace c_28 : ¬ (t.1 4 13).toInt = 3 := i_ne c_28
      refine lv_lload C.1 C.2.1 dX2_reckon_117 (lv_at hl 3 rfl) ?_
      refine lv_lconst (v := 0) C.1 C.2.1 dX2_reckon_119 (by decide) ?_
      obtain ⟨v_29, e_30⟩ : ∃ z, z = lg_cmp (v_14 : Int64) 0 := ⟨_, rfl⟩
      have h_31 : (-1 : Int) ≤ v_29.toInt ∧ v_29.toInt ≤ 1 := by rw [e_30]; exact cmp_rng _ _
      have h_32 : (v_29.toInt < 0 ↔ v_14.toInt < 0) ∧ (v_29.toInt = 0 ↔ v_14.toInt = 0) := by rw [e_30]; exact cmp_iff _ _
      refine k_lcmp (v := v_29) C e_30.symm dX2_reckon_120 ?_
      refine lv_if_eq (tgt := 131) C.1 C.2.1 dX2_reckon_121 (by decide) (fun c_33 => ?_) (fun c_33 => ?_)
      · replace c_33 : v_29.toInt = 0 := i_eq c_33
        refine lv_aload_n C.1 C.2.1 dX2_reckon_131 rfl (lv_at hl 0 rfl) ?_
        refine lv_iconst (v := 1) C.1 C.2.1 dX2_reckon_132 (by decide) ?_
        refine k_put (ws' := (WX d) K ad (uI t 4 3 1)) (v := .int 1) C hP hD hS 4 rfl rfl inlX2 tyX2_ok nmX2 3 (by decide) m_11_4 rfl (by decide) (by decide) rfl rfl dX2_reckon_133 (fun H locs hP hD hS => ?_)
        have hok : okX (uI t 4 3 1) := ⟨okI_I hok.1 4 3 1 (show (0 : Int) ≤ (1 : Int32).toInt ∧ (1 : Int32).toInt ≤ 1 from ⟨by decide, by decide⟩), hok.2.1, trivial⟩
        have hfr : frA [(4, 3)] [] [22] [] t (uI t 4 3 1) := frA_I hfr 4 3 _ rfl
        exact g_vret C hr hlocks hP hD hS (uI t 4 3 1) rfl ⟨hok, hfr⟩ (Nat.le_of_ble_eq_true rfl) (Nat.le_of_ble_eq_true rfl) dX2_reckon_136
      · replace c_33 : ¬ v_29.toInt = 0 := i_ne c_33
        refine lv_lload_n C.1 C.2.1 dX2_reckon_124 rfl (lv_at hl 2 rfl) ?_
        refine lv_lload C.1 C.2.1 dX2_reckon_125 (lv_at hl 3 rfl) ?_
        obtain ⟨v_34, e_35⟩ : ∃ z, z = lg_cmp (v_8 : Int64) v_14 := ⟨_, rfl⟩
        have h_36 : (-1 : Int) ≤ v_34.toInt ∧ v_34.toInt ≤ 1 := by rw [e_35]; exact cmp_rng _ _
        have h_37 : (v_34.toInt < 0 ↔ v_8.toInt < v_14.toInt) ∧ (v_34.toInt = 0 ↔ v_8.toInt = v_14.toInt) := by rw [e_35]; exact cmp_iff _ _
        refine k_lcmp (v := v_34) C e_35.symm dX2_reckon_127 ?_
        refine lv_if_lt (tgt := 137) C.1 C.2.1 dX2_reckon_128 (by decide) (fun c_38 => ?_) (fun c_38 => ?_)
        · replace c_38 : v_34.toInt < 0 := i_lt c_38
          refine lv_lload_n C.1 C.2.1 dX2_reckon_137 rfl (lv_at hl 2 rfl) ?_
          refine lv_bipush (v := 30) C.1 C.2.1 dX2_reckon_138 (by decide) ?_
          obtain ⟨v_39, e_40⟩ : ∃ z, z = (v_8 : Int64) <<< ((30 : Int32).toInt64 &&& 63) := ⟨_, rfl⟩
          refine lv_lshl (v := v_39) C.1 C.2.1 dX2_reckon_140 e_40.symm ?_
          refine lv_aload_n C.1 C.2.1 dX2_reckon_141 rfl (lv_at hl 0 rfl) ?_
          refine k_get (v := .ref (ad 22)) C hP 4 rfl rfl inlX2 1 (by decide) m_4_16 rfl dX2_reckon_142 ?_
          refine lv_bipush (v := 7) C.1 C.2.1 dX2_reckon_145 (by decide) ?_
          obtain ⟨v_41, e_42⟩ : ∃ z, z = (t.2.2.1 22 (7 : Int32).toNatClampNeg) := ⟨_, rfl⟩
          refine k_ild (v := v_41) C hP 22 rfl (vin (by decide)) e_42.symm dX2_reckon_147 ?_
          refine lv_ldc (v := 1073741823) C.1 C.2.1 C.2.2.2.1 (C.2.2.2.2.1 _ m_48_22) dX2_reckon_148 ?_
          obtain ⟨v_43, e_44⟩ : ∃ z, z = (v_41 : Int32) &&& (1073741823 : Int32) := ⟨_, rfl⟩
          have h_45 : v_43.toInt = v_41.toInt % 2 ^ 30 := by rw [e_44]; exact Jvm.Kit.i32_mask _ _ (k := 30) (by decide) (by decide)
          refine k_iand (v := v_43) C e_44.symm dX2_reckon_150 ?_
          obtain ⟨v_46, e_47⟩ : ∃ z, z = (v_43 : Int32).toInt64 := ⟨_, rfl⟩
          have h_48 : v_46.toInt = v_43.toInt := by rw [e_47]; exact Jvm.Kit.i64_of_i32 _
          refine lv_i2l (v := v_46) C.1 C.2.1 dX2_reckon_151 e_47.symm ?_
          obtain ⟨v_49, e_50⟩ : ∃ z, z = (v_39 : Int64) ||| v_46 := ⟨_, rfl⟩
          refine lw_lor (v := v_49) C.1 C.2.1 dX2_reckon_152 e_50.symm ?_
          refine lv_lstore (lv' := [(8, .long v_49), (0, .ref (ad 4)), (1, .int x1), (2, .long v_8), (4, .long v_14), (6, .int v_19), (7, .int v_25)]) C.1 C.2.1 dX2_reckon_153 hl (by decide) rfl (fun ls hl => ?_)
          have hl : lv_has ls 10 [(0, .ref (ad 4)), (1, .int x1), (2, .long v_8), (4, .long v_14), (6, .int v_19), (7, .int v_25), (8, .long v_49)] := lv_sub hl [1, 2, 3, 4, 5, 6, 0] rfl
          refine lv_aload_n C.1 C.2.1 dX2_reckon_155 rfl (lv_at hl 0 rfl) ?_
          refine k_get (v := .ref (ad 22)) C hP 4 rfl rfl inlX2 1 (by decide) m_4_16 rfl dX2_reckon_156 ?_
          refine lv_iconst (v := 0) C.1 C.2.1 dX2_reckon_159 (by decide) ?_
          refine lv_iload C.1 C.2.1 dX2_reckon_160 (lv_at hl 5 rfl) ?_
          refine lv_lload C.1 C.2.1 dX2_reckon_162 (lv_at hl 6 rfl) ?_
          refine lv_lload C.1 C.2.1 dX2_reckon_164 (lv_at hl 3 rfl) ?_
          obtain ⟨v_51, e_52⟩ : ∃ z, z = (v_49 : Int64) / (v_14 : Int64) := ⟨_, rfl⟩
          refine k_ldiv (v := v_51) C (show ¬ (v_14 : Int64) = 0 from fun hz => by have hz2 : (v_14 : Int64).toInt = 0 := (by rw [hz]; rfl); omega) e_52.symm dX2_reckon_166 ?_
          obtain ⟨v_53, e_54⟩ : ∃ z, z = (v_51).toInt32 := ⟨_, rfl⟩
          have h_55 : -2147483648 ≤ v_51.toInt → v_51.toInt < 2147483648 → v_53.toInt = v_51.toInt := by rw [e_54]; exact fun h1 h2 => Jvm.Kit.i32_of_i64 h1 h2
          refine lv_l2i (v := v_53) C.1 C.2.1 dX2_reckon_167 e_54.symm ?_
          obtain ⟨v_56, e_57⟩ : ∃ z, z = (v_25 : Int32) ||| (v_53 : Int32) := ⟨_, rfl⟩
          refine k_ior (v := v_56) C e_57.symm dX2_reckon_168 ?_
          refine k_ist (ws' := (WX d) K ad (uB t 22 (0 : Int32).toNatClampNeg v_56)) (x' := v_56) C hP hD hS 22 rfl (vin (by decide)) rfl rfl rfl dX2_reckon_169 (fun H locs hP hD hS => ?_)
          have hok : okX (uB t 22 (0 : Int32).toNatClampNeg v_56) := ⟨hok.1, okB_B hok.2.1 22 _ v_56 (show (-2147483648 : Int) ≤ (v_56 : Int32).toInt ∧ (v_56 : Int32).toInt ≤ 2147483647 from (i_rng _)), trivial⟩
          have hfr : frA [(4, 3)] [] [22] [] t (uB t 22 (0 : Int32).toNatClampNeg v_56) := frA_B hfr 22 _ _ rfl
          refine lv_aload_n C.1 C.2.1 dX2_reckon_170 rfl (lv_at hl 0 rfl) ?_
          refine k_get (v := .ref (ad 22)) C hP 4 rfl rfl inlX2 1 (by decide) m_4_16 rfl dX2_reckon_171 ?_
          refine lv_bipush (v := 7) C.1 C.2.1 dX2_reckon_174 (by decide) ?_
          refine lv_iload C.1 C.2.1 dX2_reckon_176 (lv_at hl 4 rfl) ?_
          refine lv_lload C.1 C.2.1 dX2_reckon_178 (lv_at hl 6 rfl) ?_
          refine lv_lload C.1 C.2.1 dX2_reckon_180 (lv_at hl 3 rfl) ?_
          obtain ⟨v_59, e_60⟩ : ∃ z, z = (v_49 : Int64) - (v_49 : Int64) / (v_14 : Int64) * (v_14 : Int64) := ⟨_, rfl⟩
          refine k_lrem (v := v_59) C (show ¬ (v_14 : Int64) = 0 from fun hz => by have hz2 : (v_14 : Int64).toInt = 0 := (by rw [hz]; rfl); omega) e_60.symm dX2_reckon_182 ?_
          obtain ⟨v_61, e_62⟩ : ∃ z, z = (v_59).toInt32 := ⟨_, rfl⟩
          have h_63 : -2147483648 ≤ v_59.toInt → v_59.toInt < 2147483648 → v_61.toInt = v_59.toInt := by rw [e_62]; exact fun h1 h2 => Jvm.Kit.i32_of_i64 h1 h2
          refine lv_l2i (v := v_61) C.1 C.2.1 dX2_reckon_183 e_62.symm ?_
          obtain ⟨v_64, e_65⟩ : ∃ z, z = (v_19 : Int32) ||| (v_61 : Int32) := ⟨_, rfl⟩
          refine k_ior (v := v_64) C e_65.symm dX2_reckon_184 ?_
          obtain ⟨t_67, e_68⟩ : ∃ z, z = (uB t 22 (0 : Int32).toNatClampNeg v_56) := ⟨_, rfl⟩
          rw [← e_68] at hP hD hok hfr
          have h_69 : (t_67.1 4 13).toInt = ((t.1 4 13) : Int32).toInt := by rw [e_68]; rfl
          refine k_ist (ws' := (WX d) K ad (uB t_67 22 (7 : Int32).toNatClampNeg v_64)) (x' := v_64) C hP hD hS 22 rfl (vin (by decide)) rfl rfl rfl dX2_reckon_185 (fun H locs hP hD hS => ?_)
          have hok : okX (uB t_67 22 (7 : Int32).toNatClampNeg v_64) := ⟨hok.1, okB_B hok.2.1 22 _ v_64 (show (-2147483648 : Int) ≤ (v_64 : Int32).toInt ∧ (v_64 : Int32).toInt ≤ 2147483647 from (i_rng _)), trivial⟩
          have hfr : frA [(4, 3)] [] [22] [] t (uB t_67 22 (7 : Int32).toNatClampNeg v_64) := frA_B hfr 22 _ _ rfl
          exact g_vret C hr hlocks hP hD hS (uB t_67 22 (7 : Int32).toNatClampNeg v_64) rfl ⟨hok, hfr⟩ (Nat.le_of_ble_eq_true rfl) (Nat.le_of_ble_eq_true rfl) dX2_reckon_186
        · replace c_38 : 0 ≤ v_34.toInt := i_nlt c_38
          refine lv_aload_n C.1 C.2.1 dX2_reckon_131 rfl (lv_at hl 0 rfl) ?_
          refine lv_iconst (v := 1) C.1 C.2.1 dX2_reckon_132 (by decide) ?_
          refine k_put (ws' := (WX d) K ad (uI t 4 3 1)) (v := .int 1) C hP hD hS 4 rfl rfl inlX2 tyX2_ok nmX2 3 (by decide) m_11_4 rfl (by decide) (by decide) rfl rfl dX2_reckon_133 (fun H locs hP hD hS => ?_)
          have hok : okX (uI t 4 3 1) := ⟨okI_I hok.1 4 3 1 (show (0 : Int) ≤ (1 : Int32).toInt ∧ (1 : Int32).toInt ≤ 1 from ⟨by decide, by decide⟩), hok.2.1, trivial⟩
          have hfr : frA [(4, 3)] [] [22] [] t (uI t 4 3 1) := frA_I hfr 4 3 _ rfl
          exact g_vret C hr hlocks hP hD hS (uI t 4 3 1) rfl ⟨hok, hfr⟩ (Nat.le_of_ble_eq_true rfl) (Nat.le_of_ble_eq_true rfl) dX2_reckon_136
    · replace c_28 : (t.1 4 13).toInt = 3 := i_eq c_28
      refine lv_aload_n C.1 C.2.1 dX2_reckon_80 rfl (lv_at hl 0 rfl) ?_
      refine k_get (v := .ref (ad 22)) C hP 4 rfl rfl inlX2 1 (by decide) m_4_16 rfl dX2_reckon_81 ?_
      refine lv_iconst (v := 0) C.1 C.2.1 dX2_reckon_84 (by decide) ?_
      refine lv_iload C.1 C.2.1 dX2_reckon_85 (lv_at hl 5 rfl) ?_
      refine lv_lload_n C.1 C.2.1 dX2_reckon_87 rfl (lv_at hl 2 rfl) ?_
      refine lv_lload C.1 C.2.1 dX2_reckon_88 (lv_at hl 3 rfl) ?_
      obtain ⟨v_70, e_71⟩ : ∃ z, z = (v_8 : Int64) * (v_14 : Int64) := ⟨_, rfl⟩
      refine k_lmul (v := v_70) C e_71.symm dX2_reckon_90 ?_
      refine lv_bipush (v := 30) C.1 C.2.1 dX2_reckon_91 (by decide) ?_
      obtain ⟨v_72, e_73⟩ : ∃ z, z = (v_70 : Int64) >>> ((30 : Int32).toInt64 &&& 63) := ⟨_, rfl⟩
      refine lv_lshr (v := v_72) C.1 C.2.1 dX2_reckon_93 e_73.symm ?_
      obtain ⟨v_74, e_75⟩ : ∃ z, z = (v_72).toInt32 := ⟨_, rfl⟩
      have h_76 : -2147483648 ≤ v_72.toInt → v_72.toInt < 2147483648 → v_74.toInt = v_72.toInt := by rw [e_75]; exact fun h1 h2 => Jvm.Kit.i32_of_i64 h1 h2
      refine lv_l2i (v := v_74) C.1 C.2.1 dX2_reckon_94 e_75.symm ?_
      obtain ⟨v_77, e_78⟩ : ∃ z, z = (v_25 : Int32) ||| (v_74 : Int32) := ⟨_, rfl⟩
      refine k_ior (v := v_77) C e_78.symm dX2_reckon_95 ?_
      refine k_ist (ws' := (WX d) K ad (uB t 22 (0 : Int32).toNatClampNeg v_77)) (x' := v_77) C hP hD hS 22 rfl (vin (by decide)) rfl rfl rfl dX2_reckon_96 (fun H locs hP hD hS => ?_)
      have hok : okX (uB t 22 (0 : Int32).toNatClampNeg v_77) := ⟨hok.1, okB_B hok.2.1 22 _ v_77 (show (-2147483648 : Int) ≤ (v_77 : Int32).toInt ∧ (v_77 : Int32).toInt ≤ 2147483647 from (i_rng _)), trivial⟩
      have hfr : frA [(4, 3)] [] [22] [] t (uB t 22 (0 : Int32).toNatClampNeg v_77) := frA_B hfr 22 _ _ rfl
      refine lv_aload_n C.1 C.2.1 dX2_reckon_97 rfl (lv_at hl 0 rfl) ?_
      refine k_get (v := .ref (ad 22)) C hP 4 rfl rfl inlX2 1 (by decide) m_4_16 rfl dX2_reckon_98 ?_
      refine lv_bipush (v := 7) C.1 C.2.1 dX2_reckon_101 (by decide) ?_
      refine lv_iload C.1 C.2.1 dX2_reckon_103 (lv_at hl 5 rfl) ?_
      refine lv_lload_n C.1 C.2.1 dX2_reckon_105 rfl (lv_at hl 2 rfl) ?_
      refine lv_lload C.1 C.2.1 dX2_reckon_106 (lv_at hl 3 rfl) ?_
      obtain ⟨v_80, e_81⟩ : ∃ z, z = (v_8 : Int64) * (v_14 : Int64) := ⟨_, rfl⟩
      refine k_lmul (v := v_80) C e_81.symm dX2_reckon_108 ?_
      refine lv_ldc2 (v := 1073741823) C.1 C.2.1 C.2.2.2.1 (C.2.2.2.2.1 _ m_50_20) dX2_reckon_109 ?_
      obtain ⟨v_82, e_83⟩ : ∃ z, z = (v_80 : Int64) &&& 1073741823 := ⟨_, rfl⟩
      have h_84 : v_82.toInt = v_80.toInt % 2 ^ 30 := by rw [e_83]; exact Jvm.Kit.i64_mask _ _ (k := 30) (by decide) (by decide)
      refine lw_land (v := v_82) C.1 C.2.1 dX2_reckon_112 e_83.symm ?_
      obtain ⟨v_85, e_86⟩ : ∃ z, z = (v_82).toInt32 := ⟨_, rfl⟩
      have h_87 : v_85.toInt = v_82.toInt := by rw [e_86]; exact Jvm.Kit.i32_of_i64 (by show (_ : Int) ≤ v_82.toInt; omega) (by show v_82.toInt < (_ : Int); omega)
      refine lv_l2i (v := v_85) C.1 C.2.1 dX2_reckon_113 e_86.symm ?_
      obtain ⟨v_88, e_89⟩ : ∃ z, z = (v_25 : Int32) ||| (v_85 : Int32) := ⟨_, rfl⟩
      have h_90 : (0 : Int) ≤ v_88.toInt ∧ v_88.toInt ≤ 2147483647 := by rw [e_89]; exact z_or (k := 31) (by decide) (by show (0 : Int) ≤ v_25.toInt; omega) (by show v_25.toInt < (_ : Int); omega) (by show (0 : Int) ≤ v_85.toInt; omega) (by show v_85.toInt < (_ : Int); omega)
      refine k_ior (v := v_88) C e_89.symm dX2_reckon_114 ?_
      obtain ⟨t_91, e_92⟩ : ∃ z, z = (uB t 22 (0 : Int32).toNatClampNeg v_77) := ⟨_, rfl⟩
      rw [← e_92] at hP hD hok hfr
      have h_93 : (t_91.1 4 13).toInt = ((t.1 4 13) : Int32).toInt := by rw [e_92]; rfl
      refine k_ist (ws' := (WX d) K ad (uB t_91 22 (7 : Int32).toNatClampNeg v_88)) (x' := v_88) C hP hD hS 22 rfl (vin (by decide)) rfl rfl rfl dX2_reckon_115 (fun H locs hP hD hS => ?_)
      have hok : okX (uB t_91 22 (7 : Int32).toNatClampNeg v_88) := ⟨hok.1, okB_B hok.2.1 22 _ v_88 (show (-2147483648 : Int) ≤ (v_88 : Int32).toInt ∧ (v_88 : Int32).toInt ≤ 2147483647 from (i_rng _)), trivial⟩
      have hfr : frA [(4, 3)] [] [22] [] t (uB t_91 22 (7 : Int32).toNatClampNeg v_88) := frA_B hfr 22 _ _ rfl
      exact g_vret C hr hlocks hP hD hS (uB t_91 22 (7 : Int32).toNatClampNeg v_88) rfl ⟨hok, hfr⟩ (Nat.le_of_ble_eq_true rfl) (Nat.le_of_ble_eq_true rfl) dX2_reckon_116
  · replace c_2 : (t.1 4 13).toInt ≤ 2 := i_nlt c_2
    refine lv_aload_n C.1 C.2.1 dX2_reckon_8 rfl (lv_at hl 0 rfl) ?_
    refine lv_iconst (v := 0) C.1 C.2.1 dX2_reckon_9 (by decide) ?_
    refine lv_aload_n C.1 C.2.1 dX2_reckon_10 rfl (lv_at hl 0 rfl) ?_
    refine k_get (v := .int (t.1 4 13)) C hP 4 rfl rfl inlX2 13 (by decide) m_45_18 rfl dX2_reckon_11 ?_
    refine lv_iconst (v := 1) C.1 C.2.1 dX2_reckon_14 (by decide) ?_
    refine lv_icmp_ne (tgt := 25) C.1 C.2.1 dX2_reckon_15 (by decide) (fun c_94 => ?_) (fun c_94 => ?_)
    · replace c_94 : ¬ (t.1 4 13).toInt = 1 := i_ne c_94
      refine lv_iload_n C.1 C.2.1 dX2_reckon_25 rfl (lv_at hl 1 rfl) ?_
      refine g_Si (As := [.int x1]) (rest := [.int 0, .ref (ad 4)]) C hP hD hS hA (T_X1_value l D K Z Y ad d t hok (x1)) hE hZ (uwS m_47_19 m_23_9 m_14_2 m_23_10) (hdS 1 (by decide +kernel) rfl) ⟨Nat.le_of_ble_eq_true rfl, Nat.le_of_ble_eq_true rfl⟩ rfl rfl rfl hl.1 (Nat.le_of_ble_eq_true rfl) dX2_reckon_26 ⟨Nat.le_of_ble_eq_true rfl, Nat.le_of_ble_eq_true rfl⟩ (fun r_96 t_95 H locs hw hP hD hS => ?_)
      obtain ⟨h_98, h_99⟩ := hw
      obtain ⟨v_100, e_101⟩ : ∃ z, z = -(r_96 : Int32) := ⟨_, rfl⟩
      have h_102 : v_100.toInt = -r_96.toInt := by rw [e_101]; exact Jvm.Kit.i32_neg (by show ¬ r_96.toInt = (_ : Int); omega)
      refine k_ineg (v := v_100) C e_101.symm dX2_reckon_29 ?_
      refine g_Vv (As := [.int 0, .int v_100]) (rest := []) C hP hD hS hA (T_X2_add l D K Z Y ad d t hok 0 (show (0 : Int) ≤ (0 : Int32).toInt ∧ (0 : Int32).toInt ≤ 7 from ⟨by decide, by decide⟩) (v_100)) hE hZ (uwV m_50_21 m_50_22 m_50_23 m_1_23 m_51_0) (hdV 2 (by decide +kernel) rfl) ⟨Nat.le_of_ble_eq_true rfl, Nat.le_of_ble_eq_true rfl⟩ rfl rfl (ci := 1) (q0 := 4) rfl rfl rfl hl.1 (Nat.le_of_ble_eq_true rfl) dX2_reckon_30 ⟨Nat.le_of_ble_eq_true rfl, Nat.le_of_ble_eq_true rfl⟩ (fun t_103 H locs hw hP hD hS => ?_)
      obtain ⟨hok, f_105⟩ := hw
      have hfr : frA [(4, 3)] [] [22] [] t t_103 := frA_tr hfr f_105 rfl
      have h_106 : (t_103.1 4 13).toInt = (t.1 4 13).toInt := ti_eq (f_105.1 4 13 rfl)
      exact g_vret C hr hlocks hP hD hS t_103 rfl ⟨hok, hfr⟩ (Nat.le_of_ble_eq_true rfl) (Nat.le_of_ble_eq_true rfl) dX2_reckon_33
    · replace c_94 : (t.1 4 13).toInt = 1 := i_eq c_94
      refine lv_iload_n C.1 C.2.1 dX2_reckon_18 rfl (lv_at hl 1 rfl) ?_
      refine g_Si (As := [.int x1]) (rest := [.int 0, .ref (ad 4)]) C hP hD hS hA (T_X1_value l D K Z Y ad d t hok (x1)) hE hZ (uwS m_47_19 m_23_9 m_14_2 m_23_10) (hdS 1 (by decide +kernel) rfl) ⟨Nat.le_of_ble_eq_true rfl, Nat.le_of_ble_eq_true rfl⟩ rfl rfl rfl hl.1 (Nat.le_of_ble_eq_true rfl) dX2_reckon_19 ⟨Nat.le_of_ble_eq_true rfl, Nat.le_of_ble_eq_true rfl⟩ (fun r_108 t_107 H locs hw hP hD hS => ?_)
      obtain ⟨h_110, h_111⟩ := hw
      refine lv_goto (tgt := 30) C.1 C.2.1 dX2_reckon_22 (by decide) ?_
      refine g_Vv (As := [.int 0, .int r_108]) (rest := []) C hP hD hS hA (T_X2_add l D K Z Y ad d t hok 0 (show (0 : Int) ≤ (0 : Int32).toInt ∧ (0 : Int32).toInt ≤ 7 from ⟨by decide, by decide⟩) (r_108)) hE hZ (uwV m_50_21 m_50_22 m_50_23 m_1_23 m_51_0) (hdV 2 (by decide +kernel) rfl) ⟨Nat.le_of_ble_eq_true rfl, Nat.le_of_ble_eq_true rfl⟩ rfl rfl (ci := 1) (q0 := 4) rfl rfl rfl hl.1 (Nat.le_of_ble_eq_true rfl) dX2_reckon_30 ⟨Nat.le_of_ble_eq_true rfl, Nat.le_of_ble_eq_true rfl⟩ (fun t_112 H locs hw hP hD hS => ?_)
      obtain ⟨hok, f_114⟩ := hw
      have hfr : frA [(4, 3)] [] [22] [] t t_112 := frA_tr hfr f_114 rfl
      have h_115 : (t_112.1 4 13).toInt = (t.1 4 13).toInt := ti_eq (f_114.1 4 13 rfl)
      exact g_vret C hr hlocks hP hD hS t_112 rfl ⟨hok, hfr⟩ (Nat.le_of_ble_eq_true rfl) (Nat.le_of_ble_eq_true rfl) dX2_reckon_33

theorem dX10_busyFor_0 : decode cX10_busyFor 0 = .ok (.iload_n 0, 1) := by decide +kernel
theorem dX10_busyFor_1 : decode cX10_busyFor 1 = .ok (.bipush 16, 2) := by decide +kernel
theorem dX10_busyFor_12 : decode cX10_busyFor 12 = .ok (.sipush 500, 3) := by decide +kernel
theorem dX10_busyFor_15 : decode cX10_busyFor 15 = .ok (.goto 6, 3) := by decide +kernel
theorem dX10_busyFor_18 : decode cX10_busyFor 18 = .ok (.sipush 400, 3) := by decide +kernel
theorem dX10_busyFor_21 : decode cX10_busyFor 21 = .ok (.ireturn, 1) := by decide +kernel
theorem dX10_busyFor_22 : decode cX10_busyFor 22 = .ok (.iload_n 0, 1) := by decide +kernel
theorem dX10_busyFor_23 : decode cX10_busyFor 23 = .ok (.bipush 16, 2) := by decide +kernel
theorem dX10_busyFor_25 : decode cX10_busyFor 25 = .ok (.if_icmp .ne 7, 3) := by decide +kernel
theorem dX10_busyFor_28 : decode cX10_busyFor 28 = .ok (.sipush 1000, 3) := by decide +kernel
theorem dX10_busyFor_3 : decode cX10_busyFor 3 = .ok (.if_icmp .ge 19, 3) := by decide +kernel
theorem dX10_busyFor_31 : decode cX10_busyFor 31 = .ok (.ireturn, 1) := by decide +kernel
theorem dX10_busyFor_32 : decode cX10_busyFor 32 = .ok (.iload_n 0, 1) := by decide +kernel
theorem dX10_busyFor_33 : decode cX10_busyFor 33 = .ok (.bipush 17, 2) := by decide +kernel
theorem dX10_busyFor_35 : decode cX10_busyFor 35 = .ok (.if_icmp .ne 7, 3) := by decide +kernel
theorem dX10_busyFor_38 : decode cX10_busyFor 38 = .ok (.sipush 1500, 3) := by decide +kernel
theorem dX10_busyFor_41 : decode cX10_busyFor 41 = .ok (.ireturn, 1) := by decide +kernel
theorem dX10_busyFor_42 : decode cX10_busyFor 42 = .ok (.iload_n 0, 1) := by decide +kernel
theorem dX10_busyFor_43 : decode cX10_busyFor 43 = .ok (.bipush 18, 2) := by decide +kernel
theorem dX10_busyFor_45 : decode cX10_busyFor 45 = .ok (.if_icmp .ne 9, 3) := by decide +kernel
theorem dX10_busyFor_48 : decode cX10_busyFor 48 = .ok (.sipush 750, 3) := by decide +kernel
theorem dX10_busyFor_51 : decode cX10_busyFor 51 = .ok (.goto 6, 3) := by decide +kernel
theorem dX10_busyFor_54 : decode cX10_busyFor 54 = .ok (.sipush 900, 3) := by decide +kernel
theorem dX10_busyFor_57 : decode cX10_busyFor 57 = .ok (.ireturn, 1) := by decide +kernel
theorem dX10_busyFor_6 : decode cX10_busyFor 6 = .ok (.iload_n 0, 1) := by decide +kernel
theorem dX10_busyFor_7 : decode cX10_busyFor 7 = .ok (.bipush 8, 2) := by decide +kernel
theorem dX10_busyFor_9 : decode cX10_busyFor 9 = .ok (.if_icmp .ge 9, 3) := by decide +kernel
set_option maxHeartbeats 4000000 in
set_option maxRecDepth 100000 in
theorem T_X10_busyFor (l : Launch) (D : va_G) (K : Nat → ClassId) (Z Y : Nat → Nat) (ad : Nat → Nat) (d : dSt) (t : tSt) (hok : okX t) (x0 : Int32) (hx0 : (0 : Int) ≤ x0.toInt ∧ x0.toInt ≤ 19) : tMet l yX10_busyFor cX10_busyFor 1 (some .int) (rmD 0 0 0) D K Z Y [.int x0] ((WX d) K ad t) (QI D K (fun (r : Int32) (u : Unit) => (400 : Int) ≤ r.toInt ∧ r.toInt ≤ 3999) (fun (_ : Unit) => (WX d) K ad t)) 0 0 := by
  refine t_met RX10 ⟨rfl, by decide +kernel⟩ (Nat.le_of_ble_eq_true rfl) ?_
  intro p e s m below meth c A ls C hE hZ hr hlocks hA hP hD hS hl
  have hl : lv_has ls 1 [(0, .int x0)] := hl
  refine lv_iload_n C.1 C.2.1 dX10_busyFor_0 rfl (lv_at hl 0 rfl) ?_
  refine lv_bipush (v := 16) C.1 C.2.1 dX10_busyFor_1 (by decide) ?_
  refine lv_icmp_ge (tgt := 22) C.1 C.2.1 dX10_busyFor_3 (by decide) (fun c_1 => ?_) (fun c_1 => ?_)
  · replace c_1 : 16 ≤ x0.toInt := i_le c_1
    refine lv_iload_n C.1 C.2.1 dX10_busyFor_22 rfl (lv_at hl 0 rfl) ?_
    refine lv_bipush (v := 16) C.1 C.2.1 dX10_busyFor_23 (by decide) ?_
    refine lv_icmp_ne (tgt := 32) C.1 C.2.1 dX10_busyFor_25 (by decide) (fun c_2 => ?_) (fun c_2 => ?_)
    · replace c_2 : ¬ x0.toInt = 16 := i_ne c_2
      refine lv_iload_n C.1 C.2.1 dX10_busyFor_32 rfl (lv_at hl 0 rfl) ?_
      refine lv_bipush (v := 17) C.1 C.2.1 dX10_busyFor_33 (by decide) ?_
      refine lv_icmp_ne (tgt := 42) C.1 C.2.1 dX10_busyFor_35 (by decide) (fun c_3 => ?_) (fun c_3 => ?_)
      · replace c_3 : ¬ x0.toInt = 17 := i_ne c_3
        refine lv_iload_n C.1 C.2.1 dX10_busyFor_42 rfl (lv_at hl 0 rfl) ?_
        refine lv_bipush (v := 18) C.1 C.2.1 dX10_busyFor_43 (by decide) ?_
        refine lv_icmp_ne (tgt := 54) C.1 C.2.1 dX10_busyFor_45 (by decide) (fun c_4 => ?_) (fun c_4 => ?_)
        · replace c_4 : ¬ x0.toInt = 18 := i_ne c_4
          refine lv_sipush (v := 900) C.1 C.2.1 dX10_busyFor_54 (by decide) ?_
          exact g_iret C hr hlocks hP hD hS rfl () rfl ⟨by decide, by decide⟩ (Nat.le_of_ble_eq_true rfl) (Nat.le_of_ble_eq_true rfl) dX10_busyFor_57
        · replace c_4 : x0.toInt = 18 := i_eq c_4
          refine lv_sipush (v := 750) C.1 C.2.1 dX10_busyFor_48 (by decide) ?_
          refine lv_goto (tgt := 57) C.1 C.2.1 dX10_busyFor_51 (by decide) ?_
          exact g_iret C hr hlocks hP hD hS rfl () rfl ⟨by decide, by decide⟩ (Nat.le_of_ble_eq_true rfl) (Nat.le_of_ble_eq_true rfl) dX10_busyFor_57
      · replace c_3 : x0.toInt = 17 := i_eq c_3
        refine lv_sipush (v := 1500) C.1 C.2.1 dX10_busyFor_38 (by decide) ?_
        exact g_iret C hr hlocks hP hD hS rfl () rfl ⟨by decide, by decide⟩ (Nat.le_of_ble_eq_true rfl) (Nat.le_of_ble_eq_true rfl) dX10_busyFor_41
    · replace c_2 : x0.toInt = 16 := i_eq c_2
      refine lv_sipush (v := 1000) C.1 C.2.1 dX10_busyFor_28 (by decide) ?_
      exact g_iret C hr hlocks hP hD hS rfl () rfl ⟨by decide, by decide⟩ (Nat.le_of_ble_eq_true rfl) (Nat.le_of_ble_eq_true rfl) dX10_busyFor_31
  · replace c_1 : x0.toInt < 16 := i_nle c_1
    refine lv_iload_n C.1 C.2.1 dX10_busyFor_6 rfl (lv_at hl 0 rfl) ?_
    refine lv_bipush (v := 8) C.1 C.2.1 dX10_busyFor_7 (by decide) ?_
    refine lv_icmp_ge (tgt := 18) C.1 C.2.1 dX10_busyFor_9 (by decide) (fun c_5 => ?_) (fun c_5 => ?_)
    · replace c_5 : 8 ≤ x0.toInt := i_le c_5
      refine lv_sipush (v := 400) C.1 C.2.1 dX10_busyFor_18 (by decide) ?_
      exact g_iret C hr hlocks hP hD hS rfl () rfl ⟨by decide, by decide⟩ (Nat.le_of_ble_eq_true rfl) (Nat.le_of_ble_eq_true rfl) dX10_busyFor_21
    · replace c_5 : x0.toInt < 8 := i_nle c_5
      refine lv_sipush (v := 500) C.1 C.2.1 dX10_busyFor_12 (by decide) ?_
      refine lv_goto (tgt := 21) C.1 C.2.1 dX10_busyFor_15 (by decide) ?_
      exact g_iret C hr hlocks hP hD hS rfl () rfl ⟨by decide, by decide⟩ (Nat.le_of_ble_eq_true rfl) (Nat.le_of_ble_eq_true rfl) dX10_busyFor_21
